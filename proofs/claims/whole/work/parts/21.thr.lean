set_option maxHeartbeats 4000000 in
set_option maxRecDepth 100000 in
theorem kB_level_none (l : Launch) (hl9 : l.stackTraces = false) (D : va_G) (cI cT : ClassId) (x0 tx ta : Nat) (n c9 : Int32) (t9 : Int32) (hno : t9 < 0 ∨ c9 ≤ t9) (sp : Int64) (ar : Int32) : vx_Met l yB_level wB_level ({ frames := 6, cells := 1, slots := 6, locals := 90 }) (th_P [.ref x0, .int t9, .long sp, .int ar] D [(cI, .int), (cT, .object "TextureBank$Texture")] [(x0, .inr (1, [.ref tx, .int n, .ref ta, .int c9]))]) th_Q (th_X "java/util/NoSuchElementException") 1 6 (fun _ => False) := by
  refine vx_ofW (cc := cB_level) (maxL := 6) (ret := (some .int)) (by decide) rfl ?_
  intro p e s m args below meth c s₁ B hml hno9 hv
  obtain ⟨rfl, hC, hP, hK, hT, hZ⟩ := hv
  have hx := B.exec
  have hb := B.bytes
  have hr := B.returns
  have hB : ∀ w ∈ tbB, w.before _ s = true := fun w h => (atoms_spec (ws := wB_level) B.pre) w (List.mem_cons_of_mem _ h)
  have hown : s.vm.findClass "TextureBank" = some m.cls := findClass_of_methodNamed B.named
  have hlocks := B.notSynchronized
  have hl := lv_entry ([.ref x0, .int t9, .long sp, .int ar]) (n := 6) (Nat.le_of_ble_eq_true rfl)
  rw [lg_entry_eq]
  generalize (lg_sl ([.ref x0, .int t9, .long sp, .int ar]) ++ List.replicate (6 - (lg_sl ([.ref x0, .int t9, .long sp, .int ar])).length) Slot.unset).toArray = ls at hl ⊢
  have hl : lv_has ls 6 [(0, .ref x0), (1, .int t9), (2, .long sp), (4, .int ar)] := hl
  refine lv_aload_n hx hb dB_level_0 rfl (lv_at hl 0 rfl) ?_
  refine lv_iload_n hx hb dB_level_1 rfl (lv_at hl 1 rfl) ?_
  refine W.callV (W.runV (C := "TextureBank") (As := [.int t9]) (rest := []) ⟨hx, hb, hml, hown, hB⟩ (kB_find_none l D cI cT x0 tx ta n c9 t9 hno) ⟨callB_of 1 hB gwB_find rfl rfl rfl (hB _ wd_1) (hB _ wd_131) ydB_find ⟨Nat.le_of_ble_eq_true rfl, Nat.le_of_ble_eq_true rfl⟩, hB _ wd_133, hB _ ws_4⟩ (rd_V hC (hP.sub [0] rfl) (hK.sub [0, 1] rfl) (va_recv hK hP (ci := 1) (q0 := 0) rfl rfl)) rfl rfl hl.1 rfl (lv_room (Nat.le_of_ble_eq_true rfl)) dB_level_2 ⟨Nat.zero_le _, Nat.zero_le _⟩) ?_
  refine W.eq (g2 := F0 m 5 ls [.null]) rfl ?_
  refine lv_astoreN (lv' := [(5, .null), (0, .ref x0), (1, .int t9), (2, .long sp), (4, .int ar)]) hx hb dB_level_5 hl (by decide) rfl (fun ls hl => ?_)
  refine lv_aloadN hx hb dB_level_7 (lv_at hl 0 rfl) ?_
  refine lv_ifnonnullN hx hb dB_level_9 ?_
  obtain ⟨sa9, hsa9⟩ := hT.2.2.2.2.2.1
  exact tw_throwS (names := ["java/lang/Exception"]) (Y9 := "java/lang/RuntimeException") hx hb hl9 hown (by decide +kernel) (by decide +kernel) (by decide +kernel) tw_ns_0 tw_ns_1 tw_ns_2 tw_ns_5 (hB _ wd_148) (hB _ wd_10) hsa9 (tw_nsat hB hT) tw_ns_ok hZ.1 hZ.2 va_S.rf (by rw [hml]; exact hl.1) dB_level_12 dB_level_15 dB_level_16 dB_level_18 dB_level_21 (fun x9 h9 => (hno9 x9 h9).elim) (Nat.le_of_ble_eq_true rfl) (Nat.le_of_ble_eq_true rfl) (Nat.le_of_ble_eq_true rfl) (Nat.le_of_ble_eq_true rfl) hlocks (fun t h1 h2 h3 => ⟨(), trivial, rfl, h2, fun q hq _ => h3 q hq⟩) (fun q hq => nomatch hq) (Nat.le_refl _) (Nat.le_refl _)

set_option maxHeartbeats 4000000 in
set_option maxRecDepth 100000 in
theorem kB_level_bad (l : Launch) (hl9 : l.stackTraces = false) (D : va_G) (cI cT : ClassId) (x0 tx ta : Nat) (n : Int32) (cN : Nat) (tq cq : Nat → Nat) (j : Nat) (hcN : cN ≤ 8) (hj : j < cN) (sd wr sf lv : Int32) (g : Nat → Int32) (sp : Int64) (ar : Int32) (hbad : sp < 0 ∨ ¬ sp ≤ 1099511627776 ∨ ar < 1 ∨ ¬ ar ≤ 16777216) : vx_Met l yB_level wB_level ({ frames := 6, cells := 1, slots := 6, locals := 90 }) (th_P [.ref x0, .int (nI j), .long sp, .int ar] D [(cI, .int), (cT, .object "TextureBank$Texture")] [(x0, .inr (1, [.ref tx, .int n, .ref ta, .int (nI cN)])), (ta, .inl (cT, 8, .inr (.inr (.inr (.inr (fun j => some (tq j))))))), (tq j, .inr (0, [.ref (cq j), .int sd, .int wr, .int sf, .int lv])), (cq j, .inl (cI, 1365, .inl g))]) th_Q (th_X "java/lang/IllegalArgumentException") 1 6 (fun _ => False) := by
  refine vx_ofW (cc := cB_level) (maxL := 6) (ret := (some .int)) (by decide) rfl ?_
  intro p e s m args below meth c s₁ B hml hno9 hv
  obtain ⟨rfl, hC, hP, hK, hT, hZ⟩ := hv
  have hx := B.exec
  have hb := B.bytes
  have hr := B.returns
  have hB : ∀ w ∈ tbB, w.before _ s = true := fun w h => (atoms_spec (ws := wB_level) B.pre) w (List.mem_cons_of_mem _ h)
  have hown : s.vm.findClass "TextureBank" = some m.cls := findClass_of_methodNamed B.named
  have hlocks := B.notSynchronized
  have hl := lv_entry ([.ref x0, .int (nI j), .long sp, .int ar]) (n := 6) (Nat.le_of_ble_eq_true rfl)
  rw [lg_entry_eq]
  generalize (lg_sl ([.ref x0, .int (nI j), .long sp, .int ar]) ++ List.replicate (6 - (lg_sl ([.ref x0, .int (nI j), .long sp, .int ar])).length) Slot.unset).toArray = ls at hl ⊢
  have hl : lv_has ls 6 [(0, .ref x0), (1, .int (nI j)), (2, .long sp), (4, .int ar)] := hl
  refine lv_aload_n hx hb dB_level_0 rfl (lv_at hl 0 rfl) ?_
  refine lv_iload_n hx hb dB_level_1 rfl (lv_at hl 1 rfl) ?_
  refine W.callV (W.runV (C := "TextureBank") (As := [.int (nI j)]) (rest := []) ⟨hx, hb, hml, hown, hB⟩ (kB_find_some l D cI cT x0 tx ta n cN tq j hcN hj) ⟨callB_of 1 hB gwB_find rfl rfl rfl (hB _ wd_1) (hB _ wd_131) ydB_find ⟨Nat.le_of_ble_eq_true rfl, Nat.le_of_ble_eq_true rfl⟩, hB _ wd_133, hB _ ws_4⟩ (rd_V hC (hP.sub [0, 1] rfl) (hK.sub [0, 1] rfl) (va_recv hK hP (ci := 1) (q0 := 0) rfl rfl)) rfl rfl hl.1 rfl (lv_room (Nat.le_of_ble_eq_true rfl)) dB_level_2 ⟨Nat.zero_le _, Nat.zero_le _⟩) ?_
  refine W.eq (g2 := F0 m 5 ls [.ref (tq j)]) rfl ?_
  refine lv_astore (lv' := [(5, .ref (tq j)), (0, .ref x0), (1, .int (nI j)), (2, .long sp), (4, .int ar)]) hx hb dB_level_5 hl (by decide) rfl (fun ls hl => ?_)
  refine lv_aload hx hb dB_level_7 (lv_at hl 0 rfl) ?_
  refine lv_ifnonnull (tgt := 22) hx hb dB_level_9 (by decide) ?_
  refine lv_lload_n hx hb dB_level_22 rfl (lv_at hl 3 rfl) ?_
  refine lv_lconst (v := 0) hx hb dB_level_23 (by decide) ?_
  refine W.lcmp hx hb dB_level_24 ?_
  refine lv_if_lt (tgt := 36) hx hb dB_level_25 (by decide) (fun c_1 => ?_) (fun c_1 => ?_)
  · obtain ⟨sa9, hsa9⟩ := hT.2.2.2.2.2.2.1
    exact tw_throwS (names := ["java/lang/Exception"]) (Y9 := "java/lang/RuntimeException") hx hb hl9 hown (by decide +kernel) (by decide +kernel) (by decide +kernel) tw_ia_0 tw_ia_1 tw_ia_2 tw_ia_5 (hB _ wd_216) (hB _ wd_11) hsa9 (tw_iaat hB hT) tw_ia_ok hZ.1 hZ.2 va_S.rf (by rw [hml]; exact hl.1) dB_level_36 dB_level_39 dB_level_40 dB_level_42 dB_level_45 (fun x9 h9 => (hno9 x9 h9).elim) (Nat.le_of_ble_eq_true rfl) (Nat.le_of_ble_eq_true rfl) (Nat.le_of_ble_eq_true rfl) (Nat.le_of_ble_eq_true rfl) hlocks (fun t h1 h2 h3 => ⟨(), trivial, rfl, h2, fun q hq _ => h3 q hq⟩) (fun q hq => nomatch hq) (Nat.le_refl _) (Nat.le_refl _)
  · refine lv_lload_n hx hb dB_level_28 rfl (lv_at hl 3 rfl) ?_
    refine lv_ldc2 (v := 1099511627776) hx hb hown (hB _ wd_215) dB_level_29 ?_
    refine W.lcmp hx hb dB_level_32 ?_
    refine lv_if_le (tgt := 46) hx hb dB_level_33 (by decide) (fun c_2 => ?_) (fun c_2 => ?_)
    · refine lv_iload hx hb dB_level_46 (lv_at hl 4 rfl) ?_
      refine lv_iconst (v := 1) hx hb dB_level_48 (by decide) ?_
      refine lv_icmp_lt (tgt := 59) hx hb dB_level_49 (by decide) (fun c_3 => ?_) (fun c_3 => ?_)
      · obtain ⟨sa9, hsa9⟩ := hT.2.2.2.2.2.2.2.1
        exact tw_throwS (names := ["java/lang/Exception"]) (Y9 := "java/lang/RuntimeException") hx hb hl9 hown (by decide +kernel) (by decide +kernel) (by decide +kernel) tw_ia_0 tw_ia_1 tw_ia_2 tw_ia_5 (hB _ wd_216) (hB _ wd_11) hsa9 (tw_iaat hB hT) tw_ia_ok hZ.1 hZ.2 va_S.rf (by rw [hml]; exact hl.1) dB_level_59 dB_level_62 dB_level_63 dB_level_65 dB_level_68 (fun x9 h9 => (hno9 x9 h9).elim) (Nat.le_of_ble_eq_true rfl) (Nat.le_of_ble_eq_true rfl) (Nat.le_of_ble_eq_true rfl) (Nat.le_of_ble_eq_true rfl) hlocks (fun t h1 h2 h3 => ⟨(), trivial, rfl, h2, fun q hq _ => h3 q hq⟩) (fun q hq => nomatch hq) (Nat.le_refl _) (Nat.le_refl _)
      · refine lv_iload hx hb dB_level_52 (lv_at hl 4 rfl) ?_
        refine lv_ldc (v := 16777216) hx hb hown (hB _ wd_232) dB_level_54 ?_
        refine lv_icmp_le (tgt := 69) hx hb dB_level_56 (by decide) (fun c_4 => ?_) (fun c_4 => ?_)
        · exact absurd c_4 (hbad.elim (fun h => absurd h (fun h9 => c_1 ((lg_cmp_lt _ _).mpr h9))) (fun h => h.elim (fun h => absurd ((lg_cmp_le _ _).mp c_2) h) (fun h => h.elim (fun h => absurd h c_3) id)))
        · obtain ⟨sa9, hsa9⟩ := hT.2.2.2.2.2.2.2.1
          exact tw_throwS (names := ["java/lang/Exception"]) (Y9 := "java/lang/RuntimeException") hx hb hl9 hown (by decide +kernel) (by decide +kernel) (by decide +kernel) tw_ia_0 tw_ia_1 tw_ia_2 tw_ia_5 (hB _ wd_216) (hB _ wd_11) hsa9 (tw_iaat hB hT) tw_ia_ok hZ.1 hZ.2 va_S.rf (by rw [hml]; exact hl.1) dB_level_59 dB_level_62 dB_level_63 dB_level_65 dB_level_68 (fun x9 h9 => (hno9 x9 h9).elim) (Nat.le_of_ble_eq_true rfl) (Nat.le_of_ble_eq_true rfl) (Nat.le_of_ble_eq_true rfl) (Nat.le_of_ble_eq_true rfl) hlocks (fun t h1 h2 h3 => ⟨(), trivial, rfl, h2, fun q hq _ => h3 q hq⟩) (fun q hq => nomatch hq) (Nat.le_refl _) (Nat.le_refl _)
    · obtain ⟨sa9, hsa9⟩ := hT.2.2.2.2.2.2.1
      exact tw_throwS (names := ["java/lang/Exception"]) (Y9 := "java/lang/RuntimeException") hx hb hl9 hown (by decide +kernel) (by decide +kernel) (by decide +kernel) tw_ia_0 tw_ia_1 tw_ia_2 tw_ia_5 (hB _ wd_216) (hB _ wd_11) hsa9 (tw_iaat hB hT) tw_ia_ok hZ.1 hZ.2 va_S.rf (by rw [hml]; exact hl.1) dB_level_36 dB_level_39 dB_level_40 dB_level_42 dB_level_45 (fun x9 h9 => (hno9 x9 h9).elim) (Nat.le_of_ble_eq_true rfl) (Nat.le_of_ble_eq_true rfl) (Nat.le_of_ble_eq_true rfl) (Nat.le_of_ble_eq_true rfl) hlocks (fun t h1 h2 h3 => ⟨(), trivial, rfl, h2, fun q hq _ => h3 q hq⟩) (fun q hq => nomatch hq) (Nat.le_refl _) (Nat.le_refl _)

set_option maxHeartbeats 4000000 in
set_option maxRecDepth 100000 in
theorem kB_level_ok (l : Launch) (D : va_G) (cI cT : ClassId) (x0 tx ta : Nat) (n : Int32) (cN : Nat) (tq cq : Nat → Nat) (j : Nat) (hcN : cN ≤ 8) (hj : j < cN) (sd wr sf : Int32) (kk : Nat) (hkk : kk ≤ 6) (g : Nat → Int32) (sp : Int64) (ar : Int32) (h1 : ¬ sp < 0) (h2 : sp ≤ 1099511627776) (h3 : ¬ ar < 1) (h4 : ar ≤ 16777216) : Met l yB_level wB_level (k2_rm 1 30) (rd_P [.ref x0, .int (nI j), .long sp, .int ar] D [(cI, .int), (cT, .object "TextureBank$Texture")] [(x0, .inr (1, [.ref tx, .int n, .ref ta, .int (nI cN)])), (ta, .inl (cT, 8, .inr (.inr (.inr (.inr (fun j => some (tq j))))))), (tq j, .inr (0, [.ref (cq j), .int sd, .int wr, .int sf, .int (nI (kk + 1))])), (cq j, .inl (cI, 1365, .inl g))]) (k2_QcV (.int (tt_lf ((sp * sd.toInt64) * sd.toInt64) (nI kk) 8 (ar.toInt64 * 16777216) 0))) 0 0 (fun _ => False) := by
  refine Met.ofW (cc := cB_level) (maxL := 6) (ret := (some .int)) (by decide) rfl ?_
  intro p e s m args below meth c s₁ B hml hv
  obtain ⟨rfl, hC, hP, hK⟩ := hv
  have hx := B.exec
  have hb := B.bytes
  have hr := B.returns
  have hB : ∀ w ∈ tbB, w.before _ s = true := fun w h => (atoms_spec (ws := wB_level) B.pre) w (List.mem_cons_of_mem _ h)
  have hown : s.vm.findClass "TextureBank" = some m.cls := findClass_of_methodNamed B.named
  have hlocks := B.notSynchronized
  have hl := lv_entry ([.ref x0, .int (nI j), .long sp, .int ar]) (n := 6) (Nat.le_of_ble_eq_true rfl)
  rw [lg_entry_eq]
  generalize (lg_sl ([.ref x0, .int (nI j), .long sp, .int ar]) ++ List.replicate (6 - (lg_sl ([.ref x0, .int (nI j), .long sp, .int ar])).length) Slot.unset).toArray = ls at hl ⊢
  have hl : lv_has ls 6 [(0, .ref x0), (1, .int (nI j)), (2, .long sp), (4, .int ar)] := hl
  refine lv_aload_n hx hb dB_level_0 rfl (lv_at hl 0 rfl) ?_
  refine lv_iload_n hx hb dB_level_1 rfl (lv_at hl 1 rfl) ?_
  refine W.callV (W.runV (C := "TextureBank") (As := [.int (nI j)]) (rest := []) ⟨hx, hb, hml, hown, hB⟩ (kB_find_some l D cI cT x0 tx ta n cN tq j hcN hj) ⟨callB_of 1 hB gwB_find rfl rfl rfl (hB _ wd_1) (hB _ wd_131) ydB_find ⟨Nat.le_of_ble_eq_true rfl, Nat.le_of_ble_eq_true rfl⟩, hB _ wd_133, hB _ ws_4⟩ (rd_V hC (hP.sub [0, 1] rfl) (hK.sub [0, 1] rfl) (va_recv hK hP (ci := 1) (q0 := 0) rfl rfl)) rfl rfl hl.1 rfl (lv_room (Nat.le_of_ble_eq_true rfl)) dB_level_2 ⟨Nat.zero_le _, Nat.zero_le _⟩) ?_
  refine W.eq (g2 := F0 m 5 ls [.ref (tq j)]) rfl ?_
  refine lv_astore (lv' := [(5, .ref (tq j)), (0, .ref x0), (1, .int (nI j)), (2, .long sp), (4, .int ar)]) hx hb dB_level_5 hl (by decide) rfl (fun ls hl => ?_)
  refine lv_aload hx hb dB_level_7 (lv_at hl 0 rfl) ?_
  refine lv_ifnonnull (tgt := 22) hx hb dB_level_9 (by decide) ?_
  refine lv_lload_n hx hb dB_level_22 rfl (lv_at hl 3 rfl) ?_
  refine lv_lconst (v := 0) hx hb dB_level_23 (by decide) ?_
  refine W.lcmp hx hb dB_level_24 ?_
  refine lv_if_lt (tgt := 36) hx hb dB_level_25 (by decide) (fun c_1 => ?_) (fun c_1 => ?_)
  · exact absurd ((lg_cmp_lt _ _).mp c_1) h1
  · refine lv_lload_n hx hb dB_level_28 rfl (lv_at hl 3 rfl) ?_
    refine lv_ldc2 (v := 1099511627776) hx hb hown (hB _ wd_215) dB_level_29 ?_
    refine W.lcmp hx hb dB_level_32 ?_
    refine lv_if_le (tgt := 46) hx hb dB_level_33 (by decide) (fun c_2 => ?_) (fun c_2 => ?_)
    · refine lv_iload hx hb dB_level_46 (lv_at hl 4 rfl) ?_
      refine lv_iconst (v := 1) hx hb dB_level_48 (by decide) ?_
      refine lv_icmp_lt (tgt := 59) hx hb dB_level_49 (by decide) (fun c_3 => ?_) (fun c_3 => ?_)
      · exact absurd c_3 h3
      · refine lv_iload hx hb dB_level_52 (lv_at hl 4 rfl) ?_
        refine lv_ldc (v := 16777216) hx hb hown (hB _ wd_232) dB_level_54 ?_
        refine lv_icmp_le (tgt := 69) hx hb dB_level_56 (by decide) (fun c_4 => ?_) (fun c_4 => ?_)
        · refine lv_aload hx hb dB_level_69 (lv_at hl 0 rfl) ?_
          refine lv_lload_n hx hb dB_level_71 rfl (lv_at hl 3 rfl) ?_
          refine lv_iload hx hb dB_level_72 (lv_at hl 4 rfl) ?_
          refine lv_i2l hx hb dB_level_74 rfl ?_
          refine W.callV (run_of (va_runVN (C := "TextureBank$Texture") (As := [.long sp, .long ar.toInt64]) (rest := []) ⟨hx, hb, hml, hown, hB⟩ (kT_levelFor l D cI (tq j) (cq j) sd wr sf kk hkk g sp ar.toInt64) ⟨va_cnB 2 hB gwT_levelFor rfl rfl rfl (hC.2.2.2.2.2.2.2.2.1) (hB _ wd_2) ydT_levelFor ⟨Nat.le_of_ble_eq_true rfl, Nat.le_of_ble_eq_true rfl⟩, hB _ wd_236, hB _ ws_6⟩ (rd_V hC (hP.sub [2, 3] rfl) (hK.sub [0] rfl) (va_recv hK hP (ci := 0) (q0 := 2) rfl rfl)) rfl rfl hl.1 rfl (lv_room (Nat.le_of_ble_eq_true rfl)) dB_level_75 ⟨Nat.zero_le _, Nat.zero_le _⟩)) ?_
          refine W.eq (g2 := F0 m 78 ls [.int (tt_lf ((sp * sd.toInt64) * sd.toInt64) (nI kk) 8 (ar.toInt64 * 16777216) 0)]) rfl ?_
          exact W.iret hx hb hr (fun t ht _ => ⟨tbI (rfl), ht⟩) (fun q hq => nomatch hq) dB_level_78
        · exact absurd h4 c_4
    · exact absurd ((lg_cmp_le _ _).mpr h2) c_2

set_option maxHeartbeats 4000000 in
set_option maxRecDepth 100000 in
theorem kB_lookUp_none (l : Launch) (hl9 : l.stackTraces = false) (D : va_G) (cI cT : ClassId) (x0 tx ta : Nat) (n c9 : Int32) (t9 : Int32) (hno : t9 < 0 ∨ c9 ≤ t9) (lv9 u9 v9 : Int32) : vx_Met l yB_lookUp wB_lookUp ({ frames := 6, cells := 1, slots := 6, locals := 90 }) (th_P [.ref x0, .int t9, .int lv9, .int u9, .int v9] D [(cI, .int), (cT, .object "TextureBank$Texture")] [(x0, .inr (1, [.ref tx, .int n, .ref ta, .int c9]))]) th_Q (th_X "java/util/NoSuchElementException") 1 6 (fun _ => False) := by
  refine vx_ofW (cc := cB_lookUp) (maxL := 6) (ret := (some .int)) (by decide) rfl ?_
  intro p e s m args below meth c s₁ B hml hno9 hv
  obtain ⟨rfl, hC, hP, hK, hT, hZ⟩ := hv
  have hx := B.exec
  have hb := B.bytes
  have hr := B.returns
  have hB : ∀ w ∈ tbB, w.before _ s = true := fun w h => (atoms_spec (ws := wB_lookUp) B.pre) w (List.mem_cons_of_mem _ h)
  have hown : s.vm.findClass "TextureBank" = some m.cls := findClass_of_methodNamed B.named
  have hlocks := B.notSynchronized
  have hl := lv_entry ([.ref x0, .int t9, .int lv9, .int u9, .int v9]) (n := 6) (Nat.le_of_ble_eq_true rfl)
  rw [lg_entry_eq]
  generalize (lg_sl ([.ref x0, .int t9, .int lv9, .int u9, .int v9]) ++ List.replicate (6 - (lg_sl ([.ref x0, .int t9, .int lv9, .int u9, .int v9])).length) Slot.unset).toArray = ls at hl ⊢
  have hl : lv_has ls 6 [(0, .ref x0), (1, .int t9), (2, .int lv9), (3, .int u9), (4, .int v9)] := hl
  refine lv_aload_n hx hb dB_lookUp_0 rfl (lv_at hl 0 rfl) ?_
  refine lv_iload_n hx hb dB_lookUp_1 rfl (lv_at hl 1 rfl) ?_
  refine W.callV (W.runV (C := "TextureBank") (As := [.int t9]) (rest := []) ⟨hx, hb, hml, hown, hB⟩ (kB_find_none l D cI cT x0 tx ta n c9 t9 hno) ⟨callB_of 1 hB gwB_find rfl rfl rfl (hB _ wd_1) (hB _ wd_131) ydB_find ⟨Nat.le_of_ble_eq_true rfl, Nat.le_of_ble_eq_true rfl⟩, hB _ wd_133, hB _ ws_4⟩ (rd_V hC (hP.sub [0] rfl) (hK.sub [0, 1] rfl) (va_recv hK hP (ci := 1) (q0 := 0) rfl rfl)) rfl rfl hl.1 rfl (lv_room (Nat.le_of_ble_eq_true rfl)) dB_lookUp_2 ⟨Nat.zero_le _, Nat.zero_le _⟩) ?_
  refine W.eq (g2 := F0 m 5 ls [.null]) rfl ?_
  refine lv_astoreN (lv' := [(5, .null), (0, .ref x0), (1, .int t9), (2, .int lv9), (3, .int u9), (4, .int v9)]) hx hb dB_lookUp_5 hl (by decide) rfl (fun ls hl => ?_)
  refine lv_aloadN hx hb dB_lookUp_7 (lv_at hl 0 rfl) ?_
  refine lv_ifnullN (tgt := 21) hx hb dB_lookUp_9 (by decide) ?_
  obtain ⟨sa9, hsa9⟩ := hT.2.2.2.2.2.2.2.2.1
  exact tw_throwS (names := ["java/lang/Exception"]) (Y9 := "java/lang/RuntimeException") hx hb hl9 hown (by decide +kernel) (by decide +kernel) (by decide +kernel) tw_ns_0 tw_ns_1 tw_ns_2 tw_ns_5 (hB _ wd_148) (hB _ wd_10) hsa9 (tw_nsat hB hT) tw_ns_ok hZ.1 hZ.2 va_S.rf (by rw [hml]; exact hl.1) dB_lookUp_21 dB_lookUp_24 dB_lookUp_25 dB_lookUp_27 dB_lookUp_30 (fun x9 h9 => (hno9 x9 h9).elim) (Nat.le_of_ble_eq_true rfl) (Nat.le_of_ble_eq_true rfl) (Nat.le_of_ble_eq_true rfl) (Nat.le_of_ble_eq_true rfl) hlocks (fun t h1 h2 h3 => ⟨(), trivial, rfl, h2, fun q hq _ => h3 q hq⟩) (fun q hq => nomatch hq) (Nat.le_refl _) (Nat.le_refl _)

set_option maxHeartbeats 4000000 in
set_option maxRecDepth 100000 in
theorem kB_lookUp_nolevel (l : Launch) (hl9 : l.stackTraces = false) (D : va_G) (cI cT : ClassId) (x0 tx ta : Nat) (n : Int32) (cN : Nat) (tq cq : Nat → Nat) (j : Nat) (hcN : cN ≤ 8) (hj : j < cN) (sd wr sf lv : Int32) (g : Nat → Int32) (lv9 u9 v9 : Int32) (hlv : tt_has lv lv9 = 0) : vx_Met l yB_lookUp wB_lookUp ({ frames := 6, cells := 1, slots := 6, locals := 90 }) (th_P [.ref x0, .int (nI j), .int lv9, .int u9, .int v9] D [(cI, .int), (cT, .object "TextureBank$Texture")] [(x0, .inr (1, [.ref tx, .int n, .ref ta, .int (nI cN)])), (ta, .inl (cT, 8, .inr (.inr (.inr (.inr (fun j => some (tq j))))))), (tq j, .inr (0, [.ref (cq j), .int sd, .int wr, .int sf, .int lv])), (cq j, .inl (cI, 1365, .inl g))]) th_Q (th_X "java/util/NoSuchElementException") 1 6 (fun _ => False) := by
  refine vx_ofW (cc := cB_lookUp) (maxL := 6) (ret := (some .int)) (by decide) rfl ?_
  intro p e s m args below meth c s₁ B hml hno9 hv
  obtain ⟨rfl, hC, hP, hK, hT, hZ⟩ := hv
  have hx := B.exec
  have hb := B.bytes
  have hr := B.returns
  have hB : ∀ w ∈ tbB, w.before _ s = true := fun w h => (atoms_spec (ws := wB_lookUp) B.pre) w (List.mem_cons_of_mem _ h)
  have hown : s.vm.findClass "TextureBank" = some m.cls := findClass_of_methodNamed B.named
  have hlocks := B.notSynchronized
  have hl := lv_entry ([.ref x0, .int (nI j), .int lv9, .int u9, .int v9]) (n := 6) (Nat.le_of_ble_eq_true rfl)
  rw [lg_entry_eq]
  generalize (lg_sl ([.ref x0, .int (nI j), .int lv9, .int u9, .int v9]) ++ List.replicate (6 - (lg_sl ([.ref x0, .int (nI j), .int lv9, .int u9, .int v9])).length) Slot.unset).toArray = ls at hl ⊢
  have hl : lv_has ls 6 [(0, .ref x0), (1, .int (nI j)), (2, .int lv9), (3, .int u9), (4, .int v9)] := hl
  refine lv_aload_n hx hb dB_lookUp_0 rfl (lv_at hl 0 rfl) ?_
  refine lv_iload_n hx hb dB_lookUp_1 rfl (lv_at hl 1 rfl) ?_
  refine W.callV (W.runV (C := "TextureBank") (As := [.int (nI j)]) (rest := []) ⟨hx, hb, hml, hown, hB⟩ (kB_find_some l D cI cT x0 tx ta n cN tq j hcN hj) ⟨callB_of 1 hB gwB_find rfl rfl rfl (hB _ wd_1) (hB _ wd_131) ydB_find ⟨Nat.le_of_ble_eq_true rfl, Nat.le_of_ble_eq_true rfl⟩, hB _ wd_133, hB _ ws_4⟩ (rd_V hC (hP.sub [0, 1] rfl) (hK.sub [0, 1] rfl) (va_recv hK hP (ci := 1) (q0 := 0) rfl rfl)) rfl rfl hl.1 rfl (lv_room (Nat.le_of_ble_eq_true rfl)) dB_lookUp_2 ⟨Nat.zero_le _, Nat.zero_le _⟩) ?_
  refine W.eq (g2 := F0 m 5 ls [.ref (tq j)]) rfl ?_
  refine lv_astore (lv' := [(5, .ref (tq j)), (0, .ref x0), (1, .int (nI j)), (2, .int lv9), (3, .int u9), (4, .int v9)]) hx hb dB_lookUp_5 hl (by decide) rfl (fun ls hl => ?_)
  refine lv_aload hx hb dB_lookUp_7 (lv_at hl 0 rfl) ?_
  refine lv_ifnull hx hb dB_lookUp_9 ?_
  refine lv_aload hx hb dB_lookUp_12 (lv_at hl 0 rfl) ?_
  refine lv_iload_n hx hb dB_lookUp_14 rfl (lv_at hl 3 rfl) ?_
  refine W.callV (run_of (va_runVN (C := "TextureBank$Texture") (As := [.int lv9]) (rest := []) ⟨hx, hb, hml, hown, hB⟩ (kT_hasLevel l D cI (tq j) (cq j) sd wr sf lv g lv9) ⟨va_cnB 1 hB gwT_hasLevel rfl rfl rfl (hC.2.2.2.2.2.2.2.2.2.1) (hB _ wd_2) ydT_hasLevel ⟨Nat.le_of_ble_eq_true rfl, Nat.le_of_ble_eq_true rfl⟩, hB _ wd_248, hB _ ws_7⟩ (rd_V hC (hP.sub [2, 3] rfl) (hK.sub [0] rfl) (va_recv hK hP (ci := 0) (q0 := 2) rfl rfl)) rfl rfl hl.1 rfl (lv_room (Nat.le_of_ble_eq_true rfl)) dB_lookUp_15 ⟨Nat.zero_le _, Nat.zero_le _⟩)) ?_
  refine W.eq (g2 := F0 m 18 ls [.int (tt_has lv lv9)]) rfl ?_
  refine lv_if_ne (tgt := 31) hx hb dB_lookUp_18 (by decide) (fun c_1 => ?_) (fun c_1 => ?_)
  · exact absurd hlv c_1
  · obtain ⟨sa9, hsa9⟩ := hT.2.2.2.2.2.2.2.2.1
    exact tw_throwS (names := ["java/lang/Exception"]) (Y9 := "java/lang/RuntimeException") hx hb hl9 hown (by decide +kernel) (by decide +kernel) (by decide +kernel) tw_ns_0 tw_ns_1 tw_ns_2 tw_ns_5 (hB _ wd_148) (hB _ wd_10) hsa9 (tw_nsat hB hT) tw_ns_ok hZ.1 hZ.2 va_S.rf (by rw [hml]; exact hl.1) dB_lookUp_21 dB_lookUp_24 dB_lookUp_25 dB_lookUp_27 dB_lookUp_30 (fun x9 h9 => (hno9 x9 h9).elim) (Nat.le_of_ble_eq_true rfl) (Nat.le_of_ble_eq_true rfl) (Nat.le_of_ble_eq_true rfl) (Nat.le_of_ble_eq_true rfl) hlocks (fun t h1 h2 h3 => ⟨(), trivial, rfl, h2, fun q hq _ => h3 q hq⟩) (fun q hq => nomatch hq) (Nat.le_refl _) (Nat.le_refl _)

set_option maxHeartbeats 4000000 in
set_option maxRecDepth 100000 in
theorem kB_lookUp_bad (l : Launch) (hl9 : l.stackTraces = false) (D : va_G) (cI cT : ClassId) (x0 tx ta : Nat) (n : Int32) (cN : Nat) (tq cq : Nat → Nat) (j : Nat) (hcN : cN ≤ 8) (hj : j < cN) (sd wr sf lv : Int32) (g : Nat → Int32) (lv9 u9 v9 : Int32) (hlv : ¬ tt_has lv lv9 = 0) (hbad : tt_isPlace u9 = 0 ∨ tt_isPlace v9 = 0) : vx_Met l yB_lookUp wB_lookUp ({ frames := 6, cells := 1, slots := 6, locals := 90 }) (th_P [.ref x0, .int (nI j), .int lv9, .int u9, .int v9] D [(cI, .int), (cT, .object "TextureBank$Texture")] [(x0, .inr (1, [.ref tx, .int n, .ref ta, .int (nI cN)])), (ta, .inl (cT, 8, .inr (.inr (.inr (.inr (fun j => some (tq j))))))), (tq j, .inr (0, [.ref (cq j), .int sd, .int wr, .int sf, .int lv])), (cq j, .inl (cI, 1365, .inl g))]) th_Q (th_X "java/lang/IllegalArgumentException") 1 6 (fun _ => False) := by
  refine vx_ofW (cc := cB_lookUp) (maxL := 6) (ret := (some .int)) (by decide) rfl ?_
  intro p e s m args below meth c s₁ B hml hno9 hv
  obtain ⟨rfl, hC, hP, hK, hT, hZ⟩ := hv
  have hx := B.exec
  have hb := B.bytes
  have hr := B.returns
  have hB : ∀ w ∈ tbB, w.before _ s = true := fun w h => (atoms_spec (ws := wB_lookUp) B.pre) w (List.mem_cons_of_mem _ h)
  have hown : s.vm.findClass "TextureBank" = some m.cls := findClass_of_methodNamed B.named
  have hlocks := B.notSynchronized
  have hl := lv_entry ([.ref x0, .int (nI j), .int lv9, .int u9, .int v9]) (n := 6) (Nat.le_of_ble_eq_true rfl)
  rw [lg_entry_eq]
  generalize (lg_sl ([.ref x0, .int (nI j), .int lv9, .int u9, .int v9]) ++ List.replicate (6 - (lg_sl ([.ref x0, .int (nI j), .int lv9, .int u9, .int v9])).length) Slot.unset).toArray = ls at hl ⊢
  have hl : lv_has ls 6 [(0, .ref x0), (1, .int (nI j)), (2, .int lv9), (3, .int u9), (4, .int v9)] := hl
  refine lv_aload_n hx hb dB_lookUp_0 rfl (lv_at hl 0 rfl) ?_
  refine lv_iload_n hx hb dB_lookUp_1 rfl (lv_at hl 1 rfl) ?_
  refine W.callV (W.runV (C := "TextureBank") (As := [.int (nI j)]) (rest := []) ⟨hx, hb, hml, hown, hB⟩ (kB_find_some l D cI cT x0 tx ta n cN tq j hcN hj) ⟨callB_of 1 hB gwB_find rfl rfl rfl (hB _ wd_1) (hB _ wd_131) ydB_find ⟨Nat.le_of_ble_eq_true rfl, Nat.le_of_ble_eq_true rfl⟩, hB _ wd_133, hB _ ws_4⟩ (rd_V hC (hP.sub [0, 1] rfl) (hK.sub [0, 1] rfl) (va_recv hK hP (ci := 1) (q0 := 0) rfl rfl)) rfl rfl hl.1 rfl (lv_room (Nat.le_of_ble_eq_true rfl)) dB_lookUp_2 ⟨Nat.zero_le _, Nat.zero_le _⟩) ?_
  refine W.eq (g2 := F0 m 5 ls [.ref (tq j)]) rfl ?_
  refine lv_astore (lv' := [(5, .ref (tq j)), (0, .ref x0), (1, .int (nI j)), (2, .int lv9), (3, .int u9), (4, .int v9)]) hx hb dB_lookUp_5 hl (by decide) rfl (fun ls hl => ?_)
  refine lv_aload hx hb dB_lookUp_7 (lv_at hl 0 rfl) ?_
  refine lv_ifnull hx hb dB_lookUp_9 ?_
  refine lv_aload hx hb dB_lookUp_12 (lv_at hl 0 rfl) ?_
  refine lv_iload_n hx hb dB_lookUp_14 rfl (lv_at hl 3 rfl) ?_
  refine W.callV (run_of (va_runVN (C := "TextureBank$Texture") (As := [.int lv9]) (rest := []) ⟨hx, hb, hml, hown, hB⟩ (kT_hasLevel l D cI (tq j) (cq j) sd wr sf lv g lv9) ⟨va_cnB 1 hB gwT_hasLevel rfl rfl rfl (hC.2.2.2.2.2.2.2.2.2.1) (hB _ wd_2) ydT_hasLevel ⟨Nat.le_of_ble_eq_true rfl, Nat.le_of_ble_eq_true rfl⟩, hB _ wd_248, hB _ ws_7⟩ (rd_V hC (hP.sub [2, 3] rfl) (hK.sub [0] rfl) (va_recv hK hP (ci := 0) (q0 := 2) rfl rfl)) rfl rfl hl.1 rfl (lv_room (Nat.le_of_ble_eq_true rfl)) dB_lookUp_15 ⟨Nat.zero_le _, Nat.zero_le _⟩)) ?_
  refine W.eq (g2 := F0 m 18 ls [.int (tt_has lv lv9)]) rfl ?_
  refine lv_if_ne (tgt := 31) hx hb dB_lookUp_18 (by decide) (fun c_1 => ?_) (fun c_1 => ?_)
  · refine lv_iload_n hx hb dB_lookUp_31 rfl (lv_at hl 4 rfl) ?_
    refine W.callV (W.runS (As := [.int u9]) (rest := []) ⟨hx, hb, hml, hown, hB⟩ (kB_isPlace l u9) ⟨callB_of 1 hB gwB_isPlace rfl rfl rfl (hB _ wd_1) (hB _ wd_251) ydB_isPlace ⟨Nat.le_of_ble_eq_true rfl, Nat.le_of_ble_eq_true rfl⟩, hB _ wd_252⟩ (preEq) rfl rfl hl.1 rfl (lv_room (Nat.le_of_ble_eq_true rfl)) dB_lookUp_32 ⟨Nat.zero_le _, Nat.zero_le _⟩) ?_
    refine W.eq (g2 := F0 m 35 ls [.int (tt_isPlace u9)]) rfl ?_
    refine lv_if_eq (tgt := 46) hx hb dB_lookUp_35 (by decide) (fun c_2 => ?_) (fun c_2 => ?_)
    · obtain ⟨sa9, hsa9⟩ := hT.2.2.2.2.2.2.2.2.2.1
      exact tw_throwS (names := ["java/lang/Exception"]) (Y9 := "java/lang/RuntimeException") hx hb hl9 hown (by decide +kernel) (by decide +kernel) (by decide +kernel) tw_ia_0 tw_ia_1 tw_ia_2 tw_ia_5 (hB _ wd_216) (hB _ wd_11) hsa9 (tw_iaat hB hT) tw_ia_ok hZ.1 hZ.2 va_S.rf (by rw [hml]; exact hl.1) dB_lookUp_46 dB_lookUp_49 dB_lookUp_50 dB_lookUp_52 dB_lookUp_55 (fun x9 h9 => (hno9 x9 h9).elim) (Nat.le_of_ble_eq_true rfl) (Nat.le_of_ble_eq_true rfl) (Nat.le_of_ble_eq_true rfl) (Nat.le_of_ble_eq_true rfl) hlocks (fun t h1 h2 h3 => ⟨(), trivial, rfl, h2, fun q hq _ => h3 q hq⟩) (fun q hq => nomatch hq) (Nat.le_refl _) (Nat.le_refl _)
    · refine lv_iload hx hb dB_lookUp_38 (lv_at hl 5 rfl) ?_
      refine W.callV (W.runS (As := [.int v9]) (rest := []) ⟨hx, hb, hml, hown, hB⟩ (kB_isPlace l v9) ⟨callB_of 1 hB gwB_isPlace rfl rfl rfl (hB _ wd_1) (hB _ wd_251) ydB_isPlace ⟨Nat.le_of_ble_eq_true rfl, Nat.le_of_ble_eq_true rfl⟩, hB _ wd_252⟩ (preEq) rfl rfl hl.1 rfl (lv_room (Nat.le_of_ble_eq_true rfl)) dB_lookUp_40 ⟨Nat.zero_le _, Nat.zero_le _⟩) ?_
      refine W.eq (g2 := F0 m 43 ls [.int (tt_isPlace v9)]) rfl ?_
      refine lv_if_ne (tgt := 56) hx hb dB_lookUp_43 (by decide) (fun c_3 => ?_) (fun c_3 => ?_)
      · exact absurd (hbad.elim (fun h => absurd h c_2) id) c_3
      · obtain ⟨sa9, hsa9⟩ := hT.2.2.2.2.2.2.2.2.2.1
        exact tw_throwS (names := ["java/lang/Exception"]) (Y9 := "java/lang/RuntimeException") hx hb hl9 hown (by decide +kernel) (by decide +kernel) (by decide +kernel) tw_ia_0 tw_ia_1 tw_ia_2 tw_ia_5 (hB _ wd_216) (hB _ wd_11) hsa9 (tw_iaat hB hT) tw_ia_ok hZ.1 hZ.2 va_S.rf (by rw [hml]; exact hl.1) dB_lookUp_46 dB_lookUp_49 dB_lookUp_50 dB_lookUp_52 dB_lookUp_55 (fun x9 h9 => (hno9 x9 h9).elim) (Nat.le_of_ble_eq_true rfl) (Nat.le_of_ble_eq_true rfl) (Nat.le_of_ble_eq_true rfl) (Nat.le_of_ble_eq_true rfl) hlocks (fun t h1 h2 h3 => ⟨(), trivial, rfl, h2, fun q hq _ => h3 q hq⟩) (fun q hq => nomatch hq) (Nat.le_refl _) (Nat.le_refl _)
  · exact absurd c_1 hlv

set_option maxHeartbeats 4000000 in
set_option maxRecDepth 100000 in
theorem kB_lookUp_ok (l : Launch) (D : va_G) (cI cT : ClassId) (x0 tx ta : Nat) (n : Int32) (cN : Nat) (tq cq : Nat → Nat) (j : Nat) (hcN : cN ≤ 8) (hj : j < cN) (sd wr sf lv : Int32) (g : Nat → Int32) (lv9 u9 v9 : Int32) (hlv : ¬ tt_has lv lv9 = 0) (h1 : ¬ tt_isPlace u9 = 0) (h2 : ¬ tt_isPlace v9 = 0) : Met l yB_lookUp wB_lookUp (k2_rm 4 131) (rd_P [.ref x0, .int (nI j), .int lv9, .int u9, .int v9] D [(cI, .int), (cT, .object "TextureBank$Texture")] [(x0, .inr (1, [.ref tx, .int n, .ref ta, .int (nI cN)])), (ta, .inl (cT, 8, .inr (.inr (.inr (.inr (fun j => some (tq j))))))), (tq j, .inr (0, [.ref (cq j), .int sd, .int wr, .int sf, .int lv])), (cq j, .inl (cI, 1365, .inl g))]) (k2_QcV (.int (tt_cat wr sf g (sd >>> (lv9 &&& 31)) u9.toInt64 v9.toInt64))) 0 0 (fun _ => False) := by
  refine Met.ofW (cc := cB_lookUp) (maxL := 6) (ret := (some .int)) (by decide) rfl ?_
  intro p e s m args below meth c s₁ B hml hv
  obtain ⟨rfl, hC, hP, hK⟩ := hv
  have hx := B.exec
  have hb := B.bytes
  have hr := B.returns
  have hB : ∀ w ∈ tbB, w.before _ s = true := fun w h => (atoms_spec (ws := wB_lookUp) B.pre) w (List.mem_cons_of_mem _ h)
  have hown : s.vm.findClass "TextureBank" = some m.cls := findClass_of_methodNamed B.named
  have hlocks := B.notSynchronized
  have hl := lv_entry ([.ref x0, .int (nI j), .int lv9, .int u9, .int v9]) (n := 6) (Nat.le_of_ble_eq_true rfl)
  rw [lg_entry_eq]
  generalize (lg_sl ([.ref x0, .int (nI j), .int lv9, .int u9, .int v9]) ++ List.replicate (6 - (lg_sl ([.ref x0, .int (nI j), .int lv9, .int u9, .int v9])).length) Slot.unset).toArray = ls at hl ⊢
  have hl : lv_has ls 6 [(0, .ref x0), (1, .int (nI j)), (2, .int lv9), (3, .int u9), (4, .int v9)] := hl
  refine lv_aload_n hx hb dB_lookUp_0 rfl (lv_at hl 0 rfl) ?_
  refine lv_iload_n hx hb dB_lookUp_1 rfl (lv_at hl 1 rfl) ?_
  refine W.callV (W.runV (C := "TextureBank") (As := [.int (nI j)]) (rest := []) ⟨hx, hb, hml, hown, hB⟩ (kB_find_some l D cI cT x0 tx ta n cN tq j hcN hj) ⟨callB_of 1 hB gwB_find rfl rfl rfl (hB _ wd_1) (hB _ wd_131) ydB_find ⟨Nat.le_of_ble_eq_true rfl, Nat.le_of_ble_eq_true rfl⟩, hB _ wd_133, hB _ ws_4⟩ (rd_V hC (hP.sub [0, 1] rfl) (hK.sub [0, 1] rfl) (va_recv hK hP (ci := 1) (q0 := 0) rfl rfl)) rfl rfl hl.1 rfl (lv_room (Nat.le_of_ble_eq_true rfl)) dB_lookUp_2 ⟨Nat.zero_le _, Nat.zero_le _⟩) ?_
  refine W.eq (g2 := F0 m 5 ls [.ref (tq j)]) rfl ?_
  refine lv_astore (lv' := [(5, .ref (tq j)), (0, .ref x0), (1, .int (nI j)), (2, .int lv9), (3, .int u9), (4, .int v9)]) hx hb dB_lookUp_5 hl (by decide) rfl (fun ls hl => ?_)
  refine lv_aload hx hb dB_lookUp_7 (lv_at hl 0 rfl) ?_
  refine lv_ifnull hx hb dB_lookUp_9 ?_
  refine lv_aload hx hb dB_lookUp_12 (lv_at hl 0 rfl) ?_
  refine lv_iload_n hx hb dB_lookUp_14 rfl (lv_at hl 3 rfl) ?_
  refine W.callV (run_of (va_runVN (C := "TextureBank$Texture") (As := [.int lv9]) (rest := []) ⟨hx, hb, hml, hown, hB⟩ (kT_hasLevel l D cI (tq j) (cq j) sd wr sf lv g lv9) ⟨va_cnB 1 hB gwT_hasLevel rfl rfl rfl (hC.2.2.2.2.2.2.2.2.2.1) (hB _ wd_2) ydT_hasLevel ⟨Nat.le_of_ble_eq_true rfl, Nat.le_of_ble_eq_true rfl⟩, hB _ wd_248, hB _ ws_7⟩ (rd_V hC (hP.sub [2, 3] rfl) (hK.sub [0] rfl) (va_recv hK hP (ci := 0) (q0 := 2) rfl rfl)) rfl rfl hl.1 rfl (lv_room (Nat.le_of_ble_eq_true rfl)) dB_lookUp_15 ⟨Nat.zero_le _, Nat.zero_le _⟩)) ?_
  refine W.eq (g2 := F0 m 18 ls [.int (tt_has lv lv9)]) rfl ?_
  refine lv_if_ne (tgt := 31) hx hb dB_lookUp_18 (by decide) (fun c_1 => ?_) (fun c_1 => ?_)
  · refine lv_iload_n hx hb dB_lookUp_31 rfl (lv_at hl 4 rfl) ?_
    refine W.callV (W.runS (As := [.int u9]) (rest := []) ⟨hx, hb, hml, hown, hB⟩ (kB_isPlace l u9) ⟨callB_of 1 hB gwB_isPlace rfl rfl rfl (hB _ wd_1) (hB _ wd_251) ydB_isPlace ⟨Nat.le_of_ble_eq_true rfl, Nat.le_of_ble_eq_true rfl⟩, hB _ wd_252⟩ (preEq) rfl rfl hl.1 rfl (lv_room (Nat.le_of_ble_eq_true rfl)) dB_lookUp_32 ⟨Nat.zero_le _, Nat.zero_le _⟩) ?_
    refine W.eq (g2 := F0 m 35 ls [.int (tt_isPlace u9)]) rfl ?_
    refine lv_if_eq (tgt := 46) hx hb dB_lookUp_35 (by decide) (fun c_2 => ?_) (fun c_2 => ?_)
    · exact absurd c_2 h1
    · refine lv_iload hx hb dB_lookUp_38 (lv_at hl 5 rfl) ?_
      refine W.callV (W.runS (As := [.int v9]) (rest := []) ⟨hx, hb, hml, hown, hB⟩ (kB_isPlace l v9) ⟨callB_of 1 hB gwB_isPlace rfl rfl rfl (hB _ wd_1) (hB _ wd_251) ydB_isPlace ⟨Nat.le_of_ble_eq_true rfl, Nat.le_of_ble_eq_true rfl⟩, hB _ wd_252⟩ (preEq) rfl rfl hl.1 rfl (lv_room (Nat.le_of_ble_eq_true rfl)) dB_lookUp_40 ⟨Nat.zero_le _, Nat.zero_le _⟩) ?_
      refine W.eq (g2 := F0 m 43 ls [.int (tt_isPlace v9)]) rfl ?_
      refine lv_if_ne (tgt := 56) hx hb dB_lookUp_43 (by decide) (fun c_3 => ?_) (fun c_3 => ?_)
      · refine lv_aload hx hb dB_lookUp_56 (lv_at hl 0 rfl) ?_
        refine lv_aload hx hb dB_lookUp_58 (lv_at hl 0 rfl) ?_
        refine lv_iload_n hx hb dB_lookUp_60 rfl (lv_at hl 3 rfl) ?_
        refine W.callV (run_of (va_runVN (C := "TextureBank$Texture") (As := [.int lv9]) (rest := [.ref (tq j)]) ⟨hx, hb, hml, hown, hB⟩ (kT_sideOf l D cI (tq j) (cq j) sd wr sf lv g lv9) ⟨va_cnB 1 hB gwT_sideOf rfl rfl rfl (hC.2.2.2.2.2.2.2.2.2.2.1) (hB _ wd_2) ydT_sideOf ⟨Nat.le_of_ble_eq_true rfl, Nat.le_of_ble_eq_true rfl⟩, hB _ wd_258, hB _ ws_8⟩ (rd_V hC (hP.sub [2, 3] rfl) (hK.sub [0] rfl) (va_recv hK hP (ci := 0) (q0 := 2) rfl rfl)) rfl rfl hl.1 rfl (lv_room (Nat.le_of_ble_eq_true rfl)) dB_lookUp_61 ⟨Nat.zero_le _, Nat.zero_le _⟩)) ?_
        refine W.eq (g2 := F0 m 64 ls [.int (sd >>> (lv9 &&& 31)), .ref (tq j)]) rfl ?_
        refine lv_iload_n hx hb dB_lookUp_64 rfl (lv_at hl 4 rfl) ?_
        refine lv_i2l hx hb dB_lookUp_65 rfl ?_
        refine lv_iload hx hb dB_lookUp_66 (lv_at hl 5 rfl) ?_
        refine lv_i2l hx hb dB_lookUp_68 rfl ?_
        refine W.callV (run_of (va_runVN (C := "TextureBank$Texture") (As := [.int (sd >>> (lv9 &&& 31)), .long u9.toInt64, .long v9.toInt64]) (rest := []) ⟨hx, hb, hml, hown, hB⟩ (kT_colourAt l D cI (tq j) (cq j) sd wr sf lv g (sd >>> (lv9 &&& 31)) u9.toInt64 v9.toInt64) ⟨va_cnB 3 hB gwT_colourAt rfl rfl rfl (hC.2.2.2.2.2.2.2.2.2.2.2.1) (hB _ wd_2) ydT_colourAt ⟨Nat.le_of_ble_eq_true rfl, Nat.le_of_ble_eq_true rfl⟩, hB _ wd_262, hB _ ws_9⟩ (rd_V hC (hP.sub [2, 3] rfl) (hK.sub [0] rfl) (va_recv hK hP (ci := 0) (q0 := 2) rfl rfl)) rfl rfl hl.1 rfl (lv_room (Nat.le_of_ble_eq_true rfl)) dB_lookUp_69 ⟨Nat.zero_le _, Nat.zero_le _⟩)) ?_
        refine W.eq (g2 := F0 m 72 ls [.int (tt_cat wr sf g (sd >>> (lv9 &&& 31)) u9.toInt64 v9.toInt64)]) rfl ?_
        exact W.iret hx hb hr (fun t ht _ => ⟨tbI (rfl), ht⟩) (fun q hq => nomatch hq) dB_lookUp_72
      · exact absurd c_3 h2
  · exact absurd c_1 hlv

set_option maxHeartbeats 4000000 in
set_option maxRecDepth 100000 in
theorem kB_texel_none (l : Launch) (hl9 : l.stackTraces = false) (D : va_G) (cI cT : ClassId) (x0 tx ta : Nat) (n c9 : Int32) (t9 : Int32) (hno : t9 < 0 ∨ c9 ≤ t9) (lv9 u9 v9 : Int32) : vx_Met l yB_texel wB_texel ({ frames := 6, cells := 1, slots := 6, locals := 90 }) (th_P [.ref x0, .int t9, .int lv9, .int u9, .int v9] D [(cI, .int), (cT, .object "TextureBank$Texture")] [(x0, .inr (1, [.ref tx, .int n, .ref ta, .int c9]))]) th_Q (th_X "java/util/NoSuchElementException") 1 6 (fun _ => False) := by
  refine vx_ofW (cc := cB_texel) (maxL := 7) (ret := (some .int)) (by decide) rfl ?_
  intro p e s m args below meth c s₁ B hml hno9 hv
  obtain ⟨rfl, hC, hP, hK, hT, hZ⟩ := hv
  have hx := B.exec
  have hb := B.bytes
  have hr := B.returns
  have hB : ∀ w ∈ tbB, w.before _ s = true := fun w h => (atoms_spec (ws := wB_texel) B.pre) w (List.mem_cons_of_mem _ h)
  have hown : s.vm.findClass "TextureBank" = some m.cls := findClass_of_methodNamed B.named
  have hlocks := B.notSynchronized
  have hl := lv_entry ([.ref x0, .int t9, .int lv9, .int u9, .int v9]) (n := 7) (Nat.le_of_ble_eq_true rfl)
  rw [lg_entry_eq]
  generalize (lg_sl ([.ref x0, .int t9, .int lv9, .int u9, .int v9]) ++ List.replicate (7 - (lg_sl ([.ref x0, .int t9, .int lv9, .int u9, .int v9])).length) Slot.unset).toArray = ls at hl ⊢
  have hl : lv_has ls 7 [(0, .ref x0), (1, .int t9), (2, .int lv9), (3, .int u9), (4, .int v9)] := hl
  refine lv_aload_n hx hb dB_texel_0 rfl (lv_at hl 0 rfl) ?_
  refine lv_iload_n hx hb dB_texel_1 rfl (lv_at hl 1 rfl) ?_
  refine W.callV (W.runV (C := "TextureBank") (As := [.int t9]) (rest := []) ⟨hx, hb, hml, hown, hB⟩ (kB_find_none l D cI cT x0 tx ta n c9 t9 hno) ⟨callB_of 1 hB gwB_find rfl rfl rfl (hB _ wd_1) (hB _ wd_131) ydB_find ⟨Nat.le_of_ble_eq_true rfl, Nat.le_of_ble_eq_true rfl⟩, hB _ wd_133, hB _ ws_4⟩ (rd_V hC (hP.sub [0] rfl) (hK.sub [0, 1] rfl) (va_recv hK hP (ci := 1) (q0 := 0) rfl rfl)) rfl rfl hl.1 rfl (lv_room (Nat.le_of_ble_eq_true rfl)) dB_texel_2 ⟨Nat.zero_le _, Nat.zero_le _⟩) ?_
  refine W.eq (g2 := F0 m 5 ls [.null]) rfl ?_
  refine lv_astoreN (lv' := [(5, .null), (0, .ref x0), (1, .int t9), (2, .int lv9), (3, .int u9), (4, .int v9)]) hx hb dB_texel_5 hl (by decide) rfl (fun ls hl => ?_)
  refine lv_aloadN hx hb dB_texel_7 (lv_at hl 0 rfl) ?_
  refine lv_ifnullN (tgt := 21) hx hb dB_texel_9 (by decide) ?_
  obtain ⟨sa9, hsa9⟩ := hT.2.2.2.2.2.2.2.2.1
  exact tw_throwS (names := ["java/lang/Exception"]) (Y9 := "java/lang/RuntimeException") hx hb hl9 hown (by decide +kernel) (by decide +kernel) (by decide +kernel) tw_ns_0 tw_ns_1 tw_ns_2 tw_ns_5 (hB _ wd_148) (hB _ wd_10) hsa9 (tw_nsat hB hT) tw_ns_ok hZ.1 hZ.2 va_S.rf (by rw [hml]; exact hl.1) dB_texel_21 dB_texel_24 dB_texel_25 dB_texel_27 dB_texel_30 (fun x9 h9 => (hno9 x9 h9).elim) (Nat.le_of_ble_eq_true rfl) (Nat.le_of_ble_eq_true rfl) (Nat.le_of_ble_eq_true rfl) (Nat.le_of_ble_eq_true rfl) hlocks (fun t h1 h2 h3 => ⟨(), trivial, rfl, h2, fun q hq _ => h3 q hq⟩) (fun q hq => nomatch hq) (Nat.le_refl _) (Nat.le_refl _)

set_option maxHeartbeats 4000000 in
set_option maxRecDepth 100000 in
theorem kB_texel_nolevel (l : Launch) (hl9 : l.stackTraces = false) (D : va_G) (cI cT : ClassId) (x0 tx ta : Nat) (n : Int32) (cN : Nat) (tq cq : Nat → Nat) (j : Nat) (hcN : cN ≤ 8) (hj : j < cN) (sd wr sf lv : Int32) (g : Nat → Int32) (lv9 u9 v9 : Int32) (hlv : tt_has lv lv9 = 0) : vx_Met l yB_texel wB_texel ({ frames := 6, cells := 1, slots := 6, locals := 90 }) (th_P [.ref x0, .int (nI j), .int lv9, .int u9, .int v9] D [(cI, .int), (cT, .object "TextureBank$Texture")] [(x0, .inr (1, [.ref tx, .int n, .ref ta, .int (nI cN)])), (ta, .inl (cT, 8, .inr (.inr (.inr (.inr (fun j => some (tq j))))))), (tq j, .inr (0, [.ref (cq j), .int sd, .int wr, .int sf, .int lv])), (cq j, .inl (cI, 1365, .inl g))]) th_Q (th_X "java/util/NoSuchElementException") 1 6 (fun _ => False) := by
  refine vx_ofW (cc := cB_texel) (maxL := 7) (ret := (some .int)) (by decide) rfl ?_
  intro p e s m args below meth c s₁ B hml hno9 hv
  obtain ⟨rfl, hC, hP, hK, hT, hZ⟩ := hv
  have hx := B.exec
  have hb := B.bytes
  have hr := B.returns
  have hB : ∀ w ∈ tbB, w.before _ s = true := fun w h => (atoms_spec (ws := wB_texel) B.pre) w (List.mem_cons_of_mem _ h)
  have hown : s.vm.findClass "TextureBank" = some m.cls := findClass_of_methodNamed B.named
  have hlocks := B.notSynchronized
  have hl := lv_entry ([.ref x0, .int (nI j), .int lv9, .int u9, .int v9]) (n := 7) (Nat.le_of_ble_eq_true rfl)
  rw [lg_entry_eq]
  generalize (lg_sl ([.ref x0, .int (nI j), .int lv9, .int u9, .int v9]) ++ List.replicate (7 - (lg_sl ([.ref x0, .int (nI j), .int lv9, .int u9, .int v9])).length) Slot.unset).toArray = ls at hl ⊢
  have hl : lv_has ls 7 [(0, .ref x0), (1, .int (nI j)), (2, .int lv9), (3, .int u9), (4, .int v9)] := hl
  refine lv_aload_n hx hb dB_texel_0 rfl (lv_at hl 0 rfl) ?_
  refine lv_iload_n hx hb dB_texel_1 rfl (lv_at hl 1 rfl) ?_
  refine W.callV (W.runV (C := "TextureBank") (As := [.int (nI j)]) (rest := []) ⟨hx, hb, hml, hown, hB⟩ (kB_find_some l D cI cT x0 tx ta n cN tq j hcN hj) ⟨callB_of 1 hB gwB_find rfl rfl rfl (hB _ wd_1) (hB _ wd_131) ydB_find ⟨Nat.le_of_ble_eq_true rfl, Nat.le_of_ble_eq_true rfl⟩, hB _ wd_133, hB _ ws_4⟩ (rd_V hC (hP.sub [0, 1] rfl) (hK.sub [0, 1] rfl) (va_recv hK hP (ci := 1) (q0 := 0) rfl rfl)) rfl rfl hl.1 rfl (lv_room (Nat.le_of_ble_eq_true rfl)) dB_texel_2 ⟨Nat.zero_le _, Nat.zero_le _⟩) ?_
  refine W.eq (g2 := F0 m 5 ls [.ref (tq j)]) rfl ?_
  refine lv_astore (lv' := [(5, .ref (tq j)), (0, .ref x0), (1, .int (nI j)), (2, .int lv9), (3, .int u9), (4, .int v9)]) hx hb dB_texel_5 hl (by decide) rfl (fun ls hl => ?_)
  refine lv_aload hx hb dB_texel_7 (lv_at hl 0 rfl) ?_
  refine lv_ifnull hx hb dB_texel_9 ?_
  refine lv_aload hx hb dB_texel_12 (lv_at hl 0 rfl) ?_
  refine lv_iload_n hx hb dB_texel_14 rfl (lv_at hl 3 rfl) ?_
  refine W.callV (run_of (va_runVN (C := "TextureBank$Texture") (As := [.int lv9]) (rest := []) ⟨hx, hb, hml, hown, hB⟩ (kT_hasLevel l D cI (tq j) (cq j) sd wr sf lv g lv9) ⟨va_cnB 1 hB gwT_hasLevel rfl rfl rfl (hC.2.2.2.2.2.2.2.2.2.1) (hB _ wd_2) ydT_hasLevel ⟨Nat.le_of_ble_eq_true rfl, Nat.le_of_ble_eq_true rfl⟩, hB _ wd_248, hB _ ws_7⟩ (rd_V hC (hP.sub [2, 3] rfl) (hK.sub [0] rfl) (va_recv hK hP (ci := 0) (q0 := 2) rfl rfl)) rfl rfl hl.1 rfl (lv_room (Nat.le_of_ble_eq_true rfl)) dB_texel_15 ⟨Nat.zero_le _, Nat.zero_le _⟩)) ?_
  refine W.eq (g2 := F0 m 18 ls [.int (tt_has lv lv9)]) rfl ?_
  refine lv_if_ne (tgt := 31) hx hb dB_texel_18 (by decide) (fun c_1 => ?_) (fun c_1 => ?_)
  · exact absurd hlv c_1
  · obtain ⟨sa9, hsa9⟩ := hT.2.2.2.2.2.2.2.2.1
    exact tw_throwS (names := ["java/lang/Exception"]) (Y9 := "java/lang/RuntimeException") hx hb hl9 hown (by decide +kernel) (by decide +kernel) (by decide +kernel) tw_ns_0 tw_ns_1 tw_ns_2 tw_ns_5 (hB _ wd_148) (hB _ wd_10) hsa9 (tw_nsat hB hT) tw_ns_ok hZ.1 hZ.2 va_S.rf (by rw [hml]; exact hl.1) dB_texel_21 dB_texel_24 dB_texel_25 dB_texel_27 dB_texel_30 (fun x9 h9 => (hno9 x9 h9).elim) (Nat.le_of_ble_eq_true rfl) (Nat.le_of_ble_eq_true rfl) (Nat.le_of_ble_eq_true rfl) (Nat.le_of_ble_eq_true rfl) hlocks (fun t h1 h2 h3 => ⟨(), trivial, rfl, h2, fun q hq _ => h3 q hq⟩) (fun q hq => nomatch hq) (Nat.le_refl _) (Nat.le_refl _)

set_option maxHeartbeats 4000000 in
set_option maxRecDepth 100000 in
theorem kB_texel_bad (l : Launch) (hl9 : l.stackTraces = false) (D : va_G) (cI cT : ClassId) (x0 tx ta : Nat) (n : Int32) (cN : Nat) (tq cq : Nat → Nat) (j : Nat) (hcN : cN ≤ 8) (hj : j < cN) (sd wr sf lv : Int32) (g : Nat → Int32) (lv9 u9 v9 : Int32) (hlv : ¬ tt_has lv lv9 = 0) (hbad : tt_at g (sd >>> (lv9 &&& 31)) u9 v9 = -1) : vx_Met l yB_texel wB_texel ({ frames := 6, cells := 1, slots := 6, locals := 90 }) (th_P [.ref x0, .int (nI j), .int lv9, .int u9, .int v9] D [(cI, .int), (cT, .object "TextureBank$Texture")] [(x0, .inr (1, [.ref tx, .int n, .ref ta, .int (nI cN)])), (ta, .inl (cT, 8, .inr (.inr (.inr (.inr (fun j => some (tq j))))))), (tq j, .inr (0, [.ref (cq j), .int sd, .int wr, .int sf, .int lv])), (cq j, .inl (cI, 1365, .inl g))]) th_Q (th_X "java/util/NoSuchElementException") 1 6 (fun _ => False) := by
  refine vx_ofW (cc := cB_texel) (maxL := 7) (ret := (some .int)) (by decide) rfl ?_
  intro p e s m args below meth c s₁ B hml hno9 hv
  obtain ⟨rfl, hC, hP, hK, hT, hZ⟩ := hv
  have hx := B.exec
  have hb := B.bytes
  have hr := B.returns
  have hB : ∀ w ∈ tbB, w.before _ s = true := fun w h => (atoms_spec (ws := wB_texel) B.pre) w (List.mem_cons_of_mem _ h)
  have hown : s.vm.findClass "TextureBank" = some m.cls := findClass_of_methodNamed B.named
  have hlocks := B.notSynchronized
  have hl := lv_entry ([.ref x0, .int (nI j), .int lv9, .int u9, .int v9]) (n := 7) (Nat.le_of_ble_eq_true rfl)
  rw [lg_entry_eq]
  generalize (lg_sl ([.ref x0, .int (nI j), .int lv9, .int u9, .int v9]) ++ List.replicate (7 - (lg_sl ([.ref x0, .int (nI j), .int lv9, .int u9, .int v9])).length) Slot.unset).toArray = ls at hl ⊢
  have hl : lv_has ls 7 [(0, .ref x0), (1, .int (nI j)), (2, .int lv9), (3, .int u9), (4, .int v9)] := hl
  refine lv_aload_n hx hb dB_texel_0 rfl (lv_at hl 0 rfl) ?_
  refine lv_iload_n hx hb dB_texel_1 rfl (lv_at hl 1 rfl) ?_
  refine W.callV (W.runV (C := "TextureBank") (As := [.int (nI j)]) (rest := []) ⟨hx, hb, hml, hown, hB⟩ (kB_find_some l D cI cT x0 tx ta n cN tq j hcN hj) ⟨callB_of 1 hB gwB_find rfl rfl rfl (hB _ wd_1) (hB _ wd_131) ydB_find ⟨Nat.le_of_ble_eq_true rfl, Nat.le_of_ble_eq_true rfl⟩, hB _ wd_133, hB _ ws_4⟩ (rd_V hC (hP.sub [0, 1] rfl) (hK.sub [0, 1] rfl) (va_recv hK hP (ci := 1) (q0 := 0) rfl rfl)) rfl rfl hl.1 rfl (lv_room (Nat.le_of_ble_eq_true rfl)) dB_texel_2 ⟨Nat.zero_le _, Nat.zero_le _⟩) ?_
  refine W.eq (g2 := F0 m 5 ls [.ref (tq j)]) rfl ?_
  refine lv_astore (lv' := [(5, .ref (tq j)), (0, .ref x0), (1, .int (nI j)), (2, .int lv9), (3, .int u9), (4, .int v9)]) hx hb dB_texel_5 hl (by decide) rfl (fun ls hl => ?_)
  refine lv_aload hx hb dB_texel_7 (lv_at hl 0 rfl) ?_
  refine lv_ifnull hx hb dB_texel_9 ?_
  refine lv_aload hx hb dB_texel_12 (lv_at hl 0 rfl) ?_
  refine lv_iload_n hx hb dB_texel_14 rfl (lv_at hl 3 rfl) ?_
  refine W.callV (run_of (va_runVN (C := "TextureBank$Texture") (As := [.int lv9]) (rest := []) ⟨hx, hb, hml, hown, hB⟩ (kT_hasLevel l D cI (tq j) (cq j) sd wr sf lv g lv9) ⟨va_cnB 1 hB gwT_hasLevel rfl rfl rfl (hC.2.2.2.2.2.2.2.2.2.1) (hB _ wd_2) ydT_hasLevel ⟨Nat.le_of_ble_eq_true rfl, Nat.le_of_ble_eq_true rfl⟩, hB _ wd_248, hB _ ws_7⟩ (rd_V hC (hP.sub [2, 3] rfl) (hK.sub [0] rfl) (va_recv hK hP (ci := 0) (q0 := 2) rfl rfl)) rfl rfl hl.1 rfl (lv_room (Nat.le_of_ble_eq_true rfl)) dB_texel_15 ⟨Nat.zero_le _, Nat.zero_le _⟩)) ?_
  refine W.eq (g2 := F0 m 18 ls [.int (tt_has lv lv9)]) rfl ?_
  refine lv_if_ne (tgt := 31) hx hb dB_texel_18 (by decide) (fun c_1 => ?_) (fun c_1 => ?_)
  · refine lv_aload hx hb dB_texel_31 (lv_at hl 0 rfl) ?_
    refine lv_aload hx hb dB_texel_33 (lv_at hl 0 rfl) ?_
    refine lv_iload_n hx hb dB_texel_35 rfl (lv_at hl 3 rfl) ?_
    refine W.callV (run_of (va_runVN (C := "TextureBank$Texture") (As := [.int lv9]) (rest := [.ref (tq j)]) ⟨hx, hb, hml, hown, hB⟩ (kT_sideOf l D cI (tq j) (cq j) sd wr sf lv g lv9) ⟨va_cnB 1 hB gwT_sideOf rfl rfl rfl (hC.2.2.2.2.2.2.2.2.2.2.1) (hB _ wd_2) ydT_sideOf ⟨Nat.le_of_ble_eq_true rfl, Nat.le_of_ble_eq_true rfl⟩, hB _ wd_258, hB _ ws_8⟩ (rd_V hC (hP.sub [2, 3] rfl) (hK.sub [0] rfl) (va_recv hK hP (ci := 0) (q0 := 2) rfl rfl)) rfl rfl hl.1 rfl (lv_room (Nat.le_of_ble_eq_true rfl)) dB_texel_36 ⟨Nat.zero_le _, Nat.zero_le _⟩)) ?_
    refine W.eq (g2 := F0 m 39 ls [.int (sd >>> (lv9 &&& 31)), .ref (tq j)]) rfl ?_
    refine lv_iload_n hx hb dB_texel_39 rfl (lv_at hl 4 rfl) ?_
    refine lv_iload hx hb dB_texel_40 (lv_at hl 5 rfl) ?_
    refine W.callV (run_of (va_runVN (C := "TextureBank$Texture") (As := [.int (sd >>> (lv9 &&& 31)), .int u9, .int v9]) (rest := []) ⟨hx, hb, hml, hown, hB⟩ (kT_colourIn l D cI (tq j) (cq j) sd wr sf lv g (sd >>> (lv9 &&& 31)) u9 v9) ⟨va_cnB 3 hB gwT_colourIn rfl rfl rfl (hC.2.2.2.2.2.2.2.2.2.2.2.2.1) (hB _ wd_2) ydT_colourIn ⟨Nat.le_of_ble_eq_true rfl, Nat.le_of_ble_eq_true rfl⟩, hB _ wd_110, hB _ ws_3⟩ (rd_V hC (hP.sub [2, 3] rfl) (hK.sub [0] rfl) (va_recv hK hP (ci := 0) (q0 := 2) rfl rfl)) rfl rfl hl.1 rfl (lv_room (Nat.le_of_ble_eq_true rfl)) dB_texel_42 ⟨Nat.zero_le _, Nat.zero_le _⟩)) ?_
    refine W.eq (g2 := F0 m 45 ls [.int (tt_at g (sd >>> (lv9 &&& 31)) u9 v9)]) rfl ?_
    refine lv_istore (lv' := [(6, .int (tt_at g (sd >>> (lv9 &&& 31)) u9 v9)), (5, .ref (tq j)), (0, .ref x0), (1, .int (nI j)), (2, .int lv9), (3, .int u9), (4, .int v9)]) hx hb dB_texel_45 hl (by decide) rfl (fun ls hl => ?_)
    refine lv_iload hx hb dB_texel_47 (lv_at hl 0 rfl) ?_
    refine lv_iconst (v := (-1)) hx hb dB_texel_49 (by decide) ?_
    refine lv_icmp_ne (tgt := 63) hx hb dB_texel_50 (by decide) (fun c_2 => ?_) (fun c_2 => ?_)
    · exact absurd hbad c_2
    · obtain ⟨sa9, hsa9⟩ := hT.2.2.2.2.2.2.2.2.2.2.1
      exact tw_throwS (names := ["java/lang/Exception"]) (Y9 := "java/lang/RuntimeException") hx hb hl9 hown (by decide +kernel) (by decide +kernel) (by decide +kernel) tw_ns_0 tw_ns_1 tw_ns_2 tw_ns_5 (hB _ wd_148) (hB _ wd_10) hsa9 (tw_nsat hB hT) tw_ns_ok hZ.1 hZ.2 va_S.rf (by rw [hml]; exact hl.1) dB_texel_53 dB_texel_56 dB_texel_57 dB_texel_59 dB_texel_62 (fun x9 h9 => (hno9 x9 h9).elim) (Nat.le_of_ble_eq_true rfl) (Nat.le_of_ble_eq_true rfl) (Nat.le_of_ble_eq_true rfl) (Nat.le_of_ble_eq_true rfl) hlocks (fun t h1 h2 h3 => ⟨(), trivial, rfl, h2, fun q hq _ => h3 q hq⟩) (fun q hq => nomatch hq) (Nat.le_refl _) (Nat.le_refl _)
  · exact absurd c_1 hlv

set_option maxHeartbeats 4000000 in
set_option maxRecDepth 100000 in
theorem kB_texel_ok (l : Launch) (D : va_G) (cI cT : ClassId) (x0 tx ta : Nat) (n : Int32) (cN : Nat) (tq cq : Nat → Nat) (j : Nat) (hcN : cN ≤ 8) (hj : j < cN) (sd wr sf lv : Int32) (g : Nat → Int32) (lv9 u9 v9 : Int32) (hlv : ¬ tt_has lv lv9 = 0) (hok : ¬ tt_at g (sd >>> (lv9 &&& 31)) u9 v9 = -1) : Met l yB_texel wB_texel (k2_rm 2 43) (rd_P [.ref x0, .int (nI j), .int lv9, .int u9, .int v9] D [(cI, .int), (cT, .object "TextureBank$Texture")] [(x0, .inr (1, [.ref tx, .int n, .ref ta, .int (nI cN)])), (ta, .inl (cT, 8, .inr (.inr (.inr (.inr (fun j => some (tq j))))))), (tq j, .inr (0, [.ref (cq j), .int sd, .int wr, .int sf, .int lv])), (cq j, .inl (cI, 1365, .inl g))]) (k2_QcV (.int (tt_at g (sd >>> (lv9 &&& 31)) u9 v9))) 0 0 (fun _ => False) := by
  refine Met.ofW (cc := cB_texel) (maxL := 7) (ret := (some .int)) (by decide) rfl ?_
  intro p e s m args below meth c s₁ B hml hv
  obtain ⟨rfl, hC, hP, hK⟩ := hv
  have hx := B.exec
  have hb := B.bytes
  have hr := B.returns
  have hB : ∀ w ∈ tbB, w.before _ s = true := fun w h => (atoms_spec (ws := wB_texel) B.pre) w (List.mem_cons_of_mem _ h)
  have hown : s.vm.findClass "TextureBank" = some m.cls := findClass_of_methodNamed B.named
  have hlocks := B.notSynchronized
  have hl := lv_entry ([.ref x0, .int (nI j), .int lv9, .int u9, .int v9]) (n := 7) (Nat.le_of_ble_eq_true rfl)
  rw [lg_entry_eq]
  generalize (lg_sl ([.ref x0, .int (nI j), .int lv9, .int u9, .int v9]) ++ List.replicate (7 - (lg_sl ([.ref x0, .int (nI j), .int lv9, .int u9, .int v9])).length) Slot.unset).toArray = ls at hl ⊢
  have hl : lv_has ls 7 [(0, .ref x0), (1, .int (nI j)), (2, .int lv9), (3, .int u9), (4, .int v9)] := hl
  refine lv_aload_n hx hb dB_texel_0 rfl (lv_at hl 0 rfl) ?_
  refine lv_iload_n hx hb dB_texel_1 rfl (lv_at hl 1 rfl) ?_
  refine W.callV (W.runV (C := "TextureBank") (As := [.int (nI j)]) (rest := []) ⟨hx, hb, hml, hown, hB⟩ (kB_find_some l D cI cT x0 tx ta n cN tq j hcN hj) ⟨callB_of 1 hB gwB_find rfl rfl rfl (hB _ wd_1) (hB _ wd_131) ydB_find ⟨Nat.le_of_ble_eq_true rfl, Nat.le_of_ble_eq_true rfl⟩, hB _ wd_133, hB _ ws_4⟩ (rd_V hC (hP.sub [0, 1] rfl) (hK.sub [0, 1] rfl) (va_recv hK hP (ci := 1) (q0 := 0) rfl rfl)) rfl rfl hl.1 rfl (lv_room (Nat.le_of_ble_eq_true rfl)) dB_texel_2 ⟨Nat.zero_le _, Nat.zero_le _⟩) ?_
  refine W.eq (g2 := F0 m 5 ls [.ref (tq j)]) rfl ?_
  refine lv_astore (lv' := [(5, .ref (tq j)), (0, .ref x0), (1, .int (nI j)), (2, .int lv9), (3, .int u9), (4, .int v9)]) hx hb dB_texel_5 hl (by decide) rfl (fun ls hl => ?_)
  refine lv_aload hx hb dB_texel_7 (lv_at hl 0 rfl) ?_
  refine lv_ifnull hx hb dB_texel_9 ?_
  refine lv_aload hx hb dB_texel_12 (lv_at hl 0 rfl) ?_
  refine lv_iload_n hx hb dB_texel_14 rfl (lv_at hl 3 rfl) ?_
  refine W.callV (run_of (va_runVN (C := "TextureBank$Texture") (As := [.int lv9]) (rest := []) ⟨hx, hb, hml, hown, hB⟩ (kT_hasLevel l D cI (tq j) (cq j) sd wr sf lv g lv9) ⟨va_cnB 1 hB gwT_hasLevel rfl rfl rfl (hC.2.2.2.2.2.2.2.2.2.1) (hB _ wd_2) ydT_hasLevel ⟨Nat.le_of_ble_eq_true rfl, Nat.le_of_ble_eq_true rfl⟩, hB _ wd_248, hB _ ws_7⟩ (rd_V hC (hP.sub [2, 3] rfl) (hK.sub [0] rfl) (va_recv hK hP (ci := 0) (q0 := 2) rfl rfl)) rfl rfl hl.1 rfl (lv_room (Nat.le_of_ble_eq_true rfl)) dB_texel_15 ⟨Nat.zero_le _, Nat.zero_le _⟩)) ?_
  refine W.eq (g2 := F0 m 18 ls [.int (tt_has lv lv9)]) rfl ?_
  refine lv_if_ne (tgt := 31) hx hb dB_texel_18 (by decide) (fun c_1 => ?_) (fun c_1 => ?_)
  · refine lv_aload hx hb dB_texel_31 (lv_at hl 0 rfl) ?_
    refine lv_aload hx hb dB_texel_33 (lv_at hl 0 rfl) ?_
    refine lv_iload_n hx hb dB_texel_35 rfl (lv_at hl 3 rfl) ?_
    refine W.callV (run_of (va_runVN (C := "TextureBank$Texture") (As := [.int lv9]) (rest := [.ref (tq j)]) ⟨hx, hb, hml, hown, hB⟩ (kT_sideOf l D cI (tq j) (cq j) sd wr sf lv g lv9) ⟨va_cnB 1 hB gwT_sideOf rfl rfl rfl (hC.2.2.2.2.2.2.2.2.2.2.1) (hB _ wd_2) ydT_sideOf ⟨Nat.le_of_ble_eq_true rfl, Nat.le_of_ble_eq_true rfl⟩, hB _ wd_258, hB _ ws_8⟩ (rd_V hC (hP.sub [2, 3] rfl) (hK.sub [0] rfl) (va_recv hK hP (ci := 0) (q0 := 2) rfl rfl)) rfl rfl hl.1 rfl (lv_room (Nat.le_of_ble_eq_true rfl)) dB_texel_36 ⟨Nat.zero_le _, Nat.zero_le _⟩)) ?_
    refine W.eq (g2 := F0 m 39 ls [.int (sd >>> (lv9 &&& 31)), .ref (tq j)]) rfl ?_
    refine lv_iload_n hx hb dB_texel_39 rfl (lv_at hl 4 rfl) ?_
    refine lv_iload hx hb dB_texel_40 (lv_at hl 5 rfl) ?_
    refine W.callV (run_of (va_runVN (C := "TextureBank$Texture") (As := [.int (sd >>> (lv9 &&& 31)), .int u9, .int v9]) (rest := []) ⟨hx, hb, hml, hown, hB⟩ (kT_colourIn l D cI (tq j) (cq j) sd wr sf lv g (sd >>> (lv9 &&& 31)) u9 v9) ⟨va_cnB 3 hB gwT_colourIn rfl rfl rfl (hC.2.2.2.2.2.2.2.2.2.2.2.2.1) (hB _ wd_2) ydT_colourIn ⟨Nat.le_of_ble_eq_true rfl, Nat.le_of_ble_eq_true rfl⟩, hB _ wd_110, hB _ ws_3⟩ (rd_V hC (hP.sub [2, 3] rfl) (hK.sub [0] rfl) (va_recv hK hP (ci := 0) (q0 := 2) rfl rfl)) rfl rfl hl.1 rfl (lv_room (Nat.le_of_ble_eq_true rfl)) dB_texel_42 ⟨Nat.zero_le _, Nat.zero_le _⟩)) ?_
    refine W.eq (g2 := F0 m 45 ls [.int (tt_at g (sd >>> (lv9 &&& 31)) u9 v9)]) rfl ?_
    refine lv_istore (lv' := [(6, .int (tt_at g (sd >>> (lv9 &&& 31)) u9 v9)), (5, .ref (tq j)), (0, .ref x0), (1, .int (nI j)), (2, .int lv9), (3, .int u9), (4, .int v9)]) hx hb dB_texel_45 hl (by decide) rfl (fun ls hl => ?_)
    refine lv_iload hx hb dB_texel_47 (lv_at hl 0 rfl) ?_
    refine lv_iconst (v := (-1)) hx hb dB_texel_49 (by decide) ?_
    refine lv_icmp_ne (tgt := 63) hx hb dB_texel_50 (by decide) (fun c_2 => ?_) (fun c_2 => ?_)
    · refine lv_iload hx hb dB_texel_63 (lv_at hl 0 rfl) ?_
      exact W.iret hx hb hr (fun t ht _ => ⟨tbI (rfl), ht⟩) (fun q hq => nomatch hq) dB_texel_65
    · exact absurd c_2 hok
  · exact absurd c_1 hlv

set_option maxHeartbeats 4000000 in
set_option maxRecDepth 100000 in
theorem kB_lit_bad (l : Launch) (hl9 : l.stackTraces = false) (D : va_G) (cI cT : ClassId) (x0 tx ta : Nat) (n c9 : Int32) (co ti li : Int32) (hbad : tt_isCol co = 0 ∨ tt_isCol ti = 0 ∨ li < 0 ∨ ¬ li.toInt64 ≤ 65536) : vx_Met l yB_lit wB_lit ({ frames := 6, cells := 1, slots := 6, locals := 90 }) (th_P [.ref x0, .int co, .int ti, .int li] D [(cI, .int), (cT, .object "TextureBank$Texture")] [(x0, .inr (1, [.ref tx, .int n, .ref ta, .int c9]))]) th_Q (th_X "java/lang/IllegalArgumentException") 1 6 (fun _ => False) := by
  refine vx_ofW (cc := cB_lit) (maxL := 4) (ret := (some .int)) (by decide) rfl ?_
  intro p e s m args below meth c s₁ B hml hno9 hv
  obtain ⟨rfl, hC, hP, hK, hT, hZ⟩ := hv
  have hx := B.exec
  have hb := B.bytes
  have hr := B.returns
  have hB : ∀ w ∈ tbB, w.before _ s = true := fun w h => (atoms_spec (ws := wB_lit) B.pre) w (List.mem_cons_of_mem _ h)
  have hown : s.vm.findClass "TextureBank" = some m.cls := findClass_of_methodNamed B.named
  have hlocks := B.notSynchronized
  have hl := lv_entry ([.ref x0, .int co, .int ti, .int li]) (n := 4) (Nat.le_of_ble_eq_true rfl)
  rw [lg_entry_eq]
  generalize (lg_sl ([.ref x0, .int co, .int ti, .int li]) ++ List.replicate (4 - (lg_sl ([.ref x0, .int co, .int ti, .int li])).length) Slot.unset).toArray = ls at hl ⊢
  have hl : lv_has ls 4 [(0, .ref x0), (1, .int co), (2, .int ti), (3, .int li)] := hl
  refine lv_iload_n hx hb dB_lit_0 rfl (lv_at hl 1 rfl) ?_
  refine W.callV (W.runS (As := [.int co]) (rest := []) ⟨hx, hb, hml, hown, hB⟩ (kB_isColour l co) ⟨callB_of 1 hB gwB_isColour rfl rfl rfl (hB _ wd_1) (hB _ wd_303) ydB_isColour ⟨Nat.le_of_ble_eq_true rfl, Nat.le_of_ble_eq_true rfl⟩, hB _ wd_304⟩ (preEq) rfl rfl hl.1 rfl (lv_room (Nat.le_of_ble_eq_true rfl)) dB_lit_1 ⟨Nat.zero_le _, Nat.zero_le _⟩) ?_
  refine W.eq (g2 := F0 m 4 ls [.int (tt_isCol co)]) rfl ?_
  refine lv_if_eq (tgt := 14) hx hb dB_lit_4 (by decide) (fun c_1 => ?_) (fun c_1 => ?_)
  · obtain ⟨sa9, hsa9⟩ := hT.2.2.2.2.2.2.2.2.2.2.2.1
    exact tw_throwS (names := ["java/lang/Exception"]) (Y9 := "java/lang/RuntimeException") hx hb hl9 hown (by decide +kernel) (by decide +kernel) (by decide +kernel) tw_ia_0 tw_ia_1 tw_ia_2 tw_ia_5 (hB _ wd_216) (hB _ wd_11) hsa9 (tw_iaat hB hT) tw_ia_ok hZ.1 hZ.2 va_S.rf (by rw [hml]; exact hl.1) dB_lit_14 dB_lit_17 dB_lit_18 dB_lit_20 dB_lit_23 (fun x9 h9 => (hno9 x9 h9).elim) (Nat.le_of_ble_eq_true rfl) (Nat.le_of_ble_eq_true rfl) (Nat.le_of_ble_eq_true rfl) (Nat.le_of_ble_eq_true rfl) hlocks (fun t h1 h2 h3 => ⟨(), trivial, rfl, h2, fun q hq _ => h3 q hq⟩) (fun q hq => nomatch hq) (Nat.le_refl _) (Nat.le_refl _)
  · refine lv_iload_n hx hb dB_lit_7 rfl (lv_at hl 2 rfl) ?_
    refine W.callV (W.runS (As := [.int ti]) (rest := []) ⟨hx, hb, hml, hown, hB⟩ (kB_isColour l ti) ⟨callB_of 1 hB gwB_isColour rfl rfl rfl (hB _ wd_1) (hB _ wd_303) ydB_isColour ⟨Nat.le_of_ble_eq_true rfl, Nat.le_of_ble_eq_true rfl⟩, hB _ wd_304⟩ (preEq) rfl rfl hl.1 rfl (lv_room (Nat.le_of_ble_eq_true rfl)) dB_lit_8 ⟨Nat.zero_le _, Nat.zero_le _⟩) ?_
    refine W.eq (g2 := F0 m 11 ls [.int (tt_isCol ti)]) rfl ?_
    refine lv_if_ne (tgt := 24) hx hb dB_lit_11 (by decide) (fun c_2 => ?_) (fun c_2 => ?_)
    · refine lv_iload_n hx hb dB_lit_24 rfl (lv_at hl 3 rfl) ?_
      refine lv_if_lt (tgt := 37) hx hb dB_lit_25 (by decide) (fun c_3 => ?_) (fun c_3 => ?_)
      · obtain ⟨sa9, hsa9⟩ := hT.2.2.2.2.2.2.2.2.2.2.2.2.1
        exact tw_throwS (names := ["java/lang/Exception"]) (Y9 := "java/lang/RuntimeException") hx hb hl9 hown (by decide +kernel) (by decide +kernel) (by decide +kernel) tw_ia_0 tw_ia_1 tw_ia_2 tw_ia_5 (hB _ wd_216) (hB _ wd_11) hsa9 (tw_iaat hB hT) tw_ia_ok hZ.1 hZ.2 va_S.rf (by rw [hml]; exact hl.1) dB_lit_37 dB_lit_40 dB_lit_41 dB_lit_43 dB_lit_46 (fun x9 h9 => (hno9 x9 h9).elim) (Nat.le_of_ble_eq_true rfl) (Nat.le_of_ble_eq_true rfl) (Nat.le_of_ble_eq_true rfl) (Nat.le_of_ble_eq_true rfl) hlocks (fun t h1 h2 h3 => ⟨(), trivial, rfl, h2, fun q hq _ => h3 q hq⟩) (fun q hq => nomatch hq) (Nat.le_refl _) (Nat.le_refl _)
      · refine lv_iload_n hx hb dB_lit_28 rfl (lv_at hl 3 rfl) ?_
        refine lv_i2l hx hb dB_lit_29 rfl ?_
        refine lv_ldc2 (v := 65536) hx hb hown (hB _ wd_308) dB_lit_30 ?_
        refine W.lcmp hx hb dB_lit_33 ?_
        refine lv_if_le (tgt := 47) hx hb dB_lit_34 (by decide) (fun c_4 => ?_) (fun c_4 => ?_)
        · exact absurd ((lg_cmp_le _ _).mp c_4) (hbad.elim (fun h => absurd h c_1) (fun h => h.elim (fun h => absurd h c_2) (fun h => h.elim (fun h => absurd h c_3) id)))
        · obtain ⟨sa9, hsa9⟩ := hT.2.2.2.2.2.2.2.2.2.2.2.2.1
          exact tw_throwS (names := ["java/lang/Exception"]) (Y9 := "java/lang/RuntimeException") hx hb hl9 hown (by decide +kernel) (by decide +kernel) (by decide +kernel) tw_ia_0 tw_ia_1 tw_ia_2 tw_ia_5 (hB _ wd_216) (hB _ wd_11) hsa9 (tw_iaat hB hT) tw_ia_ok hZ.1 hZ.2 va_S.rf (by rw [hml]; exact hl.1) dB_lit_37 dB_lit_40 dB_lit_41 dB_lit_43 dB_lit_46 (fun x9 h9 => (hno9 x9 h9).elim) (Nat.le_of_ble_eq_true rfl) (Nat.le_of_ble_eq_true rfl) (Nat.le_of_ble_eq_true rfl) (Nat.le_of_ble_eq_true rfl) hlocks (fun t h1 h2 h3 => ⟨(), trivial, rfl, h2, fun q hq _ => h3 q hq⟩) (fun q hq => nomatch hq) (Nat.le_refl _) (Nat.le_refl _)
    · obtain ⟨sa9, hsa9⟩ := hT.2.2.2.2.2.2.2.2.2.2.2.1
      exact tw_throwS (names := ["java/lang/Exception"]) (Y9 := "java/lang/RuntimeException") hx hb hl9 hown (by decide +kernel) (by decide +kernel) (by decide +kernel) tw_ia_0 tw_ia_1 tw_ia_2 tw_ia_5 (hB _ wd_216) (hB _ wd_11) hsa9 (tw_iaat hB hT) tw_ia_ok hZ.1 hZ.2 va_S.rf (by rw [hml]; exact hl.1) dB_lit_14 dB_lit_17 dB_lit_18 dB_lit_20 dB_lit_23 (fun x9 h9 => (hno9 x9 h9).elim) (Nat.le_of_ble_eq_true rfl) (Nat.le_of_ble_eq_true rfl) (Nat.le_of_ble_eq_true rfl) (Nat.le_of_ble_eq_true rfl) hlocks (fun t h1 h2 h3 => ⟨(), trivial, rfl, h2, fun q hq _ => h3 q hq⟩) (fun q hq => nomatch hq) (Nat.le_refl _) (Nat.le_refl _)

set_option maxHeartbeats 4000000 in
set_option maxRecDepth 100000 in
theorem kB_lit_ok (l : Launch) (D : va_G) (cI cT : ClassId) (x0 tx ta : Nat) (n c9 : Int32) (co ti li : Int32) (h1 : ¬ tt_isCol co = 0) (h2 : ¬ tt_isCol ti = 0) (h3 : ¬ li < 0) (h4 : li.toInt64 ≤ 65536) : Met l yB_lit wB_lit (k2_rm 2 50) (rd_P [.ref x0, .int co, .int ti, .int li] D [(cI, .int), (cT, .object "TextureBank$Texture")] [(x0, .inr (1, [.ref tx, .int n, .ref ta, .int c9]))]) (k2_QcV (.int (tt_col (tt_litN co ti li 16) (tt_litN co ti li 8) (tt_litN co ti li 0)))) 0 0 (fun _ => False) := by
  refine Met.ofW (cc := cB_lit) (maxL := 4) (ret := (some .int)) (by decide) rfl ?_
  intro p e s m args below meth c s₁ B hml hv
  obtain ⟨rfl, hC, hP, hK⟩ := hv
  have hx := B.exec
  have hb := B.bytes
  have hr := B.returns
  have hB : ∀ w ∈ tbB, w.before _ s = true := fun w h => (atoms_spec (ws := wB_lit) B.pre) w (List.mem_cons_of_mem _ h)
  have hown : s.vm.findClass "TextureBank" = some m.cls := findClass_of_methodNamed B.named
  have hlocks := B.notSynchronized
  have hl := lv_entry ([.ref x0, .int co, .int ti, .int li]) (n := 4) (Nat.le_of_ble_eq_true rfl)
  rw [lg_entry_eq]
  generalize (lg_sl ([.ref x0, .int co, .int ti, .int li]) ++ List.replicate (4 - (lg_sl ([.ref x0, .int co, .int ti, .int li])).length) Slot.unset).toArray = ls at hl ⊢
  have hl : lv_has ls 4 [(0, .ref x0), (1, .int co), (2, .int ti), (3, .int li)] := hl
  refine lv_iload_n hx hb dB_lit_0 rfl (lv_at hl 1 rfl) ?_
  refine W.callV (W.runS (As := [.int co]) (rest := []) ⟨hx, hb, hml, hown, hB⟩ (kB_isColour l co) ⟨callB_of 1 hB gwB_isColour rfl rfl rfl (hB _ wd_1) (hB _ wd_303) ydB_isColour ⟨Nat.le_of_ble_eq_true rfl, Nat.le_of_ble_eq_true rfl⟩, hB _ wd_304⟩ (preEq) rfl rfl hl.1 rfl (lv_room (Nat.le_of_ble_eq_true rfl)) dB_lit_1 ⟨Nat.zero_le _, Nat.zero_le _⟩) ?_
  refine W.eq (g2 := F0 m 4 ls [.int (tt_isCol co)]) rfl ?_
  refine lv_if_eq (tgt := 14) hx hb dB_lit_4 (by decide) (fun c_1 => ?_) (fun c_1 => ?_)
  · exact absurd c_1 h1
  · refine lv_iload_n hx hb dB_lit_7 rfl (lv_at hl 2 rfl) ?_
    refine W.callV (W.runS (As := [.int ti]) (rest := []) ⟨hx, hb, hml, hown, hB⟩ (kB_isColour l ti) ⟨callB_of 1 hB gwB_isColour rfl rfl rfl (hB _ wd_1) (hB _ wd_303) ydB_isColour ⟨Nat.le_of_ble_eq_true rfl, Nat.le_of_ble_eq_true rfl⟩, hB _ wd_304⟩ (preEq) rfl rfl hl.1 rfl (lv_room (Nat.le_of_ble_eq_true rfl)) dB_lit_8 ⟨Nat.zero_le _, Nat.zero_le _⟩) ?_
    refine W.eq (g2 := F0 m 11 ls [.int (tt_isCol ti)]) rfl ?_
    refine lv_if_ne (tgt := 24) hx hb dB_lit_11 (by decide) (fun c_2 => ?_) (fun c_2 => ?_)
    · refine lv_iload_n hx hb dB_lit_24 rfl (lv_at hl 3 rfl) ?_
      refine lv_if_lt (tgt := 37) hx hb dB_lit_25 (by decide) (fun c_3 => ?_) (fun c_3 => ?_)
      · exact absurd c_3 h3
      · refine lv_iload_n hx hb dB_lit_28 rfl (lv_at hl 3 rfl) ?_
        refine lv_i2l hx hb dB_lit_29 rfl ?_
        refine lv_ldc2 (v := 65536) hx hb hown (hB _ wd_308) dB_lit_30 ?_
        refine W.lcmp hx hb dB_lit_33 ?_
        refine lv_if_le (tgt := 47) hx hb dB_lit_34 (by decide) (fun c_4 => ?_) (fun c_4 => ?_)
        · refine lv_iload_n hx hb dB_lit_47 rfl (lv_at hl 1 rfl) ?_
          refine lv_iload_n hx hb dB_lit_48 rfl (lv_at hl 2 rfl) ?_
          refine lv_iload_n hx hb dB_lit_49 rfl (lv_at hl 3 rfl) ?_
          refine lv_bipush (v := 16) hx hb dB_lit_50 (by decide) ?_
          refine W.callV (W.runS (As := [.int co, .int ti, .int li, .int 16]) (rest := []) ⟨hx, hb, hml, hown, hB⟩ (kB_litNumber l co ti li 16) ⟨callB_of 4 hB gwB_litNumber rfl rfl rfl (hB _ wd_1) (hB _ wd_310) ydB_litNumber ⟨Nat.le_of_ble_eq_true rfl, Nat.le_of_ble_eq_true rfl⟩, hB _ wd_311⟩ (preEq) rfl rfl hl.1 rfl (lv_room (Nat.le_of_ble_eq_true rfl)) dB_lit_52 ⟨Nat.zero_le _, Nat.zero_le _⟩) ?_
          refine W.eq (g2 := F0 m 55 ls [.int (tt_litN co ti li 16)]) rfl ?_
          refine lv_iload_n hx hb dB_lit_55 rfl (lv_at hl 1 rfl) ?_
          refine lv_iload_n hx hb dB_lit_56 rfl (lv_at hl 2 rfl) ?_
          refine lv_iload_n hx hb dB_lit_57 rfl (lv_at hl 3 rfl) ?_
          refine lv_bipush (v := 8) hx hb dB_lit_58 (by decide) ?_
          refine W.callV (W.runS (As := [.int co, .int ti, .int li, .int 8]) (rest := [.int (tt_litN co ti li 16)]) ⟨hx, hb, hml, hown, hB⟩ (kB_litNumber l co ti li 8) ⟨callB_of 4 hB gwB_litNumber rfl rfl rfl (hB _ wd_1) (hB _ wd_310) ydB_litNumber ⟨Nat.le_of_ble_eq_true rfl, Nat.le_of_ble_eq_true rfl⟩, hB _ wd_311⟩ (preEq) rfl rfl hl.1 rfl (lv_room (Nat.le_of_ble_eq_true rfl)) dB_lit_60 ⟨Nat.zero_le _, Nat.zero_le _⟩) ?_
          refine W.eq (g2 := F0 m 63 ls [.int (tt_litN co ti li 8), .int (tt_litN co ti li 16)]) rfl ?_
          refine lv_iload_n hx hb dB_lit_63 rfl (lv_at hl 1 rfl) ?_
          refine lv_iload_n hx hb dB_lit_64 rfl (lv_at hl 2 rfl) ?_
          refine lv_iload_n hx hb dB_lit_65 rfl (lv_at hl 3 rfl) ?_
          refine lv_iconst (v := 0) hx hb dB_lit_66 (by decide) ?_
          refine W.callV (W.runS (As := [.int co, .int ti, .int li, .int 0]) (rest := [.int (tt_litN co ti li 8), .int (tt_litN co ti li 16)]) ⟨hx, hb, hml, hown, hB⟩ (kB_litNumber l co ti li 0) ⟨callB_of 4 hB gwB_litNumber rfl rfl rfl (hB _ wd_1) (hB _ wd_310) ydB_litNumber ⟨Nat.le_of_ble_eq_true rfl, Nat.le_of_ble_eq_true rfl⟩, hB _ wd_311⟩ (preEq) rfl rfl hl.1 rfl (lv_room (Nat.le_of_ble_eq_true rfl)) dB_lit_67 ⟨Nat.zero_le _, Nat.zero_le _⟩) ?_
          refine W.eq (g2 := F0 m 70 ls [.int (tt_litN co ti li 0), .int (tt_litN co ti li 8), .int (tt_litN co ti li 16)]) rfl ?_
          refine W.callV (W.runS (As := [.int (tt_litN co ti li 16), .int (tt_litN co ti li 8), .int (tt_litN co ti li 0)]) (rest := []) ⟨hx, hb, hml, hown, hB⟩ (kB_colourOf l (tt_litN co ti li 16) (tt_litN co ti li 8) (tt_litN co ti li 0)) ⟨callB_of 3 hB gwB_colourOf rfl rfl rfl (hB _ wd_1) (hB _ wd_68) ydB_colourOf ⟨Nat.le_of_ble_eq_true rfl, Nat.le_of_ble_eq_true rfl⟩, hB _ wd_69⟩ (preEq) rfl rfl hl.1 rfl (lv_room (Nat.le_of_ble_eq_true rfl)) dB_lit_70 ⟨Nat.zero_le _, Nat.zero_le _⟩) ?_
          refine W.eq (g2 := F0 m 73 ls [.int (tt_col (tt_litN co ti li 16) (tt_litN co ti li 8) (tt_litN co ti li 0))]) rfl ?_
          exact W.iret hx hb hr (fun t ht _ => ⟨tbI (rfl), ht⟩) (fun q hq => nomatch hq) dB_lit_73
        · exact absurd ((lg_cmp_le _ _).mpr h4) c_4
    · exact absurd c_2 h2
