def tb_count (n c w : Int32) : Int32 := if w = 0 then c else if w = 1 then n else -1
def tb_about (sd wr sf lv w : Int32) : Int32 := if w = 0 then sd else if w = 1 then wr else if w = 2 then sf else if w = 3 then lv else -1
set_option maxHeartbeats 4000000 in
set_option maxRecDepth 100000 in
theorem kB_find_none (l : Launch) (D : va_G) (cI cT : ClassId) (x0 tx ta : Nat) (n c9 : Int32) (t9 : Int32) (hno : t9 < 0 ∨ c9 ≤ t9) : Met l yB_find wB_find (k2_rm 0 0) (rd_P [.ref x0, .int t9] D [(cI, .int), (cT, .object "TextureBank$Texture")] [(x0, .inr (1, [.ref tx, .int n, .ref ta, .int c9]))]) (k2_QcV (.null)) 0 0 (fun _ => False) := by
  refine Met.ofW (cc := cB_find) (maxL := 2) (ret := (some (.object "TextureBank$Texture"))) (by decide) rfl ?_
  intro p e s m args below meth c s₁ B hml hv
  obtain ⟨rfl, hC, hP, hK⟩ := hv
  have hx := B.exec
  have hb := B.bytes
  have hr := B.returns
  have hB : ∀ w ∈ tbB, w.before _ s = true := fun w h => (atoms_spec (ws := wB_find) B.pre) w (List.mem_cons_of_mem _ h)
  have hown : s.vm.findClass "TextureBank" = some m.cls := findClass_of_methodNamed B.named
  have hlocks := B.notSynchronized
  have hl := lv_entry ([.ref x0, .int t9]) (n := 2) (Nat.le_of_ble_eq_true rfl)
  rw [lg_entry_eq]
  generalize (lg_sl ([.ref x0, .int t9]) ++ List.replicate (2 - (lg_sl ([.ref x0, .int t9])).length) Slot.unset).toArray = ls at hl ⊢
  have hl : lv_has ls 2 [(0, .ref x0), (1, .int t9)] := hl
  refine lv_iload_n hx hb dB_find_0 rfl (lv_at hl 1 rfl) ?_
  refine lv_if_lt (tgt := 12) hx hb dB_find_1 (by decide) (fun c_1 => ?_) (fun c_1 => ?_)
  · refine lv_null hx hb dB_find_12 ?_
    exact W.aret hx hb hr (Or.inl ⟨_, rfl⟩) (Or.inl rfl) (fun t ht _ => ⟨tbR (rfl), ht⟩) (fun q hq => nomatch hq) dB_find_13
  · refine lv_iload_n hx hb dB_find_4 rfl (lv_at hl 1 rfl) ?_
    refine lv_aload_n hx hb dB_find_5 rfl (lv_at hl 0 rfl) ?_
    refine va_get (D := D) (ci := 1) (v := .int c9) (C := RB) (T := FB) (N := 4) hx hb hB inB hown hK hP 0 rfl rfl 3 (by decide) (hB _ wd_51) (fun _ h9 => h9) rfl dB_find_6 ?_
    refine lv_icmp_lt (tgt := 14) hx hb dB_find_9 (by decide) (fun c_2 => ?_) (fun c_2 => ?_)
    · exact absurd c_2 (fun h9 => hno.elim c_1 (k2_nlt · h9))
    · refine lv_null hx hb dB_find_12 ?_
      exact W.aret hx hb hr (Or.inl ⟨_, rfl⟩) (Or.inl rfl) (fun t ht _ => ⟨tbR (rfl), ht⟩) (fun q hq => nomatch hq) dB_find_13

set_option maxHeartbeats 4000000 in
set_option maxRecDepth 100000 in
theorem kB_find_some (l : Launch) (D : va_G) (cI cT : ClassId) (x0 tx ta : Nat) (n : Int32) (cN : Nat) (tq : Nat → Nat) (j : Nat) (hcN : cN ≤ 8) (hj : j < cN) : Met l yB_find wB_find (k2_rm 0 0) (rd_P [.ref x0, .int (nI j)] D [(cI, .int), (cT, .object "TextureBank$Texture")] [(x0, .inr (1, [.ref tx, .int n, .ref ta, .int (nI cN)])), (ta, .inl (cT, 8, .inr (.inr (.inr (.inr (fun j => some (tq j)))))))]) (k2_QcV (.ref (tq j))) 0 0 (fun _ => False) := by
  refine Met.ofW (cc := cB_find) (maxL := 2) (ret := (some (.object "TextureBank$Texture"))) (by decide) rfl ?_
  intro p e s m args below meth c s₁ B hml hv
  obtain ⟨rfl, hC, hP, hK⟩ := hv
  have hx := B.exec
  have hb := B.bytes
  have hr := B.returns
  have hB : ∀ w ∈ tbB, w.before _ s = true := fun w h => (atoms_spec (ws := wB_find) B.pre) w (List.mem_cons_of_mem _ h)
  have hown : s.vm.findClass "TextureBank" = some m.cls := findClass_of_methodNamed B.named
  have hlocks := B.notSynchronized
  have hl := lv_entry ([.ref x0, .int (nI j)]) (n := 2) (Nat.le_of_ble_eq_true rfl)
  rw [lg_entry_eq]
  generalize (lg_sl ([.ref x0, .int (nI j)]) ++ List.replicate (2 - (lg_sl ([.ref x0, .int (nI j)])).length) Slot.unset).toArray = ls at hl ⊢
  have hl : lv_has ls 2 [(0, .ref x0), (1, .int (nI j))] := hl
  refine lv_iload_n hx hb dB_find_0 rfl (lv_at hl 1 rfl) ?_
  refine lv_if_lt (tgt := 12) hx hb dB_find_1 (by decide) (fun c_1 => ?_) (fun c_1 => ?_)
  · exact absurd c_1 (nI_pos (by omega))
  · refine lv_iload_n hx hb dB_find_4 rfl (lv_at hl 1 rfl) ?_
    refine lv_aload_n hx hb dB_find_5 rfl (lv_at hl 0 rfl) ?_
    refine va_get (D := D) (ci := 1) (v := .int (nI cN)) (C := RB) (T := FB) (N := 4) hx hb hB inB hown hK hP 0 rfl rfl 3 (by decide) (hB _ wd_51) (fun _ h9 => h9) rfl dB_find_6 ?_
    refine lv_icmp_lt (tgt := 14) hx hb dB_find_9 (by decide) (fun c_2 => ?_) (fun c_2 => ?_)
    · refine lv_aload_n hx hb dB_find_14 rfl (lv_at hl 0 rfl) ?_
      refine va_get (D := D) (ci := 1) (v := .ref ta) (C := RB) (T := FB) (N := 4) hx hb hB inB hown hK hP 0 rfl rfl 2 (by decide) (hB _ wd_50) (fun _ h9 => h9) rfl dB_find_15 ?_
      refine lv_iload_n hx hb dB_find_18 rfl (lv_at hl 1 rfl) ?_
      refine va_aldq hx hb hK hP 1 1 (f := fun j => some (tq j)) rfl rfl (i := (nI j)) (vp_in_nI (by omega) (by omega)) dB_find_19 ?_
      refine W.eq (g2 := F0 m 20 ls [.ref (tq j)]) (by show F0 m _ ls (va_rf (some (tq (nI j).toNatClampNeg)) :: _) = _; rw [nI_clamp (by omega)]; rfl) ?_
      exact W.aret hx hb hr (Or.inl ⟨_, rfl⟩) (Or.inr ⟨_, rfl⟩) (fun t ht _ => ⟨tbR (rfl), ht⟩) (fun q hq => nomatch hq) dB_find_20
    · exact absurd (nI_lt hj (by omega)) c_2

set_option maxHeartbeats 4000000 in
set_option maxRecDepth 100000 in
theorem kB_count (l : Launch) (D : va_G) (cI cT : ClassId) (x0 tx ta : Nat) (n c9 w9 : Int32) : Met l yB_count wB_count (k2_rm 0 0) (rd_P [.ref x0, .int w9] D [(cI, .int), (cT, .object "TextureBank$Texture")] [(x0, .inr (1, [.ref tx, .int n, .ref ta, .int c9]))]) (k2_QcV (.int (tb_count n c9 w9))) 0 0 (fun _ => False) := by
  refine Met.ofW (cc := cB_count) (maxL := 2) (ret := (some .int)) (by decide) rfl ?_
  intro p e s m args below meth c s₁ B hml hv
  obtain ⟨rfl, hC, hP, hK⟩ := hv
  have hx := B.exec
  have hb := B.bytes
  have hr := B.returns
  have hB : ∀ w ∈ tbB, w.before _ s = true := fun w h => (atoms_spec (ws := wB_count) B.pre) w (List.mem_cons_of_mem _ h)
  have hown : s.vm.findClass "TextureBank" = some m.cls := findClass_of_methodNamed B.named
  have hlocks := B.notSynchronized
  have hl := lv_entry ([.ref x0, .int w9]) (n := 2) (Nat.le_of_ble_eq_true rfl)
  rw [lg_entry_eq]
  generalize (lg_sl ([.ref x0, .int w9]) ++ List.replicate (2 - (lg_sl ([.ref x0, .int w9])).length) Slot.unset).toArray = ls at hl ⊢
  have hl : lv_has ls 2 [(0, .ref x0), (1, .int w9)] := hl
  refine lv_iload_n hx hb dB_count_0 rfl (lv_at hl 1 rfl) ?_
  by_cases c_1 : w9 = 0
  · refine lv_lookup (tgt := 28) (off := 27) hx hb dB_count_1 (by decide) (by rw [c_1]; first | done | rfl) (by decide) ?_
    refine lv_aload_n hx hb dB_count_28 rfl (lv_at hl 0 rfl) ?_
    refine va_get (D := D) (ci := 1) (v := .int c9) (C := RB) (T := FB) (N := 4) hx hb hB inB hown hK hP 0 rfl rfl 3 (by decide) (hB _ wd_51) (fun _ h9 => h9) rfl dB_count_29 ?_
    exact W.iret hx hb hr (fun t ht _ => ⟨tbI (by unfold tb_count; (first | rw [if_pos c_1] | rw [if_neg c_1])), ht⟩) (fun q hq => nomatch hq) dB_count_32
  · by_cases c_2 : w9 = 1
    · refine lv_lookup (tgt := 33) (off := 32) hx hb dB_count_1 (by decide) (by rw [c_2]; first | done | rfl) (by decide) ?_
      refine lv_aload_n hx hb dB_count_33 rfl (lv_at hl 0 rfl) ?_
      refine va_get (D := D) (ci := 1) (v := .int n) (C := RB) (T := FB) (N := 4) hx hb hB inB hown hK hP 0 rfl rfl 1 (by decide) (hB _ wd_49) (fun _ h9 => h9) rfl dB_count_34 ?_
      exact W.iret hx hb hr (fun t ht _ => ⟨tbI (by unfold tb_count; (first | rw [if_pos c_1] | rw [if_neg c_1]); (first | rw [if_pos c_2] | rw [if_neg c_2])), ht⟩) (fun q hq => nomatch hq) dB_count_37
    · refine lv_lookup (tgt := 38) (off := 37) hx hb dB_count_1 (by decide) (by show Op.lookupswitch.offset [(0, 27), (1, 32)] 37 w9.toInt = 37; rw [lv_osw (k := 0) (a := 0) c_1 rfl, lv_osw (k := 1) (a := 1) c_2 rfl]; first | done | rfl) (by decide) ?_
      refine lv_iconst (v := (-1)) hx hb dB_count_38 (by decide) ?_
      exact W.iret hx hb hr (fun t ht _ => ⟨tbI (by unfold tb_count; (first | rw [if_pos c_1] | rw [if_neg c_1]); (first | rw [if_pos c_2] | rw [if_neg c_2])), ht⟩) (fun q hq => nomatch hq) dB_count_39

set_option maxHeartbeats 4000000 in
set_option maxRecDepth 100000 in
theorem kB_about_none (l : Launch) (D : va_G) (cI cT : ClassId) (x0 tx ta : Nat) (n c9 : Int32) (t9 w9 : Int32) (hno : t9 < 0 ∨ c9 ≤ t9) : Met l yB_about wB_about (k2_rm 1 21) (rd_P [.ref x0, .int t9, .int w9] D [(cI, .int), (cT, .object "TextureBank$Texture")] [(x0, .inr (1, [.ref tx, .int n, .ref ta, .int c9]))]) (k2_QcV (.int (-1))) 0 0 (fun _ => False) := by
  refine Met.ofW (cc := cB_about) (maxL := 4) (ret := (some .int)) (by decide) rfl ?_
  intro p e s m args below meth c s₁ B hml hv
  obtain ⟨rfl, hC, hP, hK⟩ := hv
  have hx := B.exec
  have hb := B.bytes
  have hr := B.returns
  have hB : ∀ w ∈ tbB, w.before _ s = true := fun w h => (atoms_spec (ws := wB_about) B.pre) w (List.mem_cons_of_mem _ h)
  have hown : s.vm.findClass "TextureBank" = some m.cls := findClass_of_methodNamed B.named
  have hlocks := B.notSynchronized
  have hl := lv_entry ([.ref x0, .int t9, .int w9]) (n := 4) (Nat.le_of_ble_eq_true rfl)
  rw [lg_entry_eq]
  generalize (lg_sl ([.ref x0, .int t9, .int w9]) ++ List.replicate (4 - (lg_sl ([.ref x0, .int t9, .int w9])).length) Slot.unset).toArray = ls at hl ⊢
  have hl : lv_has ls 4 [(0, .ref x0), (1, .int t9), (2, .int w9)] := hl
  refine lv_aload_n hx hb dB_about_0 rfl (lv_at hl 0 rfl) ?_
  refine lv_iload_n hx hb dB_about_1 rfl (lv_at hl 1 rfl) ?_
  refine W.callV (W.runV (C := "TextureBank") (As := [.int t9]) (rest := []) ⟨hx, hb, hml, hown, hB⟩ (kB_find_none l D cI cT x0 tx ta n c9 t9 hno) ⟨callB_of 1 hB gwB_find rfl rfl rfl (hB _ wd_1) (hB _ wd_131) ydB_find ⟨Nat.le_of_ble_eq_true rfl, Nat.le_of_ble_eq_true rfl⟩, hB _ wd_133, hB _ ws_4⟩ (rd_V hC (hP.sub [0] rfl) (hK.sub [0, 1] rfl) (va_recv hK hP (ci := 1) (q0 := 0) rfl rfl)) rfl rfl hl.1 rfl (lv_room (Nat.le_of_ble_eq_true rfl)) dB_about_2 ⟨Nat.zero_le _, Nat.zero_le _⟩) ?_
  refine W.eq (g2 := F0 m 5 ls [.null]) rfl ?_
  refine lv_astore_nN (lv' := [(3, .null), (0, .ref x0), (1, .int t9), (2, .int w9)]) hx hb dB_about_5 rfl hl (by decide) rfl (fun ls hl => ?_)
  refine lv_aload_nN hx hb dB_about_6 rfl (lv_at hl 0 rfl) ?_
  refine lv_ifnonnullN hx hb dB_about_7 ?_
  refine lv_iconst (v := (-1)) hx hb dB_about_10 (by decide) ?_
  exact W.iret hx hb hr (fun t ht _ => ⟨tbI (rfl), ht⟩) (fun q hq => nomatch hq) dB_about_11

set_option maxHeartbeats 4000000 in
set_option maxRecDepth 100000 in
theorem kB_about_some (l : Launch) (D : va_G) (cI cT : ClassId) (x0 tx ta : Nat) (n : Int32) (cN : Nat) (tq cq : Nat → Nat) (j : Nat) (hcN : cN ≤ 8) (hj : j < cN) (sd wr sf lv : Int32) (w9 : Int32) : Met l yB_about wB_about (k2_rm 1 21) (rd_P [.ref x0, .int (nI j), .int w9] D [(cI, .int), (cT, .object "TextureBank$Texture")] [(x0, .inr (1, [.ref tx, .int n, .ref ta, .int (nI cN)])), (ta, .inl (cT, 8, .inr (.inr (.inr (.inr (fun j => some (tq j))))))), (tq j, .inr (0, [.ref (cq j), .int sd, .int wr, .int sf, .int lv]))]) (k2_QcV (.int (tb_about sd wr sf lv w9))) 0 0 (fun _ => False) := by
  refine Met.ofW (cc := cB_about) (maxL := 4) (ret := (some .int)) (by decide) rfl ?_
  intro p e s m args below meth c s₁ B hml hv
  obtain ⟨rfl, hC, hP, hK⟩ := hv
  have hx := B.exec
  have hb := B.bytes
  have hr := B.returns
  have hB : ∀ w ∈ tbB, w.before _ s = true := fun w h => (atoms_spec (ws := wB_about) B.pre) w (List.mem_cons_of_mem _ h)
  have hown : s.vm.findClass "TextureBank" = some m.cls := findClass_of_methodNamed B.named
  have hlocks := B.notSynchronized
  have hl := lv_entry ([.ref x0, .int (nI j), .int w9]) (n := 4) (Nat.le_of_ble_eq_true rfl)
  rw [lg_entry_eq]
  generalize (lg_sl ([.ref x0, .int (nI j), .int w9]) ++ List.replicate (4 - (lg_sl ([.ref x0, .int (nI j), .int w9])).length) Slot.unset).toArray = ls at hl ⊢
  have hl : lv_has ls 4 [(0, .ref x0), (1, .int (nI j)), (2, .int w9)] := hl
  refine lv_aload_n hx hb dB_about_0 rfl (lv_at hl 0 rfl) ?_
  refine lv_iload_n hx hb dB_about_1 rfl (lv_at hl 1 rfl) ?_
  refine W.callV (W.runV (C := "TextureBank") (As := [.int (nI j)]) (rest := []) ⟨hx, hb, hml, hown, hB⟩ (kB_find_some l D cI cT x0 tx ta n cN tq j hcN hj) ⟨callB_of 1 hB gwB_find rfl rfl rfl (hB _ wd_1) (hB _ wd_131) ydB_find ⟨Nat.le_of_ble_eq_true rfl, Nat.le_of_ble_eq_true rfl⟩, hB _ wd_133, hB _ ws_4⟩ (rd_V hC (hP.sub [0, 1] rfl) (hK.sub [0, 1] rfl) (va_recv hK hP (ci := 1) (q0 := 0) rfl rfl)) rfl rfl hl.1 rfl (lv_room (Nat.le_of_ble_eq_true rfl)) dB_about_2 ⟨Nat.zero_le _, Nat.zero_le _⟩) ?_
  refine W.eq (g2 := F0 m 5 ls [.ref (tq j)]) rfl ?_
  refine lv_astore_n (lv' := [(3, .ref (tq j)), (0, .ref x0), (1, .int (nI j)), (2, .int w9)]) hx hb dB_about_5 rfl hl (by decide) rfl (fun ls hl => ?_)
  refine lv_aload_n hx hb dB_about_6 rfl (lv_at hl 0 rfl) ?_
  refine lv_ifnonnull (tgt := 12) hx hb dB_about_7 (by decide) ?_
  refine lv_iload_n hx hb dB_about_12 rfl (lv_at hl 3 rfl) ?_
  by_cases c_1 : w9 = 0
  · refine lv_tableIn (tgt := 44) hx hb dB_about_13 (by rw [c_1]; decide) (by rw [c_1]; decide) (by rw [c_1]; rfl) (by decide) ?_
    refine lv_aload_n hx hb dB_about_44 rfl (lv_at hl 0 rfl) ?_
    refine va_getN (D := D) (ci := 0) (v := .int sd) (C := RT) (T := FT) (N := 5) hx hb hB inT hown hK hP 2 rfl rfl 1 (by decide) (va_Nw.use rfl (hC.2.1)) (fun _ h9 => h9) rfl dB_about_45 ?_
    exact W.iret hx hb hr (fun t ht _ => ⟨tbI (by unfold tb_about; (first | rw [if_pos c_1] | rw [if_neg c_1])), ht⟩) (fun q hq => nomatch hq) dB_about_48
  · by_cases c_2 : w9 = 1
    · refine lv_tableIn (tgt := 49) hx hb dB_about_13 (by rw [c_2]; decide) (by rw [c_2]; decide) (by rw [c_2]; rfl) (by decide) ?_
      refine lv_aload_n hx hb dB_about_49 rfl (lv_at hl 0 rfl) ?_
      refine va_getN (D := D) (ci := 0) (v := .int wr) (C := RT) (T := FT) (N := 5) hx hb hB inT hown hK hP 2 rfl rfl 2 (by decide) (va_Nw.use rfl (hC.2.2.1)) (fun _ h9 => h9) rfl dB_about_50 ?_
      exact W.iret hx hb hr (fun t ht _ => ⟨tbI (by unfold tb_about; (first | rw [if_pos c_1] | rw [if_neg c_1]); (first | rw [if_pos c_2] | rw [if_neg c_2])), ht⟩) (fun q hq => nomatch hq) dB_about_53
    · by_cases c_3 : w9 = 2
      · refine lv_tableIn (tgt := 54) hx hb dB_about_13 (by rw [c_3]; decide) (by rw [c_3]; decide) (by rw [c_3]; rfl) (by decide) ?_
        refine lv_aload_n hx hb dB_about_54 rfl (lv_at hl 0 rfl) ?_
        refine va_getN (D := D) (ci := 0) (v := .int sf) (C := RT) (T := FT) (N := 5) hx hb hB inT hown hK hP 2 rfl rfl 3 (by decide) (va_Nw.use rfl (hC.2.2.2.1)) (fun _ h9 => h9) rfl dB_about_55 ?_
        exact W.iret hx hb hr (fun t ht _ => ⟨tbI (by unfold tb_about; (first | rw [if_pos c_1] | rw [if_neg c_1]); (first | rw [if_pos c_2] | rw [if_neg c_2]); (first | rw [if_pos c_3] | rw [if_neg c_3])), ht⟩) (fun q hq => nomatch hq) dB_about_58
      · by_cases c_4 : w9 = 3
        · refine lv_tableIn (tgt := 59) hx hb dB_about_13 (by rw [c_4]; decide) (by rw [c_4]; decide) (by rw [c_4]; rfl) (by decide) ?_
          refine lv_aload_n hx hb dB_about_59 rfl (lv_at hl 0 rfl) ?_
          refine va_getN (D := D) (ci := 0) (v := .int lv) (C := RT) (T := FT) (N := 5) hx hb hB inT hown hK hP 2 rfl rfl 4 (by decide) (va_Nw.use rfl (hC.2.2.2.2.1)) (fun _ h9 => h9) rfl dB_about_60 ?_
          exact W.iret hx hb hr (fun t ht _ => ⟨tbI (by unfold tb_about; (first | rw [if_pos c_1] | rw [if_neg c_1]); (first | rw [if_pos c_2] | rw [if_neg c_2]); (first | rw [if_pos c_3] | rw [if_neg c_3]); (first | rw [if_pos c_4] | rw [if_neg c_4])), ht⟩) (fun q hq => nomatch hq) dB_about_63
        · refine lv_tableOut (tgt := 64) hx hb dB_about_13 (tt_sw3 c_1 c_2 c_3 c_4) (by decide) ?_
          refine lv_iconst (v := (-1)) hx hb dB_about_64 (by decide) ?_
          exact W.iret hx hb hr (fun t ht _ => ⟨tbI (by unfold tb_about; (first | rw [if_pos c_1] | rw [if_neg c_1]); (first | rw [if_pos c_2] | rw [if_neg c_2]); (first | rw [if_pos c_3] | rw [if_neg c_3]); (first | rw [if_pos c_4] | rw [if_neg c_4])), ht⟩) (fun q hq => nomatch hq) dB_about_65

set_option maxHeartbeats 4000000 in
set_option maxRecDepth 100000 in
theorem kB_put_no (l : Launch) (D : va_G) (cI cT : ClassId) (x0 tx ta : Nat) (n c9 : Int32) (r9 g9 b9 : Int32) (hno : tt_isNum r9 = 0 ∨ tt_isNum g9 = 0 ∨ tt_isNum b9 = 0 ∨ 1024 ≤ n) : Met l yB_put wB_put (k2_rm 1 20) (rd_P [.ref x0, .int r9, .int g9, .int b9] D [(cI, .int), (cT, .object "TextureBank$Texture")] [(x0, .inr (1, [.ref tx, .int n, .ref ta, .int c9]))]) (k2_QcV (.int (-1))) 0 0 (fun _ => False) := by
  refine Met.ofW (cc := cB_put) (maxL := 4) (ret := (some .int)) (by decide) rfl ?_
  intro p e s m args below meth c s₁ B hml hv
  obtain ⟨rfl, hC, hP, hK⟩ := hv
  have hx := B.exec
  have hb := B.bytes
  have hr := B.returns
  have hB : ∀ w ∈ tbB, w.before _ s = true := fun w h => (atoms_spec (ws := wB_put) B.pre) w (List.mem_cons_of_mem _ h)
  have hown : s.vm.findClass "TextureBank" = some m.cls := findClass_of_methodNamed B.named
  have hlocks := B.notSynchronized
  have hl := lv_entry ([.ref x0, .int r9, .int g9, .int b9]) (n := 4) (Nat.le_of_ble_eq_true rfl)
  rw [lg_entry_eq]
  generalize (lg_sl ([.ref x0, .int r9, .int g9, .int b9]) ++ List.replicate (4 - (lg_sl ([.ref x0, .int r9, .int g9, .int b9])).length) Slot.unset).toArray = ls at hl ⊢
  have hl : lv_has ls 4 [(0, .ref x0), (1, .int r9), (2, .int g9), (3, .int b9)] := hl
  refine lv_iload_n hx hb dB_put_0 rfl (lv_at hl 1 rfl) ?_
  refine W.callV (W.runS (As := [.int r9]) (rest := []) ⟨hx, hb, hml, hown, hB⟩ (kB_isNumber l r9) ⟨callB_of 1 hB gwB_isNumber rfl rfl rfl (hB _ wd_1) (hB _ wd_65) ydB_isNumber ⟨Nat.le_of_ble_eq_true rfl, Nat.le_of_ble_eq_true rfl⟩, hB _ wd_66⟩ (preEq) rfl rfl hl.1 rfl (lv_room (Nat.le_of_ble_eq_true rfl)) dB_put_1 ⟨Nat.zero_le _, Nat.zero_le _⟩) ?_
  refine W.eq (g2 := F0 m 4 ls [.int (tt_isNum r9)]) rfl ?_
  refine lv_if_eq (tgt := 31) hx hb dB_put_4 (by decide) (fun c_1 => ?_) (fun c_1 => ?_)
  · refine lv_iconst (v := (-1)) hx hb dB_put_31 (by decide) ?_
    exact W.iret hx hb hr (fun t ht _ => ⟨tbI (rfl), ht⟩) (fun q hq => nomatch hq) dB_put_32
  · refine lv_iload_n hx hb dB_put_7 rfl (lv_at hl 2 rfl) ?_
    refine W.callV (W.runS (As := [.int g9]) (rest := []) ⟨hx, hb, hml, hown, hB⟩ (kB_isNumber l g9) ⟨callB_of 1 hB gwB_isNumber rfl rfl rfl (hB _ wd_1) (hB _ wd_65) ydB_isNumber ⟨Nat.le_of_ble_eq_true rfl, Nat.le_of_ble_eq_true rfl⟩, hB _ wd_66⟩ (preEq) rfl rfl hl.1 rfl (lv_room (Nat.le_of_ble_eq_true rfl)) dB_put_8 ⟨Nat.zero_le _, Nat.zero_le _⟩) ?_
    refine W.eq (g2 := F0 m 11 ls [.int (tt_isNum g9)]) rfl ?_
    refine lv_if_eq (tgt := 31) hx hb dB_put_11 (by decide) (fun c_2 => ?_) (fun c_2 => ?_)
    · refine lv_iconst (v := (-1)) hx hb dB_put_31 (by decide) ?_
      exact W.iret hx hb hr (fun t ht _ => ⟨tbI (rfl), ht⟩) (fun q hq => nomatch hq) dB_put_32
    · refine lv_iload_n hx hb dB_put_14 rfl (lv_at hl 3 rfl) ?_
      refine W.callV (W.runS (As := [.int b9]) (rest := []) ⟨hx, hb, hml, hown, hB⟩ (kB_isNumber l b9) ⟨callB_of 1 hB gwB_isNumber rfl rfl rfl (hB _ wd_1) (hB _ wd_65) ydB_isNumber ⟨Nat.le_of_ble_eq_true rfl, Nat.le_of_ble_eq_true rfl⟩, hB _ wd_66⟩ (preEq) rfl rfl hl.1 rfl (lv_room (Nat.le_of_ble_eq_true rfl)) dB_put_15 ⟨Nat.zero_le _, Nat.zero_le _⟩) ?_
      refine W.eq (g2 := F0 m 18 ls [.int (tt_isNum b9)]) rfl ?_
      refine lv_if_eq (tgt := 31) hx hb dB_put_18 (by decide) (fun c_3 => ?_) (fun c_3 => ?_)
      · refine lv_iconst (v := (-1)) hx hb dB_put_31 (by decide) ?_
        exact W.iret hx hb hr (fun t ht _ => ⟨tbI (rfl), ht⟩) (fun q hq => nomatch hq) dB_put_32
      · refine lv_aload_n hx hb dB_put_21 rfl (lv_at hl 0 rfl) ?_
        refine va_get (D := D) (ci := 1) (v := .int n) (C := RB) (T := FB) (N := 4) hx hb hB inB hown hK hP 0 rfl rfl 1 (by decide) (hB _ wd_49) (fun _ h9 => h9) rfl dB_put_22 ?_
        refine lv_sipush (v := 1024) hx hb dB_put_25 (by decide) ?_
        refine lv_icmp_lt (tgt := 33) hx hb dB_put_28 (by decide) (fun c_4 => ?_) (fun c_4 => ?_)
        · exact absurd (hno.elim (fun h => absurd h c_1) (fun h => h.elim (fun h => absurd h c_2) (fun h => h.elim (fun h => absurd h c_3) id))) (k2_nle c_4)
        · refine lv_iconst (v := (-1)) hx hb dB_put_31 (by decide) ?_
          exact W.iret hx hb hr (fun t ht _ => ⟨tbI (rfl), ht⟩) (fun q hq => nomatch hq) dB_put_32

set_option maxHeartbeats 4000000 in
set_option maxRecDepth 100000 in
theorem kB_put_ok (l : Launch) (D : va_G) (sz : Nat) (cI cT : ClassId) (x0 tx ta : Nat) (n : Nat) (hn : n < 1024) (c9 : Int32) (f : Nat → Int32) (r9 g9 b9 : Int32) (h1 : ¬ tt_isNum r9 = 0) (h2 : ¬ tt_isNum g9 = 0) (h3 : ¬ tt_isNum b9 = 0) : Met l yB_put wB_put (k2_rm 1 22) (wr_P [.ref x0, .int r9, .int g9, .int b9] sz D [(cI, .int), (cT, .object "TextureBank$Texture")] [(x0, .inr (1, [.ref tx, .int (nI n), .ref ta, .int c9])), (tx, .inl (cI, 1024, .inl f))]) (wr_Qi (nI (n + 1)) D (va_A [(x0, .inr (1, [.ref tx, .int (nI n), .ref ta, .int c9])), (tx, .inl (cI, 1024, .inl f))] sz) [(x0, .inr (1, [.ref tx, .int (nI (n + 1)), .ref ta, .int c9])), (tx, .inl (cI, 1024, .inl (upd f n (tt_col r9 g9 b9))))]) 0 0 (va_A [(x0, .inr (1, [.ref tx, .int (nI n), .ref ta, .int c9])), (tx, .inl (cI, 1024, .inl f))] sz) := by
  refine Met.ofW (cc := cB_put) (maxL := 4) (ret := (some .int)) (by decide) rfl ?_
  intro p e s m args below meth c s₁ B hml hv
  obtain ⟨rfl, hsz, hC, hP, hK, hD0⟩ := hv
  have hx := B.exec
  have hb := B.bytes
  have hr := B.returns
  have hB : ∀ w ∈ tbB, w.before _ s = true := fun w h => (atoms_spec (ws := wB_put) B.pre) w (List.mem_cons_of_mem _ h)
  have hown : s.vm.findClass "TextureBank" = some m.cls := findClass_of_methodNamed B.named
  have hlocks := B.notSynchronized
  subst hsz
  have hD := hD0.self (sz := s.heap.size)
  generalize hAe : va_A [(x0, .inr (1, [.ref tx, .int (nI n), .ref ta, .int c9])), (tx, .inl (cI, 1024, .inl f))] s.heap.size = A at hD ⊢
  have hA : ∀ q : Nat, s.heap.size ≤ q → A q := fun q h => by rw [← hAe]; exact Or.inr h
  have hS : va_S A s.heap s.heap [] := va_S.rf
  have hl := lv_entry ([.ref x0, .int r9, .int g9, .int b9]) (n := 4) (Nat.le_of_ble_eq_true rfl)
  rw [lg_entry_eq]
  generalize (lg_sl ([.ref x0, .int r9, .int g9, .int b9]) ++ List.replicate (4 - (lg_sl ([.ref x0, .int r9, .int g9, .int b9])).length) Slot.unset).toArray = ls at hl ⊢
  have hl : lv_has ls 4 [(0, .ref x0), (1, .int r9), (2, .int g9), (3, .int b9)] := hl
  refine lv_iload_n hx hb dB_put_0 rfl (lv_at hl 1 rfl) ?_
  refine W.callV (W.runS (As := [.int r9]) (rest := []) ⟨hx, hb, hml, hown, hB⟩ (kB_isNumber l r9) ⟨callB_of 1 hB gwB_isNumber rfl rfl rfl (hB _ wd_1) (hB _ wd_65) ydB_isNumber ⟨Nat.le_of_ble_eq_true rfl, Nat.le_of_ble_eq_true rfl⟩, hB _ wd_66⟩ (preEq) rfl rfl hl.1 rfl (lv_room (Nat.le_of_ble_eq_true rfl)) dB_put_1 ⟨Nat.zero_le _, Nat.zero_le _⟩) ?_
  refine W.eq (g2 := F0 m 4 ls [.int (tt_isNum r9)]) rfl ?_
  refine lv_if_eq (tgt := 31) hx hb dB_put_4 (by decide) (fun c_1 => ?_) (fun c_1 => ?_)
  · exact absurd c_1 h1
  · refine lv_iload_n hx hb dB_put_7 rfl (lv_at hl 2 rfl) ?_
    refine W.callV (W.runS (As := [.int g9]) (rest := []) ⟨hx, hb, hml, hown, hB⟩ (kB_isNumber l g9) ⟨callB_of 1 hB gwB_isNumber rfl rfl rfl (hB _ wd_1) (hB _ wd_65) ydB_isNumber ⟨Nat.le_of_ble_eq_true rfl, Nat.le_of_ble_eq_true rfl⟩, hB _ wd_66⟩ (preEq) rfl rfl hl.1 rfl (lv_room (Nat.le_of_ble_eq_true rfl)) dB_put_8 ⟨Nat.zero_le _, Nat.zero_le _⟩) ?_
    refine W.eq (g2 := F0 m 11 ls [.int (tt_isNum g9)]) rfl ?_
    refine lv_if_eq (tgt := 31) hx hb dB_put_11 (by decide) (fun c_2 => ?_) (fun c_2 => ?_)
    · exact absurd c_2 h2
    · refine lv_iload_n hx hb dB_put_14 rfl (lv_at hl 3 rfl) ?_
      refine W.callV (W.runS (As := [.int b9]) (rest := []) ⟨hx, hb, hml, hown, hB⟩ (kB_isNumber l b9) ⟨callB_of 1 hB gwB_isNumber rfl rfl rfl (hB _ wd_1) (hB _ wd_65) ydB_isNumber ⟨Nat.le_of_ble_eq_true rfl, Nat.le_of_ble_eq_true rfl⟩, hB _ wd_66⟩ (preEq) rfl rfl hl.1 rfl (lv_room (Nat.le_of_ble_eq_true rfl)) dB_put_15 ⟨Nat.zero_le _, Nat.zero_le _⟩) ?_
      refine W.eq (g2 := F0 m 18 ls [.int (tt_isNum b9)]) rfl ?_
      refine lv_if_eq (tgt := 31) hx hb dB_put_18 (by decide) (fun c_3 => ?_) (fun c_3 => ?_)
      · exact absurd c_3 h3
      · refine lv_aload_n hx hb dB_put_21 rfl (lv_at hl 0 rfl) ?_
        refine va_get (D := D) (ci := 1) (v := .int (nI n)) (C := RB) (T := FB) (N := 4) hx hb hB inB hown hK hP 0 rfl rfl 1 (by decide) (hB _ wd_49) (fun _ h9 => h9) rfl dB_put_22 ?_
        refine lv_sipush (v := 1024) hx hb dB_put_25 (by decide) ?_
        refine lv_icmp_lt (tgt := 33) hx hb dB_put_28 (by decide) (fun c_4 => ?_) (fun c_4 => ?_)
        · refine lv_aload_n hx hb dB_put_33 rfl (lv_at hl 0 rfl) ?_
          refine va_get (D := D) (ci := 1) (v := .ref tx) (C := RB) (T := FB) (N := 4) hx hb hB inB hown hK hP 0 rfl rfl 0 (by decide) (hB _ wd_48) (fun _ h9 => h9) rfl dB_put_34 ?_
          refine lv_aload_n hx hb dB_put_37 rfl (lv_at hl 0 rfl) ?_
          refine va_get (D := D) (ci := 1) (v := .int (nI n)) (C := RB) (T := FB) (N := 4) hx hb hB inB hown hK hP 0 rfl rfl 1 (by decide) (hB _ wd_49) (fun _ h9 => h9) rfl dB_put_38 ?_
          refine lv_iload_n hx hb dB_put_41 rfl (lv_at hl 1 rfl) ?_
          refine lv_iload_n hx hb dB_put_42 rfl (lv_at hl 2 rfl) ?_
          refine lv_iload_n hx hb dB_put_43 rfl (lv_at hl 3 rfl) ?_
          refine W.callV (W.runS (As := [.int r9, .int g9, .int b9]) (rest := [.int (nI n), .ref tx]) ⟨hx, hb, hml, hown, hB⟩ (kB_colourOf l r9 g9 b9) ⟨callB_of 3 hB gwB_colourOf rfl rfl rfl (hB _ wd_1) (hB _ wd_68) ydB_colourOf ⟨Nat.le_of_ble_eq_true rfl, Nat.le_of_ble_eq_true rfl⟩, hB _ wd_69⟩ (preEq) rfl rfl hl.1 rfl (lv_room (Nat.le_of_ble_eq_true rfl)) dB_put_44 ⟨Nat.zero_le _, Nat.zero_le _⟩) ?_
          refine W.eq (g2 := F0 m 47 ls [.int (tt_col r9 g9 b9), .int (nI n), .ref tx]) rfl ?_
          refine va_iast hx hb hK hP hD hS 1 0 rfl rfl (vp_in_nI hn (by omega)) dB_put_47 (fun H locs hP hD hS => ?_)
          have hP : va_P D tbCl [(x0, .inr (1, [.ref tx, .int (nI n), .ref ta, .int c9])), (tx, .inl (cI, 1024, .inl (upd f n (tt_col r9 g9 b9))))] H := by have hP9 := hP; rw [nI_clamp (by omega)] at hP9; exact hP9
          have hD : va_D A [(x0, .inr (1, [.ref tx, .int (nI n), .ref ta, .int c9])), (tx, .inl (cI, 1024, .inl (upd f n (tt_col r9 g9 b9))))] := wd_D hD rfl
          refine lv_aload_n hx hb dB_put_48 rfl (lv_at hl 0 rfl) ?_
          refine lv_dup hx hb dB_put_49 rfl ?_
          refine va_get (D := D) (ci := 1) (v := .int (nI n)) (C := RB) (T := FB) (N := 4) hx hb hB inB hown hK hP 0 rfl rfl 1 (by decide) (hB _ wd_49) (fun _ h9 => h9) rfl dB_put_50 ?_
          refine lv_iconst (v := 1) hx hb dB_put_53 (by decide) ?_
          refine lv_iadd hx hb dB_put_54 ?_
          refine W.eq (g2 := F0 m 55 ls [.int (nI (n + 1)), .ref x0]) (by rw [nI_1]) ?_
          refine va_put (D := D) (ci := 1) (v := .int (nI (n + 1))) (ty := .int) (C := RB) (T := FB) (N := 4) hx hb hB inB tyB tyB_ok nmB hown hK hP hD hS 0 rfl rfl 1 (by decide) (hB _ wd_49) (fun _ h9 => h9) rfl (by decide +kernel) rfl rfl (Nat.le_of_ble_eq_true rfl) dB_put_55 (fun H locs hP hD hS => ?_)
          have hP : va_P D tbCl [(x0, .inr (1, [.ref tx, .int (nI (n + 1)), .ref ta, .int c9])), (tx, .inl (cI, 1024, .inl (upd f n (tt_col r9 g9 b9))))] H := hP
          have hD : va_D A [(x0, .inr (1, [.ref tx, .int (nI (n + 1)), .ref ta, .int c9])), (tx, .inl (cI, 1024, .inl (upd f n (tt_col r9 g9 b9))))] := hD
          refine lv_aload_n hx hb dB_put_58 rfl (lv_at hl 0 rfl) ?_
          refine va_get (D := D) (ci := 1) (v := .int (nI (n + 1))) (C := RB) (T := FB) (N := 4) hx hb hB inB hown hK hP 0 rfl rfl 1 (by decide) (hB _ wd_49) (fun _ h9 => h9) rfl dB_put_59 ?_
          exact W.iret hx hb hr (fun t ht hW => ⟨⟨_, (), rfl, rfl, (by have h9 : va_P D tbCl [(x0, .inr (1, [.ref tx, .int (nI (n + 1)), .ref ta, .int c9])), (tx, .inl (cI, 1024, .inl (upd f n (tt_col r9 g9 b9))))] H := hP; rw [← ht] at h9; exact h9)⟩, hS.F ht⟩) hS.2.2 dB_put_62
        · exact absurd (show nI n < 1024 from nI_lt (b := 1024) hn (by omega)) c_4

set_option maxHeartbeats 4000000 in
set_option maxRecDepth 100000 in
theorem kB_clear (l : Launch) (D : va_G) (sz : Nat) (cI cT : ClassId) (x0 tx ta : Nat) (n c9 : Int32) : Met l yB_clear wB_clear (k2_rm 0 0) (wr_P [.ref x0] sz D [(cI, .int), (cT, .object "TextureBank$Texture")] [(x0, .inr (1, [.ref tx, .int n, .ref ta, .int c9]))]) (wr_Qv D (va_A [(x0, .inr (1, [.ref tx, .int n, .ref ta, .int c9]))] sz) [(x0, .inr (1, [.ref tx, .int n, .ref ta, .int 0]))]) 0 0 (va_A [(x0, .inr (1, [.ref tx, .int n, .ref ta, .int c9]))] sz) := by
  refine Met.ofW (cc := cB_clear) (maxL := 1) (ret := none) (by decide) rfl ?_
  intro p e s m args below meth c s₁ B hml hv
  obtain ⟨rfl, hsz, hC, hP, hK, hD0⟩ := hv
  have hx := B.exec
  have hb := B.bytes
  have hr := B.returns
  have hB : ∀ w ∈ tbB, w.before _ s = true := fun w h => (atoms_spec (ws := wB_clear) B.pre) w (List.mem_cons_of_mem _ h)
  have hown : s.vm.findClass "TextureBank" = some m.cls := findClass_of_methodNamed B.named
  have hlocks := B.notSynchronized
  subst hsz
  have hD := hD0.self (sz := s.heap.size)
  generalize hAe : va_A [(x0, .inr (1, [.ref tx, .int n, .ref ta, .int c9]))] s.heap.size = A at hD ⊢
  have hA : ∀ q : Nat, s.heap.size ≤ q → A q := fun q h => by rw [← hAe]; exact Or.inr h
  have hS : va_S A s.heap s.heap [] := va_S.rf
  have hl := lv_entry ([.ref x0]) (n := 1) (Nat.le_of_ble_eq_true rfl)
  rw [lg_entry_eq]
  generalize (lg_sl ([.ref x0]) ++ List.replicate (1 - (lg_sl ([.ref x0])).length) Slot.unset).toArray = ls at hl ⊢
  have hl : lv_has ls 1 [(0, .ref x0)] := hl
  refine lv_aload_n hx hb dB_clear_0 rfl (lv_at hl 0 rfl) ?_
  refine lv_iconst (v := 0) hx hb dB_clear_1 (by decide) ?_
  refine va_put (D := D) (ci := 1) (v := .int 0) (ty := .int) (C := RB) (T := FB) (N := 4) hx hb hB inB tyB tyB_ok nmB hown hK hP hD hS 0 rfl rfl 3 (by decide) (hB _ wd_51) (fun _ h9 => h9) rfl (by decide +kernel) rfl rfl (Nat.le_of_ble_eq_true rfl) dB_clear_2 (fun H locs hP hD hS => ?_)
  have hP : va_P D tbCl [(x0, .inr (1, [.ref tx, .int n, .ref ta, .int 0]))] H := hP
  have hD : va_D A [(x0, .inr (1, [.ref tx, .int n, .ref ta, .int 0]))] := hD
  exact W.vret hx hb hr (fun t ht hW => ⟨⟨(), rfl, trivial, (by have h9 := hP; rw [← ht] at h9; exact h9)⟩, hS.F ht⟩) hS.2.2 dB_clear_5

set_option maxHeartbeats 4000000 in
set_option maxRecDepth 100000 in
theorem kB_add_no (l : Launch) (D : va_G) (sz : Nat) (cI cT : ClassId) (x0 tx ta : Nat) (n c9 : Int32) (s9 w9 f9 : Int32) (hno : 8 ≤ c9 ∨ tt_isSide s9 = 0 ∨ tt_isWrap w9 = 0 ∨ tt_isSoft f9 = 0 ∨ ¬ n = s9 * s9) : Met l yB_add wB_add (k2_rm 2 40) (wr_P [.ref x0, .int s9, .int w9, .int f9] sz D [(cI, .int), (cT, .object "TextureBank$Texture")] [(x0, .inr (1, [.ref tx, .int n, .ref ta, .int c9]))]) (wr_Qi (-1) D (va_A [(x0, .inr (1, [.ref tx, .int n, .ref ta, .int c9]))] sz) [(x0, .inr (1, [.ref tx, .int 0, .ref ta, .int c9]))]) 0 0 (va_A [(x0, .inr (1, [.ref tx, .int n, .ref ta, .int c9]))] sz) := by
  refine Met.ofW (cc := cB_add) (maxL := 6) (ret := (some .int)) (by decide) rfl ?_
  intro p e s m args below meth c s₁ B hml hv
  obtain ⟨rfl, hsz, hC, hP, hK, hD0⟩ := hv
  have hx := B.exec
  have hb := B.bytes
  have hr := B.returns
  have hB : ∀ w ∈ tbB, w.before _ s = true := fun w h => (atoms_spec (ws := wB_add) B.pre) w (List.mem_cons_of_mem _ h)
  have hown : s.vm.findClass "TextureBank" = some m.cls := findClass_of_methodNamed B.named
  have hlocks := B.notSynchronized
  subst hsz
  have hD := hD0.self (sz := s.heap.size)
  generalize hAe : va_A [(x0, .inr (1, [.ref tx, .int n, .ref ta, .int c9]))] s.heap.size = A at hD ⊢
  have hA : ∀ q : Nat, s.heap.size ≤ q → A q := fun q h => by rw [← hAe]; exact Or.inr h
  have hS : va_S A s.heap s.heap [] := va_S.rf
  have hl := lv_entry ([.ref x0, .int s9, .int w9, .int f9]) (n := 6) (Nat.le_of_ble_eq_true rfl)
  rw [lg_entry_eq]
  generalize (lg_sl ([.ref x0, .int s9, .int w9, .int f9]) ++ List.replicate (6 - (lg_sl ([.ref x0, .int s9, .int w9, .int f9])).length) Slot.unset).toArray = ls at hl ⊢
  have hl : lv_has ls 6 [(0, .ref x0), (1, .int s9), (2, .int w9), (3, .int f9)] := hl
  refine lv_aload_n hx hb dB_add_0 rfl (lv_at hl 0 rfl) ?_
  refine va_get (D := D) (ci := 1) (v := .int n) (C := RB) (T := FB) (N := 4) hx hb hB inB hown hK hP 0 rfl rfl 1 (by decide) (hB _ wd_49) (fun _ h9 => h9) rfl dB_add_1 ?_
  refine lv_istore (lv' := [(4, .int n), (0, .ref x0), (1, .int s9), (2, .int w9), (3, .int f9)]) hx hb dB_add_4 hl (by decide) rfl (fun ls hl => ?_)
  refine lv_aload_n hx hb dB_add_6 rfl (lv_at hl 1 rfl) ?_
  refine lv_iconst (v := 0) hx hb dB_add_7 (by decide) ?_
  refine va_put (D := D) (ci := 1) (v := .int 0) (ty := .int) (C := RB) (T := FB) (N := 4) hx hb hB inB tyB tyB_ok nmB hown hK hP hD hS 0 rfl rfl 1 (by decide) (hB _ wd_49) (fun _ h9 => h9) rfl (by decide +kernel) rfl rfl (Nat.le_of_ble_eq_true rfl) dB_add_8 (fun H locs hP hD hS => ?_)
  have hP : va_P D tbCl [(x0, .inr (1, [.ref tx, .int 0, .ref ta, .int c9]))] H := hP
  have hD : va_D A [(x0, .inr (1, [.ref tx, .int 0, .ref ta, .int c9]))] := hD
  refine lv_aload_n hx hb dB_add_11 rfl (lv_at hl 1 rfl) ?_
  refine va_get (D := D) (ci := 1) (v := .int c9) (C := RB) (T := FB) (N := 4) hx hb hB inB hown hK hP 0 rfl rfl 3 (by decide) (hB _ wd_51) (fun _ h9 => h9) rfl dB_add_12 ?_
  refine lv_bipush (v := 8) hx hb dB_add_15 (by decide) ?_
  refine lv_icmp_ge (tgt := 41) hx hb dB_add_17 (by decide) (fun c_1 => ?_) (fun c_1 => ?_)
  · refine lv_iconst (v := (-1)) hx hb dB_add_41 (by decide) ?_
    exact W.iret hx hb hr (fun t ht hW => ⟨⟨_, (), rfl, rfl, (by have h9 : va_P D tbCl [(x0, .inr (1, [.ref tx, .int 0, .ref ta, .int c9]))] H := hP; rw [← ht] at h9; exact h9)⟩, hS.F ht⟩) hS.2.2 dB_add_42
  · refine lv_iload_n hx hb dB_add_20 rfl (lv_at hl 2 rfl) ?_
    refine W.callV (W.runS (As := [.int s9]) (rest := []) ⟨hx, hb, hml, hown, hB⟩ (kB_isSide l s9) ⟨callB_of 1 hB gwB_isSide rfl rfl rfl (hB _ wd_1) (hB _ wd_75) ydB_isSide ⟨Nat.le_of_ble_eq_true rfl, Nat.le_of_ble_eq_true rfl⟩, hB _ wd_76⟩ (preEq) rfl rfl hl.1 rfl (lv_room (Nat.le_of_ble_eq_true rfl)) dB_add_21 ⟨Nat.zero_le _, Nat.zero_le _⟩) ?_
    refine W.eq (g2 := F0 m 24 ls [.int (tt_isSide s9)]) rfl ?_
    refine lv_if_eq (tgt := 41) hx hb dB_add_24 (by decide) (fun c_2 => ?_) (fun c_2 => ?_)
    · refine lv_iconst (v := (-1)) hx hb dB_add_41 (by decide) ?_
      exact W.iret hx hb hr (fun t ht hW => ⟨⟨_, (), rfl, rfl, (by have h9 : va_P D tbCl [(x0, .inr (1, [.ref tx, .int 0, .ref ta, .int c9]))] H := hP; rw [← ht] at h9; exact h9)⟩, hS.F ht⟩) hS.2.2 dB_add_42
    · refine lv_iload_n hx hb dB_add_27 rfl (lv_at hl 3 rfl) ?_
      refine W.callV (W.runS (As := [.int w9]) (rest := []) ⟨hx, hb, hml, hown, hB⟩ (kB_isWrap l w9) ⟨callB_of 1 hB gwB_isWrap rfl rfl rfl (hB _ wd_1) (hB _ wd_84) ydB_isWrap ⟨Nat.le_of_ble_eq_true rfl, Nat.le_of_ble_eq_true rfl⟩, hB _ wd_85⟩ (preEq) rfl rfl hl.1 rfl (lv_room (Nat.le_of_ble_eq_true rfl)) dB_add_28 ⟨Nat.zero_le _, Nat.zero_le _⟩) ?_
      refine W.eq (g2 := F0 m 31 ls [.int (tt_isWrap w9)]) rfl ?_
      refine lv_if_eq (tgt := 41) hx hb dB_add_31 (by decide) (fun c_3 => ?_) (fun c_3 => ?_)
      · refine lv_iconst (v := (-1)) hx hb dB_add_41 (by decide) ?_
        exact W.iret hx hb hr (fun t ht hW => ⟨⟨_, (), rfl, rfl, (by have h9 : va_P D tbCl [(x0, .inr (1, [.ref tx, .int 0, .ref ta, .int c9]))] H := hP; rw [← ht] at h9; exact h9)⟩, hS.F ht⟩) hS.2.2 dB_add_42
      · refine lv_iload_n hx hb dB_add_34 rfl (lv_at hl 4 rfl) ?_
        refine W.callV (W.runS (As := [.int f9]) (rest := []) ⟨hx, hb, hml, hown, hB⟩ (kB_isSoft l f9) ⟨callB_of 1 hB gwB_isSoft rfl rfl rfl (hB _ wd_1) (hB _ wd_87) ydB_isSoft ⟨Nat.le_of_ble_eq_true rfl, Nat.le_of_ble_eq_true rfl⟩, hB _ wd_88⟩ (preEq) rfl rfl hl.1 rfl (lv_room (Nat.le_of_ble_eq_true rfl)) dB_add_35 ⟨Nat.zero_le _, Nat.zero_le _⟩) ?_
        refine W.eq (g2 := F0 m 38 ls [.int (tt_isSoft f9)]) rfl ?_
        refine lv_if_ne (tgt := 43) hx hb dB_add_38 (by decide) (fun c_4 => ?_) (fun c_4 => ?_)
        · refine lv_iload hx hb dB_add_43 (lv_at hl 0 rfl) ?_
          refine lv_iload_n hx hb dB_add_45 rfl (lv_at hl 2 rfl) ?_
          refine lv_iload_n hx hb dB_add_46 rfl (lv_at hl 2 rfl) ?_
          refine lv_imul hx hb dB_add_47 ?_
          refine lv_icmp_eq (tgt := 53) hx hb dB_add_48 (by decide) (fun c_5 => ?_) (fun c_5 => ?_)
          · exact absurd (hno.elim (fun h => absurd h c_1) (fun h => h.elim (fun h => absurd h c_2) (fun h => h.elim (fun h => absurd h c_3) (fun h => h.elim (fun h => absurd h c_4) id)))) (not_not_intro c_5)
          · refine lv_iconst (v := (-1)) hx hb dB_add_51 (by decide) ?_
            exact W.iret hx hb hr (fun t ht hW => ⟨⟨_, (), rfl, rfl, (by have h9 : va_P D tbCl [(x0, .inr (1, [.ref tx, .int 0, .ref ta, .int c9]))] H := hP; rw [← ht] at h9; exact h9)⟩, hS.F ht⟩) hS.2.2 dB_add_52
        · refine lv_iconst (v := (-1)) hx hb dB_add_41 (by decide) ?_
          exact W.iret hx hb hr (fun t ht hW => ⟨⟨_, (), rfl, rfl, (by have h9 : va_P D tbCl [(x0, .inr (1, [.ref tx, .int 0, .ref ta, .int c9]))] H := hP; rw [← ht] at h9; exact h9)⟩, hS.F ht⟩) hS.2.2 dB_add_42

set_option maxHeartbeats 4000000 in
set_option maxRecDepth 100000 in
theorem kB_add_ok (l : Launch) (D : va_G) (sz : Nat) (cI cT : ClassId) (x0 tx ta : Nat) (f g : Nat → Int32) (tq cq : Nat → Nat) (j : Nat) (hj : j < 8) (sd wr sf lv : Int32) (k : Nat) (hk : k ≤ 5) (w9 f9 : Int32) (hs : ¬ tt_isSide (nI (2 ^ k)) = 0) (hw9 : ¬ tt_isWrap w9 = 0) (hf9 : ¬ tt_isSoft f9 = 0) : Met l yB_add wB_add (k2_rm 5 127) (wr_P [.ref x0, .int (nI (2 ^ k)), .int w9, .int f9] sz D [(cI, .int), (cT, .object "TextureBank$Texture")] [(x0, .inr (1, [.ref tx, .int (nI (2 ^ k * 2 ^ k)), .ref ta, .int (nI j)])), (tx, .inl (cI, 1024, .inl f)), (ta, .inl (cT, 8, .inr (.inr (.inr (.inr (fun j => some (tq j))))))), (tq j, .inr (0, [.ref (cq j), .int sd, .int wr, .int sf, .int lv])), (cq j, .inl (cI, 1365, .inl g))]) (wr_Qi (nI j) D (va_A [(x0, .inr (1, [.ref tx, .int (nI (2 ^ k * 2 ^ k)), .ref ta, .int (nI j)])), (tx, .inl (cI, 1024, .inl f)), (ta, .inl (cT, 8, .inr (.inr (.inr (.inr (fun j => some (tq j))))))), (tq j, .inr (0, [.ref (cq j), .int sd, .int wr, .int sf, .int lv])), (cq j, .inl (cI, 1365, .inl g))] sz) [(x0, .inr (1, [.ref tx, .int 0, .ref ta, .int (nI (j + 1))])), (tx, .inl (cI, 1024, .inl f)), (ta, .inl (cT, 8, .inr (.inr (.inr (.inr (fun j => some (tq j))))))), (tq j, .inr (0, [.ref (cq j), .int (nI (2 ^ k)), .int w9, .int f9, .int (nI (k + 1))])), (cq j, .inl (cI, 1365, .inl (tt_fl (va_cpy f g 0 (st4 k) (4 ^ k)) k)))]) 0 0 (va_A [(x0, .inr (1, [.ref tx, .int (nI (2 ^ k * 2 ^ k)), .ref ta, .int (nI j)])), (tx, .inl (cI, 1024, .inl f)), (ta, .inl (cT, 8, .inr (.inr (.inr (.inr (fun j => some (tq j))))))), (tq j, .inr (0, [.ref (cq j), .int sd, .int wr, .int sf, .int lv])), (cq j, .inl (cI, 1365, .inl g))] sz) := by
  refine Met.ofW (cc := cB_add) (maxL := 6) (ret := (some .int)) (by decide) rfl ?_
  intro p e s m args below meth c s₁ B hml hv
  obtain ⟨rfl, hsz, hC, hP, hK, hD0⟩ := hv
  have hx := B.exec
  have hb := B.bytes
  have hr := B.returns
  have hB : ∀ w ∈ tbB, w.before _ s = true := fun w h => (atoms_spec (ws := wB_add) B.pre) w (List.mem_cons_of_mem _ h)
  have hown : s.vm.findClass "TextureBank" = some m.cls := findClass_of_methodNamed B.named
  have hlocks := B.notSynchronized
  subst hsz
  have hD := hD0.self (sz := s.heap.size)
  generalize hAe : va_A [(x0, .inr (1, [.ref tx, .int (nI (2 ^ k * 2 ^ k)), .ref ta, .int (nI j)])), (tx, .inl (cI, 1024, .inl f)), (ta, .inl (cT, 8, .inr (.inr (.inr (.inr (fun j => some (tq j))))))), (tq j, .inr (0, [.ref (cq j), .int sd, .int wr, .int sf, .int lv])), (cq j, .inl (cI, 1365, .inl g))] s.heap.size = A at hD ⊢
  have hA : ∀ q : Nat, s.heap.size ≤ q → A q := fun q h => by rw [← hAe]; exact Or.inr h
  have hS : va_S A s.heap s.heap [] := va_S.rf
  have hl := lv_entry ([.ref x0, .int (nI (2 ^ k)), .int w9, .int f9]) (n := 6) (Nat.le_of_ble_eq_true rfl)
  rw [lg_entry_eq]
  generalize (lg_sl ([.ref x0, .int (nI (2 ^ k)), .int w9, .int f9]) ++ List.replicate (6 - (lg_sl ([.ref x0, .int (nI (2 ^ k)), .int w9, .int f9])).length) Slot.unset).toArray = ls at hl ⊢
  have hl : lv_has ls 6 [(0, .ref x0), (1, .int (nI (2 ^ k))), (2, .int w9), (3, .int f9)] := hl
  refine lv_aload_n hx hb dB_add_0 rfl (lv_at hl 0 rfl) ?_
  refine va_get (D := D) (ci := 1) (v := .int (nI (2 ^ k * 2 ^ k))) (C := RB) (T := FB) (N := 4) hx hb hB inB hown hK hP 0 rfl rfl 1 (by decide) (hB _ wd_49) (fun _ h9 => h9) rfl dB_add_1 ?_
  refine lv_istore (lv' := [(4, .int (nI (2 ^ k * 2 ^ k))), (0, .ref x0), (1, .int (nI (2 ^ k))), (2, .int w9), (3, .int f9)]) hx hb dB_add_4 hl (by decide) rfl (fun ls hl => ?_)
  refine lv_aload_n hx hb dB_add_6 rfl (lv_at hl 1 rfl) ?_
  refine lv_iconst (v := 0) hx hb dB_add_7 (by decide) ?_
  refine va_put (D := D) (ci := 1) (v := .int 0) (ty := .int) (C := RB) (T := FB) (N := 4) hx hb hB inB tyB tyB_ok nmB hown hK hP hD hS 0 rfl rfl 1 (by decide) (hB _ wd_49) (fun _ h9 => h9) rfl (by decide +kernel) rfl rfl (Nat.le_of_ble_eq_true rfl) dB_add_8 (fun H locs hP hD hS => ?_)
  have hP : va_P D tbCl [(x0, .inr (1, [.ref tx, .int 0, .ref ta, .int (nI j)])), (tx, .inl (cI, 1024, .inl f)), (ta, .inl (cT, 8, .inr (.inr (.inr (.inr (fun j => some (tq j))))))), (tq j, .inr (0, [.ref (cq j), .int sd, .int wr, .int sf, .int lv])), (cq j, .inl (cI, 1365, .inl g))] H := hP
  have hD : va_D A [(x0, .inr (1, [.ref tx, .int 0, .ref ta, .int (nI j)])), (tx, .inl (cI, 1024, .inl f)), (ta, .inl (cT, 8, .inr (.inr (.inr (.inr (fun j => some (tq j))))))), (tq j, .inr (0, [.ref (cq j), .int sd, .int wr, .int sf, .int lv])), (cq j, .inl (cI, 1365, .inl g))] := hD
  refine lv_aload_n hx hb dB_add_11 rfl (lv_at hl 1 rfl) ?_
  refine va_get (D := D) (ci := 1) (v := .int (nI j)) (C := RB) (T := FB) (N := 4) hx hb hB inB hown hK hP 0 rfl rfl 3 (by decide) (hB _ wd_51) (fun _ h9 => h9) rfl dB_add_12 ?_
  refine lv_bipush (v := 8) hx hb dB_add_15 (by decide) ?_
  refine lv_icmp_ge (tgt := 41) hx hb dB_add_17 (by decide) (fun c_1 => ?_) (fun c_1 => ?_)
  · exact absurd c_1 (show ¬ (8 : Int32) ≤ nI j from nI_ge (b := 8) hj (by omega))
  · refine lv_iload_n hx hb dB_add_20 rfl (lv_at hl 2 rfl) ?_
    refine W.callV (W.runS (As := [.int (nI (2 ^ k))]) (rest := []) ⟨hx, hb, hml, hown, hB⟩ (kB_isSide l (nI (2 ^ k))) ⟨callB_of 1 hB gwB_isSide rfl rfl rfl (hB _ wd_1) (hB _ wd_75) ydB_isSide ⟨Nat.le_of_ble_eq_true rfl, Nat.le_of_ble_eq_true rfl⟩, hB _ wd_76⟩ (preEq) rfl rfl hl.1 rfl (lv_room (Nat.le_of_ble_eq_true rfl)) dB_add_21 ⟨Nat.zero_le _, Nat.zero_le _⟩) ?_
    refine W.eq (g2 := F0 m 24 ls [.int (tt_isSide (nI (2 ^ k)))]) rfl ?_
    refine lv_if_eq (tgt := 41) hx hb dB_add_24 (by decide) (fun c_2 => ?_) (fun c_2 => ?_)
    · exact absurd c_2 hs
    · refine lv_iload_n hx hb dB_add_27 rfl (lv_at hl 3 rfl) ?_
      refine W.callV (W.runS (As := [.int w9]) (rest := []) ⟨hx, hb, hml, hown, hB⟩ (kB_isWrap l w9) ⟨callB_of 1 hB gwB_isWrap rfl rfl rfl (hB _ wd_1) (hB _ wd_84) ydB_isWrap ⟨Nat.le_of_ble_eq_true rfl, Nat.le_of_ble_eq_true rfl⟩, hB _ wd_85⟩ (preEq) rfl rfl hl.1 rfl (lv_room (Nat.le_of_ble_eq_true rfl)) dB_add_28 ⟨Nat.zero_le _, Nat.zero_le _⟩) ?_
      refine W.eq (g2 := F0 m 31 ls [.int (tt_isWrap w9)]) rfl ?_
      refine lv_if_eq (tgt := 41) hx hb dB_add_31 (by decide) (fun c_3 => ?_) (fun c_3 => ?_)
      · exact absurd c_3 hw9
      · refine lv_iload_n hx hb dB_add_34 rfl (lv_at hl 4 rfl) ?_
        refine W.callV (W.runS (As := [.int f9]) (rest := []) ⟨hx, hb, hml, hown, hB⟩ (kB_isSoft l f9) ⟨callB_of 1 hB gwB_isSoft rfl rfl rfl (hB _ wd_1) (hB _ wd_87) ydB_isSoft ⟨Nat.le_of_ble_eq_true rfl, Nat.le_of_ble_eq_true rfl⟩, hB _ wd_88⟩ (preEq) rfl rfl hl.1 rfl (lv_room (Nat.le_of_ble_eq_true rfl)) dB_add_35 ⟨Nat.zero_le _, Nat.zero_le _⟩) ?_
        refine W.eq (g2 := F0 m 38 ls [.int (tt_isSoft f9)]) rfl ?_
        refine lv_if_ne (tgt := 43) hx hb dB_add_38 (by decide) (fun c_4 => ?_) (fun c_4 => ?_)
        · refine lv_iload hx hb dB_add_43 (lv_at hl 0 rfl) ?_
          refine lv_iload_n hx hb dB_add_45 rfl (lv_at hl 2 rfl) ?_
          refine lv_iload_n hx hb dB_add_46 rfl (lv_at hl 2 rfl) ?_
          refine lv_imul hx hb dB_add_47 ?_
          refine lv_icmp_eq (tgt := 53) hx hb dB_add_48 (by decide) (fun c_5 => ?_) (fun c_5 => ?_)
          · refine lv_aload_n hx hb dB_add_53 rfl (lv_at hl 1 rfl) ?_
            refine va_get (D := D) (ci := 1) (v := .int (nI j)) (C := RB) (T := FB) (N := 4) hx hb hB inB hown hK hP 0 rfl rfl 3 (by decide) (hB _ wd_51) (fun _ h9 => h9) rfl dB_add_54 ?_
            refine lv_istore (lv' := [(5, .int (nI j)), (4, .int (nI (2 ^ k * 2 ^ k))), (0, .ref x0), (1, .int (nI (2 ^ k))), (2, .int w9), (3, .int f9)]) hx hb dB_add_57 hl (by decide) rfl (fun ls hl => ?_)
            refine lv_aload_n hx hb dB_add_59 rfl (lv_at hl 2 rfl) ?_
            refine va_get (D := D) (ci := 1) (v := .ref ta) (C := RB) (T := FB) (N := 4) hx hb hB inB hown hK hP 0 rfl rfl 2 (by decide) (hB _ wd_50) (fun _ h9 => h9) rfl dB_add_60 ?_
            refine lv_iload hx hb dB_add_63 (lv_at hl 0 rfl) ?_
            refine va_aldq hx hb hK hP 2 1 (f := fun j => some (tq j)) rfl rfl (i := (nI j)) (vp_in_nI (by omega) (by omega)) dB_add_65 ?_
            refine W.eq (g2 := F0 m 66 ls [.ref (tq j)]) (by show F0 m _ ls (va_rf (some (tq (nI j).toNatClampNeg)) :: _) = _; rw [nI_clamp (by omega)]; rfl) ?_
            refine lv_aload_n hx hb dB_add_66 rfl (lv_at hl 2 rfl) ?_
            refine va_get (D := D) (ci := 1) (v := .ref tx) (C := RB) (T := FB) (N := 4) hx hb hB inB hown hK hP 0 rfl rfl 0 (by decide) (hB _ wd_48) (fun _ h9 => h9) rfl dB_add_67 ?_
            refine lv_iload_n hx hb dB_add_70 rfl (lv_at hl 3 rfl) ?_
            refine lv_iload_n hx hb dB_add_71 rfl (lv_at hl 4 rfl) ?_
            refine lv_iload_n hx hb dB_add_72 rfl (lv_at hl 5 rfl) ?_
            have hFc := va_free (wc := [(tq j, .inr (0, [.ref (cq j), .int sd, .int wr, .int sf, .int lv])), (cq j, .inl (cI, 1365, .inl g)), (tx, .inl (cI, 1024, .inl f))]) hD hS hA [3, 4, 1] rfl
            refine va_callv (va_runVN (C := "TextureBank$Texture") (As := [.ref tx, .int (nI (2 ^ k)), .int w9, .int f9]) (rest := []) ⟨hx, hb, hml, hown, hB⟩ (kT_fill l D H.size cI (tq j) (cq j) tx sd wr sf lv g f w9 f9 k hk) ⟨va_cnB 4 hB gwT_fill rfl rfl rfl (hC.2.2.2.2.2.1) (hB _ wd_2) ydT_fill ⟨Nat.le_of_ble_eq_true rfl, Nat.le_of_ble_eq_true rfl⟩, hB _ wd_92, hB _ ws_0⟩ (wr_V hC (hP.sub [3, 4, 1] rfl) (hK.sub [0] rfl) (hD.sub [3, 4, 1] (by decide) rfl) (va_recv hK hP (ci := 0) (q0 := 3) rfl rfl)) rfl rfl hl.1 rfl (lv_room (Nat.le_of_ble_eq_true rfl)) dB_add_73 ⟨Nat.zero_le _, Nat.zero_le _⟩) hS (fun q _ h => hFc q h) hFc (fun u t H1 locs ht hvm hw hB1 hz1 hk1 hS => ?_)
            have hP1 : va_P D tbCl [(tq j, .inr (0, [.ref (cq j), .int (nI (2 ^ k)), .int w9, .int f9, .int (nI (k + 1))])), (cq j, .inl (cI, 1365, .inl (tt_fl (va_cpy f g 0 (st4 k) (4 ^ k)) k))), (tx, .inl (cI, 1024, .inl f))] H1 := by have h9 := hB1; rw [← ht]; exact h9
            have hP : va_P D tbCl [(x0, .inr (1, [.ref tx, .int 0, .ref ta, .int (nI j)])), (tx, .inl (cI, 1024, .inl f)), (ta, .inl (cT, 8, .inr (.inr (.inr (.inr (fun j => some (tq j))))))), (tq j, .inr (0, [.ref (cq j), .int (nI (2 ^ k)), .int w9, .int f9, .int (nI (k + 1))])), (cq j, .inl (cI, 1365, .inl (tt_fl (va_cpy f g 0 (st4 k) (4 ^ k)) k)))] H1 := wd_back hP hD [3, 4, 1] rfl hk1 hP1 (by intro k q hq; match k, hq with | 0, hq => exact Or.inr ⟨by decide, hq⟩ | 1, hq => exact Or.inl ⟨2, hq⟩ | 2, hq => exact Or.inr ⟨by decide, hq⟩ | 3, hq => exact Or.inl ⟨0, hq⟩ | 4, hq => exact Or.inl ⟨1, hq⟩ | k + 5, hq => simp at hq)
            have hD : va_D A [(x0, .inr (1, [.ref tx, .int 0, .ref ta, .int (nI j)])), (tx, .inl (cI, 1024, .inl f)), (ta, .inl (cT, 8, .inr (.inr (.inr (.inr (fun j => some (tq j))))))), (tq j, .inr (0, [.ref (cq j), .int (nI (2 ^ k)), .int w9, .int f9, .int (nI (k + 1))])), (cq j, .inl (cI, 1365, .inl (tt_fl (va_cpy f g 0 (st4 k) (4 ^ k)) k)))] := wd_D hD rfl
            generalize H1 = H at hP hS ⊢
            refine W.eq (g2 := F0 m 76 ls []) rfl ?_
            refine lv_aload_n hx hb dB_add_76 rfl (lv_at hl 2 rfl) ?_
            refine lv_dup hx hb dB_add_77 rfl ?_
            refine va_get (D := D) (ci := 1) (v := .int (nI j)) (C := RB) (T := FB) (N := 4) hx hb hB inB hown hK hP 0 rfl rfl 3 (by decide) (hB _ wd_51) (fun _ h9 => h9) rfl dB_add_78 ?_
            refine lv_iconst (v := 1) hx hb dB_add_81 (by decide) ?_
            refine lv_iadd hx hb dB_add_82 ?_
            refine W.eq (g2 := F0 m 83 ls [.int (nI (j + 1)), .ref x0]) (by rw [nI_1]) ?_
            refine va_put (D := D) (ci := 1) (v := .int (nI (j + 1))) (ty := .int) (C := RB) (T := FB) (N := 4) hx hb hB inB tyB tyB_ok nmB hown hK hP hD hS 0 rfl rfl 3 (by decide) (hB _ wd_51) (fun _ h9 => h9) rfl (by decide +kernel) rfl rfl (Nat.le_of_ble_eq_true rfl) dB_add_83 (fun H locs hP hD hS => ?_)
            have hP : va_P D tbCl [(x0, .inr (1, [.ref tx, .int 0, .ref ta, .int (nI (j + 1))])), (tx, .inl (cI, 1024, .inl f)), (ta, .inl (cT, 8, .inr (.inr (.inr (.inr (fun j => some (tq j))))))), (tq j, .inr (0, [.ref (cq j), .int (nI (2 ^ k)), .int w9, .int f9, .int (nI (k + 1))])), (cq j, .inl (cI, 1365, .inl (tt_fl (va_cpy f g 0 (st4 k) (4 ^ k)) k)))] H := hP
            have hD : va_D A [(x0, .inr (1, [.ref tx, .int 0, .ref ta, .int (nI (j + 1))])), (tx, .inl (cI, 1024, .inl f)), (ta, .inl (cT, 8, .inr (.inr (.inr (.inr (fun j => some (tq j))))))), (tq j, .inr (0, [.ref (cq j), .int (nI (2 ^ k)), .int w9, .int f9, .int (nI (k + 1))])), (cq j, .inl (cI, 1365, .inl (tt_fl (va_cpy f g 0 (st4 k) (4 ^ k)) k)))] := hD
            refine lv_iload hx hb dB_add_86 (lv_at hl 0 rfl) ?_
            exact W.iret hx hb hr (fun t ht hW => ⟨⟨_, (), rfl, rfl, (by have h9 : va_P D tbCl [(x0, .inr (1, [.ref tx, .int 0, .ref ta, .int (nI (j + 1))])), (tx, .inl (cI, 1024, .inl f)), (ta, .inl (cT, 8, .inr (.inr (.inr (.inr (fun j => some (tq j))))))), (tq j, .inr (0, [.ref (cq j), .int (nI (2 ^ k)), .int w9, .int f9, .int (nI (k + 1))])), (cq j, .inl (cI, 1365, .inl (tt_fl (va_cpy f g 0 (st4 k) (4 ^ k)) k)))] H := hP; rw [← ht] at h9; exact h9)⟩, hS.F ht⟩) hS.2.2 dB_add_88
          · exact absurd (pk_mul _ _).symm c_5
        · exact absurd c_4 hf9
