def lw_Cx (p : Program) (l : Launch) (s : State) (m : MethodId) (c : Code) (b L : Nat) (xs : Nat → Int32) (D : va_G) (cI cT cL : ClassId) : Prop :=
  p.tables.exec = Jvm.exec ∧ c.code = cL_law ∧ c.maxLocals = 7 ∧ s.vm.findClass "TextureBankLaw" = some m.cls ∧ (∀ w ∈ tbB, w.before #[Value.ref b] s = true) ∧ tbCx s ∧ tbTx s ∧ va_K D tbCl [(cI, .int), (cT, .object "TextureBank$Texture"), (cL, .long)] s ∧ va_X b L xs s s.heap ∧ b < s.heap.size ∧ tbZ s s.heap ∧ L ≤ 2560 ∧ l.stackTraces = false
/-- behind an operation, at any state where class and reference agree, the law comes to its end -/
def lw_N (p : Program) (l : Launch) (e : Env) (s : State) (m : MethodId) (below : List Frame) (meth : Method) (c : Code) (b : Nat) (D : va_G) (cI cT cL : ClassId) (x0 tx ta : Nat) (tq cq : Nat → Nat) (m0 a1 a2 a3 a4 a5 a6 ou : Nat) (i : Nat) : Prop :=
  ∀ (N C : Nat) (f S Wr O Lv : Nat → Int32) (G : Nat → Nat → Int32) (th si : Int32) (f1 f2 f3 f4 f5 f6 : Nat → Int32) (fo : Nat → Int64) (H : Heap) (locs : List Loc), lwR N C f S Wr O Lv G f1 f2 f3 f4 f5 → va_P D tbCl (lwW x0 tx ta tq cq cI cT cL m0 a1 a2 a3 a4 a5 a6 ou (nI N) (nI C) f S Wr O Lv G th (nI C) (nI N) si f1 f2 f3 f4 f5 f6 fo) H → va_D (fun q => s.heap.size ≤ q) (lwW x0 tx ta tq cq cI cT cL m0 a1 a2 a3 a4 a5 a6 ou (nI N) (nI C) f S Wr O Lv G th (nI C) (nI N) si f1 f2 f3 f4 f5 f6 fo) → va_S (fun q => s.heap.size ≤ q) s.heap H locs → ∀ ls : Array Slot, lv_has ls 7 [(4, .int (nI i)), (0, .ref b), (1, .ref x0), (2, .ref m0), (3, .ref ou)] → W p l e room_1 s m #[Value.ref b] below meth c H locs (27 + i + 1) (22271 + 6 * i + 6) (lw_Z below #[Value.ref b] s) (F0 m 635 ls [])
theorem gsL_level : GoodIn tbB (va_wsS "TextureBankLaw" 46 yL_level wL_level) := tbB_good (List.forall_mem_cons.mpr ⟨wd_139, List.forall_mem_cons.mpr ⟨wd_140, List.forall_mem_cons.mpr ⟨wd_0, fun w h => (gwL_level w h).1⟩⟩⟩) (fun _ h => h)
theorem gsL_lookUp : GoodIn tbB (va_wsS "TextureBankLaw" 56 yL_lookUp wL_lookUp) := tbB_good (List.forall_mem_cons.mpr ⟨wd_239, List.forall_mem_cons.mpr ⟨wd_240, List.forall_mem_cons.mpr ⟨wd_0, fun w h => (gwL_lookUp w h).1⟩⟩⟩) (fun _ h => h)
theorem gsL_texel : GoodIn tbB (va_wsS "TextureBankLaw" 60 yL_texel wL_texel) := tbB_good (List.forall_mem_cons.mpr ⟨wd_287, List.forall_mem_cons.mpr ⟨wd_288, List.forall_mem_cons.mpr ⟨wd_0, fun w h => (gwL_texel w h).1⟩⟩⟩) (fun _ h => h)
theorem gsL_lit : GoodIn tbB (va_wsS "TextureBankLaw" 63 yL_lit wL_lit) := tbB_good (List.forall_mem_cons.mpr ⟨wd_296, List.forall_mem_cons.mpr ⟨wd_297, List.forall_mem_cons.mpr ⟨wd_0, fun w h => (gwL_lit w h).1⟩⟩⟩) (fun _ h => h)
theorem lw_ld {p : Program} {l : Launch} {e : Env} {R : Room} {s : State} {m : MethodId} {args : Array Value} {below : List Frame} {meth : Method} {c : Code} {H : Heap} {locs : List Loc} {cells slots : Nat} {Q : State → Prop} {ls : Array Slot} {rest : List Value} {cc : ByteArray} {pc : Nat} {b L i k : Nat} {xs : Nat → Int32}
    (hx : p.tables.exec = Jvm.exec) (hb : c.code = cc) (hX : va_X b L xs s s.heap) (hbl : b < s.heap.size) (hS : va_S (fun q => s.heap.size ≤ q) s.heap H locs) (hL : L ≤ 2560) (hik : i + k < L) (hdg : decode cc pc = .ok (.iaload, 1))
    (kk : W p l e R s m args below meth c H locs cells slots Q (F0 m (pc + 1) ls (.int (xs (i + k)) :: rest))) : W p l e R s m args below meth c H locs cells slots Q (F0 m pc ls (.int (nI i + nI k) :: .ref b :: rest)) := by
  rw [nI_add]
  refine va_sld hx hb hX hbl (Nat.not_le.mpr hbl) hS (vp_in_nI hik (by omega)) hdg ?_
  rw [nI_clamp (by omega)]
  exact kk
section LAWO
variable {p : Program} {l : Launch} {e : Env} {s : State} {m : MethodId} {below : List Frame} {meth : Method} {c : Code} {b L : Nat} {xs : Nat → Int32} {D : va_G} {cI cT cL : ClassId} {x0 tx ta : Nat} {tq cq : Nat → Nat} {m0 a1 a2 a3 a4 a5 a6 ou : Nat} {N C : Nat} {f S Wr O Lv : Nat → Int32} {G : Nat → Nat → Int32} {th si : Int32} {f1 f2 f3 f4 f5 f6 : Nat → Int32} {fo : Nat → Int64} {H : Heap} {locs : List Loc} {i : Nat} {ls : Array Slot}
set_option maxHeartbeats 4000000 in
set_option maxRecDepth 100000 in
theorem lw_put_r (K0 : lw_Cx p l s m c b L xs D cI cT cL) (hN : lw_N p l e s m below meth c b D cI cT cL x0 tx ta tq cq m0 a1 a2 a3 a4 a5 a6 ou i) (hR : lwR N C f S Wr O Lv G f1 f2 f3 f4 f5) (hP : va_P D tbCl (lwW x0 tx ta tq cq cI cT cL m0 a1 a2 a3 a4 a5 a6 ou (nI N) (nI C) f S Wr O Lv G th (nI C) (nI N) si f1 f2 f3 f4 f5 f6 fo) H) (hD : va_D (fun q => s.heap.size ≤ q) (lwW x0 tx ta tq cq cI cT cL m0 a1 a2 a3 a4 a5 a6 ou (nI N) (nI C) f S Wr O Lv G th (nI C) (nI N) si f1 f2 f3 f4 f5 f6 fo)) (hS : va_S (fun q => s.heap.size ≤ q) s.heap H locs) (hi : i + 5 ≤ L) (hl : lv_has ls 7 [(4, .int (nI i)), (0, .ref b), (1, .ref x0), (2, .ref m0), (3, .ref ou)]) (W9 : va_W) (fs : List Value) (r9 : Int32) (F8 N8 : Nat) (hF8 : F8 ≤ 6) (hN8 : N8 ≤ 150) (hx0 : W9[0]? = some (x0, .inr (1, fs))) (hPW : va_P D tbCl W9 H) (hBm : Met l yB_put wB_put (k2_rm F8 N8) (rd_P [.ref x0, .int (xs (i + 1)), .int (xs (i + 2)), .int (xs (i + 3))] D [(cI, .int), (cT, .object "TextureBank$Texture")] W9) (k2_QcV (.int r9)) 0 0 (fun _ => False)) (F9 N9 : Nat) (hF9 : F9 ≤ 8) (hN9 : N9 ≤ 250) (hMm : ∀ sz : Nat, Met l yM_put wM_put (k2_rm F9 N9) (wr_P [.ref m0, .int (xs (i + 1)), .int (xs (i + 2)), .int (xs (i + 3))] sz D [(cI, .int)] (mwL cI m0 a1 a2 a3 a4 a5 a6 th (nI C) (nI N) si f1 f2 f3 f4 f5 f6)) (wr_Qi (r9) D (va_A (mwL cI m0 a1 a2 a3 a4 a5 a6 th (nI C) (nI N) si f1 f2 f3 f4 f5 f6) sz) (mwL cI m0 a1 a2 a3 a4 a5 a6 0 (nI C) (nI N) si f1 f2 f3 f4 f5 f6)) 0 0 (va_A (mwL cI m0 a1 a2 a3 a4 a5 a6 th (nI C) (nI N) si f1 f2 f3 f4 f5 f6) sz)) : W p l e room_1 s m #[Value.ref b] below meth c H locs (27 + i) (22271 + 6 * i) (lw_Z below #[Value.ref b] s) (F0 m 88 ls []) := by
  obtain ⟨hx, hb, hml, hown, hB, hC, hT, hK, hX, hbl, hZ, hL, hl9⟩ := K0
  refine lv_aload_n hx hb dL_law_88 rfl (lv_at hl 2 rfl) ?_
  refine lv_aload_n hx hb dL_law_89 rfl (lv_at hl 1 rfl) ?_
  refine lv_iload hx hb dL_law_90 (lv_at hl 0 rfl) ?_
  refine lv_iconst (v := 1) hx hb dL_law_92 (by decide) ?_
  refine lv_iadd hx hb dL_law_93 ?_
  refine lw_ld (k := 1) hx hb hX hbl hS hL (by omega) dL_law_94 ?_
  refine lv_aload_n hx hb dL_law_95 rfl (lv_at hl 1 rfl) ?_
  refine lv_iload hx hb dL_law_96 (lv_at hl 0 rfl) ?_
  refine lv_iconst (v := 2) hx hb dL_law_98 (by decide) ?_
  refine lv_iadd hx hb dL_law_99 ?_
  refine lw_ld (k := 2) hx hb hX hbl hS hL (by omega) dL_law_100 ?_
  refine lv_aload_n hx hb dL_law_101 rfl (lv_at hl 1 rfl) ?_
  refine lv_iload hx hb dL_law_102 (lv_at hl 0 rfl) ?_
  refine lv_iconst (v := 3) hx hb dL_law_104 (by decide) ?_
  refine lv_iadd hx hb dL_law_105 ?_
  refine lw_ld (k := 3) hx hb hX hbl hS hL (by omega) dL_law_106 ?_
  refine W.callV (W.runV (C := "TextureBank") (As := [.int (xs (i + 1)), .int (xs (i + 2)), .int (xs (i + 3))]) (rest := []) ⟨hx, hb, hml, hown, hB⟩ hBm ⟨callB_of 3 hB gwB_put rfl rfl rfl (hB _ wd_1) (hB _ wd_61) ydB_put ⟨by show F8 + 1 ≤ 10; omega, by show 8 + (4 + 11) + N8 ≤ 354; omega⟩, hB _ wd_62, hB _ wd_63⟩ (rd_V hC hPW (hK.sub [0, 1] rfl) (va_recv hK hPW (ci := 1) (q0 := 0) rfl hx0)) rfl rfl hl.1 rfl (lv_room (Nat.le_of_ble_eq_true rfl)) dL_law_107 ⟨by show _ + _ ≤ 601024; omega, by show _ + _ ≤ 7293034; omega⟩) ?_
  refine W.eq (g2 := F0 m 110 ls [.int r9]) rfl ?_
  refine lv_aload_n hx hb dL_law_110 rfl (lv_at hl 3 rfl) ?_
  refine lv_aload_n hx hb dL_law_111 rfl (lv_at hl 1 rfl) ?_
  refine lv_iload hx hb dL_law_112 (lv_at hl 0 rfl) ?_
  refine lv_iconst (v := 1) hx hb dL_law_114 (by decide) ?_
  refine lv_iadd hx hb dL_law_115 ?_
  refine lw_ld (k := 1) hx hb hX hbl hS hL (by omega) dL_law_116 ?_
  refine lv_aload_n hx hb dL_law_117 rfl (lv_at hl 1 rfl) ?_
  refine lv_iload hx hb dL_law_118 (lv_at hl 0 rfl) ?_
  refine lv_iconst (v := 2) hx hb dL_law_120 (by decide) ?_
  refine lv_iadd hx hb dL_law_121 ?_
  refine lw_ld (k := 2) hx hb hX hbl hS hL (by omega) dL_law_122 ?_
  refine lv_aload_n hx hb dL_law_123 rfl (lv_at hl 1 rfl) ?_
  refine lv_iload hx hb dL_law_124 (lv_at hl 0 rfl) ?_
  refine lv_iconst (v := 3) hx hb dL_law_126 (by decide) ?_
  refine lv_iadd hx hb dL_law_127 ?_
  refine lw_ld (k := 3) hx hb hX hbl hS hL (by omega) dL_law_128 ?_
  have hFc := lw_free (wc := mwL cI m0 a1 a2 a3 a4 a5 a6 th (nI C) (nI N) si f1 f2 f3 f4 f5 f6) (hD.sub [19, 20, 21, 22, 23, 24, 25] (by decide) rfl) hS (fun _ h => h)
  refine va_calli (va_runV (C := "TextureBankModel") (As := [.int (xs (i + 1)), .int (xs (i + 2)), .int (xs (i + 3))]) (rest := [.int r9]) ⟨hx, hb, hml, hown, hB⟩ (hMm H.size) ⟨callB_of 3 hB gwM_put rfl rfl rfl (hB _ wd_3) (hB _ wd_357) ydM_put ⟨by show F9 + 1 ≤ 10; omega, by show 8 + (4 + 11) + N9 ≤ 354; omega⟩, hB _ wd_358, hB _ wd_359⟩ (wr_V hC (hP.sub [19, 20, 21, 22, 23, 24, 25] rfl) (hK.sub [0] rfl) (hD.sub [19, 20, 21, 22, 23, 24, 25] (by decide) rfl) (va_recv hK hP (ci := 2) (q0 := 19) rfl rfl)) rfl rfl hl.1 rfl (lv_room (Nat.le_of_ble_eq_true rfl)) dL_law_129 ⟨by show _ + _ ≤ 601024; omega, by show _ + _ ≤ 7293034; omega⟩) hS (fun q _ h => hFc q h) hFc (fun r u t H1 locs ht hvm hpost hB1 hz1 hk1 hS => ?_)
  have hP1 : va_P D tbCl (mwL cI m0 a1 a2 a3 a4 a5 a6 0 (nI C) (nI N) si f1 f2 f3 f4 f5 f6) H1 := by rw [← ht]; exact hB1
  have hP : va_P D tbCl (lwW x0 tx ta tq cq cI cT cL m0 a1 a2 a3 a4 a5 a6 ou (nI N) (nI C) f S Wr O Lv G 0 (nI C) (nI N) si f1 f2 f3 f4 f5 f6 fo) H1 := lw_mback hP hD hk1 hP1
  have hD : va_D (fun q => s.heap.size ≤ q) (lwW x0 tx ta tq cq cI cT cL m0 a1 a2 a3 a4 a5 a6 ou (nI N) (nI C) f S Wr O Lv G 0 (nI C) (nI N) si f1 f2 f3 f4 f5 f6 fo) := wd_D hD rfl
  generalize H1 = H at hP hS ⊢
  refine W.eq (g2 := F0 m 132 ls [.int r9, .int r9]) (congrArg (fun z9 => F0 m 132 ls [.int z9, .int r9]) hpost) ?_
  refine lv_icmp_eq (tgt := 635) hx hb dL_law_132 (by decide) (fun c_1 => ?_) (fun c_1 => ?_)
  · exact W.widen (by omega) (by omega) (hN N C _ _ _ _ _ _ _ _ _ _ _ _ _ _ _ _ _ (hR) hP hD hS ls (lv_sub hl [0, 1, 2, 3, 4] rfl))
  · exact absurd rfl c_1

set_option maxHeartbeats 4000000 in
set_option maxRecDepth 100000 in
theorem lw_about_r (K0 : lw_Cx p l s m c b L xs D cI cT cL) (hN : lw_N p l e s m below meth c b D cI cT cL x0 tx ta tq cq m0 a1 a2 a3 a4 a5 a6 ou i) (hR : lwR N C f S Wr O Lv G f1 f2 f3 f4 f5) (hP : va_P D tbCl (lwW x0 tx ta tq cq cI cT cL m0 a1 a2 a3 a4 a5 a6 ou (nI N) (nI C) f S Wr O Lv G th (nI C) (nI N) si f1 f2 f3 f4 f5 f6 fo) H) (hD : va_D (fun q => s.heap.size ≤ q) (lwW x0 tx ta tq cq cI cT cL m0 a1 a2 a3 a4 a5 a6 ou (nI N) (nI C) f S Wr O Lv G th (nI C) (nI N) si f1 f2 f3 f4 f5 f6 fo)) (hS : va_S (fun q => s.heap.size ≤ q) s.heap H locs) (hi : i + 5 ≤ L) (hl : lv_has ls 7 [(4, .int (nI i)), (0, .ref b), (1, .ref x0), (2, .ref m0), (3, .ref ou)]) (W9 : va_W) (fs : List Value) (r9 : Int32) (F8 N8 : Nat) (hF8 : F8 ≤ 6) (hN8 : N8 ≤ 150) (hx0 : W9[0]? = some (x0, .inr (1, fs))) (hPW : va_P D tbCl W9 H) (hBm : Met l yB_about wB_about (k2_rm F8 N8) (rd_P [.ref x0, .int (xs (i + 1)), .int (xs (i + 2))] D [(cI, .int), (cT, .object "TextureBank$Texture")] W9) (k2_QcV (.int r9)) 0 0 (fun _ => False)) (F9 N9 : Nat) (hF9 : F9 ≤ 8) (hN9 : N9 ≤ 250) (hMm : ∀ sz : Nat, Met l yM_about wM_about (k2_rm F9 N9) (wr_P [.ref m0, .int (xs (i + 1)), .int (xs (i + 2))] sz D [(cI, .int)] (mwL cI m0 a1 a2 a3 a4 a5 a6 th (nI C) (nI N) si f1 f2 f3 f4 f5 f6)) (wr_Qi (r9) D (va_A (mwL cI m0 a1 a2 a3 a4 a5 a6 th (nI C) (nI N) si f1 f2 f3 f4 f5 f6) sz) (mwL cI m0 a1 a2 a3 a4 a5 a6 0 (nI C) (nI N) si f1 f2 f3 f4 f5 f6)) 0 0 (va_A (mwL cI m0 a1 a2 a3 a4 a5 a6 th (nI C) (nI N) si f1 f2 f3 f4 f5 f6) sz)) : W p l e room_1 s m #[Value.ref b] below meth c H locs (27 + i) (22271 + 6 * i) (lw_Z below #[Value.ref b] s) (F0 m 573 ls []) := by
  obtain ⟨hx, hb, hml, hown, hB, hC, hT, hK, hX, hbl, hZ, hL, hl9⟩ := K0
  refine lv_aload_n hx hb dL_law_573 rfl (lv_at hl 2 rfl) ?_
  refine lv_aload_n hx hb dL_law_574 rfl (lv_at hl 1 rfl) ?_
  refine lv_iload hx hb dL_law_575 (lv_at hl 0 rfl) ?_
  refine lv_iconst (v := 1) hx hb dL_law_577 (by decide) ?_
  refine lv_iadd hx hb dL_law_578 ?_
  refine lw_ld (k := 1) hx hb hX hbl hS hL (by omega) dL_law_579 ?_
  refine lv_aload_n hx hb dL_law_580 rfl (lv_at hl 1 rfl) ?_
  refine lv_iload hx hb dL_law_581 (lv_at hl 0 rfl) ?_
  refine lv_iconst (v := 2) hx hb dL_law_583 (by decide) ?_
  refine lv_iadd hx hb dL_law_584 ?_
  refine lw_ld (k := 2) hx hb hX hbl hS hL (by omega) dL_law_585 ?_
  refine W.callV (W.runV (C := "TextureBank") (As := [.int (xs (i + 1)), .int (xs (i + 2))]) (rest := []) ⟨hx, hb, hml, hown, hB⟩ hBm ⟨callB_of 2 hB gwB_about rfl rfl rfl (hB _ wd_1) (hB _ wd_127) ydB_about ⟨by show F8 + 1 ≤ 10; omega, by show 8 + (4 + 11) + N8 ≤ 354; omega⟩, hB _ wd_128, hB _ wd_129⟩ (rd_V hC hPW (hK.sub [0, 1] rfl) (va_recv hK hPW (ci := 1) (q0 := 0) rfl hx0)) rfl rfl hl.1 rfl (lv_room (Nat.le_of_ble_eq_true rfl)) dL_law_586 ⟨by show _ + _ ≤ 601024; omega, by show _ + _ ≤ 7293034; omega⟩) ?_
  refine W.eq (g2 := F0 m 589 ls [.int r9]) rfl ?_
  refine lv_aload_n hx hb dL_law_589 rfl (lv_at hl 3 rfl) ?_
  refine lv_aload_n hx hb dL_law_590 rfl (lv_at hl 1 rfl) ?_
  refine lv_iload hx hb dL_law_591 (lv_at hl 0 rfl) ?_
  refine lv_iconst (v := 1) hx hb dL_law_593 (by decide) ?_
  refine lv_iadd hx hb dL_law_594 ?_
  refine lw_ld (k := 1) hx hb hX hbl hS hL (by omega) dL_law_595 ?_
  refine lv_aload_n hx hb dL_law_596 rfl (lv_at hl 1 rfl) ?_
  refine lv_iload hx hb dL_law_597 (lv_at hl 0 rfl) ?_
  refine lv_iconst (v := 2) hx hb dL_law_599 (by decide) ?_
  refine lv_iadd hx hb dL_law_600 ?_
  refine lw_ld (k := 2) hx hb hX hbl hS hL (by omega) dL_law_601 ?_
  have hFc := lw_free (wc := mwL cI m0 a1 a2 a3 a4 a5 a6 th (nI C) (nI N) si f1 f2 f3 f4 f5 f6) (hD.sub [19, 20, 21, 22, 23, 24, 25] (by decide) rfl) hS (fun _ h => h)
  refine va_calli (va_runV (C := "TextureBankModel") (As := [.int (xs (i + 1)), .int (xs (i + 2))]) (rest := [.int r9]) ⟨hx, hb, hml, hown, hB⟩ (hMm H.size) ⟨callB_of 2 hB gwM_about rfl rfl rfl (hB _ wd_3) (hB _ wd_431) ydM_about ⟨by show F9 + 1 ≤ 10; omega, by show 8 + (3 + 11) + N9 ≤ 354; omega⟩, hB _ wd_432, hB _ wd_433⟩ (wr_V hC (hP.sub [19, 20, 21, 22, 23, 24, 25] rfl) (hK.sub [0] rfl) (hD.sub [19, 20, 21, 22, 23, 24, 25] (by decide) rfl) (va_recv hK hP (ci := 2) (q0 := 19) rfl rfl)) rfl rfl hl.1 rfl (lv_room (Nat.le_of_ble_eq_true rfl)) dL_law_602 ⟨by show _ + _ ≤ 601024; omega, by show _ + _ ≤ 7293034; omega⟩) hS (fun q _ h => hFc q h) hFc (fun r u t H1 locs ht hvm hpost hB1 hz1 hk1 hS => ?_)
  have hP1 : va_P D tbCl (mwL cI m0 a1 a2 a3 a4 a5 a6 0 (nI C) (nI N) si f1 f2 f3 f4 f5 f6) H1 := by rw [← ht]; exact hB1
  have hP : va_P D tbCl (lwW x0 tx ta tq cq cI cT cL m0 a1 a2 a3 a4 a5 a6 ou (nI N) (nI C) f S Wr O Lv G 0 (nI C) (nI N) si f1 f2 f3 f4 f5 f6 fo) H1 := lw_mback hP hD hk1 hP1
  have hD : va_D (fun q => s.heap.size ≤ q) (lwW x0 tx ta tq cq cI cT cL m0 a1 a2 a3 a4 a5 a6 ou (nI N) (nI C) f S Wr O Lv G 0 (nI C) (nI N) si f1 f2 f3 f4 f5 f6 fo) := wd_D hD rfl
  generalize H1 = H at hP hS ⊢
  refine W.eq (g2 := F0 m 605 ls [.int r9, .int r9]) (congrArg (fun z9 => F0 m 605 ls [.int z9, .int r9]) hpost) ?_
  refine lv_icmp_eq (tgt := 635) hx hb dL_law_605 (by decide) (fun c_1 => ?_) (fun c_1 => ?_)
  · exact W.widen (by omega) (by omega) (hN N C _ _ _ _ _ _ _ _ _ _ _ _ _ _ _ _ _ (hR) hP hD hS ls (lv_sub hl [0, 1, 2, 3, 4] rfl))
  · exact absurd rfl c_1

set_option maxHeartbeats 4000000 in
set_option maxRecDepth 100000 in
theorem lw_count_r (K0 : lw_Cx p l s m c b L xs D cI cT cL) (hN : lw_N p l e s m below meth c b D cI cT cL x0 tx ta tq cq m0 a1 a2 a3 a4 a5 a6 ou i) (hR : lwR N C f S Wr O Lv G f1 f2 f3 f4 f5) (hP : va_P D tbCl (lwW x0 tx ta tq cq cI cT cL m0 a1 a2 a3 a4 a5 a6 ou (nI N) (nI C) f S Wr O Lv G th (nI C) (nI N) si f1 f2 f3 f4 f5 f6 fo) H) (hD : va_D (fun q => s.heap.size ≤ q) (lwW x0 tx ta tq cq cI cT cL m0 a1 a2 a3 a4 a5 a6 ou (nI N) (nI C) f S Wr O Lv G th (nI C) (nI N) si f1 f2 f3 f4 f5 f6 fo)) (hS : va_S (fun q => s.heap.size ≤ q) s.heap H locs) (hi : i + 5 ≤ L) (hl : lv_has ls 7 [(4, .int (nI i)), (0, .ref b), (1, .ref x0), (2, .ref m0), (3, .ref ou)]) (W9 : va_W) (fs : List Value) (r9 : Int32) (F8 N8 : Nat) (hF8 : F8 ≤ 6) (hN8 : N8 ≤ 150) (hx0 : W9[0]? = some (x0, .inr (1, fs))) (hPW : va_P D tbCl W9 H) (hBm : Met l yB_count wB_count (k2_rm F8 N8) (rd_P [.ref x0, .int (xs (i + 1))] D [(cI, .int), (cT, .object "TextureBank$Texture")] W9) (k2_QcV (.int r9)) 0 0 (fun _ => False)) (F9 N9 : Nat) (hF9 : F9 ≤ 8) (hN9 : N9 ≤ 250) (hMm : ∀ sz : Nat, Met l yM_count wM_count (k2_rm F9 N9) (wr_P [.ref m0, .int (xs (i + 1))] sz D [(cI, .int)] (mwL cI m0 a1 a2 a3 a4 a5 a6 th (nI C) (nI N) si f1 f2 f3 f4 f5 f6)) (wr_Qi (r9) D (va_A (mwL cI m0 a1 a2 a3 a4 a5 a6 th (nI C) (nI N) si f1 f2 f3 f4 f5 f6) sz) (mwL cI m0 a1 a2 a3 a4 a5 a6 0 (nI C) (nI N) si f1 f2 f3 f4 f5 f6)) 0 0 (va_A (mwL cI m0 a1 a2 a3 a4 a5 a6 th (nI C) (nI N) si f1 f2 f3 f4 f5 f6) sz)) : W p l e room_1 s m #[Value.ref b] below meth c H locs (27 + i) (22271 + 6 * i) (lw_Z below #[Value.ref b] s) (F0 m 610 ls []) := by
  obtain ⟨hx, hb, hml, hown, hB, hC, hT, hK, hX, hbl, hZ, hL, hl9⟩ := K0
  refine lv_aload_n hx hb dL_law_610 rfl (lv_at hl 2 rfl) ?_
  refine lv_aload_n hx hb dL_law_611 rfl (lv_at hl 1 rfl) ?_
  refine lv_iload hx hb dL_law_612 (lv_at hl 0 rfl) ?_
  refine lv_iconst (v := 1) hx hb dL_law_614 (by decide) ?_
  refine lv_iadd hx hb dL_law_615 ?_
  refine lw_ld (k := 1) hx hb hX hbl hS hL (by omega) dL_law_616 ?_
  refine W.callV (W.runV (C := "TextureBank") (As := [.int (xs (i + 1))]) (rest := []) ⟨hx, hb, hml, hown, hB⟩ hBm ⟨callB_of 1 hB gwB_count rfl rfl rfl (hB _ wd_1) (hB _ wd_135) ydB_count ⟨by show F8 + 1 ≤ 10; omega, by show 8 + (2 + 11) + N8 ≤ 354; omega⟩, hB _ wd_136, hB _ wd_137⟩ (rd_V hC hPW (hK.sub [0, 1] rfl) (va_recv hK hPW (ci := 1) (q0 := 0) rfl hx0)) rfl rfl hl.1 rfl (lv_room (Nat.le_of_ble_eq_true rfl)) dL_law_617 ⟨by show _ + _ ≤ 601024; omega, by show _ + _ ≤ 7293034; omega⟩) ?_
  refine W.eq (g2 := F0 m 620 ls [.int r9]) rfl ?_
  refine lv_aload_n hx hb dL_law_620 rfl (lv_at hl 3 rfl) ?_
  refine lv_aload_n hx hb dL_law_621 rfl (lv_at hl 1 rfl) ?_
  refine lv_iload hx hb dL_law_622 (lv_at hl 0 rfl) ?_
  refine lv_iconst (v := 1) hx hb dL_law_624 (by decide) ?_
  refine lv_iadd hx hb dL_law_625 ?_
  refine lw_ld (k := 1) hx hb hX hbl hS hL (by omega) dL_law_626 ?_
  have hFc := lw_free (wc := mwL cI m0 a1 a2 a3 a4 a5 a6 th (nI C) (nI N) si f1 f2 f3 f4 f5 f6) (hD.sub [19, 20, 21, 22, 23, 24, 25] (by decide) rfl) hS (fun _ h => h)
  refine va_calli (va_runV (C := "TextureBankModel") (As := [.int (xs (i + 1))]) (rest := [.int r9]) ⟨hx, hb, hml, hown, hB⟩ (hMm H.size) ⟨callB_of 1 hB gwM_count rfl rfl rfl (hB _ wd_3) (hB _ wd_435) ydM_count ⟨by show F9 + 1 ≤ 10; omega, by show 8 + (2 + 11) + N9 ≤ 354; omega⟩, hB _ wd_436, hB _ wd_437⟩ (wr_V hC (hP.sub [19, 20, 21, 22, 23, 24, 25] rfl) (hK.sub [0] rfl) (hD.sub [19, 20, 21, 22, 23, 24, 25] (by decide) rfl) (va_recv hK hP (ci := 2) (q0 := 19) rfl rfl)) rfl rfl hl.1 rfl (lv_room (Nat.le_of_ble_eq_true rfl)) dL_law_627 ⟨by show _ + _ ≤ 601024; omega, by show _ + _ ≤ 7293034; omega⟩) hS (fun q _ h => hFc q h) hFc (fun r u t H1 locs ht hvm hpost hB1 hz1 hk1 hS => ?_)
  have hP1 : va_P D tbCl (mwL cI m0 a1 a2 a3 a4 a5 a6 0 (nI C) (nI N) si f1 f2 f3 f4 f5 f6) H1 := by rw [← ht]; exact hB1
  have hP : va_P D tbCl (lwW x0 tx ta tq cq cI cT cL m0 a1 a2 a3 a4 a5 a6 ou (nI N) (nI C) f S Wr O Lv G 0 (nI C) (nI N) si f1 f2 f3 f4 f5 f6 fo) H1 := lw_mback hP hD hk1 hP1
  have hD : va_D (fun q => s.heap.size ≤ q) (lwW x0 tx ta tq cq cI cT cL m0 a1 a2 a3 a4 a5 a6 ou (nI N) (nI C) f S Wr O Lv G 0 (nI C) (nI N) si f1 f2 f3 f4 f5 f6 fo) := wd_D hD rfl
  generalize H1 = H at hP hS ⊢
  refine W.eq (g2 := F0 m 630 ls [.int r9, .int r9]) (congrArg (fun z9 => F0 m 630 ls [.int z9, .int r9]) hpost) ?_
  refine lv_icmp_eq (tgt := 635) hx hb dL_law_630 (by decide) (fun c_1 => ?_) (fun c_1 => ?_)
  · exact W.widen (by omega) (by omega) (hN N C _ _ _ _ _ _ _ _ _ _ _ _ _ _ _ _ _ (hR) hP hD hS ls (lv_sub hl [0, 1, 2, 3, 4] rfl))
  · exact absurd rfl c_1

set_option maxHeartbeats 4000000 in
set_option maxRecDepth 100000 in
theorem lw_put_ok (K0 : lw_Cx p l s m c b L xs D cI cT cL) (hN : lw_N p l e s m below meth c b D cI cT cL x0 tx ta tq cq m0 a1 a2 a3 a4 a5 a6 ou i) (hR : lwR N C f S Wr O Lv G f1 f2 f3 f4 f5) (hP : va_P D tbCl (lwW x0 tx ta tq cq cI cT cL m0 a1 a2 a3 a4 a5 a6 ou (nI N) (nI C) f S Wr O Lv G th (nI C) (nI N) si f1 f2 f3 f4 f5 f6 fo) H) (hD : va_D (fun q => s.heap.size ≤ q) (lwW x0 tx ta tq cq cI cT cL m0 a1 a2 a3 a4 a5 a6 ou (nI N) (nI C) f S Wr O Lv G th (nI C) (nI N) si f1 f2 f3 f4 f5 f6 fo)) (hS : va_S (fun q => s.heap.size ≤ q) s.heap H locs) (hi : i + 5 ≤ L) (hl : lv_has ls 7 [(4, .int (nI i)), (0, .ref b), (1, .ref x0), (2, .ref m0), (3, .ref ou)]) (h1 : ¬ tt_isNum (xs (i + 1)) = 0) (h2 : ¬ tt_isNum (xs (i + 2)) = 0) (h3 : ¬ tt_isNum (xs (i + 3)) = 0) (hN4 : N < 1024) : W p l e room_1 s m #[Value.ref b] below meth c H locs (27 + i) (22271 + 6 * i) (lw_Z below #[Value.ref b] s) (F0 m 88 ls []) := by
  obtain ⟨hx, hb, hml, hown, hB, hC, hT, hK, hX, hbl, hZ, hL, hl9⟩ := K0
  refine lv_aload_n hx hb dL_law_88 rfl (lv_at hl 2 rfl) ?_
  refine lv_aload_n hx hb dL_law_89 rfl (lv_at hl 1 rfl) ?_
  refine lv_iload hx hb dL_law_90 (lv_at hl 0 rfl) ?_
  refine lv_iconst (v := 1) hx hb dL_law_92 (by decide) ?_
  refine lv_iadd hx hb dL_law_93 ?_
  refine lw_ld (k := 1) hx hb hX hbl hS hL (by omega) dL_law_94 ?_
  refine lv_aload_n hx hb dL_law_95 rfl (lv_at hl 1 rfl) ?_
  refine lv_iload hx hb dL_law_96 (lv_at hl 0 rfl) ?_
  refine lv_iconst (v := 2) hx hb dL_law_98 (by decide) ?_
  refine lv_iadd hx hb dL_law_99 ?_
  refine lw_ld (k := 2) hx hb hX hbl hS hL (by omega) dL_law_100 ?_
  refine lv_aload_n hx hb dL_law_101 rfl (lv_at hl 1 rfl) ?_
  refine lv_iload hx hb dL_law_102 (lv_at hl 0 rfl) ?_
  refine lv_iconst (v := 3) hx hb dL_law_104 (by decide) ?_
  refine lv_iadd hx hb dL_law_105 ?_
  refine lw_ld (k := 3) hx hb hX hbl hS hL (by omega) dL_law_106 ?_
  have hFc := lw_free (wc := [(x0, .inr (1, [.ref tx, .int (nI N), .ref ta, .int (nI C)])), (tx, .inl (cI, 1024, .inl f))]) (hD.sub [0, 1] (by decide) rfl) hS (fun _ h => h)
  refine va_calli (va_runV (C := "TextureBank") (As := [.int (xs (i + 1)), .int (xs (i + 2)), .int (xs (i + 3))]) (rest := []) ⟨hx, hb, hml, hown, hB⟩ (kB_put_ok l D H.size cI cT x0 tx ta N hN4 (nI C) f _ _ _ h1 h2 h3) ⟨callB_of 3 hB gwB_put rfl rfl rfl (hB _ wd_1) (hB _ wd_61) ydB_put ⟨Nat.le_of_ble_eq_true rfl, Nat.le_of_ble_eq_true rfl⟩, hB _ wd_62, hB _ wd_63⟩ (wr_V hC (hP.sub [0, 1] rfl) (hK.sub [0, 1] rfl) (hD.sub [0, 1] (by decide) rfl) (va_recv hK hP (ci := 1) (q0 := 0) rfl rfl)) rfl rfl hl.1 rfl (lv_room (Nat.le_of_ble_eq_true rfl)) dL_law_107 ⟨by show _ + _ ≤ 601024; omega, by show _ + _ ≤ 7293034; omega⟩) hS (fun q _ h => hFc q h) hFc (fun r u t H1 locs ht hvm hpost hB1 hz1 hk1 hS => ?_)
  have hP1 : va_P D tbCl [(x0, .inr (1, [.ref tx, .int (nI (N + 1)), .ref ta, .int (nI C)])), (tx, .inl (cI, 1024, .inl (upd f N (tt_col (xs (i + 1)) (xs (i + 2)) (xs (i + 3))))))] H1 := by rw [← ht]; exact hB1
  have hP : va_P D tbCl (lwW x0 tx ta tq cq cI cT cL m0 a1 a2 a3 a4 a5 a6 ou (nI (N + 1)) (nI C) (upd f N (tt_col (xs (i + 1)) (xs (i + 2)) (xs (i + 3)))) S Wr O Lv G th (nI C) (nI N) si f1 f2 f3 f4 f5 f6 fo) H1 := lw_tback hP hD hk1 hP1
  have hD : va_D (fun q => s.heap.size ≤ q) (lwW x0 tx ta tq cq cI cT cL m0 a1 a2 a3 a4 a5 a6 ou (nI (N + 1)) (nI C) (upd f N (tt_col (xs (i + 1)) (xs (i + 2)) (xs (i + 3)))) S Wr O Lv G th (nI C) (nI N) si f1 f2 f3 f4 f5 f6 fo) := wd_D hD rfl
  generalize H1 = H at hP hS ⊢
  refine W.eq (g2 := F0 m 110 ls [.int (nI (N + 1))]) (congrArg (fun z9 => F0 m 110 ls [.int z9]) hpost) ?_
  refine lv_aload_n hx hb dL_law_110 rfl (lv_at hl 3 rfl) ?_
  refine lv_aload_n hx hb dL_law_111 rfl (lv_at hl 1 rfl) ?_
  refine lv_iload hx hb dL_law_112 (lv_at hl 0 rfl) ?_
  refine lv_iconst (v := 1) hx hb dL_law_114 (by decide) ?_
  refine lv_iadd hx hb dL_law_115 ?_
  refine lw_ld (k := 1) hx hb hX hbl hS hL (by omega) dL_law_116 ?_
  refine lv_aload_n hx hb dL_law_117 rfl (lv_at hl 1 rfl) ?_
  refine lv_iload hx hb dL_law_118 (lv_at hl 0 rfl) ?_
  refine lv_iconst (v := 2) hx hb dL_law_120 (by decide) ?_
  refine lv_iadd hx hb dL_law_121 ?_
  refine lw_ld (k := 2) hx hb hX hbl hS hL (by omega) dL_law_122 ?_
  refine lv_aload_n hx hb dL_law_123 rfl (lv_at hl 1 rfl) ?_
  refine lv_iload hx hb dL_law_124 (lv_at hl 0 rfl) ?_
  refine lv_iconst (v := 3) hx hb dL_law_126 (by decide) ?_
  refine lv_iadd hx hb dL_law_127 ?_
  refine lw_ld (k := 3) hx hb hX hbl hS hL (by omega) dL_law_128 ?_
  have hFc := lw_free (wc := mwL cI m0 a1 a2 a3 a4 a5 a6 th (nI C) (nI N) si f1 f2 f3 f4 f5 f6) (hD.sub [19, 20, 21, 22, 23, 24, 25] (by decide) rfl) hS (fun _ h => h)
  refine va_calli (va_runV (C := "TextureBankModel") (As := [.int (xs (i + 1)), .int (xs (i + 2)), .int (xs (i + 3))]) (rest := [.int (nI (N + 1))]) ⟨hx, hb, hml, hown, hB⟩ (kM_put_ok l D H.size cI m0 a1 a2 a3 a4 a5 a6 th (nI C) si N f1 f2 f3 f4 f5 f6 hN4 _ _ _ (fun q => h1 (cn_num.mpr q)) (fun q => h2 (cn_num.mpr q)) (fun q => h3 (cn_num.mpr q))) ⟨callB_of 3 hB gwM_put rfl rfl rfl (hB _ wd_3) (hB _ wd_357) ydM_put ⟨Nat.le_of_ble_eq_true rfl, Nat.le_of_ble_eq_true rfl⟩, hB _ wd_358, hB _ wd_359⟩ (wr_V hC (hP.sub [19, 20, 21, 22, 23, 24, 25] rfl) (hK.sub [0] rfl) (hD.sub [19, 20, 21, 22, 23, 24, 25] (by decide) rfl) (va_recv hK hP (ci := 2) (q0 := 19) rfl rfl)) rfl rfl hl.1 rfl (lv_room (Nat.le_of_ble_eq_true rfl)) dL_law_129 ⟨by show _ + _ ≤ 601024; omega, by show _ + _ ≤ 7293034; omega⟩) hS (fun q _ h => hFc q h) hFc (fun r u t H1 locs ht hvm hpost hB1 hz1 hk1 hS => ?_)
  have hP1 : va_P D tbCl (mwL cI m0 a1 a2 a3 a4 a5 a6 0 (nI C) (nI (N + 1)) si f1 f2 f3 f4 (upd f5 N (xs (i + 1) * 65536 + xs (i + 2) * 256 + xs (i + 3))) f6) H1 := by rw [← ht]; exact hB1
  have hP : va_P D tbCl (lwW x0 tx ta tq cq cI cT cL m0 a1 a2 a3 a4 a5 a6 ou (nI (N + 1)) (nI C) (upd f N (tt_col (xs (i + 1)) (xs (i + 2)) (xs (i + 3)))) S Wr O Lv G 0 (nI C) (nI (N + 1)) si f1 f2 f3 f4 (upd f5 N (xs (i + 1) * 65536 + xs (i + 2) * 256 + xs (i + 3))) f6 fo) H1 := lw_mback hP hD hk1 hP1
  have hD : va_D (fun q => s.heap.size ≤ q) (lwW x0 tx ta tq cq cI cT cL m0 a1 a2 a3 a4 a5 a6 ou (nI (N + 1)) (nI C) (upd f N (tt_col (xs (i + 1)) (xs (i + 2)) (xs (i + 3)))) S Wr O Lv G 0 (nI C) (nI (N + 1)) si f1 f2 f3 f4 (upd f5 N (xs (i + 1) * 65536 + xs (i + 2) * 256 + xs (i + 3))) f6 fo) := wd_D hD rfl
  generalize H1 = H at hP hS ⊢
  refine W.eq (g2 := F0 m 132 ls [.int (nI (N + 1)), .int (nI (N + 1))]) (congrArg (fun z9 => F0 m 132 ls [.int z9, .int (nI (N + 1))]) hpost) ?_
  refine lv_icmp_eq (tgt := 635) hx hb dL_law_132 (by decide) (fun c_1 => ?_) (fun c_1 => ?_)
  · exact W.widen (by omega) (by omega) (hN (N + 1) C _ _ _ _ _ _ _ _ _ _ _ _ _ _ _ _ _ (lc_putR hR hN4 h1 h2 h3) hP hD hS ls (lv_sub hl [0, 1, 2, 3, 4] rfl))
  · exact absurd rfl c_1

set_option maxHeartbeats 4000000 in
set_option maxRecDepth 100000 in
theorem lw_add_no (K0 : lw_Cx p l s m c b L xs D cI cT cL) (hN : lw_N p l e s m below meth c b D cI cT cL x0 tx ta tq cq m0 a1 a2 a3 a4 a5 a6 ou i) (hR : lwR N C f S Wr O Lv G f1 f2 f3 f4 f5) (hP : va_P D tbCl (lwW x0 tx ta tq cq cI cT cL m0 a1 a2 a3 a4 a5 a6 ou (nI N) (nI C) f S Wr O Lv G th (nI C) (nI N) si f1 f2 f3 f4 f5 f6 fo) H) (hD : va_D (fun q => s.heap.size ≤ q) (lwW x0 tx ta tq cq cI cT cL m0 a1 a2 a3 a4 a5 a6 ou (nI N) (nI C) f S Wr O Lv G th (nI C) (nI N) si f1 f2 f3 f4 f5 f6 fo)) (hS : va_S (fun q => s.heap.size ≤ q) s.heap H locs) (hi : i + 5 ≤ L) (hl : lv_has ls 7 [(4, .int (nI i)), (0, .ref b), (1, .ref x0), (2, .ref m0), (3, .ref ou)]) (hno : 8 ≤ nI C ∨ tt_isSide (xs (i + 1)) = 0 ∨ tt_isWrap (xs (i + 2)) = 0 ∨ tt_isSoft (xs (i + 3)) = 0 ∨ ¬ nI N = xs (i + 1) * xs (i + 1)) (F9 N9 : Nat) (hF9 : F9 ≤ 8) (hN9 : N9 ≤ 250) (hMm : ∀ sz : Nat, Met l yM_add wM_add (k2_rm F9 N9) (wr_P [.ref m0, .int (xs (i + 1)), .int (xs (i + 2)), .int (xs (i + 3))] sz D [(cI, .int)] (mwL cI m0 a1 a2 a3 a4 a5 a6 th (nI C) (nI N) si f1 f2 f3 f4 f5 f6)) (wr_Qi (-1) D (va_A (mwL cI m0 a1 a2 a3 a4 a5 a6 th (nI C) (nI N) si f1 f2 f3 f4 f5 f6) sz) (mwL cI m0 a1 a2 a3 a4 a5 a6 0 (nI C) 0 si f1 f2 f3 f4 f5 f6)) 0 0 (va_A (mwL cI m0 a1 a2 a3 a4 a5 a6 th (nI C) (nI N) si f1 f2 f3 f4 f5 f6) sz)) : W p l e room_1 s m #[Value.ref b] below meth c H locs (27 + i) (22271 + 6 * i) (lw_Z below #[Value.ref b] s) (F0 m 137 ls []) := by
  obtain ⟨hx, hb, hml, hown, hB, hC, hT, hK, hX, hbl, hZ, hL, hl9⟩ := K0
  refine lv_aload_n hx hb dL_law_137 rfl (lv_at hl 2 rfl) ?_
  refine lv_aload_n hx hb dL_law_138 rfl (lv_at hl 1 rfl) ?_
  refine lv_iload hx hb dL_law_139 (lv_at hl 0 rfl) ?_
  refine lv_iconst (v := 1) hx hb dL_law_141 (by decide) ?_
  refine lv_iadd hx hb dL_law_142 ?_
  refine lw_ld (k := 1) hx hb hX hbl hS hL (by omega) dL_law_143 ?_
  refine lv_aload_n hx hb dL_law_144 rfl (lv_at hl 1 rfl) ?_
  refine lv_iload hx hb dL_law_145 (lv_at hl 0 rfl) ?_
  refine lv_iconst (v := 2) hx hb dL_law_147 (by decide) ?_
  refine lv_iadd hx hb dL_law_148 ?_
  refine lw_ld (k := 2) hx hb hX hbl hS hL (by omega) dL_law_149 ?_
  refine lv_aload_n hx hb dL_law_150 rfl (lv_at hl 1 rfl) ?_
  refine lv_iload hx hb dL_law_151 (lv_at hl 0 rfl) ?_
  refine lv_iconst (v := 3) hx hb dL_law_153 (by decide) ?_
  refine lv_iadd hx hb dL_law_154 ?_
  refine lw_ld (k := 3) hx hb hX hbl hS hL (by omega) dL_law_155 ?_
  have hFc := lw_free (wc := [(x0, .inr (1, [.ref tx, .int (nI N), .ref ta, .int (nI C)]))]) (hD.sub [0] (by decide) rfl) hS (fun _ h => h)
  refine va_calli (va_runV (C := "TextureBank") (As := [.int (xs (i + 1)), .int (xs (i + 2)), .int (xs (i + 3))]) (rest := []) ⟨hx, hb, hml, hown, hB⟩ (kB_add_no l D H.size cI cT x0 tx ta (nI N) (nI C) _ _ _ hno) ⟨callB_of 3 hB gwB_add rfl rfl rfl (hB _ wd_1) (hB _ wd_71) ydB_add ⟨Nat.le_of_ble_eq_true rfl, Nat.le_of_ble_eq_true rfl⟩, hB _ wd_72, hB _ wd_73⟩ (wr_V hC (hP.sub [0] rfl) (hK.sub [0, 1] rfl) (hD.sub [0] (by decide) rfl) (va_recv hK hP (ci := 1) (q0 := 0) rfl rfl)) rfl rfl hl.1 rfl (lv_room (Nat.le_of_ble_eq_true rfl)) dL_law_156 ⟨by show _ + _ ≤ 601024; omega, by show _ + _ ≤ 7293034; omega⟩) hS (fun q _ h => hFc q h) hFc (fun r u t H1 locs ht hvm hpost hB1 hz1 hk1 hS => ?_)
  have hP1 : va_P D tbCl [(x0, .inr (1, [.ref tx, .int 0, .ref ta, .int (nI C)]))] H1 := by rw [← ht]; exact hB1
  have hP : va_P D tbCl (lwW x0 tx ta tq cq cI cT cL m0 a1 a2 a3 a4 a5 a6 ou 0 (nI C) f S Wr O Lv G th (nI C) (nI N) si f1 f2 f3 f4 f5 f6 fo) H1 := lw_xback hP hD hk1 hP1
  have hD : va_D (fun q => s.heap.size ≤ q) (lwW x0 tx ta tq cq cI cT cL m0 a1 a2 a3 a4 a5 a6 ou 0 (nI C) f S Wr O Lv G th (nI C) (nI N) si f1 f2 f3 f4 f5 f6 fo) := wd_D hD rfl
  generalize H1 = H at hP hS ⊢
  refine W.eq (g2 := F0 m 159 ls [.int (-1)]) (congrArg (fun z9 => F0 m 159 ls [.int z9]) hpost) ?_
  refine lv_aload_n hx hb dL_law_159 rfl (lv_at hl 3 rfl) ?_
  refine lv_aload_n hx hb dL_law_160 rfl (lv_at hl 1 rfl) ?_
  refine lv_iload hx hb dL_law_161 (lv_at hl 0 rfl) ?_
  refine lv_iconst (v := 1) hx hb dL_law_163 (by decide) ?_
  refine lv_iadd hx hb dL_law_164 ?_
  refine lw_ld (k := 1) hx hb hX hbl hS hL (by omega) dL_law_165 ?_
  refine lv_aload_n hx hb dL_law_166 rfl (lv_at hl 1 rfl) ?_
  refine lv_iload hx hb dL_law_167 (lv_at hl 0 rfl) ?_
  refine lv_iconst (v := 2) hx hb dL_law_169 (by decide) ?_
  refine lv_iadd hx hb dL_law_170 ?_
  refine lw_ld (k := 2) hx hb hX hbl hS hL (by omega) dL_law_171 ?_
  refine lv_aload_n hx hb dL_law_172 rfl (lv_at hl 1 rfl) ?_
  refine lv_iload hx hb dL_law_173 (lv_at hl 0 rfl) ?_
  refine lv_iconst (v := 3) hx hb dL_law_175 (by decide) ?_
  refine lv_iadd hx hb dL_law_176 ?_
  refine lw_ld (k := 3) hx hb hX hbl hS hL (by omega) dL_law_177 ?_
  have hFc := lw_free (wc := mwL cI m0 a1 a2 a3 a4 a5 a6 th (nI C) (nI N) si f1 f2 f3 f4 f5 f6) (hD.sub [19, 20, 21, 22, 23, 24, 25] (by decide) rfl) hS (fun _ h => h)
  refine va_calli (va_runV (C := "TextureBankModel") (As := [.int (xs (i + 1)), .int (xs (i + 2)), .int (xs (i + 3))]) (rest := [.int (-1)]) ⟨hx, hb, hml, hown, hB⟩ (hMm H.size) ⟨callB_of 3 hB gwM_add rfl rfl rfl (hB _ wd_3) (hB _ wd_365) ydM_add ⟨by show F9 + 1 ≤ 10; omega, by show 8 + (7 + 11) + N9 ≤ 354; omega⟩, hB _ wd_366, hB _ wd_367⟩ (wr_V hC (hP.sub [19, 20, 21, 22, 23, 24, 25] rfl) (hK.sub [0] rfl) (hD.sub [19, 20, 21, 22, 23, 24, 25] (by decide) rfl) (va_recv hK hP (ci := 2) (q0 := 19) rfl rfl)) rfl rfl hl.1 rfl (lv_room (Nat.le_of_ble_eq_true rfl)) dL_law_178 ⟨by show _ + _ ≤ 601024; omega, by show _ + _ ≤ 7293034; omega⟩) hS (fun q _ h => hFc q h) hFc (fun r u t H1 locs ht hvm hpost hB1 hz1 hk1 hS => ?_)
  have hP1 : va_P D tbCl (mwL cI m0 a1 a2 a3 a4 a5 a6 0 (nI C) 0 si f1 f2 f3 f4 f5 f6) H1 := by rw [← ht]; exact hB1
  have hP : va_P D tbCl (lwW x0 tx ta tq cq cI cT cL m0 a1 a2 a3 a4 a5 a6 ou 0 (nI C) f S Wr O Lv G 0 (nI C) 0 si f1 f2 f3 f4 f5 f6 fo) H1 := lw_mback hP hD hk1 hP1
  have hD : va_D (fun q => s.heap.size ≤ q) (lwW x0 tx ta tq cq cI cT cL m0 a1 a2 a3 a4 a5 a6 ou 0 (nI C) f S Wr O Lv G 0 (nI C) 0 si f1 f2 f3 f4 f5 f6 fo) := wd_D hD rfl
  generalize H1 = H at hP hS ⊢
  refine W.eq (g2 := F0 m 181 ls [.int (-1), .int (-1)]) (congrArg (fun z9 => F0 m 181 ls [.int z9, .int (-1)]) hpost) ?_
  refine lv_icmp_eq (tgt := 635) hx hb dL_law_181 (by decide) (fun c_1 => ?_) (fun c_1 => ?_)
  · exact W.widen (by omega) (by omega) (hN 0 C _ _ _ _ _ _ _ _ _ _ _ _ _ _ _ _ _ (lc_noR hR) hP hD hS ls (lv_sub hl [0, 1, 2, 3, 4] rfl))
  · exact absurd rfl c_1

set_option maxHeartbeats 4000000 in
set_option maxRecDepth 100000 in
theorem lw_add_ok (K0 : lw_Cx p l s m c b L xs D cI cT cL) (hN : lw_N p l e s m below meth c b D cI cT cL x0 tx ta tq cq m0 a1 a2 a3 a4 a5 a6 ou i) (hR : lwR N C f S Wr O Lv G f1 f2 f3 f4 f5) (hP : va_P D tbCl (lwW x0 tx ta tq cq cI cT cL m0 a1 a2 a3 a4 a5 a6 ou (nI N) (nI C) f S Wr O Lv G th (nI C) (nI N) si f1 f2 f3 f4 f5 f6 fo) H) (hD : va_D (fun q => s.heap.size ≤ q) (lwW x0 tx ta tq cq cI cT cL m0 a1 a2 a3 a4 a5 a6 ou (nI N) (nI C) f S Wr O Lv G th (nI C) (nI N) si f1 f2 f3 f4 f5 f6 fo)) (hS : va_S (fun q => s.heap.size ≤ q) s.heap H locs) (hi : i + 5 ≤ L) (hl : lv_has ls 7 [(4, .int (nI i)), (0, .ref b), (1, .ref x0), (2, .ref m0), (3, .ref ou)]) (hC8 : C < 8) (k : Nat) (hk : k ≤ 5) (hN2 : N = 2 ^ k * 2 ^ k) (hw : xs (i + 2) = 0 ∨ xs (i + 2) = 1 ∨ xs (i + 2) = 2) (hf : xs (i + 3) = 0 ∨ xs (i + 3) = 1) (hBm : ∀ sz : Nat, Met l yB_add wB_add (k2_rm 5 127) (wr_P [.ref x0, .int (xs (i + 1)), .int (xs (i + 2)), .int (xs (i + 3))] sz D [(cI, .int), (cT, .object "TextureBank$Texture")] [(x0, .inr (1, [.ref tx, .int (nI N), .ref ta, .int (nI C)])), (tx, .inl (cI, 1024, .inl f)), (ta, .inl (cT, 8, .inr (.inr (.inr (.inr (fun j => some (tq j))))))), (tq C, .inr (0, [.ref (cq C), .int (S C), .int (Wr C), .int (O C), .int (Lv C)])), (cq C, .inl (cI, 1365, .inl (G C)))]) (wr_Qi (nI C) D (va_A [(x0, .inr (1, [.ref tx, .int (nI N), .ref ta, .int (nI C)])), (tx, .inl (cI, 1024, .inl f)), (ta, .inl (cT, 8, .inr (.inr (.inr (.inr (fun j => some (tq j))))))), (tq C, .inr (0, [.ref (cq C), .int (S C), .int (Wr C), .int (O C), .int (Lv C)])), (cq C, .inl (cI, 1365, .inl (G C)))] sz) [(x0, .inr (1, [.ref tx, .int 0, .ref ta, .int (nI (C + 1))])), (tx, .inl (cI, 1024, .inl f)), (ta, .inl (cT, 8, .inr (.inr (.inr (.inr (fun j => some (tq j))))))), (tq C, .inr (0, [.ref (cq C), .int (nI (2 ^ k)), .int (xs (i + 2)), .int (xs (i + 3)), .int (nI (k + 1))])), (cq C, .inl (cI, 1365, .inl (tt_fl (va_cpy f (G C) 0 (st4 k) (4 ^ k)) k)))]) 0 0 (va_A [(x0, .inr (1, [.ref tx, .int (nI N), .ref ta, .int (nI C)])), (tx, .inl (cI, 1024, .inl f)), (ta, .inl (cT, 8, .inr (.inr (.inr (.inr (fun j => some (tq j))))))), (tq C, .inr (0, [.ref (cq C), .int (S C), .int (Wr C), .int (O C), .int (Lv C)])), (cq C, .inl (cI, 1365, .inl (G C)))] sz)) (F9 N9 : Nat) (hF9 : F9 ≤ 8) (hN9 : N9 ≤ 250) (hMm : ∀ sz : Nat, Met l yM_add wM_add (k2_rm F9 N9) (wr_P [.ref m0, .int (xs (i + 1)), .int (xs (i + 2)), .int (xs (i + 3))] sz D [(cI, .int)] (mwL cI m0 a1 a2 a3 a4 a5 a6 th (nI C) (nI N) si f1 f2 f3 f4 f5 f6)) (wr_Qi (nI C) D (va_A (mwL cI m0 a1 a2 a3 a4 a5 a6 th (nI C) (nI N) si f1 f2 f3 f4 f5 f6) sz) (mwL cI m0 a1 a2 a3 a4 a5 a6 0 (nI (C + 1)) 0 si (upd f1 C (nI (2 ^ k))) (upd f2 C (xs (i + 2))) (upd f3 C (xs (i + 3))) (va_cpy f5 f4 0 (1024 * C) (4 ^ k)) f5 f6)) 0 0 (va_A (mwL cI m0 a1 a2 a3 a4 a5 a6 th (nI C) (nI N) si f1 f2 f3 f4 f5 f6) sz)) : W p l e room_1 s m #[Value.ref b] below meth c H locs (27 + i) (22271 + 6 * i) (lw_Z below #[Value.ref b] s) (F0 m 137 ls []) := by
  obtain ⟨hx, hb, hml, hown, hB, hC, hT, hK, hX, hbl, hZ, hL, hl9⟩ := K0
  refine lv_aload_n hx hb dL_law_137 rfl (lv_at hl 2 rfl) ?_
  refine lv_aload_n hx hb dL_law_138 rfl (lv_at hl 1 rfl) ?_
  refine lv_iload hx hb dL_law_139 (lv_at hl 0 rfl) ?_
  refine lv_iconst (v := 1) hx hb dL_law_141 (by decide) ?_
  refine lv_iadd hx hb dL_law_142 ?_
  refine lw_ld (k := 1) hx hb hX hbl hS hL (by omega) dL_law_143 ?_
  refine lv_aload_n hx hb dL_law_144 rfl (lv_at hl 1 rfl) ?_
  refine lv_iload hx hb dL_law_145 (lv_at hl 0 rfl) ?_
  refine lv_iconst (v := 2) hx hb dL_law_147 (by decide) ?_
  refine lv_iadd hx hb dL_law_148 ?_
  refine lw_ld (k := 2) hx hb hX hbl hS hL (by omega) dL_law_149 ?_
  refine lv_aload_n hx hb dL_law_150 rfl (lv_at hl 1 rfl) ?_
  refine lv_iload hx hb dL_law_151 (lv_at hl 0 rfl) ?_
  refine lv_iconst (v := 3) hx hb dL_law_153 (by decide) ?_
  refine lv_iadd hx hb dL_law_154 ?_
  refine lw_ld (k := 3) hx hb hX hbl hS hL (by omega) dL_law_155 ?_
  have hFc := lw_free (wc := [(x0, .inr (1, [.ref tx, .int (nI N), .ref ta, .int (nI C)])), (tx, .inl (cI, 1024, .inl f)), (ta, .inl (cT, 8, .inr (.inr (.inr (.inr (fun j => some (tq j))))))), (tq C, .inr (0, [.ref (cq C), .int (S C), .int (Wr C), .int (O C), .int (Lv C)])), (cq C, .inl (cI, 1365, .inl (G C)))]) ((lw_suba hP hD hC8).2) hS (fun _ h => h)
  refine va_calli (va_runV (C := "TextureBank") (As := [.int (xs (i + 1)), .int (xs (i + 2)), .int (xs (i + 3))]) (rest := []) ⟨hx, hb, hml, hown, hB⟩ (hBm H.size) ⟨callB_of 3 hB gwB_add rfl rfl rfl (hB _ wd_1) (hB _ wd_71) ydB_add ⟨Nat.le_of_ble_eq_true rfl, Nat.le_of_ble_eq_true rfl⟩, hB _ wd_72, hB _ wd_73⟩ (wr_V hC ((lw_suba hP hD hC8).1) (hK.sub [0, 1] rfl) ((lw_suba hP hD hC8).2) (va_recv hK hP (ci := 1) (q0 := 0) rfl rfl)) rfl rfl hl.1 rfl (lv_room (Nat.le_of_ble_eq_true rfl)) dL_law_156 ⟨by show _ + _ ≤ 601024; omega, by show _ + _ ≤ 7293034; omega⟩) hS (fun q _ h => hFc q h) hFc (fun r u t H1 locs ht hvm hpost hB1 hz1 hk1 hS => ?_)
  have hP1 : va_P D tbCl [(x0, .inr (1, [.ref tx, .int 0, .ref ta, .int (nI (C + 1))])), (tx, .inl (cI, 1024, .inl f)), (ta, .inl (cT, 8, .inr (.inr (.inr (.inr (fun j => some (tq j))))))), (tq C, .inr (0, [.ref (cq C), .int (nI (2 ^ k)), .int (xs (i + 2)), .int (xs (i + 3)), .int (nI (k + 1))])), (cq C, .inl (cI, 1365, .inl (tt_fl (va_cpy f (G C) 0 (st4 k) (4 ^ k)) k)))] H1 := by rw [← ht]; exact hB1
  have hP : va_P D tbCl (lwW x0 tx ta tq cq cI cT cL m0 a1 a2 a3 a4 a5 a6 ou 0 (nI (C + 1)) f (va_up S C (nI (2 ^ k))) (va_up Wr C (xs (i + 2))) (va_up O C (xs (i + 3))) (va_up Lv C (nI (k + 1))) (va_up G C (tt_fl (va_cpy f (G C) 0 (st4 k) (4 ^ k)) k)) th (nI C) (nI N) si f1 f2 f3 f4 f5 f6 fo) H1 := lw_addback hP hD hC8 hk1 hP1
  have hD : va_D (fun q => s.heap.size ≤ q) (lwW x0 tx ta tq cq cI cT cL m0 a1 a2 a3 a4 a5 a6 ou 0 (nI (C + 1)) f (va_up S C (nI (2 ^ k))) (va_up Wr C (xs (i + 2))) (va_up O C (xs (i + 3))) (va_up Lv C (nI (k + 1))) (va_up G C (tt_fl (va_cpy f (G C) 0 (st4 k) (4 ^ k)) k)) th (nI C) (nI N) si f1 f2 f3 f4 f5 f6 fo) := wd_D hD rfl
  generalize H1 = H at hP hS ⊢
  refine W.eq (g2 := F0 m 159 ls [.int (nI C)]) (congrArg (fun z9 => F0 m 159 ls [.int z9]) hpost) ?_
  refine lv_aload_n hx hb dL_law_159 rfl (lv_at hl 3 rfl) ?_
  refine lv_aload_n hx hb dL_law_160 rfl (lv_at hl 1 rfl) ?_
  refine lv_iload hx hb dL_law_161 (lv_at hl 0 rfl) ?_
  refine lv_iconst (v := 1) hx hb dL_law_163 (by decide) ?_
  refine lv_iadd hx hb dL_law_164 ?_
  refine lw_ld (k := 1) hx hb hX hbl hS hL (by omega) dL_law_165 ?_
  refine lv_aload_n hx hb dL_law_166 rfl (lv_at hl 1 rfl) ?_
  refine lv_iload hx hb dL_law_167 (lv_at hl 0 rfl) ?_
  refine lv_iconst (v := 2) hx hb dL_law_169 (by decide) ?_
  refine lv_iadd hx hb dL_law_170 ?_
  refine lw_ld (k := 2) hx hb hX hbl hS hL (by omega) dL_law_171 ?_
  refine lv_aload_n hx hb dL_law_172 rfl (lv_at hl 1 rfl) ?_
  refine lv_iload hx hb dL_law_173 (lv_at hl 0 rfl) ?_
  refine lv_iconst (v := 3) hx hb dL_law_175 (by decide) ?_
  refine lv_iadd hx hb dL_law_176 ?_
  refine lw_ld (k := 3) hx hb hX hbl hS hL (by omega) dL_law_177 ?_
  have hFc := lw_free (wc := mwL cI m0 a1 a2 a3 a4 a5 a6 th (nI C) (nI N) si f1 f2 f3 f4 f5 f6) (hD.sub [19, 20, 21, 22, 23, 24, 25] (by decide) rfl) hS (fun _ h => h)
  refine va_calli (va_runV (C := "TextureBankModel") (As := [.int (xs (i + 1)), .int (xs (i + 2)), .int (xs (i + 3))]) (rest := [.int (nI C)]) ⟨hx, hb, hml, hown, hB⟩ (hMm H.size) ⟨callB_of 3 hB gwM_add rfl rfl rfl (hB _ wd_3) (hB _ wd_365) ydM_add ⟨by show F9 + 1 ≤ 10; omega, by show 8 + (7 + 11) + N9 ≤ 354; omega⟩, hB _ wd_366, hB _ wd_367⟩ (wr_V hC (hP.sub [19, 20, 21, 22, 23, 24, 25] rfl) (hK.sub [0] rfl) (hD.sub [19, 20, 21, 22, 23, 24, 25] (by decide) rfl) (va_recv hK hP (ci := 2) (q0 := 19) rfl rfl)) rfl rfl hl.1 rfl (lv_room (Nat.le_of_ble_eq_true rfl)) dL_law_178 ⟨by show _ + _ ≤ 601024; omega, by show _ + _ ≤ 7293034; omega⟩) hS (fun q _ h => hFc q h) hFc (fun r u t H1 locs ht hvm hpost hB1 hz1 hk1 hS => ?_)
  have hP1 : va_P D tbCl (mwL cI m0 a1 a2 a3 a4 a5 a6 0 (nI (C + 1)) 0 si (upd f1 C (nI (2 ^ k))) (upd f2 C (xs (i + 2))) (upd f3 C (xs (i + 3))) (va_cpy f5 f4 0 (1024 * C) (4 ^ k)) f5 f6) H1 := by rw [← ht]; exact hB1
  have hP : va_P D tbCl (lwW x0 tx ta tq cq cI cT cL m0 a1 a2 a3 a4 a5 a6 ou 0 (nI (C + 1)) f (va_up S C (nI (2 ^ k))) (va_up Wr C (xs (i + 2))) (va_up O C (xs (i + 3))) (va_up Lv C (nI (k + 1))) (va_up G C (tt_fl (va_cpy f (G C) 0 (st4 k) (4 ^ k)) k)) 0 (nI (C + 1)) 0 si (upd f1 C (nI (2 ^ k))) (upd f2 C (xs (i + 2))) (upd f3 C (xs (i + 3))) (va_cpy f5 f4 0 (1024 * C) (4 ^ k)) f5 f6 fo) H1 := lw_mback hP hD hk1 hP1
  have hD : va_D (fun q => s.heap.size ≤ q) (lwW x0 tx ta tq cq cI cT cL m0 a1 a2 a3 a4 a5 a6 ou 0 (nI (C + 1)) f (va_up S C (nI (2 ^ k))) (va_up Wr C (xs (i + 2))) (va_up O C (xs (i + 3))) (va_up Lv C (nI (k + 1))) (va_up G C (tt_fl (va_cpy f (G C) 0 (st4 k) (4 ^ k)) k)) 0 (nI (C + 1)) 0 si (upd f1 C (nI (2 ^ k))) (upd f2 C (xs (i + 2))) (upd f3 C (xs (i + 3))) (va_cpy f5 f4 0 (1024 * C) (4 ^ k)) f5 f6 fo) := wd_D hD rfl
  generalize H1 = H at hP hS ⊢
  refine W.eq (g2 := F0 m 181 ls [.int (nI C), .int (nI C)]) (congrArg (fun z9 => F0 m 181 ls [.int z9, .int (nI C)]) hpost) ?_
  refine lv_icmp_eq (tgt := 635) hx hb dL_law_181 (by decide) (fun c_1 => ?_) (fun c_1 => ?_)
  · exact W.widen (by omega) (by omega) (hN 0 (C + 1) _ _ _ _ _ _ _ _ _ _ _ _ _ _ _ _ _ (lc_addR hR hC8 hk hN2 hw hf) hP hD hS ls (lv_sub hl [0, 1, 2, 3, 4] rfl))
  · exact absurd rfl c_1

set_option maxHeartbeats 4000000 in
set_option maxRecDepth 100000 in
theorem lw_clear_ok (K0 : lw_Cx p l s m c b L xs D cI cT cL) (hN : lw_N p l e s m below meth c b D cI cT cL x0 tx ta tq cq m0 a1 a2 a3 a4 a5 a6 ou i) (hR : lwR N C f S Wr O Lv G f1 f2 f3 f4 f5) (hP : va_P D tbCl (lwW x0 tx ta tq cq cI cT cL m0 a1 a2 a3 a4 a5 a6 ou (nI N) (nI C) f S Wr O Lv G th (nI C) (nI N) si f1 f2 f3 f4 f5 f6 fo) H) (hD : va_D (fun q => s.heap.size ≤ q) (lwW x0 tx ta tq cq cI cT cL m0 a1 a2 a3 a4 a5 a6 ou (nI N) (nI C) f S Wr O Lv G th (nI C) (nI N) si f1 f2 f3 f4 f5 f6 fo)) (hS : va_S (fun q => s.heap.size ≤ q) s.heap H locs) (hi : i + 5 ≤ L) (hl : lv_has ls 7 [(4, .int (nI i)), (0, .ref b), (1, .ref x0), (2, .ref m0), (3, .ref ou)])  : W p l e room_1 s m #[Value.ref b] below meth c H locs (27 + i) (22271 + 6 * i) (lw_Z below #[Value.ref b] s) (F0 m 186 ls []) := by
  obtain ⟨hx, hb, hml, hown, hB, hC, hT, hK, hX, hbl, hZ, hL, hl9⟩ := K0
  refine lv_aload_n hx hb dL_law_186 rfl (lv_at hl 2 rfl) ?_
  have hFc := lw_free (wc := [(x0, .inr (1, [.ref tx, .int (nI N), .ref ta, .int (nI C)]))]) (hD.sub [0] (by decide) rfl) hS (fun _ h => h)
  refine va_callv (va_runV (C := "TextureBank") (As := []) (rest := []) ⟨hx, hb, hml, hown, hB⟩ (kB_clear l D H.size cI cT x0 tx ta (nI N) (nI C)) ⟨callB_of 0 hB gwB_clear rfl rfl rfl (hB _ wd_1) (hB _ wd_123) ydB_clear ⟨Nat.le_of_ble_eq_true rfl, Nat.le_of_ble_eq_true rfl⟩, hB _ wd_124, hB _ wd_125⟩ (wr_V hC (hP.sub [0] rfl) (hK.sub [0, 1] rfl) (hD.sub [0] (by decide) rfl) (va_recv hK hP (ci := 1) (q0 := 0) rfl rfl)) rfl rfl hl.1 rfl (lv_room (Nat.le_of_ble_eq_true rfl)) dL_law_187 ⟨by show _ + _ ≤ 601024; omega, by show _ + _ ≤ 7293034; omega⟩) hS (fun q _ h => hFc q h) hFc (fun u t H1 locs ht hvm hpost hB1 hz1 hk1 hS => ?_)
  have hP1 : va_P D tbCl [(x0, .inr (1, [.ref tx, .int (nI N), .ref ta, .int 0]))] H1 := by rw [← ht]; exact hB1
  have hP : va_P D tbCl (lwW x0 tx ta tq cq cI cT cL m0 a1 a2 a3 a4 a5 a6 ou (nI N) 0 f S Wr O Lv G th (nI C) (nI N) si f1 f2 f3 f4 f5 f6 fo) H1 := lw_xback hP hD hk1 hP1
  have hD : va_D (fun q => s.heap.size ≤ q) (lwW x0 tx ta tq cq cI cT cL m0 a1 a2 a3 a4 a5 a6 ou (nI N) 0 f S Wr O Lv G th (nI C) (nI N) si f1 f2 f3 f4 f5 f6 fo) := wd_D hD rfl
  generalize H1 = H at hP hS ⊢
  refine W.eq (g2 := F0 m 190 ls []) rfl ?_
  refine lv_aload_n hx hb dL_law_190 rfl (lv_at hl 3 rfl) ?_
  have hFc := lw_free (wc := mwL cI m0 a1 a2 a3 a4 a5 a6 th (nI C) (nI N) si f1 f2 f3 f4 f5 f6) (hD.sub [19, 20, 21, 22, 23, 24, 25] (by decide) rfl) hS (fun _ h => h)
  refine va_callv (va_runV (C := "TextureBankModel") (As := []) (rest := []) ⟨hx, hb, hml, hown, hB⟩ (kM_clear l D H.size cI m0 a1 a2 a3 a4 a5 a6 th (nI C) (nI N) si f1 f2 f3 f4 f5 f6) ⟨callB_of 0 hB gwM_clear rfl rfl rfl (hB _ wd_3) (hB _ wd_369) ydM_clear ⟨Nat.le_of_ble_eq_true rfl, Nat.le_of_ble_eq_true rfl⟩, hB _ wd_370, hB _ wd_371⟩ (wr_V hC (hP.sub [19, 20, 21, 22, 23, 24, 25] rfl) (hK.sub [0] rfl) (hD.sub [19, 20, 21, 22, 23, 24, 25] (by decide) rfl) (va_recv hK hP (ci := 2) (q0 := 19) rfl rfl)) rfl rfl hl.1 rfl (lv_room (Nat.le_of_ble_eq_true rfl)) dL_law_191 ⟨by show _ + _ ≤ 601024; omega, by show _ + _ ≤ 7293034; omega⟩) hS (fun q _ h => hFc q h) hFc (fun u t H1 locs ht hvm hpost hB1 hz1 hk1 hS => ?_)
  have hP1 : va_P D tbCl (mwL cI m0 a1 a2 a3 a4 a5 a6 0 0 (nI N) si f1 f2 f3 f4 f5 f6) H1 := by rw [← ht]; exact hB1
  have hP : va_P D tbCl (lwW x0 tx ta tq cq cI cT cL m0 a1 a2 a3 a4 a5 a6 ou (nI N) 0 f S Wr O Lv G 0 0 (nI N) si f1 f2 f3 f4 f5 f6 fo) H1 := lw_mback hP hD hk1 hP1
  have hD : va_D (fun q => s.heap.size ≤ q) (lwW x0 tx ta tq cq cI cT cL m0 a1 a2 a3 a4 a5 a6 ou (nI N) 0 f S Wr O Lv G 0 0 (nI N) si f1 f2 f3 f4 f5 f6 fo) := wd_D hD rfl
  generalize H1 = H at hP hS ⊢
  refine W.eq (g2 := F0 m 194 ls []) rfl ?_
  refine lv_goto (tgt := 635) hx hb dL_law_194 (by decide) ?_
  exact W.widen (by omega) (by omega) (hN N 0 _ _ _ _ _ _ _ _ _ _ _ _ _ _ _ _ _ (lc_clrR hR) hP hD hS ls (lv_sub hl [0, 1, 2, 3, 4] rfl))

set_option maxHeartbeats 4000000 in
set_option maxRecDepth 100000 in
theorem lw_level_x (K0 : lw_Cx p l s m c b L xs D cI cT cL) (hN : lw_N p l e s m below meth c b D cI cT cL x0 tx ta tq cq m0 a1 a2 a3 a4 a5 a6 ou i) (hR : lwR N C f S Wr O Lv G f1 f2 f3 f4 f5) (hP : va_P D tbCl (lwW x0 tx ta tq cq cI cT cL m0 a1 a2 a3 a4 a5 a6 ou (nI N) (nI C) f S Wr O Lv G th (nI C) (nI N) si f1 f2 f3 f4 f5 f6 fo) H) (hD : va_D (fun q => s.heap.size ≤ q) (lwW x0 tx ta tq cq cI cT cL m0 a1 a2 a3 a4 a5 a6 ou (nI N) (nI C) f S Wr O Lv G th (nI C) (nI N) si f1 f2 f3 f4 f5 f6 fo)) (hS : va_S (fun q => s.heap.size ≤ q) s.heap H locs) (hi : i + 5 ≤ L) (hl : lv_has ls 7 [(4, .int (nI i)), (0, .ref b), (1, .ref x0), (2, .ref m0), (3, .ref ou)]) (W9 : va_W) (c9 r9 si2 : Int32) (e6 : Nat → Int32) (hc9 : ¬ c9 = 0) (hPW : va_P D tbCl W9 H) (hH : Met l yL_level wL_level ({ frames := 7, cells := 1, slots := 6, locals := 200 }) (th_P [.ref x0, .int (xs (i + 1)), .long (((xs (i + 2)).toInt64 <<< ((32 : Int32).toInt64 &&& 63)) ||| ((xs (i + 3)).toInt64 &&& 4294967295)), .int (xs (i + 4)), .ref ou] D [(cI, .int), (cT, .object "TextureBank$Texture")] W9) (va_Qi (fun (x : Int32) (_ : Unit) => x = c9) (fun _ _ => True) (fun _ => False)) 1 6 (fun _ => False)) (F9 N9 : Nat) (hF9 : F9 ≤ 8) (hN9 : N9 ≤ 250) (hMm : ∀ sz : Nat, Met l yM_level wM_level (k2_rm F9 N9) (wr_P [.ref m0, .int (xs (i + 1)), .long (((xs (i + 2)).toInt64 <<< ((32 : Int32).toInt64 &&& 63)) ||| ((xs (i + 3)).toInt64 &&& 4294967295)), .int (xs (i + 4))] sz D [(cI, .int)] (mwL cI m0 a1 a2 a3 a4 a5 a6 th (nI C) (nI N) si f1 f2 f3 f4 f5 f6)) (wr_Qi (r9) D (va_A (mwL cI m0 a1 a2 a3 a4 a5 a6 th (nI C) (nI N) si f1 f2 f3 f4 f5 f6) sz) (mwL cI m0 a1 a2 a3 a4 a5 a6 c9 (nI C) (nI N) si2 f1 f2 f3 f4 f5 e6)) 0 0 (va_A (mwL cI m0 a1 a2 a3 a4 a5 a6 th (nI C) (nI N) si f1 f2 f3 f4 f5 f6) sz)) : W p l e room_1 s m #[Value.ref b] below meth c H locs (27 + i) (22271 + 6 * i) (lw_Z below #[Value.ref b] s) (F0 m 197 ls []) := by
  obtain ⟨hx, hb, hml, hown, hB, hC, hT, hK, hX, hbl, hZ, hL, hl9⟩ := K0
  refine lv_aload_n hx hb dL_law_197 rfl (lv_at hl 2 rfl) ?_
  refine lv_aload_n hx hb dL_law_198 rfl (lv_at hl 1 rfl) ?_
  refine lv_iload hx hb dL_law_199 (lv_at hl 0 rfl) ?_
  refine lv_iconst (v := 1) hx hb dL_law_201 (by decide) ?_
  refine lv_iadd hx hb dL_law_202 ?_
  refine lw_ld (k := 1) hx hb hX hbl hS hL (by omega) dL_law_203 ?_
  refine lv_aload_n hx hb dL_law_204 rfl (lv_at hl 1 rfl) ?_
  refine lv_iload hx hb dL_law_205 (lv_at hl 0 rfl) ?_
  refine lv_iconst (v := 2) hx hb dL_law_207 (by decide) ?_
  refine lv_iadd hx hb dL_law_208 ?_
  refine lw_ld (k := 2) hx hb hX hbl hS hL (by omega) dL_law_209 ?_
  refine lv_i2l hx hb dL_law_210 rfl ?_
  refine lv_bipush (v := 32) hx hb dL_law_211 (by decide) ?_
  refine lv_lshl hx hb dL_law_213 rfl ?_
  refine lv_aload_n hx hb dL_law_214 rfl (lv_at hl 1 rfl) ?_
  refine lv_iload hx hb dL_law_215 (lv_at hl 0 rfl) ?_
  refine lv_iconst (v := 3) hx hb dL_law_217 (by decide) ?_
  refine lv_iadd hx hb dL_law_218 ?_
  refine lw_ld (k := 3) hx hb hX hbl hS hL (by omega) dL_law_219 ?_
  refine lv_i2l hx hb dL_law_220 rfl ?_
  refine lv_ldc2 (v := 4294967295) hx hb hown (hB _ wd_439) dL_law_221 ?_
  refine lv_land hx hb dL_law_224 ?_
  refine lv_lor hx hb dL_law_225 ?_
  refine lv_aload_n hx hb dL_law_226 rfl (lv_at hl 1 rfl) ?_
  refine lv_iload hx hb dL_law_227 (lv_at hl 0 rfl) ?_
  refine lv_iconst (v := 4) hx hb dL_law_229 (by decide) ?_
  refine lv_iadd hx hb dL_law_230 ?_
  refine lw_ld (k := 4) hx hb hX hbl hS hL (by omega) dL_law_231 ?_
  refine lv_aload_n hx hb dL_law_232 rfl (lv_at hl 4 rfl) ?_
  refine va_calli (vx_runSW (As := [.ref x0, .int (xs (i + 1)), .long ((((xs (i + 2)).toInt64) <<< ((32 : Int32).toInt64 &&& 63)) ||| (((xs (i + 3)).toInt64) &&& 4294967295)), .int (xs (i + 4)), .ref ou]) (rest := []) ⟨hx, hb, hml, hown, hB⟩ hH (vx_cwSW 5 hB gsL_level rfl rfl rfl ydL_level ⟨Nat.le_of_ble_eq_true rfl, Nat.le_of_ble_eq_true rfl⟩) (th_S hC hPW (hK.sub [0, 1] rfl) hT (tbZ.of (hZ.1.kept hS.2.1) (hZ.2.kept hS.2.1))) rfl rfl hl.1 rfl (lv_room (Nat.le_of_ble_eq_true rfl)) dL_law_233 ⟨by show _ + _ ≤ 601024; omega, by show _ + _ ≤ 7293034; omega⟩) hS (fun q _ h => h.elim) (fun q h => h.elim) (fun r u t H1 locs ht hvm hpost hB1 hz1 hk1 hS => ?_)
  have hP : va_P D tbCl (lwW x0 tx ta tq cq cI cT cL m0 a1 a2 a3 a4 a5 a6 ou (nI N) (nI C) f S Wr O Lv G th (nI C) (nI N) si f1 f2 f3 f4 f5 f6 fo) H1 := wd_back (wc := []) hP hD [] rfl (fun q h _ => hk1 q h id) tbP0 (fun k q hq => Or.inr ⟨List.not_mem_nil, hq⟩)
  generalize H1 = H at hP hS ⊢
  refine W.eq (g2 := F0 m 236 ls [.int c9]) (congrArg (fun z9 => F0 m 236 ls [.int z9]) hpost) ?_
  refine lv_istore (lv' := [(5, .int c9), (4, .int (nI i)), (0, .ref b), (1, .ref x0), (2, .ref m0), (3, .ref ou)]) hx hb dL_law_236 hl (by decide) rfl (fun ls hl => ?_)
  refine lv_aload_n hx hb dL_law_238 rfl (lv_at hl 4 rfl) ?_
  refine lv_aload_n hx hb dL_law_239 rfl (lv_at hl 2 rfl) ?_
  refine lv_iload hx hb dL_law_240 (lv_at hl 1 rfl) ?_
  refine lv_iconst (v := 1) hx hb dL_law_242 (by decide) ?_
  refine lv_iadd hx hb dL_law_243 ?_
  refine lw_ld (k := 1) hx hb hX hbl hS hL (by omega) dL_law_244 ?_
  refine lv_aload_n hx hb dL_law_245 rfl (lv_at hl 2 rfl) ?_
  refine lv_iload hx hb dL_law_246 (lv_at hl 1 rfl) ?_
  refine lv_iconst (v := 2) hx hb dL_law_248 (by decide) ?_
  refine lv_iadd hx hb dL_law_249 ?_
  refine lw_ld (k := 2) hx hb hX hbl hS hL (by omega) dL_law_250 ?_
  refine lv_i2l hx hb dL_law_251 rfl ?_
  refine lv_bipush (v := 32) hx hb dL_law_252 (by decide) ?_
  refine lv_lshl hx hb dL_law_254 rfl ?_
  refine lv_aload_n hx hb dL_law_255 rfl (lv_at hl 2 rfl) ?_
  refine lv_iload hx hb dL_law_256 (lv_at hl 1 rfl) ?_
  refine lv_iconst (v := 3) hx hb dL_law_258 (by decide) ?_
  refine lv_iadd hx hb dL_law_259 ?_
  refine lw_ld (k := 3) hx hb hX hbl hS hL (by omega) dL_law_260 ?_
  refine lv_i2l hx hb dL_law_261 rfl ?_
  refine lv_ldc2 (v := 4294967295) hx hb hown (hB _ wd_439) dL_law_262 ?_
  refine lv_land hx hb dL_law_265 ?_
  refine lv_lor hx hb dL_law_266 ?_
  refine lv_aload_n hx hb dL_law_267 rfl (lv_at hl 2 rfl) ?_
  refine lv_iload hx hb dL_law_268 (lv_at hl 1 rfl) ?_
  refine lv_iconst (v := 4) hx hb dL_law_270 (by decide) ?_
  refine lv_iadd hx hb dL_law_271 ?_
  refine lw_ld (k := 4) hx hb hX hbl hS hL (by omega) dL_law_272 ?_
  have hFc := lw_free (wc := mwL cI m0 a1 a2 a3 a4 a5 a6 th (nI C) (nI N) si f1 f2 f3 f4 f5 f6) (hD.sub [19, 20, 21, 22, 23, 24, 25] (by decide) rfl) hS (fun _ h => h)
  refine va_calli (va_runV (C := "TextureBankModel") (As := [.int (xs (i + 1)), .long ((((xs (i + 2)).toInt64) <<< ((32 : Int32).toInt64 &&& 63)) ||| (((xs (i + 3)).toInt64) &&& 4294967295)), .int (xs (i + 4))]) (rest := []) ⟨hx, hb, hml, hown, hB⟩ (hMm H.size) ⟨callB_of 3 hB gwM_level rfl rfl rfl (hB _ wd_3) (hB _ wd_373) ydM_level ⟨by show F9 + 1 ≤ 10; omega, by show 8 + (10 + 11) + N9 ≤ 354; omega⟩, hB _ wd_374, hB _ wd_375⟩ (wr_V hC (hP.sub [19, 20, 21, 22, 23, 24, 25] rfl) (hK.sub [0] rfl) (hD.sub [19, 20, 21, 22, 23, 24, 25] (by decide) rfl) (va_recv hK hP (ci := 2) (q0 := 19) rfl rfl)) rfl rfl hl.1 rfl (lv_room (Nat.le_of_ble_eq_true rfl)) dL_law_273 ⟨by show _ + _ ≤ 601024; omega, by show _ + _ ≤ 7293034; omega⟩) hS (fun q _ h => hFc q h) hFc (fun r u t H1 locs ht hvm hpost hB1 hz1 hk1 hS => ?_)
  have hP1 : va_P D tbCl (mwL cI m0 a1 a2 a3 a4 a5 a6 c9 (nI C) (nI N) si2 f1 f2 f3 f4 f5 e6) H1 := by rw [← ht]; exact hB1
  have hP : va_P D tbCl (lwW x0 tx ta tq cq cI cT cL m0 a1 a2 a3 a4 a5 a6 ou (nI N) (nI C) f S Wr O Lv G c9 (nI C) (nI N) si2 f1 f2 f3 f4 f5 e6 fo) H1 := lw_mback hP hD hk1 hP1
  have hD : va_D (fun q => s.heap.size ≤ q) (lwW x0 tx ta tq cq cI cT cL m0 a1 a2 a3 a4 a5 a6 ou (nI N) (nI C) f S Wr O Lv G c9 (nI C) (nI N) si2 f1 f2 f3 f4 f5 e6 fo) := wd_D hD rfl
  generalize H1 = H at hP hS ⊢
  refine W.eq (g2 := F0 m 276 ls [.int r9]) (congrArg (fun z9 => F0 m 276 ls [.int z9]) hpost) ?_
  refine lv_istore (lv' := [(6, .int r9), (5, .int c9), (4, .int (nI i)), (0, .ref b), (1, .ref x0), (2, .ref m0), (3, .ref ou)]) hx hb dL_law_276 hl (by decide) rfl (fun ls hl => ?_)
  refine lv_aload_n hx hb dL_law_278 rfl (lv_at hl 5 rfl) ?_
  refine W.callV (W.runV (C := "TextureBankModel") (As := []) (rest := []) ⟨hx, hb, hml, hown, hB⟩ (kM_thrown l D cI m0 a1 a2 a3 a4 a5 a6 c9 (nI C) (nI N) si2 f1 f2 f3 f4 f5 e6) ⟨callB_of 0 hB gwM_thrown rfl rfl rfl (hB _ wd_3) (hB _ wd_353) ydM_thrown ⟨Nat.le_of_ble_eq_true rfl, Nat.le_of_ble_eq_true rfl⟩, hB _ wd_354, hB _ wd_355⟩ (rd_V hC (hP.sub [19, 20, 21, 22, 23, 24, 25] rfl) (hK.sub [0] rfl) (va_recv hK hP (ci := 2) (q0 := 19) rfl rfl)) rfl rfl hl.1 rfl (lv_room (Nat.le_of_ble_eq_true rfl)) dL_law_279 ⟨by show _ + _ ≤ 601024; omega, by show _ + _ ≤ 7293034; omega⟩) ?_
  refine W.eq (g2 := F0 m 282 ls [.int c9]) rfl ?_
  refine lv_iload hx hb dL_law_282 (lv_at hl 1 rfl) ?_
  refine lv_icmp_eq (tgt := 289) hx hb dL_law_284 (by decide) (fun c_1 => ?_) (fun c_1 => ?_)
  · refine lv_iload hx hb dL_law_289 (lv_at hl 1 rfl) ?_
    refine lv_if_ne (tgt := 306) hx hb dL_law_291 (by decide) (fun c_2 => ?_) (fun c_2 => ?_)
    · refine lv_goto (tgt := 635) hx hb dL_law_306 (by decide) ?_
      exact W.widen (by omega) (by omega) (hN N C _ _ _ _ _ _ _ _ _ _ _ _ _ _ _ _ _ (hR) hP hD hS ls (lv_sub hl [2, 3, 4, 5, 6] rfl))
    · exact absurd c_2 hc9
  · exact absurd rfl c_1

set_option maxHeartbeats 4000000 in
set_option maxRecDepth 100000 in
theorem lw_level_o (K0 : lw_Cx p l s m c b L xs D cI cT cL) (hN : lw_N p l e s m below meth c b D cI cT cL x0 tx ta tq cq m0 a1 a2 a3 a4 a5 a6 ou i) (hR : lwR N C f S Wr O Lv G f1 f2 f3 f4 f5) (hP : va_P D tbCl (lwW x0 tx ta tq cq cI cT cL m0 a1 a2 a3 a4 a5 a6 ou (nI N) (nI C) f S Wr O Lv G th (nI C) (nI N) si f1 f2 f3 f4 f5 f6 fo) H) (hD : va_D (fun q => s.heap.size ≤ q) (lwW x0 tx ta tq cq cI cT cL m0 a1 a2 a3 a4 a5 a6 ou (nI N) (nI C) f S Wr O Lv G th (nI C) (nI N) si f1 f2 f3 f4 f5 f6 fo)) (hS : va_S (fun q => s.heap.size ≤ q) s.heap H locs) (hi : i + 5 ≤ L) (hl : lv_has ls 7 [(4, .int (nI i)), (0, .ref b), (1, .ref x0), (2, .ref m0), (3, .ref ou)]) (W9 : va_W) (r9 si2 : Int32) (e6 : Nat → Int32) (hPW : va_P D tbCl W9 H) (hH : ∀ sz : Nat, Met l yL_level wL_level (k2_rm 7 200) (lo_P [.ref x0, .int (xs (i + 1)), .long (((xs (i + 2)).toInt64 <<< ((32 : Int32).toInt64 &&& 63)) ||| ((xs (i + 3)).toInt64 &&& 4294967295)), .int (xs (i + 4)), .ref ou] sz D [(cI, .int), (cT, .object "TextureBank$Texture"), (cL, .long)] W9 [(ou, .inl (cL, 1, .inr (.inl fo)))]) (va_Qi (fun (x : Int32) (_ : Unit) => x = 0) (fun _ t => va_P D tbCl [(ou, .inl (cL, 1, .inr (.inl (vp_updL fo 0 r9.toInt64))))] t.heap) (va_A [(ou, .inl (cL, 1, .inr (.inl fo)))] sz)) 0 0 (va_A [(ou, .inl (cL, 1, .inr (.inl fo)))] sz)) (F9 N9 : Nat) (hF9 : F9 ≤ 8) (hN9 : N9 ≤ 250) (hMm : ∀ sz : Nat, Met l yM_level wM_level (k2_rm F9 N9) (wr_P [.ref m0, .int (xs (i + 1)), .long (((xs (i + 2)).toInt64 <<< ((32 : Int32).toInt64 &&& 63)) ||| ((xs (i + 3)).toInt64 &&& 4294967295)), .int (xs (i + 4))] sz D [(cI, .int)] (mwL cI m0 a1 a2 a3 a4 a5 a6 th (nI C) (nI N) si f1 f2 f3 f4 f5 f6)) (wr_Qi (r9) D (va_A (mwL cI m0 a1 a2 a3 a4 a5 a6 th (nI C) (nI N) si f1 f2 f3 f4 f5 f6) sz) (mwL cI m0 a1 a2 a3 a4 a5 a6 0 (nI C) (nI N) si2 f1 f2 f3 f4 f5 e6)) 0 0 (va_A (mwL cI m0 a1 a2 a3 a4 a5 a6 th (nI C) (nI N) si f1 f2 f3 f4 f5 f6) sz)) : W p l e room_1 s m #[Value.ref b] below meth c H locs (27 + i) (22271 + 6 * i) (lw_Z below #[Value.ref b] s) (F0 m 197 ls []) := by
  obtain ⟨hx, hb, hml, hown, hB, hC, hT, hK, hX, hbl, hZ, hL, hl9⟩ := K0
  refine lv_aload_n hx hb dL_law_197 rfl (lv_at hl 2 rfl) ?_
  refine lv_aload_n hx hb dL_law_198 rfl (lv_at hl 1 rfl) ?_
  refine lv_iload hx hb dL_law_199 (lv_at hl 0 rfl) ?_
  refine lv_iconst (v := 1) hx hb dL_law_201 (by decide) ?_
  refine lv_iadd hx hb dL_law_202 ?_
  refine lw_ld (k := 1) hx hb hX hbl hS hL (by omega) dL_law_203 ?_
  refine lv_aload_n hx hb dL_law_204 rfl (lv_at hl 1 rfl) ?_
  refine lv_iload hx hb dL_law_205 (lv_at hl 0 rfl) ?_
  refine lv_iconst (v := 2) hx hb dL_law_207 (by decide) ?_
  refine lv_iadd hx hb dL_law_208 ?_
  refine lw_ld (k := 2) hx hb hX hbl hS hL (by omega) dL_law_209 ?_
  refine lv_i2l hx hb dL_law_210 rfl ?_
  refine lv_bipush (v := 32) hx hb dL_law_211 (by decide) ?_
  refine lv_lshl hx hb dL_law_213 rfl ?_
  refine lv_aload_n hx hb dL_law_214 rfl (lv_at hl 1 rfl) ?_
  refine lv_iload hx hb dL_law_215 (lv_at hl 0 rfl) ?_
  refine lv_iconst (v := 3) hx hb dL_law_217 (by decide) ?_
  refine lv_iadd hx hb dL_law_218 ?_
  refine lw_ld (k := 3) hx hb hX hbl hS hL (by omega) dL_law_219 ?_
  refine lv_i2l hx hb dL_law_220 rfl ?_
  refine lv_ldc2 (v := 4294967295) hx hb hown (hB _ wd_439) dL_law_221 ?_
  refine lv_land hx hb dL_law_224 ?_
  refine lv_lor hx hb dL_law_225 ?_
  refine lv_aload_n hx hb dL_law_226 rfl (lv_at hl 1 rfl) ?_
  refine lv_iload hx hb dL_law_227 (lv_at hl 0 rfl) ?_
  refine lv_iconst (v := 4) hx hb dL_law_229 (by decide) ?_
  refine lv_iadd hx hb dL_law_230 ?_
  refine lw_ld (k := 4) hx hb hX hbl hS hL (by omega) dL_law_231 ?_
  refine lv_aload_n hx hb dL_law_232 rfl (lv_at hl 4 rfl) ?_
  have hFc := lw_free (wc := [(ou, .inl (cL, 1, .inr (.inl fo)))]) (hD.sub [26] (by decide) rfl) hS (fun _ h => h)
  refine va_calli (vx_runSW (As := [.ref x0, .int (xs (i + 1)), .long ((((xs (i + 2)).toInt64) <<< ((32 : Int32).toInt64 &&& 63)) ||| (((xs (i + 3)).toInt64) &&& 4294967295)), .int (xs (i + 4)), .ref ou]) (rest := []) ⟨hx, hb, hml, hown, hB⟩ (hH H.size) (vx_cwSW 5 hB gsL_level rfl rfl rfl ydL_level ⟨Nat.le_of_ble_eq_true rfl, Nat.le_of_ble_eq_true rfl⟩) (lo_S hC hPW (hP.sub [26] rfl) hK (hD.sub [26] (by decide) rfl)) rfl rfl hl.1 rfl (lv_room (Nat.le_of_ble_eq_true rfl)) dL_law_233 ⟨by show _ + _ ≤ 601024; omega, by show _ + _ ≤ 7293034; omega⟩) hS (fun q _ h => hFc q h) hFc (fun r u t H1 locs ht hvm hpost hB1 hz1 hk1 hS => ?_)
  have hP1 : va_P D tbCl [(ou, .inl (cL, 1, .inr (.inl (vp_updL fo 0 r9.toInt64))))] H1 := by rw [← ht]; exact hB1
  have hP : va_P D tbCl (lwW x0 tx ta tq cq cI cT cL m0 a1 a2 a3 a4 a5 a6 ou (nI N) (nI C) f S Wr O Lv G th (nI C) (nI N) si f1 f2 f3 f4 f5 f6 (vp_updL fo 0 r9.toInt64)) H1 := lw_oback hP hD hk1 hP1
  have hD : va_D (fun q => s.heap.size ≤ q) (lwW x0 tx ta tq cq cI cT cL m0 a1 a2 a3 a4 a5 a6 ou (nI N) (nI C) f S Wr O Lv G th (nI C) (nI N) si f1 f2 f3 f4 f5 f6 (vp_updL fo 0 r9.toInt64)) := wd_D hD rfl
  generalize H1 = H at hP hS ⊢
  refine W.eq (g2 := F0 m 236 ls [.int 0]) (congrArg (fun z9 => F0 m 236 ls [.int z9]) hpost) ?_
  refine lv_istore (lv' := [(5, .int 0), (4, .int (nI i)), (0, .ref b), (1, .ref x0), (2, .ref m0), (3, .ref ou)]) hx hb dL_law_236 hl (by decide) rfl (fun ls hl => ?_)
  refine lv_aload_n hx hb dL_law_238 rfl (lv_at hl 4 rfl) ?_
  refine lv_aload_n hx hb dL_law_239 rfl (lv_at hl 2 rfl) ?_
  refine lv_iload hx hb dL_law_240 (lv_at hl 1 rfl) ?_
  refine lv_iconst (v := 1) hx hb dL_law_242 (by decide) ?_
  refine lv_iadd hx hb dL_law_243 ?_
  refine lw_ld (k := 1) hx hb hX hbl hS hL (by omega) dL_law_244 ?_
  refine lv_aload_n hx hb dL_law_245 rfl (lv_at hl 2 rfl) ?_
  refine lv_iload hx hb dL_law_246 (lv_at hl 1 rfl) ?_
  refine lv_iconst (v := 2) hx hb dL_law_248 (by decide) ?_
  refine lv_iadd hx hb dL_law_249 ?_
  refine lw_ld (k := 2) hx hb hX hbl hS hL (by omega) dL_law_250 ?_
  refine lv_i2l hx hb dL_law_251 rfl ?_
  refine lv_bipush (v := 32) hx hb dL_law_252 (by decide) ?_
  refine lv_lshl hx hb dL_law_254 rfl ?_
  refine lv_aload_n hx hb dL_law_255 rfl (lv_at hl 2 rfl) ?_
  refine lv_iload hx hb dL_law_256 (lv_at hl 1 rfl) ?_
  refine lv_iconst (v := 3) hx hb dL_law_258 (by decide) ?_
  refine lv_iadd hx hb dL_law_259 ?_
  refine lw_ld (k := 3) hx hb hX hbl hS hL (by omega) dL_law_260 ?_
  refine lv_i2l hx hb dL_law_261 rfl ?_
  refine lv_ldc2 (v := 4294967295) hx hb hown (hB _ wd_439) dL_law_262 ?_
  refine lv_land hx hb dL_law_265 ?_
  refine lv_lor hx hb dL_law_266 ?_
  refine lv_aload_n hx hb dL_law_267 rfl (lv_at hl 2 rfl) ?_
  refine lv_iload hx hb dL_law_268 (lv_at hl 1 rfl) ?_
  refine lv_iconst (v := 4) hx hb dL_law_270 (by decide) ?_
  refine lv_iadd hx hb dL_law_271 ?_
  refine lw_ld (k := 4) hx hb hX hbl hS hL (by omega) dL_law_272 ?_
  have hFc := lw_free (wc := mwL cI m0 a1 a2 a3 a4 a5 a6 th (nI C) (nI N) si f1 f2 f3 f4 f5 f6) (hD.sub [19, 20, 21, 22, 23, 24, 25] (by decide) rfl) hS (fun _ h => h)
  refine va_calli (va_runV (C := "TextureBankModel") (As := [.int (xs (i + 1)), .long ((((xs (i + 2)).toInt64) <<< ((32 : Int32).toInt64 &&& 63)) ||| (((xs (i + 3)).toInt64) &&& 4294967295)), .int (xs (i + 4))]) (rest := []) ⟨hx, hb, hml, hown, hB⟩ (hMm H.size) ⟨callB_of 3 hB gwM_level rfl rfl rfl (hB _ wd_3) (hB _ wd_373) ydM_level ⟨by show F9 + 1 ≤ 10; omega, by show 8 + (10 + 11) + N9 ≤ 354; omega⟩, hB _ wd_374, hB _ wd_375⟩ (wr_V hC (hP.sub [19, 20, 21, 22, 23, 24, 25] rfl) (hK.sub [0] rfl) (hD.sub [19, 20, 21, 22, 23, 24, 25] (by decide) rfl) (va_recv hK hP (ci := 2) (q0 := 19) rfl rfl)) rfl rfl hl.1 rfl (lv_room (Nat.le_of_ble_eq_true rfl)) dL_law_273 ⟨by show _ + _ ≤ 601024; omega, by show _ + _ ≤ 7293034; omega⟩) hS (fun q _ h => hFc q h) hFc (fun r u t H1 locs ht hvm hpost hB1 hz1 hk1 hS => ?_)
  have hP1 : va_P D tbCl (mwL cI m0 a1 a2 a3 a4 a5 a6 0 (nI C) (nI N) si2 f1 f2 f3 f4 f5 e6) H1 := by rw [← ht]; exact hB1
  have hP : va_P D tbCl (lwW x0 tx ta tq cq cI cT cL m0 a1 a2 a3 a4 a5 a6 ou (nI N) (nI C) f S Wr O Lv G 0 (nI C) (nI N) si2 f1 f2 f3 f4 f5 e6 (vp_updL fo 0 r9.toInt64)) H1 := lw_mback hP hD hk1 hP1
  have hD : va_D (fun q => s.heap.size ≤ q) (lwW x0 tx ta tq cq cI cT cL m0 a1 a2 a3 a4 a5 a6 ou (nI N) (nI C) f S Wr O Lv G 0 (nI C) (nI N) si2 f1 f2 f3 f4 f5 e6 (vp_updL fo 0 r9.toInt64)) := wd_D hD rfl
  generalize H1 = H at hP hS ⊢
  refine W.eq (g2 := F0 m 276 ls [.int r9]) (congrArg (fun z9 => F0 m 276 ls [.int z9]) hpost) ?_
  refine lv_istore (lv' := [(6, .int r9), (5, .int 0), (4, .int (nI i)), (0, .ref b), (1, .ref x0), (2, .ref m0), (3, .ref ou)]) hx hb dL_law_276 hl (by decide) rfl (fun ls hl => ?_)
  refine lv_aload_n hx hb dL_law_278 rfl (lv_at hl 5 rfl) ?_
  refine W.callV (W.runV (C := "TextureBankModel") (As := []) (rest := []) ⟨hx, hb, hml, hown, hB⟩ (kM_thrown l D cI m0 a1 a2 a3 a4 a5 a6 0 (nI C) (nI N) si2 f1 f2 f3 f4 f5 e6) ⟨callB_of 0 hB gwM_thrown rfl rfl rfl (hB _ wd_3) (hB _ wd_353) ydM_thrown ⟨Nat.le_of_ble_eq_true rfl, Nat.le_of_ble_eq_true rfl⟩, hB _ wd_354, hB _ wd_355⟩ (rd_V hC (hP.sub [19, 20, 21, 22, 23, 24, 25] rfl) (hK.sub [0] rfl) (va_recv hK hP (ci := 2) (q0 := 19) rfl rfl)) rfl rfl hl.1 rfl (lv_room (Nat.le_of_ble_eq_true rfl)) dL_law_279 ⟨by show _ + _ ≤ 601024; omega, by show _ + _ ≤ 7293034; omega⟩) ?_
  refine W.eq (g2 := F0 m 282 ls [.int 0]) rfl ?_
  refine lv_iload hx hb dL_law_282 (lv_at hl 1 rfl) ?_
  refine lv_icmp_eq (tgt := 289) hx hb dL_law_284 (by decide) (fun c_1 => ?_) (fun c_1 => absurd c_1 (by decide))
  refine lv_iload hx hb dL_law_289 (lv_at hl 1 rfl) ?_
  refine lv_if_ne (tgt := 306) hx hb dL_law_291 (by decide) (fun c_2 => absurd c_2 (by decide)) (fun c_2 => ?_)
  refine lv_aload_n hx hb dL_law_294 rfl (lv_at hl 6 rfl) ?_
  refine lv_iconst (v := 0) hx hb dL_law_295 (by decide) ?_
  refine va_lald hx hb hK hP 26 2 rfl rfl (vp_in_nI (n := 0) (N := 1) (by decide) (by decide)) dL_law_296 ?_
  refine W.eq (g2 := F0 m 297 ls [.long r9.toInt64]) rfl ?_
  refine lv_iload hx hb dL_law_297 (lv_at hl 0 rfl) ?_
  refine lv_i2l hx hb dL_law_299 rfl ?_
  refine W.lcmp hx hb dL_law_300 ?_
  refine lv_if_eq (tgt := 306) hx hb dL_law_301 (by decide) (fun c_3 => ?_) (fun c_3 => ?_)
  · refine lv_goto (tgt := 635) hx hb dL_law_306 (by decide) ?_
    exact W.widen (by omega) (by omega) (hN N C _ _ _ _ _ _ _ _ _ _ _ _ _ _ _ _ _ (hR) hP hD hS ls (lv_sub hl [2, 3, 4, 5, 6] rfl))
  · exact absurd ((lg_cmp_eq _ _).mpr rfl) c_3

set_option maxHeartbeats 4000000 in
set_option maxRecDepth 100000 in
theorem lw_lookUp_x (K0 : lw_Cx p l s m c b L xs D cI cT cL) (hN : lw_N p l e s m below meth c b D cI cT cL x0 tx ta tq cq m0 a1 a2 a3 a4 a5 a6 ou i) (hR : lwR N C f S Wr O Lv G f1 f2 f3 f4 f5) (hP : va_P D tbCl (lwW x0 tx ta tq cq cI cT cL m0 a1 a2 a3 a4 a5 a6 ou (nI N) (nI C) f S Wr O Lv G th (nI C) (nI N) si f1 f2 f3 f4 f5 f6 fo) H) (hD : va_D (fun q => s.heap.size ≤ q) (lwW x0 tx ta tq cq cI cT cL m0 a1 a2 a3 a4 a5 a6 ou (nI N) (nI C) f S Wr O Lv G th (nI C) (nI N) si f1 f2 f3 f4 f5 f6 fo)) (hS : va_S (fun q => s.heap.size ≤ q) s.heap H locs) (hi : i + 5 ≤ L) (hl : lv_has ls 7 [(4, .int (nI i)), (0, .ref b), (1, .ref x0), (2, .ref m0), (3, .ref ou)]) (W9 : va_W) (c9 r9 si2 : Int32) (e6 : Nat → Int32) (hc9 : ¬ c9 = 0) (hPW : va_P D tbCl W9 H) (hH : Met l yL_lookUp wL_lookUp ({ frames := 7, cells := 1, slots := 6, locals := 200 }) (th_P [.ref x0, .int (xs (i + 1)), .int (xs (i + 2)), .int (xs (i + 3)), .int (xs (i + 4)), .ref ou] D [(cI, .int), (cT, .object "TextureBank$Texture")] W9) (va_Qi (fun (x : Int32) (_ : Unit) => x = c9) (fun _ _ => True) (fun _ => False)) 1 6 (fun _ => False)) (F9 N9 : Nat) (hF9 : F9 ≤ 8) (hN9 : N9 ≤ 250) (hMm : ∀ sz : Nat, Met l yM_lookUp wM_lookUp (k2_rm F9 N9) (wr_P [.ref m0, .int (xs (i + 1)), .int (xs (i + 2)), .int (xs (i + 3)), .int (xs (i + 4))] sz D [(cI, .int)] (mwL cI m0 a1 a2 a3 a4 a5 a6 th (nI C) (nI N) si f1 f2 f3 f4 f5 f6)) (wr_Qi (r9) D (va_A (mwL cI m0 a1 a2 a3 a4 a5 a6 th (nI C) (nI N) si f1 f2 f3 f4 f5 f6) sz) (mwL cI m0 a1 a2 a3 a4 a5 a6 c9 (nI C) (nI N) si2 f1 f2 f3 f4 f5 e6)) 0 0 (va_A (mwL cI m0 a1 a2 a3 a4 a5 a6 th (nI C) (nI N) si f1 f2 f3 f4 f5 f6) sz)) : W p l e room_1 s m #[Value.ref b] below meth c H locs (27 + i) (22271 + 6 * i) (lw_Z below #[Value.ref b] s) (F0 m 309 ls []) := by
  obtain ⟨hx, hb, hml, hown, hB, hC, hT, hK, hX, hbl, hZ, hL, hl9⟩ := K0
  refine lv_aload_n hx hb dL_law_309 rfl (lv_at hl 2 rfl) ?_
  refine lv_aload_n hx hb dL_law_310 rfl (lv_at hl 1 rfl) ?_
  refine lv_iload hx hb dL_law_311 (lv_at hl 0 rfl) ?_
  refine lv_iconst (v := 1) hx hb dL_law_313 (by decide) ?_
  refine lv_iadd hx hb dL_law_314 ?_
  refine lw_ld (k := 1) hx hb hX hbl hS hL (by omega) dL_law_315 ?_
  refine lv_aload_n hx hb dL_law_316 rfl (lv_at hl 1 rfl) ?_
  refine lv_iload hx hb dL_law_317 (lv_at hl 0 rfl) ?_
  refine lv_iconst (v := 2) hx hb dL_law_319 (by decide) ?_
  refine lv_iadd hx hb dL_law_320 ?_
  refine lw_ld (k := 2) hx hb hX hbl hS hL (by omega) dL_law_321 ?_
  refine lv_aload_n hx hb dL_law_322 rfl (lv_at hl 1 rfl) ?_
  refine lv_iload hx hb dL_law_323 (lv_at hl 0 rfl) ?_
  refine lv_iconst (v := 3) hx hb dL_law_325 (by decide) ?_
  refine lv_iadd hx hb dL_law_326 ?_
  refine lw_ld (k := 3) hx hb hX hbl hS hL (by omega) dL_law_327 ?_
  refine lv_aload_n hx hb dL_law_328 rfl (lv_at hl 1 rfl) ?_
  refine lv_iload hx hb dL_law_329 (lv_at hl 0 rfl) ?_
  refine lv_iconst (v := 4) hx hb dL_law_331 (by decide) ?_
  refine lv_iadd hx hb dL_law_332 ?_
  refine lw_ld (k := 4) hx hb hX hbl hS hL (by omega) dL_law_333 ?_
  refine lv_aload_n hx hb dL_law_334 rfl (lv_at hl 4 rfl) ?_
  refine va_calli (vx_runSW (As := [.ref x0, .int (xs (i + 1)), .int (xs (i + 2)), .int (xs (i + 3)), .int (xs (i + 4)), .ref ou]) (rest := []) ⟨hx, hb, hml, hown, hB⟩ hH (vx_cwSW 6 hB gsL_lookUp rfl rfl rfl ydL_lookUp ⟨Nat.le_of_ble_eq_true rfl, Nat.le_of_ble_eq_true rfl⟩) (th_S hC hPW (hK.sub [0, 1] rfl) hT (tbZ.of (hZ.1.kept hS.2.1) (hZ.2.kept hS.2.1))) rfl rfl hl.1 rfl (lv_room (Nat.le_of_ble_eq_true rfl)) dL_law_335 ⟨by show _ + _ ≤ 601024; omega, by show _ + _ ≤ 7293034; omega⟩) hS (fun q _ h => h.elim) (fun q h => h.elim) (fun r u t H1 locs ht hvm hpost hB1 hz1 hk1 hS => ?_)
  have hP : va_P D tbCl (lwW x0 tx ta tq cq cI cT cL m0 a1 a2 a3 a4 a5 a6 ou (nI N) (nI C) f S Wr O Lv G th (nI C) (nI N) si f1 f2 f3 f4 f5 f6 fo) H1 := wd_back (wc := []) hP hD [] rfl (fun q h _ => hk1 q h id) tbP0 (fun k q hq => Or.inr ⟨List.not_mem_nil, hq⟩)
  generalize H1 = H at hP hS ⊢
  refine W.eq (g2 := F0 m 338 ls [.int c9]) (congrArg (fun z9 => F0 m 338 ls [.int z9]) hpost) ?_
  refine lv_istore (lv' := [(5, .int c9), (4, .int (nI i)), (0, .ref b), (1, .ref x0), (2, .ref m0), (3, .ref ou)]) hx hb dL_law_338 hl (by decide) rfl (fun ls hl => ?_)
  refine lv_aload_n hx hb dL_law_340 rfl (lv_at hl 4 rfl) ?_
  refine lv_aload_n hx hb dL_law_341 rfl (lv_at hl 2 rfl) ?_
  refine lv_iload hx hb dL_law_342 (lv_at hl 1 rfl) ?_
  refine lv_iconst (v := 1) hx hb dL_law_344 (by decide) ?_
  refine lv_iadd hx hb dL_law_345 ?_
  refine lw_ld (k := 1) hx hb hX hbl hS hL (by omega) dL_law_346 ?_
  refine lv_aload_n hx hb dL_law_347 rfl (lv_at hl 2 rfl) ?_
  refine lv_iload hx hb dL_law_348 (lv_at hl 1 rfl) ?_
  refine lv_iconst (v := 2) hx hb dL_law_350 (by decide) ?_
  refine lv_iadd hx hb dL_law_351 ?_
  refine lw_ld (k := 2) hx hb hX hbl hS hL (by omega) dL_law_352 ?_
  refine lv_aload_n hx hb dL_law_353 rfl (lv_at hl 2 rfl) ?_
  refine lv_iload hx hb dL_law_354 (lv_at hl 1 rfl) ?_
  refine lv_iconst (v := 3) hx hb dL_law_356 (by decide) ?_
  refine lv_iadd hx hb dL_law_357 ?_
  refine lw_ld (k := 3) hx hb hX hbl hS hL (by omega) dL_law_358 ?_
  refine lv_aload_n hx hb dL_law_359 rfl (lv_at hl 2 rfl) ?_
  refine lv_iload hx hb dL_law_360 (lv_at hl 1 rfl) ?_
  refine lv_iconst (v := 4) hx hb dL_law_362 (by decide) ?_
  refine lv_iadd hx hb dL_law_363 ?_
  refine lw_ld (k := 4) hx hb hX hbl hS hL (by omega) dL_law_364 ?_
  have hFc := lw_free (wc := mwL cI m0 a1 a2 a3 a4 a5 a6 th (nI C) (nI N) si f1 f2 f3 f4 f5 f6) (hD.sub [19, 20, 21, 22, 23, 24, 25] (by decide) rfl) hS (fun _ h => h)
  refine va_calli (va_runV (C := "TextureBankModel") (As := [.int (xs (i + 1)), .int (xs (i + 2)), .int (xs (i + 3)), .int (xs (i + 4))]) (rest := []) ⟨hx, hb, hml, hown, hB⟩ (hMm H.size) ⟨callB_of 4 hB gwM_lookUp rfl rfl rfl (hB _ wd_3) (hB _ wd_389) ydM_lookUp ⟨by show F9 + 1 ≤ 10; omega, by show 8 + (12 + 11) + N9 ≤ 354; omega⟩, hB _ wd_390, hB _ wd_391⟩ (wr_V hC (hP.sub [19, 20, 21, 22, 23, 24, 25] rfl) (hK.sub [0] rfl) (hD.sub [19, 20, 21, 22, 23, 24, 25] (by decide) rfl) (va_recv hK hP (ci := 2) (q0 := 19) rfl rfl)) rfl rfl hl.1 rfl (lv_room (Nat.le_of_ble_eq_true rfl)) dL_law_365 ⟨by show _ + _ ≤ 601024; omega, by show _ + _ ≤ 7293034; omega⟩) hS (fun q _ h => hFc q h) hFc (fun r u t H1 locs ht hvm hpost hB1 hz1 hk1 hS => ?_)
  have hP1 : va_P D tbCl (mwL cI m0 a1 a2 a3 a4 a5 a6 c9 (nI C) (nI N) si2 f1 f2 f3 f4 f5 e6) H1 := by rw [← ht]; exact hB1
  have hP : va_P D tbCl (lwW x0 tx ta tq cq cI cT cL m0 a1 a2 a3 a4 a5 a6 ou (nI N) (nI C) f S Wr O Lv G c9 (nI C) (nI N) si2 f1 f2 f3 f4 f5 e6 fo) H1 := lw_mback hP hD hk1 hP1
  have hD : va_D (fun q => s.heap.size ≤ q) (lwW x0 tx ta tq cq cI cT cL m0 a1 a2 a3 a4 a5 a6 ou (nI N) (nI C) f S Wr O Lv G c9 (nI C) (nI N) si2 f1 f2 f3 f4 f5 e6 fo) := wd_D hD rfl
  generalize H1 = H at hP hS ⊢
  refine W.eq (g2 := F0 m 368 ls [.int r9]) (congrArg (fun z9 => F0 m 368 ls [.int z9]) hpost) ?_
  refine lv_istore (lv' := [(6, .int r9), (5, .int c9), (4, .int (nI i)), (0, .ref b), (1, .ref x0), (2, .ref m0), (3, .ref ou)]) hx hb dL_law_368 hl (by decide) rfl (fun ls hl => ?_)
  refine lv_aload_n hx hb dL_law_370 rfl (lv_at hl 5 rfl) ?_
  refine W.callV (W.runV (C := "TextureBankModel") (As := []) (rest := []) ⟨hx, hb, hml, hown, hB⟩ (kM_thrown l D cI m0 a1 a2 a3 a4 a5 a6 c9 (nI C) (nI N) si2 f1 f2 f3 f4 f5 e6) ⟨callB_of 0 hB gwM_thrown rfl rfl rfl (hB _ wd_3) (hB _ wd_353) ydM_thrown ⟨Nat.le_of_ble_eq_true rfl, Nat.le_of_ble_eq_true rfl⟩, hB _ wd_354, hB _ wd_355⟩ (rd_V hC (hP.sub [19, 20, 21, 22, 23, 24, 25] rfl) (hK.sub [0] rfl) (va_recv hK hP (ci := 2) (q0 := 19) rfl rfl)) rfl rfl hl.1 rfl (lv_room (Nat.le_of_ble_eq_true rfl)) dL_law_371 ⟨by show _ + _ ≤ 601024; omega, by show _ + _ ≤ 7293034; omega⟩) ?_
  refine W.eq (g2 := F0 m 374 ls [.int c9]) rfl ?_
  refine lv_iload hx hb dL_law_374 (lv_at hl 1 rfl) ?_
  refine lv_icmp_eq (tgt := 381) hx hb dL_law_376 (by decide) (fun c_1 => ?_) (fun c_1 => ?_)
  · refine lv_iload hx hb dL_law_381 (lv_at hl 1 rfl) ?_
    refine lv_if_ne (tgt := 398) hx hb dL_law_383 (by decide) (fun c_2 => ?_) (fun c_2 => ?_)
    · refine lv_goto (tgt := 635) hx hb dL_law_398 (by decide) ?_
      exact W.widen (by omega) (by omega) (hN N C _ _ _ _ _ _ _ _ _ _ _ _ _ _ _ _ _ (hR) hP hD hS ls (lv_sub hl [2, 3, 4, 5, 6] rfl))
    · exact absurd c_2 hc9
  · exact absurd rfl c_1

set_option maxHeartbeats 4000000 in
set_option maxRecDepth 100000 in
theorem lw_lookUp_o (K0 : lw_Cx p l s m c b L xs D cI cT cL) (hN : lw_N p l e s m below meth c b D cI cT cL x0 tx ta tq cq m0 a1 a2 a3 a4 a5 a6 ou i) (hR : lwR N C f S Wr O Lv G f1 f2 f3 f4 f5) (hP : va_P D tbCl (lwW x0 tx ta tq cq cI cT cL m0 a1 a2 a3 a4 a5 a6 ou (nI N) (nI C) f S Wr O Lv G th (nI C) (nI N) si f1 f2 f3 f4 f5 f6 fo) H) (hD : va_D (fun q => s.heap.size ≤ q) (lwW x0 tx ta tq cq cI cT cL m0 a1 a2 a3 a4 a5 a6 ou (nI N) (nI C) f S Wr O Lv G th (nI C) (nI N) si f1 f2 f3 f4 f5 f6 fo)) (hS : va_S (fun q => s.heap.size ≤ q) s.heap H locs) (hi : i + 5 ≤ L) (hl : lv_has ls 7 [(4, .int (nI i)), (0, .ref b), (1, .ref x0), (2, .ref m0), (3, .ref ou)]) (W9 : va_W) (r9 si2 : Int32) (e6 : Nat → Int32) (hPW : va_P D tbCl W9 H) (hH : ∀ sz : Nat, Met l yL_lookUp wL_lookUp (k2_rm 7 200) (lo_P [.ref x0, .int (xs (i + 1)), .int (xs (i + 2)), .int (xs (i + 3)), .int (xs (i + 4)), .ref ou] sz D [(cI, .int), (cT, .object "TextureBank$Texture"), (cL, .long)] W9 [(ou, .inl (cL, 1, .inr (.inl fo)))]) (va_Qi (fun (x : Int32) (_ : Unit) => x = 0) (fun _ t => va_P D tbCl [(ou, .inl (cL, 1, .inr (.inl (vp_updL fo 0 r9.toInt64))))] t.heap) (va_A [(ou, .inl (cL, 1, .inr (.inl fo)))] sz)) 0 0 (va_A [(ou, .inl (cL, 1, .inr (.inl fo)))] sz)) (F9 N9 : Nat) (hF9 : F9 ≤ 8) (hN9 : N9 ≤ 250) (hMm : ∀ sz : Nat, Met l yM_lookUp wM_lookUp (k2_rm F9 N9) (wr_P [.ref m0, .int (xs (i + 1)), .int (xs (i + 2)), .int (xs (i + 3)), .int (xs (i + 4))] sz D [(cI, .int)] (mwL cI m0 a1 a2 a3 a4 a5 a6 th (nI C) (nI N) si f1 f2 f3 f4 f5 f6)) (wr_Qi (r9) D (va_A (mwL cI m0 a1 a2 a3 a4 a5 a6 th (nI C) (nI N) si f1 f2 f3 f4 f5 f6) sz) (mwL cI m0 a1 a2 a3 a4 a5 a6 0 (nI C) (nI N) si2 f1 f2 f3 f4 f5 e6)) 0 0 (va_A (mwL cI m0 a1 a2 a3 a4 a5 a6 th (nI C) (nI N) si f1 f2 f3 f4 f5 f6) sz)) : W p l e room_1 s m #[Value.ref b] below meth c H locs (27 + i) (22271 + 6 * i) (lw_Z below #[Value.ref b] s) (F0 m 309 ls []) := by
  obtain ⟨hx, hb, hml, hown, hB, hC, hT, hK, hX, hbl, hZ, hL, hl9⟩ := K0
  refine lv_aload_n hx hb dL_law_309 rfl (lv_at hl 2 rfl) ?_
  refine lv_aload_n hx hb dL_law_310 rfl (lv_at hl 1 rfl) ?_
  refine lv_iload hx hb dL_law_311 (lv_at hl 0 rfl) ?_
  refine lv_iconst (v := 1) hx hb dL_law_313 (by decide) ?_
  refine lv_iadd hx hb dL_law_314 ?_
  refine lw_ld (k := 1) hx hb hX hbl hS hL (by omega) dL_law_315 ?_
  refine lv_aload_n hx hb dL_law_316 rfl (lv_at hl 1 rfl) ?_
  refine lv_iload hx hb dL_law_317 (lv_at hl 0 rfl) ?_
  refine lv_iconst (v := 2) hx hb dL_law_319 (by decide) ?_
  refine lv_iadd hx hb dL_law_320 ?_
  refine lw_ld (k := 2) hx hb hX hbl hS hL (by omega) dL_law_321 ?_
  refine lv_aload_n hx hb dL_law_322 rfl (lv_at hl 1 rfl) ?_
  refine lv_iload hx hb dL_law_323 (lv_at hl 0 rfl) ?_
  refine lv_iconst (v := 3) hx hb dL_law_325 (by decide) ?_
  refine lv_iadd hx hb dL_law_326 ?_
  refine lw_ld (k := 3) hx hb hX hbl hS hL (by omega) dL_law_327 ?_
  refine lv_aload_n hx hb dL_law_328 rfl (lv_at hl 1 rfl) ?_
  refine lv_iload hx hb dL_law_329 (lv_at hl 0 rfl) ?_
  refine lv_iconst (v := 4) hx hb dL_law_331 (by decide) ?_
  refine lv_iadd hx hb dL_law_332 ?_
  refine lw_ld (k := 4) hx hb hX hbl hS hL (by omega) dL_law_333 ?_
  refine lv_aload_n hx hb dL_law_334 rfl (lv_at hl 4 rfl) ?_
  have hFc := lw_free (wc := [(ou, .inl (cL, 1, .inr (.inl fo)))]) (hD.sub [26] (by decide) rfl) hS (fun _ h => h)
  refine va_calli (vx_runSW (As := [.ref x0, .int (xs (i + 1)), .int (xs (i + 2)), .int (xs (i + 3)), .int (xs (i + 4)), .ref ou]) (rest := []) ⟨hx, hb, hml, hown, hB⟩ (hH H.size) (vx_cwSW 6 hB gsL_lookUp rfl rfl rfl ydL_lookUp ⟨Nat.le_of_ble_eq_true rfl, Nat.le_of_ble_eq_true rfl⟩) (lo_S hC hPW (hP.sub [26] rfl) hK (hD.sub [26] (by decide) rfl)) rfl rfl hl.1 rfl (lv_room (Nat.le_of_ble_eq_true rfl)) dL_law_335 ⟨by show _ + _ ≤ 601024; omega, by show _ + _ ≤ 7293034; omega⟩) hS (fun q _ h => hFc q h) hFc (fun r u t H1 locs ht hvm hpost hB1 hz1 hk1 hS => ?_)
  have hP1 : va_P D tbCl [(ou, .inl (cL, 1, .inr (.inl (vp_updL fo 0 r9.toInt64))))] H1 := by rw [← ht]; exact hB1
  have hP : va_P D tbCl (lwW x0 tx ta tq cq cI cT cL m0 a1 a2 a3 a4 a5 a6 ou (nI N) (nI C) f S Wr O Lv G th (nI C) (nI N) si f1 f2 f3 f4 f5 f6 (vp_updL fo 0 r9.toInt64)) H1 := lw_oback hP hD hk1 hP1
  have hD : va_D (fun q => s.heap.size ≤ q) (lwW x0 tx ta tq cq cI cT cL m0 a1 a2 a3 a4 a5 a6 ou (nI N) (nI C) f S Wr O Lv G th (nI C) (nI N) si f1 f2 f3 f4 f5 f6 (vp_updL fo 0 r9.toInt64)) := wd_D hD rfl
  generalize H1 = H at hP hS ⊢
  refine W.eq (g2 := F0 m 338 ls [.int 0]) (congrArg (fun z9 => F0 m 338 ls [.int z9]) hpost) ?_
  refine lv_istore (lv' := [(5, .int 0), (4, .int (nI i)), (0, .ref b), (1, .ref x0), (2, .ref m0), (3, .ref ou)]) hx hb dL_law_338 hl (by decide) rfl (fun ls hl => ?_)
  refine lv_aload_n hx hb dL_law_340 rfl (lv_at hl 4 rfl) ?_
  refine lv_aload_n hx hb dL_law_341 rfl (lv_at hl 2 rfl) ?_
  refine lv_iload hx hb dL_law_342 (lv_at hl 1 rfl) ?_
  refine lv_iconst (v := 1) hx hb dL_law_344 (by decide) ?_
  refine lv_iadd hx hb dL_law_345 ?_
  refine lw_ld (k := 1) hx hb hX hbl hS hL (by omega) dL_law_346 ?_
  refine lv_aload_n hx hb dL_law_347 rfl (lv_at hl 2 rfl) ?_
  refine lv_iload hx hb dL_law_348 (lv_at hl 1 rfl) ?_
  refine lv_iconst (v := 2) hx hb dL_law_350 (by decide) ?_
  refine lv_iadd hx hb dL_law_351 ?_
  refine lw_ld (k := 2) hx hb hX hbl hS hL (by omega) dL_law_352 ?_
  refine lv_aload_n hx hb dL_law_353 rfl (lv_at hl 2 rfl) ?_
  refine lv_iload hx hb dL_law_354 (lv_at hl 1 rfl) ?_
  refine lv_iconst (v := 3) hx hb dL_law_356 (by decide) ?_
  refine lv_iadd hx hb dL_law_357 ?_
  refine lw_ld (k := 3) hx hb hX hbl hS hL (by omega) dL_law_358 ?_
  refine lv_aload_n hx hb dL_law_359 rfl (lv_at hl 2 rfl) ?_
  refine lv_iload hx hb dL_law_360 (lv_at hl 1 rfl) ?_
  refine lv_iconst (v := 4) hx hb dL_law_362 (by decide) ?_
  refine lv_iadd hx hb dL_law_363 ?_
  refine lw_ld (k := 4) hx hb hX hbl hS hL (by omega) dL_law_364 ?_
  have hFc := lw_free (wc := mwL cI m0 a1 a2 a3 a4 a5 a6 th (nI C) (nI N) si f1 f2 f3 f4 f5 f6) (hD.sub [19, 20, 21, 22, 23, 24, 25] (by decide) rfl) hS (fun _ h => h)
  refine va_calli (va_runV (C := "TextureBankModel") (As := [.int (xs (i + 1)), .int (xs (i + 2)), .int (xs (i + 3)), .int (xs (i + 4))]) (rest := []) ⟨hx, hb, hml, hown, hB⟩ (hMm H.size) ⟨callB_of 4 hB gwM_lookUp rfl rfl rfl (hB _ wd_3) (hB _ wd_389) ydM_lookUp ⟨by show F9 + 1 ≤ 10; omega, by show 8 + (12 + 11) + N9 ≤ 354; omega⟩, hB _ wd_390, hB _ wd_391⟩ (wr_V hC (hP.sub [19, 20, 21, 22, 23, 24, 25] rfl) (hK.sub [0] rfl) (hD.sub [19, 20, 21, 22, 23, 24, 25] (by decide) rfl) (va_recv hK hP (ci := 2) (q0 := 19) rfl rfl)) rfl rfl hl.1 rfl (lv_room (Nat.le_of_ble_eq_true rfl)) dL_law_365 ⟨by show _ + _ ≤ 601024; omega, by show _ + _ ≤ 7293034; omega⟩) hS (fun q _ h => hFc q h) hFc (fun r u t H1 locs ht hvm hpost hB1 hz1 hk1 hS => ?_)
  have hP1 : va_P D tbCl (mwL cI m0 a1 a2 a3 a4 a5 a6 0 (nI C) (nI N) si2 f1 f2 f3 f4 f5 e6) H1 := by rw [← ht]; exact hB1
  have hP : va_P D tbCl (lwW x0 tx ta tq cq cI cT cL m0 a1 a2 a3 a4 a5 a6 ou (nI N) (nI C) f S Wr O Lv G 0 (nI C) (nI N) si2 f1 f2 f3 f4 f5 e6 (vp_updL fo 0 r9.toInt64)) H1 := lw_mback hP hD hk1 hP1
  have hD : va_D (fun q => s.heap.size ≤ q) (lwW x0 tx ta tq cq cI cT cL m0 a1 a2 a3 a4 a5 a6 ou (nI N) (nI C) f S Wr O Lv G 0 (nI C) (nI N) si2 f1 f2 f3 f4 f5 e6 (vp_updL fo 0 r9.toInt64)) := wd_D hD rfl
  generalize H1 = H at hP hS ⊢
  refine W.eq (g2 := F0 m 368 ls [.int r9]) (congrArg (fun z9 => F0 m 368 ls [.int z9]) hpost) ?_
  refine lv_istore (lv' := [(6, .int r9), (5, .int 0), (4, .int (nI i)), (0, .ref b), (1, .ref x0), (2, .ref m0), (3, .ref ou)]) hx hb dL_law_368 hl (by decide) rfl (fun ls hl => ?_)
  refine lv_aload_n hx hb dL_law_370 rfl (lv_at hl 5 rfl) ?_
  refine W.callV (W.runV (C := "TextureBankModel") (As := []) (rest := []) ⟨hx, hb, hml, hown, hB⟩ (kM_thrown l D cI m0 a1 a2 a3 a4 a5 a6 0 (nI C) (nI N) si2 f1 f2 f3 f4 f5 e6) ⟨callB_of 0 hB gwM_thrown rfl rfl rfl (hB _ wd_3) (hB _ wd_353) ydM_thrown ⟨Nat.le_of_ble_eq_true rfl, Nat.le_of_ble_eq_true rfl⟩, hB _ wd_354, hB _ wd_355⟩ (rd_V hC (hP.sub [19, 20, 21, 22, 23, 24, 25] rfl) (hK.sub [0] rfl) (va_recv hK hP (ci := 2) (q0 := 19) rfl rfl)) rfl rfl hl.1 rfl (lv_room (Nat.le_of_ble_eq_true rfl)) dL_law_371 ⟨by show _ + _ ≤ 601024; omega, by show _ + _ ≤ 7293034; omega⟩) ?_
  refine W.eq (g2 := F0 m 374 ls [.int 0]) rfl ?_
  refine lv_iload hx hb dL_law_374 (lv_at hl 1 rfl) ?_
  refine lv_icmp_eq (tgt := 381) hx hb dL_law_376 (by decide) (fun c_1 => ?_) (fun c_1 => absurd c_1 (by decide))
  refine lv_iload hx hb dL_law_381 (lv_at hl 1 rfl) ?_
  refine lv_if_ne (tgt := 398) hx hb dL_law_383 (by decide) (fun c_2 => absurd c_2 (by decide)) (fun c_2 => ?_)
  refine lv_aload_n hx hb dL_law_386 rfl (lv_at hl 6 rfl) ?_
  refine lv_iconst (v := 0) hx hb dL_law_387 (by decide) ?_
  refine va_lald hx hb hK hP 26 2 rfl rfl (vp_in_nI (n := 0) (N := 1) (by decide) (by decide)) dL_law_388 ?_
  refine W.eq (g2 := F0 m 389 ls [.long r9.toInt64]) rfl ?_
  refine lv_iload hx hb dL_law_389 (lv_at hl 0 rfl) ?_
  refine lv_i2l hx hb dL_law_391 rfl ?_
  refine W.lcmp hx hb dL_law_392 ?_
  refine lv_if_eq (tgt := 398) hx hb dL_law_393 (by decide) (fun c_3 => ?_) (fun c_3 => ?_)
  · refine lv_goto (tgt := 635) hx hb dL_law_398 (by decide) ?_
    exact W.widen (by omega) (by omega) (hN N C _ _ _ _ _ _ _ _ _ _ _ _ _ _ _ _ _ (hR) hP hD hS ls (lv_sub hl [2, 3, 4, 5, 6] rfl))
  · exact absurd ((lg_cmp_eq _ _).mpr rfl) c_3

set_option maxHeartbeats 4000000 in
set_option maxRecDepth 100000 in
theorem lw_texel_x (K0 : lw_Cx p l s m c b L xs D cI cT cL) (hN : lw_N p l e s m below meth c b D cI cT cL x0 tx ta tq cq m0 a1 a2 a3 a4 a5 a6 ou i) (hR : lwR N C f S Wr O Lv G f1 f2 f3 f4 f5) (hP : va_P D tbCl (lwW x0 tx ta tq cq cI cT cL m0 a1 a2 a3 a4 a5 a6 ou (nI N) (nI C) f S Wr O Lv G th (nI C) (nI N) si f1 f2 f3 f4 f5 f6 fo) H) (hD : va_D (fun q => s.heap.size ≤ q) (lwW x0 tx ta tq cq cI cT cL m0 a1 a2 a3 a4 a5 a6 ou (nI N) (nI C) f S Wr O Lv G th (nI C) (nI N) si f1 f2 f3 f4 f5 f6 fo)) (hS : va_S (fun q => s.heap.size ≤ q) s.heap H locs) (hi : i + 5 ≤ L) (hl : lv_has ls 7 [(4, .int (nI i)), (0, .ref b), (1, .ref x0), (2, .ref m0), (3, .ref ou)]) (W9 : va_W) (c9 r9 si2 : Int32) (e6 : Nat → Int32) (hc9 : ¬ c9 = 0) (hPW : va_P D tbCl W9 H) (hH : Met l yL_texel wL_texel ({ frames := 7, cells := 1, slots := 6, locals := 200 }) (th_P [.ref x0, .int (xs (i + 1)), .int (xs (i + 2)), .int (xs (i + 3)), .int (xs (i + 4)), .ref ou] D [(cI, .int), (cT, .object "TextureBank$Texture")] W9) (va_Qi (fun (x : Int32) (_ : Unit) => x = c9) (fun _ _ => True) (fun _ => False)) 1 6 (fun _ => False)) (F9 N9 : Nat) (hF9 : F9 ≤ 8) (hN9 : N9 ≤ 250) (hMm : ∀ sz : Nat, Met l yM_texel wM_texel (k2_rm F9 N9) (wr_P [.ref m0, .int (xs (i + 1)), .int (xs (i + 2)), .int (xs (i + 3)), .int (xs (i + 4))] sz D [(cI, .int)] (mwL cI m0 a1 a2 a3 a4 a5 a6 th (nI C) (nI N) si f1 f2 f3 f4 f5 f6)) (wr_Qi (r9) D (va_A (mwL cI m0 a1 a2 a3 a4 a5 a6 th (nI C) (nI N) si f1 f2 f3 f4 f5 f6) sz) (mwL cI m0 a1 a2 a3 a4 a5 a6 c9 (nI C) (nI N) si2 f1 f2 f3 f4 f5 e6)) 0 0 (va_A (mwL cI m0 a1 a2 a3 a4 a5 a6 th (nI C) (nI N) si f1 f2 f3 f4 f5 f6) sz)) : W p l e room_1 s m #[Value.ref b] below meth c H locs (27 + i) (22271 + 6 * i) (lw_Z below #[Value.ref b] s) (F0 m 401 ls []) := by
  obtain ⟨hx, hb, hml, hown, hB, hC, hT, hK, hX, hbl, hZ, hL, hl9⟩ := K0
  refine lv_aload_n hx hb dL_law_401 rfl (lv_at hl 2 rfl) ?_
  refine lv_aload_n hx hb dL_law_402 rfl (lv_at hl 1 rfl) ?_
  refine lv_iload hx hb dL_law_403 (lv_at hl 0 rfl) ?_
  refine lv_iconst (v := 1) hx hb dL_law_405 (by decide) ?_
  refine lv_iadd hx hb dL_law_406 ?_
  refine lw_ld (k := 1) hx hb hX hbl hS hL (by omega) dL_law_407 ?_
  refine lv_aload_n hx hb dL_law_408 rfl (lv_at hl 1 rfl) ?_
  refine lv_iload hx hb dL_law_409 (lv_at hl 0 rfl) ?_
  refine lv_iconst (v := 2) hx hb dL_law_411 (by decide) ?_
  refine lv_iadd hx hb dL_law_412 ?_
  refine lw_ld (k := 2) hx hb hX hbl hS hL (by omega) dL_law_413 ?_
  refine lv_aload_n hx hb dL_law_414 rfl (lv_at hl 1 rfl) ?_
  refine lv_iload hx hb dL_law_415 (lv_at hl 0 rfl) ?_
  refine lv_iconst (v := 3) hx hb dL_law_417 (by decide) ?_
  refine lv_iadd hx hb dL_law_418 ?_
  refine lw_ld (k := 3) hx hb hX hbl hS hL (by omega) dL_law_419 ?_
  refine lv_aload_n hx hb dL_law_420 rfl (lv_at hl 1 rfl) ?_
  refine lv_iload hx hb dL_law_421 (lv_at hl 0 rfl) ?_
  refine lv_iconst (v := 4) hx hb dL_law_423 (by decide) ?_
  refine lv_iadd hx hb dL_law_424 ?_
  refine lw_ld (k := 4) hx hb hX hbl hS hL (by omega) dL_law_425 ?_
  refine lv_aload_n hx hb dL_law_426 rfl (lv_at hl 4 rfl) ?_
  refine va_calli (vx_runSW (As := [.ref x0, .int (xs (i + 1)), .int (xs (i + 2)), .int (xs (i + 3)), .int (xs (i + 4)), .ref ou]) (rest := []) ⟨hx, hb, hml, hown, hB⟩ hH (vx_cwSW 6 hB gsL_texel rfl rfl rfl ydL_texel ⟨Nat.le_of_ble_eq_true rfl, Nat.le_of_ble_eq_true rfl⟩) (th_S hC hPW (hK.sub [0, 1] rfl) hT (tbZ.of (hZ.1.kept hS.2.1) (hZ.2.kept hS.2.1))) rfl rfl hl.1 rfl (lv_room (Nat.le_of_ble_eq_true rfl)) dL_law_427 ⟨by show _ + _ ≤ 601024; omega, by show _ + _ ≤ 7293034; omega⟩) hS (fun q _ h => h.elim) (fun q h => h.elim) (fun r u t H1 locs ht hvm hpost hB1 hz1 hk1 hS => ?_)
  have hP : va_P D tbCl (lwW x0 tx ta tq cq cI cT cL m0 a1 a2 a3 a4 a5 a6 ou (nI N) (nI C) f S Wr O Lv G th (nI C) (nI N) si f1 f2 f3 f4 f5 f6 fo) H1 := wd_back (wc := []) hP hD [] rfl (fun q h _ => hk1 q h id) tbP0 (fun k q hq => Or.inr ⟨List.not_mem_nil, hq⟩)
  generalize H1 = H at hP hS ⊢
  refine W.eq (g2 := F0 m 430 ls [.int c9]) (congrArg (fun z9 => F0 m 430 ls [.int z9]) hpost) ?_
  refine lv_istore (lv' := [(5, .int c9), (4, .int (nI i)), (0, .ref b), (1, .ref x0), (2, .ref m0), (3, .ref ou)]) hx hb dL_law_430 hl (by decide) rfl (fun ls hl => ?_)
  refine lv_aload_n hx hb dL_law_432 rfl (lv_at hl 4 rfl) ?_
  refine lv_aload_n hx hb dL_law_433 rfl (lv_at hl 2 rfl) ?_
  refine lv_iload hx hb dL_law_434 (lv_at hl 1 rfl) ?_
  refine lv_iconst (v := 1) hx hb dL_law_436 (by decide) ?_
  refine lv_iadd hx hb dL_law_437 ?_
  refine lw_ld (k := 1) hx hb hX hbl hS hL (by omega) dL_law_438 ?_
  refine lv_aload_n hx hb dL_law_439 rfl (lv_at hl 2 rfl) ?_
  refine lv_iload hx hb dL_law_440 (lv_at hl 1 rfl) ?_
  refine lv_iconst (v := 2) hx hb dL_law_442 (by decide) ?_
  refine lv_iadd hx hb dL_law_443 ?_
  refine lw_ld (k := 2) hx hb hX hbl hS hL (by omega) dL_law_444 ?_
  refine lv_aload_n hx hb dL_law_445 rfl (lv_at hl 2 rfl) ?_
  refine lv_iload hx hb dL_law_446 (lv_at hl 1 rfl) ?_
  refine lv_iconst (v := 3) hx hb dL_law_448 (by decide) ?_
  refine lv_iadd hx hb dL_law_449 ?_
  refine lw_ld (k := 3) hx hb hX hbl hS hL (by omega) dL_law_450 ?_
  refine lv_aload_n hx hb dL_law_451 rfl (lv_at hl 2 rfl) ?_
  refine lv_iload hx hb dL_law_452 (lv_at hl 1 rfl) ?_
  refine lv_iconst (v := 4) hx hb dL_law_454 (by decide) ?_
  refine lv_iadd hx hb dL_law_455 ?_
  refine lw_ld (k := 4) hx hb hX hbl hS hL (by omega) dL_law_456 ?_
  have hFc := lw_free (wc := mwL cI m0 a1 a2 a3 a4 a5 a6 th (nI C) (nI N) si f1 f2 f3 f4 f5 f6) (hD.sub [19, 20, 21, 22, 23, 24, 25] (by decide) rfl) hS (fun _ h => h)
  refine va_calli (va_runV (C := "TextureBankModel") (As := [.int (xs (i + 1)), .int (xs (i + 2)), .int (xs (i + 3)), .int (xs (i + 4))]) (rest := []) ⟨hx, hb, hml, hown, hB⟩ (hMm H.size) ⟨callB_of 4 hB gwM_texel rfl rfl rfl (hB _ wd_3) (hB _ wd_423) ydM_texel ⟨by show F9 + 1 ≤ 10; omega, by show 8 + (5 + 11) + N9 ≤ 354; omega⟩, hB _ wd_424, hB _ wd_425⟩ (wr_V hC (hP.sub [19, 20, 21, 22, 23, 24, 25] rfl) (hK.sub [0] rfl) (hD.sub [19, 20, 21, 22, 23, 24, 25] (by decide) rfl) (va_recv hK hP (ci := 2) (q0 := 19) rfl rfl)) rfl rfl hl.1 rfl (lv_room (Nat.le_of_ble_eq_true rfl)) dL_law_457 ⟨by show _ + _ ≤ 601024; omega, by show _ + _ ≤ 7293034; omega⟩) hS (fun q _ h => hFc q h) hFc (fun r u t H1 locs ht hvm hpost hB1 hz1 hk1 hS => ?_)
  have hP1 : va_P D tbCl (mwL cI m0 a1 a2 a3 a4 a5 a6 c9 (nI C) (nI N) si2 f1 f2 f3 f4 f5 e6) H1 := by rw [← ht]; exact hB1
  have hP : va_P D tbCl (lwW x0 tx ta tq cq cI cT cL m0 a1 a2 a3 a4 a5 a6 ou (nI N) (nI C) f S Wr O Lv G c9 (nI C) (nI N) si2 f1 f2 f3 f4 f5 e6 fo) H1 := lw_mback hP hD hk1 hP1
  have hD : va_D (fun q => s.heap.size ≤ q) (lwW x0 tx ta tq cq cI cT cL m0 a1 a2 a3 a4 a5 a6 ou (nI N) (nI C) f S Wr O Lv G c9 (nI C) (nI N) si2 f1 f2 f3 f4 f5 e6 fo) := wd_D hD rfl
  generalize H1 = H at hP hS ⊢
  refine W.eq (g2 := F0 m 460 ls [.int r9]) (congrArg (fun z9 => F0 m 460 ls [.int z9]) hpost) ?_
  refine lv_istore (lv' := [(6, .int r9), (5, .int c9), (4, .int (nI i)), (0, .ref b), (1, .ref x0), (2, .ref m0), (3, .ref ou)]) hx hb dL_law_460 hl (by decide) rfl (fun ls hl => ?_)
  refine lv_aload_n hx hb dL_law_462 rfl (lv_at hl 5 rfl) ?_
  refine W.callV (W.runV (C := "TextureBankModel") (As := []) (rest := []) ⟨hx, hb, hml, hown, hB⟩ (kM_thrown l D cI m0 a1 a2 a3 a4 a5 a6 c9 (nI C) (nI N) si2 f1 f2 f3 f4 f5 e6) ⟨callB_of 0 hB gwM_thrown rfl rfl rfl (hB _ wd_3) (hB _ wd_353) ydM_thrown ⟨Nat.le_of_ble_eq_true rfl, Nat.le_of_ble_eq_true rfl⟩, hB _ wd_354, hB _ wd_355⟩ (rd_V hC (hP.sub [19, 20, 21, 22, 23, 24, 25] rfl) (hK.sub [0] rfl) (va_recv hK hP (ci := 2) (q0 := 19) rfl rfl)) rfl rfl hl.1 rfl (lv_room (Nat.le_of_ble_eq_true rfl)) dL_law_463 ⟨by show _ + _ ≤ 601024; omega, by show _ + _ ≤ 7293034; omega⟩) ?_
  refine W.eq (g2 := F0 m 466 ls [.int c9]) rfl ?_
  refine lv_iload hx hb dL_law_466 (lv_at hl 1 rfl) ?_
  refine lv_icmp_eq (tgt := 473) hx hb dL_law_468 (by decide) (fun c_1 => ?_) (fun c_1 => ?_)
  · refine lv_iload hx hb dL_law_473 (lv_at hl 1 rfl) ?_
    refine lv_if_ne (tgt := 490) hx hb dL_law_475 (by decide) (fun c_2 => ?_) (fun c_2 => ?_)
    · refine lv_goto (tgt := 635) hx hb dL_law_490 (by decide) ?_
      exact W.widen (by omega) (by omega) (hN N C _ _ _ _ _ _ _ _ _ _ _ _ _ _ _ _ _ (hR) hP hD hS ls (lv_sub hl [2, 3, 4, 5, 6] rfl))
    · exact absurd c_2 hc9
  · exact absurd rfl c_1

set_option maxHeartbeats 4000000 in
set_option maxRecDepth 100000 in
theorem lw_texel_o (K0 : lw_Cx p l s m c b L xs D cI cT cL) (hN : lw_N p l e s m below meth c b D cI cT cL x0 tx ta tq cq m0 a1 a2 a3 a4 a5 a6 ou i) (hR : lwR N C f S Wr O Lv G f1 f2 f3 f4 f5) (hP : va_P D tbCl (lwW x0 tx ta tq cq cI cT cL m0 a1 a2 a3 a4 a5 a6 ou (nI N) (nI C) f S Wr O Lv G th (nI C) (nI N) si f1 f2 f3 f4 f5 f6 fo) H) (hD : va_D (fun q => s.heap.size ≤ q) (lwW x0 tx ta tq cq cI cT cL m0 a1 a2 a3 a4 a5 a6 ou (nI N) (nI C) f S Wr O Lv G th (nI C) (nI N) si f1 f2 f3 f4 f5 f6 fo)) (hS : va_S (fun q => s.heap.size ≤ q) s.heap H locs) (hi : i + 5 ≤ L) (hl : lv_has ls 7 [(4, .int (nI i)), (0, .ref b), (1, .ref x0), (2, .ref m0), (3, .ref ou)]) (W9 : va_W) (r9 si2 : Int32) (e6 : Nat → Int32) (hPW : va_P D tbCl W9 H) (hH : ∀ sz : Nat, Met l yL_texel wL_texel (k2_rm 7 200) (lo_P [.ref x0, .int (xs (i + 1)), .int (xs (i + 2)), .int (xs (i + 3)), .int (xs (i + 4)), .ref ou] sz D [(cI, .int), (cT, .object "TextureBank$Texture"), (cL, .long)] W9 [(ou, .inl (cL, 1, .inr (.inl fo)))]) (va_Qi (fun (x : Int32) (_ : Unit) => x = 0) (fun _ t => va_P D tbCl [(ou, .inl (cL, 1, .inr (.inl (vp_updL fo 0 r9.toInt64))))] t.heap) (va_A [(ou, .inl (cL, 1, .inr (.inl fo)))] sz)) 0 0 (va_A [(ou, .inl (cL, 1, .inr (.inl fo)))] sz)) (F9 N9 : Nat) (hF9 : F9 ≤ 8) (hN9 : N9 ≤ 250) (hMm : ∀ sz : Nat, Met l yM_texel wM_texel (k2_rm F9 N9) (wr_P [.ref m0, .int (xs (i + 1)), .int (xs (i + 2)), .int (xs (i + 3)), .int (xs (i + 4))] sz D [(cI, .int)] (mwL cI m0 a1 a2 a3 a4 a5 a6 th (nI C) (nI N) si f1 f2 f3 f4 f5 f6)) (wr_Qi (r9) D (va_A (mwL cI m0 a1 a2 a3 a4 a5 a6 th (nI C) (nI N) si f1 f2 f3 f4 f5 f6) sz) (mwL cI m0 a1 a2 a3 a4 a5 a6 0 (nI C) (nI N) si2 f1 f2 f3 f4 f5 e6)) 0 0 (va_A (mwL cI m0 a1 a2 a3 a4 a5 a6 th (nI C) (nI N) si f1 f2 f3 f4 f5 f6) sz)) : W p l e room_1 s m #[Value.ref b] below meth c H locs (27 + i) (22271 + 6 * i) (lw_Z below #[Value.ref b] s) (F0 m 401 ls []) := by
  obtain ⟨hx, hb, hml, hown, hB, hC, hT, hK, hX, hbl, hZ, hL, hl9⟩ := K0
  refine lv_aload_n hx hb dL_law_401 rfl (lv_at hl 2 rfl) ?_
  refine lv_aload_n hx hb dL_law_402 rfl (lv_at hl 1 rfl) ?_
  refine lv_iload hx hb dL_law_403 (lv_at hl 0 rfl) ?_
  refine lv_iconst (v := 1) hx hb dL_law_405 (by decide) ?_
  refine lv_iadd hx hb dL_law_406 ?_
  refine lw_ld (k := 1) hx hb hX hbl hS hL (by omega) dL_law_407 ?_
  refine lv_aload_n hx hb dL_law_408 rfl (lv_at hl 1 rfl) ?_
  refine lv_iload hx hb dL_law_409 (lv_at hl 0 rfl) ?_
  refine lv_iconst (v := 2) hx hb dL_law_411 (by decide) ?_
  refine lv_iadd hx hb dL_law_412 ?_
  refine lw_ld (k := 2) hx hb hX hbl hS hL (by omega) dL_law_413 ?_
  refine lv_aload_n hx hb dL_law_414 rfl (lv_at hl 1 rfl) ?_
  refine lv_iload hx hb dL_law_415 (lv_at hl 0 rfl) ?_
  refine lv_iconst (v := 3) hx hb dL_law_417 (by decide) ?_
  refine lv_iadd hx hb dL_law_418 ?_
  refine lw_ld (k := 3) hx hb hX hbl hS hL (by omega) dL_law_419 ?_
  refine lv_aload_n hx hb dL_law_420 rfl (lv_at hl 1 rfl) ?_
  refine lv_iload hx hb dL_law_421 (lv_at hl 0 rfl) ?_
  refine lv_iconst (v := 4) hx hb dL_law_423 (by decide) ?_
  refine lv_iadd hx hb dL_law_424 ?_
  refine lw_ld (k := 4) hx hb hX hbl hS hL (by omega) dL_law_425 ?_
  refine lv_aload_n hx hb dL_law_426 rfl (lv_at hl 4 rfl) ?_
  have hFc := lw_free (wc := [(ou, .inl (cL, 1, .inr (.inl fo)))]) (hD.sub [26] (by decide) rfl) hS (fun _ h => h)
  refine va_calli (vx_runSW (As := [.ref x0, .int (xs (i + 1)), .int (xs (i + 2)), .int (xs (i + 3)), .int (xs (i + 4)), .ref ou]) (rest := []) ⟨hx, hb, hml, hown, hB⟩ (hH H.size) (vx_cwSW 6 hB gsL_texel rfl rfl rfl ydL_texel ⟨Nat.le_of_ble_eq_true rfl, Nat.le_of_ble_eq_true rfl⟩) (lo_S hC hPW (hP.sub [26] rfl) hK (hD.sub [26] (by decide) rfl)) rfl rfl hl.1 rfl (lv_room (Nat.le_of_ble_eq_true rfl)) dL_law_427 ⟨by show _ + _ ≤ 601024; omega, by show _ + _ ≤ 7293034; omega⟩) hS (fun q _ h => hFc q h) hFc (fun r u t H1 locs ht hvm hpost hB1 hz1 hk1 hS => ?_)
  have hP1 : va_P D tbCl [(ou, .inl (cL, 1, .inr (.inl (vp_updL fo 0 r9.toInt64))))] H1 := by rw [← ht]; exact hB1
  have hP : va_P D tbCl (lwW x0 tx ta tq cq cI cT cL m0 a1 a2 a3 a4 a5 a6 ou (nI N) (nI C) f S Wr O Lv G th (nI C) (nI N) si f1 f2 f3 f4 f5 f6 (vp_updL fo 0 r9.toInt64)) H1 := lw_oback hP hD hk1 hP1
  have hD : va_D (fun q => s.heap.size ≤ q) (lwW x0 tx ta tq cq cI cT cL m0 a1 a2 a3 a4 a5 a6 ou (nI N) (nI C) f S Wr O Lv G th (nI C) (nI N) si f1 f2 f3 f4 f5 f6 (vp_updL fo 0 r9.toInt64)) := wd_D hD rfl
  generalize H1 = H at hP hS ⊢
  refine W.eq (g2 := F0 m 430 ls [.int 0]) (congrArg (fun z9 => F0 m 430 ls [.int z9]) hpost) ?_
  refine lv_istore (lv' := [(5, .int 0), (4, .int (nI i)), (0, .ref b), (1, .ref x0), (2, .ref m0), (3, .ref ou)]) hx hb dL_law_430 hl (by decide) rfl (fun ls hl => ?_)
  refine lv_aload_n hx hb dL_law_432 rfl (lv_at hl 4 rfl) ?_
  refine lv_aload_n hx hb dL_law_433 rfl (lv_at hl 2 rfl) ?_
  refine lv_iload hx hb dL_law_434 (lv_at hl 1 rfl) ?_
  refine lv_iconst (v := 1) hx hb dL_law_436 (by decide) ?_
  refine lv_iadd hx hb dL_law_437 ?_
  refine lw_ld (k := 1) hx hb hX hbl hS hL (by omega) dL_law_438 ?_
  refine lv_aload_n hx hb dL_law_439 rfl (lv_at hl 2 rfl) ?_
  refine lv_iload hx hb dL_law_440 (lv_at hl 1 rfl) ?_
  refine lv_iconst (v := 2) hx hb dL_law_442 (by decide) ?_
  refine lv_iadd hx hb dL_law_443 ?_
  refine lw_ld (k := 2) hx hb hX hbl hS hL (by omega) dL_law_444 ?_
  refine lv_aload_n hx hb dL_law_445 rfl (lv_at hl 2 rfl) ?_
  refine lv_iload hx hb dL_law_446 (lv_at hl 1 rfl) ?_
  refine lv_iconst (v := 3) hx hb dL_law_448 (by decide) ?_
  refine lv_iadd hx hb dL_law_449 ?_
  refine lw_ld (k := 3) hx hb hX hbl hS hL (by omega) dL_law_450 ?_
  refine lv_aload_n hx hb dL_law_451 rfl (lv_at hl 2 rfl) ?_
  refine lv_iload hx hb dL_law_452 (lv_at hl 1 rfl) ?_
  refine lv_iconst (v := 4) hx hb dL_law_454 (by decide) ?_
  refine lv_iadd hx hb dL_law_455 ?_
  refine lw_ld (k := 4) hx hb hX hbl hS hL (by omega) dL_law_456 ?_
  have hFc := lw_free (wc := mwL cI m0 a1 a2 a3 a4 a5 a6 th (nI C) (nI N) si f1 f2 f3 f4 f5 f6) (hD.sub [19, 20, 21, 22, 23, 24, 25] (by decide) rfl) hS (fun _ h => h)
  refine va_calli (va_runV (C := "TextureBankModel") (As := [.int (xs (i + 1)), .int (xs (i + 2)), .int (xs (i + 3)), .int (xs (i + 4))]) (rest := []) ⟨hx, hb, hml, hown, hB⟩ (hMm H.size) ⟨callB_of 4 hB gwM_texel rfl rfl rfl (hB _ wd_3) (hB _ wd_423) ydM_texel ⟨by show F9 + 1 ≤ 10; omega, by show 8 + (5 + 11) + N9 ≤ 354; omega⟩, hB _ wd_424, hB _ wd_425⟩ (wr_V hC (hP.sub [19, 20, 21, 22, 23, 24, 25] rfl) (hK.sub [0] rfl) (hD.sub [19, 20, 21, 22, 23, 24, 25] (by decide) rfl) (va_recv hK hP (ci := 2) (q0 := 19) rfl rfl)) rfl rfl hl.1 rfl (lv_room (Nat.le_of_ble_eq_true rfl)) dL_law_457 ⟨by show _ + _ ≤ 601024; omega, by show _ + _ ≤ 7293034; omega⟩) hS (fun q _ h => hFc q h) hFc (fun r u t H1 locs ht hvm hpost hB1 hz1 hk1 hS => ?_)
  have hP1 : va_P D tbCl (mwL cI m0 a1 a2 a3 a4 a5 a6 0 (nI C) (nI N) si2 f1 f2 f3 f4 f5 e6) H1 := by rw [← ht]; exact hB1
  have hP : va_P D tbCl (lwW x0 tx ta tq cq cI cT cL m0 a1 a2 a3 a4 a5 a6 ou (nI N) (nI C) f S Wr O Lv G 0 (nI C) (nI N) si2 f1 f2 f3 f4 f5 e6 (vp_updL fo 0 r9.toInt64)) H1 := lw_mback hP hD hk1 hP1
  have hD : va_D (fun q => s.heap.size ≤ q) (lwW x0 tx ta tq cq cI cT cL m0 a1 a2 a3 a4 a5 a6 ou (nI N) (nI C) f S Wr O Lv G 0 (nI C) (nI N) si2 f1 f2 f3 f4 f5 e6 (vp_updL fo 0 r9.toInt64)) := wd_D hD rfl
  generalize H1 = H at hP hS ⊢
  refine W.eq (g2 := F0 m 460 ls [.int r9]) (congrArg (fun z9 => F0 m 460 ls [.int z9]) hpost) ?_
  refine lv_istore (lv' := [(6, .int r9), (5, .int 0), (4, .int (nI i)), (0, .ref b), (1, .ref x0), (2, .ref m0), (3, .ref ou)]) hx hb dL_law_460 hl (by decide) rfl (fun ls hl => ?_)
  refine lv_aload_n hx hb dL_law_462 rfl (lv_at hl 5 rfl) ?_
  refine W.callV (W.runV (C := "TextureBankModel") (As := []) (rest := []) ⟨hx, hb, hml, hown, hB⟩ (kM_thrown l D cI m0 a1 a2 a3 a4 a5 a6 0 (nI C) (nI N) si2 f1 f2 f3 f4 f5 e6) ⟨callB_of 0 hB gwM_thrown rfl rfl rfl (hB _ wd_3) (hB _ wd_353) ydM_thrown ⟨Nat.le_of_ble_eq_true rfl, Nat.le_of_ble_eq_true rfl⟩, hB _ wd_354, hB _ wd_355⟩ (rd_V hC (hP.sub [19, 20, 21, 22, 23, 24, 25] rfl) (hK.sub [0] rfl) (va_recv hK hP (ci := 2) (q0 := 19) rfl rfl)) rfl rfl hl.1 rfl (lv_room (Nat.le_of_ble_eq_true rfl)) dL_law_463 ⟨by show _ + _ ≤ 601024; omega, by show _ + _ ≤ 7293034; omega⟩) ?_
  refine W.eq (g2 := F0 m 466 ls [.int 0]) rfl ?_
  refine lv_iload hx hb dL_law_466 (lv_at hl 1 rfl) ?_
  refine lv_icmp_eq (tgt := 473) hx hb dL_law_468 (by decide) (fun c_1 => ?_) (fun c_1 => absurd c_1 (by decide))
  refine lv_iload hx hb dL_law_473 (lv_at hl 1 rfl) ?_
  refine lv_if_ne (tgt := 490) hx hb dL_law_475 (by decide) (fun c_2 => absurd c_2 (by decide)) (fun c_2 => ?_)
  refine lv_aload_n hx hb dL_law_478 rfl (lv_at hl 6 rfl) ?_
  refine lv_iconst (v := 0) hx hb dL_law_479 (by decide) ?_
  refine va_lald hx hb hK hP 26 2 rfl rfl (vp_in_nI (n := 0) (N := 1) (by decide) (by decide)) dL_law_480 ?_
  refine W.eq (g2 := F0 m 481 ls [.long r9.toInt64]) rfl ?_
  refine lv_iload hx hb dL_law_481 (lv_at hl 0 rfl) ?_
  refine lv_i2l hx hb dL_law_483 rfl ?_
  refine W.lcmp hx hb dL_law_484 ?_
  refine lv_if_eq (tgt := 490) hx hb dL_law_485 (by decide) (fun c_3 => ?_) (fun c_3 => ?_)
  · refine lv_goto (tgt := 635) hx hb dL_law_490 (by decide) ?_
    exact W.widen (by omega) (by omega) (hN N C _ _ _ _ _ _ _ _ _ _ _ _ _ _ _ _ _ (hR) hP hD hS ls (lv_sub hl [2, 3, 4, 5, 6] rfl))
  · exact absurd ((lg_cmp_eq _ _).mpr rfl) c_3

set_option maxHeartbeats 4000000 in
set_option maxRecDepth 100000 in
theorem lw_lit_x (K0 : lw_Cx p l s m c b L xs D cI cT cL) (hN : lw_N p l e s m below meth c b D cI cT cL x0 tx ta tq cq m0 a1 a2 a3 a4 a5 a6 ou i) (hR : lwR N C f S Wr O Lv G f1 f2 f3 f4 f5) (hP : va_P D tbCl (lwW x0 tx ta tq cq cI cT cL m0 a1 a2 a3 a4 a5 a6 ou (nI N) (nI C) f S Wr O Lv G th (nI C) (nI N) si f1 f2 f3 f4 f5 f6 fo) H) (hD : va_D (fun q => s.heap.size ≤ q) (lwW x0 tx ta tq cq cI cT cL m0 a1 a2 a3 a4 a5 a6 ou (nI N) (nI C) f S Wr O Lv G th (nI C) (nI N) si f1 f2 f3 f4 f5 f6 fo)) (hS : va_S (fun q => s.heap.size ≤ q) s.heap H locs) (hi : i + 5 ≤ L) (hl : lv_has ls 7 [(4, .int (nI i)), (0, .ref b), (1, .ref x0), (2, .ref m0), (3, .ref ou)]) (W9 : va_W) (c9 r9 si2 : Int32) (e6 : Nat → Int32) (hc9 : ¬ c9 = 0) (hPW : va_P D tbCl W9 H) (hH : Met l yL_lit wL_lit ({ frames := 7, cells := 1, slots := 6, locals := 200 }) (th_P [.ref x0, .int (xs (i + 1)), .int (xs (i + 2)), .int (xs (i + 3)), .ref ou] D [(cI, .int), (cT, .object "TextureBank$Texture")] W9) (va_Qi (fun (x : Int32) (_ : Unit) => x = c9) (fun _ _ => True) (fun _ => False)) 1 6 (fun _ => False)) (F9 N9 : Nat) (hF9 : F9 ≤ 8) (hN9 : N9 ≤ 250) (hMm : ∀ sz : Nat, Met l yM_lit wM_lit (k2_rm F9 N9) (wr_P [.ref m0, .int (xs (i + 1)), .int (xs (i + 2)), .int (xs (i + 3))] sz D [(cI, .int)] (mwL cI m0 a1 a2 a3 a4 a5 a6 th (nI C) (nI N) si f1 f2 f3 f4 f5 f6)) (wr_Qi (r9) D (va_A (mwL cI m0 a1 a2 a3 a4 a5 a6 th (nI C) (nI N) si f1 f2 f3 f4 f5 f6) sz) (mwL cI m0 a1 a2 a3 a4 a5 a6 c9 (nI C) (nI N) si2 f1 f2 f3 f4 f5 e6)) 0 0 (va_A (mwL cI m0 a1 a2 a3 a4 a5 a6 th (nI C) (nI N) si f1 f2 f3 f4 f5 f6) sz)) : W p l e room_1 s m #[Value.ref b] below meth c H locs (27 + i) (22271 + 6 * i) (lw_Z below #[Value.ref b] s) (F0 m 493 ls []) := by
  obtain ⟨hx, hb, hml, hown, hB, hC, hT, hK, hX, hbl, hZ, hL, hl9⟩ := K0
  refine lv_aload_n hx hb dL_law_493 rfl (lv_at hl 2 rfl) ?_
  refine lv_aload_n hx hb dL_law_494 rfl (lv_at hl 1 rfl) ?_
  refine lv_iload hx hb dL_law_495 (lv_at hl 0 rfl) ?_
  refine lv_iconst (v := 1) hx hb dL_law_497 (by decide) ?_
  refine lv_iadd hx hb dL_law_498 ?_
  refine lw_ld (k := 1) hx hb hX hbl hS hL (by omega) dL_law_499 ?_
  refine lv_aload_n hx hb dL_law_500 rfl (lv_at hl 1 rfl) ?_
  refine lv_iload hx hb dL_law_501 (lv_at hl 0 rfl) ?_
  refine lv_iconst (v := 2) hx hb dL_law_503 (by decide) ?_
  refine lv_iadd hx hb dL_law_504 ?_
  refine lw_ld (k := 2) hx hb hX hbl hS hL (by omega) dL_law_505 ?_
  refine lv_aload_n hx hb dL_law_506 rfl (lv_at hl 1 rfl) ?_
  refine lv_iload hx hb dL_law_507 (lv_at hl 0 rfl) ?_
  refine lv_iconst (v := 3) hx hb dL_law_509 (by decide) ?_
  refine lv_iadd hx hb dL_law_510 ?_
  refine lw_ld (k := 3) hx hb hX hbl hS hL (by omega) dL_law_511 ?_
  refine lv_aload_n hx hb dL_law_512 rfl (lv_at hl 4 rfl) ?_
  refine va_calli (vx_runSW (As := [.ref x0, .int (xs (i + 1)), .int (xs (i + 2)), .int (xs (i + 3)), .ref ou]) (rest := []) ⟨hx, hb, hml, hown, hB⟩ hH (vx_cwSW 5 hB gsL_lit rfl rfl rfl ydL_lit ⟨Nat.le_of_ble_eq_true rfl, Nat.le_of_ble_eq_true rfl⟩) (th_S hC hPW (hK.sub [0, 1] rfl) hT (tbZ.of (hZ.1.kept hS.2.1) (hZ.2.kept hS.2.1))) rfl rfl hl.1 rfl (lv_room (Nat.le_of_ble_eq_true rfl)) dL_law_513 ⟨by show _ + _ ≤ 601024; omega, by show _ + _ ≤ 7293034; omega⟩) hS (fun q _ h => h.elim) (fun q h => h.elim) (fun r u t H1 locs ht hvm hpost hB1 hz1 hk1 hS => ?_)
  have hP : va_P D tbCl (lwW x0 tx ta tq cq cI cT cL m0 a1 a2 a3 a4 a5 a6 ou (nI N) (nI C) f S Wr O Lv G th (nI C) (nI N) si f1 f2 f3 f4 f5 f6 fo) H1 := wd_back (wc := []) hP hD [] rfl (fun q h _ => hk1 q h id) tbP0 (fun k q hq => Or.inr ⟨List.not_mem_nil, hq⟩)
  generalize H1 = H at hP hS ⊢
  refine W.eq (g2 := F0 m 516 ls [.int c9]) (congrArg (fun z9 => F0 m 516 ls [.int z9]) hpost) ?_
  refine lv_istore (lv' := [(5, .int c9), (4, .int (nI i)), (0, .ref b), (1, .ref x0), (2, .ref m0), (3, .ref ou)]) hx hb dL_law_516 hl (by decide) rfl (fun ls hl => ?_)
  refine lv_aload_n hx hb dL_law_518 rfl (lv_at hl 4 rfl) ?_
  refine lv_aload_n hx hb dL_law_519 rfl (lv_at hl 2 rfl) ?_
  refine lv_iload hx hb dL_law_520 (lv_at hl 1 rfl) ?_
  refine lv_iconst (v := 1) hx hb dL_law_522 (by decide) ?_
  refine lv_iadd hx hb dL_law_523 ?_
  refine lw_ld (k := 1) hx hb hX hbl hS hL (by omega) dL_law_524 ?_
  refine lv_aload_n hx hb dL_law_525 rfl (lv_at hl 2 rfl) ?_
  refine lv_iload hx hb dL_law_526 (lv_at hl 1 rfl) ?_
  refine lv_iconst (v := 2) hx hb dL_law_528 (by decide) ?_
  refine lv_iadd hx hb dL_law_529 ?_
  refine lw_ld (k := 2) hx hb hX hbl hS hL (by omega) dL_law_530 ?_
  refine lv_aload_n hx hb dL_law_531 rfl (lv_at hl 2 rfl) ?_
  refine lv_iload hx hb dL_law_532 (lv_at hl 1 rfl) ?_
  refine lv_iconst (v := 3) hx hb dL_law_534 (by decide) ?_
  refine lv_iadd hx hb dL_law_535 ?_
  refine lw_ld (k := 3) hx hb hX hbl hS hL (by omega) dL_law_536 ?_
  have hFc := lw_free (wc := mwL cI m0 a1 a2 a3 a4 a5 a6 th (nI C) (nI N) si f1 f2 f3 f4 f5 f6) (hD.sub [19, 20, 21, 22, 23, 24, 25] (by decide) rfl) hS (fun _ h => h)
  refine va_calli (va_runV (C := "TextureBankModel") (As := [.int (xs (i + 1)), .int (xs (i + 2)), .int (xs (i + 3))]) (rest := []) ⟨hx, hb, hml, hown, hB⟩ (hMm H.size) ⟨callB_of 3 hB gwM_lit rfl rfl rfl (hB _ wd_3) (hB _ wd_427) ydM_lit ⟨by show F9 + 1 ≤ 10; omega, by show 8 + (9 + 11) + N9 ≤ 354; omega⟩, hB _ wd_428, hB _ wd_429⟩ (wr_V hC (hP.sub [19, 20, 21, 22, 23, 24, 25] rfl) (hK.sub [0] rfl) (hD.sub [19, 20, 21, 22, 23, 24, 25] (by decide) rfl) (va_recv hK hP (ci := 2) (q0 := 19) rfl rfl)) rfl rfl hl.1 rfl (lv_room (Nat.le_of_ble_eq_true rfl)) dL_law_537 ⟨by show _ + _ ≤ 601024; omega, by show _ + _ ≤ 7293034; omega⟩) hS (fun q _ h => hFc q h) hFc (fun r u t H1 locs ht hvm hpost hB1 hz1 hk1 hS => ?_)
  have hP1 : va_P D tbCl (mwL cI m0 a1 a2 a3 a4 a5 a6 c9 (nI C) (nI N) si2 f1 f2 f3 f4 f5 e6) H1 := by rw [← ht]; exact hB1
  have hP : va_P D tbCl (lwW x0 tx ta tq cq cI cT cL m0 a1 a2 a3 a4 a5 a6 ou (nI N) (nI C) f S Wr O Lv G c9 (nI C) (nI N) si2 f1 f2 f3 f4 f5 e6 fo) H1 := lw_mback hP hD hk1 hP1
  have hD : va_D (fun q => s.heap.size ≤ q) (lwW x0 tx ta tq cq cI cT cL m0 a1 a2 a3 a4 a5 a6 ou (nI N) (nI C) f S Wr O Lv G c9 (nI C) (nI N) si2 f1 f2 f3 f4 f5 e6 fo) := wd_D hD rfl
  generalize H1 = H at hP hS ⊢
  refine W.eq (g2 := F0 m 540 ls [.int r9]) (congrArg (fun z9 => F0 m 540 ls [.int z9]) hpost) ?_
  refine lv_istore (lv' := [(6, .int r9), (5, .int c9), (4, .int (nI i)), (0, .ref b), (1, .ref x0), (2, .ref m0), (3, .ref ou)]) hx hb dL_law_540 hl (by decide) rfl (fun ls hl => ?_)
  refine lv_aload_n hx hb dL_law_542 rfl (lv_at hl 5 rfl) ?_
  refine W.callV (W.runV (C := "TextureBankModel") (As := []) (rest := []) ⟨hx, hb, hml, hown, hB⟩ (kM_thrown l D cI m0 a1 a2 a3 a4 a5 a6 c9 (nI C) (nI N) si2 f1 f2 f3 f4 f5 e6) ⟨callB_of 0 hB gwM_thrown rfl rfl rfl (hB _ wd_3) (hB _ wd_353) ydM_thrown ⟨Nat.le_of_ble_eq_true rfl, Nat.le_of_ble_eq_true rfl⟩, hB _ wd_354, hB _ wd_355⟩ (rd_V hC (hP.sub [19, 20, 21, 22, 23, 24, 25] rfl) (hK.sub [0] rfl) (va_recv hK hP (ci := 2) (q0 := 19) rfl rfl)) rfl rfl hl.1 rfl (lv_room (Nat.le_of_ble_eq_true rfl)) dL_law_543 ⟨by show _ + _ ≤ 601024; omega, by show _ + _ ≤ 7293034; omega⟩) ?_
  refine W.eq (g2 := F0 m 546 ls [.int c9]) rfl ?_
  refine lv_iload hx hb dL_law_546 (lv_at hl 1 rfl) ?_
  refine lv_icmp_eq (tgt := 553) hx hb dL_law_548 (by decide) (fun c_1 => ?_) (fun c_1 => ?_)
  · refine lv_iload hx hb dL_law_553 (lv_at hl 1 rfl) ?_
    refine lv_if_ne (tgt := 570) hx hb dL_law_555 (by decide) (fun c_2 => ?_) (fun c_2 => ?_)
    · refine lv_goto (tgt := 635) hx hb dL_law_570 (by decide) ?_
      exact W.widen (by omega) (by omega) (hN N C _ _ _ _ _ _ _ _ _ _ _ _ _ _ _ _ _ (hR) hP hD hS ls (lv_sub hl [2, 3, 4, 5, 6] rfl))
    · exact absurd c_2 hc9
  · exact absurd rfl c_1

set_option maxHeartbeats 4000000 in
set_option maxRecDepth 100000 in
theorem lw_lit_o (K0 : lw_Cx p l s m c b L xs D cI cT cL) (hN : lw_N p l e s m below meth c b D cI cT cL x0 tx ta tq cq m0 a1 a2 a3 a4 a5 a6 ou i) (hR : lwR N C f S Wr O Lv G f1 f2 f3 f4 f5) (hP : va_P D tbCl (lwW x0 tx ta tq cq cI cT cL m0 a1 a2 a3 a4 a5 a6 ou (nI N) (nI C) f S Wr O Lv G th (nI C) (nI N) si f1 f2 f3 f4 f5 f6 fo) H) (hD : va_D (fun q => s.heap.size ≤ q) (lwW x0 tx ta tq cq cI cT cL m0 a1 a2 a3 a4 a5 a6 ou (nI N) (nI C) f S Wr O Lv G th (nI C) (nI N) si f1 f2 f3 f4 f5 f6 fo)) (hS : va_S (fun q => s.heap.size ≤ q) s.heap H locs) (hi : i + 5 ≤ L) (hl : lv_has ls 7 [(4, .int (nI i)), (0, .ref b), (1, .ref x0), (2, .ref m0), (3, .ref ou)]) (W9 : va_W) (r9 si2 : Int32) (e6 : Nat → Int32) (hPW : va_P D tbCl W9 H) (hH : ∀ sz : Nat, Met l yL_lit wL_lit (k2_rm 7 200) (lo_P [.ref x0, .int (xs (i + 1)), .int (xs (i + 2)), .int (xs (i + 3)), .ref ou] sz D [(cI, .int), (cT, .object "TextureBank$Texture"), (cL, .long)] W9 [(ou, .inl (cL, 1, .inr (.inl fo)))]) (va_Qi (fun (x : Int32) (_ : Unit) => x = 0) (fun _ t => va_P D tbCl [(ou, .inl (cL, 1, .inr (.inl (vp_updL fo 0 r9.toInt64))))] t.heap) (va_A [(ou, .inl (cL, 1, .inr (.inl fo)))] sz)) 0 0 (va_A [(ou, .inl (cL, 1, .inr (.inl fo)))] sz)) (F9 N9 : Nat) (hF9 : F9 ≤ 8) (hN9 : N9 ≤ 250) (hMm : ∀ sz : Nat, Met l yM_lit wM_lit (k2_rm F9 N9) (wr_P [.ref m0, .int (xs (i + 1)), .int (xs (i + 2)), .int (xs (i + 3))] sz D [(cI, .int)] (mwL cI m0 a1 a2 a3 a4 a5 a6 th (nI C) (nI N) si f1 f2 f3 f4 f5 f6)) (wr_Qi (r9) D (va_A (mwL cI m0 a1 a2 a3 a4 a5 a6 th (nI C) (nI N) si f1 f2 f3 f4 f5 f6) sz) (mwL cI m0 a1 a2 a3 a4 a5 a6 0 (nI C) (nI N) si2 f1 f2 f3 f4 f5 e6)) 0 0 (va_A (mwL cI m0 a1 a2 a3 a4 a5 a6 th (nI C) (nI N) si f1 f2 f3 f4 f5 f6) sz)) : W p l e room_1 s m #[Value.ref b] below meth c H locs (27 + i) (22271 + 6 * i) (lw_Z below #[Value.ref b] s) (F0 m 493 ls []) := by
  obtain ⟨hx, hb, hml, hown, hB, hC, hT, hK, hX, hbl, hZ, hL, hl9⟩ := K0
  refine lv_aload_n hx hb dL_law_493 rfl (lv_at hl 2 rfl) ?_
  refine lv_aload_n hx hb dL_law_494 rfl (lv_at hl 1 rfl) ?_
  refine lv_iload hx hb dL_law_495 (lv_at hl 0 rfl) ?_
  refine lv_iconst (v := 1) hx hb dL_law_497 (by decide) ?_
  refine lv_iadd hx hb dL_law_498 ?_
  refine lw_ld (k := 1) hx hb hX hbl hS hL (by omega) dL_law_499 ?_
  refine lv_aload_n hx hb dL_law_500 rfl (lv_at hl 1 rfl) ?_
  refine lv_iload hx hb dL_law_501 (lv_at hl 0 rfl) ?_
  refine lv_iconst (v := 2) hx hb dL_law_503 (by decide) ?_
  refine lv_iadd hx hb dL_law_504 ?_
  refine lw_ld (k := 2) hx hb hX hbl hS hL (by omega) dL_law_505 ?_
  refine lv_aload_n hx hb dL_law_506 rfl (lv_at hl 1 rfl) ?_
  refine lv_iload hx hb dL_law_507 (lv_at hl 0 rfl) ?_
  refine lv_iconst (v := 3) hx hb dL_law_509 (by decide) ?_
  refine lv_iadd hx hb dL_law_510 ?_
  refine lw_ld (k := 3) hx hb hX hbl hS hL (by omega) dL_law_511 ?_
  refine lv_aload_n hx hb dL_law_512 rfl (lv_at hl 4 rfl) ?_
  have hFc := lw_free (wc := [(ou, .inl (cL, 1, .inr (.inl fo)))]) (hD.sub [26] (by decide) rfl) hS (fun _ h => h)
  refine va_calli (vx_runSW (As := [.ref x0, .int (xs (i + 1)), .int (xs (i + 2)), .int (xs (i + 3)), .ref ou]) (rest := []) ⟨hx, hb, hml, hown, hB⟩ (hH H.size) (vx_cwSW 5 hB gsL_lit rfl rfl rfl ydL_lit ⟨Nat.le_of_ble_eq_true rfl, Nat.le_of_ble_eq_true rfl⟩) (lo_S hC hPW (hP.sub [26] rfl) hK (hD.sub [26] (by decide) rfl)) rfl rfl hl.1 rfl (lv_room (Nat.le_of_ble_eq_true rfl)) dL_law_513 ⟨by show _ + _ ≤ 601024; omega, by show _ + _ ≤ 7293034; omega⟩) hS (fun q _ h => hFc q h) hFc (fun r u t H1 locs ht hvm hpost hB1 hz1 hk1 hS => ?_)
  have hP1 : va_P D tbCl [(ou, .inl (cL, 1, .inr (.inl (vp_updL fo 0 r9.toInt64))))] H1 := by rw [← ht]; exact hB1
  have hP : va_P D tbCl (lwW x0 tx ta tq cq cI cT cL m0 a1 a2 a3 a4 a5 a6 ou (nI N) (nI C) f S Wr O Lv G th (nI C) (nI N) si f1 f2 f3 f4 f5 f6 (vp_updL fo 0 r9.toInt64)) H1 := lw_oback hP hD hk1 hP1
  have hD : va_D (fun q => s.heap.size ≤ q) (lwW x0 tx ta tq cq cI cT cL m0 a1 a2 a3 a4 a5 a6 ou (nI N) (nI C) f S Wr O Lv G th (nI C) (nI N) si f1 f2 f3 f4 f5 f6 (vp_updL fo 0 r9.toInt64)) := wd_D hD rfl
  generalize H1 = H at hP hS ⊢
  refine W.eq (g2 := F0 m 516 ls [.int 0]) (congrArg (fun z9 => F0 m 516 ls [.int z9]) hpost) ?_
  refine lv_istore (lv' := [(5, .int 0), (4, .int (nI i)), (0, .ref b), (1, .ref x0), (2, .ref m0), (3, .ref ou)]) hx hb dL_law_516 hl (by decide) rfl (fun ls hl => ?_)
  refine lv_aload_n hx hb dL_law_518 rfl (lv_at hl 4 rfl) ?_
  refine lv_aload_n hx hb dL_law_519 rfl (lv_at hl 2 rfl) ?_
  refine lv_iload hx hb dL_law_520 (lv_at hl 1 rfl) ?_
  refine lv_iconst (v := 1) hx hb dL_law_522 (by decide) ?_
  refine lv_iadd hx hb dL_law_523 ?_
  refine lw_ld (k := 1) hx hb hX hbl hS hL (by omega) dL_law_524 ?_
  refine lv_aload_n hx hb dL_law_525 rfl (lv_at hl 2 rfl) ?_
  refine lv_iload hx hb dL_law_526 (lv_at hl 1 rfl) ?_
  refine lv_iconst (v := 2) hx hb dL_law_528 (by decide) ?_
  refine lv_iadd hx hb dL_law_529 ?_
  refine lw_ld (k := 2) hx hb hX hbl hS hL (by omega) dL_law_530 ?_
  refine lv_aload_n hx hb dL_law_531 rfl (lv_at hl 2 rfl) ?_
  refine lv_iload hx hb dL_law_532 (lv_at hl 1 rfl) ?_
  refine lv_iconst (v := 3) hx hb dL_law_534 (by decide) ?_
  refine lv_iadd hx hb dL_law_535 ?_
  refine lw_ld (k := 3) hx hb hX hbl hS hL (by omega) dL_law_536 ?_
  have hFc := lw_free (wc := mwL cI m0 a1 a2 a3 a4 a5 a6 th (nI C) (nI N) si f1 f2 f3 f4 f5 f6) (hD.sub [19, 20, 21, 22, 23, 24, 25] (by decide) rfl) hS (fun _ h => h)
  refine va_calli (va_runV (C := "TextureBankModel") (As := [.int (xs (i + 1)), .int (xs (i + 2)), .int (xs (i + 3))]) (rest := []) ⟨hx, hb, hml, hown, hB⟩ (hMm H.size) ⟨callB_of 3 hB gwM_lit rfl rfl rfl (hB _ wd_3) (hB _ wd_427) ydM_lit ⟨by show F9 + 1 ≤ 10; omega, by show 8 + (9 + 11) + N9 ≤ 354; omega⟩, hB _ wd_428, hB _ wd_429⟩ (wr_V hC (hP.sub [19, 20, 21, 22, 23, 24, 25] rfl) (hK.sub [0] rfl) (hD.sub [19, 20, 21, 22, 23, 24, 25] (by decide) rfl) (va_recv hK hP (ci := 2) (q0 := 19) rfl rfl)) rfl rfl hl.1 rfl (lv_room (Nat.le_of_ble_eq_true rfl)) dL_law_537 ⟨by show _ + _ ≤ 601024; omega, by show _ + _ ≤ 7293034; omega⟩) hS (fun q _ h => hFc q h) hFc (fun r u t H1 locs ht hvm hpost hB1 hz1 hk1 hS => ?_)
  have hP1 : va_P D tbCl (mwL cI m0 a1 a2 a3 a4 a5 a6 0 (nI C) (nI N) si2 f1 f2 f3 f4 f5 e6) H1 := by rw [← ht]; exact hB1
  have hP : va_P D tbCl (lwW x0 tx ta tq cq cI cT cL m0 a1 a2 a3 a4 a5 a6 ou (nI N) (nI C) f S Wr O Lv G 0 (nI C) (nI N) si2 f1 f2 f3 f4 f5 e6 (vp_updL fo 0 r9.toInt64)) H1 := lw_mback hP hD hk1 hP1
  have hD : va_D (fun q => s.heap.size ≤ q) (lwW x0 tx ta tq cq cI cT cL m0 a1 a2 a3 a4 a5 a6 ou (nI N) (nI C) f S Wr O Lv G 0 (nI C) (nI N) si2 f1 f2 f3 f4 f5 e6 (vp_updL fo 0 r9.toInt64)) := wd_D hD rfl
  generalize H1 = H at hP hS ⊢
  refine W.eq (g2 := F0 m 540 ls [.int r9]) (congrArg (fun z9 => F0 m 540 ls [.int z9]) hpost) ?_
  refine lv_istore (lv' := [(6, .int r9), (5, .int 0), (4, .int (nI i)), (0, .ref b), (1, .ref x0), (2, .ref m0), (3, .ref ou)]) hx hb dL_law_540 hl (by decide) rfl (fun ls hl => ?_)
  refine lv_aload_n hx hb dL_law_542 rfl (lv_at hl 5 rfl) ?_
  refine W.callV (W.runV (C := "TextureBankModel") (As := []) (rest := []) ⟨hx, hb, hml, hown, hB⟩ (kM_thrown l D cI m0 a1 a2 a3 a4 a5 a6 0 (nI C) (nI N) si2 f1 f2 f3 f4 f5 e6) ⟨callB_of 0 hB gwM_thrown rfl rfl rfl (hB _ wd_3) (hB _ wd_353) ydM_thrown ⟨Nat.le_of_ble_eq_true rfl, Nat.le_of_ble_eq_true rfl⟩, hB _ wd_354, hB _ wd_355⟩ (rd_V hC (hP.sub [19, 20, 21, 22, 23, 24, 25] rfl) (hK.sub [0] rfl) (va_recv hK hP (ci := 2) (q0 := 19) rfl rfl)) rfl rfl hl.1 rfl (lv_room (Nat.le_of_ble_eq_true rfl)) dL_law_543 ⟨by show _ + _ ≤ 601024; omega, by show _ + _ ≤ 7293034; omega⟩) ?_
  refine W.eq (g2 := F0 m 546 ls [.int 0]) rfl ?_
  refine lv_iload hx hb dL_law_546 (lv_at hl 1 rfl) ?_
  refine lv_icmp_eq (tgt := 553) hx hb dL_law_548 (by decide) (fun c_1 => ?_) (fun c_1 => absurd c_1 (by decide))
  refine lv_iload hx hb dL_law_553 (lv_at hl 1 rfl) ?_
  refine lv_if_ne (tgt := 570) hx hb dL_law_555 (by decide) (fun c_2 => absurd c_2 (by decide)) (fun c_2 => ?_)
  refine lv_aload_n hx hb dL_law_558 rfl (lv_at hl 6 rfl) ?_
  refine lv_iconst (v := 0) hx hb dL_law_559 (by decide) ?_
  refine va_lald hx hb hK hP 26 2 rfl rfl (vp_in_nI (n := 0) (N := 1) (by decide) (by decide)) dL_law_560 ?_
  refine W.eq (g2 := F0 m 561 ls [.long r9.toInt64]) rfl ?_
  refine lv_iload hx hb dL_law_561 (lv_at hl 0 rfl) ?_
  refine lv_i2l hx hb dL_law_563 rfl ?_
  refine W.lcmp hx hb dL_law_564 ?_
  refine lv_if_eq (tgt := 570) hx hb dL_law_565 (by decide) (fun c_3 => ?_) (fun c_3 => ?_)
  · refine lv_goto (tgt := 635) hx hb dL_law_570 (by decide) ?_
    exact W.widen (by omega) (by omega) (hN N C _ _ _ _ _ _ _ _ _ _ _ _ _ _ _ _ _ (hR) hP hD hS ls (lv_sub hl [2, 3, 4, 5, 6] rfl))
  · exact absurd ((lg_cmp_eq _ _).mpr rfl) c_3

end LAWO
