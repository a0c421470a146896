def mm_ln (c t li w : Int32) : Int32 := ((mm_part c w * mm_part t w / 255).toInt64 * li.toInt64 / 65536).toInt32
def mm_lit (c t li : Int32) : Int32 := ((0 + mm_ln c t li 0) * 256 + mm_ln c t li 1) * 256 + mm_ln c t li 2
set_option maxHeartbeats 4000000 in
set_option maxRecDepth 100000 in
theorem kM_about_none (l : Launch) (D : va_G) (sz : Nat) (cI : ClassId) (m0 a1 a2 a3 a4 a5 a6 : Nat) (th mn zz si : Int32) (f1 f2 f3 f4 f5 f6 : Nat → Int32) (t9 w9 : Int32) (hno : tt_has mn t9 = 0) : Met l yM_about wM_about (k2_rm 1 21) (wr_P [.ref m0, .int t9, .int w9] sz D [(cI, .int)] [(m0, .inr (2, [.int th, .int mn, .ref a1, .ref a2, .ref a3, .ref a4, .int zz, .ref a5, .ref a6, .int si])), (a1, .inl (cI, 8, .inl f1)), (a2, .inl (cI, 8, .inl f2)), (a3, .inl (cI, 8, .inl f3)), (a4, .inl (cI, 8192, .inl f4)), (a5, .inl (cI, 1024, .inl f5)), (a6, .inl (cI, 1024, .inl f6))]) (wr_Qi (-1) D (va_A [(m0, .inr (2, [.int th, .int mn, .ref a1, .ref a2, .ref a3, .ref a4, .int zz, .ref a5, .ref a6, .int si])), (a1, .inl (cI, 8, .inl f1)), (a2, .inl (cI, 8, .inl f2)), (a3, .inl (cI, 8, .inl f3)), (a4, .inl (cI, 8192, .inl f4)), (a5, .inl (cI, 1024, .inl f5)), (a6, .inl (cI, 1024, .inl f6))] sz) [(m0, .inr (2, [.int 0, .int mn, .ref a1, .ref a2, .ref a3, .ref a4, .int zz, .ref a5, .ref a6, .int si])), (a1, .inl (cI, 8, .inl f1)), (a2, .inl (cI, 8, .inl f2)), (a3, .inl (cI, 8, .inl f3)), (a4, .inl (cI, 8192, .inl f4)), (a5, .inl (cI, 1024, .inl f5)), (a6, .inl (cI, 1024, .inl f6))]) 0 0 (va_A [(m0, .inr (2, [.int th, .int mn, .ref a1, .ref a2, .ref a3, .ref a4, .int zz, .ref a5, .ref a6, .int si])), (a1, .inl (cI, 8, .inl f1)), (a2, .inl (cI, 8, .inl f2)), (a3, .inl (cI, 8, .inl f3)), (a4, .inl (cI, 8192, .inl f4)), (a5, .inl (cI, 1024, .inl f5)), (a6, .inl (cI, 1024, .inl f6))] sz) := by
  refine Met.ofW (cc := cM_about) (maxL := 3) (ret := (some .int)) (by decide) rfl ?_
  intro p e s m args below meth c s₁ B hml hv
  obtain ⟨rfl, hsz, hC, hP, hK, hD0⟩ := hv
  have hx := B.exec
  have hb := B.bytes
  have hr := B.returns
  have hB : ∀ w ∈ tbB, w.before _ s = true := fun w h => (atoms_spec (ws := wM_about) B.pre) w (List.mem_cons_of_mem _ h)
  have hown : s.vm.findClass "TextureBankModel" = some m.cls := findClass_of_methodNamed B.named
  have hlocks := B.notSynchronized
  subst hsz
  have hD := hD0.self (sz := s.heap.size)
  generalize hAe : va_A [(m0, .inr (2, [.int th, .int mn, .ref a1, .ref a2, .ref a3, .ref a4, .int zz, .ref a5, .ref a6, .int si])), (a1, .inl (cI, 8, .inl f1)), (a2, .inl (cI, 8, .inl f2)), (a3, .inl (cI, 8, .inl f3)), (a4, .inl (cI, 8192, .inl f4)), (a5, .inl (cI, 1024, .inl f5)), (a6, .inl (cI, 1024, .inl f6))] s.heap.size = A at hD ⊢
  have hA : ∀ q : Nat, s.heap.size ≤ q → A q := fun q h => by rw [← hAe]; exact Or.inr h
  have hS : va_S A s.heap s.heap [] := va_S.rf
  have hl := lv_entry ([.ref m0, .int t9, .int w9]) (n := 3) (Nat.le_of_ble_eq_true rfl)
  rw [lg_entry_eq]
  generalize (lg_sl ([.ref m0, .int t9, .int w9]) ++ List.replicate (3 - (lg_sl ([.ref m0, .int t9, .int w9])).length) Slot.unset).toArray = ls at hl ⊢
  have hl : lv_has ls 3 [(0, .ref m0), (1, .int t9), (2, .int w9)] := hl
  refine lv_aload_n hx hb dM_about_0 rfl (lv_at hl 0 rfl) ?_
  refine lv_iconst (v := 0) hx hb dM_about_1 (by decide) ?_
  refine va_put (D := D) (ci := 2) (v := .int 0) (ty := .int) (C := RM) (T := FM) (N := 10) hx hb hB inM tyM tyM_ok nmM hown hK hP hD hS 0 rfl rfl 0 (by decide) (hB _ wd_322) (fun _ h9 => h9) rfl (by decide +kernel) rfl rfl (Nat.le_of_ble_eq_true rfl) dM_about_2 (fun H locs hP hD hS => ?_)
  have hP : va_P D tbCl [(m0, .inr (2, [.int 0, .int mn, .ref a1, .ref a2, .ref a3, .ref a4, .int zz, .ref a5, .ref a6, .int si])), (a1, .inl (cI, 8, .inl f1)), (a2, .inl (cI, 8, .inl f2)), (a3, .inl (cI, 8, .inl f3)), (a4, .inl (cI, 8192, .inl f4)), (a5, .inl (cI, 1024, .inl f5)), (a6, .inl (cI, 1024, .inl f6))] H := hP
  have hD : va_D A [(m0, .inr (2, [.int 0, .int mn, .ref a1, .ref a2, .ref a3, .ref a4, .int zz, .ref a5, .ref a6, .int si])), (a1, .inl (cI, 8, .inl f1)), (a2, .inl (cI, 8, .inl f2)), (a3, .inl (cI, 8, .inl f3)), (a4, .inl (cI, 8192, .inl f4)), (a5, .inl (cI, 1024, .inl f5)), (a6, .inl (cI, 1024, .inl f6))] := hD
  refine lv_aload_n hx hb dM_about_5 rfl (lv_at hl 0 rfl) ?_
  refine lv_iload_n hx hb dM_about_6 rfl (lv_at hl 1 rfl) ?_
  refine W.callV (W.runV (C := "TextureBankModel") (As := [.int t9]) (rest := []) ⟨hx, hb, hml, hown, hB⟩ (kM_isThere l D cI m0 a1 a2 a3 a4 a5 a6 0 mn zz si f1 f2 f3 f4 f5 f6 t9) ⟨callB_of 1 hB gwM_isThere rfl rfl rfl (hB _ wd_3) (hB _ wd_377) ydM_isThere ⟨Nat.le_of_ble_eq_true rfl, Nat.le_of_ble_eq_true rfl⟩, hB _ wd_379, hB _ ws_12⟩ (rd_V hC hP hK (va_recv hK hP (ci := 2) (q0 := 0) rfl rfl)) rfl rfl hl.1 rfl (lv_room (Nat.le_of_ble_eq_true rfl)) dM_about_7 ⟨Nat.zero_le _, Nat.zero_le _⟩) ?_
  refine W.eq (g2 := F0 m 10 ls [.int (tt_has mn t9)]) rfl ?_
  refine lv_if_ne (tgt := 15) hx hb dM_about_10 (by decide) (fun c_1 => ?_) (fun c_1 => ?_)
  · exact absurd hno c_1
  · refine lv_iconst (v := (-1)) hx hb dM_about_13 (by decide) ?_
    exact W.iret hx hb hr (fun t ht hW => ⟨⟨_, (), rfl, rfl, (by have h9 : va_P D tbCl [(m0, .inr (2, [.int 0, .int mn, .ref a1, .ref a2, .ref a3, .ref a4, .int zz, .ref a5, .ref a6, .int si])), (a1, .inl (cI, 8, .inl f1)), (a2, .inl (cI, 8, .inl f2)), (a3, .inl (cI, 8, .inl f3)), (a4, .inl (cI, 8192, .inl f4)), (a5, .inl (cI, 1024, .inl f5)), (a6, .inl (cI, 1024, .inl f6))] H := hP; rw [← ht] at h9; exact h9)⟩, hS.F ht⟩) hS.2.2 dM_about_14

set_option maxHeartbeats 4000000 in
set_option maxRecDepth 100000 in
theorem kM_about_some (l : Launch) (D : va_G) (sz : Nat) (cI : ClassId) (m0 a1 a2 a3 a4 a5 a6 : Nat) (th mn zz si : Int32) (f1 f2 f3 f4 f5 f6 : Nat → Int32) (j k : Nat) (hj : j < 8) (hk : k ≤ 5) (hf : f1 j = nI (2 ^ k)) (hth : ¬ tt_has mn (nI j) = 0) (w9 : Int32) : Met l yM_about wM_about (k2_rm 1 23) (wr_P [.ref m0, .int (nI j), .int w9] sz D [(cI, .int)] [(m0, .inr (2, [.int th, .int mn, .ref a1, .ref a2, .ref a3, .ref a4, .int zz, .ref a5, .ref a6, .int si])), (a1, .inl (cI, 8, .inl f1)), (a2, .inl (cI, 8, .inl f2)), (a3, .inl (cI, 8, .inl f3)), (a4, .inl (cI, 8192, .inl f4)), (a5, .inl (cI, 1024, .inl f5)), (a6, .inl (cI, 1024, .inl f6))]) (wr_Qi (tb_about (f1 j) (f2 j) (f3 j) (nI (k + 1)) w9) D (va_A [(m0, .inr (2, [.int th, .int mn, .ref a1, .ref a2, .ref a3, .ref a4, .int zz, .ref a5, .ref a6, .int si])), (a1, .inl (cI, 8, .inl f1)), (a2, .inl (cI, 8, .inl f2)), (a3, .inl (cI, 8, .inl f3)), (a4, .inl (cI, 8192, .inl f4)), (a5, .inl (cI, 1024, .inl f5)), (a6, .inl (cI, 1024, .inl f6))] sz) [(m0, .inr (2, [.int 0, .int mn, .ref a1, .ref a2, .ref a3, .ref a4, .int zz, .ref a5, .ref a6, .int si])), (a1, .inl (cI, 8, .inl f1)), (a2, .inl (cI, 8, .inl f2)), (a3, .inl (cI, 8, .inl f3)), (a4, .inl (cI, 8192, .inl f4)), (a5, .inl (cI, 1024, .inl f5)), (a6, .inl (cI, 1024, .inl f6))]) 0 0 (va_A [(m0, .inr (2, [.int th, .int mn, .ref a1, .ref a2, .ref a3, .ref a4, .int zz, .ref a5, .ref a6, .int si])), (a1, .inl (cI, 8, .inl f1)), (a2, .inl (cI, 8, .inl f2)), (a3, .inl (cI, 8, .inl f3)), (a4, .inl (cI, 8192, .inl f4)), (a5, .inl (cI, 1024, .inl f5)), (a6, .inl (cI, 1024, .inl f6))] sz) := by
  refine Met.ofW (cc := cM_about) (maxL := 3) (ret := (some .int)) (by decide) rfl ?_
  intro p e s m args below meth c s₁ B hml hv
  obtain ⟨rfl, hsz, hC, hP, hK, hD0⟩ := hv
  have hx := B.exec
  have hb := B.bytes
  have hr := B.returns
  have hB : ∀ w ∈ tbB, w.before _ s = true := fun w h => (atoms_spec (ws := wM_about) B.pre) w (List.mem_cons_of_mem _ h)
  have hown : s.vm.findClass "TextureBankModel" = some m.cls := findClass_of_methodNamed B.named
  have hlocks := B.notSynchronized
  subst hsz
  have hD := hD0.self (sz := s.heap.size)
  generalize hAe : va_A [(m0, .inr (2, [.int th, .int mn, .ref a1, .ref a2, .ref a3, .ref a4, .int zz, .ref a5, .ref a6, .int si])), (a1, .inl (cI, 8, .inl f1)), (a2, .inl (cI, 8, .inl f2)), (a3, .inl (cI, 8, .inl f3)), (a4, .inl (cI, 8192, .inl f4)), (a5, .inl (cI, 1024, .inl f5)), (a6, .inl (cI, 1024, .inl f6))] s.heap.size = A at hD ⊢
  have hA : ∀ q : Nat, s.heap.size ≤ q → A q := fun q h => by rw [← hAe]; exact Or.inr h
  have hS : va_S A s.heap s.heap [] := va_S.rf
  have hl := lv_entry ([.ref m0, .int (nI j), .int w9]) (n := 3) (Nat.le_of_ble_eq_true rfl)
  rw [lg_entry_eq]
  generalize (lg_sl ([.ref m0, .int (nI j), .int w9]) ++ List.replicate (3 - (lg_sl ([.ref m0, .int (nI j), .int w9])).length) Slot.unset).toArray = ls at hl ⊢
  have hl : lv_has ls 3 [(0, .ref m0), (1, .int (nI j)), (2, .int w9)] := hl
  refine lv_aload_n hx hb dM_about_0 rfl (lv_at hl 0 rfl) ?_
  refine lv_iconst (v := 0) hx hb dM_about_1 (by decide) ?_
  refine va_put (D := D) (ci := 2) (v := .int 0) (ty := .int) (C := RM) (T := FM) (N := 10) hx hb hB inM tyM tyM_ok nmM hown hK hP hD hS 0 rfl rfl 0 (by decide) (hB _ wd_322) (fun _ h9 => h9) rfl (by decide +kernel) rfl rfl (Nat.le_of_ble_eq_true rfl) dM_about_2 (fun H locs hP hD hS => ?_)
  have hP : va_P D tbCl [(m0, .inr (2, [.int 0, .int mn, .ref a1, .ref a2, .ref a3, .ref a4, .int zz, .ref a5, .ref a6, .int si])), (a1, .inl (cI, 8, .inl f1)), (a2, .inl (cI, 8, .inl f2)), (a3, .inl (cI, 8, .inl f3)), (a4, .inl (cI, 8192, .inl f4)), (a5, .inl (cI, 1024, .inl f5)), (a6, .inl (cI, 1024, .inl f6))] H := hP
  have hD : va_D A [(m0, .inr (2, [.int 0, .int mn, .ref a1, .ref a2, .ref a3, .ref a4, .int zz, .ref a5, .ref a6, .int si])), (a1, .inl (cI, 8, .inl f1)), (a2, .inl (cI, 8, .inl f2)), (a3, .inl (cI, 8, .inl f3)), (a4, .inl (cI, 8192, .inl f4)), (a5, .inl (cI, 1024, .inl f5)), (a6, .inl (cI, 1024, .inl f6))] := hD
  refine lv_aload_n hx hb dM_about_5 rfl (lv_at hl 0 rfl) ?_
  refine lv_iload_n hx hb dM_about_6 rfl (lv_at hl 1 rfl) ?_
  refine W.callV (W.runV (C := "TextureBankModel") (As := [.int (nI j)]) (rest := []) ⟨hx, hb, hml, hown, hB⟩ (kM_isThere l D cI m0 a1 a2 a3 a4 a5 a6 0 mn zz si f1 f2 f3 f4 f5 f6 (nI j)) ⟨callB_of 1 hB gwM_isThere rfl rfl rfl (hB _ wd_3) (hB _ wd_377) ydM_isThere ⟨Nat.le_of_ble_eq_true rfl, Nat.le_of_ble_eq_true rfl⟩, hB _ wd_379, hB _ ws_12⟩ (rd_V hC hP hK (va_recv hK hP (ci := 2) (q0 := 0) rfl rfl)) rfl rfl hl.1 rfl (lv_room (Nat.le_of_ble_eq_true rfl)) dM_about_7 ⟨Nat.zero_le _, Nat.zero_le _⟩) ?_
  refine W.eq (g2 := F0 m 10 ls [.int (tt_has mn (nI j))]) rfl ?_
  refine lv_if_ne (tgt := 15) hx hb dM_about_10 (by decide) (fun c_1 => ?_) (fun c_1 => ?_)
  · refine lv_iload_n hx hb dM_about_15 rfl (lv_at hl 2 rfl) ?_
    refine lv_if_ne (tgt := 28) hx hb dM_about_16 (by decide) (fun c_2 => ?_) (fun c_2 => ?_)
    · refine lv_iload_n hx hb dM_about_28 rfl (lv_at hl 2 rfl) ?_
      refine lv_iconst (v := 1) hx hb dM_about_29 (by decide) ?_
      refine lv_icmp_ne (tgt := 42) hx hb dM_about_30 (by decide) (fun c_3 => ?_) (fun c_3 => ?_)
      · refine lv_iload_n hx hb dM_about_42 rfl (lv_at hl 2 rfl) ?_
        refine lv_iconst (v := 2) hx hb dM_about_43 (by decide) ?_
        refine lv_icmp_ne (tgt := 56) hx hb dM_about_44 (by decide) (fun c_4 => ?_) (fun c_4 => ?_)
        · refine lv_iload_n hx hb dM_about_56 rfl (lv_at hl 2 rfl) ?_
          refine lv_iconst (v := 3) hx hb dM_about_57 (by decide) ?_
          refine lv_icmp_ne (tgt := 71) hx hb dM_about_58 (by decide) (fun c_5 => ?_) (fun c_5 => ?_)
          · refine lv_iconst (v := (-1)) hx hb dM_about_71 (by decide) ?_
            exact W.iret hx hb hr (fun t ht hW => ⟨⟨_, (), rfl, by unfold tb_about; (first | rw [if_pos c_2] | rw [if_neg c_2]); (first | rw [if_pos c_3] | rw [if_neg c_3]); (first | rw [if_pos c_4] | rw [if_neg c_4]); (first | rw [if_pos c_5] | rw [if_neg c_5]), (by have h9 : va_P D tbCl [(m0, .inr (2, [.int 0, .int mn, .ref a1, .ref a2, .ref a3, .ref a4, .int zz, .ref a5, .ref a6, .int si])), (a1, .inl (cI, 8, .inl f1)), (a2, .inl (cI, 8, .inl f2)), (a3, .inl (cI, 8, .inl f3)), (a4, .inl (cI, 8192, .inl f4)), (a5, .inl (cI, 1024, .inl f5)), (a6, .inl (cI, 1024, .inl f6))] H := hP; rw [← ht] at h9; exact h9)⟩, hS.F ht⟩) hS.2.2 dM_about_72
          · refine lv_aload_n hx hb dM_about_61 rfl (lv_at hl 0 rfl) ?_
            refine lv_iload_n hx hb dM_about_62 rfl (lv_at hl 1 rfl) ?_
            refine W.callV (W.runV (C := "TextureBankModel") (As := [.int (nI j)]) (rest := []) ⟨hx, hb, hml, hown, hB⟩ (kM_last l D cI m0 a1 a2 a3 a4 a5 a6 0 mn zz si f1 f2 f3 f4 f5 f6 j k hj hk hf) ⟨callB_of 1 hB gwM_last rfl rfl rfl (hB _ wd_3) (hB _ wd_384) ydM_last ⟨Nat.le_of_ble_eq_true rfl, Nat.le_of_ble_eq_true rfl⟩, hB _ wd_386, hB _ ws_13⟩ (rd_V hC hP hK (va_recv hK hP (ci := 2) (q0 := 0) rfl rfl)) rfl rfl hl.1 rfl (lv_room (Nat.le_of_ble_eq_true rfl)) dM_about_63 ⟨Nat.zero_le _, Nat.zero_le _⟩) ?_
            refine W.eq (g2 := F0 m 66 ls [.int (nI k)]) rfl ?_
            refine lv_iconst (v := 1) hx hb dM_about_66 (by decide) ?_
            refine lv_iadd hx hb dM_about_67 ?_
            refine W.eq (g2 := F0 m 68 ls [.int (nI (k + 1))]) (by rw [nI_1]) ?_
            refine lv_goto (tgt := 72) hx hb dM_about_68 (by decide) ?_
            exact W.iret hx hb hr (fun t ht hW => ⟨⟨_, (), rfl, by unfold tb_about; (first | rw [if_pos c_2] | rw [if_neg c_2]); (first | rw [if_pos c_3] | rw [if_neg c_3]); (first | rw [if_pos c_4] | rw [if_neg c_4]); (first | rw [if_pos c_5] | rw [if_neg c_5]), (by have h9 : va_P D tbCl [(m0, .inr (2, [.int 0, .int mn, .ref a1, .ref a2, .ref a3, .ref a4, .int zz, .ref a5, .ref a6, .int si])), (a1, .inl (cI, 8, .inl f1)), (a2, .inl (cI, 8, .inl f2)), (a3, .inl (cI, 8, .inl f3)), (a4, .inl (cI, 8192, .inl f4)), (a5, .inl (cI, 1024, .inl f5)), (a6, .inl (cI, 1024, .inl f6))] H := hP; rw [← ht] at h9; exact h9)⟩, hS.F ht⟩) hS.2.2 dM_about_72
        · refine lv_aload_n hx hb dM_about_47 rfl (lv_at hl 0 rfl) ?_
          refine va_get (D := D) (ci := 2) (v := .ref a3) (C := RM) (T := FM) (N := 10) hx hb hB inM hown hK hP 0 rfl rfl 4 (by decide) (hB _ wd_326) (fun _ h9 => h9) rfl dM_about_48 ?_
          refine lv_iload_n hx hb dM_about_51 rfl (lv_at hl 1 rfl) ?_
          refine va_iald hx hb hK hP 3 0 (f := f3) rfl rfl (i := nI j) (vp_in_nI (hj) (by omega)) dM_about_52 ?_
          refine W.eq (g2 := F0 m 53 ls [.int (f3 j)]) (by rw [nI_clamp (by have := (hj : j < 8); omega)]) ?_
          refine lv_goto (tgt := 72) hx hb dM_about_53 (by decide) ?_
          exact W.iret hx hb hr (fun t ht hW => ⟨⟨_, (), rfl, by unfold tb_about; (first | rw [if_pos c_2] | rw [if_neg c_2]); (first | rw [if_pos c_3] | rw [if_neg c_3]); (first | rw [if_pos c_4] | rw [if_neg c_4]), (by have h9 : va_P D tbCl [(m0, .inr (2, [.int 0, .int mn, .ref a1, .ref a2, .ref a3, .ref a4, .int zz, .ref a5, .ref a6, .int si])), (a1, .inl (cI, 8, .inl f1)), (a2, .inl (cI, 8, .inl f2)), (a3, .inl (cI, 8, .inl f3)), (a4, .inl (cI, 8192, .inl f4)), (a5, .inl (cI, 1024, .inl f5)), (a6, .inl (cI, 1024, .inl f6))] H := hP; rw [← ht] at h9; exact h9)⟩, hS.F ht⟩) hS.2.2 dM_about_72
      · refine lv_aload_n hx hb dM_about_33 rfl (lv_at hl 0 rfl) ?_
        refine va_get (D := D) (ci := 2) (v := .ref a2) (C := RM) (T := FM) (N := 10) hx hb hB inM hown hK hP 0 rfl rfl 3 (by decide) (hB _ wd_325) (fun _ h9 => h9) rfl dM_about_34 ?_
        refine lv_iload_n hx hb dM_about_37 rfl (lv_at hl 1 rfl) ?_
        refine va_iald hx hb hK hP 2 0 (f := f2) rfl rfl (i := nI j) (vp_in_nI (hj) (by omega)) dM_about_38 ?_
        refine W.eq (g2 := F0 m 39 ls [.int (f2 j)]) (by rw [nI_clamp (by have := (hj : j < 8); omega)]) ?_
        refine lv_goto (tgt := 72) hx hb dM_about_39 (by decide) ?_
        exact W.iret hx hb hr (fun t ht hW => ⟨⟨_, (), rfl, by unfold tb_about; (first | rw [if_pos c_2] | rw [if_neg c_2]); (first | rw [if_pos c_3] | rw [if_neg c_3]), (by have h9 : va_P D tbCl [(m0, .inr (2, [.int 0, .int mn, .ref a1, .ref a2, .ref a3, .ref a4, .int zz, .ref a5, .ref a6, .int si])), (a1, .inl (cI, 8, .inl f1)), (a2, .inl (cI, 8, .inl f2)), (a3, .inl (cI, 8, .inl f3)), (a4, .inl (cI, 8192, .inl f4)), (a5, .inl (cI, 1024, .inl f5)), (a6, .inl (cI, 1024, .inl f6))] H := hP; rw [← ht] at h9; exact h9)⟩, hS.F ht⟩) hS.2.2 dM_about_72
    · refine lv_aload_n hx hb dM_about_19 rfl (lv_at hl 0 rfl) ?_
      refine va_get (D := D) (ci := 2) (v := .ref a1) (C := RM) (T := FM) (N := 10) hx hb hB inM hown hK hP 0 rfl rfl 2 (by decide) (hB _ wd_324) (fun _ h9 => h9) rfl dM_about_20 ?_
      refine lv_iload_n hx hb dM_about_23 rfl (lv_at hl 1 rfl) ?_
      refine va_iald hx hb hK hP 1 0 (f := f1) rfl rfl (i := nI j) (vp_in_nI (hj) (by omega)) dM_about_24 ?_
      refine W.eq (g2 := F0 m 25 ls [.int (f1 j)]) (by rw [nI_clamp (by have := (hj : j < 8); omega)]) ?_
      refine lv_goto (tgt := 72) hx hb dM_about_25 (by decide) ?_
      exact W.iret hx hb hr (fun t ht hW => ⟨⟨_, (), rfl, by unfold tb_about; (first | rw [if_pos c_2] | rw [if_neg c_2]), (by have h9 : va_P D tbCl [(m0, .inr (2, [.int 0, .int mn, .ref a1, .ref a2, .ref a3, .ref a4, .int zz, .ref a5, .ref a6, .int si])), (a1, .inl (cI, 8, .inl f1)), (a2, .inl (cI, 8, .inl f2)), (a3, .inl (cI, 8, .inl f3)), (a4, .inl (cI, 8192, .inl f4)), (a5, .inl (cI, 1024, .inl f5)), (a6, .inl (cI, 1024, .inl f6))] H := hP; rw [← ht] at h9; exact h9)⟩, hS.F ht⟩) hS.2.2 dM_about_72
  · exact absurd c_1 hth

set_option maxHeartbeats 4000000 in
set_option maxRecDepth 100000 in
theorem kM_level_none (l : Launch) (D : va_G) (sz : Nat) (cI : ClassId) (m0 a1 a2 a3 a4 a5 a6 : Nat) (th mn zz si : Int32) (f1 f2 f3 f4 f5 f6 : Nat → Int32) (t9 : Int32) (sp : Int64) (ar : Int32) (hno : tt_has mn t9 = 0) : Met l yM_level wM_level (k2_rm 1 21) (wr_P [.ref m0, .int t9, .long sp, .int ar] sz D [(cI, .int)] [(m0, .inr (2, [.int th, .int mn, .ref a1, .ref a2, .ref a3, .ref a4, .int zz, .ref a5, .ref a6, .int si])), (a1, .inl (cI, 8, .inl f1)), (a2, .inl (cI, 8, .inl f2)), (a3, .inl (cI, 8, .inl f3)), (a4, .inl (cI, 8192, .inl f4)), (a5, .inl (cI, 1024, .inl f5)), (a6, .inl (cI, 1024, .inl f6))]) (wr_Qi 0 D (va_A [(m0, .inr (2, [.int th, .int mn, .ref a1, .ref a2, .ref a3, .ref a4, .int zz, .ref a5, .ref a6, .int si])), (a1, .inl (cI, 8, .inl f1)), (a2, .inl (cI, 8, .inl f2)), (a3, .inl (cI, 8, .inl f3)), (a4, .inl (cI, 8192, .inl f4)), (a5, .inl (cI, 1024, .inl f5)), (a6, .inl (cI, 1024, .inl f6))] sz) [(m0, .inr (2, [.int 1, .int mn, .ref a1, .ref a2, .ref a3, .ref a4, .int zz, .ref a5, .ref a6, .int si])), (a1, .inl (cI, 8, .inl f1)), (a2, .inl (cI, 8, .inl f2)), (a3, .inl (cI, 8, .inl f3)), (a4, .inl (cI, 8192, .inl f4)), (a5, .inl (cI, 1024, .inl f5)), (a6, .inl (cI, 1024, .inl f6))]) 0 0 (va_A [(m0, .inr (2, [.int th, .int mn, .ref a1, .ref a2, .ref a3, .ref a4, .int zz, .ref a5, .ref a6, .int si])), (a1, .inl (cI, 8, .inl f1)), (a2, .inl (cI, 8, .inl f2)), (a3, .inl (cI, 8, .inl f3)), (a4, .inl (cI, 8192, .inl f4)), (a5, .inl (cI, 1024, .inl f5)), (a6, .inl (cI, 1024, .inl f6))] sz) := by
  refine Met.ofW (cc := cM_level) (maxL := 10) (ret := (some .int)) (by decide) rfl ?_
  intro p e s m args below meth c s₁ B hml hv
  obtain ⟨rfl, hsz, hC, hP, hK, hD0⟩ := hv
  have hx := B.exec
  have hb := B.bytes
  have hr := B.returns
  have hB : ∀ w ∈ tbB, w.before _ s = true := fun w h => (atoms_spec (ws := wM_level) B.pre) w (List.mem_cons_of_mem _ h)
  have hown : s.vm.findClass "TextureBankModel" = some m.cls := findClass_of_methodNamed B.named
  have hlocks := B.notSynchronized
  subst hsz
  have hD := hD0.self (sz := s.heap.size)
  generalize hAe : va_A [(m0, .inr (2, [.int th, .int mn, .ref a1, .ref a2, .ref a3, .ref a4, .int zz, .ref a5, .ref a6, .int si])), (a1, .inl (cI, 8, .inl f1)), (a2, .inl (cI, 8, .inl f2)), (a3, .inl (cI, 8, .inl f3)), (a4, .inl (cI, 8192, .inl f4)), (a5, .inl (cI, 1024, .inl f5)), (a6, .inl (cI, 1024, .inl f6))] s.heap.size = A at hD ⊢
  have hA : ∀ q : Nat, s.heap.size ≤ q → A q := fun q h => by rw [← hAe]; exact Or.inr h
  have hS : va_S A s.heap s.heap [] := va_S.rf
  have hl := lv_entry ([.ref m0, .int t9, .long sp, .int ar]) (n := 10) (Nat.le_of_ble_eq_true rfl)
  rw [lg_entry_eq]
  generalize (lg_sl ([.ref m0, .int t9, .long sp, .int ar]) ++ List.replicate (10 - (lg_sl ([.ref m0, .int t9, .long sp, .int ar])).length) Slot.unset).toArray = ls at hl ⊢
  have hl : lv_has ls 10 [(0, .ref m0), (1, .int t9), (2, .long sp), (4, .int ar)] := hl
  refine lv_aload_n hx hb dM_level_0 rfl (lv_at hl 0 rfl) ?_
  refine lv_aload_n hx hb dM_level_1 rfl (lv_at hl 0 rfl) ?_
  refine lv_iload_n hx hb dM_level_2 rfl (lv_at hl 1 rfl) ?_
  refine W.callV (W.runV (C := "TextureBankModel") (As := [.int t9]) (rest := [.ref m0]) ⟨hx, hb, hml, hown, hB⟩ (kM_isThere l D cI m0 a1 a2 a3 a4 a5 a6 th mn zz si f1 f2 f3 f4 f5 f6 t9) ⟨callB_of 1 hB gwM_isThere rfl rfl rfl (hB _ wd_3) (hB _ wd_377) ydM_isThere ⟨Nat.le_of_ble_eq_true rfl, Nat.le_of_ble_eq_true rfl⟩, hB _ wd_379, hB _ ws_12⟩ (rd_V hC hP hK (va_recv hK hP (ci := 2) (q0 := 0) rfl rfl)) rfl rfl hl.1 rfl (lv_room (Nat.le_of_ble_eq_true rfl)) dM_level_3 ⟨Nat.zero_le _, Nat.zero_le _⟩) ?_
  refine W.eq (g2 := F0 m 6 ls [.int (tt_has mn t9), .ref m0]) rfl ?_
  refine lv_if_ne (tgt := 13) hx hb dM_level_6 (by decide) (fun c_1 => ?_) (fun c_1 => ?_)
  · exact absurd hno c_1
  · refine lv_iconst (v := 1) hx hb dM_level_9 (by decide) ?_
    refine lv_goto (tgt := 45) hx hb dM_level_10 (by decide) ?_
    refine va_put (D := D) (ci := 2) (v := .int 1) (ty := .int) (C := RM) (T := FM) (N := 10) hx hb hB inM tyM tyM_ok nmM hown hK hP hD hS 0 rfl rfl 0 (by decide) (hB _ wd_322) (fun _ h9 => h9) rfl (by decide +kernel) rfl rfl (Nat.le_of_ble_eq_true rfl) dM_level_45 (fun H locs hP hD hS => ?_)
    have hP : va_P D tbCl [(m0, .inr (2, [.int 1, .int mn, .ref a1, .ref a2, .ref a3, .ref a4, .int zz, .ref a5, .ref a6, .int si])), (a1, .inl (cI, 8, .inl f1)), (a2, .inl (cI, 8, .inl f2)), (a3, .inl (cI, 8, .inl f3)), (a4, .inl (cI, 8192, .inl f4)), (a5, .inl (cI, 1024, .inl f5)), (a6, .inl (cI, 1024, .inl f6))] H := hP
    have hD : va_D A [(m0, .inr (2, [.int 1, .int mn, .ref a1, .ref a2, .ref a3, .ref a4, .int zz, .ref a5, .ref a6, .int si])), (a1, .inl (cI, 8, .inl f1)), (a2, .inl (cI, 8, .inl f2)), (a3, .inl (cI, 8, .inl f3)), (a4, .inl (cI, 8192, .inl f4)), (a5, .inl (cI, 1024, .inl f5)), (a6, .inl (cI, 1024, .inl f6))] := hD
    refine lv_aload_n hx hb dM_level_48 rfl (lv_at hl 0 rfl) ?_
    refine va_get (D := D) (ci := 2) (v := .int 1) (C := RM) (T := FM) (N := 10) hx hb hB inM hown hK hP 0 rfl rfl 0 (by decide) (hB _ wd_322) (fun _ h9 => h9) rfl dM_level_49 ?_
    refine lv_if_eq (tgt := 57) hx hb dM_level_52 (by decide) (fun c_2 => absurd c_2 (by decide)) (fun c_2 => ?_)
    refine lv_iconst (v := 0) hx hb dM_level_55 (by decide) ?_
    exact W.iret hx hb hr (fun t ht hW => ⟨⟨_, (), rfl, rfl, (by have h9 : va_P D tbCl [(m0, .inr (2, [.int 1, .int mn, .ref a1, .ref a2, .ref a3, .ref a4, .int zz, .ref a5, .ref a6, .int si])), (a1, .inl (cI, 8, .inl f1)), (a2, .inl (cI, 8, .inl f2)), (a3, .inl (cI, 8, .inl f3)), (a4, .inl (cI, 8192, .inl f4)), (a5, .inl (cI, 1024, .inl f5)), (a6, .inl (cI, 1024, .inl f6))] H := hP; rw [← ht] at h9; exact h9)⟩, hS.F ht⟩) hS.2.2 dM_level_56

set_option maxHeartbeats 4000000 in
set_option maxRecDepth 100000 in
theorem kM_level_bad (l : Launch) (D : va_G) (sz : Nat) (cI : ClassId) (m0 a1 a2 a3 a4 a5 a6 : Nat) (th mn zz si : Int32) (f1 f2 f3 f4 f5 f6 : Nat → Int32) (t9 : Int32) (sp : Int64) (ar : Int32) (hth : ¬ tt_has mn t9 = 0) (hbad : sp < 0 ∨ ¬ sp ≤ 1099511627776 ∨ ar < 1 ∨ ¬ ar ≤ 16777216) : Met l yM_level wM_level (k2_rm 1 21) (wr_P [.ref m0, .int t9, .long sp, .int ar] sz D [(cI, .int)] [(m0, .inr (2, [.int th, .int mn, .ref a1, .ref a2, .ref a3, .ref a4, .int zz, .ref a5, .ref a6, .int si])), (a1, .inl (cI, 8, .inl f1)), (a2, .inl (cI, 8, .inl f2)), (a3, .inl (cI, 8, .inl f3)), (a4, .inl (cI, 8192, .inl f4)), (a5, .inl (cI, 1024, .inl f5)), (a6, .inl (cI, 1024, .inl f6))]) (wr_Qi 0 D (va_A [(m0, .inr (2, [.int th, .int mn, .ref a1, .ref a2, .ref a3, .ref a4, .int zz, .ref a5, .ref a6, .int si])), (a1, .inl (cI, 8, .inl f1)), (a2, .inl (cI, 8, .inl f2)), (a3, .inl (cI, 8, .inl f3)), (a4, .inl (cI, 8192, .inl f4)), (a5, .inl (cI, 1024, .inl f5)), (a6, .inl (cI, 1024, .inl f6))] sz) [(m0, .inr (2, [.int 2, .int mn, .ref a1, .ref a2, .ref a3, .ref a4, .int zz, .ref a5, .ref a6, .int si])), (a1, .inl (cI, 8, .inl f1)), (a2, .inl (cI, 8, .inl f2)), (a3, .inl (cI, 8, .inl f3)), (a4, .inl (cI, 8192, .inl f4)), (a5, .inl (cI, 1024, .inl f5)), (a6, .inl (cI, 1024, .inl f6))]) 0 0 (va_A [(m0, .inr (2, [.int th, .int mn, .ref a1, .ref a2, .ref a3, .ref a4, .int zz, .ref a5, .ref a6, .int si])), (a1, .inl (cI, 8, .inl f1)), (a2, .inl (cI, 8, .inl f2)), (a3, .inl (cI, 8, .inl f3)), (a4, .inl (cI, 8192, .inl f4)), (a5, .inl (cI, 1024, .inl f5)), (a6, .inl (cI, 1024, .inl f6))] sz) := by
  refine Met.ofW (cc := cM_level) (maxL := 10) (ret := (some .int)) (by decide) rfl ?_
  intro p e s m args below meth c s₁ B hml hv
  obtain ⟨rfl, hsz, hC, hP, hK, hD0⟩ := hv
  have hx := B.exec
  have hb := B.bytes
  have hr := B.returns
  have hB : ∀ w ∈ tbB, w.before _ s = true := fun w h => (atoms_spec (ws := wM_level) B.pre) w (List.mem_cons_of_mem _ h)
  have hown : s.vm.findClass "TextureBankModel" = some m.cls := findClass_of_methodNamed B.named
  have hlocks := B.notSynchronized
  subst hsz
  have hD := hD0.self (sz := s.heap.size)
  generalize hAe : va_A [(m0, .inr (2, [.int th, .int mn, .ref a1, .ref a2, .ref a3, .ref a4, .int zz, .ref a5, .ref a6, .int si])), (a1, .inl (cI, 8, .inl f1)), (a2, .inl (cI, 8, .inl f2)), (a3, .inl (cI, 8, .inl f3)), (a4, .inl (cI, 8192, .inl f4)), (a5, .inl (cI, 1024, .inl f5)), (a6, .inl (cI, 1024, .inl f6))] s.heap.size = A at hD ⊢
  have hA : ∀ q : Nat, s.heap.size ≤ q → A q := fun q h => by rw [← hAe]; exact Or.inr h
  have hS : va_S A s.heap s.heap [] := va_S.rf
  have hl := lv_entry ([.ref m0, .int t9, .long sp, .int ar]) (n := 10) (Nat.le_of_ble_eq_true rfl)
  rw [lg_entry_eq]
  generalize (lg_sl ([.ref m0, .int t9, .long sp, .int ar]) ++ List.replicate (10 - (lg_sl ([.ref m0, .int t9, .long sp, .int ar])).length) Slot.unset).toArray = ls at hl ⊢
  have hl : lv_has ls 10 [(0, .ref m0), (1, .int t9), (2, .long sp), (4, .int ar)] := hl
  refine lv_aload_n hx hb dM_level_0 rfl (lv_at hl 0 rfl) ?_
  refine lv_aload_n hx hb dM_level_1 rfl (lv_at hl 0 rfl) ?_
  refine lv_iload_n hx hb dM_level_2 rfl (lv_at hl 1 rfl) ?_
  refine W.callV (W.runV (C := "TextureBankModel") (As := [.int t9]) (rest := [.ref m0]) ⟨hx, hb, hml, hown, hB⟩ (kM_isThere l D cI m0 a1 a2 a3 a4 a5 a6 th mn zz si f1 f2 f3 f4 f5 f6 t9) ⟨callB_of 1 hB gwM_isThere rfl rfl rfl (hB _ wd_3) (hB _ wd_377) ydM_isThere ⟨Nat.le_of_ble_eq_true rfl, Nat.le_of_ble_eq_true rfl⟩, hB _ wd_379, hB _ ws_12⟩ (rd_V hC hP hK (va_recv hK hP (ci := 2) (q0 := 0) rfl rfl)) rfl rfl hl.1 rfl (lv_room (Nat.le_of_ble_eq_true rfl)) dM_level_3 ⟨Nat.zero_le _, Nat.zero_le _⟩) ?_
  refine W.eq (g2 := F0 m 6 ls [.int (tt_has mn t9), .ref m0]) rfl ?_
  refine lv_if_ne (tgt := 13) hx hb dM_level_6 (by decide) (fun c_1 => ?_) (fun c_1 => ?_)
  · refine lv_lload_n hx hb dM_level_13 rfl (lv_at hl 2 rfl) ?_
    refine lv_lconst (v := 0) hx hb dM_level_14 (by decide) ?_
    refine W.lcmp hx hb dM_level_15 ?_
    refine lv_if_lt (tgt := 40) hx hb dM_level_16 (by decide) (fun c_2 => ?_) (fun c_2 => ?_)
    · refine lv_iconst (v := 2) hx hb dM_level_40 (by decide) ?_
      refine lv_goto (tgt := 45) hx hb dM_level_41 (by decide) ?_
      refine va_put (D := D) (ci := 2) (v := .int 2) (ty := .int) (C := RM) (T := FM) (N := 10) hx hb hB inM tyM tyM_ok nmM hown hK hP hD hS 0 rfl rfl 0 (by decide) (hB _ wd_322) (fun _ h9 => h9) rfl (by decide +kernel) rfl rfl (Nat.le_of_ble_eq_true rfl) dM_level_45 (fun H locs hP hD hS => ?_)
      have hP : va_P D tbCl [(m0, .inr (2, [.int 2, .int mn, .ref a1, .ref a2, .ref a3, .ref a4, .int zz, .ref a5, .ref a6, .int si])), (a1, .inl (cI, 8, .inl f1)), (a2, .inl (cI, 8, .inl f2)), (a3, .inl (cI, 8, .inl f3)), (a4, .inl (cI, 8192, .inl f4)), (a5, .inl (cI, 1024, .inl f5)), (a6, .inl (cI, 1024, .inl f6))] H := hP
      have hD : va_D A [(m0, .inr (2, [.int 2, .int mn, .ref a1, .ref a2, .ref a3, .ref a4, .int zz, .ref a5, .ref a6, .int si])), (a1, .inl (cI, 8, .inl f1)), (a2, .inl (cI, 8, .inl f2)), (a3, .inl (cI, 8, .inl f3)), (a4, .inl (cI, 8192, .inl f4)), (a5, .inl (cI, 1024, .inl f5)), (a6, .inl (cI, 1024, .inl f6))] := hD
      refine lv_aload_n hx hb dM_level_48 rfl (lv_at hl 0 rfl) ?_
      refine va_get (D := D) (ci := 2) (v := .int 2) (C := RM) (T := FM) (N := 10) hx hb hB inM hown hK hP 0 rfl rfl 0 (by decide) (hB _ wd_322) (fun _ h9 => h9) rfl dM_level_49 ?_
      refine lv_if_eq (tgt := 57) hx hb dM_level_52 (by decide) (fun c_3 => absurd c_3 (by decide)) (fun c_3 => ?_)
      refine lv_iconst (v := 0) hx hb dM_level_55 (by decide) ?_
      exact W.iret hx hb hr (fun t ht hW => ⟨⟨_, (), rfl, rfl, (by have h9 : va_P D tbCl [(m0, .inr (2, [.int 2, .int mn, .ref a1, .ref a2, .ref a3, .ref a4, .int zz, .ref a5, .ref a6, .int si])), (a1, .inl (cI, 8, .inl f1)), (a2, .inl (cI, 8, .inl f2)), (a3, .inl (cI, 8, .inl f3)), (a4, .inl (cI, 8192, .inl f4)), (a5, .inl (cI, 1024, .inl f5)), (a6, .inl (cI, 1024, .inl f6))] H := hP; rw [← ht] at h9; exact h9)⟩, hS.F ht⟩) hS.2.2 dM_level_56
    · refine lv_lload_n hx hb dM_level_19 rfl (lv_at hl 2 rfl) ?_
      refine lv_ldc2 (v := 1099511627776) hx hb hown (hB _ wd_381) dM_level_20 ?_
      refine W.lcmp hx hb dM_level_23 ?_
      refine lv_if_gt (tgt := 40) hx hb dM_level_24 (by decide) (fun c_4 => ?_) (fun c_4 => ?_)
      · refine lv_iconst (v := 2) hx hb dM_level_40 (by decide) ?_
        refine lv_goto (tgt := 45) hx hb dM_level_41 (by decide) ?_
        refine va_put (D := D) (ci := 2) (v := .int 2) (ty := .int) (C := RM) (T := FM) (N := 10) hx hb hB inM tyM tyM_ok nmM hown hK hP hD hS 0 rfl rfl 0 (by decide) (hB _ wd_322) (fun _ h9 => h9) rfl (by decide +kernel) rfl rfl (Nat.le_of_ble_eq_true rfl) dM_level_45 (fun H locs hP hD hS => ?_)
        have hP : va_P D tbCl [(m0, .inr (2, [.int 2, .int mn, .ref a1, .ref a2, .ref a3, .ref a4, .int zz, .ref a5, .ref a6, .int si])), (a1, .inl (cI, 8, .inl f1)), (a2, .inl (cI, 8, .inl f2)), (a3, .inl (cI, 8, .inl f3)), (a4, .inl (cI, 8192, .inl f4)), (a5, .inl (cI, 1024, .inl f5)), (a6, .inl (cI, 1024, .inl f6))] H := hP
        have hD : va_D A [(m0, .inr (2, [.int 2, .int mn, .ref a1, .ref a2, .ref a3, .ref a4, .int zz, .ref a5, .ref a6, .int si])), (a1, .inl (cI, 8, .inl f1)), (a2, .inl (cI, 8, .inl f2)), (a3, .inl (cI, 8, .inl f3)), (a4, .inl (cI, 8192, .inl f4)), (a5, .inl (cI, 1024, .inl f5)), (a6, .inl (cI, 1024, .inl f6))] := hD
        refine lv_aload_n hx hb dM_level_48 rfl (lv_at hl 0 rfl) ?_
        refine va_get (D := D) (ci := 2) (v := .int 2) (C := RM) (T := FM) (N := 10) hx hb hB inM hown hK hP 0 rfl rfl 0 (by decide) (hB _ wd_322) (fun _ h9 => h9) rfl dM_level_49 ?_
        refine lv_if_eq (tgt := 57) hx hb dM_level_52 (by decide) (fun c_5 => absurd c_5 (by decide)) (fun c_5 => ?_)
        refine lv_iconst (v := 0) hx hb dM_level_55 (by decide) ?_
        exact W.iret hx hb hr (fun t ht hW => ⟨⟨_, (), rfl, rfl, (by have h9 : va_P D tbCl [(m0, .inr (2, [.int 2, .int mn, .ref a1, .ref a2, .ref a3, .ref a4, .int zz, .ref a5, .ref a6, .int si])), (a1, .inl (cI, 8, .inl f1)), (a2, .inl (cI, 8, .inl f2)), (a3, .inl (cI, 8, .inl f3)), (a4, .inl (cI, 8192, .inl f4)), (a5, .inl (cI, 1024, .inl f5)), (a6, .inl (cI, 1024, .inl f6))] H := hP; rw [← ht] at h9; exact h9)⟩, hS.F ht⟩) hS.2.2 dM_level_56
      · refine lv_iload hx hb dM_level_27 (lv_at hl 3 rfl) ?_
        refine lv_iconst (v := 1) hx hb dM_level_29 (by decide) ?_
        refine lv_icmp_lt (tgt := 40) hx hb dM_level_30 (by decide) (fun c_6 => ?_) (fun c_6 => ?_)
        · refine lv_iconst (v := 2) hx hb dM_level_40 (by decide) ?_
          refine lv_goto (tgt := 45) hx hb dM_level_41 (by decide) ?_
          refine va_put (D := D) (ci := 2) (v := .int 2) (ty := .int) (C := RM) (T := FM) (N := 10) hx hb hB inM tyM tyM_ok nmM hown hK hP hD hS 0 rfl rfl 0 (by decide) (hB _ wd_322) (fun _ h9 => h9) rfl (by decide +kernel) rfl rfl (Nat.le_of_ble_eq_true rfl) dM_level_45 (fun H locs hP hD hS => ?_)
          have hP : va_P D tbCl [(m0, .inr (2, [.int 2, .int mn, .ref a1, .ref a2, .ref a3, .ref a4, .int zz, .ref a5, .ref a6, .int si])), (a1, .inl (cI, 8, .inl f1)), (a2, .inl (cI, 8, .inl f2)), (a3, .inl (cI, 8, .inl f3)), (a4, .inl (cI, 8192, .inl f4)), (a5, .inl (cI, 1024, .inl f5)), (a6, .inl (cI, 1024, .inl f6))] H := hP
          have hD : va_D A [(m0, .inr (2, [.int 2, .int mn, .ref a1, .ref a2, .ref a3, .ref a4, .int zz, .ref a5, .ref a6, .int si])), (a1, .inl (cI, 8, .inl f1)), (a2, .inl (cI, 8, .inl f2)), (a3, .inl (cI, 8, .inl f3)), (a4, .inl (cI, 8192, .inl f4)), (a5, .inl (cI, 1024, .inl f5)), (a6, .inl (cI, 1024, .inl f6))] := hD
          refine lv_aload_n hx hb dM_level_48 rfl (lv_at hl 0 rfl) ?_
          refine va_get (D := D) (ci := 2) (v := .int 2) (C := RM) (T := FM) (N := 10) hx hb hB inM hown hK hP 0 rfl rfl 0 (by decide) (hB _ wd_322) (fun _ h9 => h9) rfl dM_level_49 ?_
          refine lv_if_eq (tgt := 57) hx hb dM_level_52 (by decide) (fun c_7 => absurd c_7 (by decide)) (fun c_7 => ?_)
          refine lv_iconst (v := 0) hx hb dM_level_55 (by decide) ?_
          exact W.iret hx hb hr (fun t ht hW => ⟨⟨_, (), rfl, rfl, (by have h9 : va_P D tbCl [(m0, .inr (2, [.int 2, .int mn, .ref a1, .ref a2, .ref a3, .ref a4, .int zz, .ref a5, .ref a6, .int si])), (a1, .inl (cI, 8, .inl f1)), (a2, .inl (cI, 8, .inl f2)), (a3, .inl (cI, 8, .inl f3)), (a4, .inl (cI, 8192, .inl f4)), (a5, .inl (cI, 1024, .inl f5)), (a6, .inl (cI, 1024, .inl f6))] H := hP; rw [← ht] at h9; exact h9)⟩, hS.F ht⟩) hS.2.2 dM_level_56
        · refine lv_iload hx hb dM_level_33 (lv_at hl 3 rfl) ?_
          refine lv_ldc (v := 16777216) hx hb hown (hB _ wd_382) dM_level_35 ?_
          refine lv_icmp_le (tgt := 44) hx hb dM_level_37 (by decide) (fun c_8 => ?_) (fun c_8 => ?_)
          · exact absurd c_8 (hbad.elim (fun h => absurd h (fun h9 => c_2 ((lg_cmp_lt _ _).mpr h9))) (fun h => h.elim (fun h => absurd (Int64.not_lt.mp (fun h9 => c_4 ((lg_cmp_gt _ _).mpr h9))) h) (fun h => h.elim (fun h => absurd h c_6) id)))
          · refine lv_iconst (v := 2) hx hb dM_level_40 (by decide) ?_
            refine lv_goto (tgt := 45) hx hb dM_level_41 (by decide) ?_
            refine va_put (D := D) (ci := 2) (v := .int 2) (ty := .int) (C := RM) (T := FM) (N := 10) hx hb hB inM tyM tyM_ok nmM hown hK hP hD hS 0 rfl rfl 0 (by decide) (hB _ wd_322) (fun _ h9 => h9) rfl (by decide +kernel) rfl rfl (Nat.le_of_ble_eq_true rfl) dM_level_45 (fun H locs hP hD hS => ?_)
            have hP : va_P D tbCl [(m0, .inr (2, [.int 2, .int mn, .ref a1, .ref a2, .ref a3, .ref a4, .int zz, .ref a5, .ref a6, .int si])), (a1, .inl (cI, 8, .inl f1)), (a2, .inl (cI, 8, .inl f2)), (a3, .inl (cI, 8, .inl f3)), (a4, .inl (cI, 8192, .inl f4)), (a5, .inl (cI, 1024, .inl f5)), (a6, .inl (cI, 1024, .inl f6))] H := hP
            have hD : va_D A [(m0, .inr (2, [.int 2, .int mn, .ref a1, .ref a2, .ref a3, .ref a4, .int zz, .ref a5, .ref a6, .int si])), (a1, .inl (cI, 8, .inl f1)), (a2, .inl (cI, 8, .inl f2)), (a3, .inl (cI, 8, .inl f3)), (a4, .inl (cI, 8192, .inl f4)), (a5, .inl (cI, 1024, .inl f5)), (a6, .inl (cI, 1024, .inl f6))] := hD
            refine lv_aload_n hx hb dM_level_48 rfl (lv_at hl 0 rfl) ?_
            refine va_get (D := D) (ci := 2) (v := .int 2) (C := RM) (T := FM) (N := 10) hx hb hB inM hown hK hP 0 rfl rfl 0 (by decide) (hB _ wd_322) (fun _ h9 => h9) rfl dM_level_49 ?_
            refine lv_if_eq (tgt := 57) hx hb dM_level_52 (by decide) (fun c_9 => absurd c_9 (by decide)) (fun c_9 => ?_)
            refine lv_iconst (v := 0) hx hb dM_level_55 (by decide) ?_
            exact W.iret hx hb hr (fun t ht hW => ⟨⟨_, (), rfl, rfl, (by have h9 : va_P D tbCl [(m0, .inr (2, [.int 2, .int mn, .ref a1, .ref a2, .ref a3, .ref a4, .int zz, .ref a5, .ref a6, .int si])), (a1, .inl (cI, 8, .inl f1)), (a2, .inl (cI, 8, .inl f2)), (a3, .inl (cI, 8, .inl f3)), (a4, .inl (cI, 8192, .inl f4)), (a5, .inl (cI, 1024, .inl f5)), (a6, .inl (cI, 1024, .inl f6))] H := hP; rw [← ht] at h9; exact h9)⟩, hS.F ht⟩) hS.2.2 dM_level_56
  · exact absurd c_1 hth

set_option maxHeartbeats 4000000 in
set_option maxRecDepth 100000 in
theorem kM_level_ok (l : Launch) (D : va_G) (sz : Nat) (cI : ClassId) (m0 a1 a2 a3 a4 a5 a6 : Nat) (th mn zz si : Int32) (f1 f2 f3 f4 f5 f6 : Nat → Int32) (j k : Nat) (hj : j < 8) (hk : k ≤ 5) (hf : f1 j = nI (2 ^ k)) (hth : ¬ tt_has mn (nI j) = 0) (sp : Int64) (ar : Int32) (h1 : ¬ sp < 0) (h2 : sp ≤ 1099511627776) (h3 : ¬ ar < 1) (h4 : ar ≤ 16777216) : Met l yM_level wM_level (k2_rm 1 23) (wr_P [.ref m0, .int (nI j), .long sp, .int ar] sz D [(cI, .int)] [(m0, .inr (2, [.int th, .int mn, .ref a1, .ref a2, .ref a3, .ref a4, .int zz, .ref a5, .ref a6, .int si])), (a1, .inl (cI, 8, .inl f1)), (a2, .inl (cI, 8, .inl f2)), (a3, .inl (cI, 8, .inl f3)), (a4, .inl (cI, 8192, .inl f4)), (a5, .inl (cI, 1024, .inl f5)), (a6, .inl (cI, 1024, .inl f6))]) (wr_Qi (tt_lf ((sp * (f1 j).toInt64) * (f1 j).toInt64) (nI k) 8 (ar.toInt64 * 16777216) 0) D (va_A [(m0, .inr (2, [.int th, .int mn, .ref a1, .ref a2, .ref a3, .ref a4, .int zz, .ref a5, .ref a6, .int si])), (a1, .inl (cI, 8, .inl f1)), (a2, .inl (cI, 8, .inl f2)), (a3, .inl (cI, 8, .inl f3)), (a4, .inl (cI, 8192, .inl f4)), (a5, .inl (cI, 1024, .inl f5)), (a6, .inl (cI, 1024, .inl f6))] sz) [(m0, .inr (2, [.int 0, .int mn, .ref a1, .ref a2, .ref a3, .ref a4, .int zz, .ref a5, .ref a6, .int si])), (a1, .inl (cI, 8, .inl f1)), (a2, .inl (cI, 8, .inl f2)), (a3, .inl (cI, 8, .inl f3)), (a4, .inl (cI, 8192, .inl f4)), (a5, .inl (cI, 1024, .inl f5)), (a6, .inl (cI, 1024, .inl f6))]) 0 0 (va_A [(m0, .inr (2, [.int th, .int mn, .ref a1, .ref a2, .ref a3, .ref a4, .int zz, .ref a5, .ref a6, .int si])), (a1, .inl (cI, 8, .inl f1)), (a2, .inl (cI, 8, .inl f2)), (a3, .inl (cI, 8, .inl f3)), (a4, .inl (cI, 8192, .inl f4)), (a5, .inl (cI, 1024, .inl f5)), (a6, .inl (cI, 1024, .inl f6))] sz) := by
  refine Met.ofW (cc := cM_level) (maxL := 10) (ret := (some .int)) (by decide) rfl ?_
  intro p e s m args below meth c s₁ B hml hv
  obtain ⟨rfl, hsz, hC, hP, hK, hD0⟩ := hv
  have hx := B.exec
  have hb := B.bytes
  have hr := B.returns
  have hB : ∀ w ∈ tbB, w.before _ s = true := fun w h => (atoms_spec (ws := wM_level) B.pre) w (List.mem_cons_of_mem _ h)
  have hown : s.vm.findClass "TextureBankModel" = some m.cls := findClass_of_methodNamed B.named
  have hlocks := B.notSynchronized
  subst hsz
  have hD := hD0.self (sz := s.heap.size)
  generalize hAe : va_A [(m0, .inr (2, [.int th, .int mn, .ref a1, .ref a2, .ref a3, .ref a4, .int zz, .ref a5, .ref a6, .int si])), (a1, .inl (cI, 8, .inl f1)), (a2, .inl (cI, 8, .inl f2)), (a3, .inl (cI, 8, .inl f3)), (a4, .inl (cI, 8192, .inl f4)), (a5, .inl (cI, 1024, .inl f5)), (a6, .inl (cI, 1024, .inl f6))] s.heap.size = A at hD ⊢
  have hA : ∀ q : Nat, s.heap.size ≤ q → A q := fun q h => by rw [← hAe]; exact Or.inr h
  have hS : va_S A s.heap s.heap [] := va_S.rf
  have hl := lv_entry ([.ref m0, .int (nI j), .long sp, .int ar]) (n := 10) (Nat.le_of_ble_eq_true rfl)
  rw [lg_entry_eq]
  generalize (lg_sl ([.ref m0, .int (nI j), .long sp, .int ar]) ++ List.replicate (10 - (lg_sl ([.ref m0, .int (nI j), .long sp, .int ar])).length) Slot.unset).toArray = ls at hl ⊢
  have hl : lv_has ls 10 [(0, .ref m0), (1, .int (nI j)), (2, .long sp), (4, .int ar)] := hl
  have loop : ∀ tx : Int64, tx = (sp * (f1 j).toInt64) * (f1 j).toInt64 → ∀ (H : Heap) (locs : List Loc), va_P D tbCl [(m0, .inr (2, [.int 0, .int mn, .ref a1, .ref a2, .ref a3, .ref a4, .int zz, .ref a5, .ref a6, .int si])), (a1, .inl (cI, 8, .inl f1)), (a2, .inl (cI, 8, .inl f2)), (a3, .inl (cI, 8, .inl f3)), (a4, .inl (cI, 8192, .inl f4)), (a5, .inl (cI, 1024, .inl f5)), (a6, .inl (cI, 1024, .inl f6))] H → va_S A s.heap H locs → ∀ (n i : Nat) (rm : Int64), i ≤ k → k + 1 ≤ i + n → tt_lf tx (nI k) n rm (nI i) = tt_lf ((sp * (f1 j).toInt64) * (f1 j).toInt64) (nI k) 8 (ar.toInt64 * 16777216) 0 → ∀ ls : Array Slot, lv_has ls 10 [(9, .int (nI i)), (7, .long rm), (5, .long tx), (0, .ref m0), (1, .int (nI j)), (2, .long sp), (4, .int ar)] → W p l e (headSpec wM_level (k2_rm 1 23)).room s m (#[.ref m0, .int (nI j), .long sp, .int ar] : Array Value) below meth c H locs 0 0 (MQ below (wr_Qi (tt_lf ((sp * (f1 j).toInt64) * (f1 j).toInt64) (nI k) 8 (ar.toInt64 * 16777216) 0) D A [(m0, .inr (2, [.int 0, .int mn, .ref a1, .ref a2, .ref a3, .ref a4, .int zz, .ref a5, .ref a6, .int si])), (a1, .inl (cI, 8, .inl f1)), (a2, .inl (cI, 8, .inl f2)), (a3, .inl (cI, 8, .inl f3)), (a4, .inl (cI, 8192, .inl f4)), (a5, .inl (cI, 1024, .inl f5)), (a6, .inl (cI, 1024, .inl f6))]) (#[.ref m0, .int (nI j), .long sp, .int ar] : Array Value) s 0 0 A) (F0 m 88 ls []) := by
    intro tx htx H locs hP hS n
    induction n with
    | zero => intro i rm h1 h2; exact absurd h2 (by omega)
    | succ n ih =>
      intro i rm hi hn he ls hl
      unfold tt_lf at he
      refine lv_iload hx hb dM_level_88 (lv_at hl 0 rfl) ?_
      refine lv_aload_n hx hb dM_level_90 rfl (lv_at hl 3 rfl) ?_
      refine lv_iload_n hx hb dM_level_91 rfl (lv_at hl 4 rfl) ?_
      refine W.callV (W.runV (C := "TextureBankModel") (As := [.int (nI j)]) (rest := [.int (nI i)]) ⟨hx, hb, hml, hown, hB⟩ (kM_last l D cI m0 a1 a2 a3 a4 a5 a6 0 mn zz si f1 f2 f3 f4 f5 f6 j k hj hk hf) ⟨callB_of 1 hB gwM_last rfl rfl rfl (hB _ wd_3) (hB _ wd_384) ydM_last ⟨Nat.le_of_ble_eq_true rfl, Nat.le_of_ble_eq_true rfl⟩, hB _ wd_386, hB _ ws_13⟩ (rd_V hC hP hK (va_recv hK hP (ci := 2) (q0 := 0) rfl rfl)) rfl rfl hl.1 rfl (lv_room (Nat.le_of_ble_eq_true rfl)) dM_level_92 ⟨Nat.zero_le _, Nat.zero_le _⟩) ?_
      refine W.eq (g2 := F0 m 95 ls [.int (nI k), .int (nI i)]) rfl ?_
      refine lv_icmp_ge (tgt := 120) hx hb dM_level_95 (by decide) (fun c_1 => ?_) (fun c_1 => ?_)
      · refine lv_iload hx hb dM_level_120 (lv_at hl 0 rfl) ?_
        have hie : i = k := by
          rcases Nat.lt_or_ge i k with q | q
          · exact absurd c_1 (nI_ge q (by omega))
          · omega
        rw [if_pos c_1] at he
        exact W.iret hx hb hr (fun t ht hW => ⟨⟨_, (), rfl, (by rw [hie]; exact he), (by have h9 : va_P D tbCl [(m0, .inr (2, [.int 0, .int mn, .ref a1, .ref a2, .ref a3, .ref a4, .int zz, .ref a5, .ref a6, .int si])), (a1, .inl (cI, 8, .inl f1)), (a2, .inl (cI, 8, .inl f2)), (a3, .inl (cI, 8, .inl f3)), (a4, .inl (cI, 8192, .inl f4)), (a5, .inl (cI, 1024, .inl f5)), (a6, .inl (cI, 1024, .inl f6))] H := hP; rw [← ht] at h9; exact h9)⟩, hS.F ht⟩) hS.2.2 dM_level_122
      · refine lv_lload hx hb dM_level_98 (lv_at hl 2 rfl) ?_
        refine lv_lload hx hb dM_level_100 (lv_at hl 1 rfl) ?_
        refine W.lcmp hx hb dM_level_102 ?_
        refine lv_if_le (tgt := 120) hx hb dM_level_103 (by decide) (fun c_2 => ?_) (fun c_2 => ?_)
        · refine lv_iload hx hb dM_level_120 (lv_at hl 0 rfl) ?_
          rw [if_neg c_1, if_neg (Int64.not_lt.mpr ((lg_cmp_le _ _).mp c_2))] at he
          exact W.iret hx hb hr (fun t ht hW => ⟨⟨_, (), rfl, he, (by have h9 : va_P D tbCl [(m0, .inr (2, [.int 0, .int mn, .ref a1, .ref a2, .ref a3, .ref a4, .int zz, .ref a5, .ref a6, .int si])), (a1, .inl (cI, 8, .inl f1)), (a2, .inl (cI, 8, .inl f2)), (a3, .inl (cI, 8, .inl f3)), (a4, .inl (cI, 8192, .inl f4)), (a5, .inl (cI, 1024, .inl f5)), (a6, .inl (cI, 1024, .inl f6))] H := hP; rw [← ht] at h9; exact h9)⟩, hS.F ht⟩) hS.2.2 dM_level_122
        · refine lv_lload hx hb dM_level_106 (lv_at hl 1 rfl) ?_
          refine lv_ldc2 (v := 4) hx hb hown (hB _ wd_388) dM_level_108 ?_
          refine lv_lmul hx hb dM_level_111 ?_
          refine lv_lstore (lv' := [(7, .long (rm * 4)), (9, .int (nI i)), (5, .long tx), (0, .ref m0), (1, .int (nI j)), (2, .long sp), (4, .int ar)]) hx hb dM_level_112 hl (by decide) rfl (fun ls hl => ?_)
          obtain ⟨i_3, ei_3⟩ : ∃ z9 : Int32, z9 = (nI i) + 1 := ⟨_, rfl⟩
          refine lv_iinc (v := i_3) (lv' := [(9, .int i_3), (7, .long (rm * 4)), (5, .long tx), (0, .ref m0), (1, .int (nI j)), (2, .long sp), (4, .int ar)]) hx hb dM_level_114 hl (k := 1) rfl (by rw [ei_3]; rfl) (by decide) rfl (fun ls hl => ?_)
          refine lv_goto (tgt := 88) hx hb dM_level_117 (by decide) ?_
          rw [if_neg c_1, if_pos (Int64.not_le.mp (fun h9 => c_2 ((lg_cmp_le _ _).mpr h9)))] at he
          have hik : i < k := by
            rcases Nat.lt_or_ge i k with q | q
            · exact q
            · exact absurd (nI_le q (by omega)) c_1
          exact ih (i + 1) (rm * 4) (by omega) (by omega) (by rw [← nI_1]; exact he) ls (by have hl := lv_sub hl [0, 1, 2, 3, 4, 5, 6] rfl; rw [ei_3, nI_1] at hl; exact hl)
  refine lv_aload_n hx hb dM_level_0 rfl (lv_at hl 0 rfl) ?_
  refine lv_aload_n hx hb dM_level_1 rfl (lv_at hl 0 rfl) ?_
  refine lv_iload_n hx hb dM_level_2 rfl (lv_at hl 1 rfl) ?_
  refine W.callV (W.runV (C := "TextureBankModel") (As := [.int (nI j)]) (rest := [.ref m0]) ⟨hx, hb, hml, hown, hB⟩ (kM_isThere l D cI m0 a1 a2 a3 a4 a5 a6 th mn zz si f1 f2 f3 f4 f5 f6 (nI j)) ⟨callB_of 1 hB gwM_isThere rfl rfl rfl (hB _ wd_3) (hB _ wd_377) ydM_isThere ⟨Nat.le_of_ble_eq_true rfl, Nat.le_of_ble_eq_true rfl⟩, hB _ wd_379, hB _ ws_12⟩ (rd_V hC hP hK (va_recv hK hP (ci := 2) (q0 := 0) rfl rfl)) rfl rfl hl.1 rfl (lv_room (Nat.le_of_ble_eq_true rfl)) dM_level_3 ⟨Nat.zero_le _, Nat.zero_le _⟩) ?_
  refine W.eq (g2 := F0 m 6 ls [.int (tt_has mn (nI j)), .ref m0]) rfl ?_
  refine lv_if_ne (tgt := 13) hx hb dM_level_6 (by decide) (fun c_1 => ?_) (fun c_1 => ?_)
  · refine lv_lload_n hx hb dM_level_13 rfl (lv_at hl 2 rfl) ?_
    refine lv_lconst (v := 0) hx hb dM_level_14 (by decide) ?_
    refine W.lcmp hx hb dM_level_15 ?_
    refine lv_if_lt (tgt := 40) hx hb dM_level_16 (by decide) (fun c_2 => ?_) (fun c_2 => ?_)
    · exact absurd ((lg_cmp_lt _ _).mp c_2) h1
    · refine lv_lload_n hx hb dM_level_19 rfl (lv_at hl 2 rfl) ?_
      refine lv_ldc2 (v := 1099511627776) hx hb hown (hB _ wd_381) dM_level_20 ?_
      refine W.lcmp hx hb dM_level_23 ?_
      refine lv_if_gt (tgt := 40) hx hb dM_level_24 (by decide) (fun c_3 => ?_) (fun c_3 => ?_)
      · exact absurd h2 (Int64.not_le.mpr ((lg_cmp_gt _ _).mp c_3))
      · refine lv_iload hx hb dM_level_27 (lv_at hl 3 rfl) ?_
        refine lv_iconst (v := 1) hx hb dM_level_29 (by decide) ?_
        refine lv_icmp_lt (tgt := 40) hx hb dM_level_30 (by decide) (fun c_4 => ?_) (fun c_4 => ?_)
        · exact absurd c_4 h3
        · refine lv_iload hx hb dM_level_33 (lv_at hl 3 rfl) ?_
          refine lv_ldc (v := 16777216) hx hb hown (hB _ wd_382) dM_level_35 ?_
          refine lv_icmp_le (tgt := 44) hx hb dM_level_37 (by decide) (fun c_5 => ?_) (fun c_5 => ?_)
          · refine lv_iconst (v := 0) hx hb dM_level_44 (by decide) ?_
            refine va_put (D := D) (ci := 2) (v := .int 0) (ty := .int) (C := RM) (T := FM) (N := 10) hx hb hB inM tyM tyM_ok nmM hown hK hP hD hS 0 rfl rfl 0 (by decide) (hB _ wd_322) (fun _ h9 => h9) rfl (by decide +kernel) rfl rfl (Nat.le_of_ble_eq_true rfl) dM_level_45 (fun H locs hP hD hS => ?_)
            have hP : va_P D tbCl [(m0, .inr (2, [.int 0, .int mn, .ref a1, .ref a2, .ref a3, .ref a4, .int zz, .ref a5, .ref a6, .int si])), (a1, .inl (cI, 8, .inl f1)), (a2, .inl (cI, 8, .inl f2)), (a3, .inl (cI, 8, .inl f3)), (a4, .inl (cI, 8192, .inl f4)), (a5, .inl (cI, 1024, .inl f5)), (a6, .inl (cI, 1024, .inl f6))] H := hP
            have hD : va_D A [(m0, .inr (2, [.int 0, .int mn, .ref a1, .ref a2, .ref a3, .ref a4, .int zz, .ref a5, .ref a6, .int si])), (a1, .inl (cI, 8, .inl f1)), (a2, .inl (cI, 8, .inl f2)), (a3, .inl (cI, 8, .inl f3)), (a4, .inl (cI, 8192, .inl f4)), (a5, .inl (cI, 1024, .inl f5)), (a6, .inl (cI, 1024, .inl f6))] := hD
            refine lv_aload_n hx hb dM_level_48 rfl (lv_at hl 0 rfl) ?_
            refine va_get (D := D) (ci := 2) (v := .int 0) (C := RM) (T := FM) (N := 10) hx hb hB inM hown hK hP 0 rfl rfl 0 (by decide) (hB _ wd_322) (fun _ h9 => h9) rfl dM_level_49 ?_
            refine lv_if_eq (tgt := 57) hx hb dM_level_52 (by decide) (fun c_6 => ?_) (fun c_6 => absurd c_6 (by decide))
            refine lv_lload_n hx hb dM_level_57 rfl (lv_at hl 2 rfl) ?_
            refine lv_aload_n hx hb dM_level_58 rfl (lv_at hl 0 rfl) ?_
            refine va_get (D := D) (ci := 2) (v := .ref a1) (C := RM) (T := FM) (N := 10) hx hb hB inM hown hK hP 0 rfl rfl 2 (by decide) (hB _ wd_324) (fun _ h9 => h9) rfl dM_level_59 ?_
            refine lv_iload_n hx hb dM_level_62 rfl (lv_at hl 1 rfl) ?_
            refine va_iald hx hb hK hP 1 0 (f := f1) rfl rfl (i := nI j) (vp_in_nI (hj) (by omega)) dM_level_63 ?_
            refine W.eq (g2 := F0 m 64 ls [.int (f1 j), .long sp]) (by rw [nI_clamp (by have := (hj : j < 8); omega)]) ?_
            refine lv_i2l hx hb dM_level_64 rfl ?_
            refine lv_lmul hx hb dM_level_65 ?_
            refine lv_aload_n hx hb dM_level_66 rfl (lv_at hl 0 rfl) ?_
            refine va_get (D := D) (ci := 2) (v := .ref a1) (C := RM) (T := FM) (N := 10) hx hb hB inM hown hK hP 0 rfl rfl 2 (by decide) (hB _ wd_324) (fun _ h9 => h9) rfl dM_level_67 ?_
            refine lv_iload_n hx hb dM_level_70 rfl (lv_at hl 1 rfl) ?_
            refine va_iald hx hb hK hP 1 0 (f := f1) rfl rfl (i := nI j) (vp_in_nI (hj) (by omega)) dM_level_71 ?_
            refine W.eq (g2 := F0 m 72 ls [.int (f1 j), .long (sp * ((f1 j).toInt64))]) (by rw [nI_clamp (by have := (hj : j < 8); omega)]) ?_
            refine lv_i2l hx hb dM_level_72 rfl ?_
            refine lv_lmul hx hb dM_level_73 ?_
            refine lv_topl (fun tx etx => ?_)
            refine lv_lstore (lv' := [(5, .long tx), (0, .ref m0), (1, .int (nI j)), (2, .long sp), (4, .int ar)]) hx hb dM_level_74 hl (by decide) rfl (fun ls hl => ?_)
            refine lv_iload hx hb dM_level_76 (lv_at hl 4 rfl) ?_
            refine lv_i2l hx hb dM_level_78 rfl ?_
            refine lv_ldc2 (v := 16777216) hx hb hown (hB _ wd_383) dM_level_79 ?_
            refine lv_lmul hx hb dM_level_82 ?_
            refine lv_lstore (lv' := [(7, .long (ar.toInt64 * 16777216)), (5, .long tx), (0, .ref m0), (1, .int (nI j)), (2, .long sp), (4, .int ar)]) hx hb dM_level_83 hl (by decide) rfl (fun ls hl => ?_)
            refine lv_iconst (v := 0) hx hb dM_level_85 (by decide) ?_
            refine lv_istore (lv' := [(9, .int 0), (7, .long (ar.toInt64 * 16777216)), (5, .long tx), (0, .ref m0), (1, .int (nI j)), (2, .long sp), (4, .int ar)]) hx hb dM_level_86 hl (by decide) rfl (fun ls hl => ?_)
            exact loop tx etx H locs hP hS 8 0 _ (Nat.zero_le _) (by omega) (by rw [etx]; rfl) ls (lv_sub hl [0, 1, 2, 3, 4, 5, 6] rfl)
          · exact absurd h4 c_5
  · exact absurd c_1 hth

set_option maxHeartbeats 4000000 in
set_option maxRecDepth 100000 in
theorem kM_lit_bad (l : Launch) (D : va_G) (sz : Nat) (cI : ClassId) (m0 a1 a2 a3 a4 a5 a6 : Nat) (th mn zz si : Int32) (f1 f2 f3 f4 f5 f6 : Nat → Int32) (co ti li : Int32) (hbad : co < 0 ∨ 16777216 ≤ co ∨ ti < 0 ∨ 16777216 ≤ ti ∨ li < 0 ∨ 65536 < li) : Met l yM_lit wM_lit (k2_rm 0 0) (wr_P [.ref m0, .int co, .int ti, .int li] sz D [(cI, .int)] [(m0, .inr (2, [.int th, .int mn, .ref a1, .ref a2, .ref a3, .ref a4, .int zz, .ref a5, .ref a6, .int si])), (a1, .inl (cI, 8, .inl f1)), (a2, .inl (cI, 8, .inl f2)), (a3, .inl (cI, 8, .inl f3)), (a4, .inl (cI, 8192, .inl f4)), (a5, .inl (cI, 1024, .inl f5)), (a6, .inl (cI, 1024, .inl f6))]) (wr_Qi 0 D (va_A [(m0, .inr (2, [.int th, .int mn, .ref a1, .ref a2, .ref a3, .ref a4, .int zz, .ref a5, .ref a6, .int si])), (a1, .inl (cI, 8, .inl f1)), (a2, .inl (cI, 8, .inl f2)), (a3, .inl (cI, 8, .inl f3)), (a4, .inl (cI, 8192, .inl f4)), (a5, .inl (cI, 1024, .inl f5)), (a6, .inl (cI, 1024, .inl f6))] sz) [(m0, .inr (2, [.int 1, .int mn, .ref a1, .ref a2, .ref a3, .ref a4, .int zz, .ref a5, .ref a6, .int si])), (a1, .inl (cI, 8, .inl f1)), (a2, .inl (cI, 8, .inl f2)), (a3, .inl (cI, 8, .inl f3)), (a4, .inl (cI, 8192, .inl f4)), (a5, .inl (cI, 1024, .inl f5)), (a6, .inl (cI, 1024, .inl f6))]) 0 0 (va_A [(m0, .inr (2, [.int th, .int mn, .ref a1, .ref a2, .ref a3, .ref a4, .int zz, .ref a5, .ref a6, .int si])), (a1, .inl (cI, 8, .inl f1)), (a2, .inl (cI, 8, .inl f2)), (a3, .inl (cI, 8, .inl f3)), (a4, .inl (cI, 8192, .inl f4)), (a5, .inl (cI, 1024, .inl f5)), (a6, .inl (cI, 1024, .inl f6))] sz) := by
  refine Met.ofW (cc := cM_lit) (maxL := 9) (ret := (some .int)) (by decide) rfl ?_
  intro p e s m args below meth c s₁ B hml hv
  obtain ⟨rfl, hsz, hC, hP, hK, hD0⟩ := hv
  have hx := B.exec
  have hb := B.bytes
  have hr := B.returns
  have hB : ∀ w ∈ tbB, w.before _ s = true := fun w h => (atoms_spec (ws := wM_lit) B.pre) w (List.mem_cons_of_mem _ h)
  have hown : s.vm.findClass "TextureBankModel" = some m.cls := findClass_of_methodNamed B.named
  have hlocks := B.notSynchronized
  subst hsz
  have hD := hD0.self (sz := s.heap.size)
  generalize hAe : va_A [(m0, .inr (2, [.int th, .int mn, .ref a1, .ref a2, .ref a3, .ref a4, .int zz, .ref a5, .ref a6, .int si])), (a1, .inl (cI, 8, .inl f1)), (a2, .inl (cI, 8, .inl f2)), (a3, .inl (cI, 8, .inl f3)), (a4, .inl (cI, 8192, .inl f4)), (a5, .inl (cI, 1024, .inl f5)), (a6, .inl (cI, 1024, .inl f6))] s.heap.size = A at hD ⊢
  have hA : ∀ q : Nat, s.heap.size ≤ q → A q := fun q h => by rw [← hAe]; exact Or.inr h
  have hS : va_S A s.heap s.heap [] := va_S.rf
  have hl := lv_entry ([.ref m0, .int co, .int ti, .int li]) (n := 9) (Nat.le_of_ble_eq_true rfl)
  rw [lg_entry_eq]
  generalize (lg_sl ([.ref m0, .int co, .int ti, .int li]) ++ List.replicate (9 - (lg_sl ([.ref m0, .int co, .int ti, .int li])).length) Slot.unset).toArray = ls at hl ⊢
  have hl : lv_has ls 9 [(0, .ref m0), (1, .int co), (2, .int ti), (3, .int li)] := hl
  refine lv_iload_n hx hb dM_lit_0 rfl (lv_at hl 1 rfl) ?_
  refine lv_if_lt (tgt := 34) hx hb dM_lit_1 (by decide) (fun c_1 => ?_) (fun c_1 => ?_)
  · refine lv_iconst (v := 0) hx hb dM_lit_34 (by decide) ?_
    refine lv_istore (lv' := [(4, .int 0), (0, .ref m0), (1, .int co), (2, .int ti), (3, .int li)]) hx hb dM_lit_35 hl (by decide) rfl (fun ls hl => ?_)
    refine lv_aload_n hx hb dM_lit_37 rfl (lv_at hl 1 rfl) ?_
    refine lv_iload hx hb dM_lit_38 (lv_at hl 0 rfl) ?_
    refine lv_if_eq (tgt := 47) hx hb dM_lit_40 (by decide) (fun c_2 => ?_) (fun c_2 => absurd c_2 (by decide))
    refine lv_iconst (v := 1) hx hb dM_lit_47 (by decide) ?_
    refine va_put (D := D) (ci := 2) (v := .int 1) (ty := .int) (C := RM) (T := FM) (N := 10) hx hb hB inM tyM tyM_ok nmM hown hK hP hD hS 0 rfl rfl 0 (by decide) (hB _ wd_322) (fun _ h9 => h9) rfl (by decide +kernel) rfl rfl (Nat.le_of_ble_eq_true rfl) dM_lit_48 (fun H locs hP hD hS => ?_)
    have hP : va_P D tbCl [(m0, .inr (2, [.int 1, .int mn, .ref a1, .ref a2, .ref a3, .ref a4, .int zz, .ref a5, .ref a6, .int si])), (a1, .inl (cI, 8, .inl f1)), (a2, .inl (cI, 8, .inl f2)), (a3, .inl (cI, 8, .inl f3)), (a4, .inl (cI, 8192, .inl f4)), (a5, .inl (cI, 1024, .inl f5)), (a6, .inl (cI, 1024, .inl f6))] H := hP
    have hD : va_D A [(m0, .inr (2, [.int 1, .int mn, .ref a1, .ref a2, .ref a3, .ref a4, .int zz, .ref a5, .ref a6, .int si])), (a1, .inl (cI, 8, .inl f1)), (a2, .inl (cI, 8, .inl f2)), (a3, .inl (cI, 8, .inl f3)), (a4, .inl (cI, 8192, .inl f4)), (a5, .inl (cI, 1024, .inl f5)), (a6, .inl (cI, 1024, .inl f6))] := hD
    refine lv_iconst (v := 0) hx hb dM_lit_51 (by decide) ?_
    refine lv_istore (lv' := [(5, .int 0), (4, .int 0), (0, .ref m0), (1, .int co), (2, .int ti), (3, .int li)]) hx hb dM_lit_52 hl (by decide) rfl (fun ls hl => ?_)
    refine lv_iconst (v := 0) hx hb dM_lit_54 (by decide) ?_
    refine lv_istore (lv' := [(6, .int 0), (5, .int 0), (4, .int 0), (0, .ref m0), (1, .int co), (2, .int ti), (3, .int li)]) hx hb dM_lit_55 hl (by decide) rfl (fun ls hl => ?_)
    refine lv_iload hx hb dM_lit_57 (lv_at hl 0 rfl) ?_
    refine lv_iconst (v := 3) hx hb dM_lit_59 (by decide) ?_
    refine lv_icmp_ge (tgt := 113) hx hb dM_lit_60 (by decide) (fun c_3 => absurd c_3 (by decide)) (fun c_3 => ?_)
    refine lv_iload hx hb dM_lit_63 (lv_at hl 2 rfl) ?_
    refine lv_if_eq (tgt := 113) hx hb dM_lit_65 (by decide) (fun c_4 => ?_) (fun c_4 => absurd c_4 (by decide))
    refine lv_iload hx hb dM_lit_113 (lv_at hl 1 rfl) ?_
    exact W.iret hx hb hr (fun t ht hW => ⟨⟨_, (), rfl, rfl, (by have h9 : va_P D tbCl [(m0, .inr (2, [.int 1, .int mn, .ref a1, .ref a2, .ref a3, .ref a4, .int zz, .ref a5, .ref a6, .int si])), (a1, .inl (cI, 8, .inl f1)), (a2, .inl (cI, 8, .inl f2)), (a3, .inl (cI, 8, .inl f3)), (a4, .inl (cI, 8192, .inl f4)), (a5, .inl (cI, 1024, .inl f5)), (a6, .inl (cI, 1024, .inl f6))] H := hP; rw [← ht] at h9; exact h9)⟩, hS.F ht⟩) hS.2.2 dM_lit_115
  · refine lv_iload_n hx hb dM_lit_4 rfl (lv_at hl 1 rfl) ?_
    refine lv_ldc (v := 16777216) hx hb hown (hB _ wd_382) dM_lit_5 ?_
    refine lv_icmp_ge (tgt := 34) hx hb dM_lit_7 (by decide) (fun c_5 => ?_) (fun c_5 => ?_)
    · refine lv_iconst (v := 0) hx hb dM_lit_34 (by decide) ?_
      refine lv_istore (lv' := [(4, .int 0), (0, .ref m0), (1, .int co), (2, .int ti), (3, .int li)]) hx hb dM_lit_35 hl (by decide) rfl (fun ls hl => ?_)
      refine lv_aload_n hx hb dM_lit_37 rfl (lv_at hl 1 rfl) ?_
      refine lv_iload hx hb dM_lit_38 (lv_at hl 0 rfl) ?_
      refine lv_if_eq (tgt := 47) hx hb dM_lit_40 (by decide) (fun c_6 => ?_) (fun c_6 => absurd c_6 (by decide))
      refine lv_iconst (v := 1) hx hb dM_lit_47 (by decide) ?_
      refine va_put (D := D) (ci := 2) (v := .int 1) (ty := .int) (C := RM) (T := FM) (N := 10) hx hb hB inM tyM tyM_ok nmM hown hK hP hD hS 0 rfl rfl 0 (by decide) (hB _ wd_322) (fun _ h9 => h9) rfl (by decide +kernel) rfl rfl (Nat.le_of_ble_eq_true rfl) dM_lit_48 (fun H locs hP hD hS => ?_)
      have hP : va_P D tbCl [(m0, .inr (2, [.int 1, .int mn, .ref a1, .ref a2, .ref a3, .ref a4, .int zz, .ref a5, .ref a6, .int si])), (a1, .inl (cI, 8, .inl f1)), (a2, .inl (cI, 8, .inl f2)), (a3, .inl (cI, 8, .inl f3)), (a4, .inl (cI, 8192, .inl f4)), (a5, .inl (cI, 1024, .inl f5)), (a6, .inl (cI, 1024, .inl f6))] H := hP
      have hD : va_D A [(m0, .inr (2, [.int 1, .int mn, .ref a1, .ref a2, .ref a3, .ref a4, .int zz, .ref a5, .ref a6, .int si])), (a1, .inl (cI, 8, .inl f1)), (a2, .inl (cI, 8, .inl f2)), (a3, .inl (cI, 8, .inl f3)), (a4, .inl (cI, 8192, .inl f4)), (a5, .inl (cI, 1024, .inl f5)), (a6, .inl (cI, 1024, .inl f6))] := hD
      refine lv_iconst (v := 0) hx hb dM_lit_51 (by decide) ?_
      refine lv_istore (lv' := [(5, .int 0), (4, .int 0), (0, .ref m0), (1, .int co), (2, .int ti), (3, .int li)]) hx hb dM_lit_52 hl (by decide) rfl (fun ls hl => ?_)
      refine lv_iconst (v := 0) hx hb dM_lit_54 (by decide) ?_
      refine lv_istore (lv' := [(6, .int 0), (5, .int 0), (4, .int 0), (0, .ref m0), (1, .int co), (2, .int ti), (3, .int li)]) hx hb dM_lit_55 hl (by decide) rfl (fun ls hl => ?_)
      refine lv_iload hx hb dM_lit_57 (lv_at hl 0 rfl) ?_
      refine lv_iconst (v := 3) hx hb dM_lit_59 (by decide) ?_
      refine lv_icmp_ge (tgt := 113) hx hb dM_lit_60 (by decide) (fun c_7 => absurd c_7 (by decide)) (fun c_7 => ?_)
      refine lv_iload hx hb dM_lit_63 (lv_at hl 2 rfl) ?_
      refine lv_if_eq (tgt := 113) hx hb dM_lit_65 (by decide) (fun c_8 => ?_) (fun c_8 => absurd c_8 (by decide))
      refine lv_iload hx hb dM_lit_113 (lv_at hl 1 rfl) ?_
      exact W.iret hx hb hr (fun t ht hW => ⟨⟨_, (), rfl, rfl, (by have h9 : va_P D tbCl [(m0, .inr (2, [.int 1, .int mn, .ref a1, .ref a2, .ref a3, .ref a4, .int zz, .ref a5, .ref a6, .int si])), (a1, .inl (cI, 8, .inl f1)), (a2, .inl (cI, 8, .inl f2)), (a3, .inl (cI, 8, .inl f3)), (a4, .inl (cI, 8192, .inl f4)), (a5, .inl (cI, 1024, .inl f5)), (a6, .inl (cI, 1024, .inl f6))] H := hP; rw [← ht] at h9; exact h9)⟩, hS.F ht⟩) hS.2.2 dM_lit_115
    · refine lv_iload_n hx hb dM_lit_10 rfl (lv_at hl 2 rfl) ?_
      refine lv_if_lt (tgt := 34) hx hb dM_lit_11 (by decide) (fun c_9 => ?_) (fun c_9 => ?_)
      · refine lv_iconst (v := 0) hx hb dM_lit_34 (by decide) ?_
        refine lv_istore (lv' := [(4, .int 0), (0, .ref m0), (1, .int co), (2, .int ti), (3, .int li)]) hx hb dM_lit_35 hl (by decide) rfl (fun ls hl => ?_)
        refine lv_aload_n hx hb dM_lit_37 rfl (lv_at hl 1 rfl) ?_
        refine lv_iload hx hb dM_lit_38 (lv_at hl 0 rfl) ?_
        refine lv_if_eq (tgt := 47) hx hb dM_lit_40 (by decide) (fun c_10 => ?_) (fun c_10 => absurd c_10 (by decide))
        refine lv_iconst (v := 1) hx hb dM_lit_47 (by decide) ?_
        refine va_put (D := D) (ci := 2) (v := .int 1) (ty := .int) (C := RM) (T := FM) (N := 10) hx hb hB inM tyM tyM_ok nmM hown hK hP hD hS 0 rfl rfl 0 (by decide) (hB _ wd_322) (fun _ h9 => h9) rfl (by decide +kernel) rfl rfl (Nat.le_of_ble_eq_true rfl) dM_lit_48 (fun H locs hP hD hS => ?_)
        have hP : va_P D tbCl [(m0, .inr (2, [.int 1, .int mn, .ref a1, .ref a2, .ref a3, .ref a4, .int zz, .ref a5, .ref a6, .int si])), (a1, .inl (cI, 8, .inl f1)), (a2, .inl (cI, 8, .inl f2)), (a3, .inl (cI, 8, .inl f3)), (a4, .inl (cI, 8192, .inl f4)), (a5, .inl (cI, 1024, .inl f5)), (a6, .inl (cI, 1024, .inl f6))] H := hP
        have hD : va_D A [(m0, .inr (2, [.int 1, .int mn, .ref a1, .ref a2, .ref a3, .ref a4, .int zz, .ref a5, .ref a6, .int si])), (a1, .inl (cI, 8, .inl f1)), (a2, .inl (cI, 8, .inl f2)), (a3, .inl (cI, 8, .inl f3)), (a4, .inl (cI, 8192, .inl f4)), (a5, .inl (cI, 1024, .inl f5)), (a6, .inl (cI, 1024, .inl f6))] := hD
        refine lv_iconst (v := 0) hx hb dM_lit_51 (by decide) ?_
        refine lv_istore (lv' := [(5, .int 0), (4, .int 0), (0, .ref m0), (1, .int co), (2, .int ti), (3, .int li)]) hx hb dM_lit_52 hl (by decide) rfl (fun ls hl => ?_)
        refine lv_iconst (v := 0) hx hb dM_lit_54 (by decide) ?_
        refine lv_istore (lv' := [(6, .int 0), (5, .int 0), (4, .int 0), (0, .ref m0), (1, .int co), (2, .int ti), (3, .int li)]) hx hb dM_lit_55 hl (by decide) rfl (fun ls hl => ?_)
        refine lv_iload hx hb dM_lit_57 (lv_at hl 0 rfl) ?_
        refine lv_iconst (v := 3) hx hb dM_lit_59 (by decide) ?_
        refine lv_icmp_ge (tgt := 113) hx hb dM_lit_60 (by decide) (fun c_11 => absurd c_11 (by decide)) (fun c_11 => ?_)
        refine lv_iload hx hb dM_lit_63 (lv_at hl 2 rfl) ?_
        refine lv_if_eq (tgt := 113) hx hb dM_lit_65 (by decide) (fun c_12 => ?_) (fun c_12 => absurd c_12 (by decide))
        refine lv_iload hx hb dM_lit_113 (lv_at hl 1 rfl) ?_
        exact W.iret hx hb hr (fun t ht hW => ⟨⟨_, (), rfl, rfl, (by have h9 : va_P D tbCl [(m0, .inr (2, [.int 1, .int mn, .ref a1, .ref a2, .ref a3, .ref a4, .int zz, .ref a5, .ref a6, .int si])), (a1, .inl (cI, 8, .inl f1)), (a2, .inl (cI, 8, .inl f2)), (a3, .inl (cI, 8, .inl f3)), (a4, .inl (cI, 8192, .inl f4)), (a5, .inl (cI, 1024, .inl f5)), (a6, .inl (cI, 1024, .inl f6))] H := hP; rw [← ht] at h9; exact h9)⟩, hS.F ht⟩) hS.2.2 dM_lit_115
      · refine lv_iload_n hx hb dM_lit_14 rfl (lv_at hl 2 rfl) ?_
        refine lv_ldc (v := 16777216) hx hb hown (hB _ wd_382) dM_lit_15 ?_
        refine lv_icmp_ge (tgt := 34) hx hb dM_lit_17 (by decide) (fun c_13 => ?_) (fun c_13 => ?_)
        · refine lv_iconst (v := 0) hx hb dM_lit_34 (by decide) ?_
          refine lv_istore (lv' := [(4, .int 0), (0, .ref m0), (1, .int co), (2, .int ti), (3, .int li)]) hx hb dM_lit_35 hl (by decide) rfl (fun ls hl => ?_)
          refine lv_aload_n hx hb dM_lit_37 rfl (lv_at hl 1 rfl) ?_
          refine lv_iload hx hb dM_lit_38 (lv_at hl 0 rfl) ?_
          refine lv_if_eq (tgt := 47) hx hb dM_lit_40 (by decide) (fun c_14 => ?_) (fun c_14 => absurd c_14 (by decide))
          refine lv_iconst (v := 1) hx hb dM_lit_47 (by decide) ?_
          refine va_put (D := D) (ci := 2) (v := .int 1) (ty := .int) (C := RM) (T := FM) (N := 10) hx hb hB inM tyM tyM_ok nmM hown hK hP hD hS 0 rfl rfl 0 (by decide) (hB _ wd_322) (fun _ h9 => h9) rfl (by decide +kernel) rfl rfl (Nat.le_of_ble_eq_true rfl) dM_lit_48 (fun H locs hP hD hS => ?_)
          have hP : va_P D tbCl [(m0, .inr (2, [.int 1, .int mn, .ref a1, .ref a2, .ref a3, .ref a4, .int zz, .ref a5, .ref a6, .int si])), (a1, .inl (cI, 8, .inl f1)), (a2, .inl (cI, 8, .inl f2)), (a3, .inl (cI, 8, .inl f3)), (a4, .inl (cI, 8192, .inl f4)), (a5, .inl (cI, 1024, .inl f5)), (a6, .inl (cI, 1024, .inl f6))] H := hP
          have hD : va_D A [(m0, .inr (2, [.int 1, .int mn, .ref a1, .ref a2, .ref a3, .ref a4, .int zz, .ref a5, .ref a6, .int si])), (a1, .inl (cI, 8, .inl f1)), (a2, .inl (cI, 8, .inl f2)), (a3, .inl (cI, 8, .inl f3)), (a4, .inl (cI, 8192, .inl f4)), (a5, .inl (cI, 1024, .inl f5)), (a6, .inl (cI, 1024, .inl f6))] := hD
          refine lv_iconst (v := 0) hx hb dM_lit_51 (by decide) ?_
          refine lv_istore (lv' := [(5, .int 0), (4, .int 0), (0, .ref m0), (1, .int co), (2, .int ti), (3, .int li)]) hx hb dM_lit_52 hl (by decide) rfl (fun ls hl => ?_)
          refine lv_iconst (v := 0) hx hb dM_lit_54 (by decide) ?_
          refine lv_istore (lv' := [(6, .int 0), (5, .int 0), (4, .int 0), (0, .ref m0), (1, .int co), (2, .int ti), (3, .int li)]) hx hb dM_lit_55 hl (by decide) rfl (fun ls hl => ?_)
          refine lv_iload hx hb dM_lit_57 (lv_at hl 0 rfl) ?_
          refine lv_iconst (v := 3) hx hb dM_lit_59 (by decide) ?_
          refine lv_icmp_ge (tgt := 113) hx hb dM_lit_60 (by decide) (fun c_15 => absurd c_15 (by decide)) (fun c_15 => ?_)
          refine lv_iload hx hb dM_lit_63 (lv_at hl 2 rfl) ?_
          refine lv_if_eq (tgt := 113) hx hb dM_lit_65 (by decide) (fun c_16 => ?_) (fun c_16 => absurd c_16 (by decide))
          refine lv_iload hx hb dM_lit_113 (lv_at hl 1 rfl) ?_
          exact W.iret hx hb hr (fun t ht hW => ⟨⟨_, (), rfl, rfl, (by have h9 : va_P D tbCl [(m0, .inr (2, [.int 1, .int mn, .ref a1, .ref a2, .ref a3, .ref a4, .int zz, .ref a5, .ref a6, .int si])), (a1, .inl (cI, 8, .inl f1)), (a2, .inl (cI, 8, .inl f2)), (a3, .inl (cI, 8, .inl f3)), (a4, .inl (cI, 8192, .inl f4)), (a5, .inl (cI, 1024, .inl f5)), (a6, .inl (cI, 1024, .inl f6))] H := hP; rw [← ht] at h9; exact h9)⟩, hS.F ht⟩) hS.2.2 dM_lit_115
        · refine lv_iload_n hx hb dM_lit_20 rfl (lv_at hl 3 rfl) ?_
          refine lv_if_lt (tgt := 34) hx hb dM_lit_21 (by decide) (fun c_17 => ?_) (fun c_17 => ?_)
          · refine lv_iconst (v := 0) hx hb dM_lit_34 (by decide) ?_
            refine lv_istore (lv' := [(4, .int 0), (0, .ref m0), (1, .int co), (2, .int ti), (3, .int li)]) hx hb dM_lit_35 hl (by decide) rfl (fun ls hl => ?_)
            refine lv_aload_n hx hb dM_lit_37 rfl (lv_at hl 1 rfl) ?_
            refine lv_iload hx hb dM_lit_38 (lv_at hl 0 rfl) ?_
            refine lv_if_eq (tgt := 47) hx hb dM_lit_40 (by decide) (fun c_18 => ?_) (fun c_18 => absurd c_18 (by decide))
            refine lv_iconst (v := 1) hx hb dM_lit_47 (by decide) ?_
            refine va_put (D := D) (ci := 2) (v := .int 1) (ty := .int) (C := RM) (T := FM) (N := 10) hx hb hB inM tyM tyM_ok nmM hown hK hP hD hS 0 rfl rfl 0 (by decide) (hB _ wd_322) (fun _ h9 => h9) rfl (by decide +kernel) rfl rfl (Nat.le_of_ble_eq_true rfl) dM_lit_48 (fun H locs hP hD hS => ?_)
            have hP : va_P D tbCl [(m0, .inr (2, [.int 1, .int mn, .ref a1, .ref a2, .ref a3, .ref a4, .int zz, .ref a5, .ref a6, .int si])), (a1, .inl (cI, 8, .inl f1)), (a2, .inl (cI, 8, .inl f2)), (a3, .inl (cI, 8, .inl f3)), (a4, .inl (cI, 8192, .inl f4)), (a5, .inl (cI, 1024, .inl f5)), (a6, .inl (cI, 1024, .inl f6))] H := hP
            have hD : va_D A [(m0, .inr (2, [.int 1, .int mn, .ref a1, .ref a2, .ref a3, .ref a4, .int zz, .ref a5, .ref a6, .int si])), (a1, .inl (cI, 8, .inl f1)), (a2, .inl (cI, 8, .inl f2)), (a3, .inl (cI, 8, .inl f3)), (a4, .inl (cI, 8192, .inl f4)), (a5, .inl (cI, 1024, .inl f5)), (a6, .inl (cI, 1024, .inl f6))] := hD
            refine lv_iconst (v := 0) hx hb dM_lit_51 (by decide) ?_
            refine lv_istore (lv' := [(5, .int 0), (4, .int 0), (0, .ref m0), (1, .int co), (2, .int ti), (3, .int li)]) hx hb dM_lit_52 hl (by decide) rfl (fun ls hl => ?_)
            refine lv_iconst (v := 0) hx hb dM_lit_54 (by decide) ?_
            refine lv_istore (lv' := [(6, .int 0), (5, .int 0), (4, .int 0), (0, .ref m0), (1, .int co), (2, .int ti), (3, .int li)]) hx hb dM_lit_55 hl (by decide) rfl (fun ls hl => ?_)
            refine lv_iload hx hb dM_lit_57 (lv_at hl 0 rfl) ?_
            refine lv_iconst (v := 3) hx hb dM_lit_59 (by decide) ?_
            refine lv_icmp_ge (tgt := 113) hx hb dM_lit_60 (by decide) (fun c_19 => absurd c_19 (by decide)) (fun c_19 => ?_)
            refine lv_iload hx hb dM_lit_63 (lv_at hl 2 rfl) ?_
            refine lv_if_eq (tgt := 113) hx hb dM_lit_65 (by decide) (fun c_20 => ?_) (fun c_20 => absurd c_20 (by decide))
            refine lv_iload hx hb dM_lit_113 (lv_at hl 1 rfl) ?_
            exact W.iret hx hb hr (fun t ht hW => ⟨⟨_, (), rfl, rfl, (by have h9 : va_P D tbCl [(m0, .inr (2, [.int 1, .int mn, .ref a1, .ref a2, .ref a3, .ref a4, .int zz, .ref a5, .ref a6, .int si])), (a1, .inl (cI, 8, .inl f1)), (a2, .inl (cI, 8, .inl f2)), (a3, .inl (cI, 8, .inl f3)), (a4, .inl (cI, 8192, .inl f4)), (a5, .inl (cI, 1024, .inl f5)), (a6, .inl (cI, 1024, .inl f6))] H := hP; rw [← ht] at h9; exact h9)⟩, hS.F ht⟩) hS.2.2 dM_lit_115
          · refine lv_iload_n hx hb dM_lit_24 rfl (lv_at hl 3 rfl) ?_
            refine lv_ldc (v := 65536) hx hb hown (hB _ wd_364) dM_lit_25 ?_
            refine lv_icmp_gt (tgt := 34) hx hb dM_lit_27 (by decide) (fun c_21 => ?_) (fun c_21 => ?_)
            · refine lv_iconst (v := 0) hx hb dM_lit_34 (by decide) ?_
              refine lv_istore (lv' := [(4, .int 0), (0, .ref m0), (1, .int co), (2, .int ti), (3, .int li)]) hx hb dM_lit_35 hl (by decide) rfl (fun ls hl => ?_)
              refine lv_aload_n hx hb dM_lit_37 rfl (lv_at hl 1 rfl) ?_
              refine lv_iload hx hb dM_lit_38 (lv_at hl 0 rfl) ?_
              refine lv_if_eq (tgt := 47) hx hb dM_lit_40 (by decide) (fun c_22 => ?_) (fun c_22 => absurd c_22 (by decide))
              refine lv_iconst (v := 1) hx hb dM_lit_47 (by decide) ?_
              refine va_put (D := D) (ci := 2) (v := .int 1) (ty := .int) (C := RM) (T := FM) (N := 10) hx hb hB inM tyM tyM_ok nmM hown hK hP hD hS 0 rfl rfl 0 (by decide) (hB _ wd_322) (fun _ h9 => h9) rfl (by decide +kernel) rfl rfl (Nat.le_of_ble_eq_true rfl) dM_lit_48 (fun H locs hP hD hS => ?_)
              have hP : va_P D tbCl [(m0, .inr (2, [.int 1, .int mn, .ref a1, .ref a2, .ref a3, .ref a4, .int zz, .ref a5, .ref a6, .int si])), (a1, .inl (cI, 8, .inl f1)), (a2, .inl (cI, 8, .inl f2)), (a3, .inl (cI, 8, .inl f3)), (a4, .inl (cI, 8192, .inl f4)), (a5, .inl (cI, 1024, .inl f5)), (a6, .inl (cI, 1024, .inl f6))] H := hP
              have hD : va_D A [(m0, .inr (2, [.int 1, .int mn, .ref a1, .ref a2, .ref a3, .ref a4, .int zz, .ref a5, .ref a6, .int si])), (a1, .inl (cI, 8, .inl f1)), (a2, .inl (cI, 8, .inl f2)), (a3, .inl (cI, 8, .inl f3)), (a4, .inl (cI, 8192, .inl f4)), (a5, .inl (cI, 1024, .inl f5)), (a6, .inl (cI, 1024, .inl f6))] := hD
              refine lv_iconst (v := 0) hx hb dM_lit_51 (by decide) ?_
              refine lv_istore (lv' := [(5, .int 0), (4, .int 0), (0, .ref m0), (1, .int co), (2, .int ti), (3, .int li)]) hx hb dM_lit_52 hl (by decide) rfl (fun ls hl => ?_)
              refine lv_iconst (v := 0) hx hb dM_lit_54 (by decide) ?_
              refine lv_istore (lv' := [(6, .int 0), (5, .int 0), (4, .int 0), (0, .ref m0), (1, .int co), (2, .int ti), (3, .int li)]) hx hb dM_lit_55 hl (by decide) rfl (fun ls hl => ?_)
              refine lv_iload hx hb dM_lit_57 (lv_at hl 0 rfl) ?_
              refine lv_iconst (v := 3) hx hb dM_lit_59 (by decide) ?_
              refine lv_icmp_ge (tgt := 113) hx hb dM_lit_60 (by decide) (fun c_23 => absurd c_23 (by decide)) (fun c_23 => ?_)
              refine lv_iload hx hb dM_lit_63 (lv_at hl 2 rfl) ?_
              refine lv_if_eq (tgt := 113) hx hb dM_lit_65 (by decide) (fun c_24 => ?_) (fun c_24 => absurd c_24 (by decide))
              refine lv_iload hx hb dM_lit_113 (lv_at hl 1 rfl) ?_
              exact W.iret hx hb hr (fun t ht hW => ⟨⟨_, (), rfl, rfl, (by have h9 : va_P D tbCl [(m0, .inr (2, [.int 1, .int mn, .ref a1, .ref a2, .ref a3, .ref a4, .int zz, .ref a5, .ref a6, .int si])), (a1, .inl (cI, 8, .inl f1)), (a2, .inl (cI, 8, .inl f2)), (a3, .inl (cI, 8, .inl f3)), (a4, .inl (cI, 8192, .inl f4)), (a5, .inl (cI, 1024, .inl f5)), (a6, .inl (cI, 1024, .inl f6))] H := hP; rw [← ht] at h9; exact h9)⟩, hS.F ht⟩) hS.2.2 dM_lit_115
            · exact absurd (hbad.elim (fun h => absurd h c_1) (fun h => h.elim (fun h => absurd h c_5) (fun h => h.elim (fun h => absurd h c_9) (fun h => h.elim (fun h => absurd h c_13) (fun h => h.elim (fun h => absurd h c_17) id))))) c_21

set_option maxHeartbeats 4000000 in
set_option maxRecDepth 100000 in
theorem kM_lit_ok (l : Launch) (D : va_G) (sz : Nat) (cI : ClassId) (m0 a1 a2 a3 a4 a5 a6 : Nat) (th mn zz si : Int32) (f1 f2 f3 f4 f5 f6 : Nat → Int32) (co ti li : Int32) (h1 : ¬ co < 0) (h2 : ¬ 16777216 ≤ co) (h3 : ¬ ti < 0) (h4 : ¬ 16777216 ≤ ti) (h5 : ¬ li < 0) (h6 : ¬ 65536 < li) : Met l yM_lit wM_lit (k2_rm 1 21) (wr_P [.ref m0, .int co, .int ti, .int li] sz D [(cI, .int)] [(m0, .inr (2, [.int th, .int mn, .ref a1, .ref a2, .ref a3, .ref a4, .int zz, .ref a5, .ref a6, .int si])), (a1, .inl (cI, 8, .inl f1)), (a2, .inl (cI, 8, .inl f2)), (a3, .inl (cI, 8, .inl f3)), (a4, .inl (cI, 8192, .inl f4)), (a5, .inl (cI, 1024, .inl f5)), (a6, .inl (cI, 1024, .inl f6))]) (wr_Qi (mm_lit co ti li) D (va_A [(m0, .inr (2, [.int th, .int mn, .ref a1, .ref a2, .ref a3, .ref a4, .int zz, .ref a5, .ref a6, .int si])), (a1, .inl (cI, 8, .inl f1)), (a2, .inl (cI, 8, .inl f2)), (a3, .inl (cI, 8, .inl f3)), (a4, .inl (cI, 8192, .inl f4)), (a5, .inl (cI, 1024, .inl f5)), (a6, .inl (cI, 1024, .inl f6))] sz) [(m0, .inr (2, [.int 0, .int mn, .ref a1, .ref a2, .ref a3, .ref a4, .int zz, .ref a5, .ref a6, .int si])), (a1, .inl (cI, 8, .inl f1)), (a2, .inl (cI, 8, .inl f2)), (a3, .inl (cI, 8, .inl f3)), (a4, .inl (cI, 8192, .inl f4)), (a5, .inl (cI, 1024, .inl f5)), (a6, .inl (cI, 1024, .inl f6))]) 0 0 (va_A [(m0, .inr (2, [.int th, .int mn, .ref a1, .ref a2, .ref a3, .ref a4, .int zz, .ref a5, .ref a6, .int si])), (a1, .inl (cI, 8, .inl f1)), (a2, .inl (cI, 8, .inl f2)), (a3, .inl (cI, 8, .inl f3)), (a4, .inl (cI, 8192, .inl f4)), (a5, .inl (cI, 1024, .inl f5)), (a6, .inl (cI, 1024, .inl f6))] sz) := by
  refine Met.ofW (cc := cM_lit) (maxL := 9) (ret := (some .int)) (by decide) rfl ?_
  intro p e s m args below meth c s₁ B hml hv
  obtain ⟨rfl, hsz, hC, hP, hK, hD0⟩ := hv
  have hx := B.exec
  have hb := B.bytes
  have hr := B.returns
  have hB : ∀ w ∈ tbB, w.before _ s = true := fun w h => (atoms_spec (ws := wM_lit) B.pre) w (List.mem_cons_of_mem _ h)
  have hown : s.vm.findClass "TextureBankModel" = some m.cls := findClass_of_methodNamed B.named
  have hlocks := B.notSynchronized
  subst hsz
  have hD := hD0.self (sz := s.heap.size)
  generalize hAe : va_A [(m0, .inr (2, [.int th, .int mn, .ref a1, .ref a2, .ref a3, .ref a4, .int zz, .ref a5, .ref a6, .int si])), (a1, .inl (cI, 8, .inl f1)), (a2, .inl (cI, 8, .inl f2)), (a3, .inl (cI, 8, .inl f3)), (a4, .inl (cI, 8192, .inl f4)), (a5, .inl (cI, 1024, .inl f5)), (a6, .inl (cI, 1024, .inl f6))] s.heap.size = A at hD ⊢
  have hA : ∀ q : Nat, s.heap.size ≤ q → A q := fun q h => by rw [← hAe]; exact Or.inr h
  have hS : va_S A s.heap s.heap [] := va_S.rf
  have hl := lv_entry ([.ref m0, .int co, .int ti, .int li]) (n := 9) (Nat.le_of_ble_eq_true rfl)
  rw [lg_entry_eq]
  generalize (lg_sl ([.ref m0, .int co, .int ti, .int li]) ++ List.replicate (9 - (lg_sl ([.ref m0, .int co, .int ti, .int li])).length) Slot.unset).toArray = ls at hl ⊢
  have hl : lv_has ls 9 [(0, .ref m0), (1, .int co), (2, .int ti), (3, .int li)] := hl
  refine lv_iload_n hx hb dM_lit_0 rfl (lv_at hl 1 rfl) ?_
  refine lv_if_lt (tgt := 34) hx hb dM_lit_1 (by decide) (fun c_1 => ?_) (fun c_1 => ?_)
  · exact absurd c_1 h1
  · refine lv_iload_n hx hb dM_lit_4 rfl (lv_at hl 1 rfl) ?_
    refine lv_ldc (v := 16777216) hx hb hown (hB _ wd_382) dM_lit_5 ?_
    refine lv_icmp_ge (tgt := 34) hx hb dM_lit_7 (by decide) (fun c_2 => ?_) (fun c_2 => ?_)
    · exact absurd c_2 h2
    · refine lv_iload_n hx hb dM_lit_10 rfl (lv_at hl 2 rfl) ?_
      refine lv_if_lt (tgt := 34) hx hb dM_lit_11 (by decide) (fun c_3 => ?_) (fun c_3 => ?_)
      · exact absurd c_3 h3
      · refine lv_iload_n hx hb dM_lit_14 rfl (lv_at hl 2 rfl) ?_
        refine lv_ldc (v := 16777216) hx hb hown (hB _ wd_382) dM_lit_15 ?_
        refine lv_icmp_ge (tgt := 34) hx hb dM_lit_17 (by decide) (fun c_4 => ?_) (fun c_4 => ?_)
        · exact absurd c_4 h4
        · refine lv_iload_n hx hb dM_lit_20 rfl (lv_at hl 3 rfl) ?_
          refine lv_if_lt (tgt := 34) hx hb dM_lit_21 (by decide) (fun c_5 => ?_) (fun c_5 => ?_)
          · exact absurd c_5 h5
          · refine lv_iload_n hx hb dM_lit_24 rfl (lv_at hl 3 rfl) ?_
            refine lv_ldc (v := 65536) hx hb hown (hB _ wd_364) dM_lit_25 ?_
            refine lv_icmp_gt (tgt := 34) hx hb dM_lit_27 (by decide) (fun c_6 => ?_) (fun c_6 => ?_)
            · exact absurd c_6 h6
            · refine lv_iconst (v := 1) hx hb dM_lit_30 (by decide) ?_
              refine lv_goto (tgt := 35) hx hb dM_lit_31 (by decide) ?_
              refine lv_istore (lv' := [(4, .int 1), (0, .ref m0), (1, .int co), (2, .int ti), (3, .int li)]) hx hb dM_lit_35 hl (by decide) rfl (fun ls hl => ?_)
              refine lv_aload_n hx hb dM_lit_37 rfl (lv_at hl 1 rfl) ?_
              refine lv_iload hx hb dM_lit_38 (lv_at hl 0 rfl) ?_
              refine lv_if_eq (tgt := 47) hx hb dM_lit_40 (by decide) (fun c_7 => absurd c_7 (by decide)) (fun c_7 => ?_)
              refine lv_iconst (v := 0) hx hb dM_lit_43 (by decide) ?_
              refine lv_goto (tgt := 48) hx hb dM_lit_44 (by decide) ?_
              refine va_put (D := D) (ci := 2) (v := .int 0) (ty := .int) (C := RM) (T := FM) (N := 10) hx hb hB inM tyM tyM_ok nmM hown hK hP hD hS 0 rfl rfl 0 (by decide) (hB _ wd_322) (fun _ h9 => h9) rfl (by decide +kernel) rfl rfl (Nat.le_of_ble_eq_true rfl) dM_lit_48 (fun H locs hP hD hS => ?_)
              have hP : va_P D tbCl [(m0, .inr (2, [.int 0, .int mn, .ref a1, .ref a2, .ref a3, .ref a4, .int zz, .ref a5, .ref a6, .int si])), (a1, .inl (cI, 8, .inl f1)), (a2, .inl (cI, 8, .inl f2)), (a3, .inl (cI, 8, .inl f3)), (a4, .inl (cI, 8192, .inl f4)), (a5, .inl (cI, 1024, .inl f5)), (a6, .inl (cI, 1024, .inl f6))] H := hP
              have hD : va_D A [(m0, .inr (2, [.int 0, .int mn, .ref a1, .ref a2, .ref a3, .ref a4, .int zz, .ref a5, .ref a6, .int si])), (a1, .inl (cI, 8, .inl f1)), (a2, .inl (cI, 8, .inl f2)), (a3, .inl (cI, 8, .inl f3)), (a4, .inl (cI, 8192, .inl f4)), (a5, .inl (cI, 1024, .inl f5)), (a6, .inl (cI, 1024, .inl f6))] := hD
              refine lv_iconst (v := 0) hx hb dM_lit_51 (by decide) ?_
              refine lv_istore (lv' := [(5, .int 0), (4, .int 1), (0, .ref m0), (1, .int co), (2, .int ti), (3, .int li)]) hx hb dM_lit_52 hl (by decide) rfl (fun ls hl => ?_)
              refine lv_iconst (v := 0) hx hb dM_lit_54 (by decide) ?_
              refine lv_istore (lv' := [(6, .int 0), (5, .int 0), (4, .int 1), (0, .ref m0), (1, .int co), (2, .int ti), (3, .int li)]) hx hb dM_lit_55 hl (by decide) rfl (fun ls hl => ?_)
              refine lv_iload hx hb dM_lit_57 (lv_at hl 0 rfl) ?_
              refine lv_iconst (v := 3) hx hb dM_lit_59 (by decide) ?_
              refine lv_icmp_ge (tgt := 113) hx hb dM_lit_60 (by decide) (fun c_8 => absurd c_8 (by decide)) (fun c_8 => ?_)
              refine lv_iload hx hb dM_lit_63 (lv_at hl 2 rfl) ?_
              refine lv_if_eq (tgt := 113) hx hb dM_lit_65 (by decide) (fun c_9 => absurd c_9 (by decide)) (fun c_9 => ?_)
              refine lv_iload_n hx hb dM_lit_68 rfl (lv_at hl 4 rfl) ?_
              refine lv_iload hx hb dM_lit_69 (lv_at hl 0 rfl) ?_
              refine W.callV (W.runS (As := [.int co, .int 0]) (rest := []) ⟨hx, hb, hml, hown, hB⟩ (kM_part l co 0) ⟨callB_of 2 hB gwM_part rfl rfl rfl (hB _ wd_3) (hB _ wd_405) ydM_part ⟨Nat.le_of_ble_eq_true rfl, Nat.le_of_ble_eq_true rfl⟩, hB _ wd_406⟩ (preEq) rfl rfl hl.1 rfl (lv_room (Nat.le_of_ble_eq_true rfl)) dM_lit_71 ⟨Nat.zero_le _, Nat.zero_le _⟩) ?_
              refine W.eq (g2 := F0 m 74 ls [.int (mm_part co 0)]) rfl ?_
              refine lv_iload_n hx hb dM_lit_74 rfl (lv_at hl 5 rfl) ?_
              refine lv_iload hx hb dM_lit_75 (lv_at hl 0 rfl) ?_
              refine W.callV (W.runS (As := [.int ti, .int 0]) (rest := [.int (mm_part co 0)]) ⟨hx, hb, hml, hown, hB⟩ (kM_part l ti 0) ⟨callB_of 2 hB gwM_part rfl rfl rfl (hB _ wd_3) (hB _ wd_405) ydM_part ⟨Nat.le_of_ble_eq_true rfl, Nat.le_of_ble_eq_true rfl⟩, hB _ wd_406⟩ (preEq) rfl rfl hl.1 rfl (lv_room (Nat.le_of_ble_eq_true rfl)) dM_lit_77 ⟨Nat.zero_le _, Nat.zero_le _⟩) ?_
              refine W.eq (g2 := F0 m 80 ls [.int (mm_part ti 0), .int (mm_part co 0)]) rfl ?_
              refine lv_imul hx hb dM_lit_80 ?_
              refine lv_sipush (v := 255) hx hb dM_lit_81 (by decide) ?_
              refine lv_idiv hx hb dM_lit_84 (by decide) ?_
              refine lv_i2l hx hb dM_lit_85 rfl ?_
              refine lv_lstore (lv' := [(7, .long ((((mm_part co 0) * (mm_part ti 0)) / 255).toInt64)), (6, .int 0), (5, .int 0), (4, .int 1), (0, .ref m0), (1, .int co), (2, .int ti), (3, .int li)]) hx hb dM_lit_86 hl (by decide) rfl (fun ls hl => ?_)
              refine lv_iload hx hb dM_lit_88 (lv_at hl 2 rfl) ?_
              refine lv_sipush (v := 256) hx hb dM_lit_90 (by decide) ?_
              refine lv_imul hx hb dM_lit_93 ?_
              refine W.eq (g2 := F0 m 94 ls [.int 0]) rfl ?_
              refine lv_lload hx hb dM_lit_94 (lv_at hl 0 rfl) ?_
              refine lv_iload_n hx hb dM_lit_96 rfl (lv_at hl 7 rfl) ?_
              refine lv_i2l hx hb dM_lit_97 rfl ?_
              refine lv_lmul hx hb dM_lit_98 ?_
              refine lv_ldc2 (v := 65536) hx hb hown (hB _ wd_413) dM_lit_99 ?_
              refine lv_ldiv hx hb dM_lit_102 (by decide) ?_
              refine lv_l2i hx hb dM_lit_103 rfl ?_
              refine lv_iadd hx hb dM_lit_104 ?_
              refine lv_istore (lv' := [(5, .int (0 + (((((((mm_part co 0) * (mm_part ti 0)) / 255).toInt64) * li.toInt64) / 65536).toInt32))), (7, .long ((((mm_part co 0) * (mm_part ti 0)) / 255).toInt64)), (6, .int 0), (4, .int 1), (0, .ref m0), (1, .int co), (2, .int ti), (3, .int li)]) hx hb dM_lit_105 hl (by decide) rfl (fun ls hl => ?_)
              refine lv_iinc (v := 1) (lv' := [(6, .int 1), (5, .int (0 + (((((((mm_part co 0) * (mm_part ti 0)) / 255).toInt64) * li.toInt64) / 65536).toInt32))), (7, .long ((((mm_part co 0) * (mm_part ti 0)) / 255).toInt64)), (4, .int 1), (0, .ref m0), (1, .int co), (2, .int ti), (3, .int li)]) hx hb dM_lit_107 hl (k := 2) rfl (by decide) (by decide) rfl (fun ls hl => ?_)
              refine lv_goto (tgt := 57) hx hb dM_lit_110 (by decide) ?_
              refine lv_iload hx hb dM_lit_57 (lv_at hl 0 rfl) ?_
              refine lv_iconst (v := 3) hx hb dM_lit_59 (by decide) ?_
              refine lv_icmp_ge (tgt := 113) hx hb dM_lit_60 (by decide) (fun c_10 => absurd c_10 (by decide)) (fun c_10 => ?_)
              refine lv_iload hx hb dM_lit_63 (lv_at hl 3 rfl) ?_
              refine lv_if_eq (tgt := 113) hx hb dM_lit_65 (by decide) (fun c_11 => absurd c_11 (by decide)) (fun c_11 => ?_)
              refine lv_iload_n hx hb dM_lit_68 rfl (lv_at hl 5 rfl) ?_
              refine lv_iload hx hb dM_lit_69 (lv_at hl 0 rfl) ?_
              refine W.callV (W.runS (As := [.int co, .int 1]) (rest := []) ⟨hx, hb, hml, hown, hB⟩ (kM_part l co 1) ⟨callB_of 2 hB gwM_part rfl rfl rfl (hB _ wd_3) (hB _ wd_405) ydM_part ⟨Nat.le_of_ble_eq_true rfl, Nat.le_of_ble_eq_true rfl⟩, hB _ wd_406⟩ (preEq) rfl rfl hl.1 rfl (lv_room (Nat.le_of_ble_eq_true rfl)) dM_lit_71 ⟨Nat.zero_le _, Nat.zero_le _⟩) ?_
              refine W.eq (g2 := F0 m 74 ls [.int (mm_part co 1)]) rfl ?_
              refine lv_iload_n hx hb dM_lit_74 rfl (lv_at hl 6 rfl) ?_
              refine lv_iload hx hb dM_lit_75 (lv_at hl 0 rfl) ?_
              refine W.callV (W.runS (As := [.int ti, .int 1]) (rest := [.int (mm_part co 1)]) ⟨hx, hb, hml, hown, hB⟩ (kM_part l ti 1) ⟨callB_of 2 hB gwM_part rfl rfl rfl (hB _ wd_3) (hB _ wd_405) ydM_part ⟨Nat.le_of_ble_eq_true rfl, Nat.le_of_ble_eq_true rfl⟩, hB _ wd_406⟩ (preEq) rfl rfl hl.1 rfl (lv_room (Nat.le_of_ble_eq_true rfl)) dM_lit_77 ⟨Nat.zero_le _, Nat.zero_le _⟩) ?_
              refine W.eq (g2 := F0 m 80 ls [.int (mm_part ti 1), .int (mm_part co 1)]) rfl ?_
              refine lv_imul hx hb dM_lit_80 ?_
              refine lv_sipush (v := 255) hx hb dM_lit_81 (by decide) ?_
              refine lv_idiv hx hb dM_lit_84 (by decide) ?_
              refine lv_i2l hx hb dM_lit_85 rfl ?_
              refine lv_lstore (lv' := [(7, .long ((((mm_part co 1) * (mm_part ti 1)) / 255).toInt64)), (6, .int 1), (5, .int (0 + (((((((mm_part co 0) * (mm_part ti 0)) / 255).toInt64) * li.toInt64) / 65536).toInt32))), (4, .int 1), (0, .ref m0), (1, .int co), (2, .int ti), (3, .int li)]) hx hb dM_lit_86 hl (by decide) rfl (fun ls hl => ?_)
              refine lv_iload hx hb dM_lit_88 (lv_at hl 2 rfl) ?_
              refine lv_sipush (v := 256) hx hb dM_lit_90 (by decide) ?_
              refine lv_imul hx hb dM_lit_93 ?_
              refine lv_lload hx hb dM_lit_94 (lv_at hl 0 rfl) ?_
              refine lv_iload_n hx hb dM_lit_96 rfl (lv_at hl 7 rfl) ?_
              refine lv_i2l hx hb dM_lit_97 rfl ?_
              refine lv_lmul hx hb dM_lit_98 ?_
              refine lv_ldc2 (v := 65536) hx hb hown (hB _ wd_413) dM_lit_99 ?_
              refine lv_ldiv hx hb dM_lit_102 (by decide) ?_
              refine lv_l2i hx hb dM_lit_103 rfl ?_
              refine lv_iadd hx hb dM_lit_104 ?_
              refine lv_istore (lv' := [(5, .int (((0 + (((((((mm_part co 0) * (mm_part ti 0)) / 255).toInt64) * li.toInt64) / 65536).toInt32)) * 256) + (((((((mm_part co 1) * (mm_part ti 1)) / 255).toInt64) * li.toInt64) / 65536).toInt32))), (7, .long ((((mm_part co 1) * (mm_part ti 1)) / 255).toInt64)), (6, .int 1), (4, .int 1), (0, .ref m0), (1, .int co), (2, .int ti), (3, .int li)]) hx hb dM_lit_105 hl (by decide) rfl (fun ls hl => ?_)
              refine lv_iinc (v := 2) (lv' := [(6, .int 2), (5, .int (((0 + (((((((mm_part co 0) * (mm_part ti 0)) / 255).toInt64) * li.toInt64) / 65536).toInt32)) * 256) + (((((((mm_part co 1) * (mm_part ti 1)) / 255).toInt64) * li.toInt64) / 65536).toInt32))), (7, .long ((((mm_part co 1) * (mm_part ti 1)) / 255).toInt64)), (4, .int 1), (0, .ref m0), (1, .int co), (2, .int ti), (3, .int li)]) hx hb dM_lit_107 hl (k := 2) rfl (by decide) (by decide) rfl (fun ls hl => ?_)
              refine lv_goto (tgt := 57) hx hb dM_lit_110 (by decide) ?_
              refine lv_iload hx hb dM_lit_57 (lv_at hl 0 rfl) ?_
              refine lv_iconst (v := 3) hx hb dM_lit_59 (by decide) ?_
              refine lv_icmp_ge (tgt := 113) hx hb dM_lit_60 (by decide) (fun c_12 => absurd c_12 (by decide)) (fun c_12 => ?_)
              refine lv_iload hx hb dM_lit_63 (lv_at hl 3 rfl) ?_
              refine lv_if_eq (tgt := 113) hx hb dM_lit_65 (by decide) (fun c_13 => absurd c_13 (by decide)) (fun c_13 => ?_)
              refine lv_iload_n hx hb dM_lit_68 rfl (lv_at hl 5 rfl) ?_
              refine lv_iload hx hb dM_lit_69 (lv_at hl 0 rfl) ?_
              refine W.callV (W.runS (As := [.int co, .int 2]) (rest := []) ⟨hx, hb, hml, hown, hB⟩ (kM_part l co 2) ⟨callB_of 2 hB gwM_part rfl rfl rfl (hB _ wd_3) (hB _ wd_405) ydM_part ⟨Nat.le_of_ble_eq_true rfl, Nat.le_of_ble_eq_true rfl⟩, hB _ wd_406⟩ (preEq) rfl rfl hl.1 rfl (lv_room (Nat.le_of_ble_eq_true rfl)) dM_lit_71 ⟨Nat.zero_le _, Nat.zero_le _⟩) ?_
              refine W.eq (g2 := F0 m 74 ls [.int (mm_part co 2)]) rfl ?_
              refine lv_iload_n hx hb dM_lit_74 rfl (lv_at hl 6 rfl) ?_
              refine lv_iload hx hb dM_lit_75 (lv_at hl 0 rfl) ?_
              refine W.callV (W.runS (As := [.int ti, .int 2]) (rest := [.int (mm_part co 2)]) ⟨hx, hb, hml, hown, hB⟩ (kM_part l ti 2) ⟨callB_of 2 hB gwM_part rfl rfl rfl (hB _ wd_3) (hB _ wd_405) ydM_part ⟨Nat.le_of_ble_eq_true rfl, Nat.le_of_ble_eq_true rfl⟩, hB _ wd_406⟩ (preEq) rfl rfl hl.1 rfl (lv_room (Nat.le_of_ble_eq_true rfl)) dM_lit_77 ⟨Nat.zero_le _, Nat.zero_le _⟩) ?_
              refine W.eq (g2 := F0 m 80 ls [.int (mm_part ti 2), .int (mm_part co 2)]) rfl ?_
              refine lv_imul hx hb dM_lit_80 ?_
              refine lv_sipush (v := 255) hx hb dM_lit_81 (by decide) ?_
              refine lv_idiv hx hb dM_lit_84 (by decide) ?_
              refine lv_i2l hx hb dM_lit_85 rfl ?_
              refine lv_lstore (lv' := [(7, .long ((((mm_part co 2) * (mm_part ti 2)) / 255).toInt64)), (6, .int 2), (5, .int (((0 + (((((((mm_part co 0) * (mm_part ti 0)) / 255).toInt64) * li.toInt64) / 65536).toInt32)) * 256) + (((((((mm_part co 1) * (mm_part ti 1)) / 255).toInt64) * li.toInt64) / 65536).toInt32))), (4, .int 1), (0, .ref m0), (1, .int co), (2, .int ti), (3, .int li)]) hx hb dM_lit_86 hl (by decide) rfl (fun ls hl => ?_)
              refine lv_iload hx hb dM_lit_88 (lv_at hl 2 rfl) ?_
              refine lv_sipush (v := 256) hx hb dM_lit_90 (by decide) ?_
              refine lv_imul hx hb dM_lit_93 ?_
              refine lv_lload hx hb dM_lit_94 (lv_at hl 0 rfl) ?_
              refine lv_iload_n hx hb dM_lit_96 rfl (lv_at hl 7 rfl) ?_
              refine lv_i2l hx hb dM_lit_97 rfl ?_
              refine lv_lmul hx hb dM_lit_98 ?_
              refine lv_ldc2 (v := 65536) hx hb hown (hB _ wd_413) dM_lit_99 ?_
              refine lv_ldiv hx hb dM_lit_102 (by decide) ?_
              refine lv_l2i hx hb dM_lit_103 rfl ?_
              refine lv_iadd hx hb dM_lit_104 ?_
              refine lv_istore (lv' := [(5, .int (((((0 + (((((((mm_part co 0) * (mm_part ti 0)) / 255).toInt64) * li.toInt64) / 65536).toInt32)) * 256) + (((((((mm_part co 1) * (mm_part ti 1)) / 255).toInt64) * li.toInt64) / 65536).toInt32)) * 256) + (((((((mm_part co 2) * (mm_part ti 2)) / 255).toInt64) * li.toInt64) / 65536).toInt32))), (7, .long ((((mm_part co 2) * (mm_part ti 2)) / 255).toInt64)), (6, .int 2), (4, .int 1), (0, .ref m0), (1, .int co), (2, .int ti), (3, .int li)]) hx hb dM_lit_105 hl (by decide) rfl (fun ls hl => ?_)
              refine lv_iinc (v := 3) (lv' := [(6, .int 3), (5, .int (((((0 + (((((((mm_part co 0) * (mm_part ti 0)) / 255).toInt64) * li.toInt64) / 65536).toInt32)) * 256) + (((((((mm_part co 1) * (mm_part ti 1)) / 255).toInt64) * li.toInt64) / 65536).toInt32)) * 256) + (((((((mm_part co 2) * (mm_part ti 2)) / 255).toInt64) * li.toInt64) / 65536).toInt32))), (7, .long ((((mm_part co 2) * (mm_part ti 2)) / 255).toInt64)), (4, .int 1), (0, .ref m0), (1, .int co), (2, .int ti), (3, .int li)]) hx hb dM_lit_107 hl (k := 2) rfl (by decide) (by decide) rfl (fun ls hl => ?_)
              refine lv_goto (tgt := 57) hx hb dM_lit_110 (by decide) ?_
              refine lv_iload hx hb dM_lit_57 (lv_at hl 0 rfl) ?_
              refine lv_iconst (v := 3) hx hb dM_lit_59 (by decide) ?_
              refine lv_icmp_ge (tgt := 113) hx hb dM_lit_60 (by decide) (fun c_14 => ?_) (fun c_14 => absurd c_14 (by decide))
              refine lv_iload hx hb dM_lit_113 (lv_at hl 1 rfl) ?_
              exact W.iret hx hb hr (fun t ht hW => ⟨⟨_, (), rfl, rfl, (by have h9 : va_P D tbCl [(m0, .inr (2, [.int 0, .int mn, .ref a1, .ref a2, .ref a3, .ref a4, .int zz, .ref a5, .ref a6, .int si])), (a1, .inl (cI, 8, .inl f1)), (a2, .inl (cI, 8, .inl f2)), (a3, .inl (cI, 8, .inl f3)), (a4, .inl (cI, 8192, .inl f4)), (a5, .inl (cI, 1024, .inl f5)), (a6, .inl (cI, 1024, .inl f6))] H := hP; rw [← ht] at h9; exact h9)⟩, hS.F ht⟩) hS.2.2 dM_lit_115
