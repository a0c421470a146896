set_option maxHeartbeats 4000000 in
set_option maxRecDepth 100000 in
theorem kM_lookUp_none (l : Launch) (D : va_G) (sz : Nat) (cI : ClassId) (m0 a1 a2 a3 a4 a5 a6 : Nat) (th mn zz si : Int32) (f1 f2 f3 f4 f5 f6 : Nat → Int32) (t9 : Int32) (lv9 u9 v9 : Int32) (hno : tt_has mn t9 = 0) : Met l yM_lookUp wM_lookUp (k2_rm 1 21) (wr_P [.ref m0, .int t9, .int lv9, .int u9, .int v9] sz D [(cI, .int)] [(m0, .inr (2, [.int th, .int mn, .ref a1, .ref a2, .ref a3, .ref a4, .int zz, .ref a5, .ref a6, .int si])), (a1, .inl (cI, 8, .inl f1)), (a2, .inl (cI, 8, .inl f2)), (a3, .inl (cI, 8, .inl f3)), (a4, .inl (cI, 8192, .inl f4)), (a5, .inl (cI, 1024, .inl f5)), (a6, .inl (cI, 1024, .inl f6))]) (wr_Qi 0 D (va_A [(m0, .inr (2, [.int th, .int mn, .ref a1, .ref a2, .ref a3, .ref a4, .int zz, .ref a5, .ref a6, .int si])), (a1, .inl (cI, 8, .inl f1)), (a2, .inl (cI, 8, .inl f2)), (a3, .inl (cI, 8, .inl f3)), (a4, .inl (cI, 8192, .inl f4)), (a5, .inl (cI, 1024, .inl f5)), (a6, .inl (cI, 1024, .inl f6))] sz) [(m0, .inr (2, [.int 1, .int mn, .ref a1, .ref a2, .ref a3, .ref a4, .int zz, .ref a5, .ref a6, .int si])), (a1, .inl (cI, 8, .inl f1)), (a2, .inl (cI, 8, .inl f2)), (a3, .inl (cI, 8, .inl f3)), (a4, .inl (cI, 8192, .inl f4)), (a5, .inl (cI, 1024, .inl f5)), (a6, .inl (cI, 1024, .inl f6))]) 0 0 (va_A [(m0, .inr (2, [.int th, .int mn, .ref a1, .ref a2, .ref a3, .ref a4, .int zz, .ref a5, .ref a6, .int si])), (a1, .inl (cI, 8, .inl f1)), (a2, .inl (cI, 8, .inl f2)), (a3, .inl (cI, 8, .inl f3)), (a4, .inl (cI, 8192, .inl f4)), (a5, .inl (cI, 1024, .inl f5)), (a6, .inl (cI, 1024, .inl f6))] sz) := by
  refine Met.ofW (cc := cM_lookUp) (maxL := 12) (ret := (some .int)) (by decide) rfl ?_
  intro p e s m args below meth c s₁ B hml hv
  obtain ⟨rfl, hsz, hC, hP, hK, hD0⟩ := hv
  have hx := B.exec
  have hb := B.bytes
  have hr := B.returns
  have hB : ∀ w ∈ tbB, w.before _ s = true := fun w h => (atoms_spec (ws := wM_lookUp) B.pre) w (List.mem_cons_of_mem _ h)
  have hown : s.vm.findClass "TextureBankModel" = some m.cls := findClass_of_methodNamed B.named
  have hlocks := B.notSynchronized
  subst hsz
  have hD := hD0.self (sz := s.heap.size)
  generalize hAe : va_A [(m0, .inr (2, [.int th, .int mn, .ref a1, .ref a2, .ref a3, .ref a4, .int zz, .ref a5, .ref a6, .int si])), (a1, .inl (cI, 8, .inl f1)), (a2, .inl (cI, 8, .inl f2)), (a3, .inl (cI, 8, .inl f3)), (a4, .inl (cI, 8192, .inl f4)), (a5, .inl (cI, 1024, .inl f5)), (a6, .inl (cI, 1024, .inl f6))] s.heap.size = A at hD ⊢
  have hA : ∀ q : Nat, s.heap.size ≤ q → A q := fun q h => by rw [← hAe]; exact Or.inr h
  have hS : va_S A s.heap s.heap [] := va_S.rf
  have hl := lv_entry ([.ref m0, .int t9, .int lv9, .int u9, .int v9]) (n := 12) (Nat.le_of_ble_eq_true rfl)
  rw [lg_entry_eq]
  generalize (lg_sl ([.ref m0, .int t9, .int lv9, .int u9, .int v9]) ++ List.replicate (12 - (lg_sl ([.ref m0, .int t9, .int lv9, .int u9, .int v9])).length) Slot.unset).toArray = ls at hl ⊢
  have hl : lv_has ls 12 [(0, .ref m0), (1, .int t9), (2, .int lv9), (3, .int u9), (4, .int v9)] := hl
  refine lv_aload_n hx hb dM_lookUp_0 rfl (lv_at hl 0 rfl) ?_
  refine lv_aload_n hx hb dM_lookUp_1 rfl (lv_at hl 0 rfl) ?_
  refine lv_iload_n hx hb dM_lookUp_2 rfl (lv_at hl 1 rfl) ?_
  refine W.callV (W.runV (C := "TextureBankModel") (As := [.int t9]) (rest := [.ref m0]) ⟨hx, hb, hml, hown, hB⟩ (kM_isThere l D cI m0 a1 a2 a3 a4 a5 a6 th mn zz si f1 f2 f3 f4 f5 f6 t9) ⟨callB_of 1 hB gwM_isThere rfl rfl rfl (hB _ wd_3) (hB _ wd_377) ydM_isThere ⟨Nat.le_of_ble_eq_true rfl, Nat.le_of_ble_eq_true rfl⟩, hB _ wd_379, hB _ ws_12⟩ (rd_V hC hP hK (va_recv hK hP (ci := 2) (q0 := 0) rfl rfl)) rfl rfl hl.1 rfl (lv_room (Nat.le_of_ble_eq_true rfl)) dM_lookUp_3 ⟨Nat.zero_le _, Nat.zero_le _⟩) ?_
  refine W.eq (g2 := F0 m 6 ls [.int (tt_has mn t9), .ref m0]) rfl ?_
  refine lv_if_eq (tgt := 22) hx hb dM_lookUp_6 (by decide) (fun c_1 => ?_) (fun c_1 => ?_)
  · refine lv_iconst (v := 1) hx hb dM_lookUp_22 (by decide) ?_
    refine lv_goto (tgt := 46) hx hb dM_lookUp_23 (by decide) ?_
    refine va_put (D := D) (ci := 2) (v := .int 1) (ty := .int) (C := RM) (T := FM) (N := 10) hx hb hB inM tyM tyM_ok nmM hown hK hP hD hS 0 rfl rfl 0 (by decide) (hB _ wd_322) (fun _ h9 => h9) rfl (by decide +kernel) rfl rfl (Nat.le_of_ble_eq_true rfl) dM_lookUp_46 (fun H locs hP hD hS => ?_)
    have hP : va_P D tbCl [(m0, .inr (2, [.int 1, .int mn, .ref a1, .ref a2, .ref a3, .ref a4, .int zz, .ref a5, .ref a6, .int si])), (a1, .inl (cI, 8, .inl f1)), (a2, .inl (cI, 8, .inl f2)), (a3, .inl (cI, 8, .inl f3)), (a4, .inl (cI, 8192, .inl f4)), (a5, .inl (cI, 1024, .inl f5)), (a6, .inl (cI, 1024, .inl f6))] H := hP
    have hD : va_D A [(m0, .inr (2, [.int 1, .int mn, .ref a1, .ref a2, .ref a3, .ref a4, .int zz, .ref a5, .ref a6, .int si])), (a1, .inl (cI, 8, .inl f1)), (a2, .inl (cI, 8, .inl f2)), (a3, .inl (cI, 8, .inl f3)), (a4, .inl (cI, 8192, .inl f4)), (a5, .inl (cI, 1024, .inl f5)), (a6, .inl (cI, 1024, .inl f6))] := hD
    refine lv_aload_n hx hb dM_lookUp_49 rfl (lv_at hl 0 rfl) ?_
    refine va_get (D := D) (ci := 2) (v := .int 1) (C := RM) (T := FM) (N := 10) hx hb hB inM hown hK hP 0 rfl rfl 0 (by decide) (hB _ wd_322) (fun _ h9 => h9) rfl dM_lookUp_50 ?_
    refine lv_if_eq (tgt := 58) hx hb dM_lookUp_53 (by decide) (fun c_2 => absurd c_2 (by decide)) (fun c_2 => ?_)
    refine lv_iconst (v := 0) hx hb dM_lookUp_56 (by decide) ?_
    exact W.iret hx hb hr (fun t ht hW => ⟨⟨_, (), rfl, rfl, (by have h9 : va_P D tbCl [(m0, .inr (2, [.int 1, .int mn, .ref a1, .ref a2, .ref a3, .ref a4, .int zz, .ref a5, .ref a6, .int si])), (a1, .inl (cI, 8, .inl f1)), (a2, .inl (cI, 8, .inl f2)), (a3, .inl (cI, 8, .inl f3)), (a4, .inl (cI, 8192, .inl f4)), (a5, .inl (cI, 1024, .inl f5)), (a6, .inl (cI, 1024, .inl f6))] H := hP; rw [← ht] at h9; exact h9)⟩, hS.F ht⟩) hS.2.2 dM_lookUp_57
  · exact absurd hno c_1

set_option maxHeartbeats 4000000 in
set_option maxRecDepth 100000 in
theorem kM_lookUp_nolevel (l : Launch) (D : va_G) (sz : Nat) (cI : ClassId) (m0 a1 a2 a3 a4 a5 a6 : Nat) (th mn zz si : Int32) (f1 f2 f3 f4 f5 f6 : Nat → Int32) (j k : Nat) (hj : j < 8) (hk : k ≤ 5) (hf : f1 j = nI (2 ^ k)) (hth : ¬ tt_has mn (nI j) = 0) (lv9 u9 v9 : Int32) (hlv : lv9 < 0 ∨ ¬ lv9 ≤ nI k) : Met l yM_lookUp wM_lookUp (k2_rm 1 23) (wr_P [.ref m0, .int (nI j), .int lv9, .int u9, .int v9] sz D [(cI, .int)] [(m0, .inr (2, [.int th, .int mn, .ref a1, .ref a2, .ref a3, .ref a4, .int zz, .ref a5, .ref a6, .int si])), (a1, .inl (cI, 8, .inl f1)), (a2, .inl (cI, 8, .inl f2)), (a3, .inl (cI, 8, .inl f3)), (a4, .inl (cI, 8192, .inl f4)), (a5, .inl (cI, 1024, .inl f5)), (a6, .inl (cI, 1024, .inl f6))]) (wr_Qi 0 D (va_A [(m0, .inr (2, [.int th, .int mn, .ref a1, .ref a2, .ref a3, .ref a4, .int zz, .ref a5, .ref a6, .int si])), (a1, .inl (cI, 8, .inl f1)), (a2, .inl (cI, 8, .inl f2)), (a3, .inl (cI, 8, .inl f3)), (a4, .inl (cI, 8192, .inl f4)), (a5, .inl (cI, 1024, .inl f5)), (a6, .inl (cI, 1024, .inl f6))] sz) [(m0, .inr (2, [.int 1, .int mn, .ref a1, .ref a2, .ref a3, .ref a4, .int zz, .ref a5, .ref a6, .int si])), (a1, .inl (cI, 8, .inl f1)), (a2, .inl (cI, 8, .inl f2)), (a3, .inl (cI, 8, .inl f3)), (a4, .inl (cI, 8192, .inl f4)), (a5, .inl (cI, 1024, .inl f5)), (a6, .inl (cI, 1024, .inl f6))]) 0 0 (va_A [(m0, .inr (2, [.int th, .int mn, .ref a1, .ref a2, .ref a3, .ref a4, .int zz, .ref a5, .ref a6, .int si])), (a1, .inl (cI, 8, .inl f1)), (a2, .inl (cI, 8, .inl f2)), (a3, .inl (cI, 8, .inl f3)), (a4, .inl (cI, 8192, .inl f4)), (a5, .inl (cI, 1024, .inl f5)), (a6, .inl (cI, 1024, .inl f6))] sz) := by
  refine Met.ofW (cc := cM_lookUp) (maxL := 12) (ret := (some .int)) (by decide) rfl ?_
  intro p e s m args below meth c s₁ B hml hv
  obtain ⟨rfl, hsz, hC, hP, hK, hD0⟩ := hv
  have hx := B.exec
  have hb := B.bytes
  have hr := B.returns
  have hB : ∀ w ∈ tbB, w.before _ s = true := fun w h => (atoms_spec (ws := wM_lookUp) B.pre) w (List.mem_cons_of_mem _ h)
  have hown : s.vm.findClass "TextureBankModel" = some m.cls := findClass_of_methodNamed B.named
  have hlocks := B.notSynchronized
  subst hsz
  have hD := hD0.self (sz := s.heap.size)
  generalize hAe : va_A [(m0, .inr (2, [.int th, .int mn, .ref a1, .ref a2, .ref a3, .ref a4, .int zz, .ref a5, .ref a6, .int si])), (a1, .inl (cI, 8, .inl f1)), (a2, .inl (cI, 8, .inl f2)), (a3, .inl (cI, 8, .inl f3)), (a4, .inl (cI, 8192, .inl f4)), (a5, .inl (cI, 1024, .inl f5)), (a6, .inl (cI, 1024, .inl f6))] s.heap.size = A at hD ⊢
  have hA : ∀ q : Nat, s.heap.size ≤ q → A q := fun q h => by rw [← hAe]; exact Or.inr h
  have hS : va_S A s.heap s.heap [] := va_S.rf
  have hl := lv_entry ([.ref m0, .int (nI j), .int lv9, .int u9, .int v9]) (n := 12) (Nat.le_of_ble_eq_true rfl)
  rw [lg_entry_eq]
  generalize (lg_sl ([.ref m0, .int (nI j), .int lv9, .int u9, .int v9]) ++ List.replicate (12 - (lg_sl ([.ref m0, .int (nI j), .int lv9, .int u9, .int v9])).length) Slot.unset).toArray = ls at hl ⊢
  have hl : lv_has ls 12 [(0, .ref m0), (1, .int (nI j)), (2, .int lv9), (3, .int u9), (4, .int v9)] := hl
  refine lv_aload_n hx hb dM_lookUp_0 rfl (lv_at hl 0 rfl) ?_
  refine lv_aload_n hx hb dM_lookUp_1 rfl (lv_at hl 0 rfl) ?_
  refine lv_iload_n hx hb dM_lookUp_2 rfl (lv_at hl 1 rfl) ?_
  refine W.callV (W.runV (C := "TextureBankModel") (As := [.int (nI j)]) (rest := [.ref m0]) ⟨hx, hb, hml, hown, hB⟩ (kM_isThere l D cI m0 a1 a2 a3 a4 a5 a6 th mn zz si f1 f2 f3 f4 f5 f6 (nI j)) ⟨callB_of 1 hB gwM_isThere rfl rfl rfl (hB _ wd_3) (hB _ wd_377) ydM_isThere ⟨Nat.le_of_ble_eq_true rfl, Nat.le_of_ble_eq_true rfl⟩, hB _ wd_379, hB _ ws_12⟩ (rd_V hC hP hK (va_recv hK hP (ci := 2) (q0 := 0) rfl rfl)) rfl rfl hl.1 rfl (lv_room (Nat.le_of_ble_eq_true rfl)) dM_lookUp_3 ⟨Nat.zero_le _, Nat.zero_le _⟩) ?_
  refine W.eq (g2 := F0 m 6 ls [.int (tt_has mn (nI j)), .ref m0]) rfl ?_
  refine lv_if_eq (tgt := 22) hx hb dM_lookUp_6 (by decide) (fun c_1 => ?_) (fun c_1 => ?_)
  · exact absurd c_1 hth
  · refine lv_iload_n hx hb dM_lookUp_9 rfl (lv_at hl 2 rfl) ?_
    refine lv_if_lt (tgt := 22) hx hb dM_lookUp_10 (by decide) (fun c_2 => ?_) (fun c_2 => ?_)
    · refine lv_iconst (v := 1) hx hb dM_lookUp_22 (by decide) ?_
      refine lv_goto (tgt := 46) hx hb dM_lookUp_23 (by decide) ?_
      refine va_put (D := D) (ci := 2) (v := .int 1) (ty := .int) (C := RM) (T := FM) (N := 10) hx hb hB inM tyM tyM_ok nmM hown hK hP hD hS 0 rfl rfl 0 (by decide) (hB _ wd_322) (fun _ h9 => h9) rfl (by decide +kernel) rfl rfl (Nat.le_of_ble_eq_true rfl) dM_lookUp_46 (fun H locs hP hD hS => ?_)
      have hP : va_P D tbCl [(m0, .inr (2, [.int 1, .int mn, .ref a1, .ref a2, .ref a3, .ref a4, .int zz, .ref a5, .ref a6, .int si])), (a1, .inl (cI, 8, .inl f1)), (a2, .inl (cI, 8, .inl f2)), (a3, .inl (cI, 8, .inl f3)), (a4, .inl (cI, 8192, .inl f4)), (a5, .inl (cI, 1024, .inl f5)), (a6, .inl (cI, 1024, .inl f6))] H := hP
      have hD : va_D A [(m0, .inr (2, [.int 1, .int mn, .ref a1, .ref a2, .ref a3, .ref a4, .int zz, .ref a5, .ref a6, .int si])), (a1, .inl (cI, 8, .inl f1)), (a2, .inl (cI, 8, .inl f2)), (a3, .inl (cI, 8, .inl f3)), (a4, .inl (cI, 8192, .inl f4)), (a5, .inl (cI, 1024, .inl f5)), (a6, .inl (cI, 1024, .inl f6))] := hD
      refine lv_aload_n hx hb dM_lookUp_49 rfl (lv_at hl 0 rfl) ?_
      refine va_get (D := D) (ci := 2) (v := .int 1) (C := RM) (T := FM) (N := 10) hx hb hB inM hown hK hP 0 rfl rfl 0 (by decide) (hB _ wd_322) (fun _ h9 => h9) rfl dM_lookUp_50 ?_
      refine lv_if_eq (tgt := 58) hx hb dM_lookUp_53 (by decide) (fun c_3 => absurd c_3 (by decide)) (fun c_3 => ?_)
      refine lv_iconst (v := 0) hx hb dM_lookUp_56 (by decide) ?_
      exact W.iret hx hb hr (fun t ht hW => ⟨⟨_, (), rfl, rfl, (by have h9 : va_P D tbCl [(m0, .inr (2, [.int 1, .int mn, .ref a1, .ref a2, .ref a3, .ref a4, .int zz, .ref a5, .ref a6, .int si])), (a1, .inl (cI, 8, .inl f1)), (a2, .inl (cI, 8, .inl f2)), (a3, .inl (cI, 8, .inl f3)), (a4, .inl (cI, 8192, .inl f4)), (a5, .inl (cI, 1024, .inl f5)), (a6, .inl (cI, 1024, .inl f6))] H := hP; rw [← ht] at h9; exact h9)⟩, hS.F ht⟩) hS.2.2 dM_lookUp_57
    · refine lv_iload_n hx hb dM_lookUp_13 rfl (lv_at hl 2 rfl) ?_
      refine lv_aload_n hx hb dM_lookUp_14 rfl (lv_at hl 0 rfl) ?_
      refine lv_iload_n hx hb dM_lookUp_15 rfl (lv_at hl 1 rfl) ?_
      refine W.callV (W.runV (C := "TextureBankModel") (As := [.int (nI j)]) (rest := [.int lv9, .ref m0]) ⟨hx, hb, hml, hown, hB⟩ (kM_last l D cI m0 a1 a2 a3 a4 a5 a6 th mn zz si f1 f2 f3 f4 f5 f6 j k hj hk hf) ⟨callB_of 1 hB gwM_last rfl rfl rfl (hB _ wd_3) (hB _ wd_384) ydM_last ⟨Nat.le_of_ble_eq_true rfl, Nat.le_of_ble_eq_true rfl⟩, hB _ wd_386, hB _ ws_13⟩ (rd_V hC hP hK (va_recv hK hP (ci := 2) (q0 := 0) rfl rfl)) rfl rfl hl.1 rfl (lv_room (Nat.le_of_ble_eq_true rfl)) dM_lookUp_16 ⟨Nat.zero_le _, Nat.zero_le _⟩) ?_
      refine W.eq (g2 := F0 m 19 ls [.int (nI k), .int lv9, .ref m0]) rfl ?_
      refine lv_icmp_le (tgt := 26) hx hb dM_lookUp_19 (by decide) (fun c_4 => ?_) (fun c_4 => ?_)
      · exact absurd c_4 (hlv.elim (fun h => absurd h c_2) id)
      · refine lv_iconst (v := 1) hx hb dM_lookUp_22 (by decide) ?_
        refine lv_goto (tgt := 46) hx hb dM_lookUp_23 (by decide) ?_
        refine va_put (D := D) (ci := 2) (v := .int 1) (ty := .int) (C := RM) (T := FM) (N := 10) hx hb hB inM tyM tyM_ok nmM hown hK hP hD hS 0 rfl rfl 0 (by decide) (hB _ wd_322) (fun _ h9 => h9) rfl (by decide +kernel) rfl rfl (Nat.le_of_ble_eq_true rfl) dM_lookUp_46 (fun H locs hP hD hS => ?_)
        have hP : va_P D tbCl [(m0, .inr (2, [.int 1, .int mn, .ref a1, .ref a2, .ref a3, .ref a4, .int zz, .ref a5, .ref a6, .int si])), (a1, .inl (cI, 8, .inl f1)), (a2, .inl (cI, 8, .inl f2)), (a3, .inl (cI, 8, .inl f3)), (a4, .inl (cI, 8192, .inl f4)), (a5, .inl (cI, 1024, .inl f5)), (a6, .inl (cI, 1024, .inl f6))] H := hP
        have hD : va_D A [(m0, .inr (2, [.int 1, .int mn, .ref a1, .ref a2, .ref a3, .ref a4, .int zz, .ref a5, .ref a6, .int si])), (a1, .inl (cI, 8, .inl f1)), (a2, .inl (cI, 8, .inl f2)), (a3, .inl (cI, 8, .inl f3)), (a4, .inl (cI, 8192, .inl f4)), (a5, .inl (cI, 1024, .inl f5)), (a6, .inl (cI, 1024, .inl f6))] := hD
        refine lv_aload_n hx hb dM_lookUp_49 rfl (lv_at hl 0 rfl) ?_
        refine va_get (D := D) (ci := 2) (v := .int 1) (C := RM) (T := FM) (N := 10) hx hb hB inM hown hK hP 0 rfl rfl 0 (by decide) (hB _ wd_322) (fun _ h9 => h9) rfl dM_lookUp_50 ?_
        refine lv_if_eq (tgt := 58) hx hb dM_lookUp_53 (by decide) (fun c_5 => absurd c_5 (by decide)) (fun c_5 => ?_)
        refine lv_iconst (v := 0) hx hb dM_lookUp_56 (by decide) ?_
        exact W.iret hx hb hr (fun t ht hW => ⟨⟨_, (), rfl, rfl, (by have h9 : va_P D tbCl [(m0, .inr (2, [.int 1, .int mn, .ref a1, .ref a2, .ref a3, .ref a4, .int zz, .ref a5, .ref a6, .int si])), (a1, .inl (cI, 8, .inl f1)), (a2, .inl (cI, 8, .inl f2)), (a3, .inl (cI, 8, .inl f3)), (a4, .inl (cI, 8192, .inl f4)), (a5, .inl (cI, 1024, .inl f5)), (a6, .inl (cI, 1024, .inl f6))] H := hP; rw [← ht] at h9; exact h9)⟩, hS.F ht⟩) hS.2.2 dM_lookUp_57

set_option maxHeartbeats 4000000 in
set_option maxRecDepth 100000 in
theorem kM_texel_none (l : Launch) (D : va_G) (sz : Nat) (cI : ClassId) (m0 a1 a2 a3 a4 a5 a6 : Nat) (th mn zz si : Int32) (f1 f2 f3 f4 f5 f6 : Nat → Int32) (t9 : Int32) (lv9 u9 v9 : Int32) (hno : tt_has mn t9 = 0) : Met l yM_texel wM_texel (k2_rm 1 21) (wr_P [.ref m0, .int t9, .int lv9, .int u9, .int v9] sz D [(cI, .int)] [(m0, .inr (2, [.int th, .int mn, .ref a1, .ref a2, .ref a3, .ref a4, .int zz, .ref a5, .ref a6, .int si])), (a1, .inl (cI, 8, .inl f1)), (a2, .inl (cI, 8, .inl f2)), (a3, .inl (cI, 8, .inl f3)), (a4, .inl (cI, 8192, .inl f4)), (a5, .inl (cI, 1024, .inl f5)), (a6, .inl (cI, 1024, .inl f6))]) (wr_Qi 0 D (va_A [(m0, .inr (2, [.int th, .int mn, .ref a1, .ref a2, .ref a3, .ref a4, .int zz, .ref a5, .ref a6, .int si])), (a1, .inl (cI, 8, .inl f1)), (a2, .inl (cI, 8, .inl f2)), (a3, .inl (cI, 8, .inl f3)), (a4, .inl (cI, 8192, .inl f4)), (a5, .inl (cI, 1024, .inl f5)), (a6, .inl (cI, 1024, .inl f6))] sz) [(m0, .inr (2, [.int 1, .int mn, .ref a1, .ref a2, .ref a3, .ref a4, .int zz, .ref a5, .ref a6, .int si])), (a1, .inl (cI, 8, .inl f1)), (a2, .inl (cI, 8, .inl f2)), (a3, .inl (cI, 8, .inl f3)), (a4, .inl (cI, 8192, .inl f4)), (a5, .inl (cI, 1024, .inl f5)), (a6, .inl (cI, 1024, .inl f6))]) 0 0 (va_A [(m0, .inr (2, [.int th, .int mn, .ref a1, .ref a2, .ref a3, .ref a4, .int zz, .ref a5, .ref a6, .int si])), (a1, .inl (cI, 8, .inl f1)), (a2, .inl (cI, 8, .inl f2)), (a3, .inl (cI, 8, .inl f3)), (a4, .inl (cI, 8192, .inl f4)), (a5, .inl (cI, 1024, .inl f5)), (a6, .inl (cI, 1024, .inl f6))] sz) := by
  refine Met.ofW (cc := cM_texel) (maxL := 5) (ret := (some .int)) (by decide) rfl ?_
  intro p e s m args below meth c s₁ B hml hv
  obtain ⟨rfl, hsz, hC, hP, hK, hD0⟩ := hv
  have hx := B.exec
  have hb := B.bytes
  have hr := B.returns
  have hB : ∀ w ∈ tbB, w.before _ s = true := fun w h => (atoms_spec (ws := wM_texel) B.pre) w (List.mem_cons_of_mem _ h)
  have hown : s.vm.findClass "TextureBankModel" = some m.cls := findClass_of_methodNamed B.named
  have hlocks := B.notSynchronized
  subst hsz
  have hD := hD0.self (sz := s.heap.size)
  generalize hAe : va_A [(m0, .inr (2, [.int th, .int mn, .ref a1, .ref a2, .ref a3, .ref a4, .int zz, .ref a5, .ref a6, .int si])), (a1, .inl (cI, 8, .inl f1)), (a2, .inl (cI, 8, .inl f2)), (a3, .inl (cI, 8, .inl f3)), (a4, .inl (cI, 8192, .inl f4)), (a5, .inl (cI, 1024, .inl f5)), (a6, .inl (cI, 1024, .inl f6))] s.heap.size = A at hD ⊢
  have hA : ∀ q : Nat, s.heap.size ≤ q → A q := fun q h => by rw [← hAe]; exact Or.inr h
  have hS : va_S A s.heap s.heap [] := va_S.rf
  have hl := lv_entry ([.ref m0, .int t9, .int lv9, .int u9, .int v9]) (n := 5) (Nat.le_of_ble_eq_true rfl)
  rw [lg_entry_eq]
  generalize (lg_sl ([.ref m0, .int t9, .int lv9, .int u9, .int v9]) ++ List.replicate (5 - (lg_sl ([.ref m0, .int t9, .int lv9, .int u9, .int v9])).length) Slot.unset).toArray = ls at hl ⊢
  have hl : lv_has ls 5 [(0, .ref m0), (1, .int t9), (2, .int lv9), (3, .int u9), (4, .int v9)] := hl
  refine lv_aload_n hx hb dM_texel_0 rfl (lv_at hl 0 rfl) ?_
  refine lv_aload_n hx hb dM_texel_1 rfl (lv_at hl 0 rfl) ?_
  refine lv_iload_n hx hb dM_texel_2 rfl (lv_at hl 1 rfl) ?_
  refine W.callV (W.runV (C := "TextureBankModel") (As := [.int t9]) (rest := [.ref m0]) ⟨hx, hb, hml, hown, hB⟩ (kM_isThere l D cI m0 a1 a2 a3 a4 a5 a6 th mn zz si f1 f2 f3 f4 f5 f6 t9) ⟨callB_of 1 hB gwM_isThere rfl rfl rfl (hB _ wd_3) (hB _ wd_377) ydM_isThere ⟨Nat.le_of_ble_eq_true rfl, Nat.le_of_ble_eq_true rfl⟩, hB _ wd_379, hB _ ws_12⟩ (rd_V hC hP hK (va_recv hK hP (ci := 2) (q0 := 0) rfl rfl)) rfl rfl hl.1 rfl (lv_room (Nat.le_of_ble_eq_true rfl)) dM_texel_3 ⟨Nat.zero_le _, Nat.zero_le _⟩) ?_
  refine W.eq (g2 := F0 m 6 ls [.int (tt_has mn t9), .ref m0]) rfl ?_
  refine lv_if_eq (tgt := 22) hx hb dM_texel_6 (by decide) (fun c_1 => ?_) (fun c_1 => ?_)
  · refine lv_iconst (v := 1) hx hb dM_texel_22 (by decide) ?_
    refine lv_goto (tgt := 27) hx hb dM_texel_23 (by decide) ?_
    refine va_put (D := D) (ci := 2) (v := .int 1) (ty := .int) (C := RM) (T := FM) (N := 10) hx hb hB inM tyM tyM_ok nmM hown hK hP hD hS 0 rfl rfl 0 (by decide) (hB _ wd_322) (fun _ h9 => h9) rfl (by decide +kernel) rfl rfl (Nat.le_of_ble_eq_true rfl) dM_texel_27 (fun H locs hP hD hS => ?_)
    have hP : va_P D tbCl [(m0, .inr (2, [.int 1, .int mn, .ref a1, .ref a2, .ref a3, .ref a4, .int zz, .ref a5, .ref a6, .int si])), (a1, .inl (cI, 8, .inl f1)), (a2, .inl (cI, 8, .inl f2)), (a3, .inl (cI, 8, .inl f3)), (a4, .inl (cI, 8192, .inl f4)), (a5, .inl (cI, 1024, .inl f5)), (a6, .inl (cI, 1024, .inl f6))] H := hP
    have hD : va_D A [(m0, .inr (2, [.int 1, .int mn, .ref a1, .ref a2, .ref a3, .ref a4, .int zz, .ref a5, .ref a6, .int si])), (a1, .inl (cI, 8, .inl f1)), (a2, .inl (cI, 8, .inl f2)), (a3, .inl (cI, 8, .inl f3)), (a4, .inl (cI, 8192, .inl f4)), (a5, .inl (cI, 1024, .inl f5)), (a6, .inl (cI, 1024, .inl f6))] := hD
    refine lv_aload_n hx hb dM_texel_30 rfl (lv_at hl 0 rfl) ?_
    refine va_get (D := D) (ci := 2) (v := .int 1) (C := RM) (T := FM) (N := 10) hx hb hB inM hown hK hP 0 rfl rfl 0 (by decide) (hB _ wd_322) (fun _ h9 => h9) rfl dM_texel_31 ?_
    refine lv_if_eq (tgt := 39) hx hb dM_texel_34 (by decide) (fun c_2 => absurd c_2 (by decide)) (fun c_2 => ?_)
    refine lv_iconst (v := 0) hx hb dM_texel_37 (by decide) ?_
    exact W.iret hx hb hr (fun t ht hW => ⟨⟨_, (), rfl, rfl, (by have h9 : va_P D tbCl [(m0, .inr (2, [.int 1, .int mn, .ref a1, .ref a2, .ref a3, .ref a4, .int zz, .ref a5, .ref a6, .int si])), (a1, .inl (cI, 8, .inl f1)), (a2, .inl (cI, 8, .inl f2)), (a3, .inl (cI, 8, .inl f3)), (a4, .inl (cI, 8192, .inl f4)), (a5, .inl (cI, 1024, .inl f5)), (a6, .inl (cI, 1024, .inl f6))] H := hP; rw [← ht] at h9; exact h9)⟩, hS.F ht⟩) hS.2.2 dM_texel_38
  · exact absurd hno c_1

set_option maxHeartbeats 4000000 in
set_option maxRecDepth 100000 in
theorem kM_texel_nolevel (l : Launch) (D : va_G) (sz : Nat) (cI : ClassId) (m0 a1 a2 a3 a4 a5 a6 : Nat) (th mn zz si : Int32) (f1 f2 f3 f4 f5 f6 : Nat → Int32) (j k : Nat) (hj : j < 8) (hk : k ≤ 5) (hf : f1 j = nI (2 ^ k)) (hth : ¬ tt_has mn (nI j) = 0) (lv9 u9 v9 : Int32) (hlv : lv9 < 0 ∨ ¬ lv9 ≤ nI k) : Met l yM_texel wM_texel (k2_rm 1 23) (wr_P [.ref m0, .int (nI j), .int lv9, .int u9, .int v9] sz D [(cI, .int)] [(m0, .inr (2, [.int th, .int mn, .ref a1, .ref a2, .ref a3, .ref a4, .int zz, .ref a5, .ref a6, .int si])), (a1, .inl (cI, 8, .inl f1)), (a2, .inl (cI, 8, .inl f2)), (a3, .inl (cI, 8, .inl f3)), (a4, .inl (cI, 8192, .inl f4)), (a5, .inl (cI, 1024, .inl f5)), (a6, .inl (cI, 1024, .inl f6))]) (wr_Qi 0 D (va_A [(m0, .inr (2, [.int th, .int mn, .ref a1, .ref a2, .ref a3, .ref a4, .int zz, .ref a5, .ref a6, .int si])), (a1, .inl (cI, 8, .inl f1)), (a2, .inl (cI, 8, .inl f2)), (a3, .inl (cI, 8, .inl f3)), (a4, .inl (cI, 8192, .inl f4)), (a5, .inl (cI, 1024, .inl f5)), (a6, .inl (cI, 1024, .inl f6))] sz) [(m0, .inr (2, [.int 1, .int mn, .ref a1, .ref a2, .ref a3, .ref a4, .int zz, .ref a5, .ref a6, .int si])), (a1, .inl (cI, 8, .inl f1)), (a2, .inl (cI, 8, .inl f2)), (a3, .inl (cI, 8, .inl f3)), (a4, .inl (cI, 8192, .inl f4)), (a5, .inl (cI, 1024, .inl f5)), (a6, .inl (cI, 1024, .inl f6))]) 0 0 (va_A [(m0, .inr (2, [.int th, .int mn, .ref a1, .ref a2, .ref a3, .ref a4, .int zz, .ref a5, .ref a6, .int si])), (a1, .inl (cI, 8, .inl f1)), (a2, .inl (cI, 8, .inl f2)), (a3, .inl (cI, 8, .inl f3)), (a4, .inl (cI, 8192, .inl f4)), (a5, .inl (cI, 1024, .inl f5)), (a6, .inl (cI, 1024, .inl f6))] sz) := by
  refine Met.ofW (cc := cM_texel) (maxL := 5) (ret := (some .int)) (by decide) rfl ?_
  intro p e s m args below meth c s₁ B hml hv
  obtain ⟨rfl, hsz, hC, hP, hK, hD0⟩ := hv
  have hx := B.exec
  have hb := B.bytes
  have hr := B.returns
  have hB : ∀ w ∈ tbB, w.before _ s = true := fun w h => (atoms_spec (ws := wM_texel) B.pre) w (List.mem_cons_of_mem _ h)
  have hown : s.vm.findClass "TextureBankModel" = some m.cls := findClass_of_methodNamed B.named
  have hlocks := B.notSynchronized
  subst hsz
  have hD := hD0.self (sz := s.heap.size)
  generalize hAe : va_A [(m0, .inr (2, [.int th, .int mn, .ref a1, .ref a2, .ref a3, .ref a4, .int zz, .ref a5, .ref a6, .int si])), (a1, .inl (cI, 8, .inl f1)), (a2, .inl (cI, 8, .inl f2)), (a3, .inl (cI, 8, .inl f3)), (a4, .inl (cI, 8192, .inl f4)), (a5, .inl (cI, 1024, .inl f5)), (a6, .inl (cI, 1024, .inl f6))] s.heap.size = A at hD ⊢
  have hA : ∀ q : Nat, s.heap.size ≤ q → A q := fun q h => by rw [← hAe]; exact Or.inr h
  have hS : va_S A s.heap s.heap [] := va_S.rf
  have hl := lv_entry ([.ref m0, .int (nI j), .int lv9, .int u9, .int v9]) (n := 5) (Nat.le_of_ble_eq_true rfl)
  rw [lg_entry_eq]
  generalize (lg_sl ([.ref m0, .int (nI j), .int lv9, .int u9, .int v9]) ++ List.replicate (5 - (lg_sl ([.ref m0, .int (nI j), .int lv9, .int u9, .int v9])).length) Slot.unset).toArray = ls at hl ⊢
  have hl : lv_has ls 5 [(0, .ref m0), (1, .int (nI j)), (2, .int lv9), (3, .int u9), (4, .int v9)] := hl
  refine lv_aload_n hx hb dM_texel_0 rfl (lv_at hl 0 rfl) ?_
  refine lv_aload_n hx hb dM_texel_1 rfl (lv_at hl 0 rfl) ?_
  refine lv_iload_n hx hb dM_texel_2 rfl (lv_at hl 1 rfl) ?_
  refine W.callV (W.runV (C := "TextureBankModel") (As := [.int (nI j)]) (rest := [.ref m0]) ⟨hx, hb, hml, hown, hB⟩ (kM_isThere l D cI m0 a1 a2 a3 a4 a5 a6 th mn zz si f1 f2 f3 f4 f5 f6 (nI j)) ⟨callB_of 1 hB gwM_isThere rfl rfl rfl (hB _ wd_3) (hB _ wd_377) ydM_isThere ⟨Nat.le_of_ble_eq_true rfl, Nat.le_of_ble_eq_true rfl⟩, hB _ wd_379, hB _ ws_12⟩ (rd_V hC hP hK (va_recv hK hP (ci := 2) (q0 := 0) rfl rfl)) rfl rfl hl.1 rfl (lv_room (Nat.le_of_ble_eq_true rfl)) dM_texel_3 ⟨Nat.zero_le _, Nat.zero_le _⟩) ?_
  refine W.eq (g2 := F0 m 6 ls [.int (tt_has mn (nI j)), .ref m0]) rfl ?_
  refine lv_if_eq (tgt := 22) hx hb dM_texel_6 (by decide) (fun c_1 => ?_) (fun c_1 => ?_)
  · exact absurd c_1 hth
  · refine lv_iload_n hx hb dM_texel_9 rfl (lv_at hl 2 rfl) ?_
    refine lv_if_lt (tgt := 22) hx hb dM_texel_10 (by decide) (fun c_2 => ?_) (fun c_2 => ?_)
    · refine lv_iconst (v := 1) hx hb dM_texel_22 (by decide) ?_
      refine lv_goto (tgt := 27) hx hb dM_texel_23 (by decide) ?_
      refine va_put (D := D) (ci := 2) (v := .int 1) (ty := .int) (C := RM) (T := FM) (N := 10) hx hb hB inM tyM tyM_ok nmM hown hK hP hD hS 0 rfl rfl 0 (by decide) (hB _ wd_322) (fun _ h9 => h9) rfl (by decide +kernel) rfl rfl (Nat.le_of_ble_eq_true rfl) dM_texel_27 (fun H locs hP hD hS => ?_)
      have hP : va_P D tbCl [(m0, .inr (2, [.int 1, .int mn, .ref a1, .ref a2, .ref a3, .ref a4, .int zz, .ref a5, .ref a6, .int si])), (a1, .inl (cI, 8, .inl f1)), (a2, .inl (cI, 8, .inl f2)), (a3, .inl (cI, 8, .inl f3)), (a4, .inl (cI, 8192, .inl f4)), (a5, .inl (cI, 1024, .inl f5)), (a6, .inl (cI, 1024, .inl f6))] H := hP
      have hD : va_D A [(m0, .inr (2, [.int 1, .int mn, .ref a1, .ref a2, .ref a3, .ref a4, .int zz, .ref a5, .ref a6, .int si])), (a1, .inl (cI, 8, .inl f1)), (a2, .inl (cI, 8, .inl f2)), (a3, .inl (cI, 8, .inl f3)), (a4, .inl (cI, 8192, .inl f4)), (a5, .inl (cI, 1024, .inl f5)), (a6, .inl (cI, 1024, .inl f6))] := hD
      refine lv_aload_n hx hb dM_texel_30 rfl (lv_at hl 0 rfl) ?_
      refine va_get (D := D) (ci := 2) (v := .int 1) (C := RM) (T := FM) (N := 10) hx hb hB inM hown hK hP 0 rfl rfl 0 (by decide) (hB _ wd_322) (fun _ h9 => h9) rfl dM_texel_31 ?_
      refine lv_if_eq (tgt := 39) hx hb dM_texel_34 (by decide) (fun c_3 => absurd c_3 (by decide)) (fun c_3 => ?_)
      refine lv_iconst (v := 0) hx hb dM_texel_37 (by decide) ?_
      exact W.iret hx hb hr (fun t ht hW => ⟨⟨_, (), rfl, rfl, (by have h9 : va_P D tbCl [(m0, .inr (2, [.int 1, .int mn, .ref a1, .ref a2, .ref a3, .ref a4, .int zz, .ref a5, .ref a6, .int si])), (a1, .inl (cI, 8, .inl f1)), (a2, .inl (cI, 8, .inl f2)), (a3, .inl (cI, 8, .inl f3)), (a4, .inl (cI, 8192, .inl f4)), (a5, .inl (cI, 1024, .inl f5)), (a6, .inl (cI, 1024, .inl f6))] H := hP; rw [← ht] at h9; exact h9)⟩, hS.F ht⟩) hS.2.2 dM_texel_38
    · refine lv_iload_n hx hb dM_texel_13 rfl (lv_at hl 2 rfl) ?_
      refine lv_aload_n hx hb dM_texel_14 rfl (lv_at hl 0 rfl) ?_
      refine lv_iload_n hx hb dM_texel_15 rfl (lv_at hl 1 rfl) ?_
      refine W.callV (W.runV (C := "TextureBankModel") (As := [.int (nI j)]) (rest := [.int lv9, .ref m0]) ⟨hx, hb, hml, hown, hB⟩ (kM_last l D cI m0 a1 a2 a3 a4 a5 a6 th mn zz si f1 f2 f3 f4 f5 f6 j k hj hk hf) ⟨callB_of 1 hB gwM_last rfl rfl rfl (hB _ wd_3) (hB _ wd_384) ydM_last ⟨Nat.le_of_ble_eq_true rfl, Nat.le_of_ble_eq_true rfl⟩, hB _ wd_386, hB _ ws_13⟩ (rd_V hC hP hK (va_recv hK hP (ci := 2) (q0 := 0) rfl rfl)) rfl rfl hl.1 rfl (lv_room (Nat.le_of_ble_eq_true rfl)) dM_texel_16 ⟨Nat.zero_le _, Nat.zero_le _⟩) ?_
      refine W.eq (g2 := F0 m 19 ls [.int (nI k), .int lv9, .ref m0]) rfl ?_
      refine lv_icmp_le (tgt := 26) hx hb dM_texel_19 (by decide) (fun c_4 => ?_) (fun c_4 => ?_)
      · exact absurd c_4 (hlv.elim (fun h => absurd h c_2) id)
      · refine lv_iconst (v := 1) hx hb dM_texel_22 (by decide) ?_
        refine lv_goto (tgt := 27) hx hb dM_texel_23 (by decide) ?_
        refine va_put (D := D) (ci := 2) (v := .int 1) (ty := .int) (C := RM) (T := FM) (N := 10) hx hb hB inM tyM tyM_ok nmM hown hK hP hD hS 0 rfl rfl 0 (by decide) (hB _ wd_322) (fun _ h9 => h9) rfl (by decide +kernel) rfl rfl (Nat.le_of_ble_eq_true rfl) dM_texel_27 (fun H locs hP hD hS => ?_)
        have hP : va_P D tbCl [(m0, .inr (2, [.int 1, .int mn, .ref a1, .ref a2, .ref a3, .ref a4, .int zz, .ref a5, .ref a6, .int si])), (a1, .inl (cI, 8, .inl f1)), (a2, .inl (cI, 8, .inl f2)), (a3, .inl (cI, 8, .inl f3)), (a4, .inl (cI, 8192, .inl f4)), (a5, .inl (cI, 1024, .inl f5)), (a6, .inl (cI, 1024, .inl f6))] H := hP
        have hD : va_D A [(m0, .inr (2, [.int 1, .int mn, .ref a1, .ref a2, .ref a3, .ref a4, .int zz, .ref a5, .ref a6, .int si])), (a1, .inl (cI, 8, .inl f1)), (a2, .inl (cI, 8, .inl f2)), (a3, .inl (cI, 8, .inl f3)), (a4, .inl (cI, 8192, .inl f4)), (a5, .inl (cI, 1024, .inl f5)), (a6, .inl (cI, 1024, .inl f6))] := hD
        refine lv_aload_n hx hb dM_texel_30 rfl (lv_at hl 0 rfl) ?_
        refine va_get (D := D) (ci := 2) (v := .int 1) (C := RM) (T := FM) (N := 10) hx hb hB inM hown hK hP 0 rfl rfl 0 (by decide) (hB _ wd_322) (fun _ h9 => h9) rfl dM_texel_31 ?_
        refine lv_if_eq (tgt := 39) hx hb dM_texel_34 (by decide) (fun c_5 => absurd c_5 (by decide)) (fun c_5 => ?_)
        refine lv_iconst (v := 0) hx hb dM_texel_37 (by decide) ?_
        exact W.iret hx hb hr (fun t ht hW => ⟨⟨_, (), rfl, rfl, (by have h9 : va_P D tbCl [(m0, .inr (2, [.int 1, .int mn, .ref a1, .ref a2, .ref a3, .ref a4, .int zz, .ref a5, .ref a6, .int si])), (a1, .inl (cI, 8, .inl f1)), (a2, .inl (cI, 8, .inl f2)), (a3, .inl (cI, 8, .inl f3)), (a4, .inl (cI, 8192, .inl f4)), (a5, .inl (cI, 1024, .inl f5)), (a6, .inl (cI, 1024, .inl f6))] H := hP; rw [← ht] at h9; exact h9)⟩, hS.F ht⟩) hS.2.2 dM_texel_38

set_option maxHeartbeats 4000000 in
set_option maxRecDepth 100000 in
theorem kM_lookUp_bad (l : Launch) (D : va_G) (sz : Nat) (cI : ClassId) (m0 a1 a2 a3 a4 a5 a6 : Nat) (th mn zz si : Int32) (f1 f2 f3 f4 f5 f6 : Nat → Int32) (j k L : Nat) (hj : j < 8) (hk : k ≤ 5) (hL : L ≤ k) (hf : f1 j = nI (2 ^ k)) (hth : ¬ tt_has mn (nI j) = 0) (u9 v9 : Int32) (hbad : tt_isPlace u9 = 0 ∨ tt_isPlace v9 = 0) : Met l yM_lookUp wM_lookUp (k2_rm 1 23) (wr_P [.ref m0, .int (nI j), .int (nI L), .int u9, .int v9] sz D [(cI, .int)] [(m0, .inr (2, [.int th, .int mn, .ref a1, .ref a2, .ref a3, .ref a4, .int zz, .ref a5, .ref a6, .int si])), (a1, .inl (cI, 8, .inl f1)), (a2, .inl (cI, 8, .inl f2)), (a3, .inl (cI, 8, .inl f3)), (a4, .inl (cI, 8192, .inl f4)), (a5, .inl (cI, 1024, .inl f5)), (a6, .inl (cI, 1024, .inl f6))]) (wr_Qi 0 D (va_A [(m0, .inr (2, [.int th, .int mn, .ref a1, .ref a2, .ref a3, .ref a4, .int zz, .ref a5, .ref a6, .int si])), (a1, .inl (cI, 8, .inl f1)), (a2, .inl (cI, 8, .inl f2)), (a3, .inl (cI, 8, .inl f3)), (a4, .inl (cI, 8192, .inl f4)), (a5, .inl (cI, 1024, .inl f5)), (a6, .inl (cI, 1024, .inl f6))] sz) [(m0, .inr (2, [.int 2, .int mn, .ref a1, .ref a2, .ref a3, .ref a4, .int zz, .ref a5, .ref a6, .int si])), (a1, .inl (cI, 8, .inl f1)), (a2, .inl (cI, 8, .inl f2)), (a3, .inl (cI, 8, .inl f3)), (a4, .inl (cI, 8192, .inl f4)), (a5, .inl (cI, 1024, .inl f5)), (a6, .inl (cI, 1024, .inl f6))]) 0 0 (va_A [(m0, .inr (2, [.int th, .int mn, .ref a1, .ref a2, .ref a3, .ref a4, .int zz, .ref a5, .ref a6, .int si])), (a1, .inl (cI, 8, .inl f1)), (a2, .inl (cI, 8, .inl f2)), (a3, .inl (cI, 8, .inl f3)), (a4, .inl (cI, 8192, .inl f4)), (a5, .inl (cI, 1024, .inl f5)), (a6, .inl (cI, 1024, .inl f6))] sz) := by
  refine Met.ofW (cc := cM_lookUp) (maxL := 12) (ret := (some .int)) (by decide) rfl ?_
  intro p e s m args below meth c s₁ B hml hv
  obtain ⟨rfl, hsz, hC, hP, hK, hD0⟩ := hv
  have hx := B.exec
  have hb := B.bytes
  have hr := B.returns
  have hB : ∀ w ∈ tbB, w.before _ s = true := fun w h => (atoms_spec (ws := wM_lookUp) B.pre) w (List.mem_cons_of_mem _ h)
  have hown : s.vm.findClass "TextureBankModel" = some m.cls := findClass_of_methodNamed B.named
  have hlocks := B.notSynchronized
  subst hsz
  have hD := hD0.self (sz := s.heap.size)
  generalize hAe : va_A [(m0, .inr (2, [.int th, .int mn, .ref a1, .ref a2, .ref a3, .ref a4, .int zz, .ref a5, .ref a6, .int si])), (a1, .inl (cI, 8, .inl f1)), (a2, .inl (cI, 8, .inl f2)), (a3, .inl (cI, 8, .inl f3)), (a4, .inl (cI, 8192, .inl f4)), (a5, .inl (cI, 1024, .inl f5)), (a6, .inl (cI, 1024, .inl f6))] s.heap.size = A at hD ⊢
  have hA : ∀ q : Nat, s.heap.size ≤ q → A q := fun q h => by rw [← hAe]; exact Or.inr h
  have hS : va_S A s.heap s.heap [] := va_S.rf
  have hl := lv_entry ([.ref m0, .int (nI j), .int (nI L), .int u9, .int v9]) (n := 12) (Nat.le_of_ble_eq_true rfl)
  rw [lg_entry_eq]
  generalize (lg_sl ([.ref m0, .int (nI j), .int (nI L), .int u9, .int v9]) ++ List.replicate (12 - (lg_sl ([.ref m0, .int (nI j), .int (nI L), .int u9, .int v9])).length) Slot.unset).toArray = ls at hl ⊢
  have hl : lv_has ls 12 [(0, .ref m0), (1, .int (nI j)), (2, .int (nI L)), (3, .int u9), (4, .int v9)] := hl
  refine lv_aload_n hx hb dM_lookUp_0 rfl (lv_at hl 0 rfl) ?_
  refine lv_aload_n hx hb dM_lookUp_1 rfl (lv_at hl 0 rfl) ?_
  refine lv_iload_n hx hb dM_lookUp_2 rfl (lv_at hl 1 rfl) ?_
  refine W.callV (W.runV (C := "TextureBankModel") (As := [.int (nI j)]) (rest := [.ref m0]) ⟨hx, hb, hml, hown, hB⟩ (kM_isThere l D cI m0 a1 a2 a3 a4 a5 a6 th mn zz si f1 f2 f3 f4 f5 f6 (nI j)) ⟨callB_of 1 hB gwM_isThere rfl rfl rfl (hB _ wd_3) (hB _ wd_377) ydM_isThere ⟨Nat.le_of_ble_eq_true rfl, Nat.le_of_ble_eq_true rfl⟩, hB _ wd_379, hB _ ws_12⟩ (rd_V hC hP hK (va_recv hK hP (ci := 2) (q0 := 0) rfl rfl)) rfl rfl hl.1 rfl (lv_room (Nat.le_of_ble_eq_true rfl)) dM_lookUp_3 ⟨Nat.zero_le _, Nat.zero_le _⟩) ?_
  refine W.eq (g2 := F0 m 6 ls [.int (tt_has mn (nI j)), .ref m0]) rfl ?_
  refine lv_if_eq (tgt := 22) hx hb dM_lookUp_6 (by decide) (fun c_1 => ?_) (fun c_1 => ?_)
  · exact absurd c_1 hth
  · refine lv_iload_n hx hb dM_lookUp_9 rfl (lv_at hl 2 rfl) ?_
    refine lv_if_lt (tgt := 22) hx hb dM_lookUp_10 (by decide) (fun c_2 => ?_) (fun c_2 => ?_)
    · exact absurd c_2 (nI_pos (by omega))
    · refine lv_iload_n hx hb dM_lookUp_13 rfl (lv_at hl 2 rfl) ?_
      refine lv_aload_n hx hb dM_lookUp_14 rfl (lv_at hl 0 rfl) ?_
      refine lv_iload_n hx hb dM_lookUp_15 rfl (lv_at hl 1 rfl) ?_
      refine W.callV (W.runV (C := "TextureBankModel") (As := [.int (nI j)]) (rest := [.int (nI L), .ref m0]) ⟨hx, hb, hml, hown, hB⟩ (kM_last l D cI m0 a1 a2 a3 a4 a5 a6 th mn zz si f1 f2 f3 f4 f5 f6 j k hj hk hf) ⟨callB_of 1 hB gwM_last rfl rfl rfl (hB _ wd_3) (hB _ wd_384) ydM_last ⟨Nat.le_of_ble_eq_true rfl, Nat.le_of_ble_eq_true rfl⟩, hB _ wd_386, hB _ ws_13⟩ (rd_V hC hP hK (va_recv hK hP (ci := 2) (q0 := 0) rfl rfl)) rfl rfl hl.1 rfl (lv_room (Nat.le_of_ble_eq_true rfl)) dM_lookUp_16 ⟨Nat.zero_le _, Nat.zero_le _⟩) ?_
      refine W.eq (g2 := F0 m 19 ls [.int (nI k), .int (nI L), .ref m0]) rfl ?_
      refine lv_icmp_le (tgt := 26) hx hb dM_lookUp_19 (by decide) (fun c_3 => ?_) (fun c_3 => ?_)
      · refine lv_iload_n hx hb dM_lookUp_26 rfl (lv_at hl 3 rfl) ?_
        refine W.callV (W.runS (As := [.int u9]) (rest := [.ref m0]) ⟨hx, hb, hml, hown, hB⟩ (kM_isPlace l u9) ⟨callB_of 1 hB gwM_isPlace rfl rfl rfl (hB _ wd_3) (hB _ wd_393) ydM_isPlace ⟨Nat.le_of_ble_eq_true rfl, Nat.le_of_ble_eq_true rfl⟩, hB _ wd_394⟩ (preEq) rfl rfl hl.1 rfl (lv_room (Nat.le_of_ble_eq_true rfl)) dM_lookUp_27 ⟨Nat.zero_le _, Nat.zero_le _⟩) ?_
        refine W.eq (g2 := F0 m 30 ls [.int (tt_isPlace u9), .ref m0]) rfl ?_
        refine lv_if_eq (tgt := 41) hx hb dM_lookUp_30 (by decide) (fun c_4 => ?_) (fun c_4 => ?_)
        · refine lv_iconst (v := 2) hx hb dM_lookUp_41 (by decide) ?_
          refine lv_goto (tgt := 46) hx hb dM_lookUp_42 (by decide) ?_
          refine va_put (D := D) (ci := 2) (v := .int 2) (ty := .int) (C := RM) (T := FM) (N := 10) hx hb hB inM tyM tyM_ok nmM hown hK hP hD hS 0 rfl rfl 0 (by decide) (hB _ wd_322) (fun _ h9 => h9) rfl (by decide +kernel) rfl rfl (Nat.le_of_ble_eq_true rfl) dM_lookUp_46 (fun H locs hP hD hS => ?_)
          have hP : va_P D tbCl [(m0, .inr (2, [.int 2, .int mn, .ref a1, .ref a2, .ref a3, .ref a4, .int zz, .ref a5, .ref a6, .int si])), (a1, .inl (cI, 8, .inl f1)), (a2, .inl (cI, 8, .inl f2)), (a3, .inl (cI, 8, .inl f3)), (a4, .inl (cI, 8192, .inl f4)), (a5, .inl (cI, 1024, .inl f5)), (a6, .inl (cI, 1024, .inl f6))] H := hP
          have hD : va_D A [(m0, .inr (2, [.int 2, .int mn, .ref a1, .ref a2, .ref a3, .ref a4, .int zz, .ref a5, .ref a6, .int si])), (a1, .inl (cI, 8, .inl f1)), (a2, .inl (cI, 8, .inl f2)), (a3, .inl (cI, 8, .inl f3)), (a4, .inl (cI, 8192, .inl f4)), (a5, .inl (cI, 1024, .inl f5)), (a6, .inl (cI, 1024, .inl f6))] := hD
          refine lv_aload_n hx hb dM_lookUp_49 rfl (lv_at hl 0 rfl) ?_
          refine va_get (D := D) (ci := 2) (v := .int 2) (C := RM) (T := FM) (N := 10) hx hb hB inM hown hK hP 0 rfl rfl 0 (by decide) (hB _ wd_322) (fun _ h9 => h9) rfl dM_lookUp_50 ?_
          refine lv_if_eq (tgt := 58) hx hb dM_lookUp_53 (by decide) (fun c_5 => absurd c_5 (by decide)) (fun c_5 => ?_)
          refine lv_iconst (v := 0) hx hb dM_lookUp_56 (by decide) ?_
          exact W.iret hx hb hr (fun t ht hW => ⟨⟨_, (), rfl, rfl, (by have h9 : va_P D tbCl [(m0, .inr (2, [.int 2, .int mn, .ref a1, .ref a2, .ref a3, .ref a4, .int zz, .ref a5, .ref a6, .int si])), (a1, .inl (cI, 8, .inl f1)), (a2, .inl (cI, 8, .inl f2)), (a3, .inl (cI, 8, .inl f3)), (a4, .inl (cI, 8192, .inl f4)), (a5, .inl (cI, 1024, .inl f5)), (a6, .inl (cI, 1024, .inl f6))] H := hP; rw [← ht] at h9; exact h9)⟩, hS.F ht⟩) hS.2.2 dM_lookUp_57
        · refine lv_iload hx hb dM_lookUp_33 (lv_at hl 4 rfl) ?_
          refine W.callV (W.runS (As := [.int v9]) (rest := [.ref m0]) ⟨hx, hb, hml, hown, hB⟩ (kM_isPlace l v9) ⟨callB_of 1 hB gwM_isPlace rfl rfl rfl (hB _ wd_3) (hB _ wd_393) ydM_isPlace ⟨Nat.le_of_ble_eq_true rfl, Nat.le_of_ble_eq_true rfl⟩, hB _ wd_394⟩ (preEq) rfl rfl hl.1 rfl (lv_room (Nat.le_of_ble_eq_true rfl)) dM_lookUp_35 ⟨Nat.zero_le _, Nat.zero_le _⟩) ?_
          refine W.eq (g2 := F0 m 38 ls [.int (tt_isPlace v9), .ref m0]) rfl ?_
          refine lv_if_ne (tgt := 45) hx hb dM_lookUp_38 (by decide) (fun c_6 => ?_) (fun c_6 => ?_)
          · exact absurd (hbad.elim (fun h => absurd h c_4) id) c_6
          · refine lv_iconst (v := 2) hx hb dM_lookUp_41 (by decide) ?_
            refine lv_goto (tgt := 46) hx hb dM_lookUp_42 (by decide) ?_
            refine va_put (D := D) (ci := 2) (v := .int 2) (ty := .int) (C := RM) (T := FM) (N := 10) hx hb hB inM tyM tyM_ok nmM hown hK hP hD hS 0 rfl rfl 0 (by decide) (hB _ wd_322) (fun _ h9 => h9) rfl (by decide +kernel) rfl rfl (Nat.le_of_ble_eq_true rfl) dM_lookUp_46 (fun H locs hP hD hS => ?_)
            have hP : va_P D tbCl [(m0, .inr (2, [.int 2, .int mn, .ref a1, .ref a2, .ref a3, .ref a4, .int zz, .ref a5, .ref a6, .int si])), (a1, .inl (cI, 8, .inl f1)), (a2, .inl (cI, 8, .inl f2)), (a3, .inl (cI, 8, .inl f3)), (a4, .inl (cI, 8192, .inl f4)), (a5, .inl (cI, 1024, .inl f5)), (a6, .inl (cI, 1024, .inl f6))] H := hP
            have hD : va_D A [(m0, .inr (2, [.int 2, .int mn, .ref a1, .ref a2, .ref a3, .ref a4, .int zz, .ref a5, .ref a6, .int si])), (a1, .inl (cI, 8, .inl f1)), (a2, .inl (cI, 8, .inl f2)), (a3, .inl (cI, 8, .inl f3)), (a4, .inl (cI, 8192, .inl f4)), (a5, .inl (cI, 1024, .inl f5)), (a6, .inl (cI, 1024, .inl f6))] := hD
            refine lv_aload_n hx hb dM_lookUp_49 rfl (lv_at hl 0 rfl) ?_
            refine va_get (D := D) (ci := 2) (v := .int 2) (C := RM) (T := FM) (N := 10) hx hb hB inM hown hK hP 0 rfl rfl 0 (by decide) (hB _ wd_322) (fun _ h9 => h9) rfl dM_lookUp_50 ?_
            refine lv_if_eq (tgt := 58) hx hb dM_lookUp_53 (by decide) (fun c_7 => absurd c_7 (by decide)) (fun c_7 => ?_)
            refine lv_iconst (v := 0) hx hb dM_lookUp_56 (by decide) ?_
            exact W.iret hx hb hr (fun t ht hW => ⟨⟨_, (), rfl, rfl, (by have h9 : va_P D tbCl [(m0, .inr (2, [.int 2, .int mn, .ref a1, .ref a2, .ref a3, .ref a4, .int zz, .ref a5, .ref a6, .int si])), (a1, .inl (cI, 8, .inl f1)), (a2, .inl (cI, 8, .inl f2)), (a3, .inl (cI, 8, .inl f3)), (a4, .inl (cI, 8192, .inl f4)), (a5, .inl (cI, 1024, .inl f5)), (a6, .inl (cI, 1024, .inl f6))] H := hP; rw [← ht] at h9; exact h9)⟩, hS.F ht⟩) hS.2.2 dM_lookUp_57
      · exact absurd (nI_le hL (by omega)) c_3

set_option maxHeartbeats 4000000 in
set_option maxRecDepth 100000 in
theorem kM_lookUp_hard (l : Launch) (D : va_G) (sz : Nat) (cI : ClassId) (m0 a1 a2 a3 a4 a5 a6 : Nat) (th mn zz si : Int32) (f1 f2 f3 f4 f5 f6 : Nat → Int32) (j k L : Nat) (hj : j < 8) (hk : k ≤ 5) (hL : L ≤ k) (hf : f1 j = nI (2 ^ k)) (hth : ¬ tt_has mn (nI j) = 0) (u9 v9 : Int32) (h1 : ¬ tt_isPlace u9 = 0) (h2 : ¬ tt_isPlace v9 = 0) (h3 : ¬ f3 j = 1) (hs1 : ¬ (nI (2 ^ (k - L))).toInt64 = 0) (hs2 : ¬ 2 * (nI (2 ^ (k - L))).toInt64 = 0) (x0 y0 : Nat) (lx0 : x0 < 2 ^ (k - L)) (ly0 : y0 < 2 ^ (k - L)) (hx0 : mm_into (nI (2 ^ (k - L))) (f2 j) (mm_div (u9.toInt64 * (nI (2 ^ (k - L))).toInt64) 65536) = nI x0) (hy0 : mm_into (nI (2 ^ (k - L))) (f2 j) (mm_div (v9.toInt64 * (nI (2 ^ (k - L))).toInt64) 65536) = nI y0) : Met l yM_lookUp wM_lookUp (k2_rm 3 71) (wr_P [.ref m0, .int (nI j), .int (nI L), .int u9, .int v9] sz D [(cI, .int)] [(m0, .inr (2, [.int th, .int mn, .ref a1, .ref a2, .ref a3, .ref a4, .int zz, .ref a5, .ref a6, .int si])), (a1, .inl (cI, 8, .inl f1)), (a2, .inl (cI, 8, .inl f2)), (a3, .inl (cI, 8, .inl f3)), (a4, .inl (cI, 8192, .inl f4)), (a5, .inl (cI, 1024, .inl f5)), (a6, .inl (cI, 1024, .inl f6))]) (wr_Qi (mm_hs (va_cpy f4 f6 (1024 * j) 0 (4 ^ k)) k L (y0 * 2 ^ (k - L) + x0)) D (va_A [(m0, .inr (2, [.int th, .int mn, .ref a1, .ref a2, .ref a3, .ref a4, .int zz, .ref a5, .ref a6, .int si])), (a1, .inl (cI, 8, .inl f1)), (a2, .inl (cI, 8, .inl f2)), (a3, .inl (cI, 8, .inl f3)), (a4, .inl (cI, 8192, .inl f4)), (a5, .inl (cI, 1024, .inl f5)), (a6, .inl (cI, 1024, .inl f6))] sz) [(m0, .inr (2, [.int 0, .int mn, .ref a1, .ref a2, .ref a3, .ref a4, .int zz, .ref a5, .ref a6, .int (nI (2 ^ (k - L)))])), (a1, .inl (cI, 8, .inl f1)), (a2, .inl (cI, 8, .inl f2)), (a3, .inl (cI, 8, .inl f3)), (a4, .inl (cI, 8192, .inl f4)), (a5, .inl (cI, 1024, .inl f5)), (a6, .inl (cI, 1024, .inl (mm_hs (va_cpy f4 f6 (1024 * j) 0 (4 ^ k)) k L)))]) 0 0 (va_A [(m0, .inr (2, [.int th, .int mn, .ref a1, .ref a2, .ref a3, .ref a4, .int zz, .ref a5, .ref a6, .int si])), (a1, .inl (cI, 8, .inl f1)), (a2, .inl (cI, 8, .inl f2)), (a3, .inl (cI, 8, .inl f3)), (a4, .inl (cI, 8192, .inl f4)), (a5, .inl (cI, 1024, .inl f5)), (a6, .inl (cI, 1024, .inl f6))] sz) := by
  refine Met.ofW (cc := cM_lookUp) (maxL := 12) (ret := (some .int)) (by decide) rfl ?_
  intro p e s m args below meth c s₁ B hml hv
  obtain ⟨rfl, hsz, hC, hP, hK, hD0⟩ := hv
  have hx := B.exec
  have hb := B.bytes
  have hr := B.returns
  have hB : ∀ w ∈ tbB, w.before _ s = true := fun w h => (atoms_spec (ws := wM_lookUp) B.pre) w (List.mem_cons_of_mem _ h)
  have hown : s.vm.findClass "TextureBankModel" = some m.cls := findClass_of_methodNamed B.named
  have hlocks := B.notSynchronized
  subst hsz
  have hD := hD0.self (sz := s.heap.size)
  generalize hAe : va_A [(m0, .inr (2, [.int th, .int mn, .ref a1, .ref a2, .ref a3, .ref a4, .int zz, .ref a5, .ref a6, .int si])), (a1, .inl (cI, 8, .inl f1)), (a2, .inl (cI, 8, .inl f2)), (a3, .inl (cI, 8, .inl f3)), (a4, .inl (cI, 8192, .inl f4)), (a5, .inl (cI, 1024, .inl f5)), (a6, .inl (cI, 1024, .inl f6))] s.heap.size = A at hD ⊢
  have hA : ∀ q : Nat, s.heap.size ≤ q → A q := fun q h => by rw [← hAe]; exact Or.inr h
  have hS : va_S A s.heap s.heap [] := va_S.rf
  have hl := lv_entry ([.ref m0, .int (nI j), .int (nI L), .int u9, .int v9]) (n := 12) (Nat.le_of_ble_eq_true rfl)
  rw [lg_entry_eq]
  generalize (lg_sl ([.ref m0, .int (nI j), .int (nI L), .int u9, .int v9]) ++ List.replicate (12 - (lg_sl ([.ref m0, .int (nI j), .int (nI L), .int u9, .int v9])).length) Slot.unset).toArray = ls at hl ⊢
  have hl : lv_has ls 12 [(0, .ref m0), (1, .int (nI j)), (2, .int (nI L)), (3, .int u9), (4, .int v9)] := hl
  refine lv_aload_n hx hb dM_lookUp_0 rfl (lv_at hl 0 rfl) ?_
  refine lv_aload_n hx hb dM_lookUp_1 rfl (lv_at hl 0 rfl) ?_
  refine lv_iload_n hx hb dM_lookUp_2 rfl (lv_at hl 1 rfl) ?_
  refine W.callV (W.runV (C := "TextureBankModel") (As := [.int (nI j)]) (rest := [.ref m0]) ⟨hx, hb, hml, hown, hB⟩ (kM_isThere l D cI m0 a1 a2 a3 a4 a5 a6 th mn zz si f1 f2 f3 f4 f5 f6 (nI j)) ⟨callB_of 1 hB gwM_isThere rfl rfl rfl (hB _ wd_3) (hB _ wd_377) ydM_isThere ⟨Nat.le_of_ble_eq_true rfl, Nat.le_of_ble_eq_true rfl⟩, hB _ wd_379, hB _ ws_12⟩ (rd_V hC hP hK (va_recv hK hP (ci := 2) (q0 := 0) rfl rfl)) rfl rfl hl.1 rfl (lv_room (Nat.le_of_ble_eq_true rfl)) dM_lookUp_3 ⟨Nat.zero_le _, Nat.zero_le _⟩) ?_
  refine W.eq (g2 := F0 m 6 ls [.int (tt_has mn (nI j)), .ref m0]) rfl ?_
  refine lv_if_eq (tgt := 22) hx hb dM_lookUp_6 (by decide) (fun c_1 => ?_) (fun c_1 => ?_)
  · exact absurd c_1 hth
  · refine lv_iload_n hx hb dM_lookUp_9 rfl (lv_at hl 2 rfl) ?_
    refine lv_if_lt (tgt := 22) hx hb dM_lookUp_10 (by decide) (fun c_2 => ?_) (fun c_2 => ?_)
    · exact absurd c_2 (nI_pos (by omega))
    · refine lv_iload_n hx hb dM_lookUp_13 rfl (lv_at hl 2 rfl) ?_
      refine lv_aload_n hx hb dM_lookUp_14 rfl (lv_at hl 0 rfl) ?_
      refine lv_iload_n hx hb dM_lookUp_15 rfl (lv_at hl 1 rfl) ?_
      refine W.callV (W.runV (C := "TextureBankModel") (As := [.int (nI j)]) (rest := [.int (nI L), .ref m0]) ⟨hx, hb, hml, hown, hB⟩ (kM_last l D cI m0 a1 a2 a3 a4 a5 a6 th mn zz si f1 f2 f3 f4 f5 f6 j k hj hk hf) ⟨callB_of 1 hB gwM_last rfl rfl rfl (hB _ wd_3) (hB _ wd_384) ydM_last ⟨Nat.le_of_ble_eq_true rfl, Nat.le_of_ble_eq_true rfl⟩, hB _ wd_386, hB _ ws_13⟩ (rd_V hC hP hK (va_recv hK hP (ci := 2) (q0 := 0) rfl rfl)) rfl rfl hl.1 rfl (lv_room (Nat.le_of_ble_eq_true rfl)) dM_lookUp_16 ⟨Nat.zero_le _, Nat.zero_le _⟩) ?_
      refine W.eq (g2 := F0 m 19 ls [.int (nI k), .int (nI L), .ref m0]) rfl ?_
      refine lv_icmp_le (tgt := 26) hx hb dM_lookUp_19 (by decide) (fun c_3 => ?_) (fun c_3 => ?_)
      · refine lv_iload_n hx hb dM_lookUp_26 rfl (lv_at hl 3 rfl) ?_
        refine W.callV (W.runS (As := [.int u9]) (rest := [.ref m0]) ⟨hx, hb, hml, hown, hB⟩ (kM_isPlace l u9) ⟨callB_of 1 hB gwM_isPlace rfl rfl rfl (hB _ wd_3) (hB _ wd_393) ydM_isPlace ⟨Nat.le_of_ble_eq_true rfl, Nat.le_of_ble_eq_true rfl⟩, hB _ wd_394⟩ (preEq) rfl rfl hl.1 rfl (lv_room (Nat.le_of_ble_eq_true rfl)) dM_lookUp_27 ⟨Nat.zero_le _, Nat.zero_le _⟩) ?_
        refine W.eq (g2 := F0 m 30 ls [.int (tt_isPlace u9), .ref m0]) rfl ?_
        refine lv_if_eq (tgt := 41) hx hb dM_lookUp_30 (by decide) (fun c_4 => ?_) (fun c_4 => ?_)
        · exact absurd c_4 h1
        · refine lv_iload hx hb dM_lookUp_33 (lv_at hl 4 rfl) ?_
          refine W.callV (W.runS (As := [.int v9]) (rest := [.ref m0]) ⟨hx, hb, hml, hown, hB⟩ (kM_isPlace l v9) ⟨callB_of 1 hB gwM_isPlace rfl rfl rfl (hB _ wd_3) (hB _ wd_393) ydM_isPlace ⟨Nat.le_of_ble_eq_true rfl, Nat.le_of_ble_eq_true rfl⟩, hB _ wd_394⟩ (preEq) rfl rfl hl.1 rfl (lv_room (Nat.le_of_ble_eq_true rfl)) dM_lookUp_35 ⟨Nat.zero_le _, Nat.zero_le _⟩) ?_
          refine W.eq (g2 := F0 m 38 ls [.int (tt_isPlace v9), .ref m0]) rfl ?_
          refine lv_if_ne (tgt := 45) hx hb dM_lookUp_38 (by decide) (fun c_5 => ?_) (fun c_5 => ?_)
          · refine lv_iconst (v := 0) hx hb dM_lookUp_45 (by decide) ?_
            refine va_put (D := D) (ci := 2) (v := .int 0) (ty := .int) (C := RM) (T := FM) (N := 10) hx hb hB inM tyM tyM_ok nmM hown hK hP hD hS 0 rfl rfl 0 (by decide) (hB _ wd_322) (fun _ h9 => h9) rfl (by decide +kernel) rfl rfl (Nat.le_of_ble_eq_true rfl) dM_lookUp_46 (fun H locs hP hD hS => ?_)
            have hP : va_P D tbCl [(m0, .inr (2, [.int 0, .int mn, .ref a1, .ref a2, .ref a3, .ref a4, .int zz, .ref a5, .ref a6, .int si])), (a1, .inl (cI, 8, .inl f1)), (a2, .inl (cI, 8, .inl f2)), (a3, .inl (cI, 8, .inl f3)), (a4, .inl (cI, 8192, .inl f4)), (a5, .inl (cI, 1024, .inl f5)), (a6, .inl (cI, 1024, .inl f6))] H := hP
            have hD : va_D A [(m0, .inr (2, [.int 0, .int mn, .ref a1, .ref a2, .ref a3, .ref a4, .int zz, .ref a5, .ref a6, .int si])), (a1, .inl (cI, 8, .inl f1)), (a2, .inl (cI, 8, .inl f2)), (a3, .inl (cI, 8, .inl f3)), (a4, .inl (cI, 8192, .inl f4)), (a5, .inl (cI, 1024, .inl f5)), (a6, .inl (cI, 1024, .inl f6))] := hD
            refine lv_aload_n hx hb dM_lookUp_49 rfl (lv_at hl 0 rfl) ?_
            refine va_get (D := D) (ci := 2) (v := .int 0) (C := RM) (T := FM) (N := 10) hx hb hB inM hown hK hP 0 rfl rfl 0 (by decide) (hB _ wd_322) (fun _ h9 => h9) rfl dM_lookUp_50 ?_
            refine lv_if_eq (tgt := 58) hx hb dM_lookUp_53 (by decide) (fun c_6 => ?_) (fun c_6 => absurd c_6 (by decide))
            refine lv_aload_n hx hb dM_lookUp_58 rfl (lv_at hl 0 rfl) ?_
            refine lv_iload_n hx hb dM_lookUp_59 rfl (lv_at hl 1 rfl) ?_
            refine lv_iload_n hx hb dM_lookUp_60 rfl (lv_at hl 2 rfl) ?_
            have hFc := va_free (wc := [(m0, .inr (2, [.int 0, .int mn, .ref a1, .ref a2, .ref a3, .ref a4, .int zz, .ref a5, .ref a6, .int si])), (a1, .inl (cI, 8, .inl f1)), (a2, .inl (cI, 8, .inl f2)), (a3, .inl (cI, 8, .inl f3)), (a4, .inl (cI, 8192, .inl f4)), (a5, .inl (cI, 1024, .inl f5)), (a6, .inl (cI, 1024, .inl f6))]) hD hS hA [0, 1, 2, 3, 4, 5, 6] rfl
            refine va_callv (va_runV (C := "TextureBankModel") (As := [.int (nI j), .int (nI L)]) (rest := []) ⟨hx, hb, hml, hown, hB⟩ (kM_makes l D H.size cI m0 a1 a2 a3 a4 a5 a6 0 mn zz si f1 f2 f3 f4 f5 f6 j k L hj hk hL hf) ⟨callB_of 2 hB gwM_makes rfl rfl rfl (hB _ wd_3) (hB _ wd_397) ydM_makes ⟨Nat.le_of_ble_eq_true rfl, Nat.le_of_ble_eq_true rfl⟩, hB _ wd_399, hB _ ws_14⟩ (wr_V hC (hP.sub [0, 1, 2, 3, 4, 5, 6] rfl) (hK.sub [0] rfl) (hD.sub [0, 1, 2, 3, 4, 5, 6] (by decide) rfl) (va_recv hK hP (ci := 2) (q0 := 0) rfl rfl)) rfl rfl hl.1 rfl (lv_room (Nat.le_of_ble_eq_true rfl)) dM_lookUp_61 ⟨Nat.zero_le _, Nat.zero_le _⟩) hS (fun q _ h => hFc q h) hFc (fun u t H1 locs ht hvm hw hB1 hz1 hk1 hS => ?_)
            have hP1 : va_P D tbCl [(m0, .inr (2, [.int 0, .int mn, .ref a1, .ref a2, .ref a3, .ref a4, .int zz, .ref a5, .ref a6, .int (nI (2 ^ (k - L)))])), (a1, .inl (cI, 8, .inl f1)), (a2, .inl (cI, 8, .inl f2)), (a3, .inl (cI, 8, .inl f3)), (a4, .inl (cI, 8192, .inl f4)), (a5, .inl (cI, 1024, .inl f5)), (a6, .inl (cI, 1024, .inl (mm_hs (va_cpy f4 f6 (1024 * j) 0 (4 ^ k)) k L)))] H1 := by have h9 := hB1; rw [← ht]; exact h9
            have hP : va_P D tbCl [(m0, .inr (2, [.int 0, .int mn, .ref a1, .ref a2, .ref a3, .ref a4, .int zz, .ref a5, .ref a6, .int (nI (2 ^ (k - L)))])), (a1, .inl (cI, 8, .inl f1)), (a2, .inl (cI, 8, .inl f2)), (a3, .inl (cI, 8, .inl f3)), (a4, .inl (cI, 8192, .inl f4)), (a5, .inl (cI, 1024, .inl f5)), (a6, .inl (cI, 1024, .inl (mm_hs (va_cpy f4 f6 (1024 * j) 0 (4 ^ k)) k L)))] H1 := wd_back hP hD [0, 1, 2, 3, 4, 5, 6] rfl hk1 hP1 (by intro k q hq; match k, hq with | 0, hq => exact Or.inl ⟨0, hq⟩ | 1, hq => exact Or.inl ⟨1, hq⟩ | 2, hq => exact Or.inl ⟨2, hq⟩ | 3, hq => exact Or.inl ⟨3, hq⟩ | 4, hq => exact Or.inl ⟨4, hq⟩ | 5, hq => exact Or.inl ⟨5, hq⟩ | 6, hq => exact Or.inl ⟨6, hq⟩ | k + 7, hq => simp at hq)
            have hD : va_D A [(m0, .inr (2, [.int 0, .int mn, .ref a1, .ref a2, .ref a3, .ref a4, .int zz, .ref a5, .ref a6, .int (nI (2 ^ (k - L)))])), (a1, .inl (cI, 8, .inl f1)), (a2, .inl (cI, 8, .inl f2)), (a3, .inl (cI, 8, .inl f3)), (a4, .inl (cI, 8192, .inl f4)), (a5, .inl (cI, 1024, .inl f5)), (a6, .inl (cI, 1024, .inl (mm_hs (va_cpy f4 f6 (1024 * j) 0 (4 ^ k)) k L)))] := wd_D hD rfl
            generalize H1 = H at hP hS ⊢
            refine W.eq (g2 := F0 m 64 ls []) rfl ?_
            refine lv_iload_n hx hb dM_lookUp_64 rfl (lv_at hl 3 rfl) ?_
            refine lv_i2l hx hb dM_lookUp_65 rfl ?_
            refine lv_aload_n hx hb dM_lookUp_66 rfl (lv_at hl 0 rfl) ?_
            refine va_get (D := D) (ci := 2) (v := .int (nI (2 ^ (k - L)))) (C := RM) (T := FM) (N := 10) hx hb hB inM hown hK hP 0 rfl rfl 9 (by decide) (hB _ wd_331) (fun _ h9 => h9) rfl dM_lookUp_67 ?_
            refine lv_i2l hx hb dM_lookUp_70 rfl ?_
            refine lv_lmul hx hb dM_lookUp_71 ?_
            refine lv_lstore (lv' := [(5, .long (u9.toInt64 * ((nI (2 ^ (k - L))).toInt64))), (0, .ref m0), (1, .int (nI j)), (2, .int (nI L)), (3, .int u9), (4, .int v9)]) hx hb dM_lookUp_72 hl (by decide) rfl (fun ls hl => ?_)
            refine lv_iload hx hb dM_lookUp_74 (lv_at hl 5 rfl) ?_
            refine lv_i2l hx hb dM_lookUp_76 rfl ?_
            refine lv_aload_n hx hb dM_lookUp_77 rfl (lv_at hl 1 rfl) ?_
            refine va_get (D := D) (ci := 2) (v := .int (nI (2 ^ (k - L)))) (C := RM) (T := FM) (N := 10) hx hb hB inM hown hK hP 0 rfl rfl 9 (by decide) (hB _ wd_331) (fun _ h9 => h9) rfl dM_lookUp_78 ?_
            refine lv_i2l hx hb dM_lookUp_81 rfl ?_
            refine lv_lmul hx hb dM_lookUp_82 ?_
            refine lv_lstore (lv' := [(7, .long (v9.toInt64 * ((nI (2 ^ (k - L))).toInt64))), (5, .long (u9.toInt64 * ((nI (2 ^ (k - L))).toInt64))), (0, .ref m0), (1, .int (nI j)), (2, .int (nI L)), (3, .int u9), (4, .int v9)]) hx hb dM_lookUp_83 hl (by decide) rfl (fun ls hl => ?_)
            refine lv_aload_n hx hb dM_lookUp_85 rfl (lv_at hl 2 rfl) ?_
            refine va_get (D := D) (ci := 2) (v := .ref a2) (C := RM) (T := FM) (N := 10) hx hb hB inM hown hK hP 0 rfl rfl 3 (by decide) (hB _ wd_325) (fun _ h9 => h9) rfl dM_lookUp_86 ?_
            refine lv_iload_n hx hb dM_lookUp_89 rfl (lv_at hl 3 rfl) ?_
            refine va_iald hx hb hK hP 2 0 (f := f2) rfl rfl (i := nI j) (vp_in_nI (hj) (by omega)) dM_lookUp_90 ?_
            refine W.eq (g2 := F0 m 91 ls [.int (f2 j)]) (by rw [nI_clamp (by have := (hj : j < 8); omega)]) ?_
            refine lv_istore (lv' := [(9, .int (f2 j)), (7, .long (v9.toInt64 * ((nI (2 ^ (k - L))).toInt64))), (5, .long (u9.toInt64 * ((nI (2 ^ (k - L))).toInt64))), (0, .ref m0), (1, .int (nI j)), (2, .int (nI L)), (3, .int u9), (4, .int v9)]) hx hb dM_lookUp_91 hl (by decide) rfl (fun ls hl => ?_)
            refine lv_aload_n hx hb dM_lookUp_93 rfl (lv_at hl 3 rfl) ?_
            refine va_get (D := D) (ci := 2) (v := .ref a3) (C := RM) (T := FM) (N := 10) hx hb hB inM hown hK hP 0 rfl rfl 4 (by decide) (hB _ wd_326) (fun _ h9 => h9) rfl dM_lookUp_94 ?_
            refine lv_iload_n hx hb dM_lookUp_97 rfl (lv_at hl 4 rfl) ?_
            refine va_iald hx hb hK hP 3 0 (f := f3) rfl rfl (i := nI j) (vp_in_nI (hj) (by omega)) dM_lookUp_98 ?_
            refine W.eq (g2 := F0 m 99 ls [.int (f3 j)]) (by rw [nI_clamp (by have := (hj : j < 8); omega)]) ?_
            refine lv_iconst (v := 1) hx hb dM_lookUp_99 (by decide) ?_
            refine lv_icmp_ne (tgt := 122) hx hb dM_lookUp_100 (by decide) (fun c_8 => ?_) (fun c_8 => ?_)
            · refine lv_aload_n hx hb dM_lookUp_122 rfl (lv_at hl 3 rfl) ?_
              refine lv_iload hx hb dM_lookUp_123 (lv_at hl 0 rfl) ?_
              refine lv_lload hx hb dM_lookUp_125 (lv_at hl 2 rfl) ?_
              refine lv_ldc2 (v := 65536) hx hb hown (hB _ wd_413) dM_lookUp_127 ?_
              refine W.callV (W.runS (As := [.long (u9.toInt64 * ((nI (2 ^ (k - L))).toInt64)), .long 65536]) (rest := [.int (f2 j), .ref m0]) ⟨hx, hb, hml, hown, hB⟩ (kM_div l (u9.toInt64 * ((nI (2 ^ (k - L))).toInt64)) 65536 (by decide)) ⟨callB_of 2 hB gwM_div rfl rfl rfl (hB _ wd_3) (hB _ wd_414) ydM_div ⟨Nat.le_of_ble_eq_true rfl, Nat.le_of_ble_eq_true rfl⟩, hB _ wd_415⟩ (preEq) rfl rfl hl.1 rfl (lv_room (Nat.le_of_ble_eq_true rfl)) dM_lookUp_130 ⟨Nat.zero_le _, Nat.zero_le _⟩) ?_
              refine W.eq (g2 := F0 m 133 ls [.long (mm_div (u9.toInt64 * ((nI (2 ^ (k - L))).toInt64)) 65536), .int (f2 j), .ref m0]) rfl ?_
              refine W.callV (W.runV (C := "TextureBankModel") (As := [.int (f2 j), .long (mm_div (u9.toInt64 * ((nI (2 ^ (k - L))).toInt64)) 65536)]) (rest := []) ⟨hx, hb, hml, hown, hB⟩ (kM_into l D cI m0 a1 a2 a3 a4 a5 a6 0 mn zz (nI (2 ^ (k - L))) f1 f2 f3 f4 f5 (mm_hs (va_cpy f4 f6 (1024 * j) 0 (4 ^ k)) k L) (f2 j) (mm_div (u9.toInt64 * ((nI (2 ^ (k - L))).toInt64)) 65536) hs1 hs2) ⟨callB_of 2 hB gwM_into rfl rfl rfl (hB _ wd_3) (hB _ wd_418) ydM_into ⟨Nat.le_of_ble_eq_true rfl, Nat.le_of_ble_eq_true rfl⟩, hB _ wd_420, hB _ ws_17⟩ (rd_V hC hP hK (va_recv hK hP (ci := 2) (q0 := 0) rfl rfl)) rfl rfl hl.1 rfl (lv_room (Nat.le_of_ble_eq_true rfl)) dM_lookUp_133 ⟨Nat.zero_le _, Nat.zero_le _⟩) ?_
              refine W.eq (g2 := F0 m 136 ls [.int (mm_into (nI (2 ^ (k - L))) (f2 j) (mm_div (u9.toInt64 * ((nI (2 ^ (k - L))).toInt64)) 65536))]) rfl ?_
              refine W.eq (g2 := F0 m 136 ls [.int (nI x0)]) (by rw [hx0]) ?_
              refine lv_istore (lv' := [(10, .int (nI x0)), (9, .int (f2 j)), (7, .long (v9.toInt64 * ((nI (2 ^ (k - L))).toInt64))), (5, .long (u9.toInt64 * ((nI (2 ^ (k - L))).toInt64))), (0, .ref m0), (1, .int (nI j)), (2, .int (nI L)), (3, .int u9), (4, .int v9)]) hx hb dM_lookUp_136 hl (by decide) rfl (fun ls hl => ?_)
              refine lv_aload_n hx hb dM_lookUp_138 rfl (lv_at hl 4 rfl) ?_
              refine lv_iload hx hb dM_lookUp_139 (lv_at hl 1 rfl) ?_
              refine lv_lload hx hb dM_lookUp_141 (lv_at hl 2 rfl) ?_
              refine lv_ldc2 (v := 65536) hx hb hown (hB _ wd_413) dM_lookUp_143 ?_
              refine W.callV (W.runS (As := [.long (v9.toInt64 * ((nI (2 ^ (k - L))).toInt64)), .long 65536]) (rest := [.int (f2 j), .ref m0]) ⟨hx, hb, hml, hown, hB⟩ (kM_div l (v9.toInt64 * ((nI (2 ^ (k - L))).toInt64)) 65536 (by decide)) ⟨callB_of 2 hB gwM_div rfl rfl rfl (hB _ wd_3) (hB _ wd_414) ydM_div ⟨Nat.le_of_ble_eq_true rfl, Nat.le_of_ble_eq_true rfl⟩, hB _ wd_415⟩ (preEq) rfl rfl hl.1 rfl (lv_room (Nat.le_of_ble_eq_true rfl)) dM_lookUp_146 ⟨Nat.zero_le _, Nat.zero_le _⟩) ?_
              refine W.eq (g2 := F0 m 149 ls [.long (mm_div (v9.toInt64 * ((nI (2 ^ (k - L))).toInt64)) 65536), .int (f2 j), .ref m0]) rfl ?_
              refine W.callV (W.runV (C := "TextureBankModel") (As := [.int (f2 j), .long (mm_div (v9.toInt64 * ((nI (2 ^ (k - L))).toInt64)) 65536)]) (rest := []) ⟨hx, hb, hml, hown, hB⟩ (kM_into l D cI m0 a1 a2 a3 a4 a5 a6 0 mn zz (nI (2 ^ (k - L))) f1 f2 f3 f4 f5 (mm_hs (va_cpy f4 f6 (1024 * j) 0 (4 ^ k)) k L) (f2 j) (mm_div (v9.toInt64 * ((nI (2 ^ (k - L))).toInt64)) 65536) hs1 hs2) ⟨callB_of 2 hB gwM_into rfl rfl rfl (hB _ wd_3) (hB _ wd_418) ydM_into ⟨Nat.le_of_ble_eq_true rfl, Nat.le_of_ble_eq_true rfl⟩, hB _ wd_420, hB _ ws_17⟩ (rd_V hC hP hK (va_recv hK hP (ci := 2) (q0 := 0) rfl rfl)) rfl rfl hl.1 rfl (lv_room (Nat.le_of_ble_eq_true rfl)) dM_lookUp_149 ⟨Nat.zero_le _, Nat.zero_le _⟩) ?_
              refine W.eq (g2 := F0 m 152 ls [.int (mm_into (nI (2 ^ (k - L))) (f2 j) (mm_div (v9.toInt64 * ((nI (2 ^ (k - L))).toInt64)) 65536))]) rfl ?_
              refine W.eq (g2 := F0 m 152 ls [.int (nI y0)]) (by rw [hy0]) ?_
              refine lv_istore (lv' := [(11, .int (nI y0)), (10, .int (nI x0)), (9, .int (f2 j)), (7, .long (v9.toInt64 * ((nI (2 ^ (k - L))).toInt64))), (5, .long (u9.toInt64 * ((nI (2 ^ (k - L))).toInt64))), (0, .ref m0), (1, .int (nI j)), (2, .int (nI L)), (3, .int u9), (4, .int v9)]) hx hb dM_lookUp_152 hl (by decide) rfl (fun ls hl => ?_)
              refine lv_aload_n hx hb dM_lookUp_154 rfl (lv_at hl 5 rfl) ?_
              refine va_get (D := D) (ci := 2) (v := .ref a6) (C := RM) (T := FM) (N := 10) hx hb hB inM hown hK hP 0 rfl rfl 8 (by decide) (hB _ wd_330) (fun _ h9 => h9) rfl dM_lookUp_155 ?_
              refine lv_iload hx hb dM_lookUp_158 (lv_at hl 0 rfl) ?_
              refine lv_aload_n hx hb dM_lookUp_160 rfl (lv_at hl 5 rfl) ?_
              refine va_get (D := D) (ci := 2) (v := .int (nI (2 ^ (k - L)))) (C := RM) (T := FM) (N := 10) hx hb hB inM hown hK hP 0 rfl rfl 9 (by decide) (hB _ wd_331) (fun _ h9 => h9) rfl dM_lookUp_161 ?_
              refine lv_imul hx hb dM_lookUp_164 ?_
              refine lv_iload hx hb dM_lookUp_165 (lv_at hl 1 rfl) ?_
              refine lv_iadd hx hb dM_lookUp_167 ?_
              refine W.eq (g2 := F0 m 168 ls [.int (nI (y0 * 2 ^ (k - L) + x0)), .ref a6]) (by rw [pk_mul, nI_add]) ?_
              refine va_iald hx hb hK hP 6 0 (f := (mm_hs (va_cpy f4 f6 (1024 * j) 0 (4 ^ k)) k L)) rfl rfl (i := nI (y0 * 2 ^ (k - L) + x0)) (vp_in_nI (mm_nl5 (by omega) lx0 ly0) (by omega)) dM_lookUp_168 ?_
              refine W.eq (g2 := F0 m 169 ls [.int ((mm_hs (va_cpy f4 f6 (1024 * j) 0 (4 ^ k)) k L) (y0 * 2 ^ (k - L) + x0))]) (by rw [nI_clamp (by have := (mm_nl5 (by omega) lx0 ly0 : y0 * 2 ^ (k - L) + x0 < 1024); omega)]) ?_
              exact W.iret hx hb hr (fun t ht hW => ⟨⟨_, (), rfl, rfl, (by have h9 : va_P D tbCl [(m0, .inr (2, [.int 0, .int mn, .ref a1, .ref a2, .ref a3, .ref a4, .int zz, .ref a5, .ref a6, .int (nI (2 ^ (k - L)))])), (a1, .inl (cI, 8, .inl f1)), (a2, .inl (cI, 8, .inl f2)), (a3, .inl (cI, 8, .inl f3)), (a4, .inl (cI, 8192, .inl f4)), (a5, .inl (cI, 1024, .inl f5)), (a6, .inl (cI, 1024, .inl (mm_hs (va_cpy f4 f6 (1024 * j) 0 (4 ^ k)) k L)))] H := hP; rw [← ht] at h9; exact h9)⟩, hS.F ht⟩) hS.2.2 dM_lookUp_169
            · exact absurd c_8 h3
          · exact absurd c_5 h2
      · exact absurd (nI_le hL (by omega)) c_3

set_option maxHeartbeats 4000000 in
set_option maxRecDepth 100000 in
theorem kM_lookUp_soft (l : Launch) (D : va_G) (sz : Nat) (cI : ClassId) (m0 a1 a2 a3 a4 a5 a6 : Nat) (th mn zz si : Int32) (f1 f2 f3 f4 f5 f6 : Nat → Int32) (j k L : Nat) (hj : j < 8) (hk : k ≤ 5) (hL : L ≤ k) (hf : f1 j = nI (2 ^ k)) (hth : ¬ tt_has mn (nI j) = 0) (u9 v9 : Int32) (h1 : ¬ tt_isPlace u9 = 0) (h2 : ¬ tt_isPlace v9 = 0) (h3 : f3 j = 1) (hs1 : ¬ (nI (2 ^ (k - L))).toInt64 = 0) (hs2 : ¬ 2 * (nI (2 ^ (k - L))).toInt64 = 0) (x0 x1 y0 y1 : Nat) (lx0 : x0 < 2 ^ (k - L)) (lx1 : x1 < 2 ^ (k - L)) (ly0 : y0 < 2 ^ (k - L)) (ly1 : y1 < 2 ^ (k - L)) (hx0 : mm_into (nI (2 ^ (k - L))) (f2 j) (mm_div ((u9.toInt64 * (nI (2 ^ (k - L))).toInt64) - 32768) 65536 + (0 : Int32).toInt64) = nI x0) (hx1 : mm_into (nI (2 ^ (k - L))) (f2 j) (mm_div ((u9.toInt64 * (nI (2 ^ (k - L))).toInt64) - 32768) 65536 + (1 : Int32).toInt64) = nI x1) (hy0 : mm_into (nI (2 ^ (k - L))) (f2 j) (mm_div ((v9.toInt64 * (nI (2 ^ (k - L))).toInt64) - 32768) 65536 + (0 : Int32).toInt64) = nI y0) (hy1 : mm_into (nI (2 ^ (k - L))) (f2 j) (mm_div ((v9.toInt64 * (nI (2 ^ (k - L))).toInt64) - 32768) 65536 + (1 : Int32).toInt64) = nI y1) : Met l yM_lookUp wM_lookUp (k2_rm 3 92) (wr_P [.ref m0, .int (nI j), .int (nI L), .int u9, .int v9] sz D [(cI, .int)] [(m0, .inr (2, [.int th, .int mn, .ref a1, .ref a2, .ref a3, .ref a4, .int zz, .ref a5, .ref a6, .int si])), (a1, .inl (cI, 8, .inl f1)), (a2, .inl (cI, 8, .inl f2)), (a3, .inl (cI, 8, .inl f3)), (a4, .inl (cI, 8192, .inl f4)), (a5, .inl (cI, 1024, .inl f5)), (a6, .inl (cI, 1024, .inl f6))]) (wr_Qi (mm_soft2 (mm_hs (va_cpy f4 f6 (1024 * j) 0 (4 ^ k)) k L (y0 * 2 ^ (k - L) + x0)) (mm_hs (va_cpy f4 f6 (1024 * j) 0 (4 ^ k)) k L (y0 * 2 ^ (k - L) + x1)) (mm_hs (va_cpy f4 f6 (1024 * j) 0 (4 ^ k)) k L (y1 * 2 ^ (k - L) + x0)) (mm_hs (va_cpy f4 f6 (1024 * j) 0 (4 ^ k)) k L (y1 * 2 ^ (k - L) + x1)) (mm_div (((u9.toInt64 * (nI (2 ^ (k - L))).toInt64) - 32768) - 65536 * mm_div ((u9.toInt64 * (nI (2 ^ (k - L))).toInt64) - 32768) 65536) 256) (mm_div (((v9.toInt64 * (nI (2 ^ (k - L))).toInt64) - 32768) - 65536 * mm_div ((v9.toInt64 * (nI (2 ^ (k - L))).toInt64) - 32768) 65536) 256)) D (va_A [(m0, .inr (2, [.int th, .int mn, .ref a1, .ref a2, .ref a3, .ref a4, .int zz, .ref a5, .ref a6, .int si])), (a1, .inl (cI, 8, .inl f1)), (a2, .inl (cI, 8, .inl f2)), (a3, .inl (cI, 8, .inl f3)), (a4, .inl (cI, 8192, .inl f4)), (a5, .inl (cI, 1024, .inl f5)), (a6, .inl (cI, 1024, .inl f6))] sz) [(m0, .inr (2, [.int 0, .int mn, .ref a1, .ref a2, .ref a3, .ref a4, .int zz, .ref a5, .ref a6, .int (nI (2 ^ (k - L)))])), (a1, .inl (cI, 8, .inl f1)), (a2, .inl (cI, 8, .inl f2)), (a3, .inl (cI, 8, .inl f3)), (a4, .inl (cI, 8192, .inl f4)), (a5, .inl (cI, 1024, .inl f5)), (a6, .inl (cI, 1024, .inl (mm_hs (va_cpy f4 f6 (1024 * j) 0 (4 ^ k)) k L)))]) 0 0 (va_A [(m0, .inr (2, [.int th, .int mn, .ref a1, .ref a2, .ref a3, .ref a4, .int zz, .ref a5, .ref a6, .int si])), (a1, .inl (cI, 8, .inl f1)), (a2, .inl (cI, 8, .inl f2)), (a3, .inl (cI, 8, .inl f3)), (a4, .inl (cI, 8192, .inl f4)), (a5, .inl (cI, 1024, .inl f5)), (a6, .inl (cI, 1024, .inl f6))] sz) := by
  refine Met.ofW (cc := cM_lookUp) (maxL := 12) (ret := (some .int)) (by decide) rfl ?_
  intro p e s m args below meth c s₁ B hml hv
  obtain ⟨rfl, hsz, hC, hP, hK, hD0⟩ := hv
  have hx := B.exec
  have hb := B.bytes
  have hr := B.returns
  have hB : ∀ w ∈ tbB, w.before _ s = true := fun w h => (atoms_spec (ws := wM_lookUp) B.pre) w (List.mem_cons_of_mem _ h)
  have hown : s.vm.findClass "TextureBankModel" = some m.cls := findClass_of_methodNamed B.named
  have hlocks := B.notSynchronized
  subst hsz
  have hD := hD0.self (sz := s.heap.size)
  generalize hAe : va_A [(m0, .inr (2, [.int th, .int mn, .ref a1, .ref a2, .ref a3, .ref a4, .int zz, .ref a5, .ref a6, .int si])), (a1, .inl (cI, 8, .inl f1)), (a2, .inl (cI, 8, .inl f2)), (a3, .inl (cI, 8, .inl f3)), (a4, .inl (cI, 8192, .inl f4)), (a5, .inl (cI, 1024, .inl f5)), (a6, .inl (cI, 1024, .inl f6))] s.heap.size = A at hD ⊢
  have hA : ∀ q : Nat, s.heap.size ≤ q → A q := fun q h => by rw [← hAe]; exact Or.inr h
  have hS : va_S A s.heap s.heap [] := va_S.rf
  have hl := lv_entry ([.ref m0, .int (nI j), .int (nI L), .int u9, .int v9]) (n := 12) (Nat.le_of_ble_eq_true rfl)
  rw [lg_entry_eq]
  generalize (lg_sl ([.ref m0, .int (nI j), .int (nI L), .int u9, .int v9]) ++ List.replicate (12 - (lg_sl ([.ref m0, .int (nI j), .int (nI L), .int u9, .int v9])).length) Slot.unset).toArray = ls at hl ⊢
  have hl : lv_has ls 12 [(0, .ref m0), (1, .int (nI j)), (2, .int (nI L)), (3, .int u9), (4, .int v9)] := hl
  refine lv_aload_n hx hb dM_lookUp_0 rfl (lv_at hl 0 rfl) ?_
  refine lv_aload_n hx hb dM_lookUp_1 rfl (lv_at hl 0 rfl) ?_
  refine lv_iload_n hx hb dM_lookUp_2 rfl (lv_at hl 1 rfl) ?_
  refine W.callV (W.runV (C := "TextureBankModel") (As := [.int (nI j)]) (rest := [.ref m0]) ⟨hx, hb, hml, hown, hB⟩ (kM_isThere l D cI m0 a1 a2 a3 a4 a5 a6 th mn zz si f1 f2 f3 f4 f5 f6 (nI j)) ⟨callB_of 1 hB gwM_isThere rfl rfl rfl (hB _ wd_3) (hB _ wd_377) ydM_isThere ⟨Nat.le_of_ble_eq_true rfl, Nat.le_of_ble_eq_true rfl⟩, hB _ wd_379, hB _ ws_12⟩ (rd_V hC hP hK (va_recv hK hP (ci := 2) (q0 := 0) rfl rfl)) rfl rfl hl.1 rfl (lv_room (Nat.le_of_ble_eq_true rfl)) dM_lookUp_3 ⟨Nat.zero_le _, Nat.zero_le _⟩) ?_
  refine W.eq (g2 := F0 m 6 ls [.int (tt_has mn (nI j)), .ref m0]) rfl ?_
  refine lv_if_eq (tgt := 22) hx hb dM_lookUp_6 (by decide) (fun c_1 => ?_) (fun c_1 => ?_)
  · exact absurd c_1 hth
  · refine lv_iload_n hx hb dM_lookUp_9 rfl (lv_at hl 2 rfl) ?_
    refine lv_if_lt (tgt := 22) hx hb dM_lookUp_10 (by decide) (fun c_2 => ?_) (fun c_2 => ?_)
    · exact absurd c_2 (nI_pos (by omega))
    · refine lv_iload_n hx hb dM_lookUp_13 rfl (lv_at hl 2 rfl) ?_
      refine lv_aload_n hx hb dM_lookUp_14 rfl (lv_at hl 0 rfl) ?_
      refine lv_iload_n hx hb dM_lookUp_15 rfl (lv_at hl 1 rfl) ?_
      refine W.callV (W.runV (C := "TextureBankModel") (As := [.int (nI j)]) (rest := [.int (nI L), .ref m0]) ⟨hx, hb, hml, hown, hB⟩ (kM_last l D cI m0 a1 a2 a3 a4 a5 a6 th mn zz si f1 f2 f3 f4 f5 f6 j k hj hk hf) ⟨callB_of 1 hB gwM_last rfl rfl rfl (hB _ wd_3) (hB _ wd_384) ydM_last ⟨Nat.le_of_ble_eq_true rfl, Nat.le_of_ble_eq_true rfl⟩, hB _ wd_386, hB _ ws_13⟩ (rd_V hC hP hK (va_recv hK hP (ci := 2) (q0 := 0) rfl rfl)) rfl rfl hl.1 rfl (lv_room (Nat.le_of_ble_eq_true rfl)) dM_lookUp_16 ⟨Nat.zero_le _, Nat.zero_le _⟩) ?_
      refine W.eq (g2 := F0 m 19 ls [.int (nI k), .int (nI L), .ref m0]) rfl ?_
      refine lv_icmp_le (tgt := 26) hx hb dM_lookUp_19 (by decide) (fun c_3 => ?_) (fun c_3 => ?_)
      · refine lv_iload_n hx hb dM_lookUp_26 rfl (lv_at hl 3 rfl) ?_
        refine W.callV (W.runS (As := [.int u9]) (rest := [.ref m0]) ⟨hx, hb, hml, hown, hB⟩ (kM_isPlace l u9) ⟨callB_of 1 hB gwM_isPlace rfl rfl rfl (hB _ wd_3) (hB _ wd_393) ydM_isPlace ⟨Nat.le_of_ble_eq_true rfl, Nat.le_of_ble_eq_true rfl⟩, hB _ wd_394⟩ (preEq) rfl rfl hl.1 rfl (lv_room (Nat.le_of_ble_eq_true rfl)) dM_lookUp_27 ⟨Nat.zero_le _, Nat.zero_le _⟩) ?_
        refine W.eq (g2 := F0 m 30 ls [.int (tt_isPlace u9), .ref m0]) rfl ?_
        refine lv_if_eq (tgt := 41) hx hb dM_lookUp_30 (by decide) (fun c_4 => ?_) (fun c_4 => ?_)
        · exact absurd c_4 h1
        · refine lv_iload hx hb dM_lookUp_33 (lv_at hl 4 rfl) ?_
          refine W.callV (W.runS (As := [.int v9]) (rest := [.ref m0]) ⟨hx, hb, hml, hown, hB⟩ (kM_isPlace l v9) ⟨callB_of 1 hB gwM_isPlace rfl rfl rfl (hB _ wd_3) (hB _ wd_393) ydM_isPlace ⟨Nat.le_of_ble_eq_true rfl, Nat.le_of_ble_eq_true rfl⟩, hB _ wd_394⟩ (preEq) rfl rfl hl.1 rfl (lv_room (Nat.le_of_ble_eq_true rfl)) dM_lookUp_35 ⟨Nat.zero_le _, Nat.zero_le _⟩) ?_
          refine W.eq (g2 := F0 m 38 ls [.int (tt_isPlace v9), .ref m0]) rfl ?_
          refine lv_if_ne (tgt := 45) hx hb dM_lookUp_38 (by decide) (fun c_5 => ?_) (fun c_5 => ?_)
          · refine lv_iconst (v := 0) hx hb dM_lookUp_45 (by decide) ?_
            refine va_put (D := D) (ci := 2) (v := .int 0) (ty := .int) (C := RM) (T := FM) (N := 10) hx hb hB inM tyM tyM_ok nmM hown hK hP hD hS 0 rfl rfl 0 (by decide) (hB _ wd_322) (fun _ h9 => h9) rfl (by decide +kernel) rfl rfl (Nat.le_of_ble_eq_true rfl) dM_lookUp_46 (fun H locs hP hD hS => ?_)
            have hP : va_P D tbCl [(m0, .inr (2, [.int 0, .int mn, .ref a1, .ref a2, .ref a3, .ref a4, .int zz, .ref a5, .ref a6, .int si])), (a1, .inl (cI, 8, .inl f1)), (a2, .inl (cI, 8, .inl f2)), (a3, .inl (cI, 8, .inl f3)), (a4, .inl (cI, 8192, .inl f4)), (a5, .inl (cI, 1024, .inl f5)), (a6, .inl (cI, 1024, .inl f6))] H := hP
            have hD : va_D A [(m0, .inr (2, [.int 0, .int mn, .ref a1, .ref a2, .ref a3, .ref a4, .int zz, .ref a5, .ref a6, .int si])), (a1, .inl (cI, 8, .inl f1)), (a2, .inl (cI, 8, .inl f2)), (a3, .inl (cI, 8, .inl f3)), (a4, .inl (cI, 8192, .inl f4)), (a5, .inl (cI, 1024, .inl f5)), (a6, .inl (cI, 1024, .inl f6))] := hD
            refine lv_aload_n hx hb dM_lookUp_49 rfl (lv_at hl 0 rfl) ?_
            refine va_get (D := D) (ci := 2) (v := .int 0) (C := RM) (T := FM) (N := 10) hx hb hB inM hown hK hP 0 rfl rfl 0 (by decide) (hB _ wd_322) (fun _ h9 => h9) rfl dM_lookUp_50 ?_
            refine lv_if_eq (tgt := 58) hx hb dM_lookUp_53 (by decide) (fun c_6 => ?_) (fun c_6 => absurd c_6 (by decide))
            refine lv_aload_n hx hb dM_lookUp_58 rfl (lv_at hl 0 rfl) ?_
            refine lv_iload_n hx hb dM_lookUp_59 rfl (lv_at hl 1 rfl) ?_
            refine lv_iload_n hx hb dM_lookUp_60 rfl (lv_at hl 2 rfl) ?_
            have hFc := va_free (wc := [(m0, .inr (2, [.int 0, .int mn, .ref a1, .ref a2, .ref a3, .ref a4, .int zz, .ref a5, .ref a6, .int si])), (a1, .inl (cI, 8, .inl f1)), (a2, .inl (cI, 8, .inl f2)), (a3, .inl (cI, 8, .inl f3)), (a4, .inl (cI, 8192, .inl f4)), (a5, .inl (cI, 1024, .inl f5)), (a6, .inl (cI, 1024, .inl f6))]) hD hS hA [0, 1, 2, 3, 4, 5, 6] rfl
            refine va_callv (va_runV (C := "TextureBankModel") (As := [.int (nI j), .int (nI L)]) (rest := []) ⟨hx, hb, hml, hown, hB⟩ (kM_makes l D H.size cI m0 a1 a2 a3 a4 a5 a6 0 mn zz si f1 f2 f3 f4 f5 f6 j k L hj hk hL hf) ⟨callB_of 2 hB gwM_makes rfl rfl rfl (hB _ wd_3) (hB _ wd_397) ydM_makes ⟨Nat.le_of_ble_eq_true rfl, Nat.le_of_ble_eq_true rfl⟩, hB _ wd_399, hB _ ws_14⟩ (wr_V hC (hP.sub [0, 1, 2, 3, 4, 5, 6] rfl) (hK.sub [0] rfl) (hD.sub [0, 1, 2, 3, 4, 5, 6] (by decide) rfl) (va_recv hK hP (ci := 2) (q0 := 0) rfl rfl)) rfl rfl hl.1 rfl (lv_room (Nat.le_of_ble_eq_true rfl)) dM_lookUp_61 ⟨Nat.zero_le _, Nat.zero_le _⟩) hS (fun q _ h => hFc q h) hFc (fun u t H1 locs ht hvm hw hB1 hz1 hk1 hS => ?_)
            have hP1 : va_P D tbCl [(m0, .inr (2, [.int 0, .int mn, .ref a1, .ref a2, .ref a3, .ref a4, .int zz, .ref a5, .ref a6, .int (nI (2 ^ (k - L)))])), (a1, .inl (cI, 8, .inl f1)), (a2, .inl (cI, 8, .inl f2)), (a3, .inl (cI, 8, .inl f3)), (a4, .inl (cI, 8192, .inl f4)), (a5, .inl (cI, 1024, .inl f5)), (a6, .inl (cI, 1024, .inl (mm_hs (va_cpy f4 f6 (1024 * j) 0 (4 ^ k)) k L)))] H1 := by have h9 := hB1; rw [← ht]; exact h9
            have hP : va_P D tbCl [(m0, .inr (2, [.int 0, .int mn, .ref a1, .ref a2, .ref a3, .ref a4, .int zz, .ref a5, .ref a6, .int (nI (2 ^ (k - L)))])), (a1, .inl (cI, 8, .inl f1)), (a2, .inl (cI, 8, .inl f2)), (a3, .inl (cI, 8, .inl f3)), (a4, .inl (cI, 8192, .inl f4)), (a5, .inl (cI, 1024, .inl f5)), (a6, .inl (cI, 1024, .inl (mm_hs (va_cpy f4 f6 (1024 * j) 0 (4 ^ k)) k L)))] H1 := wd_back hP hD [0, 1, 2, 3, 4, 5, 6] rfl hk1 hP1 (by intro k q hq; match k, hq with | 0, hq => exact Or.inl ⟨0, hq⟩ | 1, hq => exact Or.inl ⟨1, hq⟩ | 2, hq => exact Or.inl ⟨2, hq⟩ | 3, hq => exact Or.inl ⟨3, hq⟩ | 4, hq => exact Or.inl ⟨4, hq⟩ | 5, hq => exact Or.inl ⟨5, hq⟩ | 6, hq => exact Or.inl ⟨6, hq⟩ | k + 7, hq => simp at hq)
            have hD : va_D A [(m0, .inr (2, [.int 0, .int mn, .ref a1, .ref a2, .ref a3, .ref a4, .int zz, .ref a5, .ref a6, .int (nI (2 ^ (k - L)))])), (a1, .inl (cI, 8, .inl f1)), (a2, .inl (cI, 8, .inl f2)), (a3, .inl (cI, 8, .inl f3)), (a4, .inl (cI, 8192, .inl f4)), (a5, .inl (cI, 1024, .inl f5)), (a6, .inl (cI, 1024, .inl (mm_hs (va_cpy f4 f6 (1024 * j) 0 (4 ^ k)) k L)))] := wd_D hD rfl
            generalize H1 = H at hP hS ⊢
            refine W.eq (g2 := F0 m 64 ls []) rfl ?_
            refine lv_iload_n hx hb dM_lookUp_64 rfl (lv_at hl 3 rfl) ?_
            refine lv_i2l hx hb dM_lookUp_65 rfl ?_
            refine lv_aload_n hx hb dM_lookUp_66 rfl (lv_at hl 0 rfl) ?_
            refine va_get (D := D) (ci := 2) (v := .int (nI (2 ^ (k - L)))) (C := RM) (T := FM) (N := 10) hx hb hB inM hown hK hP 0 rfl rfl 9 (by decide) (hB _ wd_331) (fun _ h9 => h9) rfl dM_lookUp_67 ?_
            refine lv_i2l hx hb dM_lookUp_70 rfl ?_
            refine lv_lmul hx hb dM_lookUp_71 ?_
            refine lv_lstore (lv' := [(5, .long (u9.toInt64 * ((nI (2 ^ (k - L))).toInt64))), (0, .ref m0), (1, .int (nI j)), (2, .int (nI L)), (3, .int u9), (4, .int v9)]) hx hb dM_lookUp_72 hl (by decide) rfl (fun ls hl => ?_)
            refine lv_iload hx hb dM_lookUp_74 (lv_at hl 5 rfl) ?_
            refine lv_i2l hx hb dM_lookUp_76 rfl ?_
            refine lv_aload_n hx hb dM_lookUp_77 rfl (lv_at hl 1 rfl) ?_
            refine va_get (D := D) (ci := 2) (v := .int (nI (2 ^ (k - L)))) (C := RM) (T := FM) (N := 10) hx hb hB inM hown hK hP 0 rfl rfl 9 (by decide) (hB _ wd_331) (fun _ h9 => h9) rfl dM_lookUp_78 ?_
            refine lv_i2l hx hb dM_lookUp_81 rfl ?_
            refine lv_lmul hx hb dM_lookUp_82 ?_
            refine lv_lstore (lv' := [(7, .long (v9.toInt64 * ((nI (2 ^ (k - L))).toInt64))), (5, .long (u9.toInt64 * ((nI (2 ^ (k - L))).toInt64))), (0, .ref m0), (1, .int (nI j)), (2, .int (nI L)), (3, .int u9), (4, .int v9)]) hx hb dM_lookUp_83 hl (by decide) rfl (fun ls hl => ?_)
            refine lv_aload_n hx hb dM_lookUp_85 rfl (lv_at hl 2 rfl) ?_
            refine va_get (D := D) (ci := 2) (v := .ref a2) (C := RM) (T := FM) (N := 10) hx hb hB inM hown hK hP 0 rfl rfl 3 (by decide) (hB _ wd_325) (fun _ h9 => h9) rfl dM_lookUp_86 ?_
            refine lv_iload_n hx hb dM_lookUp_89 rfl (lv_at hl 3 rfl) ?_
            refine va_iald hx hb hK hP 2 0 (f := f2) rfl rfl (i := nI j) (vp_in_nI (hj) (by omega)) dM_lookUp_90 ?_
            refine W.eq (g2 := F0 m 91 ls [.int (f2 j)]) (by rw [nI_clamp (by have := (hj : j < 8); omega)]) ?_
            refine lv_istore (lv' := [(9, .int (f2 j)), (7, .long (v9.toInt64 * ((nI (2 ^ (k - L))).toInt64))), (5, .long (u9.toInt64 * ((nI (2 ^ (k - L))).toInt64))), (0, .ref m0), (1, .int (nI j)), (2, .int (nI L)), (3, .int u9), (4, .int v9)]) hx hb dM_lookUp_91 hl (by decide) rfl (fun ls hl => ?_)
            refine lv_aload_n hx hb dM_lookUp_93 rfl (lv_at hl 3 rfl) ?_
            refine va_get (D := D) (ci := 2) (v := .ref a3) (C := RM) (T := FM) (N := 10) hx hb hB inM hown hK hP 0 rfl rfl 4 (by decide) (hB _ wd_326) (fun _ h9 => h9) rfl dM_lookUp_94 ?_
            refine lv_iload_n hx hb dM_lookUp_97 rfl (lv_at hl 4 rfl) ?_
            refine va_iald hx hb hK hP 3 0 (f := f3) rfl rfl (i := nI j) (vp_in_nI (hj) (by omega)) dM_lookUp_98 ?_
            refine W.eq (g2 := F0 m 99 ls [.int (f3 j)]) (by rw [nI_clamp (by have := (hj : j < 8); omega)]) ?_
            refine lv_iconst (v := 1) hx hb dM_lookUp_99 (by decide) ?_
            refine lv_icmp_ne (tgt := 122) hx hb dM_lookUp_100 (by decide) (fun c_8 => ?_) (fun c_8 => ?_)
            · exact absurd h3 c_8
            · refine lv_aload_n hx hb dM_lookUp_103 rfl (lv_at hl 3 rfl) ?_
              refine lv_iload hx hb dM_lookUp_104 (lv_at hl 0 rfl) ?_
              refine lv_lload hx hb dM_lookUp_106 (lv_at hl 2 rfl) ?_
              refine lv_ldc2 (v := 32768) hx hb hown (hB _ wd_408) dM_lookUp_108 ?_
              refine lv_lsub hx hb dM_lookUp_111 ?_
              refine lv_lload hx hb dM_lookUp_112 (lv_at hl 1 rfl) ?_
              refine lv_ldc2 (v := 32768) hx hb hown (hB _ wd_408) dM_lookUp_114 ?_
              refine lv_lsub hx hb dM_lookUp_117 ?_
              refine W.callV (W.runV (C := "TextureBankModel") (As := [.int (f2 j), .long ((u9.toInt64 * ((nI (2 ^ (k - L))).toInt64)) - 32768), .long ((v9.toInt64 * ((nI (2 ^ (k - L))).toInt64)) - 32768)]) (rest := []) ⟨hx, hb, hml, hown, hB⟩ (kM_soft l D cI m0 a1 a2 a3 a4 a5 a6 0 mn zz f1 f2 f3 f4 f5 (mm_hs (va_cpy f4 f6 (1024 * j) 0 (4 ^ k)) k L) (k - L) (by omega) (f2 j) ((u9.toInt64 * ((nI (2 ^ (k - L))).toInt64)) - 32768) ((v9.toInt64 * ((nI (2 ^ (k - L))).toInt64)) - 32768) x0 x1 y0 y1 lx0 lx1 ly0 ly1 hx0 hx1 hy0 hy1 hs1 hs2) ⟨callB_of 3 hB gwM_soft rfl rfl rfl (hB _ wd_3) (hB _ wd_409) ydM_soft ⟨Nat.le_of_ble_eq_true rfl, Nat.le_of_ble_eq_true rfl⟩, hB _ wd_411, hB _ ws_16⟩ (rd_V hC hP hK (va_recv hK hP (ci := 2) (q0 := 0) rfl rfl)) rfl rfl hl.1 rfl (lv_room (Nat.le_of_ble_eq_true rfl)) dM_lookUp_118 ⟨Nat.zero_le _, Nat.zero_le _⟩) ?_
              refine W.eq (g2 := F0 m 121 ls [.int (mm_soft2 (mm_hs (va_cpy f4 f6 (1024 * j) 0 (4 ^ k)) k L (y0 * 2 ^ (k - L) + x0)) (mm_hs (va_cpy f4 f6 (1024 * j) 0 (4 ^ k)) k L (y0 * 2 ^ (k - L) + x1)) (mm_hs (va_cpy f4 f6 (1024 * j) 0 (4 ^ k)) k L (y1 * 2 ^ (k - L) + x0)) (mm_hs (va_cpy f4 f6 (1024 * j) 0 (4 ^ k)) k L (y1 * 2 ^ (k - L) + x1)) (mm_div (((u9.toInt64 * ((nI (2 ^ (k - L))).toInt64)) - 32768) - 65536 * mm_div ((u9.toInt64 * ((nI (2 ^ (k - L))).toInt64)) - 32768) 65536) 256) (mm_div (((v9.toInt64 * ((nI (2 ^ (k - L))).toInt64)) - 32768) - 65536 * mm_div ((v9.toInt64 * ((nI (2 ^ (k - L))).toInt64)) - 32768) 65536) 256))]) rfl ?_
              exact W.iret hx hb hr (fun t ht hW => ⟨⟨_, (), rfl, rfl, (by have h9 : va_P D tbCl [(m0, .inr (2, [.int 0, .int mn, .ref a1, .ref a2, .ref a3, .ref a4, .int zz, .ref a5, .ref a6, .int (nI (2 ^ (k - L)))])), (a1, .inl (cI, 8, .inl f1)), (a2, .inl (cI, 8, .inl f2)), (a3, .inl (cI, 8, .inl f3)), (a4, .inl (cI, 8192, .inl f4)), (a5, .inl (cI, 1024, .inl f5)), (a6, .inl (cI, 1024, .inl (mm_hs (va_cpy f4 f6 (1024 * j) 0 (4 ^ k)) k L)))] H := hP; rw [← ht] at h9; exact h9)⟩, hS.F ht⟩) hS.2.2 dM_lookUp_121
          · exact absurd c_5 h2
      · exact absurd (nI_le hL (by omega)) c_3

set_option maxHeartbeats 4000000 in
set_option maxRecDepth 100000 in
theorem kM_texel_bad (l : Launch) (D : va_G) (sz : Nat) (cI : ClassId) (m0 a1 a2 a3 a4 a5 a6 : Nat) (th mn zz si : Int32) (f1 f2 f3 f4 f5 f6 : Nat → Int32) (j k L : Nat) (hj : j < 8) (hk : k ≤ 5) (hL : L ≤ k) (hf : f1 j = nI (2 ^ k)) (hth : ¬ tt_has mn (nI j) = 0) (u9 v9 : Int32) (hbad : u9 < 0 ∨ nI (2 ^ (k - L)) ≤ u9 ∨ v9 < 0 ∨ ¬ v9 < nI (2 ^ (k - L))) : Met l yM_texel wM_texel (k2_rm 3 71) (wr_P [.ref m0, .int (nI j), .int (nI L), .int u9, .int v9] sz D [(cI, .int)] [(m0, .inr (2, [.int th, .int mn, .ref a1, .ref a2, .ref a3, .ref a4, .int zz, .ref a5, .ref a6, .int si])), (a1, .inl (cI, 8, .inl f1)), (a2, .inl (cI, 8, .inl f2)), (a3, .inl (cI, 8, .inl f3)), (a4, .inl (cI, 8192, .inl f4)), (a5, .inl (cI, 1024, .inl f5)), (a6, .inl (cI, 1024, .inl f6))]) (wr_Qi 0 D (va_A [(m0, .inr (2, [.int th, .int mn, .ref a1, .ref a2, .ref a3, .ref a4, .int zz, .ref a5, .ref a6, .int si])), (a1, .inl (cI, 8, .inl f1)), (a2, .inl (cI, 8, .inl f2)), (a3, .inl (cI, 8, .inl f3)), (a4, .inl (cI, 8192, .inl f4)), (a5, .inl (cI, 1024, .inl f5)), (a6, .inl (cI, 1024, .inl f6))] sz) [(m0, .inr (2, [.int 1, .int mn, .ref a1, .ref a2, .ref a3, .ref a4, .int zz, .ref a5, .ref a6, .int (nI (2 ^ (k - L)))])), (a1, .inl (cI, 8, .inl f1)), (a2, .inl (cI, 8, .inl f2)), (a3, .inl (cI, 8, .inl f3)), (a4, .inl (cI, 8192, .inl f4)), (a5, .inl (cI, 1024, .inl f5)), (a6, .inl (cI, 1024, .inl (mm_hs (va_cpy f4 f6 (1024 * j) 0 (4 ^ k)) k L)))]) 0 0 (va_A [(m0, .inr (2, [.int th, .int mn, .ref a1, .ref a2, .ref a3, .ref a4, .int zz, .ref a5, .ref a6, .int si])), (a1, .inl (cI, 8, .inl f1)), (a2, .inl (cI, 8, .inl f2)), (a3, .inl (cI, 8, .inl f3)), (a4, .inl (cI, 8192, .inl f4)), (a5, .inl (cI, 1024, .inl f5)), (a6, .inl (cI, 1024, .inl f6))] sz) := by
  refine Met.ofW (cc := cM_texel) (maxL := 5) (ret := (some .int)) (by decide) rfl ?_
  intro p e s m args below meth c s₁ B hml hv
  obtain ⟨rfl, hsz, hC, hP, hK, hD0⟩ := hv
  have hx := B.exec
  have hb := B.bytes
  have hr := B.returns
  have hB : ∀ w ∈ tbB, w.before _ s = true := fun w h => (atoms_spec (ws := wM_texel) B.pre) w (List.mem_cons_of_mem _ h)
  have hown : s.vm.findClass "TextureBankModel" = some m.cls := findClass_of_methodNamed B.named
  have hlocks := B.notSynchronized
  subst hsz
  have hD := hD0.self (sz := s.heap.size)
  generalize hAe : va_A [(m0, .inr (2, [.int th, .int mn, .ref a1, .ref a2, .ref a3, .ref a4, .int zz, .ref a5, .ref a6, .int si])), (a1, .inl (cI, 8, .inl f1)), (a2, .inl (cI, 8, .inl f2)), (a3, .inl (cI, 8, .inl f3)), (a4, .inl (cI, 8192, .inl f4)), (a5, .inl (cI, 1024, .inl f5)), (a6, .inl (cI, 1024, .inl f6))] s.heap.size = A at hD ⊢
  have hA : ∀ q : Nat, s.heap.size ≤ q → A q := fun q h => by rw [← hAe]; exact Or.inr h
  have hS : va_S A s.heap s.heap [] := va_S.rf
  have hl := lv_entry ([.ref m0, .int (nI j), .int (nI L), .int u9, .int v9]) (n := 5) (Nat.le_of_ble_eq_true rfl)
  rw [lg_entry_eq]
  generalize (lg_sl ([.ref m0, .int (nI j), .int (nI L), .int u9, .int v9]) ++ List.replicate (5 - (lg_sl ([.ref m0, .int (nI j), .int (nI L), .int u9, .int v9])).length) Slot.unset).toArray = ls at hl ⊢
  have hl : lv_has ls 5 [(0, .ref m0), (1, .int (nI j)), (2, .int (nI L)), (3, .int u9), (4, .int v9)] := hl
  refine lv_aload_n hx hb dM_texel_0 rfl (lv_at hl 0 rfl) ?_
  refine lv_aload_n hx hb dM_texel_1 rfl (lv_at hl 0 rfl) ?_
  refine lv_iload_n hx hb dM_texel_2 rfl (lv_at hl 1 rfl) ?_
  refine W.callV (W.runV (C := "TextureBankModel") (As := [.int (nI j)]) (rest := [.ref m0]) ⟨hx, hb, hml, hown, hB⟩ (kM_isThere l D cI m0 a1 a2 a3 a4 a5 a6 th mn zz si f1 f2 f3 f4 f5 f6 (nI j)) ⟨callB_of 1 hB gwM_isThere rfl rfl rfl (hB _ wd_3) (hB _ wd_377) ydM_isThere ⟨Nat.le_of_ble_eq_true rfl, Nat.le_of_ble_eq_true rfl⟩, hB _ wd_379, hB _ ws_12⟩ (rd_V hC hP hK (va_recv hK hP (ci := 2) (q0 := 0) rfl rfl)) rfl rfl hl.1 rfl (lv_room (Nat.le_of_ble_eq_true rfl)) dM_texel_3 ⟨Nat.zero_le _, Nat.zero_le _⟩) ?_
  refine W.eq (g2 := F0 m 6 ls [.int (tt_has mn (nI j)), .ref m0]) rfl ?_
  refine lv_if_eq (tgt := 22) hx hb dM_texel_6 (by decide) (fun c_1 => ?_) (fun c_1 => ?_)
  · exact absurd c_1 hth
  · refine lv_iload_n hx hb dM_texel_9 rfl (lv_at hl 2 rfl) ?_
    refine lv_if_lt (tgt := 22) hx hb dM_texel_10 (by decide) (fun c_2 => ?_) (fun c_2 => ?_)
    · exact absurd c_2 (nI_pos (by omega))
    · refine lv_iload_n hx hb dM_texel_13 rfl (lv_at hl 2 rfl) ?_
      refine lv_aload_n hx hb dM_texel_14 rfl (lv_at hl 0 rfl) ?_
      refine lv_iload_n hx hb dM_texel_15 rfl (lv_at hl 1 rfl) ?_
      refine W.callV (W.runV (C := "TextureBankModel") (As := [.int (nI j)]) (rest := [.int (nI L), .ref m0]) ⟨hx, hb, hml, hown, hB⟩ (kM_last l D cI m0 a1 a2 a3 a4 a5 a6 th mn zz si f1 f2 f3 f4 f5 f6 j k hj hk hf) ⟨callB_of 1 hB gwM_last rfl rfl rfl (hB _ wd_3) (hB _ wd_384) ydM_last ⟨Nat.le_of_ble_eq_true rfl, Nat.le_of_ble_eq_true rfl⟩, hB _ wd_386, hB _ ws_13⟩ (rd_V hC hP hK (va_recv hK hP (ci := 2) (q0 := 0) rfl rfl)) rfl rfl hl.1 rfl (lv_room (Nat.le_of_ble_eq_true rfl)) dM_texel_16 ⟨Nat.zero_le _, Nat.zero_le _⟩) ?_
      refine W.eq (g2 := F0 m 19 ls [.int (nI k), .int (nI L), .ref m0]) rfl ?_
      refine lv_icmp_le (tgt := 26) hx hb dM_texel_19 (by decide) (fun c_3 => ?_) (fun c_3 => ?_)
      · refine lv_iconst (v := 0) hx hb dM_texel_26 (by decide) ?_
        refine va_put (D := D) (ci := 2) (v := .int 0) (ty := .int) (C := RM) (T := FM) (N := 10) hx hb hB inM tyM tyM_ok nmM hown hK hP hD hS 0 rfl rfl 0 (by decide) (hB _ wd_322) (fun _ h9 => h9) rfl (by decide +kernel) rfl rfl (Nat.le_of_ble_eq_true rfl) dM_texel_27 (fun H locs hP hD hS => ?_)
        have hP : va_P D tbCl [(m0, .inr (2, [.int 0, .int mn, .ref a1, .ref a2, .ref a3, .ref a4, .int zz, .ref a5, .ref a6, .int si])), (a1, .inl (cI, 8, .inl f1)), (a2, .inl (cI, 8, .inl f2)), (a3, .inl (cI, 8, .inl f3)), (a4, .inl (cI, 8192, .inl f4)), (a5, .inl (cI, 1024, .inl f5)), (a6, .inl (cI, 1024, .inl f6))] H := hP
        have hD : va_D A [(m0, .inr (2, [.int 0, .int mn, .ref a1, .ref a2, .ref a3, .ref a4, .int zz, .ref a5, .ref a6, .int si])), (a1, .inl (cI, 8, .inl f1)), (a2, .inl (cI, 8, .inl f2)), (a3, .inl (cI, 8, .inl f3)), (a4, .inl (cI, 8192, .inl f4)), (a5, .inl (cI, 1024, .inl f5)), (a6, .inl (cI, 1024, .inl f6))] := hD
        refine lv_aload_n hx hb dM_texel_30 rfl (lv_at hl 0 rfl) ?_
        refine va_get (D := D) (ci := 2) (v := .int 0) (C := RM) (T := FM) (N := 10) hx hb hB inM hown hK hP 0 rfl rfl 0 (by decide) (hB _ wd_322) (fun _ h9 => h9) rfl dM_texel_31 ?_
        refine lv_if_eq (tgt := 39) hx hb dM_texel_34 (by decide) (fun c_4 => ?_) (fun c_4 => absurd c_4 (by decide))
        refine lv_aload_n hx hb dM_texel_39 rfl (lv_at hl 0 rfl) ?_
        refine lv_iload_n hx hb dM_texel_40 rfl (lv_at hl 1 rfl) ?_
        refine lv_iload_n hx hb dM_texel_41 rfl (lv_at hl 2 rfl) ?_
        have hFc := va_free (wc := [(m0, .inr (2, [.int 0, .int mn, .ref a1, .ref a2, .ref a3, .ref a4, .int zz, .ref a5, .ref a6, .int si])), (a1, .inl (cI, 8, .inl f1)), (a2, .inl (cI, 8, .inl f2)), (a3, .inl (cI, 8, .inl f3)), (a4, .inl (cI, 8192, .inl f4)), (a5, .inl (cI, 1024, .inl f5)), (a6, .inl (cI, 1024, .inl f6))]) hD hS hA [0, 1, 2, 3, 4, 5, 6] rfl
        refine va_callv (va_runV (C := "TextureBankModel") (As := [.int (nI j), .int (nI L)]) (rest := []) ⟨hx, hb, hml, hown, hB⟩ (kM_makes l D H.size cI m0 a1 a2 a3 a4 a5 a6 0 mn zz si f1 f2 f3 f4 f5 f6 j k L hj hk hL hf) ⟨callB_of 2 hB gwM_makes rfl rfl rfl (hB _ wd_3) (hB _ wd_397) ydM_makes ⟨Nat.le_of_ble_eq_true rfl, Nat.le_of_ble_eq_true rfl⟩, hB _ wd_399, hB _ ws_14⟩ (wr_V hC (hP.sub [0, 1, 2, 3, 4, 5, 6] rfl) (hK.sub [0] rfl) (hD.sub [0, 1, 2, 3, 4, 5, 6] (by decide) rfl) (va_recv hK hP (ci := 2) (q0 := 0) rfl rfl)) rfl rfl hl.1 rfl (lv_room (Nat.le_of_ble_eq_true rfl)) dM_texel_42 ⟨Nat.zero_le _, Nat.zero_le _⟩) hS (fun q _ h => hFc q h) hFc (fun u t H1 locs ht hvm hw hB1 hz1 hk1 hS => ?_)
        have hP1 : va_P D tbCl [(m0, .inr (2, [.int 0, .int mn, .ref a1, .ref a2, .ref a3, .ref a4, .int zz, .ref a5, .ref a6, .int (nI (2 ^ (k - L)))])), (a1, .inl (cI, 8, .inl f1)), (a2, .inl (cI, 8, .inl f2)), (a3, .inl (cI, 8, .inl f3)), (a4, .inl (cI, 8192, .inl f4)), (a5, .inl (cI, 1024, .inl f5)), (a6, .inl (cI, 1024, .inl (mm_hs (va_cpy f4 f6 (1024 * j) 0 (4 ^ k)) k L)))] H1 := by have h9 := hB1; rw [← ht]; exact h9
        have hP : va_P D tbCl [(m0, .inr (2, [.int 0, .int mn, .ref a1, .ref a2, .ref a3, .ref a4, .int zz, .ref a5, .ref a6, .int (nI (2 ^ (k - L)))])), (a1, .inl (cI, 8, .inl f1)), (a2, .inl (cI, 8, .inl f2)), (a3, .inl (cI, 8, .inl f3)), (a4, .inl (cI, 8192, .inl f4)), (a5, .inl (cI, 1024, .inl f5)), (a6, .inl (cI, 1024, .inl (mm_hs (va_cpy f4 f6 (1024 * j) 0 (4 ^ k)) k L)))] H1 := wd_back hP hD [0, 1, 2, 3, 4, 5, 6] rfl hk1 hP1 (by intro k q hq; match k, hq with | 0, hq => exact Or.inl ⟨0, hq⟩ | 1, hq => exact Or.inl ⟨1, hq⟩ | 2, hq => exact Or.inl ⟨2, hq⟩ | 3, hq => exact Or.inl ⟨3, hq⟩ | 4, hq => exact Or.inl ⟨4, hq⟩ | 5, hq => exact Or.inl ⟨5, hq⟩ | 6, hq => exact Or.inl ⟨6, hq⟩ | k + 7, hq => simp at hq)
        have hD : va_D A [(m0, .inr (2, [.int 0, .int mn, .ref a1, .ref a2, .ref a3, .ref a4, .int zz, .ref a5, .ref a6, .int (nI (2 ^ (k - L)))])), (a1, .inl (cI, 8, .inl f1)), (a2, .inl (cI, 8, .inl f2)), (a3, .inl (cI, 8, .inl f3)), (a4, .inl (cI, 8192, .inl f4)), (a5, .inl (cI, 1024, .inl f5)), (a6, .inl (cI, 1024, .inl (mm_hs (va_cpy f4 f6 (1024 * j) 0 (4 ^ k)) k L)))] := wd_D hD rfl
        generalize H1 = H at hP hS ⊢
        refine W.eq (g2 := F0 m 45 ls []) rfl ?_
        refine lv_aload_n hx hb dM_texel_45 rfl (lv_at hl 0 rfl) ?_
        refine lv_iload_n hx hb dM_texel_46 rfl (lv_at hl 3 rfl) ?_
        refine lv_if_lt (tgt := 72) hx hb dM_texel_47 (by decide) (fun c_6 => ?_) (fun c_6 => ?_)
        · refine lv_iconst (v := 1) hx hb dM_texel_72 (by decide) ?_
          refine lv_goto (tgt := 77) hx hb dM_texel_73 (by decide) ?_
          refine va_put (D := D) (ci := 2) (v := .int 1) (ty := .int) (C := RM) (T := FM) (N := 10) hx hb hB inM tyM tyM_ok nmM hown hK hP hD hS 0 rfl rfl 0 (by decide) (hB _ wd_322) (fun _ h9 => h9) rfl (by decide +kernel) rfl rfl (Nat.le_of_ble_eq_true rfl) dM_texel_77 (fun H locs hP hD hS => ?_)
          have hP : va_P D tbCl [(m0, .inr (2, [.int 1, .int mn, .ref a1, .ref a2, .ref a3, .ref a4, .int zz, .ref a5, .ref a6, .int (nI (2 ^ (k - L)))])), (a1, .inl (cI, 8, .inl f1)), (a2, .inl (cI, 8, .inl f2)), (a3, .inl (cI, 8, .inl f3)), (a4, .inl (cI, 8192, .inl f4)), (a5, .inl (cI, 1024, .inl f5)), (a6, .inl (cI, 1024, .inl (mm_hs (va_cpy f4 f6 (1024 * j) 0 (4 ^ k)) k L)))] H := hP
          have hD : va_D A [(m0, .inr (2, [.int 1, .int mn, .ref a1, .ref a2, .ref a3, .ref a4, .int zz, .ref a5, .ref a6, .int (nI (2 ^ (k - L)))])), (a1, .inl (cI, 8, .inl f1)), (a2, .inl (cI, 8, .inl f2)), (a3, .inl (cI, 8, .inl f3)), (a4, .inl (cI, 8192, .inl f4)), (a5, .inl (cI, 1024, .inl f5)), (a6, .inl (cI, 1024, .inl (mm_hs (va_cpy f4 f6 (1024 * j) 0 (4 ^ k)) k L)))] := hD
          refine lv_aload_n hx hb dM_texel_80 rfl (lv_at hl 0 rfl) ?_
          refine va_get (D := D) (ci := 2) (v := .int 1) (C := RM) (T := FM) (N := 10) hx hb hB inM hown hK hP 0 rfl rfl 0 (by decide) (hB _ wd_322) (fun _ h9 => h9) rfl dM_texel_81 ?_
          refine lv_iconst (v := 1) hx hb dM_texel_84 (by decide) ?_
          refine lv_icmp_ne (tgt := 92) hx hb dM_texel_85 (by decide) (fun c_7 => absurd c_7 (by decide)) (fun c_7 => ?_)
          refine lv_iconst (v := 0) hx hb dM_texel_88 (by decide) ?_
          refine lv_goto (tgt := 106) hx hb dM_texel_89 (by decide) ?_
          exact W.iret hx hb hr (fun t ht hW => ⟨⟨_, (), rfl, rfl, (by have h9 : va_P D tbCl [(m0, .inr (2, [.int 1, .int mn, .ref a1, .ref a2, .ref a3, .ref a4, .int zz, .ref a5, .ref a6, .int (nI (2 ^ (k - L)))])), (a1, .inl (cI, 8, .inl f1)), (a2, .inl (cI, 8, .inl f2)), (a3, .inl (cI, 8, .inl f3)), (a4, .inl (cI, 8192, .inl f4)), (a5, .inl (cI, 1024, .inl f5)), (a6, .inl (cI, 1024, .inl (mm_hs (va_cpy f4 f6 (1024 * j) 0 (4 ^ k)) k L)))] H := hP; rw [← ht] at h9; exact h9)⟩, hS.F ht⟩) hS.2.2 dM_texel_106
        · refine lv_iload_n hx hb dM_texel_50 rfl (lv_at hl 3 rfl) ?_
          refine lv_aload_n hx hb dM_texel_51 rfl (lv_at hl 0 rfl) ?_
          refine va_get (D := D) (ci := 2) (v := .int (nI (2 ^ (k - L)))) (C := RM) (T := FM) (N := 10) hx hb hB inM hown hK hP 0 rfl rfl 9 (by decide) (hB _ wd_331) (fun _ h9 => h9) rfl dM_texel_52 ?_
          refine lv_icmp_ge (tgt := 72) hx hb dM_texel_55 (by decide) (fun c_8 => ?_) (fun c_8 => ?_)
          · refine lv_iconst (v := 1) hx hb dM_texel_72 (by decide) ?_
            refine lv_goto (tgt := 77) hx hb dM_texel_73 (by decide) ?_
            refine va_put (D := D) (ci := 2) (v := .int 1) (ty := .int) (C := RM) (T := FM) (N := 10) hx hb hB inM tyM tyM_ok nmM hown hK hP hD hS 0 rfl rfl 0 (by decide) (hB _ wd_322) (fun _ h9 => h9) rfl (by decide +kernel) rfl rfl (Nat.le_of_ble_eq_true rfl) dM_texel_77 (fun H locs hP hD hS => ?_)
            have hP : va_P D tbCl [(m0, .inr (2, [.int 1, .int mn, .ref a1, .ref a2, .ref a3, .ref a4, .int zz, .ref a5, .ref a6, .int (nI (2 ^ (k - L)))])), (a1, .inl (cI, 8, .inl f1)), (a2, .inl (cI, 8, .inl f2)), (a3, .inl (cI, 8, .inl f3)), (a4, .inl (cI, 8192, .inl f4)), (a5, .inl (cI, 1024, .inl f5)), (a6, .inl (cI, 1024, .inl (mm_hs (va_cpy f4 f6 (1024 * j) 0 (4 ^ k)) k L)))] H := hP
            have hD : va_D A [(m0, .inr (2, [.int 1, .int mn, .ref a1, .ref a2, .ref a3, .ref a4, .int zz, .ref a5, .ref a6, .int (nI (2 ^ (k - L)))])), (a1, .inl (cI, 8, .inl f1)), (a2, .inl (cI, 8, .inl f2)), (a3, .inl (cI, 8, .inl f3)), (a4, .inl (cI, 8192, .inl f4)), (a5, .inl (cI, 1024, .inl f5)), (a6, .inl (cI, 1024, .inl (mm_hs (va_cpy f4 f6 (1024 * j) 0 (4 ^ k)) k L)))] := hD
            refine lv_aload_n hx hb dM_texel_80 rfl (lv_at hl 0 rfl) ?_
            refine va_get (D := D) (ci := 2) (v := .int 1) (C := RM) (T := FM) (N := 10) hx hb hB inM hown hK hP 0 rfl rfl 0 (by decide) (hB _ wd_322) (fun _ h9 => h9) rfl dM_texel_81 ?_
            refine lv_iconst (v := 1) hx hb dM_texel_84 (by decide) ?_
            refine lv_icmp_ne (tgt := 92) hx hb dM_texel_85 (by decide) (fun c_9 => absurd c_9 (by decide)) (fun c_9 => ?_)
            refine lv_iconst (v := 0) hx hb dM_texel_88 (by decide) ?_
            refine lv_goto (tgt := 106) hx hb dM_texel_89 (by decide) ?_
            exact W.iret hx hb hr (fun t ht hW => ⟨⟨_, (), rfl, rfl, (by have h9 : va_P D tbCl [(m0, .inr (2, [.int 1, .int mn, .ref a1, .ref a2, .ref a3, .ref a4, .int zz, .ref a5, .ref a6, .int (nI (2 ^ (k - L)))])), (a1, .inl (cI, 8, .inl f1)), (a2, .inl (cI, 8, .inl f2)), (a3, .inl (cI, 8, .inl f3)), (a4, .inl (cI, 8192, .inl f4)), (a5, .inl (cI, 1024, .inl f5)), (a6, .inl (cI, 1024, .inl (mm_hs (va_cpy f4 f6 (1024 * j) 0 (4 ^ k)) k L)))] H := hP; rw [← ht] at h9; exact h9)⟩, hS.F ht⟩) hS.2.2 dM_texel_106
          · refine lv_iload hx hb dM_texel_58 (lv_at hl 4 rfl) ?_
            refine lv_if_lt (tgt := 72) hx hb dM_texel_60 (by decide) (fun c_10 => ?_) (fun c_10 => ?_)
            · refine lv_iconst (v := 1) hx hb dM_texel_72 (by decide) ?_
              refine lv_goto (tgt := 77) hx hb dM_texel_73 (by decide) ?_
              refine va_put (D := D) (ci := 2) (v := .int 1) (ty := .int) (C := RM) (T := FM) (N := 10) hx hb hB inM tyM tyM_ok nmM hown hK hP hD hS 0 rfl rfl 0 (by decide) (hB _ wd_322) (fun _ h9 => h9) rfl (by decide +kernel) rfl rfl (Nat.le_of_ble_eq_true rfl) dM_texel_77 (fun H locs hP hD hS => ?_)
              have hP : va_P D tbCl [(m0, .inr (2, [.int 1, .int mn, .ref a1, .ref a2, .ref a3, .ref a4, .int zz, .ref a5, .ref a6, .int (nI (2 ^ (k - L)))])), (a1, .inl (cI, 8, .inl f1)), (a2, .inl (cI, 8, .inl f2)), (a3, .inl (cI, 8, .inl f3)), (a4, .inl (cI, 8192, .inl f4)), (a5, .inl (cI, 1024, .inl f5)), (a6, .inl (cI, 1024, .inl (mm_hs (va_cpy f4 f6 (1024 * j) 0 (4 ^ k)) k L)))] H := hP
              have hD : va_D A [(m0, .inr (2, [.int 1, .int mn, .ref a1, .ref a2, .ref a3, .ref a4, .int zz, .ref a5, .ref a6, .int (nI (2 ^ (k - L)))])), (a1, .inl (cI, 8, .inl f1)), (a2, .inl (cI, 8, .inl f2)), (a3, .inl (cI, 8, .inl f3)), (a4, .inl (cI, 8192, .inl f4)), (a5, .inl (cI, 1024, .inl f5)), (a6, .inl (cI, 1024, .inl (mm_hs (va_cpy f4 f6 (1024 * j) 0 (4 ^ k)) k L)))] := hD
              refine lv_aload_n hx hb dM_texel_80 rfl (lv_at hl 0 rfl) ?_
              refine va_get (D := D) (ci := 2) (v := .int 1) (C := RM) (T := FM) (N := 10) hx hb hB inM hown hK hP 0 rfl rfl 0 (by decide) (hB _ wd_322) (fun _ h9 => h9) rfl dM_texel_81 ?_
              refine lv_iconst (v := 1) hx hb dM_texel_84 (by decide) ?_
              refine lv_icmp_ne (tgt := 92) hx hb dM_texel_85 (by decide) (fun c_11 => absurd c_11 (by decide)) (fun c_11 => ?_)
              refine lv_iconst (v := 0) hx hb dM_texel_88 (by decide) ?_
              refine lv_goto (tgt := 106) hx hb dM_texel_89 (by decide) ?_
              exact W.iret hx hb hr (fun t ht hW => ⟨⟨_, (), rfl, rfl, (by have h9 : va_P D tbCl [(m0, .inr (2, [.int 1, .int mn, .ref a1, .ref a2, .ref a3, .ref a4, .int zz, .ref a5, .ref a6, .int (nI (2 ^ (k - L)))])), (a1, .inl (cI, 8, .inl f1)), (a2, .inl (cI, 8, .inl f2)), (a3, .inl (cI, 8, .inl f3)), (a4, .inl (cI, 8192, .inl f4)), (a5, .inl (cI, 1024, .inl f5)), (a6, .inl (cI, 1024, .inl (mm_hs (va_cpy f4 f6 (1024 * j) 0 (4 ^ k)) k L)))] H := hP; rw [← ht] at h9; exact h9)⟩, hS.F ht⟩) hS.2.2 dM_texel_106
            · refine lv_iload hx hb dM_texel_63 (lv_at hl 4 rfl) ?_
              refine lv_aload_n hx hb dM_texel_65 rfl (lv_at hl 0 rfl) ?_
              refine va_get (D := D) (ci := 2) (v := .int (nI (2 ^ (k - L)))) (C := RM) (T := FM) (N := 10) hx hb hB inM hown hK hP 0 rfl rfl 9 (by decide) (hB _ wd_331) (fun _ h9 => h9) rfl dM_texel_66 ?_
              refine lv_icmp_lt (tgt := 76) hx hb dM_texel_69 (by decide) (fun c_12 => ?_) (fun c_12 => ?_)
              · exact absurd c_12 (hbad.elim (fun h => absurd h c_6) (fun h => h.elim (fun h => absurd h c_8) (fun h => h.elim (fun h => absurd h c_10) id)))
              · refine lv_iconst (v := 1) hx hb dM_texel_72 (by decide) ?_
                refine lv_goto (tgt := 77) hx hb dM_texel_73 (by decide) ?_
                refine va_put (D := D) (ci := 2) (v := .int 1) (ty := .int) (C := RM) (T := FM) (N := 10) hx hb hB inM tyM tyM_ok nmM hown hK hP hD hS 0 rfl rfl 0 (by decide) (hB _ wd_322) (fun _ h9 => h9) rfl (by decide +kernel) rfl rfl (Nat.le_of_ble_eq_true rfl) dM_texel_77 (fun H locs hP hD hS => ?_)
                have hP : va_P D tbCl [(m0, .inr (2, [.int 1, .int mn, .ref a1, .ref a2, .ref a3, .ref a4, .int zz, .ref a5, .ref a6, .int (nI (2 ^ (k - L)))])), (a1, .inl (cI, 8, .inl f1)), (a2, .inl (cI, 8, .inl f2)), (a3, .inl (cI, 8, .inl f3)), (a4, .inl (cI, 8192, .inl f4)), (a5, .inl (cI, 1024, .inl f5)), (a6, .inl (cI, 1024, .inl (mm_hs (va_cpy f4 f6 (1024 * j) 0 (4 ^ k)) k L)))] H := hP
                have hD : va_D A [(m0, .inr (2, [.int 1, .int mn, .ref a1, .ref a2, .ref a3, .ref a4, .int zz, .ref a5, .ref a6, .int (nI (2 ^ (k - L)))])), (a1, .inl (cI, 8, .inl f1)), (a2, .inl (cI, 8, .inl f2)), (a3, .inl (cI, 8, .inl f3)), (a4, .inl (cI, 8192, .inl f4)), (a5, .inl (cI, 1024, .inl f5)), (a6, .inl (cI, 1024, .inl (mm_hs (va_cpy f4 f6 (1024 * j) 0 (4 ^ k)) k L)))] := hD
                refine lv_aload_n hx hb dM_texel_80 rfl (lv_at hl 0 rfl) ?_
                refine va_get (D := D) (ci := 2) (v := .int 1) (C := RM) (T := FM) (N := 10) hx hb hB inM hown hK hP 0 rfl rfl 0 (by decide) (hB _ wd_322) (fun _ h9 => h9) rfl dM_texel_81 ?_
                refine lv_iconst (v := 1) hx hb dM_texel_84 (by decide) ?_
                refine lv_icmp_ne (tgt := 92) hx hb dM_texel_85 (by decide) (fun c_13 => absurd c_13 (by decide)) (fun c_13 => ?_)
                refine lv_iconst (v := 0) hx hb dM_texel_88 (by decide) ?_
                refine lv_goto (tgt := 106) hx hb dM_texel_89 (by decide) ?_
                exact W.iret hx hb hr (fun t ht hW => ⟨⟨_, (), rfl, rfl, (by have h9 : va_P D tbCl [(m0, .inr (2, [.int 1, .int mn, .ref a1, .ref a2, .ref a3, .ref a4, .int zz, .ref a5, .ref a6, .int (nI (2 ^ (k - L)))])), (a1, .inl (cI, 8, .inl f1)), (a2, .inl (cI, 8, .inl f2)), (a3, .inl (cI, 8, .inl f3)), (a4, .inl (cI, 8192, .inl f4)), (a5, .inl (cI, 1024, .inl f5)), (a6, .inl (cI, 1024, .inl (mm_hs (va_cpy f4 f6 (1024 * j) 0 (4 ^ k)) k L)))] H := hP; rw [← ht] at h9; exact h9)⟩, hS.F ht⟩) hS.2.2 dM_texel_106
      · exact absurd (nI_le hL (by omega)) c_3

set_option maxHeartbeats 4000000 in
set_option maxRecDepth 100000 in
theorem kM_texel_ok (l : Launch) (D : va_G) (sz : Nat) (cI : ClassId) (m0 a1 a2 a3 a4 a5 a6 : Nat) (th mn zz si : Int32) (f1 f2 f3 f4 f5 f6 : Nat → Int32) (j k L : Nat) (hj : j < 8) (hk : k ≤ 5) (hL : L ≤ k) (hf : f1 j = nI (2 ^ k)) (hth : ¬ tt_has mn (nI j) = 0) (x0 y0 : Nat) (lx0 : x0 < 2 ^ (k - L)) (ly0 : y0 < 2 ^ (k - L)) : Met l yM_texel wM_texel (k2_rm 3 71) (wr_P [.ref m0, .int (nI j), .int (nI L), .int (nI x0), .int (nI y0)] sz D [(cI, .int)] [(m0, .inr (2, [.int th, .int mn, .ref a1, .ref a2, .ref a3, .ref a4, .int zz, .ref a5, .ref a6, .int si])), (a1, .inl (cI, 8, .inl f1)), (a2, .inl (cI, 8, .inl f2)), (a3, .inl (cI, 8, .inl f3)), (a4, .inl (cI, 8192, .inl f4)), (a5, .inl (cI, 1024, .inl f5)), (a6, .inl (cI, 1024, .inl f6))]) (wr_Qi (mm_hs (va_cpy f4 f6 (1024 * j) 0 (4 ^ k)) k L (y0 * 2 ^ (k - L) + x0)) D (va_A [(m0, .inr (2, [.int th, .int mn, .ref a1, .ref a2, .ref a3, .ref a4, .int zz, .ref a5, .ref a6, .int si])), (a1, .inl (cI, 8, .inl f1)), (a2, .inl (cI, 8, .inl f2)), (a3, .inl (cI, 8, .inl f3)), (a4, .inl (cI, 8192, .inl f4)), (a5, .inl (cI, 1024, .inl f5)), (a6, .inl (cI, 1024, .inl f6))] sz) [(m0, .inr (2, [.int 0, .int mn, .ref a1, .ref a2, .ref a3, .ref a4, .int zz, .ref a5, .ref a6, .int (nI (2 ^ (k - L)))])), (a1, .inl (cI, 8, .inl f1)), (a2, .inl (cI, 8, .inl f2)), (a3, .inl (cI, 8, .inl f3)), (a4, .inl (cI, 8192, .inl f4)), (a5, .inl (cI, 1024, .inl f5)), (a6, .inl (cI, 1024, .inl (mm_hs (va_cpy f4 f6 (1024 * j) 0 (4 ^ k)) k L)))]) 0 0 (va_A [(m0, .inr (2, [.int th, .int mn, .ref a1, .ref a2, .ref a3, .ref a4, .int zz, .ref a5, .ref a6, .int si])), (a1, .inl (cI, 8, .inl f1)), (a2, .inl (cI, 8, .inl f2)), (a3, .inl (cI, 8, .inl f3)), (a4, .inl (cI, 8192, .inl f4)), (a5, .inl (cI, 1024, .inl f5)), (a6, .inl (cI, 1024, .inl f6))] sz) := by
  refine Met.ofW (cc := cM_texel) (maxL := 5) (ret := (some .int)) (by decide) rfl ?_
  intro p e s m args below meth c s₁ B hml hv
  obtain ⟨rfl, hsz, hC, hP, hK, hD0⟩ := hv
  have hx := B.exec
  have hb := B.bytes
  have hr := B.returns
  have hB : ∀ w ∈ tbB, w.before _ s = true := fun w h => (atoms_spec (ws := wM_texel) B.pre) w (List.mem_cons_of_mem _ h)
  have hown : s.vm.findClass "TextureBankModel" = some m.cls := findClass_of_methodNamed B.named
  have hlocks := B.notSynchronized
  subst hsz
  have hD := hD0.self (sz := s.heap.size)
  generalize hAe : va_A [(m0, .inr (2, [.int th, .int mn, .ref a1, .ref a2, .ref a3, .ref a4, .int zz, .ref a5, .ref a6, .int si])), (a1, .inl (cI, 8, .inl f1)), (a2, .inl (cI, 8, .inl f2)), (a3, .inl (cI, 8, .inl f3)), (a4, .inl (cI, 8192, .inl f4)), (a5, .inl (cI, 1024, .inl f5)), (a6, .inl (cI, 1024, .inl f6))] s.heap.size = A at hD ⊢
  have hA : ∀ q : Nat, s.heap.size ≤ q → A q := fun q h => by rw [← hAe]; exact Or.inr h
  have hS : va_S A s.heap s.heap [] := va_S.rf
  have hl := lv_entry ([.ref m0, .int (nI j), .int (nI L), .int (nI x0), .int (nI y0)]) (n := 5) (Nat.le_of_ble_eq_true rfl)
  rw [lg_entry_eq]
  generalize (lg_sl ([.ref m0, .int (nI j), .int (nI L), .int (nI x0), .int (nI y0)]) ++ List.replicate (5 - (lg_sl ([.ref m0, .int (nI j), .int (nI L), .int (nI x0), .int (nI y0)])).length) Slot.unset).toArray = ls at hl ⊢
  have hl : lv_has ls 5 [(0, .ref m0), (1, .int (nI j)), (2, .int (nI L)), (3, .int (nI x0)), (4, .int (nI y0))] := hl
  refine lv_aload_n hx hb dM_texel_0 rfl (lv_at hl 0 rfl) ?_
  refine lv_aload_n hx hb dM_texel_1 rfl (lv_at hl 0 rfl) ?_
  refine lv_iload_n hx hb dM_texel_2 rfl (lv_at hl 1 rfl) ?_
  refine W.callV (W.runV (C := "TextureBankModel") (As := [.int (nI j)]) (rest := [.ref m0]) ⟨hx, hb, hml, hown, hB⟩ (kM_isThere l D cI m0 a1 a2 a3 a4 a5 a6 th mn zz si f1 f2 f3 f4 f5 f6 (nI j)) ⟨callB_of 1 hB gwM_isThere rfl rfl rfl (hB _ wd_3) (hB _ wd_377) ydM_isThere ⟨Nat.le_of_ble_eq_true rfl, Nat.le_of_ble_eq_true rfl⟩, hB _ wd_379, hB _ ws_12⟩ (rd_V hC hP hK (va_recv hK hP (ci := 2) (q0 := 0) rfl rfl)) rfl rfl hl.1 rfl (lv_room (Nat.le_of_ble_eq_true rfl)) dM_texel_3 ⟨Nat.zero_le _, Nat.zero_le _⟩) ?_
  refine W.eq (g2 := F0 m 6 ls [.int (tt_has mn (nI j)), .ref m0]) rfl ?_
  refine lv_if_eq (tgt := 22) hx hb dM_texel_6 (by decide) (fun c_1 => ?_) (fun c_1 => ?_)
  · exact absurd c_1 hth
  · refine lv_iload_n hx hb dM_texel_9 rfl (lv_at hl 2 rfl) ?_
    refine lv_if_lt (tgt := 22) hx hb dM_texel_10 (by decide) (fun c_2 => ?_) (fun c_2 => ?_)
    · exact absurd c_2 (nI_pos (by omega))
    · refine lv_iload_n hx hb dM_texel_13 rfl (lv_at hl 2 rfl) ?_
      refine lv_aload_n hx hb dM_texel_14 rfl (lv_at hl 0 rfl) ?_
      refine lv_iload_n hx hb dM_texel_15 rfl (lv_at hl 1 rfl) ?_
      refine W.callV (W.runV (C := "TextureBankModel") (As := [.int (nI j)]) (rest := [.int (nI L), .ref m0]) ⟨hx, hb, hml, hown, hB⟩ (kM_last l D cI m0 a1 a2 a3 a4 a5 a6 th mn zz si f1 f2 f3 f4 f5 f6 j k hj hk hf) ⟨callB_of 1 hB gwM_last rfl rfl rfl (hB _ wd_3) (hB _ wd_384) ydM_last ⟨Nat.le_of_ble_eq_true rfl, Nat.le_of_ble_eq_true rfl⟩, hB _ wd_386, hB _ ws_13⟩ (rd_V hC hP hK (va_recv hK hP (ci := 2) (q0 := 0) rfl rfl)) rfl rfl hl.1 rfl (lv_room (Nat.le_of_ble_eq_true rfl)) dM_texel_16 ⟨Nat.zero_le _, Nat.zero_le _⟩) ?_
      refine W.eq (g2 := F0 m 19 ls [.int (nI k), .int (nI L), .ref m0]) rfl ?_
      refine lv_icmp_le (tgt := 26) hx hb dM_texel_19 (by decide) (fun c_3 => ?_) (fun c_3 => ?_)
      · refine lv_iconst (v := 0) hx hb dM_texel_26 (by decide) ?_
        refine va_put (D := D) (ci := 2) (v := .int 0) (ty := .int) (C := RM) (T := FM) (N := 10) hx hb hB inM tyM tyM_ok nmM hown hK hP hD hS 0 rfl rfl 0 (by decide) (hB _ wd_322) (fun _ h9 => h9) rfl (by decide +kernel) rfl rfl (Nat.le_of_ble_eq_true rfl) dM_texel_27 (fun H locs hP hD hS => ?_)
        have hP : va_P D tbCl [(m0, .inr (2, [.int 0, .int mn, .ref a1, .ref a2, .ref a3, .ref a4, .int zz, .ref a5, .ref a6, .int si])), (a1, .inl (cI, 8, .inl f1)), (a2, .inl (cI, 8, .inl f2)), (a3, .inl (cI, 8, .inl f3)), (a4, .inl (cI, 8192, .inl f4)), (a5, .inl (cI, 1024, .inl f5)), (a6, .inl (cI, 1024, .inl f6))] H := hP
        have hD : va_D A [(m0, .inr (2, [.int 0, .int mn, .ref a1, .ref a2, .ref a3, .ref a4, .int zz, .ref a5, .ref a6, .int si])), (a1, .inl (cI, 8, .inl f1)), (a2, .inl (cI, 8, .inl f2)), (a3, .inl (cI, 8, .inl f3)), (a4, .inl (cI, 8192, .inl f4)), (a5, .inl (cI, 1024, .inl f5)), (a6, .inl (cI, 1024, .inl f6))] := hD
        refine lv_aload_n hx hb dM_texel_30 rfl (lv_at hl 0 rfl) ?_
        refine va_get (D := D) (ci := 2) (v := .int 0) (C := RM) (T := FM) (N := 10) hx hb hB inM hown hK hP 0 rfl rfl 0 (by decide) (hB _ wd_322) (fun _ h9 => h9) rfl dM_texel_31 ?_
        refine lv_if_eq (tgt := 39) hx hb dM_texel_34 (by decide) (fun c_4 => ?_) (fun c_4 => absurd c_4 (by decide))
        refine lv_aload_n hx hb dM_texel_39 rfl (lv_at hl 0 rfl) ?_
        refine lv_iload_n hx hb dM_texel_40 rfl (lv_at hl 1 rfl) ?_
        refine lv_iload_n hx hb dM_texel_41 rfl (lv_at hl 2 rfl) ?_
        have hFc := va_free (wc := [(m0, .inr (2, [.int 0, .int mn, .ref a1, .ref a2, .ref a3, .ref a4, .int zz, .ref a5, .ref a6, .int si])), (a1, .inl (cI, 8, .inl f1)), (a2, .inl (cI, 8, .inl f2)), (a3, .inl (cI, 8, .inl f3)), (a4, .inl (cI, 8192, .inl f4)), (a5, .inl (cI, 1024, .inl f5)), (a6, .inl (cI, 1024, .inl f6))]) hD hS hA [0, 1, 2, 3, 4, 5, 6] rfl
        refine va_callv (va_runV (C := "TextureBankModel") (As := [.int (nI j), .int (nI L)]) (rest := []) ⟨hx, hb, hml, hown, hB⟩ (kM_makes l D H.size cI m0 a1 a2 a3 a4 a5 a6 0 mn zz si f1 f2 f3 f4 f5 f6 j k L hj hk hL hf) ⟨callB_of 2 hB gwM_makes rfl rfl rfl (hB _ wd_3) (hB _ wd_397) ydM_makes ⟨Nat.le_of_ble_eq_true rfl, Nat.le_of_ble_eq_true rfl⟩, hB _ wd_399, hB _ ws_14⟩ (wr_V hC (hP.sub [0, 1, 2, 3, 4, 5, 6] rfl) (hK.sub [0] rfl) (hD.sub [0, 1, 2, 3, 4, 5, 6] (by decide) rfl) (va_recv hK hP (ci := 2) (q0 := 0) rfl rfl)) rfl rfl hl.1 rfl (lv_room (Nat.le_of_ble_eq_true rfl)) dM_texel_42 ⟨Nat.zero_le _, Nat.zero_le _⟩) hS (fun q _ h => hFc q h) hFc (fun u t H1 locs ht hvm hw hB1 hz1 hk1 hS => ?_)
        have hP1 : va_P D tbCl [(m0, .inr (2, [.int 0, .int mn, .ref a1, .ref a2, .ref a3, .ref a4, .int zz, .ref a5, .ref a6, .int (nI (2 ^ (k - L)))])), (a1, .inl (cI, 8, .inl f1)), (a2, .inl (cI, 8, .inl f2)), (a3, .inl (cI, 8, .inl f3)), (a4, .inl (cI, 8192, .inl f4)), (a5, .inl (cI, 1024, .inl f5)), (a6, .inl (cI, 1024, .inl (mm_hs (va_cpy f4 f6 (1024 * j) 0 (4 ^ k)) k L)))] H1 := by have h9 := hB1; rw [← ht]; exact h9
        have hP : va_P D tbCl [(m0, .inr (2, [.int 0, .int mn, .ref a1, .ref a2, .ref a3, .ref a4, .int zz, .ref a5, .ref a6, .int (nI (2 ^ (k - L)))])), (a1, .inl (cI, 8, .inl f1)), (a2, .inl (cI, 8, .inl f2)), (a3, .inl (cI, 8, .inl f3)), (a4, .inl (cI, 8192, .inl f4)), (a5, .inl (cI, 1024, .inl f5)), (a6, .inl (cI, 1024, .inl (mm_hs (va_cpy f4 f6 (1024 * j) 0 (4 ^ k)) k L)))] H1 := wd_back hP hD [0, 1, 2, 3, 4, 5, 6] rfl hk1 hP1 (by intro k q hq; match k, hq with | 0, hq => exact Or.inl ⟨0, hq⟩ | 1, hq => exact Or.inl ⟨1, hq⟩ | 2, hq => exact Or.inl ⟨2, hq⟩ | 3, hq => exact Or.inl ⟨3, hq⟩ | 4, hq => exact Or.inl ⟨4, hq⟩ | 5, hq => exact Or.inl ⟨5, hq⟩ | 6, hq => exact Or.inl ⟨6, hq⟩ | k + 7, hq => simp at hq)
        have hD : va_D A [(m0, .inr (2, [.int 0, .int mn, .ref a1, .ref a2, .ref a3, .ref a4, .int zz, .ref a5, .ref a6, .int (nI (2 ^ (k - L)))])), (a1, .inl (cI, 8, .inl f1)), (a2, .inl (cI, 8, .inl f2)), (a3, .inl (cI, 8, .inl f3)), (a4, .inl (cI, 8192, .inl f4)), (a5, .inl (cI, 1024, .inl f5)), (a6, .inl (cI, 1024, .inl (mm_hs (va_cpy f4 f6 (1024 * j) 0 (4 ^ k)) k L)))] := wd_D hD rfl
        generalize H1 = H at hP hS ⊢
        refine W.eq (g2 := F0 m 45 ls []) rfl ?_
        refine lv_aload_n hx hb dM_texel_45 rfl (lv_at hl 0 rfl) ?_
        refine lv_iload_n hx hb dM_texel_46 rfl (lv_at hl 3 rfl) ?_
        refine lv_if_lt (tgt := 72) hx hb dM_texel_47 (by decide) (fun c_6 => ?_) (fun c_6 => ?_)
        · exact absurd c_6 (nI_pos (by have := (tt_pw (k - L) (by omega)).1; omega))
        · refine lv_iload_n hx hb dM_texel_50 rfl (lv_at hl 3 rfl) ?_
          refine lv_aload_n hx hb dM_texel_51 rfl (lv_at hl 0 rfl) ?_
          refine va_get (D := D) (ci := 2) (v := .int (nI (2 ^ (k - L)))) (C := RM) (T := FM) (N := 10) hx hb hB inM hown hK hP 0 rfl rfl 9 (by decide) (hB _ wd_331) (fun _ h9 => h9) rfl dM_texel_52 ?_
          refine lv_icmp_ge (tgt := 72) hx hb dM_texel_55 (by decide) (fun c_7 => ?_) (fun c_7 => ?_)
          · exact absurd c_7 (nI_ge lx0 (by have := (tt_pw (k - L) (by omega)).1; omega))
          · refine lv_iload hx hb dM_texel_58 (lv_at hl 4 rfl) ?_
            refine lv_if_lt (tgt := 72) hx hb dM_texel_60 (by decide) (fun c_8 => ?_) (fun c_8 => ?_)
            · exact absurd c_8 (nI_pos (by have := (tt_pw (k - L) (by omega)).1; omega))
            · refine lv_iload hx hb dM_texel_63 (lv_at hl 4 rfl) ?_
              refine lv_aload_n hx hb dM_texel_65 rfl (lv_at hl 0 rfl) ?_
              refine va_get (D := D) (ci := 2) (v := .int (nI (2 ^ (k - L)))) (C := RM) (T := FM) (N := 10) hx hb hB inM hown hK hP 0 rfl rfl 9 (by decide) (hB _ wd_331) (fun _ h9 => h9) rfl dM_texel_66 ?_
              refine lv_icmp_lt (tgt := 76) hx hb dM_texel_69 (by decide) (fun c_9 => ?_) (fun c_9 => ?_)
              · refine lv_iconst (v := 0) hx hb dM_texel_76 (by decide) ?_
                refine va_put (D := D) (ci := 2) (v := .int 0) (ty := .int) (C := RM) (T := FM) (N := 10) hx hb hB inM tyM tyM_ok nmM hown hK hP hD hS 0 rfl rfl 0 (by decide) (hB _ wd_322) (fun _ h9 => h9) rfl (by decide +kernel) rfl rfl (Nat.le_of_ble_eq_true rfl) dM_texel_77 (fun H locs hP hD hS => ?_)
                have hP : va_P D tbCl [(m0, .inr (2, [.int 0, .int mn, .ref a1, .ref a2, .ref a3, .ref a4, .int zz, .ref a5, .ref a6, .int (nI (2 ^ (k - L)))])), (a1, .inl (cI, 8, .inl f1)), (a2, .inl (cI, 8, .inl f2)), (a3, .inl (cI, 8, .inl f3)), (a4, .inl (cI, 8192, .inl f4)), (a5, .inl (cI, 1024, .inl f5)), (a6, .inl (cI, 1024, .inl (mm_hs (va_cpy f4 f6 (1024 * j) 0 (4 ^ k)) k L)))] H := hP
                have hD : va_D A [(m0, .inr (2, [.int 0, .int mn, .ref a1, .ref a2, .ref a3, .ref a4, .int zz, .ref a5, .ref a6, .int (nI (2 ^ (k - L)))])), (a1, .inl (cI, 8, .inl f1)), (a2, .inl (cI, 8, .inl f2)), (a3, .inl (cI, 8, .inl f3)), (a4, .inl (cI, 8192, .inl f4)), (a5, .inl (cI, 1024, .inl f5)), (a6, .inl (cI, 1024, .inl (mm_hs (va_cpy f4 f6 (1024 * j) 0 (4 ^ k)) k L)))] := hD
                refine lv_aload_n hx hb dM_texel_80 rfl (lv_at hl 0 rfl) ?_
                refine va_get (D := D) (ci := 2) (v := .int 0) (C := RM) (T := FM) (N := 10) hx hb hB inM hown hK hP 0 rfl rfl 0 (by decide) (hB _ wd_322) (fun _ h9 => h9) rfl dM_texel_81 ?_
                refine lv_iconst (v := 1) hx hb dM_texel_84 (by decide) ?_
                refine lv_icmp_ne (tgt := 92) hx hb dM_texel_85 (by decide) (fun c_10 => ?_) (fun c_10 => absurd c_10 (by decide))
                refine lv_aload_n hx hb dM_texel_92 rfl (lv_at hl 0 rfl) ?_
                refine va_get (D := D) (ci := 2) (v := .ref a6) (C := RM) (T := FM) (N := 10) hx hb hB inM hown hK hP 0 rfl rfl 8 (by decide) (hB _ wd_330) (fun _ h9 => h9) rfl dM_texel_93 ?_
                refine lv_iload hx hb dM_texel_96 (lv_at hl 4 rfl) ?_
                refine lv_aload_n hx hb dM_texel_98 rfl (lv_at hl 0 rfl) ?_
                refine va_get (D := D) (ci := 2) (v := .int (nI (2 ^ (k - L)))) (C := RM) (T := FM) (N := 10) hx hb hB inM hown hK hP 0 rfl rfl 9 (by decide) (hB _ wd_331) (fun _ h9 => h9) rfl dM_texel_99 ?_
                refine lv_imul hx hb dM_texel_102 ?_
                refine lv_iload_n hx hb dM_texel_103 rfl (lv_at hl 3 rfl) ?_
                refine lv_iadd hx hb dM_texel_104 ?_
                refine W.eq (g2 := F0 m 105 ls [.int (nI (y0 * 2 ^ (k - L) + x0)), .ref a6]) (by rw [pk_mul, nI_add]) ?_
                refine va_iald hx hb hK hP 6 0 (f := (mm_hs (va_cpy f4 f6 (1024 * j) 0 (4 ^ k)) k L)) rfl rfl (i := nI (y0 * 2 ^ (k - L) + x0)) (vp_in_nI (mm_nl5 (by omega) lx0 ly0) (by omega)) dM_texel_105 ?_
                refine W.eq (g2 := F0 m 106 ls [.int ((mm_hs (va_cpy f4 f6 (1024 * j) 0 (4 ^ k)) k L) (y0 * 2 ^ (k - L) + x0))]) (by rw [nI_clamp (by have := (mm_nl5 (by omega) lx0 ly0 : y0 * 2 ^ (k - L) + x0 < 1024); omega)]) ?_
                exact W.iret hx hb hr (fun t ht hW => ⟨⟨_, (), rfl, rfl, (by have h9 : va_P D tbCl [(m0, .inr (2, [.int 0, .int mn, .ref a1, .ref a2, .ref a3, .ref a4, .int zz, .ref a5, .ref a6, .int (nI (2 ^ (k - L)))])), (a1, .inl (cI, 8, .inl f1)), (a2, .inl (cI, 8, .inl f2)), (a3, .inl (cI, 8, .inl f3)), (a4, .inl (cI, 8192, .inl f4)), (a5, .inl (cI, 1024, .inl f5)), (a6, .inl (cI, 1024, .inl (mm_hs (va_cpy f4 f6 (1024 * j) 0 (4 ^ k)) k L)))] H := hP; rw [← ht] at h9; exact h9)⟩, hS.F ht⟩) hS.2.2 dM_texel_106
              · exact absurd (nI_lt ly0 (by have := (tt_pw (k - L) (by omega)).1; omega)) c_9
      · exact absurd (nI_le hL (by omega)) c_3
set_option maxHeartbeats 16000000 in
set_option maxRecDepth 100000 in
theorem kM_init (l : Launch) (D : va_G) (sz : Nat) (cI : ClassId) (m0 : Nat) : Met l yM_init wM_init ({ frames := 1, cells := 6, slots := 10264, locals := 20 }) (wr_P [.ref m0] sz D [(cI, .int)] [(m0, .inr (2, [.int 0, .int 0, .null, .null, .null, .null, .int 0, .null, .null, .int 0]))]) (va_Qv (fun _ : Unit => True) (fun _ t => ∃ (a1 a2 a3 a4 a5 a6 : Nat), va_P D tbCl [(m0, .inr (2, [.int 0, .int 0, .ref a1, .ref a2, .ref a3, .ref a4, .int 0, .ref a5, .ref a6, .int 0])), (a1, .inl (cI, 8, .inl (fun _ => 0))), (a2, .inl (cI, 8, .inl (fun _ => 0))), (a3, .inl (cI, 8, .inl (fun _ => 0))), (a4, .inl (cI, 8192, .inl (fun _ => 0))), (a5, .inl (cI, 1024, .inl (fun _ => 0))), (a6, .inl (cI, 1024, .inl (fun _ => 0)))] t.heap ∧ va_D (va_A [(m0, .inr (2, [.int 0, .int 0, .null, .null, .null, .null, .int 0, .null, .null, .int 0]))] sz) [(m0, .inr (2, [.int 0, .int 0, .ref a1, .ref a2, .ref a3, .ref a4, .int 0, .ref a5, .ref a6, .int 0])), (a1, .inl (cI, 8, .inl (fun _ => 0))), (a2, .inl (cI, 8, .inl (fun _ => 0))), (a3, .inl (cI, 8, .inl (fun _ => 0))), (a4, .inl (cI, 8192, .inl (fun _ => 0))), (a5, .inl (cI, 1024, .inl (fun _ => 0))), (a6, .inl (cI, 1024, .inl (fun _ => 0)))]) (va_A [(m0, .inr (2, [.int 0, .int 0, .null, .null, .null, .null, .int 0, .null, .null, .int 0]))] sz)) 6 10264 (va_A [(m0, .inr (2, [.int 0, .int 0, .null, .null, .null, .null, .int 0, .null, .null, .int 0]))] sz) := by
  refine Met.ofW (cc := cM_init) (maxL := 1) (ret := none) (by decide) rfl ?_
  intro p e s m args below meth c s₁ B hml hv
  obtain ⟨rfl, hsz, hC, hP, hK, hD0⟩ := hv
  have hin : meth.name = "<init>" := (name_of_methodNamed B.named B.method).1
  have hx := B.exec
  have hb := B.bytes
  have hr := B.returns
  have hB : ∀ w ∈ tbB, w.before _ s = true := fun w h => (atoms_spec (ws := wM_init) B.pre) w (List.mem_cons_of_mem _ h)
  have hown : s.vm.findClass "TextureBankModel" = some m.cls := findClass_of_methodNamed B.named
  have hlocks := B.notSynchronized
  subst hsz
  have hD := hD0.self (sz := s.heap.size)
  generalize hAe : va_A [(m0, .inr (2, [.int 0, .int 0, .null, .null, .null, .null, .int 0, .null, .null, .int 0]))] s.heap.size = A at hD ⊢
  have hA : ∀ q : Nat, s.heap.size ≤ q → A q := fun q h => by rw [← hAe]; exact Or.inr h
  have hS : va_S A s.heap s.heap [] := va_S.rf
  have hl := lv_entry ([.ref m0]) (n := 1) (Nat.le_of_ble_eq_true rfl)
  rw [lg_entry_eq]
  generalize (lg_sl ([.ref m0]) ++ List.replicate (1 - (lg_sl ([.ref m0])).length) Slot.unset).toArray = ls at hl ⊢
  have hl : lv_has ls 1 [(0, .ref m0)] := hl
  refine lv_aload_n hx hb dM_init_0 rfl (lv_at hl 0 rfl) ?_
  refine W.objInit hx hb hown (hB _ wd_321) (hB _ wd_18) (hB _ wd_19) rfl (by rw [hml]; exact hl.1) rfl dM_init_1 (Nat.le_of_ble_eq_true rfl) (Nat.le_of_ble_eq_true rfl) ?_
  refine W.eq (g2 := F0 m 4 ls []) rfl ?_
  refine lv_aload_n hx hb dM_init_4 rfl (lv_at hl 0 rfl) ?_
  refine lv_bipush (v := 8) hx hb dM_init_5 (by decide) ?_
  refine va_newa (atype := .int) (a0 := (8, .inl (fun _ => 0))) (N' := 8) (ty := .int) hx hb (hB _ wd_47) rfl hK hP hD hS hA (fun cA => rfl) (by decide) rfl (by decide) (Nat.le_of_ble_eq_true rfl) (Nat.le_of_ble_eq_true rfl) dM_init_7 (fun a1 cA9 H hK9 hP hD hS => ?_)
  obtain rfl : cI = cA9 := Option.some.inj ((show s.vm.findClass ("[" ++ (FieldType.int).toString) = some cI from (hK.2 0 _ rfl).2).symm.trans (show s.vm.findClass ("[" ++ (FieldType.int).toString) = some cA9 from (hK9.2 1 _ rfl).2))
  have hP : va_P D tbCl [(m0, .inr (2, [.int 0, .int 0, .null, .null, .null, .null, .int 0, .null, .null, .int 0])), (a1, .inl (cI, 8, .inl (fun _ => 0)))] H := hP
  have hD : va_D A [(m0, .inr (2, [.int 0, .int 0, .null, .null, .null, .null, .int 0, .null, .null, .int 0])), (a1, .inl (cI, 8, .inl (fun _ => 0)))] := hD
  refine W.widen (k := 1) (n := 8) (by omega) (by omega) ?_
  refine va_putF (D := D) (ci := 2) (v := .ref a1) (ty := .array .int) (C := RM) (T := FM) (N := 10) hx hb hB inM tyM tyM_ok nmM hown hK hP hD hS 0 rfl rfl 2 (by decide) (hB _ wd_324) (fun _ h9 => h9) rfl hin rfl (by decide +kernel) rfl rfl (Nat.le_of_ble_eq_true rfl) dM_init_9 (fun H locs hP hD hS => ?_)
  have hP : va_P D tbCl [(m0, .inr (2, [.int 0, .int 0, .ref a1, .null, .null, .null, .int 0, .null, .null, .int 0])), (a1, .inl (cI, 8, .inl (fun _ => 0)))] H := hP
  have hD : va_D A [(m0, .inr (2, [.int 0, .int 0, .ref a1, .null, .null, .null, .int 0, .null, .null, .int 0])), (a1, .inl (cI, 8, .inl (fun _ => 0)))] := hD
  refine lv_aload_n hx hb dM_init_12 rfl (lv_at hl 0 rfl) ?_
  refine lv_bipush (v := 8) hx hb dM_init_13 (by decide) ?_
  refine va_newa (atype := .int) (a0 := (8, .inl (fun _ => 0))) (N' := 8) (ty := .int) hx hb (hB _ wd_47) rfl hK hP hD hS hA (fun cA => rfl) (by decide) rfl (by decide) (Nat.le_of_ble_eq_true rfl) (Nat.le_of_ble_eq_true rfl) dM_init_15 (fun a2 cA9 H hK9 hP hD hS => ?_)
  obtain rfl : cI = cA9 := Option.some.inj ((show s.vm.findClass ("[" ++ (FieldType.int).toString) = some cI from (hK.2 0 _ rfl).2).symm.trans (show s.vm.findClass ("[" ++ (FieldType.int).toString) = some cA9 from (hK9.2 1 _ rfl).2))
  have hP : va_P D tbCl [(m0, .inr (2, [.int 0, .int 0, .ref a1, .null, .null, .null, .int 0, .null, .null, .int 0])), (a1, .inl (cI, 8, .inl (fun _ => 0))), (a2, .inl (cI, 8, .inl (fun _ => 0)))] H := hP
  have hD : va_D A [(m0, .inr (2, [.int 0, .int 0, .ref a1, .null, .null, .null, .int 0, .null, .null, .int 0])), (a1, .inl (cI, 8, .inl (fun _ => 0))), (a2, .inl (cI, 8, .inl (fun _ => 0)))] := hD
  refine W.widen (k := 2) (n := 16) (by omega) (by omega) ?_
  refine va_putF (D := D) (ci := 2) (v := .ref a2) (ty := .array .int) (C := RM) (T := FM) (N := 10) hx hb hB inM tyM tyM_ok nmM hown hK hP hD hS 0 rfl rfl 3 (by decide) (hB _ wd_325) (fun _ h9 => h9) rfl hin rfl (by decide +kernel) rfl rfl (Nat.le_of_ble_eq_true rfl) dM_init_17 (fun H locs hP hD hS => ?_)
  have hP : va_P D tbCl [(m0, .inr (2, [.int 0, .int 0, .ref a1, .ref a2, .null, .null, .int 0, .null, .null, .int 0])), (a1, .inl (cI, 8, .inl (fun _ => 0))), (a2, .inl (cI, 8, .inl (fun _ => 0)))] H := hP
  have hD : va_D A [(m0, .inr (2, [.int 0, .int 0, .ref a1, .ref a2, .null, .null, .int 0, .null, .null, .int 0])), (a1, .inl (cI, 8, .inl (fun _ => 0))), (a2, .inl (cI, 8, .inl (fun _ => 0)))] := hD
  refine lv_aload_n hx hb dM_init_20 rfl (lv_at hl 0 rfl) ?_
  refine lv_bipush (v := 8) hx hb dM_init_21 (by decide) ?_
  refine va_newa (atype := .int) (a0 := (8, .inl (fun _ => 0))) (N' := 8) (ty := .int) hx hb (hB _ wd_47) rfl hK hP hD hS hA (fun cA => rfl) (by decide) rfl (by decide) (Nat.le_of_ble_eq_true rfl) (Nat.le_of_ble_eq_true rfl) dM_init_23 (fun a3 cA9 H hK9 hP hD hS => ?_)
  obtain rfl : cI = cA9 := Option.some.inj ((show s.vm.findClass ("[" ++ (FieldType.int).toString) = some cI from (hK.2 0 _ rfl).2).symm.trans (show s.vm.findClass ("[" ++ (FieldType.int).toString) = some cA9 from (hK9.2 1 _ rfl).2))
  have hP : va_P D tbCl [(m0, .inr (2, [.int 0, .int 0, .ref a1, .ref a2, .null, .null, .int 0, .null, .null, .int 0])), (a1, .inl (cI, 8, .inl (fun _ => 0))), (a2, .inl (cI, 8, .inl (fun _ => 0))), (a3, .inl (cI, 8, .inl (fun _ => 0)))] H := hP
  have hD : va_D A [(m0, .inr (2, [.int 0, .int 0, .ref a1, .ref a2, .null, .null, .int 0, .null, .null, .int 0])), (a1, .inl (cI, 8, .inl (fun _ => 0))), (a2, .inl (cI, 8, .inl (fun _ => 0))), (a3, .inl (cI, 8, .inl (fun _ => 0)))] := hD
  refine W.widen (k := 3) (n := 24) (by omega) (by omega) ?_
  refine va_putF (D := D) (ci := 2) (v := .ref a3) (ty := .array .int) (C := RM) (T := FM) (N := 10) hx hb hB inM tyM tyM_ok nmM hown hK hP hD hS 0 rfl rfl 4 (by decide) (hB _ wd_326) (fun _ h9 => h9) rfl hin rfl (by decide +kernel) rfl rfl (Nat.le_of_ble_eq_true rfl) dM_init_25 (fun H locs hP hD hS => ?_)
  have hP : va_P D tbCl [(m0, .inr (2, [.int 0, .int 0, .ref a1, .ref a2, .ref a3, .null, .int 0, .null, .null, .int 0])), (a1, .inl (cI, 8, .inl (fun _ => 0))), (a2, .inl (cI, 8, .inl (fun _ => 0))), (a3, .inl (cI, 8, .inl (fun _ => 0)))] H := hP
  have hD : va_D A [(m0, .inr (2, [.int 0, .int 0, .ref a1, .ref a2, .ref a3, .null, .int 0, .null, .null, .int 0])), (a1, .inl (cI, 8, .inl (fun _ => 0))), (a2, .inl (cI, 8, .inl (fun _ => 0))), (a3, .inl (cI, 8, .inl (fun _ => 0)))] := hD
  refine lv_aload_n hx hb dM_init_28 rfl (lv_at hl 0 rfl) ?_
  refine lv_sipush (v := 8192) hx hb dM_init_29 (by decide) ?_
  refine va_newa (atype := .int) (a0 := (8192, .inl (fun _ => 0))) (N' := 8192) (ty := .int) hx hb (hB _ wd_47) rfl hK hP hD hS hA (fun cA => rfl) (by decide) rfl (by decide) (Nat.le_of_ble_eq_true rfl) (Nat.le_of_ble_eq_true rfl) dM_init_32 (fun a4 cA9 H hK9 hP hD hS => ?_)
  obtain rfl : cI = cA9 := Option.some.inj ((show s.vm.findClass ("[" ++ (FieldType.int).toString) = some cI from (hK.2 0 _ rfl).2).symm.trans (show s.vm.findClass ("[" ++ (FieldType.int).toString) = some cA9 from (hK9.2 1 _ rfl).2))
  have hP : va_P D tbCl [(m0, .inr (2, [.int 0, .int 0, .ref a1, .ref a2, .ref a3, .null, .int 0, .null, .null, .int 0])), (a1, .inl (cI, 8, .inl (fun _ => 0))), (a2, .inl (cI, 8, .inl (fun _ => 0))), (a3, .inl (cI, 8, .inl (fun _ => 0))), (a4, .inl (cI, 8192, .inl (fun _ => 0)))] H := hP
  have hD : va_D A [(m0, .inr (2, [.int 0, .int 0, .ref a1, .ref a2, .ref a3, .null, .int 0, .null, .null, .int 0])), (a1, .inl (cI, 8, .inl (fun _ => 0))), (a2, .inl (cI, 8, .inl (fun _ => 0))), (a3, .inl (cI, 8, .inl (fun _ => 0))), (a4, .inl (cI, 8192, .inl (fun _ => 0)))] := hD
  refine W.widen (k := 4) (n := 8216) (by omega) (by omega) ?_
  refine va_putF (D := D) (ci := 2) (v := .ref a4) (ty := .array .int) (C := RM) (T := FM) (N := 10) hx hb hB inM tyM tyM_ok nmM hown hK hP hD hS 0 rfl rfl 5 (by decide) (hB _ wd_327) (fun _ h9 => h9) rfl hin rfl (by decide +kernel) rfl rfl (Nat.le_of_ble_eq_true rfl) dM_init_34 (fun H locs hP hD hS => ?_)
  have hP : va_P D tbCl [(m0, .inr (2, [.int 0, .int 0, .ref a1, .ref a2, .ref a3, .ref a4, .int 0, .null, .null, .int 0])), (a1, .inl (cI, 8, .inl (fun _ => 0))), (a2, .inl (cI, 8, .inl (fun _ => 0))), (a3, .inl (cI, 8, .inl (fun _ => 0))), (a4, .inl (cI, 8192, .inl (fun _ => 0)))] H := hP
  have hD : va_D A [(m0, .inr (2, [.int 0, .int 0, .ref a1, .ref a2, .ref a3, .ref a4, .int 0, .null, .null, .int 0])), (a1, .inl (cI, 8, .inl (fun _ => 0))), (a2, .inl (cI, 8, .inl (fun _ => 0))), (a3, .inl (cI, 8, .inl (fun _ => 0))), (a4, .inl (cI, 8192, .inl (fun _ => 0)))] := hD
  refine lv_aload_n hx hb dM_init_37 rfl (lv_at hl 0 rfl) ?_
  refine lv_sipush (v := 1024) hx hb dM_init_38 (by decide) ?_
  refine va_newa (atype := .int) (a0 := (1024, .inl (fun _ => 0))) (N' := 1024) (ty := .int) hx hb (hB _ wd_47) rfl hK hP hD hS hA (fun cA => rfl) (by decide) rfl (by decide) (Nat.le_of_ble_eq_true rfl) (Nat.le_of_ble_eq_true rfl) dM_init_41 (fun a5 cA9 H hK9 hP hD hS => ?_)
  obtain rfl : cI = cA9 := Option.some.inj ((show s.vm.findClass ("[" ++ (FieldType.int).toString) = some cI from (hK.2 0 _ rfl).2).symm.trans (show s.vm.findClass ("[" ++ (FieldType.int).toString) = some cA9 from (hK9.2 1 _ rfl).2))
  have hP : va_P D tbCl [(m0, .inr (2, [.int 0, .int 0, .ref a1, .ref a2, .ref a3, .ref a4, .int 0, .null, .null, .int 0])), (a1, .inl (cI, 8, .inl (fun _ => 0))), (a2, .inl (cI, 8, .inl (fun _ => 0))), (a3, .inl (cI, 8, .inl (fun _ => 0))), (a4, .inl (cI, 8192, .inl (fun _ => 0))), (a5, .inl (cI, 1024, .inl (fun _ => 0)))] H := hP
  have hD : va_D A [(m0, .inr (2, [.int 0, .int 0, .ref a1, .ref a2, .ref a3, .ref a4, .int 0, .null, .null, .int 0])), (a1, .inl (cI, 8, .inl (fun _ => 0))), (a2, .inl (cI, 8, .inl (fun _ => 0))), (a3, .inl (cI, 8, .inl (fun _ => 0))), (a4, .inl (cI, 8192, .inl (fun _ => 0))), (a5, .inl (cI, 1024, .inl (fun _ => 0)))] := hD
  refine W.widen (k := 5) (n := 9240) (by omega) (by omega) ?_
  refine va_putF (D := D) (ci := 2) (v := .ref a5) (ty := .array .int) (C := RM) (T := FM) (N := 10) hx hb hB inM tyM tyM_ok nmM hown hK hP hD hS 0 rfl rfl 7 (by decide) (hB _ wd_329) (fun _ h9 => h9) rfl hin rfl (by decide +kernel) rfl rfl (Nat.le_of_ble_eq_true rfl) dM_init_43 (fun H locs hP hD hS => ?_)
  have hP : va_P D tbCl [(m0, .inr (2, [.int 0, .int 0, .ref a1, .ref a2, .ref a3, .ref a4, .int 0, .ref a5, .null, .int 0])), (a1, .inl (cI, 8, .inl (fun _ => 0))), (a2, .inl (cI, 8, .inl (fun _ => 0))), (a3, .inl (cI, 8, .inl (fun _ => 0))), (a4, .inl (cI, 8192, .inl (fun _ => 0))), (a5, .inl (cI, 1024, .inl (fun _ => 0)))] H := hP
  have hD : va_D A [(m0, .inr (2, [.int 0, .int 0, .ref a1, .ref a2, .ref a3, .ref a4, .int 0, .ref a5, .null, .int 0])), (a1, .inl (cI, 8, .inl (fun _ => 0))), (a2, .inl (cI, 8, .inl (fun _ => 0))), (a3, .inl (cI, 8, .inl (fun _ => 0))), (a4, .inl (cI, 8192, .inl (fun _ => 0))), (a5, .inl (cI, 1024, .inl (fun _ => 0)))] := hD
  refine lv_aload_n hx hb dM_init_46 rfl (lv_at hl 0 rfl) ?_
  refine lv_sipush (v := 1024) hx hb dM_init_47 (by decide) ?_
  refine va_newa (atype := .int) (a0 := (1024, .inl (fun _ => 0))) (N' := 1024) (ty := .int) hx hb (hB _ wd_47) rfl hK hP hD hS hA (fun cA => rfl) (by decide) rfl (by decide) (Nat.le_of_ble_eq_true rfl) (Nat.le_of_ble_eq_true rfl) dM_init_50 (fun a6 cA9 H hK9 hP hD hS => ?_)
  obtain rfl : cI = cA9 := Option.some.inj ((show s.vm.findClass ("[" ++ (FieldType.int).toString) = some cI from (hK.2 0 _ rfl).2).symm.trans (show s.vm.findClass ("[" ++ (FieldType.int).toString) = some cA9 from (hK9.2 1 _ rfl).2))
  have hP : va_P D tbCl [(m0, .inr (2, [.int 0, .int 0, .ref a1, .ref a2, .ref a3, .ref a4, .int 0, .ref a5, .null, .int 0])), (a1, .inl (cI, 8, .inl (fun _ => 0))), (a2, .inl (cI, 8, .inl (fun _ => 0))), (a3, .inl (cI, 8, .inl (fun _ => 0))), (a4, .inl (cI, 8192, .inl (fun _ => 0))), (a5, .inl (cI, 1024, .inl (fun _ => 0))), (a6, .inl (cI, 1024, .inl (fun _ => 0)))] H := hP
  have hD : va_D A [(m0, .inr (2, [.int 0, .int 0, .ref a1, .ref a2, .ref a3, .ref a4, .int 0, .ref a5, .null, .int 0])), (a1, .inl (cI, 8, .inl (fun _ => 0))), (a2, .inl (cI, 8, .inl (fun _ => 0))), (a3, .inl (cI, 8, .inl (fun _ => 0))), (a4, .inl (cI, 8192, .inl (fun _ => 0))), (a5, .inl (cI, 1024, .inl (fun _ => 0))), (a6, .inl (cI, 1024, .inl (fun _ => 0)))] := hD
  refine W.widen (k := 6) (n := 10264) (by omega) (by omega) ?_
  refine va_putF (D := D) (ci := 2) (v := .ref a6) (ty := .array .int) (C := RM) (T := FM) (N := 10) hx hb hB inM tyM tyM_ok nmM hown hK hP hD hS 0 rfl rfl 8 (by decide) (hB _ wd_330) (fun _ h9 => h9) rfl hin rfl (by decide +kernel) rfl rfl (Nat.le_of_ble_eq_true rfl) dM_init_52 (fun H locs hP hD hS => ?_)
  have hP : va_P D tbCl [(m0, .inr (2, [.int 0, .int 0, .ref a1, .ref a2, .ref a3, .ref a4, .int 0, .ref a5, .ref a6, .int 0])), (a1, .inl (cI, 8, .inl (fun _ => 0))), (a2, .inl (cI, 8, .inl (fun _ => 0))), (a3, .inl (cI, 8, .inl (fun _ => 0))), (a4, .inl (cI, 8192, .inl (fun _ => 0))), (a5, .inl (cI, 1024, .inl (fun _ => 0))), (a6, .inl (cI, 1024, .inl (fun _ => 0)))] H := hP
  have hD : va_D A [(m0, .inr (2, [.int 0, .int 0, .ref a1, .ref a2, .ref a3, .ref a4, .int 0, .ref a5, .ref a6, .int 0])), (a1, .inl (cI, 8, .inl (fun _ => 0))), (a2, .inl (cI, 8, .inl (fun _ => 0))), (a3, .inl (cI, 8, .inl (fun _ => 0))), (a4, .inl (cI, 8192, .inl (fun _ => 0))), (a5, .inl (cI, 1024, .inl (fun _ => 0))), (a6, .inl (cI, 1024, .inl (fun _ => 0)))] := hD
  exact W.vret hx hb hr (fun t ht hW => ⟨⟨(), rfl, trivial, a1, a2, a3, a4, a5, a6, (by have h9 : va_P D tbCl [(m0, .inr (2, [.int 0, .int 0, .ref a1, .ref a2, .ref a3, .ref a4, .int 0, .ref a5, .ref a6, .int 0])), (a1, .inl (cI, 8, .inl (fun _ => 0))), (a2, .inl (cI, 8, .inl (fun _ => 0))), (a3, .inl (cI, 8, .inl (fun _ => 0))), (a4, .inl (cI, 8192, .inl (fun _ => 0))), (a5, .inl (cI, 1024, .inl (fun _ => 0))), (a6, .inl (cI, 1024, .inl (fun _ => 0)))] H := hP; rw [← ht] at h9; exact h9), hD⟩, hS.F ht⟩) hS.2.2 dM_init_55
