set_option maxHeartbeats 4000000 in
set_option maxRecDepth 100000 in
theorem kT_fillFromDouble (l : Launch) (D : va_G) (sz : Nat) (cI : ClassId) (t0 g0 : Nat) (sd wr sf lv : Int32) (g : Nat → Int32) (k : Nat) (hk : k ≤ 4) : Met l yT_fillFromDouble wT_fillFromDouble (k2_rm 3 78) (wr_P [.ref t0, .int (nI (2 ^ k))] sz D [(cI, .int)] [(t0, .inr (0, [.ref g0, .int sd, .int wr, .int sf, .int lv])), (g0, .inl (cI, 1365, .inl (g)))]) (wr_Qv D (va_A [(t0, .inr (0, [.ref g0, .int sd, .int wr, .int sf, .int lv])), (g0, .inl (cI, 1365, .inl (g)))] sz) [(t0, .inr (0, [.ref g0, .int sd, .int wr, .int sf, .int lv])), (g0, .inl (cI, 1365, .inl (tt_ffp g k (4 ^ k))))]) 0 0 (va_A [(t0, .inr (0, [.ref g0, .int sd, .int wr, .int sf, .int lv])), (g0, .inl (cI, 1365, .inl (g)))] sz) := by
  refine Met.ofW (cc := cT_fillFromDouble) (maxL := 5) (ret := none) (by decide) rfl ?_
  intro p e s m args below meth c s₁ B hml hv
  obtain ⟨rfl, hsz, hC, hP, hK, hD0⟩ := hv
  have hx := B.exec
  have hb := B.bytes
  have hr := B.returns
  have hB : ∀ w ∈ tbB, w.before _ s = true := fun w h => (atoms_spec (ws := wT_fillFromDouble) B.pre) w (List.mem_cons_of_mem _ h)
  have hown : s.vm.findClass "TextureBank$Texture" = some m.cls := findClass_of_methodNamed B.named
  have hlocks := B.notSynchronized
  subst hsz
  have hD := hD0.self (sz := s.heap.size)
  generalize hAe : va_A [(t0, .inr (0, [.ref g0, .int sd, .int wr, .int sf, .int lv])), (g0, .inl (cI, 1365, .inl (g)))] s.heap.size = A at hD ⊢
  have hA : ∀ q : Nat, s.heap.size ≤ q → A q := fun q h => by rw [← hAe]; exact Or.inr h
  have hS : va_S A s.heap s.heap [] := va_S.rf
  have hl := lv_entry ([.ref t0, .int (nI (2 ^ k))]) (n := 5) (Nat.le_of_ble_eq_true rfl)
  rw [lg_entry_eq]
  generalize (lg_sl ([.ref t0, .int (nI (2 ^ k))]) ++ List.replicate (5 - (lg_sl ([.ref t0, .int (nI (2 ^ k))])).length) Slot.unset).toArray = ls at hl ⊢
  have hl : lv_has ls 5 [(0, .ref t0), (1, .int (nI (2 ^ k)))] := hl
  obtain ⟨hp1, hp2, hp3, hp4, hp5⟩ := tt_pw k (by omega)
  have loop : ∀ (ny y : Nat) (H : Heap) (locs : List Loc), y ≤ 2 ^ k → 2 ^ k + 1 ≤ y + ny → va_P D tbCl [(t0, .inr (0, [.ref g0, .int sd, .int wr, .int sf, .int lv])), (g0, .inl (cI, 1365, .inl (tt_ffp g k (y * 2 ^ k))))] H → va_D A [(t0, .inr (0, [.ref g0, .int sd, .int wr, .int sf, .int lv])), (g0, .inl (cI, 1365, .inl (tt_ffp g k (y * 2 ^ k))))] → va_S A s.heap H locs → ∀ ls : Array Slot, lv_has ls 5 [(3, .int (nI y)), (2, .int (nI (st4 k))), (0, .ref t0), (1, .int (nI (2 ^ k)))] → W p l e (headSpec wT_fillFromDouble (k2_rm 3 78)).room s m (#[.ref t0, .int (nI (2 ^ k))] : Array Value) below meth c H locs 0 0 (MQ below (wr_Qv D A [(t0, .inr (0, [.ref g0, .int sd, .int wr, .int sf, .int lv])), (g0, .inl (cI, 1365, .inl (tt_ffp g k (4 ^ k))))]) (#[.ref t0, .int (nI (2 ^ k))] : Array Value) s 0 0 A) (F0 m 7 ls []) := by
    intro ny
    induction ny with
    | zero => intro y H locs h1 h2; exact absurd h2 (by omega)
    | succ ny ihy =>
      intro y H locs hyy hny hP hD hS ls hl
      refine lv_iload_n hx hb dT_fillFromDouble_7 rfl (lv_at hl 0 rfl) ?_
      refine lv_iload_n hx hb dT_fillFromDouble_8 rfl (lv_at hl 3 rfl) ?_
      refine lv_icmp_ge (tgt := 60) hx hb dT_fillFromDouble_9 (by decide) (fun c_1 => ?_) (fun c_1 => ?_)
      · have hye : y = 2 ^ k := by
          rcases Nat.lt_or_ge y (2 ^ k) with q | q
          · exact absurd c_1 (nI_ge q (by omega))
          · omega
        rw [show y * 2 ^ k = 4 ^ k by rw [hye, hp4]] at hP
        exact W.vret hx hb hr (fun t ht hW => ⟨⟨(), rfl, trivial, (by have h9 := hP; rw [← ht] at h9; exact h9)⟩, hS.F ht⟩) hS.2.2 dT_fillFromDouble_60
      · have hyl : y < 2 ^ k := by
          rcases Nat.lt_or_ge y (2 ^ k) with q | q
          · exact q
          · exact absurd (nI_le q (by omega)) c_1
        have inner : ∀ (nx x : Nat) (H : Heap) (locs : List Loc), x ≤ 2 ^ k → 2 ^ k + 1 ≤ x + nx → va_P D tbCl [(t0, .inr (0, [.ref g0, .int sd, .int wr, .int sf, .int lv])), (g0, .inl (cI, 1365, .inl (tt_ffp g k (y * 2 ^ k + x))))] H → va_D A [(t0, .inr (0, [.ref g0, .int sd, .int wr, .int sf, .int lv])), (g0, .inl (cI, 1365, .inl (tt_ffp g k (y * 2 ^ k + x))))] → va_S A s.heap H locs → ∀ ls : Array Slot, lv_has ls 5 [(4, .int (nI x)), (3, .int (nI y)), (2, .int (nI (st4 k))), (0, .ref t0), (1, .int (nI (2 ^ k)))] → W p l e (headSpec wT_fillFromDouble (k2_rm 3 78)).room s m (#[.ref t0, .int (nI (2 ^ k))] : Array Value) below meth c H locs 0 0 (MQ below (wr_Qv D A [(t0, .inr (0, [.ref g0, .int sd, .int wr, .int sf, .int lv])), (g0, .inl (cI, 1365, .inl (tt_ffp g k (4 ^ k))))]) (#[.ref t0, .int (nI (2 ^ k))] : Array Value) s 0 0 A) (F0 m 15 ls []) := by
          intro nx
          induction nx with
          | zero => intro x H locs h1 h2; exact absurd h2 (by omega)
          | succ nx ihx =>
            intro x H locs hxx hnx hP hD hS ls hl
            refine lv_iload hx hb dT_fillFromDouble_15 (lv_at hl 0 rfl) ?_
            refine lv_iload_n hx hb dT_fillFromDouble_17 rfl (lv_at hl 4 rfl) ?_
            refine lv_icmp_ge (tgt := 54) hx hb dT_fillFromDouble_18 (by decide) (fun c_1 => ?_) (fun c_1 => ?_)
            · obtain ⟨i_2, ei_2⟩ : ∃ z9 : Int32, z9 = (nI y) + 1 := ⟨_, rfl⟩
              refine lv_iinc (v := i_2) (lv' := [(3, .int i_2), (4, .int (nI x)), (2, .int (nI (st4 k))), (0, .ref t0), (1, .int (nI (2 ^ k)))]) hx hb dT_fillFromDouble_54 hl (k := 1) rfl (by rw [ei_2]; rfl) (by decide) rfl (fun ls hl => ?_)
              refine lv_goto (tgt := 7) hx hb dT_fillFromDouble_57 (by decide) ?_
              have hxe : x = 2 ^ k := by
                rcases Nat.lt_or_ge x (2 ^ k) with q | q
                · exact absurd c_1 (nI_ge q (by omega))
                · omega
              have e9 : y * 2 ^ k + x = (y + 1) * 2 ^ k := by rw [hxe, Nat.succ_mul]
              rw [e9] at hP hD
              exact ihy (y + 1) H locs (by omega) (by omega) hP hD hS ls (by have hl := lv_sub hl [0, 2, 3, 4] rfl; rw [ei_2, nI_1] at hl; exact hl)
            · have hxlt : x < 2 ^ k := by
                rcases Nat.lt_or_ge x (2 ^ k) with q | q
                · exact q
                · exact absurd (nI_le q (by omega)) c_1
              refine lv_aload_n hx hb dT_fillFromDouble_21 rfl (lv_at hl 3 rfl) ?_
              refine va_get (D := D) (ci := 0) (v := .ref g0) (C := RT) (T := FT) (N := 5) hx hb hB inT hown hK hP 0 rfl rfl 0 (by decide) (hB _ wd_27) (fun _ h9 => h9) rfl dT_fillFromDouble_22 ?_
              refine lv_iload_n hx hb dT_fillFromDouble_25 rfl (lv_at hl 2 rfl) ?_
              refine lv_iload_n hx hb dT_fillFromDouble_26 rfl (lv_at hl 1 rfl) ?_
              refine lv_iload_n hx hb dT_fillFromDouble_27 rfl (lv_at hl 4 rfl) ?_
              refine lv_imul hx hb dT_fillFromDouble_28 ?_
              refine lv_iadd hx hb dT_fillFromDouble_29 ?_
              refine lv_iload hx hb dT_fillFromDouble_30 (lv_at hl 0 rfl) ?_
              refine lv_iadd hx hb dT_fillFromDouble_32 ?_
              refine lv_aload_n hx hb dT_fillFromDouble_33 rfl (lv_at hl 3 rfl) ?_
              refine lv_iconst (v := 2) hx hb dT_fillFromDouble_34 (by decide) ?_
              refine lv_iload_n hx hb dT_fillFromDouble_35 rfl (lv_at hl 4 rfl) ?_
              refine lv_imul hx hb dT_fillFromDouble_36 ?_
              refine lv_iconst (v := 2) hx hb dT_fillFromDouble_37 (by decide) ?_
              refine lv_iload hx hb dT_fillFromDouble_38 (lv_at hl 0 rfl) ?_
              refine lv_imul hx hb dT_fillFromDouble_40 ?_
              refine lv_iconst (v := 2) hx hb dT_fillFromDouble_41 (by decide) ?_
              refine lv_iload_n hx hb dT_fillFromDouble_42 rfl (lv_at hl 1 rfl) ?_
              refine lv_imul hx hb dT_fillFromDouble_43 ?_
              refine W.callV (W.runV (C := "TextureBank$Texture") (As := [.int (2 * (nI (2 ^ k))), .int (2 * (nI x)), .int (2 * (nI y))]) (rest := [.int (((nI (st4 k)) + ((nI y) * (nI (2 ^ k)))) + (nI x)), .ref g0]) ⟨hx, hb, hml, hown, hB⟩ (kT_meanOfFour l D cI t0 g0 sd wr sf lv (tt_ffp g k (y * 2 ^ k + x)) (2 * (nI (2 ^ k))) (2 * (nI x)) (2 * (nI y))) ⟨callB_of 3 hB gwT_meanOfFour rfl rfl rfl (hB _ wd_2) (hB _ wd_104) ydT_meanOfFour ⟨Nat.le_of_ble_eq_true rfl, Nat.le_of_ble_eq_true rfl⟩, hB _ wd_106, hB _ ws_2⟩ (rd_V hC (hP.sub [0, 1] rfl) (hK.sub [0] rfl) (va_recv hK hP (ci := 0) (q0 := 0) rfl rfl)) rfl rfl hl.1 rfl (lv_room (Nat.le_of_ble_eq_true rfl)) dT_fillFromDouble_44 ⟨Nat.zero_le _, Nat.zero_le _⟩) ?_
              refine W.eq (g2 := F0 m 47 ls [.int (tt_m4 (tt_ffp g k (y * 2 ^ k + x)) (2 * (nI (2 ^ k))) (2 * (nI x)) (2 * (nI y))), .int (((nI (st4 k)) + ((nI y) * (nI (2 ^ k)))) + (nI x)), .ref g0]) rfl ?_
              refine lv_topi (fun vv evv => ?_)
              rw [tt_ffs g hk hxlt hyl] at evv
              refine va_iast hx hb hK hP hD hS 1 0 rfl rfl (by rw [(tt_ffi hk hxlt hyl).1]; exact vp_in_nI (tt_ffi hk hxlt hyl).2 (by omega)) dT_fillFromDouble_47 (fun H locs hP hD hS => ?_)
              have hP : va_P D tbCl [(t0, .inr (0, [.ref g0, .int sd, .int wr, .int sf, .int lv])), (g0, .inl (cI, 1365, .inl (tt_ffp g k (y * 2 ^ k + x + 1))))] H := by
                have hP9 := hP
                rw [(tt_ffi hk hxlt hyl).1, nI_clamp (by have := (tt_ffi hk hxlt hyl).2; omega), evv] at hP9
                have hP9 : va_P D tbCl [(t0, .inr (0, [.ref g0, .int sd, .int wr, .int sf, .int lv])), (g0, .inl (cI, 1365, .inl (upd (tt_ffp g k (y * 2 ^ k + x)) (st4 k + (y * 2 ^ k + x)) (tt_ffv g k (y * 2 ^ k + x)))))] H := hP9
                rw [tt_ffp1] at hP9
                exact hP9
              have hD : va_D A [(t0, .inr (0, [.ref g0, .int sd, .int wr, .int sf, .int lv])), (g0, .inl (cI, 1365, .inl (tt_ffp g k (y * 2 ^ k + x + 1))))] := wd_D hD rfl
              obtain ⟨i_3, ei_3⟩ : ∃ z9 : Int32, z9 = (nI x) + 1 := ⟨_, rfl⟩
              refine lv_iinc (v := i_3) (lv' := [(4, .int i_3), (3, .int (nI y)), (2, .int (nI (st4 k))), (0, .ref t0), (1, .int (nI (2 ^ k)))]) hx hb dT_fillFromDouble_48 hl (k := 0) rfl (by rw [ei_3]; rfl) (by decide) rfl (fun ls hl => ?_)
              refine lv_goto (tgt := 15) hx hb dT_fillFromDouble_51 (by decide) ?_
              have e9 : y * 2 ^ k + x + 1 = y * 2 ^ k + (x + 1) := by omega
              rw [e9] at hP hD
              exact ihx (x + 1) H locs (by omega) (by omega) hP hD hS ls (by have hl := lv_sub hl [0, 1, 2, 3, 4] rfl; rw [ei_3, nI_1] at hl; exact hl)
        refine lv_iconst (v := 0) hx hb dT_fillFromDouble_12 (by decide) ?_
        refine lv_istore (lv' := [(4, .int 0), (3, .int (nI y)), (2, .int (nI (st4 k))), (0, .ref t0), (1, .int (nI (2 ^ k)))]) hx hb dT_fillFromDouble_13 hl (by decide) rfl (fun ls hl => ?_)
        exact inner (2 ^ k + 1) 0 H locs (Nat.zero_le _) (by omega) hP hD hS ls (lv_sub hl [0, 1, 2, 3, 4] rfl)
  refine lv_iload_n hx hb dT_fillFromDouble_0 rfl (lv_at hl 1 rfl) ?_
  refine W.callV (W.runS (As := [.int (nI (2 ^ k))]) (rest := []) ⟨hx, hb, hml, hown, hB⟩ (kT_startOf l (nI (2 ^ k))) ⟨callB_of 1 hB gwT_startOf rfl rfl rfl (hB _ wd_2) (hB _ wd_94) ydT_startOf ⟨Nat.le_of_ble_eq_true rfl, Nat.le_of_ble_eq_true rfl⟩, hB _ wd_95⟩ (preEq) rfl rfl hl.1 rfl (lv_room (Nat.le_of_ble_eq_true rfl)) dT_fillFromDouble_1 ⟨Nat.zero_le _, Nat.zero_le _⟩) ?_
  refine W.eq (g2 := F0 m 4 ls [.int (tt_start (nI (2 ^ k)))]) rfl ?_
  refine lv_istore_n (lv' := [(2, .int (tt_start (nI (2 ^ k)))), (0, .ref t0), (1, .int (nI (2 ^ k)))]) hx hb dT_fillFromDouble_4 rfl hl (by decide) rfl (fun ls hl => ?_)
  refine lv_iconst (v := 0) hx hb dT_fillFromDouble_5 (by decide) ?_
  refine lv_istore_n (lv' := [(3, .int 0), (2, .int (tt_start (nI (2 ^ k)))), (0, .ref t0), (1, .int (nI (2 ^ k)))]) hx hb dT_fillFromDouble_6 rfl hl (by decide) rfl (fun ls hl => ?_)
  have e0 : tt_ffp g k (0 * 2 ^ k) = g := by rw [Nat.zero_mul]; exact tt_ffp0 g k
  exact loop (2 ^ k + 1) 0 s.heap [] (Nat.zero_le _) (by omega) (by rw [e0]; exact hP) (by rw [e0]; exact hD) hS ls (by have hl := lv_sub hl [0, 1, 2, 3] rfl; rw [tt_start4 (by omega)] at hl; exact hl)
