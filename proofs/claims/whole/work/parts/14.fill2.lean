set_option maxHeartbeats 4000000 in
set_option maxRecDepth 100000 in
theorem kT_fill (l : Launch) (D : va_G) (sz : Nat) (cI : ClassId) (t0 g0 x0 : Nat) (sd wr sf lv : Int32) (g f : Nat → Int32) (nw ns : Int32) (k : Nat) (hk : k ≤ 5) : Met l yT_fill wT_fill (k2_rm 4 102) (wr_P [.ref t0, .ref x0, .int (nI (2 ^ k)), .int nw, .int ns] sz D [(cI, .int)] [(t0, .inr (0, [.ref g0, .int sd, .int wr, .int sf, .int lv])), (g0, .inl (cI, 1365, .inl g)), (x0, .inl (cI, 1024, .inl f))]) (wr_Qv D (va_A [(t0, .inr (0, [.ref g0, .int sd, .int wr, .int sf, .int lv])), (g0, .inl (cI, 1365, .inl g)), (x0, .inl (cI, 1024, .inl f))] sz) [(t0, .inr (0, [.ref g0, .int (nI (2 ^ k)), .int nw, .int ns, .int (nI (k + 1))])), (g0, .inl (cI, 1365, .inl (tt_fl (va_cpy f g 0 (st4 k) (4 ^ k)) k))), (x0, .inl (cI, 1024, .inl f))]) 0 0 (va_A [(t0, .inr (0, [.ref g0, .int sd, .int wr, .int sf, .int lv])), (g0, .inl (cI, 1365, .inl g)), (x0, .inl (cI, 1024, .inl f))] sz) := by
  refine Met.ofW (cc := cT_fill) (maxL := 6) (ret := none) (by decide) rfl ?_
  intro p e s m args below meth c s₁ B hml hv
  obtain ⟨rfl, hsz, hC, hP, hK, hD0⟩ := hv
  have hx := B.exec
  have hb := B.bytes
  have hr := B.returns
  have hB : ∀ w ∈ tbB, w.before _ s = true := fun w h => (atoms_spec (ws := wT_fill) B.pre) w (List.mem_cons_of_mem _ h)
  have hown : s.vm.findClass "TextureBank$Texture" = some m.cls := findClass_of_methodNamed B.named
  have hlocks := B.notSynchronized
  subst hsz
  have hD := hD0.self (sz := s.heap.size)
  generalize hAe : va_A [(t0, .inr (0, [.ref g0, .int sd, .int wr, .int sf, .int lv])), (g0, .inl (cI, 1365, .inl g)), (x0, .inl (cI, 1024, .inl f))] s.heap.size = A at hD ⊢
  have hA : ∀ q : Nat, s.heap.size ≤ q → A q := fun q h => by rw [← hAe]; exact Or.inr h
  have hS : va_S A s.heap s.heap [] := va_S.rf
  have hl := lv_entry ([.ref t0, .ref x0, .int (nI (2 ^ k)), .int nw, .int ns]) (n := 6) (Nat.le_of_ble_eq_true rfl)
  rw [lg_entry_eq]
  generalize (lg_sl ([.ref t0, .ref x0, .int (nI (2 ^ k)), .int nw, .int ns]) ++ List.replicate (6 - (lg_sl ([.ref t0, .ref x0, .int (nI (2 ^ k)), .int nw, .int ns])).length) Slot.unset).toArray = ls at hl ⊢
  have hl : lv_has ls 6 [(0, .ref t0), (1, .ref x0), (2, .int (nI (2 ^ k))), (3, .int nw), (4, .int ns)] := hl
  obtain ⟨hp1, hp2, hp3, hp4, hp5⟩ := tt_pw k hk
  have hp6 : 4 ^ k ≤ 1024 := by rw [← hp4]; exact Nat.mul_le_mul hp1 hp1
  have loop : ∀ (j : Nat) (h : Nat → Int32) (H : Heap) (locs : List Loc), j ≤ k → tt_fl h j = tt_fl (va_cpy f g 0 (st4 k) (4 ^ k)) k → va_P D tbCl [(t0, .inr (0, [.ref g0, .int (nI (2 ^ k)), .int nw, .int ns, .int (nI (k + 1 - j))])), (g0, .inl (cI, 1365, .inl (h))), (x0, .inl (cI, 1024, .inl f))] H → va_D A [(t0, .inr (0, [.ref g0, .int (nI (2 ^ k)), .int nw, .int ns, .int (nI (k + 1 - j))])), (g0, .inl (cI, 1365, .inl (h))), (x0, .inl (cI, 1024, .inl f))] → va_S A s.heap H locs → ∀ ls : Array Slot, lv_has ls 6 [(5, .int (nI (2 ^ j / 2))), (0, .ref t0), (1, .ref x0), (2, .int (nI (2 ^ k))), (3, .int nw), (4, .int ns)] → W p l e (headSpec wT_fill (k2_rm 4 102)).room s m (#[.ref t0, .ref x0, .int (nI (2 ^ k)), .int nw, .int ns] : Array Value) below meth c H locs 0 0 (MQ below (wr_Qv D A [(t0, .inr (0, [.ref g0, .int (nI (2 ^ k)), .int nw, .int ns, .int (nI (k + 1))])), (g0, .inl (cI, 1365, .inl (tt_fl (va_cpy f g 0 (st4 k) (4 ^ k)) k))), (x0, .inl (cI, 1024, .inl f))]) (#[.ref t0, .ref x0, .int (nI (2 ^ k)), .int nw, .int ns] : Array Value) s 0 0 A) (F0 m 42 ls []) := by
    intro j
    induction j with
    | zero =>
      intro h H locs hj he hP hD hS ls hl
      have he : h = tt_fl (va_cpy f g 0 (st4 k) (4 ^ k)) k := he
      refine lv_iload hx hb dT_fill_42 (lv_at hl 0 rfl) ?_
      refine lv_if_le (tgt := 72) hx hb dT_fill_44 (by decide) (fun c_1 => ?_) (fun c_1 => ?_)
      · have hP : va_P D tbCl [(t0, .inr (0, [.ref g0, .int (nI (2 ^ k)), .int nw, .int ns, .int (nI (k + 1))])), (g0, .inl (cI, 1365, .inl (tt_fl (va_cpy f g 0 (st4 k) (4 ^ k)) k))), (x0, .inl (cI, 1024, .inl f))] H := by rw [← he]; exact hP
        exact W.vret hx hb hr (fun t ht hW => ⟨⟨(), rfl, trivial, (by have h9 := hP; rw [← ht] at h9; exact h9)⟩, hS.F ht⟩) hS.2.2 dT_fill_72
      · exact absurd (show nI (2 ^ 0 / 2) ≤ 0 by decide) c_1
    | succ i ih =>
      intro h H locs hj he hP hD hS ls hl
      have he : tt_fl (tt_ffp h i (4 ^ i)) i = tt_fl (va_cpy f g 0 (st4 k) (4 ^ k)) k := he
      refine lv_iload hx hb dT_fill_42 (lv_at hl 0 rfl) ?_
      refine lv_if_le (tgt := 72) hx hb dT_fill_44 (by decide) (fun c_1 => ?_) (fun c_1 => ?_)
      · exact absurd c_1 (by rw [tt_hs]; exact nI_nle (Nat.pos_of_ne_zero (by have := (tt_pw i (by omega)).2.1; omega)) (by have := (tt_pw i (by omega)).1; omega))
      · refine lv_aload_n hx hb dT_fill_47 rfl (lv_at hl 1 rfl) ?_
        refine lv_iload hx hb dT_fill_48 (lv_at hl 0 rfl) ?_
        refine W.eq (g2 := F0 m 50 ls [.int (nI (2 ^ i)), .ref t0]) (by rw [tt_hs]) ?_
        have hFc := va_free (wc := [(t0, .inr (0, [.ref g0, .int (nI (2 ^ k)), .int nw, .int ns, .int (nI (k + 1 - (i + 1)))])), (g0, .inl (cI, 1365, .inl (h)))]) hD hS hA [0, 1] rfl
        refine va_callv (va_runV (C := "TextureBank$Texture") (As := [.int (nI (2 ^ i))]) (rest := []) ⟨hx, hb, hml, hown, hB⟩ (kT_fillFromDouble l D H.size cI t0 g0 (nI (2 ^ k)) nw ns (nI (k + 1 - (i + 1))) h i (by omega)) ⟨callB_of 1 hB gwT_fillFromDouble rfl rfl rfl (hB _ wd_2) (hB _ wd_100) ydT_fillFromDouble ⟨Nat.le_of_ble_eq_true rfl, Nat.le_of_ble_eq_true rfl⟩, hB _ wd_102, hB _ ws_1⟩ (wr_V hC (hP.sub [0, 1] rfl) (hK.sub [0] rfl) (hD.sub [0, 1] (by decide) rfl) (va_recv hK hP (ci := 0) (q0 := 0) rfl rfl)) rfl rfl hl.1 rfl (lv_room (Nat.le_of_ble_eq_true rfl)) dT_fill_50 ⟨Nat.zero_le _, Nat.zero_le _⟩) hS (fun q _ h => hFc q h) hFc (fun u t H1 locs ht hvm hw hB1 hz1 hk1 hS => ?_)
        have hP1 : va_P D tbCl [(t0, .inr (0, [.ref g0, .int (nI (2 ^ k)), .int nw, .int ns, .int (nI (k + 1 - (i + 1)))])), (g0, .inl (cI, 1365, .inl (tt_ffp h i (4 ^ i))))] H1 := by have h9 := hB1; rw [← ht]; exact h9
        have hP : va_P D tbCl [(t0, .inr (0, [.ref g0, .int (nI (2 ^ k)), .int nw, .int ns, .int (nI (k + 1 - (i + 1)))])), (g0, .inl (cI, 1365, .inl (tt_ffp h i (4 ^ i)))), (x0, .inl (cI, 1024, .inl f))] H1 := wd_back hP hD [0, 1] rfl hk1 hP1 (by intro k q hq; match k, hq with | 0, hq => exact Or.inl ⟨0, hq⟩ | 1, hq => exact Or.inl ⟨1, hq⟩ | 2, hq => exact Or.inr ⟨by decide, hq⟩ | k + 3, hq => simp at hq)
        have hD : va_D A [(t0, .inr (0, [.ref g0, .int (nI (2 ^ k)), .int nw, .int ns, .int (nI (k + 1 - (i + 1)))])), (g0, .inl (cI, 1365, .inl (tt_ffp h i (4 ^ i)))), (x0, .inl (cI, 1024, .inl f))] := wd_D hD rfl
        generalize H1 = H at hP hS ⊢
        refine W.eq (g2 := F0 m 53 ls []) rfl ?_
        refine lv_aload_n hx hb dT_fill_53 rfl (lv_at hl 1 rfl) ?_
        refine lv_dup hx hb dT_fill_54 rfl ?_
        refine va_get (D := D) (ci := 0) (v := .int (nI (k + 1 - (i + 1)))) (C := RT) (T := FT) (N := 5) hx hb hB inT hown hK hP 0 rfl rfl 4 (by decide) (hB _ wd_34) (fun _ h9 => h9) rfl dT_fill_55 ?_
        refine lv_iconst (v := 1) hx hb dT_fill_58 (by decide) ?_
        refine lv_iadd hx hb dT_fill_59 ?_
        refine va_put (D := D) (ci := 0) (v := .int ((nI (k + 1 - (i + 1))) + 1)) (ty := .int) (C := RT) (T := FT) (N := 5) hx hb hB inT tyT tyT_ok nmT hown hK hP hD hS 0 rfl rfl 4 (by decide) (hB _ wd_34) (fun _ h9 => h9) rfl (by decide +kernel) rfl rfl (Nat.le_of_ble_eq_true rfl) dT_fill_60 (fun H locs hP hD hS => ?_)
        have hP : va_P D tbCl [(t0, .inr (0, [.ref g0, .int (nI (2 ^ k)), .int nw, .int ns, .int ((nI (k + 1 - (i + 1))) + 1)])), (g0, .inl (cI, 1365, .inl (tt_ffp h i (4 ^ i)))), (x0, .inl (cI, 1024, .inl f))] H := hP
        have hD : va_D A [(t0, .inr (0, [.ref g0, .int (nI (2 ^ k)), .int nw, .int ns, .int ((nI (k + 1 - (i + 1))) + 1)])), (g0, .inl (cI, 1365, .inl (tt_ffp h i (4 ^ i)))), (x0, .inl (cI, 1024, .inl f))] := hD
        refine lv_iload hx hb dT_fill_63 (lv_at hl 0 rfl) ?_
        refine lv_iconst (v := 2) hx hb dT_fill_65 (by decide) ?_
        refine lv_idiv hx hb dT_fill_66 (by decide) ?_
        refine lv_istore (lv' := [(5, .int ((nI (2 ^ (i + 1) / 2)) / 2)), (0, .ref t0), (1, .ref x0), (2, .int (nI (2 ^ k))), (3, .int nw), (4, .int ns)]) hx hb dT_fill_67 hl (by decide) rfl (fun ls hl => ?_)
        refine lv_goto (tgt := 42) hx hb dT_fill_69 (by decide) ?_
        exact ih (tt_ffp h i (4 ^ i)) H locs (by omega) he (by have h9 := hP; rw [show k + 1 - i = (k + 1 - (i + 1)) + 1 by omega, ← nI_1]; exact h9) (wd_D hD rfl) hS ls (by have hl := lv_sub hl [0, 1, 2, 3, 4, 5] rfl; rw [tt_hs, tt_hv (by omega)] at hl; exact hl)
  refine lv_aload_n hx hb dT_fill_0 rfl (lv_at hl 0 rfl) ?_
  refine lv_iload_n hx hb dT_fill_1 rfl (lv_at hl 2 rfl) ?_
  refine va_put (D := D) (ci := 0) (v := .int (nI (2 ^ k))) (ty := .int) (C := RT) (T := FT) (N := 5) hx hb hB inT tyT tyT_ok nmT hown hK hP hD hS 0 rfl rfl 1 (by decide) (hB _ wd_28) (fun _ h9 => h9) rfl (by decide +kernel) rfl rfl (Nat.le_of_ble_eq_true rfl) dT_fill_2 (fun H locs hP hD hS => ?_)
  have hP : va_P D tbCl [(t0, .inr (0, [.ref g0, .int (nI (2 ^ k)), .int wr, .int sf, .int lv])), (g0, .inl (cI, 1365, .inl g)), (x0, .inl (cI, 1024, .inl f))] H := hP
  have hD : va_D A [(t0, .inr (0, [.ref g0, .int (nI (2 ^ k)), .int wr, .int sf, .int lv])), (g0, .inl (cI, 1365, .inl g)), (x0, .inl (cI, 1024, .inl f))] := hD
  refine lv_aload_n hx hb dT_fill_5 rfl (lv_at hl 0 rfl) ?_
  refine lv_iload_n hx hb dT_fill_6 rfl (lv_at hl 3 rfl) ?_
  refine va_put (D := D) (ci := 0) (v := .int nw) (ty := .int) (C := RT) (T := FT) (N := 5) hx hb hB inT tyT tyT_ok nmT hown hK hP hD hS 0 rfl rfl 2 (by decide) (hB _ wd_30) (fun _ h9 => h9) rfl (by decide +kernel) rfl rfl (Nat.le_of_ble_eq_true rfl) dT_fill_7 (fun H locs hP hD hS => ?_)
  have hP : va_P D tbCl [(t0, .inr (0, [.ref g0, .int (nI (2 ^ k)), .int nw, .int sf, .int lv])), (g0, .inl (cI, 1365, .inl g)), (x0, .inl (cI, 1024, .inl f))] H := hP
  have hD : va_D A [(t0, .inr (0, [.ref g0, .int (nI (2 ^ k)), .int nw, .int sf, .int lv])), (g0, .inl (cI, 1365, .inl g)), (x0, .inl (cI, 1024, .inl f))] := hD
  refine lv_aload_n hx hb dT_fill_10 rfl (lv_at hl 0 rfl) ?_
  refine lv_iload hx hb dT_fill_11 (lv_at hl 4 rfl) ?_
  refine va_put (D := D) (ci := 0) (v := .int ns) (ty := .int) (C := RT) (T := FT) (N := 5) hx hb hB inT tyT tyT_ok nmT hown hK hP hD hS 0 rfl rfl 3 (by decide) (hB _ wd_32) (fun _ h9 => h9) rfl (by decide +kernel) rfl rfl (Nat.le_of_ble_eq_true rfl) dT_fill_13 (fun H locs hP hD hS => ?_)
  have hP : va_P D tbCl [(t0, .inr (0, [.ref g0, .int (nI (2 ^ k)), .int nw, .int ns, .int lv])), (g0, .inl (cI, 1365, .inl g)), (x0, .inl (cI, 1024, .inl f))] H := hP
  have hD : va_D A [(t0, .inr (0, [.ref g0, .int (nI (2 ^ k)), .int nw, .int ns, .int lv])), (g0, .inl (cI, 1365, .inl g)), (x0, .inl (cI, 1024, .inl f))] := hD
  refine lv_aload_n hx hb dT_fill_16 rfl (lv_at hl 0 rfl) ?_
  refine lv_iconst (v := 1) hx hb dT_fill_17 (by decide) ?_
  refine va_put (D := D) (ci := 0) (v := .int 1) (ty := .int) (C := RT) (T := FT) (N := 5) hx hb hB inT tyT tyT_ok nmT hown hK hP hD hS 0 rfl rfl 4 (by decide) (hB _ wd_34) (fun _ h9 => h9) rfl (by decide +kernel) rfl rfl (Nat.le_of_ble_eq_true rfl) dT_fill_18 (fun H locs hP hD hS => ?_)
  have hP : va_P D tbCl [(t0, .inr (0, [.ref g0, .int (nI (2 ^ k)), .int nw, .int ns, .int 1])), (g0, .inl (cI, 1365, .inl g)), (x0, .inl (cI, 1024, .inl f))] H := hP
  have hD : va_D A [(t0, .inr (0, [.ref g0, .int (nI (2 ^ k)), .int nw, .int ns, .int 1])), (g0, .inl (cI, 1365, .inl g)), (x0, .inl (cI, 1024, .inl f))] := hD
  refine lv_aload_n hx hb dT_fill_21 rfl (lv_at hl 1 rfl) ?_
  refine lv_iconst (v := 0) hx hb dT_fill_22 (by decide) ?_
  refine lv_aload_n hx hb dT_fill_23 rfl (lv_at hl 0 rfl) ?_
  refine va_get (D := D) (ci := 0) (v := .ref g0) (C := RT) (T := FT) (N := 5) hx hb hB inT hown hK hP 0 rfl rfl 0 (by decide) (hB _ wd_27) (fun _ h9 => h9) rfl dT_fill_24 ?_
  refine lv_iload_n hx hb dT_fill_27 rfl (lv_at hl 2 rfl) ?_
  refine W.callV (W.runS (As := [.int (nI (2 ^ k))]) (rest := [.ref g0, .int 0, .ref x0]) ⟨hx, hb, hml, hown, hB⟩ (kT_startOf l (nI (2 ^ k))) ⟨callB_of 1 hB gwT_startOf rfl rfl rfl (hB _ wd_2) (hB _ wd_94) ydT_startOf ⟨Nat.le_of_ble_eq_true rfl, Nat.le_of_ble_eq_true rfl⟩, hB _ wd_95⟩ (preEq) rfl rfl hl.1 rfl (lv_room (Nat.le_of_ble_eq_true rfl)) dT_fill_28 ⟨Nat.zero_le _, Nat.zero_le _⟩) ?_
  refine W.eq (g2 := F0 m 31 ls [.int (tt_start (nI (2 ^ k))), .ref g0, .int 0, .ref x0]) rfl ?_
  refine lv_iload_n hx hb dT_fill_31 rfl (lv_at hl 2 rfl) ?_
  refine lv_iload_n hx hb dT_fill_32 rfl (lv_at hl 2 rfl) ?_
  refine lv_imul hx hb dT_fill_33 ?_
  refine W.eq (g2 := F0 m 34 ls [.int (nI (4 ^ k)), .int (nI (st4 k)), .ref g0, .int 0, .ref x0]) (by rw [tt_start4 hk, pk_mul, hp4]) ?_
  refine va_copyi hx hb (by rw [hml]; exact hl.1.symm) hown (hB _ wd_97) (hB _ wd_99) (hB _ wd_98) (hB _ wd_5) hK hP hD hS 2 1 0 0 rfl rfl rfl rfl rfl (by decide) (nI_pos (by omega)) (nI_pos (by omega)) (by rw [nI_clamp (by omega)]; show 0 + _ ≤ _; omega) (by rw [nI_clamp (by omega), nI_clamp (by omega)]; omega) (fun _ _ => rfl) (Nat.le_of_ble_eq_true rfl) (Nat.le_of_ble_eq_true rfl) dT_fill_34 (fun H locs hP hD hS => ?_)
  have hP : va_P D tbCl [(t0, .inr (0, [.ref g0, .int (nI (2 ^ k)), .int nw, .int ns, .int 1])), (g0, .inl (cI, 1365, .inl (va_cpy f g 0 (st4 k) (4 ^ k)))), (x0, .inl (cI, 1024, .inl f))] H := by
    have hP9 := hP
    rw [nI_clamp (by omega), nI_clamp (by omega)] at hP9
    exact hP9
  have hD : va_D A [(t0, .inr (0, [.ref g0, .int (nI (2 ^ k)), .int nw, .int ns, .int 1])), (g0, .inl (cI, 1365, .inl (va_cpy f g 0 (st4 k) (4 ^ k)))), (x0, .inl (cI, 1024, .inl f))] := wd_D hD rfl
  refine lv_iload_n hx hb dT_fill_37 rfl (lv_at hl 2 rfl) ?_
  refine lv_iconst (v := 2) hx hb dT_fill_38 (by decide) ?_
  refine lv_idiv hx hb dT_fill_39 (by decide) ?_
  refine lv_istore (lv' := [(5, .int ((nI (2 ^ k)) / 2)), (0, .ref t0), (1, .ref x0), (2, .int (nI (2 ^ k))), (3, .int nw), (4, .int ns)]) hx hb dT_fill_40 hl (by decide) rfl (fun ls hl => ?_)
  exact loop k (va_cpy f g 0 (st4 k) (4 ^ k)) H locs (Nat.le_refl k) rfl (by have h9 := hP; rw [show (k + 1 - k) = 1 by omega]; exact h9) (wd_D hD rfl) hS ls (by have hl := lv_sub hl [0, 1, 2, 3, 4, 5] rfl; rw [tt_hv hk] at hl; exact hl)
