def mm_is (s : Int32) : Prop := s = 1 ∨ s = 2 ∨ s = 4 ∨ s = 8 ∨ s = 16 ∨ s = 32
theorem mm_cp0 (f g : Nat → Int32) (d : Nat) : va_cpy f g 0 d 0 = g := by
  funext i
  unfold va_cpy
  rw [if_neg (by omega)]
theorem mm_cp1 (f g : Nat → Int32) (d t : Nat) : upd (va_cpy f g 0 d t) (d + t) (f t) = va_cpy f g 0 d (t + 1) := by
  funext i
  unfold upd va_cpy
  by_cases h : i = d + t
  · subst h
    rw [if_pos rfl, if_pos (by omega), Nat.zero_add, Nat.add_sub_cancel_left]
  · rw [if_neg h]
    by_cases h2 : d ≤ i ∧ i < d + t
    · rw [if_pos h2, if_pos (by omega)]
    · rw [if_neg h2, if_neg (by omega)]
set_option maxHeartbeats 4000000 in
set_option maxRecDepth 100000 in
theorem kM_add_no1 (l : Launch) (D : va_G) (sz : Nat) (cI : ClassId) (m0 a1 a2 a3 a4 a5 a6 : Nat) (th mn zz si : Int32) (f1 f2 f3 f4 f5 f6 : Nat → Int32) (s9 w9 f9 : Int32) (hni : ¬ mm_is s9) : Met l yM_add wM_add (k2_rm 0 0) (wr_P [.ref m0, .int s9, .int w9, .int f9] sz D [(cI, .int)] [(m0, .inr (2, [.int th, .int mn, .ref a1, .ref a2, .ref a3, .ref a4, .int zz, .ref a5, .ref a6, .int si])), (a1, .inl (cI, 8, .inl f1)), (a2, .inl (cI, 8, .inl f2)), (a3, .inl (cI, 8, .inl f3)), (a4, .inl (cI, 8192, .inl f4)), (a5, .inl (cI, 1024, .inl f5)), (a6, .inl (cI, 1024, .inl f6))]) (wr_Qi (-1) D (va_A [(m0, .inr (2, [.int th, .int mn, .ref a1, .ref a2, .ref a3, .ref a4, .int zz, .ref a5, .ref a6, .int si])), (a1, .inl (cI, 8, .inl f1)), (a2, .inl (cI, 8, .inl f2)), (a3, .inl (cI, 8, .inl f3)), (a4, .inl (cI, 8192, .inl f4)), (a5, .inl (cI, 1024, .inl f5)), (a6, .inl (cI, 1024, .inl f6))] sz) [(m0, .inr (2, [.int 0, .int mn, .ref a1, .ref a2, .ref a3, .ref a4, .int 0, .ref a5, .ref a6, .int si])), (a1, .inl (cI, 8, .inl f1)), (a2, .inl (cI, 8, .inl f2)), (a3, .inl (cI, 8, .inl f3)), (a4, .inl (cI, 8192, .inl f4)), (a5, .inl (cI, 1024, .inl f5)), (a6, .inl (cI, 1024, .inl f6))]) 0 0 (va_A [(m0, .inr (2, [.int th, .int mn, .ref a1, .ref a2, .ref a3, .ref a4, .int zz, .ref a5, .ref a6, .int si])), (a1, .inl (cI, 8, .inl f1)), (a2, .inl (cI, 8, .inl f2)), (a3, .inl (cI, 8, .inl f3)), (a4, .inl (cI, 8192, .inl f4)), (a5, .inl (cI, 1024, .inl f5)), (a6, .inl (cI, 1024, .inl f6))] sz) := by
  refine Met.ofW (cc := cM_add) (maxL := 7) (ret := (some .int)) (by decide) rfl ?_
  intro p e s m args below meth c s₁ B hml hv
  obtain ⟨rfl, hsz, hC, hP, hK, hD0⟩ := hv
  have hx := B.exec
  have hb := B.bytes
  have hr := B.returns
  have hB : ∀ w ∈ tbB, w.before _ s = true := fun w h => (atoms_spec (ws := wM_add) B.pre) w (List.mem_cons_of_mem _ h)
  have hown : s.vm.findClass "TextureBankModel" = some m.cls := findClass_of_methodNamed B.named
  have hlocks := B.notSynchronized
  subst hsz
  have hD := hD0.self (sz := s.heap.size)
  generalize hAe : va_A [(m0, .inr (2, [.int th, .int mn, .ref a1, .ref a2, .ref a3, .ref a4, .int zz, .ref a5, .ref a6, .int si])), (a1, .inl (cI, 8, .inl f1)), (a2, .inl (cI, 8, .inl f2)), (a3, .inl (cI, 8, .inl f3)), (a4, .inl (cI, 8192, .inl f4)), (a5, .inl (cI, 1024, .inl f5)), (a6, .inl (cI, 1024, .inl f6))] s.heap.size = A at hD ⊢
  have hA : ∀ q : Nat, s.heap.size ≤ q → A q := fun q h => by rw [← hAe]; exact Or.inr h
  have hS : va_S A s.heap s.heap [] := va_S.rf
  have hl := lv_entry ([.ref m0, .int s9, .int w9, .int f9]) (n := 7) (Nat.le_of_ble_eq_true rfl)
  rw [lg_entry_eq]
  generalize (lg_sl ([.ref m0, .int s9, .int w9, .int f9]) ++ List.replicate (7 - (lg_sl ([.ref m0, .int s9, .int w9, .int f9])).length) Slot.unset).toArray = ls at hl ⊢
  have hl : lv_has ls 7 [(0, .ref m0), (1, .int s9), (2, .int w9), (3, .int f9)] := hl
  refine lv_aload_n hx hb dM_add_0 rfl (lv_at hl 0 rfl) ?_
  refine lv_iconst (v := 0) hx hb dM_add_1 (by decide) ?_
  refine va_put (D := D) (ci := 2) (v := .int 0) (ty := .int) (C := RM) (T := FM) (N := 10) hx hb hB inM tyM tyM_ok nmM hown hK hP hD hS 0 rfl rfl 0 (by decide) (hB _ wd_322) (fun _ h9 => h9) rfl (by decide +kernel) rfl rfl (Nat.le_of_ble_eq_true rfl) dM_add_2 (fun H locs hP hD hS => ?_)
  have hP : va_P D tbCl [(m0, .inr (2, [.int 0, .int mn, .ref a1, .ref a2, .ref a3, .ref a4, .int zz, .ref a5, .ref a6, .int si])), (a1, .inl (cI, 8, .inl f1)), (a2, .inl (cI, 8, .inl f2)), (a3, .inl (cI, 8, .inl f3)), (a4, .inl (cI, 8192, .inl f4)), (a5, .inl (cI, 1024, .inl f5)), (a6, .inl (cI, 1024, .inl f6))] H := hP
  have hD : va_D A [(m0, .inr (2, [.int 0, .int mn, .ref a1, .ref a2, .ref a3, .ref a4, .int zz, .ref a5, .ref a6, .int si])), (a1, .inl (cI, 8, .inl f1)), (a2, .inl (cI, 8, .inl f2)), (a3, .inl (cI, 8, .inl f3)), (a4, .inl (cI, 8192, .inl f4)), (a5, .inl (cI, 1024, .inl f5)), (a6, .inl (cI, 1024, .inl f6))] := hD
  refine lv_aload_n hx hb dM_add_5 rfl (lv_at hl 0 rfl) ?_
  refine va_get (D := D) (ci := 2) (v := .int zz) (C := RM) (T := FM) (N := 10) hx hb hB inM hown hK hP 0 rfl rfl 6 (by decide) (hB _ wd_328) (fun _ h9 => h9) rfl dM_add_6 ?_
  refine lv_istore (lv' := [(4, .int zz), (0, .ref m0), (1, .int s9), (2, .int w9), (3, .int f9)]) hx hb dM_add_9 hl (by decide) rfl (fun ls hl => ?_)
  refine lv_aload_n hx hb dM_add_11 rfl (lv_at hl 1 rfl) ?_
  refine lv_iconst (v := 0) hx hb dM_add_12 (by decide) ?_
  refine va_put (D := D) (ci := 2) (v := .int 0) (ty := .int) (C := RM) (T := FM) (N := 10) hx hb hB inM tyM tyM_ok nmM hown hK hP hD hS 0 rfl rfl 6 (by decide) (hB _ wd_328) (fun _ h9 => h9) rfl (by decide +kernel) rfl rfl (Nat.le_of_ble_eq_true rfl) dM_add_13 (fun H locs hP hD hS => ?_)
  have hP : va_P D tbCl [(m0, .inr (2, [.int 0, .int mn, .ref a1, .ref a2, .ref a3, .ref a4, .int 0, .ref a5, .ref a6, .int si])), (a1, .inl (cI, 8, .inl f1)), (a2, .inl (cI, 8, .inl f2)), (a3, .inl (cI, 8, .inl f3)), (a4, .inl (cI, 8192, .inl f4)), (a5, .inl (cI, 1024, .inl f5)), (a6, .inl (cI, 1024, .inl f6))] H := hP
  have hD : va_D A [(m0, .inr (2, [.int 0, .int mn, .ref a1, .ref a2, .ref a3, .ref a4, .int 0, .ref a5, .ref a6, .int si])), (a1, .inl (cI, 8, .inl f1)), (a2, .inl (cI, 8, .inl f2)), (a3, .inl (cI, 8, .inl f3)), (a4, .inl (cI, 8192, .inl f4)), (a5, .inl (cI, 1024, .inl f5)), (a6, .inl (cI, 1024, .inl f6))] := hD
  refine lv_iload_n hx hb dM_add_16 rfl (lv_at hl 2 rfl) ?_
  refine lv_iconst (v := 1) hx hb dM_add_17 (by decide) ?_
  refine lv_icmp_eq (tgt := 49) hx hb dM_add_18 (by decide) (fun c_1 => ?_) (fun c_1 => ?_)
  · exact absurd c_1 (fun h9 => hni (Or.inl h9))
  · refine lv_iload_n hx hb dM_add_21 rfl (lv_at hl 2 rfl) ?_
    refine lv_iconst (v := 2) hx hb dM_add_22 (by decide) ?_
    refine lv_icmp_eq (tgt := 49) hx hb dM_add_23 (by decide) (fun c_2 => ?_) (fun c_2 => ?_)
    · exact absurd c_2 (fun h9 => hni (Or.inr (Or.inl h9)))
    · refine lv_iload_n hx hb dM_add_26 rfl (lv_at hl 2 rfl) ?_
      refine lv_iconst (v := 4) hx hb dM_add_27 (by decide) ?_
      refine lv_icmp_eq (tgt := 49) hx hb dM_add_28 (by decide) (fun c_3 => ?_) (fun c_3 => ?_)
      · exact absurd c_3 (fun h9 => hni (Or.inr (Or.inr (Or.inl h9))))
      · refine lv_iload_n hx hb dM_add_31 rfl (lv_at hl 2 rfl) ?_
        refine lv_bipush (v := 8) hx hb dM_add_32 (by decide) ?_
        refine lv_icmp_eq (tgt := 49) hx hb dM_add_34 (by decide) (fun c_4 => ?_) (fun c_4 => ?_)
        · exact absurd c_4 (fun h9 => hni (Or.inr (Or.inr (Or.inr (Or.inl h9)))))
        · refine lv_iload_n hx hb dM_add_37 rfl (lv_at hl 2 rfl) ?_
          refine lv_bipush (v := 16) hx hb dM_add_38 (by decide) ?_
          refine lv_icmp_eq (tgt := 49) hx hb dM_add_40 (by decide) (fun c_5 => ?_) (fun c_5 => ?_)
          · exact absurd c_5 (fun h9 => hni (Or.inr (Or.inr (Or.inr (Or.inr (Or.inl h9))))))
          · refine lv_iload_n hx hb dM_add_43 rfl (lv_at hl 2 rfl) ?_
            refine lv_bipush (v := 32) hx hb dM_add_44 (by decide) ?_
            refine lv_icmp_ne (tgt := 53) hx hb dM_add_46 (by decide) (fun c_6 => ?_) (fun c_6 => ?_)
            · refine lv_iconst (v := 0) hx hb dM_add_53 (by decide) ?_
              refine lv_istore (lv' := [(5, .int 0), (4, .int zz), (0, .ref m0), (1, .int s9), (2, .int w9), (3, .int f9)]) hx hb dM_add_54 hl (by decide) rfl (fun ls hl => ?_)
              refine lv_aload_n hx hb dM_add_56 rfl (lv_at hl 2 rfl) ?_
              refine va_get (D := D) (ci := 2) (v := .int mn) (C := RM) (T := FM) (N := 10) hx hb hB inM hown hK hP 0 rfl rfl 1 (by decide) (hB _ wd_323) (fun _ h9 => h9) rfl dM_add_57 ?_
              refine lv_bipush (v := 8) hx hb dM_add_60 (by decide) ?_
              refine lv_icmp_eq (tgt := 96) hx hb dM_add_62 (by decide) (fun c_7 => ?_) (fun c_7 => ?_)
              · refine lv_iconst (v := (-1)) hx hb dM_add_96 (by decide) ?_
                exact W.iret hx hb hr (fun t ht hW => ⟨⟨_, (), rfl, rfl, (by have h9 : va_P D tbCl [(m0, .inr (2, [.int 0, .int mn, .ref a1, .ref a2, .ref a3, .ref a4, .int 0, .ref a5, .ref a6, .int si])), (a1, .inl (cI, 8, .inl f1)), (a2, .inl (cI, 8, .inl f2)), (a3, .inl (cI, 8, .inl f3)), (a4, .inl (cI, 8192, .inl f4)), (a5, .inl (cI, 1024, .inl f5)), (a6, .inl (cI, 1024, .inl f6))] H := hP; rw [← ht] at h9; exact h9)⟩, hS.F ht⟩) hS.2.2 dM_add_97
              · refine lv_iload hx hb dM_add_65 (lv_at hl 0 rfl) ?_
                refine lv_if_eq (tgt := 96) hx hb dM_add_67 (by decide) (fun c_8 => ?_) (fun c_8 => absurd c_8 (by decide))
                refine lv_iconst (v := (-1)) hx hb dM_add_96 (by decide) ?_
                exact W.iret hx hb hr (fun t ht hW => ⟨⟨_, (), rfl, rfl, (by have h9 : va_P D tbCl [(m0, .inr (2, [.int 0, .int mn, .ref a1, .ref a2, .ref a3, .ref a4, .int 0, .ref a5, .ref a6, .int si])), (a1, .inl (cI, 8, .inl f1)), (a2, .inl (cI, 8, .inl f2)), (a3, .inl (cI, 8, .inl f3)), (a4, .inl (cI, 8192, .inl f4)), (a5, .inl (cI, 1024, .inl f5)), (a6, .inl (cI, 1024, .inl f6))] H := hP; rw [← ht] at h9; exact h9)⟩, hS.F ht⟩) hS.2.2 dM_add_97
            · exact absurd c_6 (fun h9 => hni (Or.inr (Or.inr (Or.inr (Or.inr (Or.inr h9))))))

set_option maxHeartbeats 4000000 in
set_option maxRecDepth 100000 in
theorem kM_add_no2 (l : Launch) (D : va_G) (sz : Nat) (cI : ClassId) (m0 a1 a2 a3 a4 a5 a6 : Nat) (th mn zz si : Int32) (f1 f2 f3 f4 f5 f6 : Nat → Int32) (s9 w9 f9 : Int32) (his : mm_is s9) (hno : mn = 8 ∨ w9 < 0 ∨ 2 < w9 ∨ f9 < 0 ∨ 1 < f9 ∨ ¬ zz = s9 * s9) : Met l yM_add wM_add (k2_rm 0 0) (wr_P [.ref m0, .int s9, .int w9, .int f9] sz D [(cI, .int)] [(m0, .inr (2, [.int th, .int mn, .ref a1, .ref a2, .ref a3, .ref a4, .int zz, .ref a5, .ref a6, .int si])), (a1, .inl (cI, 8, .inl f1)), (a2, .inl (cI, 8, .inl f2)), (a3, .inl (cI, 8, .inl f3)), (a4, .inl (cI, 8192, .inl f4)), (a5, .inl (cI, 1024, .inl f5)), (a6, .inl (cI, 1024, .inl f6))]) (wr_Qi (-1) D (va_A [(m0, .inr (2, [.int th, .int mn, .ref a1, .ref a2, .ref a3, .ref a4, .int zz, .ref a5, .ref a6, .int si])), (a1, .inl (cI, 8, .inl f1)), (a2, .inl (cI, 8, .inl f2)), (a3, .inl (cI, 8, .inl f3)), (a4, .inl (cI, 8192, .inl f4)), (a5, .inl (cI, 1024, .inl f5)), (a6, .inl (cI, 1024, .inl f6))] sz) [(m0, .inr (2, [.int 0, .int mn, .ref a1, .ref a2, .ref a3, .ref a4, .int 0, .ref a5, .ref a6, .int si])), (a1, .inl (cI, 8, .inl f1)), (a2, .inl (cI, 8, .inl f2)), (a3, .inl (cI, 8, .inl f3)), (a4, .inl (cI, 8192, .inl f4)), (a5, .inl (cI, 1024, .inl f5)), (a6, .inl (cI, 1024, .inl f6))]) 0 0 (va_A [(m0, .inr (2, [.int th, .int mn, .ref a1, .ref a2, .ref a3, .ref a4, .int zz, .ref a5, .ref a6, .int si])), (a1, .inl (cI, 8, .inl f1)), (a2, .inl (cI, 8, .inl f2)), (a3, .inl (cI, 8, .inl f3)), (a4, .inl (cI, 8192, .inl f4)), (a5, .inl (cI, 1024, .inl f5)), (a6, .inl (cI, 1024, .inl f6))] sz) := by
  refine Met.ofW (cc := cM_add) (maxL := 7) (ret := (some .int)) (by decide) rfl ?_
  intro p e s m args below meth c s₁ B hml hv
  obtain ⟨rfl, hsz, hC, hP, hK, hD0⟩ := hv
  have hx := B.exec
  have hb := B.bytes
  have hr := B.returns
  have hB : ∀ w ∈ tbB, w.before _ s = true := fun w h => (atoms_spec (ws := wM_add) B.pre) w (List.mem_cons_of_mem _ h)
  have hown : s.vm.findClass "TextureBankModel" = some m.cls := findClass_of_methodNamed B.named
  have hlocks := B.notSynchronized
  subst hsz
  have hD := hD0.self (sz := s.heap.size)
  generalize hAe : va_A [(m0, .inr (2, [.int th, .int mn, .ref a1, .ref a2, .ref a3, .ref a4, .int zz, .ref a5, .ref a6, .int si])), (a1, .inl (cI, 8, .inl f1)), (a2, .inl (cI, 8, .inl f2)), (a3, .inl (cI, 8, .inl f3)), (a4, .inl (cI, 8192, .inl f4)), (a5, .inl (cI, 1024, .inl f5)), (a6, .inl (cI, 1024, .inl f6))] s.heap.size = A at hD ⊢
  have hA : ∀ q : Nat, s.heap.size ≤ q → A q := fun q h => by rw [← hAe]; exact Or.inr h
  have hS : va_S A s.heap s.heap [] := va_S.rf
  have hl := lv_entry ([.ref m0, .int s9, .int w9, .int f9]) (n := 7) (Nat.le_of_ble_eq_true rfl)
  rw [lg_entry_eq]
  generalize (lg_sl ([.ref m0, .int s9, .int w9, .int f9]) ++ List.replicate (7 - (lg_sl ([.ref m0, .int s9, .int w9, .int f9])).length) Slot.unset).toArray = ls at hl ⊢
  have hl : lv_has ls 7 [(0, .ref m0), (1, .int s9), (2, .int w9), (3, .int f9)] := hl
  refine lv_aload_n hx hb dM_add_0 rfl (lv_at hl 0 rfl) ?_
  refine lv_iconst (v := 0) hx hb dM_add_1 (by decide) ?_
  refine va_put (D := D) (ci := 2) (v := .int 0) (ty := .int) (C := RM) (T := FM) (N := 10) hx hb hB inM tyM tyM_ok nmM hown hK hP hD hS 0 rfl rfl 0 (by decide) (hB _ wd_322) (fun _ h9 => h9) rfl (by decide +kernel) rfl rfl (Nat.le_of_ble_eq_true rfl) dM_add_2 (fun H locs hP hD hS => ?_)
  have hP : va_P D tbCl [(m0, .inr (2, [.int 0, .int mn, .ref a1, .ref a2, .ref a3, .ref a4, .int zz, .ref a5, .ref a6, .int si])), (a1, .inl (cI, 8, .inl f1)), (a2, .inl (cI, 8, .inl f2)), (a3, .inl (cI, 8, .inl f3)), (a4, .inl (cI, 8192, .inl f4)), (a5, .inl (cI, 1024, .inl f5)), (a6, .inl (cI, 1024, .inl f6))] H := hP
  have hD : va_D A [(m0, .inr (2, [.int 0, .int mn, .ref a1, .ref a2, .ref a3, .ref a4, .int zz, .ref a5, .ref a6, .int si])), (a1, .inl (cI, 8, .inl f1)), (a2, .inl (cI, 8, .inl f2)), (a3, .inl (cI, 8, .inl f3)), (a4, .inl (cI, 8192, .inl f4)), (a5, .inl (cI, 1024, .inl f5)), (a6, .inl (cI, 1024, .inl f6))] := hD
  refine lv_aload_n hx hb dM_add_5 rfl (lv_at hl 0 rfl) ?_
  refine va_get (D := D) (ci := 2) (v := .int zz) (C := RM) (T := FM) (N := 10) hx hb hB inM hown hK hP 0 rfl rfl 6 (by decide) (hB _ wd_328) (fun _ h9 => h9) rfl dM_add_6 ?_
  refine lv_istore (lv' := [(4, .int zz), (0, .ref m0), (1, .int s9), (2, .int w9), (3, .int f9)]) hx hb dM_add_9 hl (by decide) rfl (fun ls hl => ?_)
  refine lv_aload_n hx hb dM_add_11 rfl (lv_at hl 1 rfl) ?_
  refine lv_iconst (v := 0) hx hb dM_add_12 (by decide) ?_
  refine va_put (D := D) (ci := 2) (v := .int 0) (ty := .int) (C := RM) (T := FM) (N := 10) hx hb hB inM tyM tyM_ok nmM hown hK hP hD hS 0 rfl rfl 6 (by decide) (hB _ wd_328) (fun _ h9 => h9) rfl (by decide +kernel) rfl rfl (Nat.le_of_ble_eq_true rfl) dM_add_13 (fun H locs hP hD hS => ?_)
  have hP : va_P D tbCl [(m0, .inr (2, [.int 0, .int mn, .ref a1, .ref a2, .ref a3, .ref a4, .int 0, .ref a5, .ref a6, .int si])), (a1, .inl (cI, 8, .inl f1)), (a2, .inl (cI, 8, .inl f2)), (a3, .inl (cI, 8, .inl f3)), (a4, .inl (cI, 8192, .inl f4)), (a5, .inl (cI, 1024, .inl f5)), (a6, .inl (cI, 1024, .inl f6))] H := hP
  have hD : va_D A [(m0, .inr (2, [.int 0, .int mn, .ref a1, .ref a2, .ref a3, .ref a4, .int 0, .ref a5, .ref a6, .int si])), (a1, .inl (cI, 8, .inl f1)), (a2, .inl (cI, 8, .inl f2)), (a3, .inl (cI, 8, .inl f3)), (a4, .inl (cI, 8192, .inl f4)), (a5, .inl (cI, 1024, .inl f5)), (a6, .inl (cI, 1024, .inl f6))] := hD
  have cont : W p l e (headSpec wM_add (k2_rm 0 0)).room s m (#[.ref m0, .int s9, .int w9, .int f9] : Array Value) below meth c H locs 0 0 (MQ below (wr_Qi (-1) D A [(m0, .inr (2, [.int 0, .int mn, .ref a1, .ref a2, .ref a3, .ref a4, .int 0, .ref a5, .ref a6, .int si])), (a1, .inl (cI, 8, .inl f1)), (a2, .inl (cI, 8, .inl f2)), (a3, .inl (cI, 8, .inl f3)), (a4, .inl (cI, 8192, .inl f4)), (a5, .inl (cI, 1024, .inl f5)), (a6, .inl (cI, 1024, .inl f6))]) (#[.ref m0, .int s9, .int w9, .int f9] : Array Value) s 0 0 A) (F0 m 54 ls [.int 1]) := by
    refine lv_istore (lv' := [(5, .int 1), (4, .int zz), (0, .ref m0), (1, .int s9), (2, .int w9), (3, .int f9)]) hx hb dM_add_54 hl (by decide) rfl (fun ls hl => ?_)
    refine lv_aload_n hx hb dM_add_56 rfl (lv_at hl 2 rfl) ?_
    refine va_get (D := D) (ci := 2) (v := .int mn) (C := RM) (T := FM) (N := 10) hx hb hB inM hown hK hP 0 rfl rfl 1 (by decide) (hB _ wd_323) (fun _ h9 => h9) rfl dM_add_57 ?_
    refine lv_bipush (v := 8) hx hb dM_add_60 (by decide) ?_
    refine lv_icmp_eq (tgt := 96) hx hb dM_add_62 (by decide) (fun c_1 => ?_) (fun c_1 => ?_)
    · refine lv_iconst (v := (-1)) hx hb dM_add_96 (by decide) ?_
      exact W.iret hx hb hr (fun t ht hW => ⟨⟨_, (), rfl, rfl, (by have h9 : va_P D tbCl [(m0, .inr (2, [.int 0, .int mn, .ref a1, .ref a2, .ref a3, .ref a4, .int 0, .ref a5, .ref a6, .int si])), (a1, .inl (cI, 8, .inl f1)), (a2, .inl (cI, 8, .inl f2)), (a3, .inl (cI, 8, .inl f3)), (a4, .inl (cI, 8192, .inl f4)), (a5, .inl (cI, 1024, .inl f5)), (a6, .inl (cI, 1024, .inl f6))] H := hP; rw [← ht] at h9; exact h9)⟩, hS.F ht⟩) hS.2.2 dM_add_97
    · refine lv_iload hx hb dM_add_65 (lv_at hl 0 rfl) ?_
      refine lv_if_eq (tgt := 96) hx hb dM_add_67 (by decide) (fun c_2 => absurd c_2 (by decide)) (fun c_2 => ?_)
      refine lv_iload_n hx hb dM_add_70 rfl (lv_at hl 4 rfl) ?_
      refine lv_if_lt (tgt := 96) hx hb dM_add_71 (by decide) (fun c_3 => ?_) (fun c_3 => ?_)
      · refine lv_iconst (v := (-1)) hx hb dM_add_96 (by decide) ?_
        exact W.iret hx hb hr (fun t ht hW => ⟨⟨_, (), rfl, rfl, (by have h9 : va_P D tbCl [(m0, .inr (2, [.int 0, .int mn, .ref a1, .ref a2, .ref a3, .ref a4, .int 0, .ref a5, .ref a6, .int si])), (a1, .inl (cI, 8, .inl f1)), (a2, .inl (cI, 8, .inl f2)), (a3, .inl (cI, 8, .inl f3)), (a4, .inl (cI, 8192, .inl f4)), (a5, .inl (cI, 1024, .inl f5)), (a6, .inl (cI, 1024, .inl f6))] H := hP; rw [← ht] at h9; exact h9)⟩, hS.F ht⟩) hS.2.2 dM_add_97
      · refine lv_iload_n hx hb dM_add_74 rfl (lv_at hl 4 rfl) ?_
        refine lv_iconst (v := 2) hx hb dM_add_75 (by decide) ?_
        refine lv_icmp_gt (tgt := 96) hx hb dM_add_76 (by decide) (fun c_4 => ?_) (fun c_4 => ?_)
        · refine lv_iconst (v := (-1)) hx hb dM_add_96 (by decide) ?_
          exact W.iret hx hb hr (fun t ht hW => ⟨⟨_, (), rfl, rfl, (by have h9 : va_P D tbCl [(m0, .inr (2, [.int 0, .int mn, .ref a1, .ref a2, .ref a3, .ref a4, .int 0, .ref a5, .ref a6, .int si])), (a1, .inl (cI, 8, .inl f1)), (a2, .inl (cI, 8, .inl f2)), (a3, .inl (cI, 8, .inl f3)), (a4, .inl (cI, 8192, .inl f4)), (a5, .inl (cI, 1024, .inl f5)), (a6, .inl (cI, 1024, .inl f6))] H := hP; rw [← ht] at h9; exact h9)⟩, hS.F ht⟩) hS.2.2 dM_add_97
        · refine lv_iload_n hx hb dM_add_79 rfl (lv_at hl 5 rfl) ?_
          refine lv_if_lt (tgt := 96) hx hb dM_add_80 (by decide) (fun c_5 => ?_) (fun c_5 => ?_)
          · refine lv_iconst (v := (-1)) hx hb dM_add_96 (by decide) ?_
            exact W.iret hx hb hr (fun t ht hW => ⟨⟨_, (), rfl, rfl, (by have h9 : va_P D tbCl [(m0, .inr (2, [.int 0, .int mn, .ref a1, .ref a2, .ref a3, .ref a4, .int 0, .ref a5, .ref a6, .int si])), (a1, .inl (cI, 8, .inl f1)), (a2, .inl (cI, 8, .inl f2)), (a3, .inl (cI, 8, .inl f3)), (a4, .inl (cI, 8192, .inl f4)), (a5, .inl (cI, 1024, .inl f5)), (a6, .inl (cI, 1024, .inl f6))] H := hP; rw [← ht] at h9; exact h9)⟩, hS.F ht⟩) hS.2.2 dM_add_97
          · refine lv_iload_n hx hb dM_add_83 rfl (lv_at hl 5 rfl) ?_
            refine lv_iconst (v := 1) hx hb dM_add_84 (by decide) ?_
            refine lv_icmp_gt (tgt := 96) hx hb dM_add_85 (by decide) (fun c_6 => ?_) (fun c_6 => ?_)
            · refine lv_iconst (v := (-1)) hx hb dM_add_96 (by decide) ?_
              exact W.iret hx hb hr (fun t ht hW => ⟨⟨_, (), rfl, rfl, (by have h9 : va_P D tbCl [(m0, .inr (2, [.int 0, .int mn, .ref a1, .ref a2, .ref a3, .ref a4, .int 0, .ref a5, .ref a6, .int si])), (a1, .inl (cI, 8, .inl f1)), (a2, .inl (cI, 8, .inl f2)), (a3, .inl (cI, 8, .inl f3)), (a4, .inl (cI, 8192, .inl f4)), (a5, .inl (cI, 1024, .inl f5)), (a6, .inl (cI, 1024, .inl f6))] H := hP; rw [← ht] at h9; exact h9)⟩, hS.F ht⟩) hS.2.2 dM_add_97
            · refine lv_iload hx hb dM_add_88 (lv_at hl 1 rfl) ?_
              refine lv_iload_n hx hb dM_add_90 rfl (lv_at hl 3 rfl) ?_
              refine lv_iload_n hx hb dM_add_91 rfl (lv_at hl 3 rfl) ?_
              refine lv_imul hx hb dM_add_92 ?_
              refine lv_icmp_eq (tgt := 98) hx hb dM_add_93 (by decide) (fun c_7 => ?_) (fun c_7 => ?_)
              · exact absurd c_7 (hno.elim (fun h => absurd h c_1) (fun h => h.elim (fun h => absurd h c_3) (fun h => h.elim (fun h => absurd h c_4) (fun h => h.elim (fun h => absurd h c_5) (fun h => h.elim (fun h => absurd h c_6) id)))))
              · refine lv_iconst (v := (-1)) hx hb dM_add_96 (by decide) ?_
                exact W.iret hx hb hr (fun t ht hW => ⟨⟨_, (), rfl, rfl, (by have h9 : va_P D tbCl [(m0, .inr (2, [.int 0, .int mn, .ref a1, .ref a2, .ref a3, .ref a4, .int 0, .ref a5, .ref a6, .int si])), (a1, .inl (cI, 8, .inl f1)), (a2, .inl (cI, 8, .inl f2)), (a3, .inl (cI, 8, .inl f3)), (a4, .inl (cI, 8192, .inl f4)), (a5, .inl (cI, 1024, .inl f5)), (a6, .inl (cI, 1024, .inl f6))] H := hP; rw [← ht] at h9; exact h9)⟩, hS.F ht⟩) hS.2.2 dM_add_97
  refine lv_iload_n hx hb dM_add_16 rfl (lv_at hl 2 rfl) ?_
  refine lv_iconst (v := 1) hx hb dM_add_17 (by decide) ?_
  refine lv_icmp_eq (tgt := 49) hx hb dM_add_18 (by decide) (fun c_8 => ?_) (fun c_8 => ?_)
  · refine lv_iconst (v := 1) hx hb dM_add_49 (by decide) ?_
    refine lv_goto (tgt := 54) hx hb dM_add_50 (by decide) ?_
    exact cont
  · refine lv_iload_n hx hb dM_add_21 rfl (lv_at hl 2 rfl) ?_
    refine lv_iconst (v := 2) hx hb dM_add_22 (by decide) ?_
    refine lv_icmp_eq (tgt := 49) hx hb dM_add_23 (by decide) (fun c_9 => ?_) (fun c_9 => ?_)
    · refine lv_iconst (v := 1) hx hb dM_add_49 (by decide) ?_
      refine lv_goto (tgt := 54) hx hb dM_add_50 (by decide) ?_
      exact cont
    · refine lv_iload_n hx hb dM_add_26 rfl (lv_at hl 2 rfl) ?_
      refine lv_iconst (v := 4) hx hb dM_add_27 (by decide) ?_
      refine lv_icmp_eq (tgt := 49) hx hb dM_add_28 (by decide) (fun c_10 => ?_) (fun c_10 => ?_)
      · refine lv_iconst (v := 1) hx hb dM_add_49 (by decide) ?_
        refine lv_goto (tgt := 54) hx hb dM_add_50 (by decide) ?_
        exact cont
      · refine lv_iload_n hx hb dM_add_31 rfl (lv_at hl 2 rfl) ?_
        refine lv_bipush (v := 8) hx hb dM_add_32 (by decide) ?_
        refine lv_icmp_eq (tgt := 49) hx hb dM_add_34 (by decide) (fun c_11 => ?_) (fun c_11 => ?_)
        · refine lv_iconst (v := 1) hx hb dM_add_49 (by decide) ?_
          refine lv_goto (tgt := 54) hx hb dM_add_50 (by decide) ?_
          exact cont
        · refine lv_iload_n hx hb dM_add_37 rfl (lv_at hl 2 rfl) ?_
          refine lv_bipush (v := 16) hx hb dM_add_38 (by decide) ?_
          refine lv_icmp_eq (tgt := 49) hx hb dM_add_40 (by decide) (fun c_12 => ?_) (fun c_12 => ?_)
          · refine lv_iconst (v := 1) hx hb dM_add_49 (by decide) ?_
            refine lv_goto (tgt := 54) hx hb dM_add_50 (by decide) ?_
            exact cont
          · refine lv_iload_n hx hb dM_add_43 rfl (lv_at hl 2 rfl) ?_
            refine lv_bipush (v := 32) hx hb dM_add_44 (by decide) ?_
            refine lv_icmp_ne (tgt := 53) hx hb dM_add_46 (by decide) (fun c_13 => ?_) (fun c_13 => ?_)
            · exact absurd his (fun h9 => by rcases h9 with h9 | h9 | h9 | h9 | h9 | h9; exact c_8 h9; exact c_9 h9; exact c_10 h9; exact c_11 h9; exact c_12 h9; exact c_13 h9)
            · refine lv_iconst (v := 1) hx hb dM_add_49 (by decide) ?_
              refine lv_goto (tgt := 54) hx hb dM_add_50 (by decide) ?_
              exact cont

set_option maxHeartbeats 4000000 in
set_option maxRecDepth 100000 in
theorem kM_add_ok (l : Launch) (D : va_G) (sz : Nat) (cI : ClassId) (m0 a1 a2 a3 a4 a5 a6 : Nat) (th si : Int32) (f1 f2 f3 f4 f5 f6 : Nat → Int32) (j k : Nat) (hj : j < 8) (hk : k ≤ 5) (w9 f9 : Int32) (his : mm_is (nI (2 ^ k))) (h2 : ¬ w9 < 0) (h3 : ¬ 2 < w9) (h4 : ¬ f9 < 0) (h5 : ¬ 1 < f9) : Met l yM_add wM_add (k2_rm 0 0) (wr_P [.ref m0, .int (nI (2 ^ k)), .int w9, .int f9] sz D [(cI, .int)] [(m0, .inr (2, [.int th, .int (nI j), .ref a1, .ref a2, .ref a3, .ref a4, .int (nI (2 ^ k * 2 ^ k)), .ref a5, .ref a6, .int si])), (a1, .inl (cI, 8, .inl f1)), (a2, .inl (cI, 8, .inl f2)), (a3, .inl (cI, 8, .inl f3)), (a4, .inl (cI, 8192, .inl f4)), (a5, .inl (cI, 1024, .inl f5)), (a6, .inl (cI, 1024, .inl f6))]) (wr_Qi (nI j) D (va_A [(m0, .inr (2, [.int th, .int (nI j), .ref a1, .ref a2, .ref a3, .ref a4, .int (nI (2 ^ k * 2 ^ k)), .ref a5, .ref a6, .int si])), (a1, .inl (cI, 8, .inl f1)), (a2, .inl (cI, 8, .inl f2)), (a3, .inl (cI, 8, .inl f3)), (a4, .inl (cI, 8192, .inl f4)), (a5, .inl (cI, 1024, .inl f5)), (a6, .inl (cI, 1024, .inl f6))] sz) [(m0, .inr (2, [.int 0, .int (nI (j + 1)), .ref a1, .ref a2, .ref a3, .ref a4, .int 0, .ref a5, .ref a6, .int si])), (a1, .inl (cI, 8, .inl (upd f1 j (nI (2 ^ k))))), (a2, .inl (cI, 8, .inl (upd f2 j w9))), (a3, .inl (cI, 8, .inl (upd f3 j f9))), (a4, .inl (cI, 8192, .inl (va_cpy f5 f4 0 (1024 * j) (4 ^ k)))), (a5, .inl (cI, 1024, .inl f5)), (a6, .inl (cI, 1024, .inl f6))]) 0 0 (va_A [(m0, .inr (2, [.int th, .int (nI j), .ref a1, .ref a2, .ref a3, .ref a4, .int (nI (2 ^ k * 2 ^ k)), .ref a5, .ref a6, .int si])), (a1, .inl (cI, 8, .inl f1)), (a2, .inl (cI, 8, .inl f2)), (a3, .inl (cI, 8, .inl f3)), (a4, .inl (cI, 8192, .inl f4)), (a5, .inl (cI, 1024, .inl f5)), (a6, .inl (cI, 1024, .inl f6))] sz) := by
  refine Met.ofW (cc := cM_add) (maxL := 7) (ret := (some .int)) (by decide) rfl ?_
  intro p e s m args below meth c s₁ B hml hv
  obtain ⟨rfl, hsz, hC, hP, hK, hD0⟩ := hv
  have hx := B.exec
  have hb := B.bytes
  have hr := B.returns
  have hB : ∀ w ∈ tbB, w.before _ s = true := fun w h => (atoms_spec (ws := wM_add) B.pre) w (List.mem_cons_of_mem _ h)
  have hown : s.vm.findClass "TextureBankModel" = some m.cls := findClass_of_methodNamed B.named
  have hlocks := B.notSynchronized
  subst hsz
  have hD := hD0.self (sz := s.heap.size)
  generalize hAe : va_A [(m0, .inr (2, [.int th, .int (nI j), .ref a1, .ref a2, .ref a3, .ref a4, .int (nI (2 ^ k * 2 ^ k)), .ref a5, .ref a6, .int si])), (a1, .inl (cI, 8, .inl f1)), (a2, .inl (cI, 8, .inl f2)), (a3, .inl (cI, 8, .inl f3)), (a4, .inl (cI, 8192, .inl f4)), (a5, .inl (cI, 1024, .inl f5)), (a6, .inl (cI, 1024, .inl f6))] s.heap.size = A at hD ⊢
  have hA : ∀ q : Nat, s.heap.size ≤ q → A q := fun q h => by rw [← hAe]; exact Or.inr h
  have hS : va_S A s.heap s.heap [] := va_S.rf
  have hl := lv_entry ([.ref m0, .int (nI (2 ^ k)), .int w9, .int f9]) (n := 7) (Nat.le_of_ble_eq_true rfl)
  rw [lg_entry_eq]
  generalize (lg_sl ([.ref m0, .int (nI (2 ^ k)), .int w9, .int f9]) ++ List.replicate (7 - (lg_sl ([.ref m0, .int (nI (2 ^ k)), .int w9, .int f9])).length) Slot.unset).toArray = ls at hl ⊢
  have hl : lv_has ls 7 [(0, .ref m0), (1, .int (nI (2 ^ k))), (2, .int w9), (3, .int f9)] := hl
  obtain ⟨hp1, hp2, hp3, hp4, hp5⟩ := tt_pw k hk
  have hp6 : 4 ^ k ≤ 1024 := by rw [← hp4]; exact Nat.mul_le_mul hp1 hp1
  have loop : ∀ (n t : Nat) (H : Heap) (locs : List Loc), t ≤ 2 ^ k * 2 ^ k → 2 ^ k * 2 ^ k + 1 ≤ t + n → va_P D tbCl [(m0, .inr (2, [.int 0, .int (nI j), .ref a1, .ref a2, .ref a3, .ref a4, .int 0, .ref a5, .ref a6, .int si])), (a1, .inl (cI, 8, .inl (upd f1 j (nI (2 ^ k))))), (a2, .inl (cI, 8, .inl (upd f2 j w9))), (a3, .inl (cI, 8, .inl (upd f3 j f9))), (a4, .inl (cI, 8192, .inl (va_cpy f5 f4 0 (1024 * j) t))), (a5, .inl (cI, 1024, .inl f5)), (a6, .inl (cI, 1024, .inl f6))] H → va_D A [(m0, .inr (2, [.int 0, .int (nI j), .ref a1, .ref a2, .ref a3, .ref a4, .int 0, .ref a5, .ref a6, .int si])), (a1, .inl (cI, 8, .inl (upd f1 j (nI (2 ^ k))))), (a2, .inl (cI, 8, .inl (upd f2 j w9))), (a3, .inl (cI, 8, .inl (upd f3 j f9))), (a4, .inl (cI, 8192, .inl (va_cpy f5 f4 0 (1024 * j) t))), (a5, .inl (cI, 1024, .inl f5)), (a6, .inl (cI, 1024, .inl f6))] → va_S A s.heap H locs → ∀ ls : Array Slot, lv_has ls 7 [(6, .int (nI t)), (4, .int (nI (2 ^ k * 2 ^ k))), (0, .ref m0), (1, .int (nI (2 ^ k))), (2, .int w9), (3, .int f9)] → W p l e (headSpec wM_add (k2_rm 0 0)).room s m (#[.ref m0, .int (nI (2 ^ k)), .int w9, .int f9] : Array Value) below meth c H locs 0 0 (MQ below (wr_Qi (nI j) D A [(m0, .inr (2, [.int 0, .int (nI (j + 1)), .ref a1, .ref a2, .ref a3, .ref a4, .int 0, .ref a5, .ref a6, .int si])), (a1, .inl (cI, 8, .inl (upd f1 j (nI (2 ^ k))))), (a2, .inl (cI, 8, .inl (upd f2 j w9))), (a3, .inl (cI, 8, .inl (upd f3 j f9))), (a4, .inl (cI, 8192, .inl (va_cpy f5 f4 0 (1024 * j) (4 ^ k)))), (a5, .inl (cI, 1024, .inl f5)), (a6, .inl (cI, 1024, .inl f6))]) (#[.ref m0, .int (nI (2 ^ k)), .int w9, .int f9] : Array Value) s 0 0 A) (F0 m 131 ls []) := by
    intro n
    induction n with
    | zero => intro t H locs h1 h2; exact absurd h2 (by omega)
    | succ n ih =>
      intro t H locs ht hn hP hD hS ls hl
      refine lv_iload hx hb dM_add_131 (lv_at hl 0 rfl) ?_
      refine lv_iload hx hb dM_add_133 (lv_at hl 1 rfl) ?_
      refine lv_icmp_ge (tgt := 167) hx hb dM_add_135 (by decide) (fun c_1 => ?_) (fun c_1 => ?_)
      · refine lv_aload_n hx hb dM_add_167 rfl (lv_at hl 2 rfl) ?_
        refine lv_dup hx hb dM_add_168 rfl ?_
        refine va_get (D := D) (ci := 2) (v := .int (nI j)) (C := RM) (T := FM) (N := 10) hx hb hB inM hown hK hP 0 rfl rfl 1 (by decide) (hB _ wd_323) (fun _ h9 => h9) rfl dM_add_169 ?_
        refine lv_iconst (v := 1) hx hb dM_add_172 (by decide) ?_
        refine lv_iadd hx hb dM_add_173 ?_
        refine W.eq (g2 := F0 m 174 ls [.int (nI (j + 1)), .ref m0]) (by rw [nI_1]) ?_
        refine va_put (D := D) (ci := 2) (v := .int (nI (j + 1))) (ty := .int) (C := RM) (T := FM) (N := 10) hx hb hB inM tyM tyM_ok nmM hown hK hP hD hS 0 rfl rfl 1 (by decide) (hB _ wd_323) (fun _ h9 => h9) rfl (by decide +kernel) rfl rfl (Nat.le_of_ble_eq_true rfl) dM_add_174 (fun H locs hP hD hS => ?_)
        have hP : va_P D tbCl [(m0, .inr (2, [.int 0, .int (nI (j + 1)), .ref a1, .ref a2, .ref a3, .ref a4, .int 0, .ref a5, .ref a6, .int si])), (a1, .inl (cI, 8, .inl (upd f1 j (nI (2 ^ k))))), (a2, .inl (cI, 8, .inl (upd f2 j w9))), (a3, .inl (cI, 8, .inl (upd f3 j f9))), (a4, .inl (cI, 8192, .inl (va_cpy f5 f4 0 (1024 * j) t))), (a5, .inl (cI, 1024, .inl f5)), (a6, .inl (cI, 1024, .inl f6))] H := hP
        have hD : va_D A [(m0, .inr (2, [.int 0, .int (nI (j + 1)), .ref a1, .ref a2, .ref a3, .ref a4, .int 0, .ref a5, .ref a6, .int si])), (a1, .inl (cI, 8, .inl (upd f1 j (nI (2 ^ k))))), (a2, .inl (cI, 8, .inl (upd f2 j w9))), (a3, .inl (cI, 8, .inl (upd f3 j f9))), (a4, .inl (cI, 8192, .inl (va_cpy f5 f4 0 (1024 * j) t))), (a5, .inl (cI, 1024, .inl f5)), (a6, .inl (cI, 1024, .inl f6))] := hD
        refine lv_aload_n hx hb dM_add_177 rfl (lv_at hl 2 rfl) ?_
        refine va_get (D := D) (ci := 2) (v := .int (nI (j + 1))) (C := RM) (T := FM) (N := 10) hx hb hB inM hown hK hP 0 rfl rfl 1 (by decide) (hB _ wd_323) (fun _ h9 => h9) rfl dM_add_178 ?_
        refine lv_iconst (v := 1) hx hb dM_add_181 (by decide) ?_
        refine lv_isub hx hb dM_add_182 ?_
        have hte : t = 4 ^ k := by
          rcases Nat.lt_or_ge t (2 ^ k * 2 ^ k) with q | q
          · exact absurd c_1 (nI_ge q (by omega))
          · omega
        rw [hte] at hP
        exact W.iret hx hb hr (fun t ht hW => ⟨⟨_, (), rfl, nI_pred j, (by have h9 : va_P D tbCl [(m0, .inr (2, [.int 0, .int (nI (j + 1)), .ref a1, .ref a2, .ref a3, .ref a4, .int 0, .ref a5, .ref a6, .int si])), (a1, .inl (cI, 8, .inl (upd f1 j (nI (2 ^ k))))), (a2, .inl (cI, 8, .inl (upd f2 j w9))), (a3, .inl (cI, 8, .inl (upd f3 j f9))), (a4, .inl (cI, 8192, .inl (va_cpy f5 f4 0 (1024 * j) (4 ^ k)))), (a5, .inl (cI, 1024, .inl f5)), (a6, .inl (cI, 1024, .inl f6))] H := hP; rw [← ht] at h9; exact h9)⟩, hS.F ht⟩) hS.2.2 dM_add_183
      · have htl : t < 2 ^ k * 2 ^ k := by
          rcases Nat.lt_or_ge t (2 ^ k * 2 ^ k) with q | q
          · exact q
          · exact absurd (nI_le q (by omega)) c_1
        refine lv_aload_n hx hb dM_add_138 rfl (lv_at hl 2 rfl) ?_
        refine va_get (D := D) (ci := 2) (v := .ref a4) (C := RM) (T := FM) (N := 10) hx hb hB inM hown hK hP 0 rfl rfl 5 (by decide) (hB _ wd_327) (fun _ h9 => h9) rfl dM_add_139 ?_
        refine lv_sipush (v := 1024) hx hb dM_add_142 (by decide) ?_
        refine lv_aload_n hx hb dM_add_145 rfl (lv_at hl 2 rfl) ?_
        refine va_get (D := D) (ci := 2) (v := .int (nI j)) (C := RM) (T := FM) (N := 10) hx hb hB inM hown hK hP 0 rfl rfl 1 (by decide) (hB _ wd_323) (fun _ h9 => h9) rfl dM_add_146 ?_
        refine lv_imul hx hb dM_add_149 ?_
        refine lv_iload hx hb dM_add_150 (lv_at hl 0 rfl) ?_
        refine lv_iadd hx hb dM_add_152 ?_
        refine lv_aload_n hx hb dM_add_153 rfl (lv_at hl 2 rfl) ?_
        refine va_get (D := D) (ci := 2) (v := .ref a5) (C := RM) (T := FM) (N := 10) hx hb hB inM hown hK hP 0 rfl rfl 7 (by decide) (hB _ wd_329) (fun _ h9 => h9) rfl dM_add_154 ?_
        refine lv_iload hx hb dM_add_157 (lv_at hl 0 rfl) ?_
        refine va_iald hx hb hK hP 5 0 (f := f5) rfl rfl (i := nI t) (vp_in_nI (by omega) (by omega)) dM_add_159 ?_
        refine W.eq (g2 := F0 m 160 ls [.int (f5 t), .int ((1024 * (nI j)) + (nI t)), .ref a4]) (by rw [nI_clamp (by have := (by omega : t < 1024); omega)]) ?_
        refine W.eq (g2 := F0 m 160 ls [.int (f5 t), .int (nI (1024 * j + t)), .ref a4]) (by rw [show (1024 : Int32) = nI 1024 from rfl, pk_mul, nI_add]) ?_
        refine va_iast hx hb hK hP hD hS 4 0 rfl rfl (vp_in_nI (by omega) (by omega)) dM_add_160 (fun H locs hP hD hS => ?_)
        have hP : va_P D tbCl [(m0, .inr (2, [.int 0, .int (nI j), .ref a1, .ref a2, .ref a3, .ref a4, .int 0, .ref a5, .ref a6, .int si])), (a1, .inl (cI, 8, .inl (upd f1 j (nI (2 ^ k))))), (a2, .inl (cI, 8, .inl (upd f2 j w9))), (a3, .inl (cI, 8, .inl (upd f3 j f9))), (a4, .inl (cI, 8192, .inl (va_cpy f5 f4 0 (1024 * j) (t + 1)))), (a5, .inl (cI, 1024, .inl f5)), (a6, .inl (cI, 1024, .inl f6))] H := by
          have hP9 := hP
          rw [nI_clamp (by have := (by omega : 1024 * j + t < 8192); omega)] at hP9
          have hP9 : va_P D tbCl [(m0, .inr (2, [.int 0, .int (nI j), .ref a1, .ref a2, .ref a3, .ref a4, .int 0, .ref a5, .ref a6, .int si])), (a1, .inl (cI, 8, .inl (upd f1 j (nI (2 ^ k))))), (a2, .inl (cI, 8, .inl (upd f2 j w9))), (a3, .inl (cI, 8, .inl (upd f3 j f9))), (a4, .inl (cI, 8192, .inl (upd (va_cpy f5 f4 0 (1024 * j) t) (1024 * j + t) (f5 t)))), (a5, .inl (cI, 1024, .inl f5)), (a6, .inl (cI, 1024, .inl f6))] H := hP9
          rw [mm_cp1] at hP9
          exact hP9
        have hD : va_D A [(m0, .inr (2, [.int 0, .int (nI j), .ref a1, .ref a2, .ref a3, .ref a4, .int 0, .ref a5, .ref a6, .int si])), (a1, .inl (cI, 8, .inl (upd f1 j (nI (2 ^ k))))), (a2, .inl (cI, 8, .inl (upd f2 j w9))), (a3, .inl (cI, 8, .inl (upd f3 j f9))), (a4, .inl (cI, 8192, .inl (va_cpy f5 f4 0 (1024 * j) (t + 1)))), (a5, .inl (cI, 1024, .inl f5)), (a6, .inl (cI, 1024, .inl f6))] := wd_D hD rfl
        obtain ⟨i_2, ei_2⟩ : ∃ z9 : Int32, z9 = (nI t) + 1 := ⟨_, rfl⟩
        refine lv_iinc (v := i_2) (lv' := [(6, .int i_2), (4, .int (nI (2 ^ k * 2 ^ k))), (0, .ref m0), (1, .int (nI (2 ^ k))), (2, .int w9), (3, .int f9)]) hx hb dM_add_161 hl (k := 0) rfl (by rw [ei_2]; rfl) (by decide) rfl (fun ls hl => ?_)
        refine lv_goto (tgt := 131) hx hb dM_add_164 (by decide) ?_
        exact ih (t + 1) H locs (by omega) (by omega) hP hD hS ls (by have hl := lv_sub hl [0, 1, 2, 3, 4, 5] rfl; rw [ei_2, nI_1] at hl; exact hl)
  refine lv_aload_n hx hb dM_add_0 rfl (lv_at hl 0 rfl) ?_
  refine lv_iconst (v := 0) hx hb dM_add_1 (by decide) ?_
  refine va_put (D := D) (ci := 2) (v := .int 0) (ty := .int) (C := RM) (T := FM) (N := 10) hx hb hB inM tyM tyM_ok nmM hown hK hP hD hS 0 rfl rfl 0 (by decide) (hB _ wd_322) (fun _ h9 => h9) rfl (by decide +kernel) rfl rfl (Nat.le_of_ble_eq_true rfl) dM_add_2 (fun H locs hP hD hS => ?_)
  have hP : va_P D tbCl [(m0, .inr (2, [.int 0, .int (nI j), .ref a1, .ref a2, .ref a3, .ref a4, .int (nI (2 ^ k * 2 ^ k)), .ref a5, .ref a6, .int si])), (a1, .inl (cI, 8, .inl f1)), (a2, .inl (cI, 8, .inl f2)), (a3, .inl (cI, 8, .inl f3)), (a4, .inl (cI, 8192, .inl f4)), (a5, .inl (cI, 1024, .inl f5)), (a6, .inl (cI, 1024, .inl f6))] H := hP
  have hD : va_D A [(m0, .inr (2, [.int 0, .int (nI j), .ref a1, .ref a2, .ref a3, .ref a4, .int (nI (2 ^ k * 2 ^ k)), .ref a5, .ref a6, .int si])), (a1, .inl (cI, 8, .inl f1)), (a2, .inl (cI, 8, .inl f2)), (a3, .inl (cI, 8, .inl f3)), (a4, .inl (cI, 8192, .inl f4)), (a5, .inl (cI, 1024, .inl f5)), (a6, .inl (cI, 1024, .inl f6))] := hD
  refine lv_aload_n hx hb dM_add_5 rfl (lv_at hl 0 rfl) ?_
  refine va_get (D := D) (ci := 2) (v := .int (nI (2 ^ k * 2 ^ k))) (C := RM) (T := FM) (N := 10) hx hb hB inM hown hK hP 0 rfl rfl 6 (by decide) (hB _ wd_328) (fun _ h9 => h9) rfl dM_add_6 ?_
  refine lv_istore (lv' := [(4, .int (nI (2 ^ k * 2 ^ k))), (0, .ref m0), (1, .int (nI (2 ^ k))), (2, .int w9), (3, .int f9)]) hx hb dM_add_9 hl (by decide) rfl (fun ls hl => ?_)
  refine lv_aload_n hx hb dM_add_11 rfl (lv_at hl 1 rfl) ?_
  refine lv_iconst (v := 0) hx hb dM_add_12 (by decide) ?_
  refine va_put (D := D) (ci := 2) (v := .int 0) (ty := .int) (C := RM) (T := FM) (N := 10) hx hb hB inM tyM tyM_ok nmM hown hK hP hD hS 0 rfl rfl 6 (by decide) (hB _ wd_328) (fun _ h9 => h9) rfl (by decide +kernel) rfl rfl (Nat.le_of_ble_eq_true rfl) dM_add_13 (fun H locs hP hD hS => ?_)
  have hP : va_P D tbCl [(m0, .inr (2, [.int 0, .int (nI j), .ref a1, .ref a2, .ref a3, .ref a4, .int 0, .ref a5, .ref a6, .int si])), (a1, .inl (cI, 8, .inl f1)), (a2, .inl (cI, 8, .inl f2)), (a3, .inl (cI, 8, .inl f3)), (a4, .inl (cI, 8192, .inl f4)), (a5, .inl (cI, 1024, .inl f5)), (a6, .inl (cI, 1024, .inl f6))] H := hP
  have hD : va_D A [(m0, .inr (2, [.int 0, .int (nI j), .ref a1, .ref a2, .ref a3, .ref a4, .int 0, .ref a5, .ref a6, .int si])), (a1, .inl (cI, 8, .inl f1)), (a2, .inl (cI, 8, .inl f2)), (a3, .inl (cI, 8, .inl f3)), (a4, .inl (cI, 8192, .inl f4)), (a5, .inl (cI, 1024, .inl f5)), (a6, .inl (cI, 1024, .inl f6))] := hD
  have cont : W p l e (headSpec wM_add (k2_rm 0 0)).room s m (#[.ref m0, .int (nI (2 ^ k)), .int w9, .int f9] : Array Value) below meth c H locs 0 0 (MQ below (wr_Qi (nI j) D A [(m0, .inr (2, [.int 0, .int (nI (j + 1)), .ref a1, .ref a2, .ref a3, .ref a4, .int 0, .ref a5, .ref a6, .int si])), (a1, .inl (cI, 8, .inl (upd f1 j (nI (2 ^ k))))), (a2, .inl (cI, 8, .inl (upd f2 j w9))), (a3, .inl (cI, 8, .inl (upd f3 j f9))), (a4, .inl (cI, 8192, .inl (va_cpy f5 f4 0 (1024 * j) (4 ^ k)))), (a5, .inl (cI, 1024, .inl f5)), (a6, .inl (cI, 1024, .inl f6))]) (#[.ref m0, .int (nI (2 ^ k)), .int w9, .int f9] : Array Value) s 0 0 A) (F0 m 54 ls [.int 1]) := by
    refine lv_istore (lv' := [(5, .int 1), (4, .int (nI (2 ^ k * 2 ^ k))), (0, .ref m0), (1, .int (nI (2 ^ k))), (2, .int w9), (3, .int f9)]) hx hb dM_add_54 hl (by decide) rfl (fun ls hl => ?_)
    refine lv_aload_n hx hb dM_add_56 rfl (lv_at hl 2 rfl) ?_
    refine va_get (D := D) (ci := 2) (v := .int (nI j)) (C := RM) (T := FM) (N := 10) hx hb hB inM hown hK hP 0 rfl rfl 1 (by decide) (hB _ wd_323) (fun _ h9 => h9) rfl dM_add_57 ?_
    refine lv_bipush (v := 8) hx hb dM_add_60 (by decide) ?_
    refine lv_icmp_eq (tgt := 96) hx hb dM_add_62 (by decide) (fun c_1 => ?_) (fun c_1 => ?_)
    · exact absurd c_1 (fun h9 => absurd ((nI_eq (b := 8) (by omega) (by omega)).mp h9) (by omega))
    · refine lv_iload hx hb dM_add_65 (lv_at hl 0 rfl) ?_
      refine lv_if_eq (tgt := 96) hx hb dM_add_67 (by decide) (fun c_2 => absurd c_2 (by decide)) (fun c_2 => ?_)
      refine lv_iload_n hx hb dM_add_70 rfl (lv_at hl 4 rfl) ?_
      refine lv_if_lt (tgt := 96) hx hb dM_add_71 (by decide) (fun c_3 => ?_) (fun c_3 => ?_)
      · exact absurd c_3 h2
      · refine lv_iload_n hx hb dM_add_74 rfl (lv_at hl 4 rfl) ?_
        refine lv_iconst (v := 2) hx hb dM_add_75 (by decide) ?_
        refine lv_icmp_gt (tgt := 96) hx hb dM_add_76 (by decide) (fun c_4 => ?_) (fun c_4 => ?_)
        · exact absurd c_4 h3
        · refine lv_iload_n hx hb dM_add_79 rfl (lv_at hl 5 rfl) ?_
          refine lv_if_lt (tgt := 96) hx hb dM_add_80 (by decide) (fun c_5 => ?_) (fun c_5 => ?_)
          · exact absurd c_5 h4
          · refine lv_iload_n hx hb dM_add_83 rfl (lv_at hl 5 rfl) ?_
            refine lv_iconst (v := 1) hx hb dM_add_84 (by decide) ?_
            refine lv_icmp_gt (tgt := 96) hx hb dM_add_85 (by decide) (fun c_6 => ?_) (fun c_6 => ?_)
            · exact absurd c_6 h5
            · refine lv_iload hx hb dM_add_88 (lv_at hl 1 rfl) ?_
              refine lv_iload_n hx hb dM_add_90 rfl (lv_at hl 3 rfl) ?_
              refine lv_iload_n hx hb dM_add_91 rfl (lv_at hl 3 rfl) ?_
              refine lv_imul hx hb dM_add_92 ?_
              refine lv_icmp_eq (tgt := 98) hx hb dM_add_93 (by decide) (fun c_7 => ?_) (fun c_7 => ?_)
              · refine lv_aload_n hx hb dM_add_98 rfl (lv_at hl 2 rfl) ?_
                refine va_get (D := D) (ci := 2) (v := .ref a1) (C := RM) (T := FM) (N := 10) hx hb hB inM hown hK hP 0 rfl rfl 2 (by decide) (hB _ wd_324) (fun _ h9 => h9) rfl dM_add_99 ?_
                refine lv_aload_n hx hb dM_add_102 rfl (lv_at hl 2 rfl) ?_
                refine va_get (D := D) (ci := 2) (v := .int (nI j)) (C := RM) (T := FM) (N := 10) hx hb hB inM hown hK hP 0 rfl rfl 1 (by decide) (hB _ wd_323) (fun _ h9 => h9) rfl dM_add_103 ?_
                refine lv_iload_n hx hb dM_add_106 rfl (lv_at hl 3 rfl) ?_
                refine va_iast hx hb hK hP hD hS 1 0 rfl rfl (vp_in_nI (hj) (by omega)) dM_add_107 (fun H locs hP hD hS => ?_)
                have hP : va_P D tbCl [(m0, .inr (2, [.int 0, .int (nI j), .ref a1, .ref a2, .ref a3, .ref a4, .int 0, .ref a5, .ref a6, .int si])), (a1, .inl (cI, 8, .inl (upd f1 j (nI (2 ^ k))))), (a2, .inl (cI, 8, .inl f2)), (a3, .inl (cI, 8, .inl f3)), (a4, .inl (cI, 8192, .inl f4)), (a5, .inl (cI, 1024, .inl f5)), (a6, .inl (cI, 1024, .inl f6))] H := by
                  have hP9 := hP
                  rw [nI_clamp (by have := (hj : j < 8); omega)] at hP9
                  exact hP9
                have hD : va_D A [(m0, .inr (2, [.int 0, .int (nI j), .ref a1, .ref a2, .ref a3, .ref a4, .int 0, .ref a5, .ref a6, .int si])), (a1, .inl (cI, 8, .inl (upd f1 j (nI (2 ^ k))))), (a2, .inl (cI, 8, .inl f2)), (a3, .inl (cI, 8, .inl f3)), (a4, .inl (cI, 8192, .inl f4)), (a5, .inl (cI, 1024, .inl f5)), (a6, .inl (cI, 1024, .inl f6))] := wd_D hD rfl
                refine lv_aload_n hx hb dM_add_108 rfl (lv_at hl 2 rfl) ?_
                refine va_get (D := D) (ci := 2) (v := .ref a2) (C := RM) (T := FM) (N := 10) hx hb hB inM hown hK hP 0 rfl rfl 3 (by decide) (hB _ wd_325) (fun _ h9 => h9) rfl dM_add_109 ?_
                refine lv_aload_n hx hb dM_add_112 rfl (lv_at hl 2 rfl) ?_
                refine va_get (D := D) (ci := 2) (v := .int (nI j)) (C := RM) (T := FM) (N := 10) hx hb hB inM hown hK hP 0 rfl rfl 1 (by decide) (hB _ wd_323) (fun _ h9 => h9) rfl dM_add_113 ?_
                refine lv_iload_n hx hb dM_add_116 rfl (lv_at hl 4 rfl) ?_
                refine va_iast hx hb hK hP hD hS 2 0 rfl rfl (vp_in_nI (hj) (by omega)) dM_add_117 (fun H locs hP hD hS => ?_)
                have hP : va_P D tbCl [(m0, .inr (2, [.int 0, .int (nI j), .ref a1, .ref a2, .ref a3, .ref a4, .int 0, .ref a5, .ref a6, .int si])), (a1, .inl (cI, 8, .inl (upd f1 j (nI (2 ^ k))))), (a2, .inl (cI, 8, .inl (upd f2 j w9))), (a3, .inl (cI, 8, .inl f3)), (a4, .inl (cI, 8192, .inl f4)), (a5, .inl (cI, 1024, .inl f5)), (a6, .inl (cI, 1024, .inl f6))] H := by
                  have hP9 := hP
                  rw [nI_clamp (by have := (hj : j < 8); omega)] at hP9
                  exact hP9
                have hD : va_D A [(m0, .inr (2, [.int 0, .int (nI j), .ref a1, .ref a2, .ref a3, .ref a4, .int 0, .ref a5, .ref a6, .int si])), (a1, .inl (cI, 8, .inl (upd f1 j (nI (2 ^ k))))), (a2, .inl (cI, 8, .inl (upd f2 j w9))), (a3, .inl (cI, 8, .inl f3)), (a4, .inl (cI, 8192, .inl f4)), (a5, .inl (cI, 1024, .inl f5)), (a6, .inl (cI, 1024, .inl f6))] := wd_D hD rfl
                refine lv_aload_n hx hb dM_add_118 rfl (lv_at hl 2 rfl) ?_
                refine va_get (D := D) (ci := 2) (v := .ref a3) (C := RM) (T := FM) (N := 10) hx hb hB inM hown hK hP 0 rfl rfl 4 (by decide) (hB _ wd_326) (fun _ h9 => h9) rfl dM_add_119 ?_
                refine lv_aload_n hx hb dM_add_122 rfl (lv_at hl 2 rfl) ?_
                refine va_get (D := D) (ci := 2) (v := .int (nI j)) (C := RM) (T := FM) (N := 10) hx hb hB inM hown hK hP 0 rfl rfl 1 (by decide) (hB _ wd_323) (fun _ h9 => h9) rfl dM_add_123 ?_
                refine lv_iload_n hx hb dM_add_126 rfl (lv_at hl 5 rfl) ?_
                refine va_iast hx hb hK hP hD hS 3 0 rfl rfl (vp_in_nI (hj) (by omega)) dM_add_127 (fun H locs hP hD hS => ?_)
                have hP : va_P D tbCl [(m0, .inr (2, [.int 0, .int (nI j), .ref a1, .ref a2, .ref a3, .ref a4, .int 0, .ref a5, .ref a6, .int si])), (a1, .inl (cI, 8, .inl (upd f1 j (nI (2 ^ k))))), (a2, .inl (cI, 8, .inl (upd f2 j w9))), (a3, .inl (cI, 8, .inl (upd f3 j f9))), (a4, .inl (cI, 8192, .inl f4)), (a5, .inl (cI, 1024, .inl f5)), (a6, .inl (cI, 1024, .inl f6))] H := by
                  have hP9 := hP
                  rw [nI_clamp (by have := (hj : j < 8); omega)] at hP9
                  exact hP9
                have hD : va_D A [(m0, .inr (2, [.int 0, .int (nI j), .ref a1, .ref a2, .ref a3, .ref a4, .int 0, .ref a5, .ref a6, .int si])), (a1, .inl (cI, 8, .inl (upd f1 j (nI (2 ^ k))))), (a2, .inl (cI, 8, .inl (upd f2 j w9))), (a3, .inl (cI, 8, .inl (upd f3 j f9))), (a4, .inl (cI, 8192, .inl f4)), (a5, .inl (cI, 1024, .inl f5)), (a6, .inl (cI, 1024, .inl f6))] := wd_D hD rfl
                refine lv_iconst (v := 0) hx hb dM_add_128 (by decide) ?_
                refine lv_istore (lv' := [(6, .int 0), (5, .int 1), (4, .int (nI (2 ^ k * 2 ^ k))), (0, .ref m0), (1, .int (nI (2 ^ k))), (2, .int w9), (3, .int f9)]) hx hb dM_add_129 hl (by decide) rfl (fun ls hl => ?_)
                exact loop (2 ^ k * 2 ^ k + 1) 0 H locs (Nat.zero_le _) (by omega) (by rw [mm_cp0]; exact hP) (wd_D hD rfl) hS ls (lv_sub hl [0, 2, 3, 4, 5, 6] rfl)
              · exact absurd (pk_mul _ _).symm c_7
  refine lv_iload_n hx hb dM_add_16 rfl (lv_at hl 2 rfl) ?_
  refine lv_iconst (v := 1) hx hb dM_add_17 (by decide) ?_
  refine lv_icmp_eq (tgt := 49) hx hb dM_add_18 (by decide) (fun c_8 => ?_) (fun c_8 => ?_)
  · refine lv_iconst (v := 1) hx hb dM_add_49 (by decide) ?_
    refine lv_goto (tgt := 54) hx hb dM_add_50 (by decide) ?_
    exact cont
  · refine lv_iload_n hx hb dM_add_21 rfl (lv_at hl 2 rfl) ?_
    refine lv_iconst (v := 2) hx hb dM_add_22 (by decide) ?_
    refine lv_icmp_eq (tgt := 49) hx hb dM_add_23 (by decide) (fun c_9 => ?_) (fun c_9 => ?_)
    · refine lv_iconst (v := 1) hx hb dM_add_49 (by decide) ?_
      refine lv_goto (tgt := 54) hx hb dM_add_50 (by decide) ?_
      exact cont
    · refine lv_iload_n hx hb dM_add_26 rfl (lv_at hl 2 rfl) ?_
      refine lv_iconst (v := 4) hx hb dM_add_27 (by decide) ?_
      refine lv_icmp_eq (tgt := 49) hx hb dM_add_28 (by decide) (fun c_10 => ?_) (fun c_10 => ?_)
      · refine lv_iconst (v := 1) hx hb dM_add_49 (by decide) ?_
        refine lv_goto (tgt := 54) hx hb dM_add_50 (by decide) ?_
        exact cont
      · refine lv_iload_n hx hb dM_add_31 rfl (lv_at hl 2 rfl) ?_
        refine lv_bipush (v := 8) hx hb dM_add_32 (by decide) ?_
        refine lv_icmp_eq (tgt := 49) hx hb dM_add_34 (by decide) (fun c_11 => ?_) (fun c_11 => ?_)
        · refine lv_iconst (v := 1) hx hb dM_add_49 (by decide) ?_
          refine lv_goto (tgt := 54) hx hb dM_add_50 (by decide) ?_
          exact cont
        · refine lv_iload_n hx hb dM_add_37 rfl (lv_at hl 2 rfl) ?_
          refine lv_bipush (v := 16) hx hb dM_add_38 (by decide) ?_
          refine lv_icmp_eq (tgt := 49) hx hb dM_add_40 (by decide) (fun c_12 => ?_) (fun c_12 => ?_)
          · refine lv_iconst (v := 1) hx hb dM_add_49 (by decide) ?_
            refine lv_goto (tgt := 54) hx hb dM_add_50 (by decide) ?_
            exact cont
          · refine lv_iload_n hx hb dM_add_43 rfl (lv_at hl 2 rfl) ?_
            refine lv_bipush (v := 32) hx hb dM_add_44 (by decide) ?_
            refine lv_icmp_ne (tgt := 53) hx hb dM_add_46 (by decide) (fun c_13 => ?_) (fun c_13 => ?_)
            · exact absurd his (fun h9 => by rcases h9 with h9 | h9 | h9 | h9 | h9 | h9; exact c_8 h9; exact c_9 h9; exact c_10 h9; exact c_11 h9; exact c_12 h9; exact c_13 h9)
            · refine lv_iconst (v := 1) hx hb dM_add_49 (by decide) ?_
              refine lv_goto (tgt := 54) hx hb dM_add_50 (by decide) ?_
              exact cont
