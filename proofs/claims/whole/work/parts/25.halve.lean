def mm_sum (c1 c2 c3 c4 w : Int32) : Int32 := (((0 + mm_part c1 w) + mm_part c2 w) + mm_part c3 w) + mm_part c4 w
def mm_mean (c1 c2 c3 c4 : Int32) : Int32 := ((0 + mm_sum c1 c2 c3 c4 0 / 4) * 256 + mm_sum c1 c2 c3 c4 1 / 4) * 256 + mm_sum c1 c2 c3 c4 2 / 4
def mm_hv (f : Nat → Int32) (h i : Nat) : Int32 := mm_mean (f ((2 * (i / 2 ^ h) + 0) * 2 ^ (h + 1) + 2 * (i % 2 ^ h) + 0)) (f ((2 * (i / 2 ^ h) + 0) * 2 ^ (h + 1) + 2 * (i % 2 ^ h) + 1)) (f ((2 * (i / 2 ^ h) + 1) * 2 ^ (h + 1) + 2 * (i % 2 ^ h) + 0)) (f ((2 * (i / 2 ^ h) + 1) * 2 ^ (h + 1) + 2 * (i % 2 ^ h) + 1))
/-- the first n of the half level made, in the place of what was there -/
def mm_hp (f : Nat → Int32) (h n : Nat) : Nat → Int32 := fun i => if i < n then mm_hv f h i else f i
theorem mm_hp0 (f : Nat → Int32) (h : Nat) : mm_hp f h 0 = f := by
  funext i
  unfold mm_hp
  rw [if_neg (by omega)]
theorem mm_hp1 (f : Nat → Int32) (h n : Nat) : upd (mm_hp f h n) n (mm_hv f h n) = mm_hp f h (n + 1) := by
  funext i
  unfold upd mm_hp
  by_cases h9 : i = n
  · subst h9
    rw [if_pos rfl, if_pos (by omega)]
  · rw [if_neg h9]
    by_cases h2 : i < n
    · rw [if_pos h2, if_pos (by omega)]
    · rw [if_neg h2, if_neg (by omega)]
theorem mm_ix (y x S a b : Nat) : ((2 * nI y + nI a) * nI S + 2 * nI x) + nI b = nI ((2 * y + a) * S + 2 * x + b) := by
  rw [show (2 : Int32) = nI 2 from rfl, pk_mul, nI_add, pk_mul, pk_mul, nI_add, nI_add]
theorem mm_nl {h x y : Nat} (hh : h ≤ 4) (hx : x < 2 ^ h) (hy : y < 2 ^ h) : y * 2 ^ h + x < 1024 := by
  obtain ⟨h1, h2, h3, h4, h5⟩ := tt_pw h (by omega)
  have hyk : y * 2 ^ h + 2 ^ h ≤ 4 ^ h := by
    have : (y + 1) * 2 ^ h ≤ 2 ^ h * 2 ^ h := Nat.mul_le_mul_right _ hy
    rw [Nat.succ_mul, h4] at this
    exact this
  have : 4 ^ h ≤ 4 ^ 4 := Nat.pow_le_pow_right (by decide) hh
  omega
theorem mm_ixl {h x y a b : Nat} (hh : h ≤ 4) (hx : x < 2 ^ h) (hy : y < 2 ^ h) (ha : a < 2) (hb : b < 2) : (2 * y + a) * 2 ^ (h + 1) + 2 * x + b < 1024 := by
  obtain ⟨h1, h2, h3, h4, h5⟩ := tt_pw (h + 1) (by omega)
  have e : 2 ^ (h + 1) = 2 * 2 ^ h := by rw [Nat.pow_succ, Nat.mul_comm]
  have hyk : (2 * y + a + 1) * 2 ^ (h + 1) ≤ 2 ^ (h + 1) * 2 ^ (h + 1) := Nat.mul_le_mul_right _ (by omega)
  rw [Nat.succ_mul, h4] at hyk
  have : 4 ^ (h + 1) ≤ 4 ^ 5 := Nat.pow_le_pow_right (by decide) (by omega)
  omega
theorem mm_ge {h x y a b : Nat} (hh : h ≤ 4) : ¬ (2 * y + a) * 2 ^ (h + 1) + 2 * x + b < y * 2 ^ h + x := by
  have e : 2 ^ (h + 1) = 2 * 2 ^ h := by rw [Nat.pow_succ, Nat.mul_comm]
  have : y * 2 ^ h ≤ (2 * y + a) * 2 ^ (h + 1) := Nat.mul_le_mul (by omega) (by omega)
  omega
theorem mm_hvs (f : Nat → Int32) {h x y : Nat} (hh : h ≤ 4) (hx : x < 2 ^ h) (hy : y < 2 ^ h) : ((0 + ((((0 + mm_part (mm_hp f h (y * 2 ^ h + x) ((2 * y + 0) * 2 ^ (h + 1) + 2 * x + 0)) 0) + mm_part (mm_hp f h (y * 2 ^ h + x) ((2 * y + 0) * 2 ^ (h + 1) + 2 * x + 1)) 0) + mm_part (mm_hp f h (y * 2 ^ h + x) ((2 * y + 1) * 2 ^ (h + 1) + 2 * x + 0)) 0) + mm_part (mm_hp f h (y * 2 ^ h + x) ((2 * y + 1) * 2 ^ (h + 1) + 2 * x + 1)) 0) / 4) * 256 + ((((0 + mm_part (mm_hp f h (y * 2 ^ h + x) ((2 * y + 0) * 2 ^ (h + 1) + 2 * x + 0)) 1) + mm_part (mm_hp f h (y * 2 ^ h + x) ((2 * y + 0) * 2 ^ (h + 1) + 2 * x + 1)) 1) + mm_part (mm_hp f h (y * 2 ^ h + x) ((2 * y + 1) * 2 ^ (h + 1) + 2 * x + 0)) 1) + mm_part (mm_hp f h (y * 2 ^ h + x) ((2 * y + 1) * 2 ^ (h + 1) + 2 * x + 1)) 1) / 4) * 256 + ((((0 + mm_part (mm_hp f h (y * 2 ^ h + x) ((2 * y + 0) * 2 ^ (h + 1) + 2 * x + 0)) 2) + mm_part (mm_hp f h (y * 2 ^ h + x) ((2 * y + 0) * 2 ^ (h + 1) + 2 * x + 1)) 2) + mm_part (mm_hp f h (y * 2 ^ h + x) ((2 * y + 1) * 2 ^ (h + 1) + 2 * x + 0)) 2) + mm_part (mm_hp f h (y * 2 ^ h + x) ((2 * y + 1) * 2 ^ (h + 1) + 2 * x + 1)) 2) / 4 = mm_hv f h (y * 2 ^ h + x) := by
  have e1 : (y * 2 ^ h + x) % 2 ^ h = x := by rw [Nat.mul_comm, Nat.mul_add_mod, Nat.mod_eq_of_lt hx]
  have e2 : (y * 2 ^ h + x) / 2 ^ h = y := by rw [Nat.mul_comm, Nat.mul_add_div (by omega), Nat.div_eq_of_lt hx, Nat.add_zero]
  have r : ∀ a b : Nat, mm_hp f h (y * 2 ^ h + x) ((2 * y + a) * 2 ^ (h + 1) + 2 * x + b) = f ((2 * y + a) * 2 ^ (h + 1) + 2 * x + b) := fun a b => by
    unfold mm_hp
    rw [if_neg (mm_ge hh)]
  rw [r 0 0, r 0 1, r 1 0, r 1 1]
  unfold mm_hv
  rw [e1, e2]
  rfl
set_option maxHeartbeats 4000000 in
set_option maxRecDepth 100000 in
theorem kM_halve (l : Launch) (D : va_G) (sz : Nat) (cI : ClassId) (m0 a1 a2 a3 a4 a5 a6 : Nat) (th mn zz : Int32) (f1 f2 f3 f4 f5 f6 : Nat → Int32) (h : Nat) (hh : h ≤ 4) : Met l yM_halve wM_halve (k2_rm 1 21) (wr_P [.ref m0] sz D [(cI, .int)] [(m0, .inr (2, [.int th, .int mn, .ref a1, .ref a2, .ref a3, .ref a4, .int zz, .ref a5, .ref a6, .int (nI (2 ^ (h + 1)))])), (a1, .inl (cI, 8, .inl f1)), (a2, .inl (cI, 8, .inl f2)), (a3, .inl (cI, 8, .inl f3)), (a4, .inl (cI, 8192, .inl f4)), (a5, .inl (cI, 1024, .inl f5)), (a6, .inl (cI, 1024, .inl f6))]) (wr_Qv D (va_A [(m0, .inr (2, [.int th, .int mn, .ref a1, .ref a2, .ref a3, .ref a4, .int zz, .ref a5, .ref a6, .int (nI (2 ^ (h + 1)))])), (a1, .inl (cI, 8, .inl f1)), (a2, .inl (cI, 8, .inl f2)), (a3, .inl (cI, 8, .inl f3)), (a4, .inl (cI, 8192, .inl f4)), (a5, .inl (cI, 1024, .inl f5)), (a6, .inl (cI, 1024, .inl f6))] sz) [(m0, .inr (2, [.int th, .int mn, .ref a1, .ref a2, .ref a3, .ref a4, .int zz, .ref a5, .ref a6, .int (nI (2 ^ h))])), (a1, .inl (cI, 8, .inl f1)), (a2, .inl (cI, 8, .inl f2)), (a3, .inl (cI, 8, .inl f3)), (a4, .inl (cI, 8192, .inl f4)), (a5, .inl (cI, 1024, .inl f5)), (a6, .inl (cI, 1024, .inl (mm_hp f6 h (4 ^ h))))]) 0 0 (va_A [(m0, .inr (2, [.int th, .int mn, .ref a1, .ref a2, .ref a3, .ref a4, .int zz, .ref a5, .ref a6, .int (nI (2 ^ (h + 1)))])), (a1, .inl (cI, 8, .inl f1)), (a2, .inl (cI, 8, .inl f2)), (a3, .inl (cI, 8, .inl f3)), (a4, .inl (cI, 8192, .inl f4)), (a5, .inl (cI, 1024, .inl f5)), (a6, .inl (cI, 1024, .inl f6))] sz) := by
  refine Met.ofW (cc := cM_halve) (maxL := 8) (ret := none) (by decide) rfl ?_
  intro p e s m args below meth c s₁ B hml hv
  obtain ⟨rfl, hsz, hC, hP, hK, hD0⟩ := hv
  have hx := B.exec
  have hb := B.bytes
  have hr := B.returns
  have hB : ∀ w ∈ tbB, w.before _ s = true := fun w h => (atoms_spec (ws := wM_halve) B.pre) w (List.mem_cons_of_mem _ h)
  have hown : s.vm.findClass "TextureBankModel" = some m.cls := findClass_of_methodNamed B.named
  have hlocks := B.notSynchronized
  subst hsz
  have hD := hD0.self (sz := s.heap.size)
  generalize hAe : va_A [(m0, .inr (2, [.int th, .int mn, .ref a1, .ref a2, .ref a3, .ref a4, .int zz, .ref a5, .ref a6, .int (nI (2 ^ (h + 1)))])), (a1, .inl (cI, 8, .inl f1)), (a2, .inl (cI, 8, .inl f2)), (a3, .inl (cI, 8, .inl f3)), (a4, .inl (cI, 8192, .inl f4)), (a5, .inl (cI, 1024, .inl f5)), (a6, .inl (cI, 1024, .inl f6))] s.heap.size = A at hD ⊢
  have hA : ∀ q : Nat, s.heap.size ≤ q → A q := fun q h => by rw [← hAe]; exact Or.inr h
  have hS : va_S A s.heap s.heap [] := va_S.rf
  have hl := lv_entry ([.ref m0]) (n := 8) (Nat.le_of_ble_eq_true rfl)
  rw [lg_entry_eq]
  generalize (lg_sl ([.ref m0]) ++ List.replicate (8 - (lg_sl ([.ref m0])).length) Slot.unset).toArray = ls at hl ⊢
  have hl : lv_has ls 8 [(0, .ref m0)] := hl
  obtain ⟨hp1, hp2, hp3, hp4, hp5⟩ := tt_pw h (by omega)
  have loop : ∀ (ny y : Nat) (H : Heap) (locs : List Loc), y ≤ 2 ^ h → 2 ^ h + 1 ≤ y + ny → va_P D tbCl [(m0, .inr (2, [.int th, .int mn, .ref a1, .ref a2, .ref a3, .ref a4, .int zz, .ref a5, .ref a6, .int (nI (2 ^ (h + 1)))])), (a1, .inl (cI, 8, .inl f1)), (a2, .inl (cI, 8, .inl f2)), (a3, .inl (cI, 8, .inl f3)), (a4, .inl (cI, 8192, .inl f4)), (a5, .inl (cI, 1024, .inl f5)), (a6, .inl (cI, 1024, .inl (mm_hp f6 h (y * 2 ^ h))))] H → va_D A [(m0, .inr (2, [.int th, .int mn, .ref a1, .ref a2, .ref a3, .ref a4, .int zz, .ref a5, .ref a6, .int (nI (2 ^ (h + 1)))])), (a1, .inl (cI, 8, .inl f1)), (a2, .inl (cI, 8, .inl f2)), (a3, .inl (cI, 8, .inl f3)), (a4, .inl (cI, 8192, .inl f4)), (a5, .inl (cI, 1024, .inl f5)), (a6, .inl (cI, 1024, .inl (mm_hp f6 h (y * 2 ^ h))))] → va_S A s.heap H locs → ∀ ls : Array Slot, lv_has ls 8 [(2, .int (nI y)), (1, .int (nI (2 ^ h))), (0, .ref m0)] → W p l e (headSpec wM_halve (k2_rm 1 21)).room s m (#[.ref m0] : Array Value) below meth c H locs 0 0 (MQ below (wr_Qv D A [(m0, .inr (2, [.int th, .int mn, .ref a1, .ref a2, .ref a3, .ref a4, .int zz, .ref a5, .ref a6, .int (nI (2 ^ h))])), (a1, .inl (cI, 8, .inl f1)), (a2, .inl (cI, 8, .inl f2)), (a3, .inl (cI, 8, .inl f3)), (a4, .inl (cI, 8192, .inl f4)), (a5, .inl (cI, 1024, .inl f5)), (a6, .inl (cI, 1024, .inl (mm_hp f6 h (4 ^ h))))]) (#[.ref m0] : Array Value) s 0 0 A) (F0 m 9 ls []) := by
    intro ny
    induction ny with
    | zero => intro y H locs h1 h2; exact absurd h2 (by omega)
    | succ ny ihy =>
      intro y H locs hyy hny hP hD hS ls hl
      refine lv_iload_n hx hb dM_halve_9 rfl (lv_at hl 0 rfl) ?_
      refine lv_iload_n hx hb dM_halve_10 rfl (lv_at hl 1 rfl) ?_
      refine lv_icmp_ge (tgt := 131) hx hb dM_halve_11 (by decide) (fun c_1 => ?_) (fun c_1 => ?_)
      · have hye : y = 2 ^ h := by
          rcases Nat.lt_or_ge y (2 ^ h) with q | q
          · exact absurd c_1 (nI_ge q (by omega))
          · omega
        rw [show y * 2 ^ h = 4 ^ h by rw [hye, hp4]] at hP hD
        refine lv_aload_n hx hb dM_halve_131 rfl (lv_at hl 2 rfl) ?_
        refine lv_iload_n hx hb dM_halve_132 rfl (lv_at hl 1 rfl) ?_
        refine va_put (D := D) (ci := 2) (v := .int (nI (2 ^ h))) (ty := .int) (C := RM) (T := FM) (N := 10) hx hb hB inM tyM tyM_ok nmM hown hK hP hD hS 0 rfl rfl 9 (by decide) (hB _ wd_331) (fun _ h9 => h9) rfl (by decide +kernel) rfl rfl (Nat.le_of_ble_eq_true rfl) dM_halve_133 (fun H locs hP hD hS => ?_)
        have hP : va_P D tbCl [(m0, .inr (2, [.int th, .int mn, .ref a1, .ref a2, .ref a3, .ref a4, .int zz, .ref a5, .ref a6, .int (nI (2 ^ h))])), (a1, .inl (cI, 8, .inl f1)), (a2, .inl (cI, 8, .inl f2)), (a3, .inl (cI, 8, .inl f3)), (a4, .inl (cI, 8192, .inl f4)), (a5, .inl (cI, 1024, .inl f5)), (a6, .inl (cI, 1024, .inl (mm_hp f6 h (4 ^ h))))] H := hP
        have hD : va_D A [(m0, .inr (2, [.int th, .int mn, .ref a1, .ref a2, .ref a3, .ref a4, .int zz, .ref a5, .ref a6, .int (nI (2 ^ h))])), (a1, .inl (cI, 8, .inl f1)), (a2, .inl (cI, 8, .inl f2)), (a3, .inl (cI, 8, .inl f3)), (a4, .inl (cI, 8192, .inl f4)), (a5, .inl (cI, 1024, .inl f5)), (a6, .inl (cI, 1024, .inl (mm_hp f6 h (4 ^ h))))] := hD
        exact W.vret hx hb hr (fun t ht hW => ⟨⟨(), rfl, trivial, (by have h9 := hP; rw [← ht] at h9; exact h9)⟩, hS.F ht⟩) hS.2.2 dM_halve_136
      · refine lv_iconst (v := 0) hx hb dM_halve_14 (by decide) ?_
        refine lv_istore_n (lv' := [(3, .int 0), (2, .int (nI y)), (1, .int (nI (2 ^ h))), (0, .ref m0)]) hx hb dM_halve_15 rfl hl (by decide) rfl (fun ls hl => ?_)
        have hyl : y < 2 ^ h := by
          rcases Nat.lt_or_ge y (2 ^ h) with q | q
          · exact q
          · exact absurd (nI_le q (by omega)) c_1
        have inner : ∀ (nx x : Nat) (H : Heap) (locs : List Loc), x ≤ 2 ^ h → 2 ^ h + 1 ≤ x + nx → va_P D tbCl [(m0, .inr (2, [.int th, .int mn, .ref a1, .ref a2, .ref a3, .ref a4, .int zz, .ref a5, .ref a6, .int (nI (2 ^ (h + 1)))])), (a1, .inl (cI, 8, .inl f1)), (a2, .inl (cI, 8, .inl f2)), (a3, .inl (cI, 8, .inl f3)), (a4, .inl (cI, 8192, .inl f4)), (a5, .inl (cI, 1024, .inl f5)), (a6, .inl (cI, 1024, .inl (mm_hp f6 h (y * 2 ^ h + x))))] H → va_D A [(m0, .inr (2, [.int th, .int mn, .ref a1, .ref a2, .ref a3, .ref a4, .int zz, .ref a5, .ref a6, .int (nI (2 ^ (h + 1)))])), (a1, .inl (cI, 8, .inl f1)), (a2, .inl (cI, 8, .inl f2)), (a3, .inl (cI, 8, .inl f3)), (a4, .inl (cI, 8192, .inl f4)), (a5, .inl (cI, 1024, .inl f5)), (a6, .inl (cI, 1024, .inl (mm_hp f6 h (y * 2 ^ h + x))))] → va_S A s.heap H locs → ∀ ls : Array Slot, lv_has ls 8 [(3, .int (nI x)), (2, .int (nI y)), (1, .int (nI (2 ^ h))), (0, .ref m0)] → W p l e (headSpec wM_halve (k2_rm 1 21)).room s m (#[.ref m0] : Array Value) below meth c H locs 0 0 (MQ below (wr_Qv D A [(m0, .inr (2, [.int th, .int mn, .ref a1, .ref a2, .ref a3, .ref a4, .int zz, .ref a5, .ref a6, .int (nI (2 ^ h))])), (a1, .inl (cI, 8, .inl f1)), (a2, .inl (cI, 8, .inl f2)), (a3, .inl (cI, 8, .inl f3)), (a4, .inl (cI, 8192, .inl f4)), (a5, .inl (cI, 1024, .inl f5)), (a6, .inl (cI, 1024, .inl (mm_hp f6 h (4 ^ h))))]) (#[.ref m0] : Array Value) s 0 0 A) (F0 m 16 ls []) := by
          intro nx
          induction nx with
          | zero => intro x H locs h1 h2; exact absurd h2 (by omega)
          | succ nx ihx =>
            intro x H locs hxx hnx hP hD hS ls hl
            refine lv_iload_n hx hb dM_halve_16 rfl (lv_at hl 0 rfl) ?_
            refine lv_iload_n hx hb dM_halve_17 rfl (lv_at hl 2 rfl) ?_
            refine lv_icmp_ge (tgt := 125) hx hb dM_halve_18 (by decide) (fun c_1 => ?_) (fun c_1 => ?_)
            · obtain ⟨i_2, ei_2⟩ : ∃ z9 : Int32, z9 = (nI y) + 1 := ⟨_, rfl⟩
              refine lv_iinc (v := i_2) (lv' := [(2, .int i_2), (3, .int (nI x)), (1, .int (nI (2 ^ h))), (0, .ref m0)]) hx hb dM_halve_125 hl (k := 1) rfl (by rw [ei_2]; rfl) (by decide) rfl (fun ls hl => ?_)
              refine lv_goto (tgt := 9) hx hb dM_halve_128 (by decide) ?_
              have hxe : x = 2 ^ h := by
                rcases Nat.lt_or_ge x (2 ^ h) with q | q
                · exact absurd c_1 (nI_ge q (by omega))
                · omega
              have e9 : y * 2 ^ h + x = (y + 1) * 2 ^ h := by rw [hxe, Nat.succ_mul]
              rw [e9] at hP hD
              exact ihy (y + 1) H locs (by omega) (by omega) hP hD hS ls (by have hl := lv_sub hl [0, 2, 3] rfl; rw [ei_2, nI_1] at hl; exact hl)
            · have hxl : x < 2 ^ h := by
                rcases Nat.lt_or_ge x (2 ^ h) with q | q
                · exact q
                · exact absurd (nI_le q (by omega)) c_1
              have hix : ∀ a b : Nat, a < 2 → b < 2 → (2 * y + a) * 2 ^ (h + 1) + 2 * x + b < 1024 := fun a b ha hb => mm_ixl hh hxl hyl ha hb
              refine lv_iconst (v := 0) hx hb dM_halve_21 (by decide) ?_
              refine lv_istore (lv' := [(4, .int 0), (3, .int (nI x)), (2, .int (nI y)), (1, .int (nI (2 ^ h))), (0, .ref m0)]) hx hb dM_halve_22 hl (by decide) rfl (fun ls hl => ?_)
              refine lv_iconst (v := 0) hx hb dM_halve_24 (by decide) ?_
              refine lv_istore (lv' := [(5, .int 0), (4, .int 0), (3, .int (nI x)), (2, .int (nI y)), (1, .int (nI (2 ^ h))), (0, .ref m0)]) hx hb dM_halve_25 hl (by decide) rfl (fun ls hl => ?_)
              refine lv_iload hx hb dM_halve_27 (lv_at hl 0 rfl) ?_
              refine lv_iconst (v := 3) hx hb dM_halve_29 (by decide) ?_
              refine lv_icmp_ge (tgt := 107) hx hb dM_halve_30 (by decide) (fun c_3 => absurd c_3 (by decide)) (fun c_3 => ?_)
              refine lv_iconst (v := 0) hx hb dM_halve_33 (by decide) ?_
              refine lv_istore (lv' := [(6, .int 0), (5, .int 0), (4, .int 0), (3, .int (nI x)), (2, .int (nI y)), (1, .int (nI (2 ^ h))), (0, .ref m0)]) hx hb dM_halve_34 hl (by decide) rfl (fun ls hl => ?_)
              refine lv_iconst (v := 0) hx hb dM_halve_36 (by decide) ?_
              refine lv_istore (lv' := [(7, .int 0), (6, .int 0), (5, .int 0), (4, .int 0), (3, .int (nI x)), (2, .int (nI y)), (1, .int (nI (2 ^ h))), (0, .ref m0)]) hx hb dM_halve_37 hl (by decide) rfl (fun ls hl => ?_)
              refine lv_iload hx hb dM_halve_39 (lv_at hl 0 rfl) ?_
              refine lv_iconst (v := 4) hx hb dM_halve_41 (by decide) ?_
              refine lv_icmp_ge (tgt := 88) hx hb dM_halve_42 (by decide) (fun c_4 => absurd c_4 (by decide)) (fun c_4 => ?_)
              refine lv_iload hx hb dM_halve_45 (lv_at hl 1 rfl) ?_
              refine lv_aload_n hx hb dM_halve_47 rfl (lv_at hl 7 rfl) ?_
              refine va_get (D := D) (ci := 2) (v := .ref a6) (C := RM) (T := FM) (N := 10) hx hb hB inM hown hK hP 0 rfl rfl 8 (by decide) (hB _ wd_330) (fun _ h9 => h9) rfl dM_halve_48 ?_
              refine lv_iconst (v := 2) hx hb dM_halve_51 (by decide) ?_
              refine lv_iload_n hx hb dM_halve_52 rfl (lv_at hl 5 rfl) ?_
              refine lv_imul hx hb dM_halve_53 ?_
              refine lv_iload hx hb dM_halve_54 (lv_at hl 0 rfl) ?_
              refine lv_iconst (v := 2) hx hb dM_halve_56 (by decide) ?_
              refine lv_idiv hx hb dM_halve_57 (by decide) ?_
              refine W.eq (g2 := F0 m 58 ls [.int 0, .int (2 * (nI y)), .ref a6, .int 0]) rfl ?_
              refine lv_iadd hx hb dM_halve_58 ?_
              refine lv_aload_n hx hb dM_halve_59 rfl (lv_at hl 7 rfl) ?_
              refine va_get (D := D) (ci := 2) (v := .int (nI (2 ^ (h + 1)))) (C := RM) (T := FM) (N := 10) hx hb hB inM hown hK hP 0 rfl rfl 9 (by decide) (hB _ wd_331) (fun _ h9 => h9) rfl dM_halve_60 ?_
              refine lv_imul hx hb dM_halve_63 ?_
              refine lv_iconst (v := 2) hx hb dM_halve_64 (by decide) ?_
              refine lv_iload_n hx hb dM_halve_65 rfl (lv_at hl 4 rfl) ?_
              refine lv_imul hx hb dM_halve_66 ?_
              refine lv_iadd hx hb dM_halve_67 ?_
              refine lv_iload hx hb dM_halve_68 (lv_at hl 0 rfl) ?_
              refine lv_iconst (v := 2) hx hb dM_halve_70 (by decide) ?_
              refine lv_irem hx hb dM_halve_71 (by decide) ?_
              refine W.eq (g2 := F0 m 72 ls [.int 0, .int ((((2 * (nI y)) + 0) * (nI (2 ^ (h + 1)))) + (2 * (nI x))), .ref a6, .int 0]) rfl ?_
              refine lv_iadd hx hb dM_halve_72 ?_
              refine W.eq (g2 := F0 m 73 ls [.int (nI ((2 * y + 0) * 2 ^ (h + 1) + 2 * x + 0)), .ref a6, .int 0]) (by exact congrArg (fun z => F0 m 73 ls (.int z :: .ref a6 :: [.int 0])) (mm_ix y x (2 ^ (h + 1)) 0 0)) ?_
              refine va_iald hx hb hK hP 6 0 (f := (mm_hp f6 h (y * 2 ^ h + x))) rfl rfl (i := nI ((2 * y + 0) * 2 ^ (h + 1) + 2 * x + 0)) (vp_in_nI (hix 0 0 (by decide) (by decide)) (by omega)) dM_halve_73 ?_
              refine W.eq (g2 := F0 m 74 ls [.int ((mm_hp f6 h (y * 2 ^ h + x)) ((2 * y + 0) * 2 ^ (h + 1) + 2 * x + 0)), .int 0]) (by rw [nI_clamp (by have := (hix 0 0 (by decide) (by decide) : (2 * y + 0) * 2 ^ (h + 1) + 2 * x + 0 < 1024); omega)]) ?_
              refine lv_topi (fun u1 eu1 => ?_)
              refine lv_iload hx hb dM_halve_74 (lv_at hl 2 rfl) ?_
              refine W.callV (W.runS (As := [.int u1, .int 0]) (rest := [.int 0]) ⟨hx, hb, hml, hown, hB⟩ (kM_part l u1 0) ⟨callB_of 2 hB gwM_part rfl rfl rfl (hB _ wd_3) (hB _ wd_405) ydM_part ⟨Nat.le_of_ble_eq_true rfl, Nat.le_of_ble_eq_true rfl⟩, hB _ wd_406⟩ (preEq) rfl rfl hl.1 rfl (lv_room (Nat.le_of_ble_eq_true rfl)) dM_halve_76 ⟨Nat.zero_le _, Nat.zero_le _⟩) ?_
              refine W.eq (g2 := F0 m 79 ls [.int (mm_part u1 0), .int 0]) rfl ?_
              refine lv_iadd hx hb dM_halve_79 ?_
              refine lv_istore (lv' := [(6, .int (0 + (mm_part u1 0))), (7, .int 0), (5, .int 0), (4, .int 0), (3, .int (nI x)), (2, .int (nI y)), (1, .int (nI (2 ^ h))), (0, .ref m0)]) hx hb dM_halve_80 hl (by decide) rfl (fun ls hl => ?_)
              refine lv_iinc (v := 1) (lv' := [(7, .int 1), (6, .int (0 + (mm_part u1 0))), (5, .int 0), (4, .int 0), (3, .int (nI x)), (2, .int (nI y)), (1, .int (nI (2 ^ h))), (0, .ref m0)]) hx hb dM_halve_82 hl (k := 1) rfl (by decide) (by decide) rfl (fun ls hl => ?_)
              refine lv_goto (tgt := 39) hx hb dM_halve_85 (by decide) ?_
              refine lv_iload hx hb dM_halve_39 (lv_at hl 0 rfl) ?_
              refine lv_iconst (v := 4) hx hb dM_halve_41 (by decide) ?_
              refine lv_icmp_ge (tgt := 88) hx hb dM_halve_42 (by decide) (fun c_5 => absurd c_5 (by decide)) (fun c_5 => ?_)
              refine lv_iload hx hb dM_halve_45 (lv_at hl 1 rfl) ?_
              refine lv_aload_n hx hb dM_halve_47 rfl (lv_at hl 7 rfl) ?_
              refine va_get (D := D) (ci := 2) (v := .ref a6) (C := RM) (T := FM) (N := 10) hx hb hB inM hown hK hP 0 rfl rfl 8 (by decide) (hB _ wd_330) (fun _ h9 => h9) rfl dM_halve_48 ?_
              refine lv_iconst (v := 2) hx hb dM_halve_51 (by decide) ?_
              refine lv_iload_n hx hb dM_halve_52 rfl (lv_at hl 5 rfl) ?_
              refine lv_imul hx hb dM_halve_53 ?_
              refine lv_iload hx hb dM_halve_54 (lv_at hl 0 rfl) ?_
              refine lv_iconst (v := 2) hx hb dM_halve_56 (by decide) ?_
              refine lv_idiv hx hb dM_halve_57 (by decide) ?_
              refine W.eq (g2 := F0 m 58 ls [.int 0, .int (2 * (nI y)), .ref a6, .int (0 + (mm_part u1 0))]) rfl ?_
              refine lv_iadd hx hb dM_halve_58 ?_
              refine lv_aload_n hx hb dM_halve_59 rfl (lv_at hl 7 rfl) ?_
              refine va_get (D := D) (ci := 2) (v := .int (nI (2 ^ (h + 1)))) (C := RM) (T := FM) (N := 10) hx hb hB inM hown hK hP 0 rfl rfl 9 (by decide) (hB _ wd_331) (fun _ h9 => h9) rfl dM_halve_60 ?_
              refine lv_imul hx hb dM_halve_63 ?_
              refine lv_iconst (v := 2) hx hb dM_halve_64 (by decide) ?_
              refine lv_iload_n hx hb dM_halve_65 rfl (lv_at hl 4 rfl) ?_
              refine lv_imul hx hb dM_halve_66 ?_
              refine lv_iadd hx hb dM_halve_67 ?_
              refine lv_iload hx hb dM_halve_68 (lv_at hl 0 rfl) ?_
              refine lv_iconst (v := 2) hx hb dM_halve_70 (by decide) ?_
              refine lv_irem hx hb dM_halve_71 (by decide) ?_
              refine W.eq (g2 := F0 m 72 ls [.int 1, .int ((((2 * (nI y)) + 0) * (nI (2 ^ (h + 1)))) + (2 * (nI x))), .ref a6, .int (0 + (mm_part u1 0))]) rfl ?_
              refine lv_iadd hx hb dM_halve_72 ?_
              refine W.eq (g2 := F0 m 73 ls [.int (nI ((2 * y + 0) * 2 ^ (h + 1) + 2 * x + 1)), .ref a6, .int (0 + (mm_part u1 0))]) (by exact congrArg (fun z => F0 m 73 ls (.int z :: .ref a6 :: [.int (0 + (mm_part u1 0))])) (mm_ix y x (2 ^ (h + 1)) 0 1)) ?_
              refine va_iald hx hb hK hP 6 0 (f := (mm_hp f6 h (y * 2 ^ h + x))) rfl rfl (i := nI ((2 * y + 0) * 2 ^ (h + 1) + 2 * x + 1)) (vp_in_nI (hix 0 1 (by decide) (by decide)) (by omega)) dM_halve_73 ?_
              refine W.eq (g2 := F0 m 74 ls [.int ((mm_hp f6 h (y * 2 ^ h + x)) ((2 * y + 0) * 2 ^ (h + 1) + 2 * x + 1)), .int (0 + (mm_part u1 0))]) (by rw [nI_clamp (by have := (hix 0 1 (by decide) (by decide) : (2 * y + 0) * 2 ^ (h + 1) + 2 * x + 1 < 1024); omega)]) ?_
              refine lv_topi (fun u2 eu2 => ?_)
              refine lv_iload hx hb dM_halve_74 (lv_at hl 2 rfl) ?_
              refine W.callV (W.runS (As := [.int u2, .int 0]) (rest := [.int (0 + (mm_part u1 0))]) ⟨hx, hb, hml, hown, hB⟩ (kM_part l u2 0) ⟨callB_of 2 hB gwM_part rfl rfl rfl (hB _ wd_3) (hB _ wd_405) ydM_part ⟨Nat.le_of_ble_eq_true rfl, Nat.le_of_ble_eq_true rfl⟩, hB _ wd_406⟩ (preEq) rfl rfl hl.1 rfl (lv_room (Nat.le_of_ble_eq_true rfl)) dM_halve_76 ⟨Nat.zero_le _, Nat.zero_le _⟩) ?_
              refine W.eq (g2 := F0 m 79 ls [.int (mm_part u2 0), .int (0 + (mm_part u1 0))]) rfl ?_
              refine lv_iadd hx hb dM_halve_79 ?_
              refine lv_istore (lv' := [(6, .int ((0 + (mm_part u1 0)) + (mm_part u2 0))), (7, .int 1), (5, .int 0), (4, .int 0), (3, .int (nI x)), (2, .int (nI y)), (1, .int (nI (2 ^ h))), (0, .ref m0)]) hx hb dM_halve_80 hl (by decide) rfl (fun ls hl => ?_)
              refine lv_iinc (v := 2) (lv' := [(7, .int 2), (6, .int ((0 + (mm_part u1 0)) + (mm_part u2 0))), (5, .int 0), (4, .int 0), (3, .int (nI x)), (2, .int (nI y)), (1, .int (nI (2 ^ h))), (0, .ref m0)]) hx hb dM_halve_82 hl (k := 1) rfl (by decide) (by decide) rfl (fun ls hl => ?_)
              refine lv_goto (tgt := 39) hx hb dM_halve_85 (by decide) ?_
              refine lv_iload hx hb dM_halve_39 (lv_at hl 0 rfl) ?_
              refine lv_iconst (v := 4) hx hb dM_halve_41 (by decide) ?_
              refine lv_icmp_ge (tgt := 88) hx hb dM_halve_42 (by decide) (fun c_6 => absurd c_6 (by decide)) (fun c_6 => ?_)
              refine lv_iload hx hb dM_halve_45 (lv_at hl 1 rfl) ?_
              refine lv_aload_n hx hb dM_halve_47 rfl (lv_at hl 7 rfl) ?_
              refine va_get (D := D) (ci := 2) (v := .ref a6) (C := RM) (T := FM) (N := 10) hx hb hB inM hown hK hP 0 rfl rfl 8 (by decide) (hB _ wd_330) (fun _ h9 => h9) rfl dM_halve_48 ?_
              refine lv_iconst (v := 2) hx hb dM_halve_51 (by decide) ?_
              refine lv_iload_n hx hb dM_halve_52 rfl (lv_at hl 5 rfl) ?_
              refine lv_imul hx hb dM_halve_53 ?_
              refine lv_iload hx hb dM_halve_54 (lv_at hl 0 rfl) ?_
              refine lv_iconst (v := 2) hx hb dM_halve_56 (by decide) ?_
              refine lv_idiv hx hb dM_halve_57 (by decide) ?_
              refine W.eq (g2 := F0 m 58 ls [.int 1, .int (2 * (nI y)), .ref a6, .int ((0 + (mm_part u1 0)) + (mm_part u2 0))]) rfl ?_
              refine lv_iadd hx hb dM_halve_58 ?_
              refine lv_aload_n hx hb dM_halve_59 rfl (lv_at hl 7 rfl) ?_
              refine va_get (D := D) (ci := 2) (v := .int (nI (2 ^ (h + 1)))) (C := RM) (T := FM) (N := 10) hx hb hB inM hown hK hP 0 rfl rfl 9 (by decide) (hB _ wd_331) (fun _ h9 => h9) rfl dM_halve_60 ?_
              refine lv_imul hx hb dM_halve_63 ?_
              refine lv_iconst (v := 2) hx hb dM_halve_64 (by decide) ?_
              refine lv_iload_n hx hb dM_halve_65 rfl (lv_at hl 4 rfl) ?_
              refine lv_imul hx hb dM_halve_66 ?_
              refine lv_iadd hx hb dM_halve_67 ?_
              refine lv_iload hx hb dM_halve_68 (lv_at hl 0 rfl) ?_
              refine lv_iconst (v := 2) hx hb dM_halve_70 (by decide) ?_
              refine lv_irem hx hb dM_halve_71 (by decide) ?_
              refine W.eq (g2 := F0 m 72 ls [.int 0, .int ((((2 * (nI y)) + 1) * (nI (2 ^ (h + 1)))) + (2 * (nI x))), .ref a6, .int ((0 + (mm_part u1 0)) + (mm_part u2 0))]) rfl ?_
              refine lv_iadd hx hb dM_halve_72 ?_
              refine W.eq (g2 := F0 m 73 ls [.int (nI ((2 * y + 1) * 2 ^ (h + 1) + 2 * x + 0)), .ref a6, .int ((0 + (mm_part u1 0)) + (mm_part u2 0))]) (by exact congrArg (fun z => F0 m 73 ls (.int z :: .ref a6 :: [.int ((0 + (mm_part u1 0)) + (mm_part u2 0))])) (mm_ix y x (2 ^ (h + 1)) 1 0)) ?_
              refine va_iald hx hb hK hP 6 0 (f := (mm_hp f6 h (y * 2 ^ h + x))) rfl rfl (i := nI ((2 * y + 1) * 2 ^ (h + 1) + 2 * x + 0)) (vp_in_nI (hix 1 0 (by decide) (by decide)) (by omega)) dM_halve_73 ?_
              refine W.eq (g2 := F0 m 74 ls [.int ((mm_hp f6 h (y * 2 ^ h + x)) ((2 * y + 1) * 2 ^ (h + 1) + 2 * x + 0)), .int ((0 + (mm_part u1 0)) + (mm_part u2 0))]) (by rw [nI_clamp (by have := (hix 1 0 (by decide) (by decide) : (2 * y + 1) * 2 ^ (h + 1) + 2 * x + 0 < 1024); omega)]) ?_
              refine lv_topi (fun u3 eu3 => ?_)
              refine lv_iload hx hb dM_halve_74 (lv_at hl 2 rfl) ?_
              refine W.callV (W.runS (As := [.int u3, .int 0]) (rest := [.int ((0 + (mm_part u1 0)) + (mm_part u2 0))]) ⟨hx, hb, hml, hown, hB⟩ (kM_part l u3 0) ⟨callB_of 2 hB gwM_part rfl rfl rfl (hB _ wd_3) (hB _ wd_405) ydM_part ⟨Nat.le_of_ble_eq_true rfl, Nat.le_of_ble_eq_true rfl⟩, hB _ wd_406⟩ (preEq) rfl rfl hl.1 rfl (lv_room (Nat.le_of_ble_eq_true rfl)) dM_halve_76 ⟨Nat.zero_le _, Nat.zero_le _⟩) ?_
              refine W.eq (g2 := F0 m 79 ls [.int (mm_part u3 0), .int ((0 + (mm_part u1 0)) + (mm_part u2 0))]) rfl ?_
              refine lv_iadd hx hb dM_halve_79 ?_
              refine lv_istore (lv' := [(6, .int (((0 + (mm_part u1 0)) + (mm_part u2 0)) + (mm_part u3 0))), (7, .int 2), (5, .int 0), (4, .int 0), (3, .int (nI x)), (2, .int (nI y)), (1, .int (nI (2 ^ h))), (0, .ref m0)]) hx hb dM_halve_80 hl (by decide) rfl (fun ls hl => ?_)
              refine lv_iinc (v := 3) (lv' := [(7, .int 3), (6, .int (((0 + (mm_part u1 0)) + (mm_part u2 0)) + (mm_part u3 0))), (5, .int 0), (4, .int 0), (3, .int (nI x)), (2, .int (nI y)), (1, .int (nI (2 ^ h))), (0, .ref m0)]) hx hb dM_halve_82 hl (k := 1) rfl (by decide) (by decide) rfl (fun ls hl => ?_)
              refine lv_goto (tgt := 39) hx hb dM_halve_85 (by decide) ?_
              refine lv_iload hx hb dM_halve_39 (lv_at hl 0 rfl) ?_
              refine lv_iconst (v := 4) hx hb dM_halve_41 (by decide) ?_
              refine lv_icmp_ge (tgt := 88) hx hb dM_halve_42 (by decide) (fun c_7 => absurd c_7 (by decide)) (fun c_7 => ?_)
              refine lv_iload hx hb dM_halve_45 (lv_at hl 1 rfl) ?_
              refine lv_aload_n hx hb dM_halve_47 rfl (lv_at hl 7 rfl) ?_
              refine va_get (D := D) (ci := 2) (v := .ref a6) (C := RM) (T := FM) (N := 10) hx hb hB inM hown hK hP 0 rfl rfl 8 (by decide) (hB _ wd_330) (fun _ h9 => h9) rfl dM_halve_48 ?_
              refine lv_iconst (v := 2) hx hb dM_halve_51 (by decide) ?_
              refine lv_iload_n hx hb dM_halve_52 rfl (lv_at hl 5 rfl) ?_
              refine lv_imul hx hb dM_halve_53 ?_
              refine lv_iload hx hb dM_halve_54 (lv_at hl 0 rfl) ?_
              refine lv_iconst (v := 2) hx hb dM_halve_56 (by decide) ?_
              refine lv_idiv hx hb dM_halve_57 (by decide) ?_
              refine W.eq (g2 := F0 m 58 ls [.int 1, .int (2 * (nI y)), .ref a6, .int (((0 + (mm_part u1 0)) + (mm_part u2 0)) + (mm_part u3 0))]) rfl ?_
              refine lv_iadd hx hb dM_halve_58 ?_
              refine lv_aload_n hx hb dM_halve_59 rfl (lv_at hl 7 rfl) ?_
              refine va_get (D := D) (ci := 2) (v := .int (nI (2 ^ (h + 1)))) (C := RM) (T := FM) (N := 10) hx hb hB inM hown hK hP 0 rfl rfl 9 (by decide) (hB _ wd_331) (fun _ h9 => h9) rfl dM_halve_60 ?_
              refine lv_imul hx hb dM_halve_63 ?_
              refine lv_iconst (v := 2) hx hb dM_halve_64 (by decide) ?_
              refine lv_iload_n hx hb dM_halve_65 rfl (lv_at hl 4 rfl) ?_
              refine lv_imul hx hb dM_halve_66 ?_
              refine lv_iadd hx hb dM_halve_67 ?_
              refine lv_iload hx hb dM_halve_68 (lv_at hl 0 rfl) ?_
              refine lv_iconst (v := 2) hx hb dM_halve_70 (by decide) ?_
              refine lv_irem hx hb dM_halve_71 (by decide) ?_
              refine W.eq (g2 := F0 m 72 ls [.int 1, .int ((((2 * (nI y)) + 1) * (nI (2 ^ (h + 1)))) + (2 * (nI x))), .ref a6, .int (((0 + (mm_part u1 0)) + (mm_part u2 0)) + (mm_part u3 0))]) rfl ?_
              refine lv_iadd hx hb dM_halve_72 ?_
              refine W.eq (g2 := F0 m 73 ls [.int (nI ((2 * y + 1) * 2 ^ (h + 1) + 2 * x + 1)), .ref a6, .int (((0 + (mm_part u1 0)) + (mm_part u2 0)) + (mm_part u3 0))]) (by exact congrArg (fun z => F0 m 73 ls (.int z :: .ref a6 :: [.int (((0 + (mm_part u1 0)) + (mm_part u2 0)) + (mm_part u3 0))])) (mm_ix y x (2 ^ (h + 1)) 1 1)) ?_
              refine va_iald hx hb hK hP 6 0 (f := (mm_hp f6 h (y * 2 ^ h + x))) rfl rfl (i := nI ((2 * y + 1) * 2 ^ (h + 1) + 2 * x + 1)) (vp_in_nI (hix 1 1 (by decide) (by decide)) (by omega)) dM_halve_73 ?_
              refine W.eq (g2 := F0 m 74 ls [.int ((mm_hp f6 h (y * 2 ^ h + x)) ((2 * y + 1) * 2 ^ (h + 1) + 2 * x + 1)), .int (((0 + (mm_part u1 0)) + (mm_part u2 0)) + (mm_part u3 0))]) (by rw [nI_clamp (by have := (hix 1 1 (by decide) (by decide) : (2 * y + 1) * 2 ^ (h + 1) + 2 * x + 1 < 1024); omega)]) ?_
              refine lv_topi (fun u4 eu4 => ?_)
              refine lv_iload hx hb dM_halve_74 (lv_at hl 2 rfl) ?_
              refine W.callV (W.runS (As := [.int u4, .int 0]) (rest := [.int (((0 + (mm_part u1 0)) + (mm_part u2 0)) + (mm_part u3 0))]) ⟨hx, hb, hml, hown, hB⟩ (kM_part l u4 0) ⟨callB_of 2 hB gwM_part rfl rfl rfl (hB _ wd_3) (hB _ wd_405) ydM_part ⟨Nat.le_of_ble_eq_true rfl, Nat.le_of_ble_eq_true rfl⟩, hB _ wd_406⟩ (preEq) rfl rfl hl.1 rfl (lv_room (Nat.le_of_ble_eq_true rfl)) dM_halve_76 ⟨Nat.zero_le _, Nat.zero_le _⟩) ?_
              refine W.eq (g2 := F0 m 79 ls [.int (mm_part u4 0), .int (((0 + (mm_part u1 0)) + (mm_part u2 0)) + (mm_part u3 0))]) rfl ?_
              refine lv_iadd hx hb dM_halve_79 ?_
              refine lv_istore (lv' := [(6, .int ((((0 + (mm_part u1 0)) + (mm_part u2 0)) + (mm_part u3 0)) + (mm_part u4 0))), (7, .int 3), (5, .int 0), (4, .int 0), (3, .int (nI x)), (2, .int (nI y)), (1, .int (nI (2 ^ h))), (0, .ref m0)]) hx hb dM_halve_80 hl (by decide) rfl (fun ls hl => ?_)
              refine lv_iinc (v := 4) (lv' := [(7, .int 4), (6, .int ((((0 + (mm_part u1 0)) + (mm_part u2 0)) + (mm_part u3 0)) + (mm_part u4 0))), (5, .int 0), (4, .int 0), (3, .int (nI x)), (2, .int (nI y)), (1, .int (nI (2 ^ h))), (0, .ref m0)]) hx hb dM_halve_82 hl (k := 1) rfl (by decide) (by decide) rfl (fun ls hl => ?_)
              refine lv_goto (tgt := 39) hx hb dM_halve_85 (by decide) ?_
              refine lv_iload hx hb dM_halve_39 (lv_at hl 0 rfl) ?_
              refine lv_iconst (v := 4) hx hb dM_halve_41 (by decide) ?_
              refine lv_icmp_ge (tgt := 88) hx hb dM_halve_42 (by decide) (fun c_8 => ?_) (fun c_8 => absurd c_8 (by decide))
              refine lv_iload hx hb dM_halve_88 (lv_at hl 3 rfl) ?_
              refine lv_sipush (v := 256) hx hb dM_halve_90 (by decide) ?_
              refine lv_imul hx hb dM_halve_93 ?_
              refine W.eq (g2 := F0 m 94 ls [.int 0]) rfl ?_
              refine lv_iload hx hb dM_halve_94 (lv_at hl 1 rfl) ?_
              refine lv_iconst (v := 4) hx hb dM_halve_96 (by decide) ?_
              refine lv_idiv hx hb dM_halve_97 (by decide) ?_
              refine lv_iadd hx hb dM_halve_98 ?_
              refine lv_istore (lv' := [(4, .int (0 + (((((0 + (mm_part u1 0)) + (mm_part u2 0)) + (mm_part u3 0)) + (mm_part u4 0)) / 4))), (7, .int 4), (6, .int ((((0 + (mm_part u1 0)) + (mm_part u2 0)) + (mm_part u3 0)) + (mm_part u4 0))), (5, .int 0), (3, .int (nI x)), (2, .int (nI y)), (1, .int (nI (2 ^ h))), (0, .ref m0)]) hx hb dM_halve_99 hl (by decide) rfl (fun ls hl => ?_)
              refine lv_iinc (v := 1) (lv' := [(5, .int 1), (4, .int (0 + (((((0 + (mm_part u1 0)) + (mm_part u2 0)) + (mm_part u3 0)) + (mm_part u4 0)) / 4))), (7, .int 4), (6, .int ((((0 + (mm_part u1 0)) + (mm_part u2 0)) + (mm_part u3 0)) + (mm_part u4 0))), (3, .int (nI x)), (2, .int (nI y)), (1, .int (nI (2 ^ h))), (0, .ref m0)]) hx hb dM_halve_101 hl (k := 3) rfl (by decide) (by decide) rfl (fun ls hl => ?_)
              refine lv_goto (tgt := 27) hx hb dM_halve_104 (by decide) ?_
              refine lv_iload hx hb dM_halve_27 (lv_at hl 0 rfl) ?_
              refine lv_iconst (v := 3) hx hb dM_halve_29 (by decide) ?_
              refine lv_icmp_ge (tgt := 107) hx hb dM_halve_30 (by decide) (fun c_9 => absurd c_9 (by decide)) (fun c_9 => ?_)
              refine lv_iconst (v := 0) hx hb dM_halve_33 (by decide) ?_
              refine lv_istore (lv' := [(6, .int 0), (5, .int 1), (4, .int (0 + (((((0 + (mm_part u1 0)) + (mm_part u2 0)) + (mm_part u3 0)) + (mm_part u4 0)) / 4))), (7, .int 4), (3, .int (nI x)), (2, .int (nI y)), (1, .int (nI (2 ^ h))), (0, .ref m0)]) hx hb dM_halve_34 hl (by decide) rfl (fun ls hl => ?_)
              refine lv_iconst (v := 0) hx hb dM_halve_36 (by decide) ?_
              refine lv_istore (lv' := [(7, .int 0), (6, .int 0), (5, .int 1), (4, .int (0 + (((((0 + (mm_part u1 0)) + (mm_part u2 0)) + (mm_part u3 0)) + (mm_part u4 0)) / 4))), (3, .int (nI x)), (2, .int (nI y)), (1, .int (nI (2 ^ h))), (0, .ref m0)]) hx hb dM_halve_37 hl (by decide) rfl (fun ls hl => ?_)
              refine lv_iload hx hb dM_halve_39 (lv_at hl 0 rfl) ?_
              refine lv_iconst (v := 4) hx hb dM_halve_41 (by decide) ?_
              refine lv_icmp_ge (tgt := 88) hx hb dM_halve_42 (by decide) (fun c_10 => absurd c_10 (by decide)) (fun c_10 => ?_)
              refine lv_iload hx hb dM_halve_45 (lv_at hl 1 rfl) ?_
              refine lv_aload_n hx hb dM_halve_47 rfl (lv_at hl 7 rfl) ?_
              refine va_get (D := D) (ci := 2) (v := .ref a6) (C := RM) (T := FM) (N := 10) hx hb hB inM hown hK hP 0 rfl rfl 8 (by decide) (hB _ wd_330) (fun _ h9 => h9) rfl dM_halve_48 ?_
              refine lv_iconst (v := 2) hx hb dM_halve_51 (by decide) ?_
              refine lv_iload_n hx hb dM_halve_52 rfl (lv_at hl 5 rfl) ?_
              refine lv_imul hx hb dM_halve_53 ?_
              refine lv_iload hx hb dM_halve_54 (lv_at hl 0 rfl) ?_
              refine lv_iconst (v := 2) hx hb dM_halve_56 (by decide) ?_
              refine lv_idiv hx hb dM_halve_57 (by decide) ?_
              refine W.eq (g2 := F0 m 58 ls [.int 0, .int (2 * (nI y)), .ref a6, .int 0]) rfl ?_
              refine lv_iadd hx hb dM_halve_58 ?_
              refine lv_aload_n hx hb dM_halve_59 rfl (lv_at hl 7 rfl) ?_
              refine va_get (D := D) (ci := 2) (v := .int (nI (2 ^ (h + 1)))) (C := RM) (T := FM) (N := 10) hx hb hB inM hown hK hP 0 rfl rfl 9 (by decide) (hB _ wd_331) (fun _ h9 => h9) rfl dM_halve_60 ?_
              refine lv_imul hx hb dM_halve_63 ?_
              refine lv_iconst (v := 2) hx hb dM_halve_64 (by decide) ?_
              refine lv_iload_n hx hb dM_halve_65 rfl (lv_at hl 4 rfl) ?_
              refine lv_imul hx hb dM_halve_66 ?_
              refine lv_iadd hx hb dM_halve_67 ?_
              refine lv_iload hx hb dM_halve_68 (lv_at hl 0 rfl) ?_
              refine lv_iconst (v := 2) hx hb dM_halve_70 (by decide) ?_
              refine lv_irem hx hb dM_halve_71 (by decide) ?_
              refine W.eq (g2 := F0 m 72 ls [.int 0, .int ((((2 * (nI y)) + 0) * (nI (2 ^ (h + 1)))) + (2 * (nI x))), .ref a6, .int 0]) rfl ?_
              refine lv_iadd hx hb dM_halve_72 ?_
              refine W.eq (g2 := F0 m 73 ls [.int (nI ((2 * y + 0) * 2 ^ (h + 1) + 2 * x + 0)), .ref a6, .int 0]) (by exact congrArg (fun z => F0 m 73 ls (.int z :: .ref a6 :: [.int 0])) (mm_ix y x (2 ^ (h + 1)) 0 0)) ?_
              refine va_iald hx hb hK hP 6 0 (f := (mm_hp f6 h (y * 2 ^ h + x))) rfl rfl (i := nI ((2 * y + 0) * 2 ^ (h + 1) + 2 * x + 0)) (vp_in_nI (hix 0 0 (by decide) (by decide)) (by omega)) dM_halve_73 ?_
              refine W.eq (g2 := F0 m 74 ls [.int ((mm_hp f6 h (y * 2 ^ h + x)) ((2 * y + 0) * 2 ^ (h + 1) + 2 * x + 0)), .int 0]) (by rw [nI_clamp (by have := (hix 0 0 (by decide) (by decide) : (2 * y + 0) * 2 ^ (h + 1) + 2 * x + 0 < 1024); omega)]) ?_
              refine lv_topi (fun u5 eu5 => ?_)
              refine lv_iload hx hb dM_halve_74 (lv_at hl 2 rfl) ?_
              refine W.callV (W.runS (As := [.int u5, .int 1]) (rest := [.int 0]) ⟨hx, hb, hml, hown, hB⟩ (kM_part l u5 1) ⟨callB_of 2 hB gwM_part rfl rfl rfl (hB _ wd_3) (hB _ wd_405) ydM_part ⟨Nat.le_of_ble_eq_true rfl, Nat.le_of_ble_eq_true rfl⟩, hB _ wd_406⟩ (preEq) rfl rfl hl.1 rfl (lv_room (Nat.le_of_ble_eq_true rfl)) dM_halve_76 ⟨Nat.zero_le _, Nat.zero_le _⟩) ?_
              refine W.eq (g2 := F0 m 79 ls [.int (mm_part u5 1), .int 0]) rfl ?_
              refine lv_iadd hx hb dM_halve_79 ?_
              refine lv_istore (lv' := [(6, .int (0 + (mm_part u5 1))), (7, .int 0), (5, .int 1), (4, .int (0 + (((((0 + (mm_part u1 0)) + (mm_part u2 0)) + (mm_part u3 0)) + (mm_part u4 0)) / 4))), (3, .int (nI x)), (2, .int (nI y)), (1, .int (nI (2 ^ h))), (0, .ref m0)]) hx hb dM_halve_80 hl (by decide) rfl (fun ls hl => ?_)
              refine lv_iinc (v := 1) (lv' := [(7, .int 1), (6, .int (0 + (mm_part u5 1))), (5, .int 1), (4, .int (0 + (((((0 + (mm_part u1 0)) + (mm_part u2 0)) + (mm_part u3 0)) + (mm_part u4 0)) / 4))), (3, .int (nI x)), (2, .int (nI y)), (1, .int (nI (2 ^ h))), (0, .ref m0)]) hx hb dM_halve_82 hl (k := 1) rfl (by decide) (by decide) rfl (fun ls hl => ?_)
              refine lv_goto (tgt := 39) hx hb dM_halve_85 (by decide) ?_
              refine lv_iload hx hb dM_halve_39 (lv_at hl 0 rfl) ?_
              refine lv_iconst (v := 4) hx hb dM_halve_41 (by decide) ?_
              refine lv_icmp_ge (tgt := 88) hx hb dM_halve_42 (by decide) (fun c_11 => absurd c_11 (by decide)) (fun c_11 => ?_)
              refine lv_iload hx hb dM_halve_45 (lv_at hl 1 rfl) ?_
              refine lv_aload_n hx hb dM_halve_47 rfl (lv_at hl 7 rfl) ?_
              refine va_get (D := D) (ci := 2) (v := .ref a6) (C := RM) (T := FM) (N := 10) hx hb hB inM hown hK hP 0 rfl rfl 8 (by decide) (hB _ wd_330) (fun _ h9 => h9) rfl dM_halve_48 ?_
              refine lv_iconst (v := 2) hx hb dM_halve_51 (by decide) ?_
              refine lv_iload_n hx hb dM_halve_52 rfl (lv_at hl 5 rfl) ?_
              refine lv_imul hx hb dM_halve_53 ?_
              refine lv_iload hx hb dM_halve_54 (lv_at hl 0 rfl) ?_
              refine lv_iconst (v := 2) hx hb dM_halve_56 (by decide) ?_
              refine lv_idiv hx hb dM_halve_57 (by decide) ?_
              refine W.eq (g2 := F0 m 58 ls [.int 0, .int (2 * (nI y)), .ref a6, .int (0 + (mm_part u5 1))]) rfl ?_
              refine lv_iadd hx hb dM_halve_58 ?_
              refine lv_aload_n hx hb dM_halve_59 rfl (lv_at hl 7 rfl) ?_
              refine va_get (D := D) (ci := 2) (v := .int (nI (2 ^ (h + 1)))) (C := RM) (T := FM) (N := 10) hx hb hB inM hown hK hP 0 rfl rfl 9 (by decide) (hB _ wd_331) (fun _ h9 => h9) rfl dM_halve_60 ?_
              refine lv_imul hx hb dM_halve_63 ?_
              refine lv_iconst (v := 2) hx hb dM_halve_64 (by decide) ?_
              refine lv_iload_n hx hb dM_halve_65 rfl (lv_at hl 4 rfl) ?_
              refine lv_imul hx hb dM_halve_66 ?_
              refine lv_iadd hx hb dM_halve_67 ?_
              refine lv_iload hx hb dM_halve_68 (lv_at hl 0 rfl) ?_
              refine lv_iconst (v := 2) hx hb dM_halve_70 (by decide) ?_
              refine lv_irem hx hb dM_halve_71 (by decide) ?_
              refine W.eq (g2 := F0 m 72 ls [.int 1, .int ((((2 * (nI y)) + 0) * (nI (2 ^ (h + 1)))) + (2 * (nI x))), .ref a6, .int (0 + (mm_part u5 1))]) rfl ?_
              refine lv_iadd hx hb dM_halve_72 ?_
              refine W.eq (g2 := F0 m 73 ls [.int (nI ((2 * y + 0) * 2 ^ (h + 1) + 2 * x + 1)), .ref a6, .int (0 + (mm_part u5 1))]) (by exact congrArg (fun z => F0 m 73 ls (.int z :: .ref a6 :: [.int (0 + (mm_part u5 1))])) (mm_ix y x (2 ^ (h + 1)) 0 1)) ?_
              refine va_iald hx hb hK hP 6 0 (f := (mm_hp f6 h (y * 2 ^ h + x))) rfl rfl (i := nI ((2 * y + 0) * 2 ^ (h + 1) + 2 * x + 1)) (vp_in_nI (hix 0 1 (by decide) (by decide)) (by omega)) dM_halve_73 ?_
              refine W.eq (g2 := F0 m 74 ls [.int ((mm_hp f6 h (y * 2 ^ h + x)) ((2 * y + 0) * 2 ^ (h + 1) + 2 * x + 1)), .int (0 + (mm_part u5 1))]) (by rw [nI_clamp (by have := (hix 0 1 (by decide) (by decide) : (2 * y + 0) * 2 ^ (h + 1) + 2 * x + 1 < 1024); omega)]) ?_
              refine lv_topi (fun u6 eu6 => ?_)
              refine lv_iload hx hb dM_halve_74 (lv_at hl 2 rfl) ?_
              refine W.callV (W.runS (As := [.int u6, .int 1]) (rest := [.int (0 + (mm_part u5 1))]) ⟨hx, hb, hml, hown, hB⟩ (kM_part l u6 1) ⟨callB_of 2 hB gwM_part rfl rfl rfl (hB _ wd_3) (hB _ wd_405) ydM_part ⟨Nat.le_of_ble_eq_true rfl, Nat.le_of_ble_eq_true rfl⟩, hB _ wd_406⟩ (preEq) rfl rfl hl.1 rfl (lv_room (Nat.le_of_ble_eq_true rfl)) dM_halve_76 ⟨Nat.zero_le _, Nat.zero_le _⟩) ?_
              refine W.eq (g2 := F0 m 79 ls [.int (mm_part u6 1), .int (0 + (mm_part u5 1))]) rfl ?_
              refine lv_iadd hx hb dM_halve_79 ?_
              refine lv_istore (lv' := [(6, .int ((0 + (mm_part u5 1)) + (mm_part u6 1))), (7, .int 1), (5, .int 1), (4, .int (0 + (((((0 + (mm_part u1 0)) + (mm_part u2 0)) + (mm_part u3 0)) + (mm_part u4 0)) / 4))), (3, .int (nI x)), (2, .int (nI y)), (1, .int (nI (2 ^ h))), (0, .ref m0)]) hx hb dM_halve_80 hl (by decide) rfl (fun ls hl => ?_)
              refine lv_iinc (v := 2) (lv' := [(7, .int 2), (6, .int ((0 + (mm_part u5 1)) + (mm_part u6 1))), (5, .int 1), (4, .int (0 + (((((0 + (mm_part u1 0)) + (mm_part u2 0)) + (mm_part u3 0)) + (mm_part u4 0)) / 4))), (3, .int (nI x)), (2, .int (nI y)), (1, .int (nI (2 ^ h))), (0, .ref m0)]) hx hb dM_halve_82 hl (k := 1) rfl (by decide) (by decide) rfl (fun ls hl => ?_)
              refine lv_goto (tgt := 39) hx hb dM_halve_85 (by decide) ?_
              refine lv_iload hx hb dM_halve_39 (lv_at hl 0 rfl) ?_
              refine lv_iconst (v := 4) hx hb dM_halve_41 (by decide) ?_
              refine lv_icmp_ge (tgt := 88) hx hb dM_halve_42 (by decide) (fun c_12 => absurd c_12 (by decide)) (fun c_12 => ?_)
              refine lv_iload hx hb dM_halve_45 (lv_at hl 1 rfl) ?_
              refine lv_aload_n hx hb dM_halve_47 rfl (lv_at hl 7 rfl) ?_
              refine va_get (D := D) (ci := 2) (v := .ref a6) (C := RM) (T := FM) (N := 10) hx hb hB inM hown hK hP 0 rfl rfl 8 (by decide) (hB _ wd_330) (fun _ h9 => h9) rfl dM_halve_48 ?_
              refine lv_iconst (v := 2) hx hb dM_halve_51 (by decide) ?_
              refine lv_iload_n hx hb dM_halve_52 rfl (lv_at hl 5 rfl) ?_
              refine lv_imul hx hb dM_halve_53 ?_
              refine lv_iload hx hb dM_halve_54 (lv_at hl 0 rfl) ?_
              refine lv_iconst (v := 2) hx hb dM_halve_56 (by decide) ?_
              refine lv_idiv hx hb dM_halve_57 (by decide) ?_
              refine W.eq (g2 := F0 m 58 ls [.int 1, .int (2 * (nI y)), .ref a6, .int ((0 + (mm_part u5 1)) + (mm_part u6 1))]) rfl ?_
              refine lv_iadd hx hb dM_halve_58 ?_
              refine lv_aload_n hx hb dM_halve_59 rfl (lv_at hl 7 rfl) ?_
              refine va_get (D := D) (ci := 2) (v := .int (nI (2 ^ (h + 1)))) (C := RM) (T := FM) (N := 10) hx hb hB inM hown hK hP 0 rfl rfl 9 (by decide) (hB _ wd_331) (fun _ h9 => h9) rfl dM_halve_60 ?_
              refine lv_imul hx hb dM_halve_63 ?_
              refine lv_iconst (v := 2) hx hb dM_halve_64 (by decide) ?_
              refine lv_iload_n hx hb dM_halve_65 rfl (lv_at hl 4 rfl) ?_
              refine lv_imul hx hb dM_halve_66 ?_
              refine lv_iadd hx hb dM_halve_67 ?_
              refine lv_iload hx hb dM_halve_68 (lv_at hl 0 rfl) ?_
              refine lv_iconst (v := 2) hx hb dM_halve_70 (by decide) ?_
              refine lv_irem hx hb dM_halve_71 (by decide) ?_
              refine W.eq (g2 := F0 m 72 ls [.int 0, .int ((((2 * (nI y)) + 1) * (nI (2 ^ (h + 1)))) + (2 * (nI x))), .ref a6, .int ((0 + (mm_part u5 1)) + (mm_part u6 1))]) rfl ?_
              refine lv_iadd hx hb dM_halve_72 ?_
              refine W.eq (g2 := F0 m 73 ls [.int (nI ((2 * y + 1) * 2 ^ (h + 1) + 2 * x + 0)), .ref a6, .int ((0 + (mm_part u5 1)) + (mm_part u6 1))]) (by exact congrArg (fun z => F0 m 73 ls (.int z :: .ref a6 :: [.int ((0 + (mm_part u5 1)) + (mm_part u6 1))])) (mm_ix y x (2 ^ (h + 1)) 1 0)) ?_
              refine va_iald hx hb hK hP 6 0 (f := (mm_hp f6 h (y * 2 ^ h + x))) rfl rfl (i := nI ((2 * y + 1) * 2 ^ (h + 1) + 2 * x + 0)) (vp_in_nI (hix 1 0 (by decide) (by decide)) (by omega)) dM_halve_73 ?_
              refine W.eq (g2 := F0 m 74 ls [.int ((mm_hp f6 h (y * 2 ^ h + x)) ((2 * y + 1) * 2 ^ (h + 1) + 2 * x + 0)), .int ((0 + (mm_part u5 1)) + (mm_part u6 1))]) (by rw [nI_clamp (by have := (hix 1 0 (by decide) (by decide) : (2 * y + 1) * 2 ^ (h + 1) + 2 * x + 0 < 1024); omega)]) ?_
              refine lv_topi (fun u7 eu7 => ?_)
              refine lv_iload hx hb dM_halve_74 (lv_at hl 2 rfl) ?_
              refine W.callV (W.runS (As := [.int u7, .int 1]) (rest := [.int ((0 + (mm_part u5 1)) + (mm_part u6 1))]) ⟨hx, hb, hml, hown, hB⟩ (kM_part l u7 1) ⟨callB_of 2 hB gwM_part rfl rfl rfl (hB _ wd_3) (hB _ wd_405) ydM_part ⟨Nat.le_of_ble_eq_true rfl, Nat.le_of_ble_eq_true rfl⟩, hB _ wd_406⟩ (preEq) rfl rfl hl.1 rfl (lv_room (Nat.le_of_ble_eq_true rfl)) dM_halve_76 ⟨Nat.zero_le _, Nat.zero_le _⟩) ?_
              refine W.eq (g2 := F0 m 79 ls [.int (mm_part u7 1), .int ((0 + (mm_part u5 1)) + (mm_part u6 1))]) rfl ?_
              refine lv_iadd hx hb dM_halve_79 ?_
              refine lv_istore (lv' := [(6, .int (((0 + (mm_part u5 1)) + (mm_part u6 1)) + (mm_part u7 1))), (7, .int 2), (5, .int 1), (4, .int (0 + (((((0 + (mm_part u1 0)) + (mm_part u2 0)) + (mm_part u3 0)) + (mm_part u4 0)) / 4))), (3, .int (nI x)), (2, .int (nI y)), (1, .int (nI (2 ^ h))), (0, .ref m0)]) hx hb dM_halve_80 hl (by decide) rfl (fun ls hl => ?_)
              refine lv_iinc (v := 3) (lv' := [(7, .int 3), (6, .int (((0 + (mm_part u5 1)) + (mm_part u6 1)) + (mm_part u7 1))), (5, .int 1), (4, .int (0 + (((((0 + (mm_part u1 0)) + (mm_part u2 0)) + (mm_part u3 0)) + (mm_part u4 0)) / 4))), (3, .int (nI x)), (2, .int (nI y)), (1, .int (nI (2 ^ h))), (0, .ref m0)]) hx hb dM_halve_82 hl (k := 1) rfl (by decide) (by decide) rfl (fun ls hl => ?_)
              refine lv_goto (tgt := 39) hx hb dM_halve_85 (by decide) ?_
              refine lv_iload hx hb dM_halve_39 (lv_at hl 0 rfl) ?_
              refine lv_iconst (v := 4) hx hb dM_halve_41 (by decide) ?_
              refine lv_icmp_ge (tgt := 88) hx hb dM_halve_42 (by decide) (fun c_13 => absurd c_13 (by decide)) (fun c_13 => ?_)
              refine lv_iload hx hb dM_halve_45 (lv_at hl 1 rfl) ?_
              refine lv_aload_n hx hb dM_halve_47 rfl (lv_at hl 7 rfl) ?_
              refine va_get (D := D) (ci := 2) (v := .ref a6) (C := RM) (T := FM) (N := 10) hx hb hB inM hown hK hP 0 rfl rfl 8 (by decide) (hB _ wd_330) (fun _ h9 => h9) rfl dM_halve_48 ?_
              refine lv_iconst (v := 2) hx hb dM_halve_51 (by decide) ?_
              refine lv_iload_n hx hb dM_halve_52 rfl (lv_at hl 5 rfl) ?_
              refine lv_imul hx hb dM_halve_53 ?_
              refine lv_iload hx hb dM_halve_54 (lv_at hl 0 rfl) ?_
              refine lv_iconst (v := 2) hx hb dM_halve_56 (by decide) ?_
              refine lv_idiv hx hb dM_halve_57 (by decide) ?_
              refine W.eq (g2 := F0 m 58 ls [.int 1, .int (2 * (nI y)), .ref a6, .int (((0 + (mm_part u5 1)) + (mm_part u6 1)) + (mm_part u7 1))]) rfl ?_
              refine lv_iadd hx hb dM_halve_58 ?_
              refine lv_aload_n hx hb dM_halve_59 rfl (lv_at hl 7 rfl) ?_
              refine va_get (D := D) (ci := 2) (v := .int (nI (2 ^ (h + 1)))) (C := RM) (T := FM) (N := 10) hx hb hB inM hown hK hP 0 rfl rfl 9 (by decide) (hB _ wd_331) (fun _ h9 => h9) rfl dM_halve_60 ?_
              refine lv_imul hx hb dM_halve_63 ?_
              refine lv_iconst (v := 2) hx hb dM_halve_64 (by decide) ?_
              refine lv_iload_n hx hb dM_halve_65 rfl (lv_at hl 4 rfl) ?_
              refine lv_imul hx hb dM_halve_66 ?_
              refine lv_iadd hx hb dM_halve_67 ?_
              refine lv_iload hx hb dM_halve_68 (lv_at hl 0 rfl) ?_
              refine lv_iconst (v := 2) hx hb dM_halve_70 (by decide) ?_
              refine lv_irem hx hb dM_halve_71 (by decide) ?_
              refine W.eq (g2 := F0 m 72 ls [.int 1, .int ((((2 * (nI y)) + 1) * (nI (2 ^ (h + 1)))) + (2 * (nI x))), .ref a6, .int (((0 + (mm_part u5 1)) + (mm_part u6 1)) + (mm_part u7 1))]) rfl ?_
              refine lv_iadd hx hb dM_halve_72 ?_
              refine W.eq (g2 := F0 m 73 ls [.int (nI ((2 * y + 1) * 2 ^ (h + 1) + 2 * x + 1)), .ref a6, .int (((0 + (mm_part u5 1)) + (mm_part u6 1)) + (mm_part u7 1))]) (by exact congrArg (fun z => F0 m 73 ls (.int z :: .ref a6 :: [.int (((0 + (mm_part u5 1)) + (mm_part u6 1)) + (mm_part u7 1))])) (mm_ix y x (2 ^ (h + 1)) 1 1)) ?_
              refine va_iald hx hb hK hP 6 0 (f := (mm_hp f6 h (y * 2 ^ h + x))) rfl rfl (i := nI ((2 * y + 1) * 2 ^ (h + 1) + 2 * x + 1)) (vp_in_nI (hix 1 1 (by decide) (by decide)) (by omega)) dM_halve_73 ?_
              refine W.eq (g2 := F0 m 74 ls [.int ((mm_hp f6 h (y * 2 ^ h + x)) ((2 * y + 1) * 2 ^ (h + 1) + 2 * x + 1)), .int (((0 + (mm_part u5 1)) + (mm_part u6 1)) + (mm_part u7 1))]) (by rw [nI_clamp (by have := (hix 1 1 (by decide) (by decide) : (2 * y + 1) * 2 ^ (h + 1) + 2 * x + 1 < 1024); omega)]) ?_
              refine lv_topi (fun u8 eu8 => ?_)
              refine lv_iload hx hb dM_halve_74 (lv_at hl 2 rfl) ?_
              refine W.callV (W.runS (As := [.int u8, .int 1]) (rest := [.int (((0 + (mm_part u5 1)) + (mm_part u6 1)) + (mm_part u7 1))]) ⟨hx, hb, hml, hown, hB⟩ (kM_part l u8 1) ⟨callB_of 2 hB gwM_part rfl rfl rfl (hB _ wd_3) (hB _ wd_405) ydM_part ⟨Nat.le_of_ble_eq_true rfl, Nat.le_of_ble_eq_true rfl⟩, hB _ wd_406⟩ (preEq) rfl rfl hl.1 rfl (lv_room (Nat.le_of_ble_eq_true rfl)) dM_halve_76 ⟨Nat.zero_le _, Nat.zero_le _⟩) ?_
              refine W.eq (g2 := F0 m 79 ls [.int (mm_part u8 1), .int (((0 + (mm_part u5 1)) + (mm_part u6 1)) + (mm_part u7 1))]) rfl ?_
              refine lv_iadd hx hb dM_halve_79 ?_
              refine lv_istore (lv' := [(6, .int ((((0 + (mm_part u5 1)) + (mm_part u6 1)) + (mm_part u7 1)) + (mm_part u8 1))), (7, .int 3), (5, .int 1), (4, .int (0 + (((((0 + (mm_part u1 0)) + (mm_part u2 0)) + (mm_part u3 0)) + (mm_part u4 0)) / 4))), (3, .int (nI x)), (2, .int (nI y)), (1, .int (nI (2 ^ h))), (0, .ref m0)]) hx hb dM_halve_80 hl (by decide) rfl (fun ls hl => ?_)
              refine lv_iinc (v := 4) (lv' := [(7, .int 4), (6, .int ((((0 + (mm_part u5 1)) + (mm_part u6 1)) + (mm_part u7 1)) + (mm_part u8 1))), (5, .int 1), (4, .int (0 + (((((0 + (mm_part u1 0)) + (mm_part u2 0)) + (mm_part u3 0)) + (mm_part u4 0)) / 4))), (3, .int (nI x)), (2, .int (nI y)), (1, .int (nI (2 ^ h))), (0, .ref m0)]) hx hb dM_halve_82 hl (k := 1) rfl (by decide) (by decide) rfl (fun ls hl => ?_)
              refine lv_goto (tgt := 39) hx hb dM_halve_85 (by decide) ?_
              refine lv_iload hx hb dM_halve_39 (lv_at hl 0 rfl) ?_
              refine lv_iconst (v := 4) hx hb dM_halve_41 (by decide) ?_
              refine lv_icmp_ge (tgt := 88) hx hb dM_halve_42 (by decide) (fun c_14 => ?_) (fun c_14 => absurd c_14 (by decide))
              refine lv_iload hx hb dM_halve_88 (lv_at hl 3 rfl) ?_
              refine lv_sipush (v := 256) hx hb dM_halve_90 (by decide) ?_
              refine lv_imul hx hb dM_halve_93 ?_
              refine lv_iload hx hb dM_halve_94 (lv_at hl 1 rfl) ?_
              refine lv_iconst (v := 4) hx hb dM_halve_96 (by decide) ?_
              refine lv_idiv hx hb dM_halve_97 (by decide) ?_
              refine lv_iadd hx hb dM_halve_98 ?_
              refine lv_istore (lv' := [(4, .int (((0 + (((((0 + (mm_part u1 0)) + (mm_part u2 0)) + (mm_part u3 0)) + (mm_part u4 0)) / 4)) * 256) + (((((0 + (mm_part u5 1)) + (mm_part u6 1)) + (mm_part u7 1)) + (mm_part u8 1)) / 4))), (7, .int 4), (6, .int ((((0 + (mm_part u5 1)) + (mm_part u6 1)) + (mm_part u7 1)) + (mm_part u8 1))), (5, .int 1), (3, .int (nI x)), (2, .int (nI y)), (1, .int (nI (2 ^ h))), (0, .ref m0)]) hx hb dM_halve_99 hl (by decide) rfl (fun ls hl => ?_)
              refine lv_iinc (v := 2) (lv' := [(5, .int 2), (4, .int (((0 + (((((0 + (mm_part u1 0)) + (mm_part u2 0)) + (mm_part u3 0)) + (mm_part u4 0)) / 4)) * 256) + (((((0 + (mm_part u5 1)) + (mm_part u6 1)) + (mm_part u7 1)) + (mm_part u8 1)) / 4))), (7, .int 4), (6, .int ((((0 + (mm_part u5 1)) + (mm_part u6 1)) + (mm_part u7 1)) + (mm_part u8 1))), (3, .int (nI x)), (2, .int (nI y)), (1, .int (nI (2 ^ h))), (0, .ref m0)]) hx hb dM_halve_101 hl (k := 3) rfl (by decide) (by decide) rfl (fun ls hl => ?_)
              refine lv_goto (tgt := 27) hx hb dM_halve_104 (by decide) ?_
              refine lv_iload hx hb dM_halve_27 (lv_at hl 0 rfl) ?_
              refine lv_iconst (v := 3) hx hb dM_halve_29 (by decide) ?_
              refine lv_icmp_ge (tgt := 107) hx hb dM_halve_30 (by decide) (fun c_15 => absurd c_15 (by decide)) (fun c_15 => ?_)
              refine lv_iconst (v := 0) hx hb dM_halve_33 (by decide) ?_
              refine lv_istore (lv' := [(6, .int 0), (5, .int 2), (4, .int (((0 + (((((0 + (mm_part u1 0)) + (mm_part u2 0)) + (mm_part u3 0)) + (mm_part u4 0)) / 4)) * 256) + (((((0 + (mm_part u5 1)) + (mm_part u6 1)) + (mm_part u7 1)) + (mm_part u8 1)) / 4))), (7, .int 4), (3, .int (nI x)), (2, .int (nI y)), (1, .int (nI (2 ^ h))), (0, .ref m0)]) hx hb dM_halve_34 hl (by decide) rfl (fun ls hl => ?_)
              refine lv_iconst (v := 0) hx hb dM_halve_36 (by decide) ?_
              refine lv_istore (lv' := [(7, .int 0), (6, .int 0), (5, .int 2), (4, .int (((0 + (((((0 + (mm_part u1 0)) + (mm_part u2 0)) + (mm_part u3 0)) + (mm_part u4 0)) / 4)) * 256) + (((((0 + (mm_part u5 1)) + (mm_part u6 1)) + (mm_part u7 1)) + (mm_part u8 1)) / 4))), (3, .int (nI x)), (2, .int (nI y)), (1, .int (nI (2 ^ h))), (0, .ref m0)]) hx hb dM_halve_37 hl (by decide) rfl (fun ls hl => ?_)
              refine lv_iload hx hb dM_halve_39 (lv_at hl 0 rfl) ?_
              refine lv_iconst (v := 4) hx hb dM_halve_41 (by decide) ?_
              refine lv_icmp_ge (tgt := 88) hx hb dM_halve_42 (by decide) (fun c_16 => absurd c_16 (by decide)) (fun c_16 => ?_)
              refine lv_iload hx hb dM_halve_45 (lv_at hl 1 rfl) ?_
              refine lv_aload_n hx hb dM_halve_47 rfl (lv_at hl 7 rfl) ?_
              refine va_get (D := D) (ci := 2) (v := .ref a6) (C := RM) (T := FM) (N := 10) hx hb hB inM hown hK hP 0 rfl rfl 8 (by decide) (hB _ wd_330) (fun _ h9 => h9) rfl dM_halve_48 ?_
              refine lv_iconst (v := 2) hx hb dM_halve_51 (by decide) ?_
              refine lv_iload_n hx hb dM_halve_52 rfl (lv_at hl 5 rfl) ?_
              refine lv_imul hx hb dM_halve_53 ?_
              refine lv_iload hx hb dM_halve_54 (lv_at hl 0 rfl) ?_
              refine lv_iconst (v := 2) hx hb dM_halve_56 (by decide) ?_
              refine lv_idiv hx hb dM_halve_57 (by decide) ?_
              refine W.eq (g2 := F0 m 58 ls [.int 0, .int (2 * (nI y)), .ref a6, .int 0]) rfl ?_
              refine lv_iadd hx hb dM_halve_58 ?_
              refine lv_aload_n hx hb dM_halve_59 rfl (lv_at hl 7 rfl) ?_
              refine va_get (D := D) (ci := 2) (v := .int (nI (2 ^ (h + 1)))) (C := RM) (T := FM) (N := 10) hx hb hB inM hown hK hP 0 rfl rfl 9 (by decide) (hB _ wd_331) (fun _ h9 => h9) rfl dM_halve_60 ?_
              refine lv_imul hx hb dM_halve_63 ?_
              refine lv_iconst (v := 2) hx hb dM_halve_64 (by decide) ?_
              refine lv_iload_n hx hb dM_halve_65 rfl (lv_at hl 4 rfl) ?_
              refine lv_imul hx hb dM_halve_66 ?_
              refine lv_iadd hx hb dM_halve_67 ?_
              refine lv_iload hx hb dM_halve_68 (lv_at hl 0 rfl) ?_
              refine lv_iconst (v := 2) hx hb dM_halve_70 (by decide) ?_
              refine lv_irem hx hb dM_halve_71 (by decide) ?_
              refine W.eq (g2 := F0 m 72 ls [.int 0, .int ((((2 * (nI y)) + 0) * (nI (2 ^ (h + 1)))) + (2 * (nI x))), .ref a6, .int 0]) rfl ?_
              refine lv_iadd hx hb dM_halve_72 ?_
              refine W.eq (g2 := F0 m 73 ls [.int (nI ((2 * y + 0) * 2 ^ (h + 1) + 2 * x + 0)), .ref a6, .int 0]) (by exact congrArg (fun z => F0 m 73 ls (.int z :: .ref a6 :: [.int 0])) (mm_ix y x (2 ^ (h + 1)) 0 0)) ?_
              refine va_iald hx hb hK hP 6 0 (f := (mm_hp f6 h (y * 2 ^ h + x))) rfl rfl (i := nI ((2 * y + 0) * 2 ^ (h + 1) + 2 * x + 0)) (vp_in_nI (hix 0 0 (by decide) (by decide)) (by omega)) dM_halve_73 ?_
              refine W.eq (g2 := F0 m 74 ls [.int ((mm_hp f6 h (y * 2 ^ h + x)) ((2 * y + 0) * 2 ^ (h + 1) + 2 * x + 0)), .int 0]) (by rw [nI_clamp (by have := (hix 0 0 (by decide) (by decide) : (2 * y + 0) * 2 ^ (h + 1) + 2 * x + 0 < 1024); omega)]) ?_
              refine lv_topi (fun u9 eu9 => ?_)
              refine lv_iload hx hb dM_halve_74 (lv_at hl 2 rfl) ?_
              refine W.callV (W.runS (As := [.int u9, .int 2]) (rest := [.int 0]) ⟨hx, hb, hml, hown, hB⟩ (kM_part l u9 2) ⟨callB_of 2 hB gwM_part rfl rfl rfl (hB _ wd_3) (hB _ wd_405) ydM_part ⟨Nat.le_of_ble_eq_true rfl, Nat.le_of_ble_eq_true rfl⟩, hB _ wd_406⟩ (preEq) rfl rfl hl.1 rfl (lv_room (Nat.le_of_ble_eq_true rfl)) dM_halve_76 ⟨Nat.zero_le _, Nat.zero_le _⟩) ?_
              refine W.eq (g2 := F0 m 79 ls [.int (mm_part u9 2), .int 0]) rfl ?_
              refine lv_iadd hx hb dM_halve_79 ?_
              refine lv_istore (lv' := [(6, .int (0 + (mm_part u9 2))), (7, .int 0), (5, .int 2), (4, .int (((0 + (((((0 + (mm_part u1 0)) + (mm_part u2 0)) + (mm_part u3 0)) + (mm_part u4 0)) / 4)) * 256) + (((((0 + (mm_part u5 1)) + (mm_part u6 1)) + (mm_part u7 1)) + (mm_part u8 1)) / 4))), (3, .int (nI x)), (2, .int (nI y)), (1, .int (nI (2 ^ h))), (0, .ref m0)]) hx hb dM_halve_80 hl (by decide) rfl (fun ls hl => ?_)
              refine lv_iinc (v := 1) (lv' := [(7, .int 1), (6, .int (0 + (mm_part u9 2))), (5, .int 2), (4, .int (((0 + (((((0 + (mm_part u1 0)) + (mm_part u2 0)) + (mm_part u3 0)) + (mm_part u4 0)) / 4)) * 256) + (((((0 + (mm_part u5 1)) + (mm_part u6 1)) + (mm_part u7 1)) + (mm_part u8 1)) / 4))), (3, .int (nI x)), (2, .int (nI y)), (1, .int (nI (2 ^ h))), (0, .ref m0)]) hx hb dM_halve_82 hl (k := 1) rfl (by decide) (by decide) rfl (fun ls hl => ?_)
              refine lv_goto (tgt := 39) hx hb dM_halve_85 (by decide) ?_
              refine lv_iload hx hb dM_halve_39 (lv_at hl 0 rfl) ?_
              refine lv_iconst (v := 4) hx hb dM_halve_41 (by decide) ?_
              refine lv_icmp_ge (tgt := 88) hx hb dM_halve_42 (by decide) (fun c_17 => absurd c_17 (by decide)) (fun c_17 => ?_)
              refine lv_iload hx hb dM_halve_45 (lv_at hl 1 rfl) ?_
              refine lv_aload_n hx hb dM_halve_47 rfl (lv_at hl 7 rfl) ?_
              refine va_get (D := D) (ci := 2) (v := .ref a6) (C := RM) (T := FM) (N := 10) hx hb hB inM hown hK hP 0 rfl rfl 8 (by decide) (hB _ wd_330) (fun _ h9 => h9) rfl dM_halve_48 ?_
              refine lv_iconst (v := 2) hx hb dM_halve_51 (by decide) ?_
              refine lv_iload_n hx hb dM_halve_52 rfl (lv_at hl 5 rfl) ?_
              refine lv_imul hx hb dM_halve_53 ?_
              refine lv_iload hx hb dM_halve_54 (lv_at hl 0 rfl) ?_
              refine lv_iconst (v := 2) hx hb dM_halve_56 (by decide) ?_
              refine lv_idiv hx hb dM_halve_57 (by decide) ?_
              refine W.eq (g2 := F0 m 58 ls [.int 0, .int (2 * (nI y)), .ref a6, .int (0 + (mm_part u9 2))]) rfl ?_
              refine lv_iadd hx hb dM_halve_58 ?_
              refine lv_aload_n hx hb dM_halve_59 rfl (lv_at hl 7 rfl) ?_
              refine va_get (D := D) (ci := 2) (v := .int (nI (2 ^ (h + 1)))) (C := RM) (T := FM) (N := 10) hx hb hB inM hown hK hP 0 rfl rfl 9 (by decide) (hB _ wd_331) (fun _ h9 => h9) rfl dM_halve_60 ?_
              refine lv_imul hx hb dM_halve_63 ?_
              refine lv_iconst (v := 2) hx hb dM_halve_64 (by decide) ?_
              refine lv_iload_n hx hb dM_halve_65 rfl (lv_at hl 4 rfl) ?_
              refine lv_imul hx hb dM_halve_66 ?_
              refine lv_iadd hx hb dM_halve_67 ?_
              refine lv_iload hx hb dM_halve_68 (lv_at hl 0 rfl) ?_
              refine lv_iconst (v := 2) hx hb dM_halve_70 (by decide) ?_
              refine lv_irem hx hb dM_halve_71 (by decide) ?_
              refine W.eq (g2 := F0 m 72 ls [.int 1, .int ((((2 * (nI y)) + 0) * (nI (2 ^ (h + 1)))) + (2 * (nI x))), .ref a6, .int (0 + (mm_part u9 2))]) rfl ?_
              refine lv_iadd hx hb dM_halve_72 ?_
              refine W.eq (g2 := F0 m 73 ls [.int (nI ((2 * y + 0) * 2 ^ (h + 1) + 2 * x + 1)), .ref a6, .int (0 + (mm_part u9 2))]) (by exact congrArg (fun z => F0 m 73 ls (.int z :: .ref a6 :: [.int (0 + (mm_part u9 2))])) (mm_ix y x (2 ^ (h + 1)) 0 1)) ?_
              refine va_iald hx hb hK hP 6 0 (f := (mm_hp f6 h (y * 2 ^ h + x))) rfl rfl (i := nI ((2 * y + 0) * 2 ^ (h + 1) + 2 * x + 1)) (vp_in_nI (hix 0 1 (by decide) (by decide)) (by omega)) dM_halve_73 ?_
              refine W.eq (g2 := F0 m 74 ls [.int ((mm_hp f6 h (y * 2 ^ h + x)) ((2 * y + 0) * 2 ^ (h + 1) + 2 * x + 1)), .int (0 + (mm_part u9 2))]) (by rw [nI_clamp (by have := (hix 0 1 (by decide) (by decide) : (2 * y + 0) * 2 ^ (h + 1) + 2 * x + 1 < 1024); omega)]) ?_
              refine lv_topi (fun u10 eu10 => ?_)
              refine lv_iload hx hb dM_halve_74 (lv_at hl 2 rfl) ?_
              refine W.callV (W.runS (As := [.int u10, .int 2]) (rest := [.int (0 + (mm_part u9 2))]) ⟨hx, hb, hml, hown, hB⟩ (kM_part l u10 2) ⟨callB_of 2 hB gwM_part rfl rfl rfl (hB _ wd_3) (hB _ wd_405) ydM_part ⟨Nat.le_of_ble_eq_true rfl, Nat.le_of_ble_eq_true rfl⟩, hB _ wd_406⟩ (preEq) rfl rfl hl.1 rfl (lv_room (Nat.le_of_ble_eq_true rfl)) dM_halve_76 ⟨Nat.zero_le _, Nat.zero_le _⟩) ?_
              refine W.eq (g2 := F0 m 79 ls [.int (mm_part u10 2), .int (0 + (mm_part u9 2))]) rfl ?_
              refine lv_iadd hx hb dM_halve_79 ?_
              refine lv_istore (lv' := [(6, .int ((0 + (mm_part u9 2)) + (mm_part u10 2))), (7, .int 1), (5, .int 2), (4, .int (((0 + (((((0 + (mm_part u1 0)) + (mm_part u2 0)) + (mm_part u3 0)) + (mm_part u4 0)) / 4)) * 256) + (((((0 + (mm_part u5 1)) + (mm_part u6 1)) + (mm_part u7 1)) + (mm_part u8 1)) / 4))), (3, .int (nI x)), (2, .int (nI y)), (1, .int (nI (2 ^ h))), (0, .ref m0)]) hx hb dM_halve_80 hl (by decide) rfl (fun ls hl => ?_)
              refine lv_iinc (v := 2) (lv' := [(7, .int 2), (6, .int ((0 + (mm_part u9 2)) + (mm_part u10 2))), (5, .int 2), (4, .int (((0 + (((((0 + (mm_part u1 0)) + (mm_part u2 0)) + (mm_part u3 0)) + (mm_part u4 0)) / 4)) * 256) + (((((0 + (mm_part u5 1)) + (mm_part u6 1)) + (mm_part u7 1)) + (mm_part u8 1)) / 4))), (3, .int (nI x)), (2, .int (nI y)), (1, .int (nI (2 ^ h))), (0, .ref m0)]) hx hb dM_halve_82 hl (k := 1) rfl (by decide) (by decide) rfl (fun ls hl => ?_)
              refine lv_goto (tgt := 39) hx hb dM_halve_85 (by decide) ?_
              refine lv_iload hx hb dM_halve_39 (lv_at hl 0 rfl) ?_
              refine lv_iconst (v := 4) hx hb dM_halve_41 (by decide) ?_
              refine lv_icmp_ge (tgt := 88) hx hb dM_halve_42 (by decide) (fun c_18 => absurd c_18 (by decide)) (fun c_18 => ?_)
              refine lv_iload hx hb dM_halve_45 (lv_at hl 1 rfl) ?_
              refine lv_aload_n hx hb dM_halve_47 rfl (lv_at hl 7 rfl) ?_
              refine va_get (D := D) (ci := 2) (v := .ref a6) (C := RM) (T := FM) (N := 10) hx hb hB inM hown hK hP 0 rfl rfl 8 (by decide) (hB _ wd_330) (fun _ h9 => h9) rfl dM_halve_48 ?_
              refine lv_iconst (v := 2) hx hb dM_halve_51 (by decide) ?_
              refine lv_iload_n hx hb dM_halve_52 rfl (lv_at hl 5 rfl) ?_
              refine lv_imul hx hb dM_halve_53 ?_
              refine lv_iload hx hb dM_halve_54 (lv_at hl 0 rfl) ?_
              refine lv_iconst (v := 2) hx hb dM_halve_56 (by decide) ?_
              refine lv_idiv hx hb dM_halve_57 (by decide) ?_
              refine W.eq (g2 := F0 m 58 ls [.int 1, .int (2 * (nI y)), .ref a6, .int ((0 + (mm_part u9 2)) + (mm_part u10 2))]) rfl ?_
              refine lv_iadd hx hb dM_halve_58 ?_
              refine lv_aload_n hx hb dM_halve_59 rfl (lv_at hl 7 rfl) ?_
              refine va_get (D := D) (ci := 2) (v := .int (nI (2 ^ (h + 1)))) (C := RM) (T := FM) (N := 10) hx hb hB inM hown hK hP 0 rfl rfl 9 (by decide) (hB _ wd_331) (fun _ h9 => h9) rfl dM_halve_60 ?_
              refine lv_imul hx hb dM_halve_63 ?_
              refine lv_iconst (v := 2) hx hb dM_halve_64 (by decide) ?_
              refine lv_iload_n hx hb dM_halve_65 rfl (lv_at hl 4 rfl) ?_
              refine lv_imul hx hb dM_halve_66 ?_
              refine lv_iadd hx hb dM_halve_67 ?_
              refine lv_iload hx hb dM_halve_68 (lv_at hl 0 rfl) ?_
              refine lv_iconst (v := 2) hx hb dM_halve_70 (by decide) ?_
              refine lv_irem hx hb dM_halve_71 (by decide) ?_
              refine W.eq (g2 := F0 m 72 ls [.int 0, .int ((((2 * (nI y)) + 1) * (nI (2 ^ (h + 1)))) + (2 * (nI x))), .ref a6, .int ((0 + (mm_part u9 2)) + (mm_part u10 2))]) rfl ?_
              refine lv_iadd hx hb dM_halve_72 ?_
              refine W.eq (g2 := F0 m 73 ls [.int (nI ((2 * y + 1) * 2 ^ (h + 1) + 2 * x + 0)), .ref a6, .int ((0 + (mm_part u9 2)) + (mm_part u10 2))]) (by exact congrArg (fun z => F0 m 73 ls (.int z :: .ref a6 :: [.int ((0 + (mm_part u9 2)) + (mm_part u10 2))])) (mm_ix y x (2 ^ (h + 1)) 1 0)) ?_
              refine va_iald hx hb hK hP 6 0 (f := (mm_hp f6 h (y * 2 ^ h + x))) rfl rfl (i := nI ((2 * y + 1) * 2 ^ (h + 1) + 2 * x + 0)) (vp_in_nI (hix 1 0 (by decide) (by decide)) (by omega)) dM_halve_73 ?_
              refine W.eq (g2 := F0 m 74 ls [.int ((mm_hp f6 h (y * 2 ^ h + x)) ((2 * y + 1) * 2 ^ (h + 1) + 2 * x + 0)), .int ((0 + (mm_part u9 2)) + (mm_part u10 2))]) (by rw [nI_clamp (by have := (hix 1 0 (by decide) (by decide) : (2 * y + 1) * 2 ^ (h + 1) + 2 * x + 0 < 1024); omega)]) ?_
              refine lv_topi (fun u11 eu11 => ?_)
              refine lv_iload hx hb dM_halve_74 (lv_at hl 2 rfl) ?_
              refine W.callV (W.runS (As := [.int u11, .int 2]) (rest := [.int ((0 + (mm_part u9 2)) + (mm_part u10 2))]) ⟨hx, hb, hml, hown, hB⟩ (kM_part l u11 2) ⟨callB_of 2 hB gwM_part rfl rfl rfl (hB _ wd_3) (hB _ wd_405) ydM_part ⟨Nat.le_of_ble_eq_true rfl, Nat.le_of_ble_eq_true rfl⟩, hB _ wd_406⟩ (preEq) rfl rfl hl.1 rfl (lv_room (Nat.le_of_ble_eq_true rfl)) dM_halve_76 ⟨Nat.zero_le _, Nat.zero_le _⟩) ?_
              refine W.eq (g2 := F0 m 79 ls [.int (mm_part u11 2), .int ((0 + (mm_part u9 2)) + (mm_part u10 2))]) rfl ?_
              refine lv_iadd hx hb dM_halve_79 ?_
              refine lv_istore (lv' := [(6, .int (((0 + (mm_part u9 2)) + (mm_part u10 2)) + (mm_part u11 2))), (7, .int 2), (5, .int 2), (4, .int (((0 + (((((0 + (mm_part u1 0)) + (mm_part u2 0)) + (mm_part u3 0)) + (mm_part u4 0)) / 4)) * 256) + (((((0 + (mm_part u5 1)) + (mm_part u6 1)) + (mm_part u7 1)) + (mm_part u8 1)) / 4))), (3, .int (nI x)), (2, .int (nI y)), (1, .int (nI (2 ^ h))), (0, .ref m0)]) hx hb dM_halve_80 hl (by decide) rfl (fun ls hl => ?_)
              refine lv_iinc (v := 3) (lv' := [(7, .int 3), (6, .int (((0 + (mm_part u9 2)) + (mm_part u10 2)) + (mm_part u11 2))), (5, .int 2), (4, .int (((0 + (((((0 + (mm_part u1 0)) + (mm_part u2 0)) + (mm_part u3 0)) + (mm_part u4 0)) / 4)) * 256) + (((((0 + (mm_part u5 1)) + (mm_part u6 1)) + (mm_part u7 1)) + (mm_part u8 1)) / 4))), (3, .int (nI x)), (2, .int (nI y)), (1, .int (nI (2 ^ h))), (0, .ref m0)]) hx hb dM_halve_82 hl (k := 1) rfl (by decide) (by decide) rfl (fun ls hl => ?_)
              refine lv_goto (tgt := 39) hx hb dM_halve_85 (by decide) ?_
              refine lv_iload hx hb dM_halve_39 (lv_at hl 0 rfl) ?_
              refine lv_iconst (v := 4) hx hb dM_halve_41 (by decide) ?_
              refine lv_icmp_ge (tgt := 88) hx hb dM_halve_42 (by decide) (fun c_19 => absurd c_19 (by decide)) (fun c_19 => ?_)
              refine lv_iload hx hb dM_halve_45 (lv_at hl 1 rfl) ?_
              refine lv_aload_n hx hb dM_halve_47 rfl (lv_at hl 7 rfl) ?_
              refine va_get (D := D) (ci := 2) (v := .ref a6) (C := RM) (T := FM) (N := 10) hx hb hB inM hown hK hP 0 rfl rfl 8 (by decide) (hB _ wd_330) (fun _ h9 => h9) rfl dM_halve_48 ?_
              refine lv_iconst (v := 2) hx hb dM_halve_51 (by decide) ?_
              refine lv_iload_n hx hb dM_halve_52 rfl (lv_at hl 5 rfl) ?_
              refine lv_imul hx hb dM_halve_53 ?_
              refine lv_iload hx hb dM_halve_54 (lv_at hl 0 rfl) ?_
              refine lv_iconst (v := 2) hx hb dM_halve_56 (by decide) ?_
              refine lv_idiv hx hb dM_halve_57 (by decide) ?_
              refine W.eq (g2 := F0 m 58 ls [.int 1, .int (2 * (nI y)), .ref a6, .int (((0 + (mm_part u9 2)) + (mm_part u10 2)) + (mm_part u11 2))]) rfl ?_
              refine lv_iadd hx hb dM_halve_58 ?_
              refine lv_aload_n hx hb dM_halve_59 rfl (lv_at hl 7 rfl) ?_
              refine va_get (D := D) (ci := 2) (v := .int (nI (2 ^ (h + 1)))) (C := RM) (T := FM) (N := 10) hx hb hB inM hown hK hP 0 rfl rfl 9 (by decide) (hB _ wd_331) (fun _ h9 => h9) rfl dM_halve_60 ?_
              refine lv_imul hx hb dM_halve_63 ?_
              refine lv_iconst (v := 2) hx hb dM_halve_64 (by decide) ?_
              refine lv_iload_n hx hb dM_halve_65 rfl (lv_at hl 4 rfl) ?_
              refine lv_imul hx hb dM_halve_66 ?_
              refine lv_iadd hx hb dM_halve_67 ?_
              refine lv_iload hx hb dM_halve_68 (lv_at hl 0 rfl) ?_
              refine lv_iconst (v := 2) hx hb dM_halve_70 (by decide) ?_
              refine lv_irem hx hb dM_halve_71 (by decide) ?_
              refine W.eq (g2 := F0 m 72 ls [.int 1, .int ((((2 * (nI y)) + 1) * (nI (2 ^ (h + 1)))) + (2 * (nI x))), .ref a6, .int (((0 + (mm_part u9 2)) + (mm_part u10 2)) + (mm_part u11 2))]) rfl ?_
              refine lv_iadd hx hb dM_halve_72 ?_
              refine W.eq (g2 := F0 m 73 ls [.int (nI ((2 * y + 1) * 2 ^ (h + 1) + 2 * x + 1)), .ref a6, .int (((0 + (mm_part u9 2)) + (mm_part u10 2)) + (mm_part u11 2))]) (by exact congrArg (fun z => F0 m 73 ls (.int z :: .ref a6 :: [.int (((0 + (mm_part u9 2)) + (mm_part u10 2)) + (mm_part u11 2))])) (mm_ix y x (2 ^ (h + 1)) 1 1)) ?_
              refine va_iald hx hb hK hP 6 0 (f := (mm_hp f6 h (y * 2 ^ h + x))) rfl rfl (i := nI ((2 * y + 1) * 2 ^ (h + 1) + 2 * x + 1)) (vp_in_nI (hix 1 1 (by decide) (by decide)) (by omega)) dM_halve_73 ?_
              refine W.eq (g2 := F0 m 74 ls [.int ((mm_hp f6 h (y * 2 ^ h + x)) ((2 * y + 1) * 2 ^ (h + 1) + 2 * x + 1)), .int (((0 + (mm_part u9 2)) + (mm_part u10 2)) + (mm_part u11 2))]) (by rw [nI_clamp (by have := (hix 1 1 (by decide) (by decide) : (2 * y + 1) * 2 ^ (h + 1) + 2 * x + 1 < 1024); omega)]) ?_
              refine lv_topi (fun u12 eu12 => ?_)
              refine lv_iload hx hb dM_halve_74 (lv_at hl 2 rfl) ?_
              refine W.callV (W.runS (As := [.int u12, .int 2]) (rest := [.int (((0 + (mm_part u9 2)) + (mm_part u10 2)) + (mm_part u11 2))]) ⟨hx, hb, hml, hown, hB⟩ (kM_part l u12 2) ⟨callB_of 2 hB gwM_part rfl rfl rfl (hB _ wd_3) (hB _ wd_405) ydM_part ⟨Nat.le_of_ble_eq_true rfl, Nat.le_of_ble_eq_true rfl⟩, hB _ wd_406⟩ (preEq) rfl rfl hl.1 rfl (lv_room (Nat.le_of_ble_eq_true rfl)) dM_halve_76 ⟨Nat.zero_le _, Nat.zero_le _⟩) ?_
              refine W.eq (g2 := F0 m 79 ls [.int (mm_part u12 2), .int (((0 + (mm_part u9 2)) + (mm_part u10 2)) + (mm_part u11 2))]) rfl ?_
              refine lv_iadd hx hb dM_halve_79 ?_
              refine lv_istore (lv' := [(6, .int ((((0 + (mm_part u9 2)) + (mm_part u10 2)) + (mm_part u11 2)) + (mm_part u12 2))), (7, .int 3), (5, .int 2), (4, .int (((0 + (((((0 + (mm_part u1 0)) + (mm_part u2 0)) + (mm_part u3 0)) + (mm_part u4 0)) / 4)) * 256) + (((((0 + (mm_part u5 1)) + (mm_part u6 1)) + (mm_part u7 1)) + (mm_part u8 1)) / 4))), (3, .int (nI x)), (2, .int (nI y)), (1, .int (nI (2 ^ h))), (0, .ref m0)]) hx hb dM_halve_80 hl (by decide) rfl (fun ls hl => ?_)
              refine lv_iinc (v := 4) (lv' := [(7, .int 4), (6, .int ((((0 + (mm_part u9 2)) + (mm_part u10 2)) + (mm_part u11 2)) + (mm_part u12 2))), (5, .int 2), (4, .int (((0 + (((((0 + (mm_part u1 0)) + (mm_part u2 0)) + (mm_part u3 0)) + (mm_part u4 0)) / 4)) * 256) + (((((0 + (mm_part u5 1)) + (mm_part u6 1)) + (mm_part u7 1)) + (mm_part u8 1)) / 4))), (3, .int (nI x)), (2, .int (nI y)), (1, .int (nI (2 ^ h))), (0, .ref m0)]) hx hb dM_halve_82 hl (k := 1) rfl (by decide) (by decide) rfl (fun ls hl => ?_)
              refine lv_goto (tgt := 39) hx hb dM_halve_85 (by decide) ?_
              refine lv_iload hx hb dM_halve_39 (lv_at hl 0 rfl) ?_
              refine lv_iconst (v := 4) hx hb dM_halve_41 (by decide) ?_
              refine lv_icmp_ge (tgt := 88) hx hb dM_halve_42 (by decide) (fun c_20 => ?_) (fun c_20 => absurd c_20 (by decide))
              refine lv_iload hx hb dM_halve_88 (lv_at hl 3 rfl) ?_
              refine lv_sipush (v := 256) hx hb dM_halve_90 (by decide) ?_
              refine lv_imul hx hb dM_halve_93 ?_
              refine lv_iload hx hb dM_halve_94 (lv_at hl 1 rfl) ?_
              refine lv_iconst (v := 4) hx hb dM_halve_96 (by decide) ?_
              refine lv_idiv hx hb dM_halve_97 (by decide) ?_
              refine lv_iadd hx hb dM_halve_98 ?_
              refine lv_istore (lv' := [(4, .int (((((0 + (((((0 + (mm_part u1 0)) + (mm_part u2 0)) + (mm_part u3 0)) + (mm_part u4 0)) / 4)) * 256) + (((((0 + (mm_part u5 1)) + (mm_part u6 1)) + (mm_part u7 1)) + (mm_part u8 1)) / 4)) * 256) + (((((0 + (mm_part u9 2)) + (mm_part u10 2)) + (mm_part u11 2)) + (mm_part u12 2)) / 4))), (7, .int 4), (6, .int ((((0 + (mm_part u9 2)) + (mm_part u10 2)) + (mm_part u11 2)) + (mm_part u12 2))), (5, .int 2), (3, .int (nI x)), (2, .int (nI y)), (1, .int (nI (2 ^ h))), (0, .ref m0)]) hx hb dM_halve_99 hl (by decide) rfl (fun ls hl => ?_)
              refine lv_iinc (v := 3) (lv' := [(5, .int 3), (4, .int (((((0 + (((((0 + (mm_part u1 0)) + (mm_part u2 0)) + (mm_part u3 0)) + (mm_part u4 0)) / 4)) * 256) + (((((0 + (mm_part u5 1)) + (mm_part u6 1)) + (mm_part u7 1)) + (mm_part u8 1)) / 4)) * 256) + (((((0 + (mm_part u9 2)) + (mm_part u10 2)) + (mm_part u11 2)) + (mm_part u12 2)) / 4))), (7, .int 4), (6, .int ((((0 + (mm_part u9 2)) + (mm_part u10 2)) + (mm_part u11 2)) + (mm_part u12 2))), (3, .int (nI x)), (2, .int (nI y)), (1, .int (nI (2 ^ h))), (0, .ref m0)]) hx hb dM_halve_101 hl (k := 3) rfl (by decide) (by decide) rfl (fun ls hl => ?_)
              refine lv_goto (tgt := 27) hx hb dM_halve_104 (by decide) ?_
              refine lv_iload hx hb dM_halve_27 (lv_at hl 0 rfl) ?_
              refine lv_iconst (v := 3) hx hb dM_halve_29 (by decide) ?_
              refine lv_icmp_ge (tgt := 107) hx hb dM_halve_30 (by decide) (fun c_21 => ?_) (fun c_21 => absurd c_21 (by decide))
              refine lv_aload_n hx hb dM_halve_107 rfl (lv_at hl 7 rfl) ?_
              refine va_get (D := D) (ci := 2) (v := .ref a6) (C := RM) (T := FM) (N := 10) hx hb hB inM hown hK hP 0 rfl rfl 8 (by decide) (hB _ wd_330) (fun _ h9 => h9) rfl dM_halve_108 ?_
              refine lv_iload_n hx hb dM_halve_111 rfl (lv_at hl 5 rfl) ?_
              refine lv_iload_n hx hb dM_halve_112 rfl (lv_at hl 6 rfl) ?_
              refine lv_imul hx hb dM_halve_113 ?_
              refine lv_iload_n hx hb dM_halve_114 rfl (lv_at hl 4 rfl) ?_
              refine lv_iadd hx hb dM_halve_115 ?_
              refine lv_iload hx hb dM_halve_116 (lv_at hl 1 rfl) ?_
              refine lv_topi (fun vv evv => ?_)
              have evv : vv = mm_hv f6 h (y * 2 ^ h + x) := by rw [evv, eu12, eu11, eu10, eu9, eu8, eu7, eu6, eu5, eu4, eu3, eu2, eu1]; exact mm_hvs f6 hh hxl hyl
              refine W.eq (g2 := F0 m 118 ls [.int vv, .int (nI (y * 2 ^ h + x)), .ref a6]) (by rw [pk_mul, nI_add]) ?_
              refine va_iast hx hb hK hP hD hS 6 0 rfl rfl (vp_in_nI (mm_nl hh hxl hyl) (by omega)) dM_halve_118 (fun H locs hP hD hS => ?_)
              have hP : va_P D tbCl [(m0, .inr (2, [.int th, .int mn, .ref a1, .ref a2, .ref a3, .ref a4, .int zz, .ref a5, .ref a6, .int (nI (2 ^ (h + 1)))])), (a1, .inl (cI, 8, .inl f1)), (a2, .inl (cI, 8, .inl f2)), (a3, .inl (cI, 8, .inl f3)), (a4, .inl (cI, 8192, .inl f4)), (a5, .inl (cI, 1024, .inl f5)), (a6, .inl (cI, 1024, .inl (mm_hp f6 h (y * 2 ^ h + x + 1))))] H := by
                have hP9 := hP
                rw [nI_clamp (by have := (mm_nl hh hxl hyl : y * 2 ^ h + x < 1024); omega)] at hP9
                rw [evv] at hP9
                have hP9 : va_P D tbCl [(m0, .inr (2, [.int th, .int mn, .ref a1, .ref a2, .ref a3, .ref a4, .int zz, .ref a5, .ref a6, .int (nI (2 ^ (h + 1)))])), (a1, .inl (cI, 8, .inl f1)), (a2, .inl (cI, 8, .inl f2)), (a3, .inl (cI, 8, .inl f3)), (a4, .inl (cI, 8192, .inl f4)), (a5, .inl (cI, 1024, .inl f5)), (a6, .inl (cI, 1024, .inl (upd (mm_hp f6 h (y * 2 ^ h + x)) (y * 2 ^ h + x) (mm_hv f6 h (y * 2 ^ h + x)))))] H := hP9
                rw [mm_hp1] at hP9
                exact hP9
              have hD : va_D A [(m0, .inr (2, [.int th, .int mn, .ref a1, .ref a2, .ref a3, .ref a4, .int zz, .ref a5, .ref a6, .int (nI (2 ^ (h + 1)))])), (a1, .inl (cI, 8, .inl f1)), (a2, .inl (cI, 8, .inl f2)), (a3, .inl (cI, 8, .inl f3)), (a4, .inl (cI, 8192, .inl f4)), (a5, .inl (cI, 1024, .inl f5)), (a6, .inl (cI, 1024, .inl (mm_hp f6 h (y * 2 ^ h + x + 1))))] := wd_D hD rfl
              obtain ⟨i_22, ei_22⟩ : ∃ z9 : Int32, z9 = (nI x) + 1 := ⟨_, rfl⟩
              refine lv_iinc (v := i_22) (lv' := [(3, .int i_22), (5, .int 3), (4, .int (((((0 + (((((0 + (mm_part u1 0)) + (mm_part u2 0)) + (mm_part u3 0)) + (mm_part u4 0)) / 4)) * 256) + (((((0 + (mm_part u5 1)) + (mm_part u6 1)) + (mm_part u7 1)) + (mm_part u8 1)) / 4)) * 256) + (((((0 + (mm_part u9 2)) + (mm_part u10 2)) + (mm_part u11 2)) + (mm_part u12 2)) / 4))), (7, .int 4), (6, .int ((((0 + (mm_part u9 2)) + (mm_part u10 2)) + (mm_part u11 2)) + (mm_part u12 2))), (2, .int (nI y)), (1, .int (nI (2 ^ h))), (0, .ref m0)]) hx hb dM_halve_119 hl (k := 4) rfl (by rw [ei_22]; rfl) (by decide) rfl (fun ls hl => ?_)
              refine lv_goto (tgt := 16) hx hb dM_halve_122 (by decide) ?_
              have e9 : y * 2 ^ h + x + 1 = y * 2 ^ h + (x + 1) := by omega
              rw [e9] at hP hD
              exact ihx (x + 1) H locs (by omega) (by omega) hP hD hS ls (by have hl := lv_sub hl [0, 5, 6, 7] rfl; rw [ei_22, nI_1] at hl; exact hl)
        exact inner (2 ^ h + 1) 0 H locs (Nat.zero_le _) (by omega) hP hD hS ls (lv_sub hl [0, 1, 2, 3] rfl)
  refine lv_aload_n hx hb dM_halve_0 rfl (lv_at hl 0 rfl) ?_
  refine va_get (D := D) (ci := 2) (v := .int (nI (2 ^ (h + 1)))) (C := RM) (T := FM) (N := 10) hx hb hB inM hown hK hP 0 rfl rfl 9 (by decide) (hB _ wd_331) (fun _ h9 => h9) rfl dM_halve_1 ?_
  refine lv_iconst (v := 2) hx hb dM_halve_4 (by decide) ?_
  refine lv_idiv hx hb dM_halve_5 (by decide) ?_
  refine lv_istore_n (lv' := [(1, .int ((nI (2 ^ (h + 1))) / 2)), (0, .ref m0)]) hx hb dM_halve_6 rfl hl (by decide) rfl (fun ls hl => ?_)
  refine lv_iconst (v := 0) hx hb dM_halve_7 (by decide) ?_
  refine lv_istore_n (lv' := [(2, .int 0), (1, .int ((nI (2 ^ (h + 1))) / 2)), (0, .ref m0)]) hx hb dM_halve_8 rfl hl (by decide) rfl (fun ls hl => ?_)
  exact loop (2 ^ h + 1) 0 s.heap [] (Nat.zero_le _) (by omega) (by rw [Nat.zero_mul, mm_hp0]; exact hP) (wd_D hD rfl) hS ls (by have hl := lv_sub hl [0, 1, 2] rfl; rw [tt_hv (by omega), tt_hs] at hl; exact hl)
