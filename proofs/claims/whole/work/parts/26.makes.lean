theorem mm_cp3 (f g : Nat → Int32) (d : Nat) : va_cpy f g d 0 0 = g := by
  funext i
  unfold va_cpy
  rw [if_neg (by omega)]
theorem mm_cp2 (f g : Nat → Int32) (d t : Nat) : upd (va_cpy f g d 0 t) t (f (d + t)) = va_cpy f g d 0 (t + 1) := by
  funext i
  unfold upd va_cpy
  by_cases h : i = t
  · subst h
    rw [if_pos rfl, if_pos (by omega), Nat.sub_zero]
  · rw [if_neg h]
    by_cases h2 : 0 ≤ i ∧ i < 0 + t
    · rw [if_pos h2, if_pos (by omega)]
    · rw [if_neg h2, if_neg (by omega)]
/-- i halvings of a level of side 2^k -/
def mm_hs (f : Nat → Int32) (k : Nat) : Nat → (Nat → Int32)
  | 0 => f
  | i + 1 => mm_hp (mm_hs f k i) (k - i - 1) (4 ^ (k - i - 1))
theorem mm_nl5 {e x y : Nat} (he : e ≤ 5) (hx : x < 2 ^ e) (hy : y < 2 ^ e) : y * 2 ^ e + x < 1024 := by
  obtain ⟨h1, h2, h3, h4, h5⟩ := tt_pw e he
  have hyk : y * 2 ^ e + 2 ^ e ≤ 4 ^ e := by
    have : (y + 1) * 2 ^ e ≤ 2 ^ e * 2 ^ e := Nat.mul_le_mul_right _ hy
    rw [Nat.succ_mul, h4] at this
    exact this
  have : 4 ^ e ≤ 4 ^ 5 := Nat.pow_le_pow_right (by decide) he
  omega
def mm_ss (c1 c2 c3 c4 : Int32) (g k : Int64) (w : Int32) : Int64 := (((0 + (mm_part c1 w).toInt64 * (256 - g) * (256 - k)) + (mm_part c2 w).toInt64 * g * (256 - k)) + (mm_part c3 w).toInt64 * (256 - g) * k) + (mm_part c4 w).toInt64 * g * k
def mm_soft2 (c1 c2 c3 c4 : Int32) (g k : Int64) : Int32 := ((0 + (mm_ss c1 c2 c3 c4 g k 0 / 65536).toInt32) * 256 + (mm_ss c1 c2 c3 c4 g k 1 / 65536).toInt32) * 256 + (mm_ss c1 c2 c3 c4 g k 2 / 65536).toInt32
set_option maxHeartbeats 4000000 in
set_option maxRecDepth 100000 in
theorem kM_makes (l : Launch) (D : va_G) (sz : Nat) (cI : ClassId) (m0 a1 a2 a3 a4 a5 a6 : Nat) (th mn zz si : Int32) (f1 f2 f3 f4 f5 f6 : Nat → Int32) (j k L : Nat) (hj : j < 8) (hk : k ≤ 5) (hL : L ≤ k) (hf : f1 j = nI (2 ^ k)) : Met l yM_makes wM_makes (k2_rm 2 48) (wr_P [.ref m0, .int (nI j), .int (nI L)] sz D [(cI, .int)] [(m0, .inr (2, [.int th, .int mn, .ref a1, .ref a2, .ref a3, .ref a4, .int zz, .ref a5, .ref a6, .int si])), (a1, .inl (cI, 8, .inl f1)), (a2, .inl (cI, 8, .inl f2)), (a3, .inl (cI, 8, .inl f3)), (a4, .inl (cI, 8192, .inl f4)), (a5, .inl (cI, 1024, .inl f5)), (a6, .inl (cI, 1024, .inl f6))]) (wr_Qv D (va_A [(m0, .inr (2, [.int th, .int mn, .ref a1, .ref a2, .ref a3, .ref a4, .int zz, .ref a5, .ref a6, .int si])), (a1, .inl (cI, 8, .inl f1)), (a2, .inl (cI, 8, .inl f2)), (a3, .inl (cI, 8, .inl f3)), (a4, .inl (cI, 8192, .inl f4)), (a5, .inl (cI, 1024, .inl f5)), (a6, .inl (cI, 1024, .inl f6))] sz) [(m0, .inr (2, [.int th, .int mn, .ref a1, .ref a2, .ref a3, .ref a4, .int zz, .ref a5, .ref a6, .int (nI (2 ^ (k - L)))])), (a1, .inl (cI, 8, .inl f1)), (a2, .inl (cI, 8, .inl f2)), (a3, .inl (cI, 8, .inl f3)), (a4, .inl (cI, 8192, .inl f4)), (a5, .inl (cI, 1024, .inl f5)), (a6, .inl (cI, 1024, .inl (mm_hs (va_cpy f4 f6 (1024 * j) 0 (4 ^ k)) k L)))]) 0 0 (va_A [(m0, .inr (2, [.int th, .int mn, .ref a1, .ref a2, .ref a3, .ref a4, .int zz, .ref a5, .ref a6, .int si])), (a1, .inl (cI, 8, .inl f1)), (a2, .inl (cI, 8, .inl f2)), (a3, .inl (cI, 8, .inl f3)), (a4, .inl (cI, 8192, .inl f4)), (a5, .inl (cI, 1024, .inl f5)), (a6, .inl (cI, 1024, .inl f6))] sz) := by
  refine Met.ofW (cc := cM_makes) (maxL := 4) (ret := none) (by decide) rfl ?_
  intro p e s m args below meth c s₁ B hml hv
  obtain ⟨rfl, hsz, hC, hP, hK, hD0⟩ := hv
  have hx := B.exec
  have hb := B.bytes
  have hr := B.returns
  have hB : ∀ w ∈ tbB, w.before _ s = true := fun w h => (atoms_spec (ws := wM_makes) B.pre) w (List.mem_cons_of_mem _ h)
  have hown : s.vm.findClass "TextureBankModel" = some m.cls := findClass_of_methodNamed B.named
  have hlocks := B.notSynchronized
  subst hsz
  have hD := hD0.self (sz := s.heap.size)
  generalize hAe : va_A [(m0, .inr (2, [.int th, .int mn, .ref a1, .ref a2, .ref a3, .ref a4, .int zz, .ref a5, .ref a6, .int si])), (a1, .inl (cI, 8, .inl f1)), (a2, .inl (cI, 8, .inl f2)), (a3, .inl (cI, 8, .inl f3)), (a4, .inl (cI, 8192, .inl f4)), (a5, .inl (cI, 1024, .inl f5)), (a6, .inl (cI, 1024, .inl f6))] s.heap.size = A at hD ⊢
  have hA : ∀ q : Nat, s.heap.size ≤ q → A q := fun q h => by rw [← hAe]; exact Or.inr h
  have hS : va_S A s.heap s.heap [] := va_S.rf
  have hl := lv_entry ([.ref m0, .int (nI j), .int (nI L)]) (n := 4) (Nat.le_of_ble_eq_true rfl)
  rw [lg_entry_eq]
  generalize (lg_sl ([.ref m0, .int (nI j), .int (nI L)]) ++ List.replicate (4 - (lg_sl ([.ref m0, .int (nI j), .int (nI L)])).length) Slot.unset).toArray = ls at hl ⊢
  have hl : lv_has ls 4 [(0, .ref m0), (1, .int (nI j)), (2, .int (nI L))] := hl
  obtain ⟨hp1, hp2, hp3, hp4, hp5⟩ := tt_pw k hk
  have hp6 : 4 ^ k ≤ 1024 := by rw [← hp4]; exact Nat.mul_le_mul hp1 hp1
  have loop2 : ∀ (n i : Nat) (H : Heap) (locs : List Loc), i ≤ L → L + 1 ≤ i + n → va_P D tbCl [(m0, .inr (2, [.int th, .int mn, .ref a1, .ref a2, .ref a3, .ref a4, .int zz, .ref a5, .ref a6, .int (nI (2 ^ (k - i)))])), (a1, .inl (cI, 8, .inl f1)), (a2, .inl (cI, 8, .inl f2)), (a3, .inl (cI, 8, .inl f3)), (a4, .inl (cI, 8192, .inl f4)), (a5, .inl (cI, 1024, .inl f5)), (a6, .inl (cI, 1024, .inl (mm_hs (va_cpy f4 f6 (1024 * j) 0 (4 ^ k)) k i)))] H → va_D A [(m0, .inr (2, [.int th, .int mn, .ref a1, .ref a2, .ref a3, .ref a4, .int zz, .ref a5, .ref a6, .int (nI (2 ^ (k - i)))])), (a1, .inl (cI, 8, .inl f1)), (a2, .inl (cI, 8, .inl f2)), (a3, .inl (cI, 8, .inl f3)), (a4, .inl (cI, 8192, .inl f4)), (a5, .inl (cI, 1024, .inl f5)), (a6, .inl (cI, 1024, .inl (mm_hs (va_cpy f4 f6 (1024 * j) 0 (4 ^ k)) k i)))] → va_S A s.heap H locs → ∀ ls : Array Slot, lv_has ls 4 [(3, .int (nI i)), (0, .ref m0), (1, .int (nI j)), (2, .int (nI L))] → W p l e (headSpec wM_makes (k2_rm 2 48)).room s m (#[.ref m0, .int (nI j), .int (nI L)] : Array Value) below meth c H locs 0 0 (MQ below (wr_Qv D A [(m0, .inr (2, [.int th, .int mn, .ref a1, .ref a2, .ref a3, .ref a4, .int zz, .ref a5, .ref a6, .int (nI (2 ^ (k - L)))])), (a1, .inl (cI, 8, .inl f1)), (a2, .inl (cI, 8, .inl f2)), (a3, .inl (cI, 8, .inl f3)), (a4, .inl (cI, 8192, .inl f4)), (a5, .inl (cI, 1024, .inl f5)), (a6, .inl (cI, 1024, .inl (mm_hs (va_cpy f4 f6 (1024 * j) 0 (4 ^ k)) k L)))]) (#[.ref m0, .int (nI j), .int (nI L)] : Array Value) s 0 0 A) (F0 m 51 ls []) := by
    intro n
    induction n with
    | zero => intro i H locs h1 h2; exact absurd h2 (by omega)
    | succ n ih =>
      intro i H locs hi hn hP hD hS ls hl
      refine lv_iload_n hx hb dM_makes_51 rfl (lv_at hl 0 rfl) ?_
      refine lv_iload_n hx hb dM_makes_52 rfl (lv_at hl 3 rfl) ?_
      refine lv_icmp_ge (tgt := 66) hx hb dM_makes_53 (by decide) (fun c_1 => ?_) (fun c_1 => ?_)
      · have hie : i = L := by
          rcases Nat.lt_or_ge i L with q | q
          · exact absurd c_1 (nI_ge q (by omega))
          · omega
        subst hie
        exact W.vret hx hb hr (fun t ht hW => ⟨⟨(), rfl, trivial, (by have h9 := hP; rw [← ht] at h9; exact h9)⟩, hS.F ht⟩) hS.2.2 dM_makes_66
      · refine lv_aload_n hx hb dM_makes_56 rfl (lv_at hl 1 rfl) ?_
        have hil : i < L := by
          rcases Nat.lt_or_ge i L with q | q
          · exact q
          · exact absurd (nI_le q (by omega)) c_1
        have e9 : k - i = (k - i - 1) + 1 := by omega
        have e8 : k - (i + 1) = k - i - 1 := by omega
        rw [e9] at hP hD
        have hFc := va_free (wc := [(m0, .inr (2, [.int th, .int mn, .ref a1, .ref a2, .ref a3, .ref a4, .int zz, .ref a5, .ref a6, .int (nI (2 ^ ((k - i - 1) + 1)))])), (a1, .inl (cI, 8, .inl f1)), (a2, .inl (cI, 8, .inl f2)), (a3, .inl (cI, 8, .inl f3)), (a4, .inl (cI, 8192, .inl f4)), (a5, .inl (cI, 1024, .inl f5)), (a6, .inl (cI, 1024, .inl (mm_hs (va_cpy f4 f6 (1024 * j) 0 (4 ^ k)) k i)))]) hD hS hA [0, 1, 2, 3, 4, 5, 6] rfl
        refine va_callv (va_runV (C := "TextureBankModel") (As := []) (rest := []) ⟨hx, hb, hml, hown, hB⟩ (kM_halve l D H.size cI m0 a1 a2 a3 a4 a5 a6 th mn zz f1 f2 f3 f4 f5 (mm_hs (va_cpy f4 f6 (1024 * j) 0 (4 ^ k)) k i) (k - i - 1) (by omega)) ⟨callB_of 0 hB gwM_halve rfl rfl rfl (hB _ wd_3) (hB _ wd_401) ydM_halve ⟨Nat.le_of_ble_eq_true rfl, Nat.le_of_ble_eq_true rfl⟩, hB _ wd_403, hB _ ws_15⟩ (wr_V hC (hP.sub [0, 1, 2, 3, 4, 5, 6] rfl) (hK.sub [0] rfl) (hD.sub [0, 1, 2, 3, 4, 5, 6] (by decide) rfl) (va_recv hK hP (ci := 2) (q0 := 0) rfl rfl)) rfl rfl hl.1 rfl (lv_room (Nat.le_of_ble_eq_true rfl)) dM_makes_57 ⟨Nat.zero_le _, Nat.zero_le _⟩) hS (fun q _ h => hFc q h) hFc (fun u t H1 locs ht hvm hw hB1 hz1 hk1 hS => ?_)
        have hP1 : va_P D tbCl [(m0, .inr (2, [.int th, .int mn, .ref a1, .ref a2, .ref a3, .ref a4, .int zz, .ref a5, .ref a6, .int (nI (2 ^ (k - i - 1)))])), (a1, .inl (cI, 8, .inl f1)), (a2, .inl (cI, 8, .inl f2)), (a3, .inl (cI, 8, .inl f3)), (a4, .inl (cI, 8192, .inl f4)), (a5, .inl (cI, 1024, .inl f5)), (a6, .inl (cI, 1024, .inl (mm_hp (mm_hs (va_cpy f4 f6 (1024 * j) 0 (4 ^ k)) k i) (k - i - 1) (4 ^ (k - i - 1)))))] H1 := by have h9 := hB1; rw [← ht]; exact h9
        have hP : va_P D tbCl [(m0, .inr (2, [.int th, .int mn, .ref a1, .ref a2, .ref a3, .ref a4, .int zz, .ref a5, .ref a6, .int (nI (2 ^ (k - i - 1)))])), (a1, .inl (cI, 8, .inl f1)), (a2, .inl (cI, 8, .inl f2)), (a3, .inl (cI, 8, .inl f3)), (a4, .inl (cI, 8192, .inl f4)), (a5, .inl (cI, 1024, .inl f5)), (a6, .inl (cI, 1024, .inl (mm_hp (mm_hs (va_cpy f4 f6 (1024 * j) 0 (4 ^ k)) k i) (k - i - 1) (4 ^ (k - i - 1)))))] H1 := wd_back hP hD [0, 1, 2, 3, 4, 5, 6] rfl hk1 hP1 (by intro k q hq; match k, hq with | 0, hq => exact Or.inl ⟨0, hq⟩ | 1, hq => exact Or.inl ⟨1, hq⟩ | 2, hq => exact Or.inl ⟨2, hq⟩ | 3, hq => exact Or.inl ⟨3, hq⟩ | 4, hq => exact Or.inl ⟨4, hq⟩ | 5, hq => exact Or.inl ⟨5, hq⟩ | 6, hq => exact Or.inl ⟨6, hq⟩ | k + 7, hq => simp at hq)
        have hD : va_D A [(m0, .inr (2, [.int th, .int mn, .ref a1, .ref a2, .ref a3, .ref a4, .int zz, .ref a5, .ref a6, .int (nI (2 ^ (k - i - 1)))])), (a1, .inl (cI, 8, .inl f1)), (a2, .inl (cI, 8, .inl f2)), (a3, .inl (cI, 8, .inl f3)), (a4, .inl (cI, 8192, .inl f4)), (a5, .inl (cI, 1024, .inl f5)), (a6, .inl (cI, 1024, .inl (mm_hp (mm_hs (va_cpy f4 f6 (1024 * j) 0 (4 ^ k)) k i) (k - i - 1) (4 ^ (k - i - 1)))))] := wd_D hD rfl
        generalize H1 = H at hP hS ⊢
        have hP : va_P D tbCl [(m0, .inr (2, [.int th, .int mn, .ref a1, .ref a2, .ref a3, .ref a4, .int zz, .ref a5, .ref a6, .int (nI (2 ^ (k - (i + 1))))])), (a1, .inl (cI, 8, .inl f1)), (a2, .inl (cI, 8, .inl f2)), (a3, .inl (cI, 8, .inl f3)), (a4, .inl (cI, 8192, .inl f4)), (a5, .inl (cI, 1024, .inl f5)), (a6, .inl (cI, 1024, .inl (mm_hs (va_cpy f4 f6 (1024 * j) 0 (4 ^ k)) k (i + 1))))] H := by rw [e8]; exact hP
        have hD : va_D A [(m0, .inr (2, [.int th, .int mn, .ref a1, .ref a2, .ref a3, .ref a4, .int zz, .ref a5, .ref a6, .int (nI (2 ^ (k - (i + 1))))])), (a1, .inl (cI, 8, .inl f1)), (a2, .inl (cI, 8, .inl f2)), (a3, .inl (cI, 8, .inl f3)), (a4, .inl (cI, 8192, .inl f4)), (a5, .inl (cI, 1024, .inl f5)), (a6, .inl (cI, 1024, .inl (mm_hs (va_cpy f4 f6 (1024 * j) 0 (4 ^ k)) k (i + 1))))] := wd_D hD rfl
        refine W.eq (g2 := F0 m 60 ls []) rfl ?_
        obtain ⟨i_3, ei_3⟩ : ∃ z9 : Int32, z9 = (nI i) + 1 := ⟨_, rfl⟩
        refine lv_iinc (v := i_3) (lv' := [(3, .int i_3), (0, .ref m0), (1, .int (nI j)), (2, .int (nI L))]) hx hb dM_makes_60 hl (k := 0) rfl (by rw [ei_3]; rfl) (by decide) rfl (fun ls hl => ?_)
        refine lv_goto (tgt := 51) hx hb dM_makes_63 (by decide) ?_
        exact ih (i + 1) H locs (by omega) (by omega) hP hD hS ls (by have hl := lv_sub hl [0, 1, 2, 3] rfl; rw [ei_3, nI_1] at hl; exact hl)
  have loop1 : ∀ (n t : Nat) (H : Heap) (locs : List Loc), t ≤ 4 ^ k → 4 ^ k + 1 ≤ t + n → va_P D tbCl [(m0, .inr (2, [.int th, .int mn, .ref a1, .ref a2, .ref a3, .ref a4, .int zz, .ref a5, .ref a6, .int (nI (2 ^ k))])), (a1, .inl (cI, 8, .inl f1)), (a2, .inl (cI, 8, .inl f2)), (a3, .inl (cI, 8, .inl f3)), (a4, .inl (cI, 8192, .inl f4)), (a5, .inl (cI, 1024, .inl f5)), (a6, .inl (cI, 1024, .inl (va_cpy f4 f6 (1024 * j) 0 t)))] H → va_D A [(m0, .inr (2, [.int th, .int mn, .ref a1, .ref a2, .ref a3, .ref a4, .int zz, .ref a5, .ref a6, .int (nI (2 ^ k))])), (a1, .inl (cI, 8, .inl f1)), (a2, .inl (cI, 8, .inl f2)), (a3, .inl (cI, 8, .inl f3)), (a4, .inl (cI, 8192, .inl f4)), (a5, .inl (cI, 1024, .inl f5)), (a6, .inl (cI, 1024, .inl (va_cpy f4 f6 (1024 * j) 0 t)))] → va_S A s.heap H locs → ∀ ls : Array Slot, lv_has ls 4 [(3, .int (nI t)), (0, .ref m0), (1, .int (nI j)), (2, .int (nI L))] → W p l e (headSpec wM_makes (k2_rm 2 48)).room s m (#[.ref m0, .int (nI j), .int (nI L)] : Array Value) below meth c H locs 0 0 (MQ below (wr_Qv D A [(m0, .inr (2, [.int th, .int mn, .ref a1, .ref a2, .ref a3, .ref a4, .int zz, .ref a5, .ref a6, .int (nI (2 ^ (k - L)))])), (a1, .inl (cI, 8, .inl f1)), (a2, .inl (cI, 8, .inl f2)), (a3, .inl (cI, 8, .inl f3)), (a4, .inl (cI, 8192, .inl f4)), (a5, .inl (cI, 1024, .inl f5)), (a6, .inl (cI, 1024, .inl (mm_hs (va_cpy f4 f6 (1024 * j) 0 (4 ^ k)) k L)))]) (#[.ref m0, .int (nI j), .int (nI L)] : Array Value) s 0 0 A) (F0 m 12 ls []) := by
    intro n
    induction n with
    | zero => intro t H locs h1 h2; exact absurd h2 (by omega)
    | succ n ih =>
      intro t H locs ht hn hP hD hS ls hl
      refine lv_iload_n hx hb dM_makes_12 rfl (lv_at hl 0 rfl) ?_
      refine lv_aload_n hx hb dM_makes_13 rfl (lv_at hl 1 rfl) ?_
      refine va_get (D := D) (ci := 2) (v := .int (nI (2 ^ k))) (C := RM) (T := FM) (N := 10) hx hb hB inM hown hK hP 0 rfl rfl 9 (by decide) (hB _ wd_331) (fun _ h9 => h9) rfl dM_makes_14 ?_
      refine lv_aload_n hx hb dM_makes_17 rfl (lv_at hl 1 rfl) ?_
      refine va_get (D := D) (ci := 2) (v := .int (nI (2 ^ k))) (C := RM) (T := FM) (N := 10) hx hb hB inM hown hK hP 0 rfl rfl 9 (by decide) (hB _ wd_331) (fun _ h9 => h9) rfl dM_makes_18 ?_
      refine lv_imul hx hb dM_makes_21 ?_
      refine lv_icmp_ge (tgt := 49) hx hb dM_makes_22 (by decide) (fun c_1 => ?_) (fun c_1 => ?_)
      · have hte : t = 4 ^ k := by
          rcases Nat.lt_or_ge t (4 ^ k) with q | q
          · have h9 := c_1
            rw [pk_mul, hp4] at h9
            exact absurd h9 (nI_ge q (by omega))
          · omega
        rw [hte] at hP hD
        refine lv_iconst (v := 0) hx hb dM_makes_49 (by decide) ?_
        refine lv_istore_n (lv' := [(3, .int 0), (0, .ref m0), (1, .int (nI j)), (2, .int (nI L))]) hx hb dM_makes_50 rfl hl (by decide) rfl (fun ls hl => ?_)
        exact loop2 (L + 1) 0 H locs (Nat.zero_le _) (by omega) hP (wd_D hD rfl) hS ls (lv_sub hl [0, 1, 2, 3] rfl)
      · have htl : t < 4 ^ k := by
          rcases Nat.lt_or_ge t (4 ^ k) with q | q
          · exact q
          · exact absurd (by rw [pk_mul, hp4]; exact nI_le q (by omega)) c_1
        refine lv_aload_n hx hb dM_makes_25 rfl (lv_at hl 1 rfl) ?_
        refine va_get (D := D) (ci := 2) (v := .ref a6) (C := RM) (T := FM) (N := 10) hx hb hB inM hown hK hP 0 rfl rfl 8 (by decide) (hB _ wd_330) (fun _ h9 => h9) rfl dM_makes_26 ?_
        refine lv_iload_n hx hb dM_makes_29 rfl (lv_at hl 0 rfl) ?_
        refine lv_aload_n hx hb dM_makes_30 rfl (lv_at hl 1 rfl) ?_
        refine va_get (D := D) (ci := 2) (v := .ref a4) (C := RM) (T := FM) (N := 10) hx hb hB inM hown hK hP 0 rfl rfl 5 (by decide) (hB _ wd_327) (fun _ h9 => h9) rfl dM_makes_31 ?_
        refine lv_sipush (v := 1024) hx hb dM_makes_34 (by decide) ?_
        refine lv_iload_n hx hb dM_makes_37 rfl (lv_at hl 2 rfl) ?_
        refine lv_imul hx hb dM_makes_38 ?_
        refine lv_iload_n hx hb dM_makes_39 rfl (lv_at hl 0 rfl) ?_
        refine lv_iadd hx hb dM_makes_40 ?_
        refine W.eq (g2 := F0 m 41 ls [.int (nI (1024 * j + t)), .ref a4, .int (nI t), .ref a6]) (by rw [show (1024 : Int32) = nI 1024 from rfl, pk_mul, nI_add]) ?_
        refine va_iald hx hb hK hP 4 0 (f := f4) rfl rfl (i := nI (1024 * j + t)) (vp_in_nI (by omega) (by omega)) dM_makes_41 ?_
        refine W.eq (g2 := F0 m 42 ls [.int (f4 (1024 * j + t)), .int (nI t), .ref a6]) (by rw [nI_clamp (by have := (by omega : 1024 * j + t < 8192); omega)]) ?_
        refine va_iast hx hb hK hP hD hS 6 0 rfl rfl (vp_in_nI (by omega) (by omega)) dM_makes_42 (fun H locs hP hD hS => ?_)
        have hP : va_P D tbCl [(m0, .inr (2, [.int th, .int mn, .ref a1, .ref a2, .ref a3, .ref a4, .int zz, .ref a5, .ref a6, .int (nI (2 ^ k))])), (a1, .inl (cI, 8, .inl f1)), (a2, .inl (cI, 8, .inl f2)), (a3, .inl (cI, 8, .inl f3)), (a4, .inl (cI, 8192, .inl f4)), (a5, .inl (cI, 1024, .inl f5)), (a6, .inl (cI, 1024, .inl (va_cpy f4 f6 (1024 * j) 0 (t + 1))))] H := by
          have hP9 := hP
          rw [nI_clamp (by have := (by omega : t < 1024); omega)] at hP9
          have hP9 : va_P D tbCl [(m0, .inr (2, [.int th, .int mn, .ref a1, .ref a2, .ref a3, .ref a4, .int zz, .ref a5, .ref a6, .int (nI (2 ^ k))])), (a1, .inl (cI, 8, .inl f1)), (a2, .inl (cI, 8, .inl f2)), (a3, .inl (cI, 8, .inl f3)), (a4, .inl (cI, 8192, .inl f4)), (a5, .inl (cI, 1024, .inl f5)), (a6, .inl (cI, 1024, .inl (upd (va_cpy f4 f6 (1024 * j) 0 t) t (f4 (1024 * j + t)))))] H := hP9
          rw [mm_cp2] at hP9
          exact hP9
        have hD : va_D A [(m0, .inr (2, [.int th, .int mn, .ref a1, .ref a2, .ref a3, .ref a4, .int zz, .ref a5, .ref a6, .int (nI (2 ^ k))])), (a1, .inl (cI, 8, .inl f1)), (a2, .inl (cI, 8, .inl f2)), (a3, .inl (cI, 8, .inl f3)), (a4, .inl (cI, 8192, .inl f4)), (a5, .inl (cI, 1024, .inl f5)), (a6, .inl (cI, 1024, .inl (va_cpy f4 f6 (1024 * j) 0 (t + 1))))] := wd_D hD rfl
        obtain ⟨i_2, ei_2⟩ : ∃ z9 : Int32, z9 = (nI t) + 1 := ⟨_, rfl⟩
        refine lv_iinc (v := i_2) (lv' := [(3, .int i_2), (0, .ref m0), (1, .int (nI j)), (2, .int (nI L))]) hx hb dM_makes_43 hl (k := 0) rfl (by rw [ei_2]; rfl) (by decide) rfl (fun ls hl => ?_)
        refine lv_goto (tgt := 12) hx hb dM_makes_46 (by decide) ?_
        exact ih (t + 1) H locs (by omega) (by omega) hP hD hS ls (by have hl := lv_sub hl [0, 1, 2, 3] rfl; rw [ei_2, nI_1] at hl; exact hl)
  refine lv_aload_n hx hb dM_makes_0 rfl (lv_at hl 0 rfl) ?_
  refine lv_aload_n hx hb dM_makes_1 rfl (lv_at hl 0 rfl) ?_
  refine va_get (D := D) (ci := 2) (v := .ref a1) (C := RM) (T := FM) (N := 10) hx hb hB inM hown hK hP 0 rfl rfl 2 (by decide) (hB _ wd_324) (fun _ h9 => h9) rfl dM_makes_2 ?_
  refine lv_iload_n hx hb dM_makes_5 rfl (lv_at hl 1 rfl) ?_
  refine va_iald hx hb hK hP 1 0 (f := f1) rfl rfl (i := nI j) (vp_in_nI (hj) (by omega)) dM_makes_6 ?_
  refine W.eq (g2 := F0 m 7 ls [.int (f1 j), .ref m0]) (by rw [nI_clamp (by have := (hj : j < 8); omega)]) ?_
  refine W.eq (g2 := F0 m 7 ls [.int (nI (2 ^ k)), .ref m0]) (by rw [hf]) ?_
  refine va_put (D := D) (ci := 2) (v := .int (nI (2 ^ k))) (ty := .int) (C := RM) (T := FM) (N := 10) hx hb hB inM tyM tyM_ok nmM hown hK hP hD hS 0 rfl rfl 9 (by decide) (hB _ wd_331) (fun _ h9 => h9) rfl (by decide +kernel) rfl rfl (Nat.le_of_ble_eq_true rfl) dM_makes_7 (fun H locs hP hD hS => ?_)
  have hP : va_P D tbCl [(m0, .inr (2, [.int th, .int mn, .ref a1, .ref a2, .ref a3, .ref a4, .int zz, .ref a5, .ref a6, .int (nI (2 ^ k))])), (a1, .inl (cI, 8, .inl f1)), (a2, .inl (cI, 8, .inl f2)), (a3, .inl (cI, 8, .inl f3)), (a4, .inl (cI, 8192, .inl f4)), (a5, .inl (cI, 1024, .inl f5)), (a6, .inl (cI, 1024, .inl f6))] H := hP
  have hD : va_D A [(m0, .inr (2, [.int th, .int mn, .ref a1, .ref a2, .ref a3, .ref a4, .int zz, .ref a5, .ref a6, .int (nI (2 ^ k))])), (a1, .inl (cI, 8, .inl f1)), (a2, .inl (cI, 8, .inl f2)), (a3, .inl (cI, 8, .inl f3)), (a4, .inl (cI, 8192, .inl f4)), (a5, .inl (cI, 1024, .inl f5)), (a6, .inl (cI, 1024, .inl f6))] := hD
  refine lv_iconst (v := 0) hx hb dM_makes_10 (by decide) ?_
  refine lv_istore_n (lv' := [(3, .int 0), (0, .ref m0), (1, .int (nI j)), (2, .int (nI L))]) hx hb dM_makes_11 rfl hl (by decide) rfl (fun ls hl => ?_)
  exact loop1 (4 ^ k + 1) 0 H locs (Nat.zero_le _) (by omega) (by rw [mm_cp3]; exact hP) (wd_D hD rfl) hS ls (lv_sub hl [0, 1, 2, 3] rfl)

set_option maxHeartbeats 4000000 in
set_option maxRecDepth 100000 in
theorem kM_soft (l : Launch) (D : va_G) (cI : ClassId) (m0 a1 a2 a3 a4 a5 a6 : Nat) (th mn zz : Int32) (f1 f2 f3 f4 f5 f6 : Nat → Int32) (e9 : Nat) (he9 : e9 ≤ 5) (w9 : Int32) (a b : Int64) (x0 x1 y0 y1 : Nat) (lx0 : x0 < 2 ^ e9) (lx1 : x1 < 2 ^ e9) (ly0 : y0 < 2 ^ e9) (ly1 : y1 < 2 ^ e9) (hx0 : mm_into (nI (2 ^ e9)) w9 (mm_div a 65536 + (0 : Int32).toInt64) = nI x0) (hx1 : mm_into (nI (2 ^ e9)) w9 (mm_div a 65536 + (1 : Int32).toInt64) = nI x1) (hy0 : mm_into (nI (2 ^ e9)) w9 (mm_div b 65536 + (0 : Int32).toInt64) = nI y0) (hy1 : mm_into (nI (2 ^ e9)) w9 (mm_div b 65536 + (1 : Int32).toInt64) = nI y1) (hs1 : ¬ (nI (2 ^ e9)).toInt64 = 0) (hs2 : ¬ 2 * (nI (2 ^ e9)).toInt64 = 0) : Met l yM_soft wM_soft (k2_rm 2 52) (rd_P [.ref m0, .int w9, .long a, .long b] D [(cI, .int)] [(m0, .inr (2, [.int th, .int mn, .ref a1, .ref a2, .ref a3, .ref a4, .int zz, .ref a5, .ref a6, .int (nI (2 ^ e9))])), (a1, .inl (cI, 8, .inl f1)), (a2, .inl (cI, 8, .inl f2)), (a3, .inl (cI, 8, .inl f3)), (a4, .inl (cI, 8192, .inl f4)), (a5, .inl (cI, 1024, .inl f5)), (a6, .inl (cI, 1024, .inl f6))]) (k2_QcV (.int (mm_soft2 (f6 (y0 * 2 ^ e9 + x0)) (f6 (y0 * 2 ^ e9 + x1)) (f6 (y1 * 2 ^ e9 + x0)) (f6 (y1 * 2 ^ e9 + x1)) (mm_div (a - 65536 * mm_div a 65536) 256) (mm_div (b - 65536 * mm_div b 65536) 256)))) 0 0 (fun _ => False) := by
  refine Met.ofW (cc := cM_soft) (maxL := 21) (ret := (some .int)) (by decide) rfl ?_
  intro p e s m args below meth c s₁ B hml hv
  obtain ⟨rfl, hC, hP, hK⟩ := hv
  have hx := B.exec
  have hb := B.bytes
  have hr := B.returns
  have hB : ∀ w ∈ tbB, w.before _ s = true := fun w h => (atoms_spec (ws := wM_soft) B.pre) w (List.mem_cons_of_mem _ h)
  have hown : s.vm.findClass "TextureBankModel" = some m.cls := findClass_of_methodNamed B.named
  have hlocks := B.notSynchronized
  have hl := lv_entry ([.ref m0, .int w9, .long a, .long b]) (n := 21) (Nat.le_of_ble_eq_true rfl)
  rw [lg_entry_eq]
  generalize (lg_sl ([.ref m0, .int w9, .long a, .long b]) ++ List.replicate (21 - (lg_sl ([.ref m0, .int w9, .long a, .long b])).length) Slot.unset).toArray = ls at hl ⊢
  have hl : lv_has ls 21 [(0, .ref m0), (1, .int w9), (2, .long a), (4, .long b)] := hl
  refine lv_lload_n hx hb dM_soft_0 rfl (lv_at hl 2 rfl) ?_
  refine lv_ldc2 (v := 65536) hx hb hown (hB _ wd_413) dM_soft_1 ?_
  refine W.callV (W.runS (As := [.long a, .long 65536]) (rest := []) ⟨hx, hb, hml, hown, hB⟩ (kM_div l a 65536 (by decide)) ⟨callB_of 2 hB gwM_div rfl rfl rfl (hB _ wd_3) (hB _ wd_414) ydM_div ⟨Nat.le_of_ble_eq_true rfl, Nat.le_of_ble_eq_true rfl⟩, hB _ wd_415⟩ (preEq) rfl rfl hl.1 rfl (lv_room (Nat.le_of_ble_eq_true rfl)) dM_soft_4 ⟨Nat.zero_le _, Nat.zero_le _⟩) ?_
  refine W.eq (g2 := F0 m 7 ls [.long (mm_div a 65536)]) rfl ?_
  refine lv_topl (fun v1 ev1 => ?_)
  refine lv_lstore (lv' := [(6, .long v1), (0, .ref m0), (1, .int w9), (2, .long a), (4, .long b)]) hx hb dM_soft_7 hl (by decide) rfl (fun ls hl => ?_)
  refine lv_lload hx hb dM_soft_9 (lv_at hl 4 rfl) ?_
  refine lv_ldc2 (v := 65536) hx hb hown (hB _ wd_413) dM_soft_11 ?_
  refine W.callV (W.runS (As := [.long b, .long 65536]) (rest := []) ⟨hx, hb, hml, hown, hB⟩ (kM_div l b 65536 (by decide)) ⟨callB_of 2 hB gwM_div rfl rfl rfl (hB _ wd_3) (hB _ wd_414) ydM_div ⟨Nat.le_of_ble_eq_true rfl, Nat.le_of_ble_eq_true rfl⟩, hB _ wd_415⟩ (preEq) rfl rfl hl.1 rfl (lv_room (Nat.le_of_ble_eq_true rfl)) dM_soft_14 ⟨Nat.zero_le _, Nat.zero_le _⟩) ?_
  refine W.eq (g2 := F0 m 17 ls [.long (mm_div b 65536)]) rfl ?_
  refine lv_topl (fun v2 ev2 => ?_)
  refine lv_lstore (lv' := [(8, .long v2), (6, .long v1), (0, .ref m0), (1, .int w9), (2, .long a), (4, .long b)]) hx hb dM_soft_17 hl (by decide) rfl (fun ls hl => ?_)
  refine lv_lload_n hx hb dM_soft_19 rfl (lv_at hl 4 rfl) ?_
  refine lv_ldc2 (v := 65536) hx hb hown (hB _ wd_413) dM_soft_20 ?_
  refine lv_lload hx hb dM_soft_23 (lv_at hl 1 rfl) ?_
  refine lv_lmul hx hb dM_soft_25 ?_
  refine lv_lsub hx hb dM_soft_26 ?_
  refine lv_ldc2 (v := 256) hx hb hown (hB _ wd_417) dM_soft_27 ?_
  refine W.callV (W.runS (As := [.long (a - (65536 * v1)), .long 256]) (rest := []) ⟨hx, hb, hml, hown, hB⟩ (kM_div l (a - (65536 * v1)) 256 (by decide)) ⟨callB_of 2 hB gwM_div rfl rfl rfl (hB _ wd_3) (hB _ wd_414) ydM_div ⟨Nat.le_of_ble_eq_true rfl, Nat.le_of_ble_eq_true rfl⟩, hB _ wd_415⟩ (preEq) rfl rfl hl.1 rfl (lv_room (Nat.le_of_ble_eq_true rfl)) dM_soft_30 ⟨Nat.zero_le _, Nat.zero_le _⟩) ?_
  refine W.eq (g2 := F0 m 33 ls [.long (mm_div (a - (65536 * v1)) 256)]) rfl ?_
  refine lv_topl (fun v3 ev3 => ?_)
  refine lv_lstore (lv' := [(10, .long v3), (8, .long v2), (6, .long v1), (0, .ref m0), (1, .int w9), (2, .long a), (4, .long b)]) hx hb dM_soft_33 hl (by decide) rfl (fun ls hl => ?_)
  refine lv_lload hx hb dM_soft_35 (lv_at hl 6 rfl) ?_
  refine lv_ldc2 (v := 65536) hx hb hown (hB _ wd_413) dM_soft_37 ?_
  refine lv_lload hx hb dM_soft_40 (lv_at hl 1 rfl) ?_
  refine lv_lmul hx hb dM_soft_42 ?_
  refine lv_lsub hx hb dM_soft_43 ?_
  refine lv_ldc2 (v := 256) hx hb hown (hB _ wd_417) dM_soft_44 ?_
  refine W.callV (W.runS (As := [.long (b - (65536 * v2)), .long 256]) (rest := []) ⟨hx, hb, hml, hown, hB⟩ (kM_div l (b - (65536 * v2)) 256 (by decide)) ⟨callB_of 2 hB gwM_div rfl rfl rfl (hB _ wd_3) (hB _ wd_414) ydM_div ⟨Nat.le_of_ble_eq_true rfl, Nat.le_of_ble_eq_true rfl⟩, hB _ wd_415⟩ (preEq) rfl rfl hl.1 rfl (lv_room (Nat.le_of_ble_eq_true rfl)) dM_soft_47 ⟨Nat.zero_le _, Nat.zero_le _⟩) ?_
  refine W.eq (g2 := F0 m 50 ls [.long (mm_div (b - (65536 * v2)) 256)]) rfl ?_
  refine lv_topl (fun v4 ev4 => ?_)
  refine lv_lstore (lv' := [(12, .long v4), (10, .long v3), (8, .long v2), (6, .long v1), (0, .ref m0), (1, .int w9), (2, .long a), (4, .long b)]) hx hb dM_soft_50 hl (by decide) rfl (fun ls hl => ?_)
  refine lv_iconst (v := 0) hx hb dM_soft_52 (by decide) ?_
  refine lv_istore (lv' := [(14, .int 0), (12, .long v4), (10, .long v3), (8, .long v2), (6, .long v1), (0, .ref m0), (1, .int w9), (2, .long a), (4, .long b)]) hx hb dM_soft_53 hl (by decide) rfl (fun ls hl => ?_)
  refine lv_iconst (v := 0) hx hb dM_soft_55 (by decide) ?_
  refine lv_istore (lv' := [(15, .int 0), (14, .int 0), (12, .long v4), (10, .long v3), (8, .long v2), (6, .long v1), (0, .ref m0), (1, .int w9), (2, .long a), (4, .long b)]) hx hb dM_soft_56 hl (by decide) rfl (fun ls hl => ?_)
  refine lv_iload hx hb dM_soft_58 (lv_at hl 0 rfl) ?_
  refine lv_iconst (v := 3) hx hb dM_soft_60 (by decide) ?_
  refine lv_icmp_ge (tgt := 198) hx hb dM_soft_61 (by decide) (fun c_1 => absurd c_1 (by decide)) (fun c_1 => ?_)
  refine lv_lconst (v := 0) hx hb dM_soft_64 (by decide) ?_
  refine lv_lstore (lv' := [(16, .long 0), (15, .int 0), (14, .int 0), (12, .long v4), (10, .long v3), (8, .long v2), (6, .long v1), (0, .ref m0), (1, .int w9), (2, .long a), (4, .long b)]) hx hb dM_soft_65 hl (by decide) rfl (fun ls hl => ?_)
  refine lv_iconst (v := 0) hx hb dM_soft_67 (by decide) ?_
  refine lv_istore (lv' := [(18, .int 0), (16, .long 0), (15, .int 0), (14, .int 0), (12, .long v4), (10, .long v3), (8, .long v2), (6, .long v1), (0, .ref m0), (1, .int w9), (2, .long a), (4, .long b)]) hx hb dM_soft_68 hl (by decide) rfl (fun ls hl => ?_)
  refine lv_iload hx hb dM_soft_70 (lv_at hl 0 rfl) ?_
  refine lv_iconst (v := 4) hx hb dM_soft_72 (by decide) ?_
  refine lv_icmp_ge (tgt := 176) hx hb dM_soft_73 (by decide) (fun c_2 => absurd c_2 (by decide)) (fun c_2 => ?_)
  refine lv_aload_n hx hb dM_soft_76 rfl (lv_at hl 8 rfl) ?_
  refine lv_iload_n hx hb dM_soft_77 rfl (lv_at hl 9 rfl) ?_
  refine lv_lload hx hb dM_soft_78 (lv_at hl 7 rfl) ?_
  refine lv_iload hx hb dM_soft_80 (lv_at hl 0 rfl) ?_
  refine lv_iconst (v := 2) hx hb dM_soft_82 (by decide) ?_
  refine lv_irem hx hb dM_soft_83 (by decide) ?_
  refine W.eq (g2 := F0 m 84 ls [.int 0, .long v1, .int w9, .ref m0]) rfl ?_
  refine lv_i2l hx hb dM_soft_84 rfl ?_
  refine lv_ladd hx hb dM_soft_85 ?_
  refine W.callV (W.runV (C := "TextureBankModel") (As := [.int w9, .long (v1 + ((0 : Int32).toInt64))]) (rest := []) ⟨hx, hb, hml, hown, hB⟩ (kM_into l D cI m0 a1 a2 a3 a4 a5 a6 th mn zz (nI (2 ^ e9)) f1 f2 f3 f4 f5 f6 w9 (v1 + ((0 : Int32).toInt64)) hs1 hs2) ⟨callB_of 2 hB gwM_into rfl rfl rfl (hB _ wd_3) (hB _ wd_418) ydM_into ⟨Nat.le_of_ble_eq_true rfl, Nat.le_of_ble_eq_true rfl⟩, hB _ wd_420, hB _ ws_17⟩ (rd_V hC hP hK (va_recv hK hP (ci := 2) (q0 := 0) rfl rfl)) rfl rfl hl.1 rfl (lv_room (Nat.le_of_ble_eq_true rfl)) dM_soft_86 ⟨Nat.zero_le _, Nat.zero_le _⟩) ?_
  refine W.eq (g2 := F0 m 89 ls [.int (mm_into (nI (2 ^ e9)) w9 (v1 + ((0 : Int32).toInt64)))]) rfl ?_
  refine W.eq (g2 := F0 m 89 ls [.int (nI x0)]) (by rw [ev1, hx0]) ?_
  refine lv_istore (lv' := [(19, .int (nI x0)), (18, .int 0), (16, .long 0), (15, .int 0), (14, .int 0), (12, .long v4), (10, .long v3), (8, .long v2), (6, .long v1), (0, .ref m0), (1, .int w9), (2, .long a), (4, .long b)]) hx hb dM_soft_89 hl (by decide) rfl (fun ls hl => ?_)
  refine lv_aload_n hx hb dM_soft_91 rfl (lv_at hl 9 rfl) ?_
  refine lv_iload_n hx hb dM_soft_92 rfl (lv_at hl 10 rfl) ?_
  refine lv_lload hx hb dM_soft_93 (lv_at hl 7 rfl) ?_
  refine lv_iload hx hb dM_soft_95 (lv_at hl 1 rfl) ?_
  refine lv_iconst (v := 2) hx hb dM_soft_97 (by decide) ?_
  refine lv_idiv hx hb dM_soft_98 (by decide) ?_
  refine W.eq (g2 := F0 m 99 ls [.int 0, .long v2, .int w9, .ref m0]) rfl ?_
  refine lv_i2l hx hb dM_soft_99 rfl ?_
  refine lv_ladd hx hb dM_soft_100 ?_
  refine W.callV (W.runV (C := "TextureBankModel") (As := [.int w9, .long (v2 + ((0 : Int32).toInt64))]) (rest := []) ⟨hx, hb, hml, hown, hB⟩ (kM_into l D cI m0 a1 a2 a3 a4 a5 a6 th mn zz (nI (2 ^ e9)) f1 f2 f3 f4 f5 f6 w9 (v2 + ((0 : Int32).toInt64)) hs1 hs2) ⟨callB_of 2 hB gwM_into rfl rfl rfl (hB _ wd_3) (hB _ wd_418) ydM_into ⟨Nat.le_of_ble_eq_true rfl, Nat.le_of_ble_eq_true rfl⟩, hB _ wd_420, hB _ ws_17⟩ (rd_V hC hP hK (va_recv hK hP (ci := 2) (q0 := 0) rfl rfl)) rfl rfl hl.1 rfl (lv_room (Nat.le_of_ble_eq_true rfl)) dM_soft_101 ⟨Nat.zero_le _, Nat.zero_le _⟩) ?_
  refine W.eq (g2 := F0 m 104 ls [.int (mm_into (nI (2 ^ e9)) w9 (v2 + ((0 : Int32).toInt64)))]) rfl ?_
  refine W.eq (g2 := F0 m 104 ls [.int (nI y0)]) (by rw [ev2, hy0]) ?_
  refine lv_istore (lv' := [(20, .int (nI y0)), (19, .int (nI x0)), (18, .int 0), (16, .long 0), (15, .int 0), (14, .int 0), (12, .long v4), (10, .long v3), (8, .long v2), (6, .long v1), (0, .ref m0), (1, .int w9), (2, .long a), (4, .long b)]) hx hb dM_soft_104 hl (by decide) rfl (fun ls hl => ?_)
  refine lv_lload hx hb dM_soft_106 (lv_at hl 3 rfl) ?_
  refine lv_aload_n hx hb dM_soft_108 rfl (lv_at hl 10 rfl) ?_
  refine va_get (D := D) (ci := 2) (v := .ref a6) (C := RM) (T := FM) (N := 10) hx hb hB inM hown hK hP 0 rfl rfl 8 (by decide) (hB _ wd_330) (fun _ h9 => h9) rfl dM_soft_109 ?_
  refine lv_iload hx hb dM_soft_112 (lv_at hl 0 rfl) ?_
  refine lv_aload_n hx hb dM_soft_114 rfl (lv_at hl 10 rfl) ?_
  refine va_get (D := D) (ci := 2) (v := .int (nI (2 ^ e9))) (C := RM) (T := FM) (N := 10) hx hb hB inM hown hK hP 0 rfl rfl 9 (by decide) (hB _ wd_331) (fun _ h9 => h9) rfl dM_soft_115 ?_
  refine lv_imul hx hb dM_soft_118 ?_
  refine lv_iload hx hb dM_soft_119 (lv_at hl 1 rfl) ?_
  refine lv_iadd hx hb dM_soft_121 ?_
  refine W.eq (g2 := F0 m 122 ls [.int (nI (y0 * 2 ^ e9 + x0)), .ref a6, .long 0]) (by rw [pk_mul, nI_add]) ?_
  refine va_iald hx hb hK hP 6 0 (f := f6) rfl rfl (i := nI (y0 * 2 ^ e9 + x0)) (vp_in_nI (mm_nl5 he9 lx0 ly0) (by omega)) dM_soft_122 ?_
  refine W.eq (g2 := F0 m 123 ls [.int (f6 (y0 * 2 ^ e9 + x0)), .long 0]) (by rw [nI_clamp (by have := (mm_nl5 he9 lx0 ly0 : y0 * 2 ^ e9 + x0 < 1024); omega)]) ?_
  refine lv_iload hx hb dM_soft_123 (lv_at hl 4 rfl) ?_
  refine W.callV (W.runS (As := [.int (f6 (y0 * 2 ^ e9 + x0)), .int 0]) (rest := [.long 0]) ⟨hx, hb, hml, hown, hB⟩ (kM_part l (f6 (y0 * 2 ^ e9 + x0)) 0) ⟨callB_of 2 hB gwM_part rfl rfl rfl (hB _ wd_3) (hB _ wd_405) ydM_part ⟨Nat.le_of_ble_eq_true rfl, Nat.le_of_ble_eq_true rfl⟩, hB _ wd_406⟩ (preEq) rfl rfl hl.1 rfl (lv_room (Nat.le_of_ble_eq_true rfl)) dM_soft_125 ⟨Nat.zero_le _, Nat.zero_le _⟩) ?_
  refine W.eq (g2 := F0 m 128 ls [.int (mm_part (f6 (y0 * 2 ^ e9 + x0)) 0), .long 0]) rfl ?_
  refine lv_i2l hx hb dM_soft_128 rfl ?_
  refine lv_iload hx hb dM_soft_129 (lv_at hl 2 rfl) ?_
  refine lv_iconst (v := 2) hx hb dM_soft_131 (by decide) ?_
  refine lv_irem hx hb dM_soft_132 (by decide) ?_
  refine W.eq (g2 := F0 m 133 ls [.int 0, .long ((mm_part (f6 (y0 * 2 ^ e9 + x0)) 0).toInt64), .long 0]) rfl ?_
  refine lv_if_ne (tgt := 145) hx hb dM_soft_133 (by decide) (fun c_3 => absurd c_3 (by decide)) (fun c_3 => ?_)
  refine lv_ldc2 (v := 256) hx hb hown (hB _ wd_417) dM_soft_136 ?_
  refine lv_lload hx hb dM_soft_139 (lv_at hl 7 rfl) ?_
  refine lv_lsub hx hb dM_soft_141 ?_
  refine lv_goto (tgt := 147) hx hb dM_soft_142 (by decide) ?_
  refine lv_lmul hx hb dM_soft_147 ?_
  refine lv_iload hx hb dM_soft_148 (lv_at hl 2 rfl) ?_
  refine lv_iconst (v := 2) hx hb dM_soft_150 (by decide) ?_
  refine lv_idiv hx hb dM_soft_151 (by decide) ?_
  refine W.eq (g2 := F0 m 152 ls [.int 0, .long (((mm_part (f6 (y0 * 2 ^ e9 + x0)) 0).toInt64) * (256 - v3)), .long 0]) rfl ?_
  refine lv_if_ne (tgt := 164) hx hb dM_soft_152 (by decide) (fun c_4 => absurd c_4 (by decide)) (fun c_4 => ?_)
  refine lv_ldc2 (v := 256) hx hb hown (hB _ wd_417) dM_soft_155 ?_
  refine lv_lload hx hb dM_soft_158 (lv_at hl 6 rfl) ?_
  refine lv_lsub hx hb dM_soft_160 ?_
  refine lv_goto (tgt := 166) hx hb dM_soft_161 (by decide) ?_
  refine lv_lmul hx hb dM_soft_166 ?_
  refine lv_ladd hx hb dM_soft_167 ?_
  refine lv_lstore (lv' := [(16, .long (0 + ((((mm_part (f6 (y0 * 2 ^ e9 + x0)) 0).toInt64) * (256 - v3)) * (256 - v4)))), (20, .int (nI y0)), (19, .int (nI x0)), (18, .int 0), (15, .int 0), (14, .int 0), (12, .long v4), (10, .long v3), (8, .long v2), (6, .long v1), (0, .ref m0), (1, .int w9), (2, .long a), (4, .long b)]) hx hb dM_soft_168 hl (by decide) rfl (fun ls hl => ?_)
  refine lv_iinc (v := 1) (lv' := [(18, .int 1), (16, .long (0 + ((((mm_part (f6 (y0 * 2 ^ e9 + x0)) 0).toInt64) * (256 - v3)) * (256 - v4)))), (20, .int (nI y0)), (19, .int (nI x0)), (15, .int 0), (14, .int 0), (12, .long v4), (10, .long v3), (8, .long v2), (6, .long v1), (0, .ref m0), (1, .int w9), (2, .long a), (4, .long b)]) hx hb dM_soft_170 hl (k := 3) rfl (by decide) (by decide) rfl (fun ls hl => ?_)
  refine lv_goto (tgt := 70) hx hb dM_soft_173 (by decide) ?_
  refine lv_iload hx hb dM_soft_70 (lv_at hl 0 rfl) ?_
  refine lv_iconst (v := 4) hx hb dM_soft_72 (by decide) ?_
  refine lv_icmp_ge (tgt := 176) hx hb dM_soft_73 (by decide) (fun c_5 => absurd c_5 (by decide)) (fun c_5 => ?_)
  refine lv_aload_n hx hb dM_soft_76 rfl (lv_at hl 10 rfl) ?_
  refine lv_iload_n hx hb dM_soft_77 rfl (lv_at hl 11 rfl) ?_
  refine lv_lload hx hb dM_soft_78 (lv_at hl 9 rfl) ?_
  refine lv_iload hx hb dM_soft_80 (lv_at hl 0 rfl) ?_
  refine lv_iconst (v := 2) hx hb dM_soft_82 (by decide) ?_
  refine lv_irem hx hb dM_soft_83 (by decide) ?_
  refine W.eq (g2 := F0 m 84 ls [.int 1, .long v1, .int w9, .ref m0]) rfl ?_
  refine lv_i2l hx hb dM_soft_84 rfl ?_
  refine lv_ladd hx hb dM_soft_85 ?_
  refine W.callV (W.runV (C := "TextureBankModel") (As := [.int w9, .long (v1 + ((1 : Int32).toInt64))]) (rest := []) ⟨hx, hb, hml, hown, hB⟩ (kM_into l D cI m0 a1 a2 a3 a4 a5 a6 th mn zz (nI (2 ^ e9)) f1 f2 f3 f4 f5 f6 w9 (v1 + ((1 : Int32).toInt64)) hs1 hs2) ⟨callB_of 2 hB gwM_into rfl rfl rfl (hB _ wd_3) (hB _ wd_418) ydM_into ⟨Nat.le_of_ble_eq_true rfl, Nat.le_of_ble_eq_true rfl⟩, hB _ wd_420, hB _ ws_17⟩ (rd_V hC hP hK (va_recv hK hP (ci := 2) (q0 := 0) rfl rfl)) rfl rfl hl.1 rfl (lv_room (Nat.le_of_ble_eq_true rfl)) dM_soft_86 ⟨Nat.zero_le _, Nat.zero_le _⟩) ?_
  refine W.eq (g2 := F0 m 89 ls [.int (mm_into (nI (2 ^ e9)) w9 (v1 + ((1 : Int32).toInt64)))]) rfl ?_
  refine W.eq (g2 := F0 m 89 ls [.int (nI x1)]) (by rw [ev1, hx1]) ?_
  refine lv_istore (lv' := [(19, .int (nI x1)), (18, .int 1), (16, .long (0 + ((((mm_part (f6 (y0 * 2 ^ e9 + x0)) 0).toInt64) * (256 - v3)) * (256 - v4)))), (20, .int (nI y0)), (15, .int 0), (14, .int 0), (12, .long v4), (10, .long v3), (8, .long v2), (6, .long v1), (0, .ref m0), (1, .int w9), (2, .long a), (4, .long b)]) hx hb dM_soft_89 hl (by decide) rfl (fun ls hl => ?_)
  refine lv_aload_n hx hb dM_soft_91 rfl (lv_at hl 10 rfl) ?_
  refine lv_iload_n hx hb dM_soft_92 rfl (lv_at hl 11 rfl) ?_
  refine lv_lload hx hb dM_soft_93 (lv_at hl 8 rfl) ?_
  refine lv_iload hx hb dM_soft_95 (lv_at hl 1 rfl) ?_
  refine lv_iconst (v := 2) hx hb dM_soft_97 (by decide) ?_
  refine lv_idiv hx hb dM_soft_98 (by decide) ?_
  refine W.eq (g2 := F0 m 99 ls [.int 0, .long v2, .int w9, .ref m0]) rfl ?_
  refine lv_i2l hx hb dM_soft_99 rfl ?_
  refine lv_ladd hx hb dM_soft_100 ?_
  refine W.callV (W.runV (C := "TextureBankModel") (As := [.int w9, .long (v2 + ((0 : Int32).toInt64))]) (rest := []) ⟨hx, hb, hml, hown, hB⟩ (kM_into l D cI m0 a1 a2 a3 a4 a5 a6 th mn zz (nI (2 ^ e9)) f1 f2 f3 f4 f5 f6 w9 (v2 + ((0 : Int32).toInt64)) hs1 hs2) ⟨callB_of 2 hB gwM_into rfl rfl rfl (hB _ wd_3) (hB _ wd_418) ydM_into ⟨Nat.le_of_ble_eq_true rfl, Nat.le_of_ble_eq_true rfl⟩, hB _ wd_420, hB _ ws_17⟩ (rd_V hC hP hK (va_recv hK hP (ci := 2) (q0 := 0) rfl rfl)) rfl rfl hl.1 rfl (lv_room (Nat.le_of_ble_eq_true rfl)) dM_soft_101 ⟨Nat.zero_le _, Nat.zero_le _⟩) ?_
  refine W.eq (g2 := F0 m 104 ls [.int (mm_into (nI (2 ^ e9)) w9 (v2 + ((0 : Int32).toInt64)))]) rfl ?_
  refine W.eq (g2 := F0 m 104 ls [.int (nI y0)]) (by rw [ev2, hy0]) ?_
  refine lv_istore (lv' := [(20, .int (nI y0)), (19, .int (nI x1)), (18, .int 1), (16, .long (0 + ((((mm_part (f6 (y0 * 2 ^ e9 + x0)) 0).toInt64) * (256 - v3)) * (256 - v4)))), (15, .int 0), (14, .int 0), (12, .long v4), (10, .long v3), (8, .long v2), (6, .long v1), (0, .ref m0), (1, .int w9), (2, .long a), (4, .long b)]) hx hb dM_soft_104 hl (by decide) rfl (fun ls hl => ?_)
  refine lv_lload hx hb dM_soft_106 (lv_at hl 3 rfl) ?_
  refine lv_aload_n hx hb dM_soft_108 rfl (lv_at hl 10 rfl) ?_
  refine va_get (D := D) (ci := 2) (v := .ref a6) (C := RM) (T := FM) (N := 10) hx hb hB inM hown hK hP 0 rfl rfl 8 (by decide) (hB _ wd_330) (fun _ h9 => h9) rfl dM_soft_109 ?_
  refine lv_iload hx hb dM_soft_112 (lv_at hl 0 rfl) ?_
  refine lv_aload_n hx hb dM_soft_114 rfl (lv_at hl 10 rfl) ?_
  refine va_get (D := D) (ci := 2) (v := .int (nI (2 ^ e9))) (C := RM) (T := FM) (N := 10) hx hb hB inM hown hK hP 0 rfl rfl 9 (by decide) (hB _ wd_331) (fun _ h9 => h9) rfl dM_soft_115 ?_
  refine lv_imul hx hb dM_soft_118 ?_
  refine lv_iload hx hb dM_soft_119 (lv_at hl 1 rfl) ?_
  refine lv_iadd hx hb dM_soft_121 ?_
  refine W.eq (g2 := F0 m 122 ls [.int (nI (y0 * 2 ^ e9 + x1)), .ref a6, .long (0 + ((((mm_part (f6 (y0 * 2 ^ e9 + x0)) 0).toInt64) * (256 - v3)) * (256 - v4)))]) (by rw [pk_mul, nI_add]) ?_
  refine va_iald hx hb hK hP 6 0 (f := f6) rfl rfl (i := nI (y0 * 2 ^ e9 + x1)) (vp_in_nI (mm_nl5 he9 lx1 ly0) (by omega)) dM_soft_122 ?_
  refine W.eq (g2 := F0 m 123 ls [.int (f6 (y0 * 2 ^ e9 + x1)), .long (0 + ((((mm_part (f6 (y0 * 2 ^ e9 + x0)) 0).toInt64) * (256 - v3)) * (256 - v4)))]) (by rw [nI_clamp (by have := (mm_nl5 he9 lx1 ly0 : y0 * 2 ^ e9 + x1 < 1024); omega)]) ?_
  refine lv_iload hx hb dM_soft_123 (lv_at hl 4 rfl) ?_
  refine W.callV (W.runS (As := [.int (f6 (y0 * 2 ^ e9 + x1)), .int 0]) (rest := [.long (0 + ((((mm_part (f6 (y0 * 2 ^ e9 + x0)) 0).toInt64) * (256 - v3)) * (256 - v4)))]) ⟨hx, hb, hml, hown, hB⟩ (kM_part l (f6 (y0 * 2 ^ e9 + x1)) 0) ⟨callB_of 2 hB gwM_part rfl rfl rfl (hB _ wd_3) (hB _ wd_405) ydM_part ⟨Nat.le_of_ble_eq_true rfl, Nat.le_of_ble_eq_true rfl⟩, hB _ wd_406⟩ (preEq) rfl rfl hl.1 rfl (lv_room (Nat.le_of_ble_eq_true rfl)) dM_soft_125 ⟨Nat.zero_le _, Nat.zero_le _⟩) ?_
  refine W.eq (g2 := F0 m 128 ls [.int (mm_part (f6 (y0 * 2 ^ e9 + x1)) 0), .long (0 + ((((mm_part (f6 (y0 * 2 ^ e9 + x0)) 0).toInt64) * (256 - v3)) * (256 - v4)))]) rfl ?_
  refine lv_i2l hx hb dM_soft_128 rfl ?_
  refine lv_iload hx hb dM_soft_129 (lv_at hl 2 rfl) ?_
  refine lv_iconst (v := 2) hx hb dM_soft_131 (by decide) ?_
  refine lv_irem hx hb dM_soft_132 (by decide) ?_
  refine W.eq (g2 := F0 m 133 ls [.int 1, .long ((mm_part (f6 (y0 * 2 ^ e9 + x1)) 0).toInt64), .long (0 + ((((mm_part (f6 (y0 * 2 ^ e9 + x0)) 0).toInt64) * (256 - v3)) * (256 - v4)))]) rfl ?_
  refine lv_if_ne (tgt := 145) hx hb dM_soft_133 (by decide) (fun c_6 => ?_) (fun c_6 => absurd c_6 (by decide))
  refine lv_lload hx hb dM_soft_145 (lv_at hl 7 rfl) ?_
  refine lv_lmul hx hb dM_soft_147 ?_
  refine lv_iload hx hb dM_soft_148 (lv_at hl 2 rfl) ?_
  refine lv_iconst (v := 2) hx hb dM_soft_150 (by decide) ?_
  refine lv_idiv hx hb dM_soft_151 (by decide) ?_
  refine W.eq (g2 := F0 m 152 ls [.int 0, .long (((mm_part (f6 (y0 * 2 ^ e9 + x1)) 0).toInt64) * v3), .long (0 + ((((mm_part (f6 (y0 * 2 ^ e9 + x0)) 0).toInt64) * (256 - v3)) * (256 - v4)))]) rfl ?_
  refine lv_if_ne (tgt := 164) hx hb dM_soft_152 (by decide) (fun c_7 => absurd c_7 (by decide)) (fun c_7 => ?_)
  refine lv_ldc2 (v := 256) hx hb hown (hB _ wd_417) dM_soft_155 ?_
  refine lv_lload hx hb dM_soft_158 (lv_at hl 6 rfl) ?_
  refine lv_lsub hx hb dM_soft_160 ?_
  refine lv_goto (tgt := 166) hx hb dM_soft_161 (by decide) ?_
  refine lv_lmul hx hb dM_soft_166 ?_
  refine lv_ladd hx hb dM_soft_167 ?_
  refine lv_lstore (lv' := [(16, .long ((0 + ((((mm_part (f6 (y0 * 2 ^ e9 + x0)) 0).toInt64) * (256 - v3)) * (256 - v4))) + ((((mm_part (f6 (y0 * 2 ^ e9 + x1)) 0).toInt64) * v3) * (256 - v4)))), (20, .int (nI y0)), (19, .int (nI x1)), (18, .int 1), (15, .int 0), (14, .int 0), (12, .long v4), (10, .long v3), (8, .long v2), (6, .long v1), (0, .ref m0), (1, .int w9), (2, .long a), (4, .long b)]) hx hb dM_soft_168 hl (by decide) rfl (fun ls hl => ?_)
  refine lv_iinc (v := 2) (lv' := [(18, .int 2), (16, .long ((0 + ((((mm_part (f6 (y0 * 2 ^ e9 + x0)) 0).toInt64) * (256 - v3)) * (256 - v4))) + ((((mm_part (f6 (y0 * 2 ^ e9 + x1)) 0).toInt64) * v3) * (256 - v4)))), (20, .int (nI y0)), (19, .int (nI x1)), (15, .int 0), (14, .int 0), (12, .long v4), (10, .long v3), (8, .long v2), (6, .long v1), (0, .ref m0), (1, .int w9), (2, .long a), (4, .long b)]) hx hb dM_soft_170 hl (k := 3) rfl (by decide) (by decide) rfl (fun ls hl => ?_)
  refine lv_goto (tgt := 70) hx hb dM_soft_173 (by decide) ?_
  refine lv_iload hx hb dM_soft_70 (lv_at hl 0 rfl) ?_
  refine lv_iconst (v := 4) hx hb dM_soft_72 (by decide) ?_
  refine lv_icmp_ge (tgt := 176) hx hb dM_soft_73 (by decide) (fun c_8 => absurd c_8 (by decide)) (fun c_8 => ?_)
  refine lv_aload_n hx hb dM_soft_76 rfl (lv_at hl 10 rfl) ?_
  refine lv_iload_n hx hb dM_soft_77 rfl (lv_at hl 11 rfl) ?_
  refine lv_lload hx hb dM_soft_78 (lv_at hl 9 rfl) ?_
  refine lv_iload hx hb dM_soft_80 (lv_at hl 0 rfl) ?_
  refine lv_iconst (v := 2) hx hb dM_soft_82 (by decide) ?_
  refine lv_irem hx hb dM_soft_83 (by decide) ?_
  refine W.eq (g2 := F0 m 84 ls [.int 0, .long v1, .int w9, .ref m0]) rfl ?_
  refine lv_i2l hx hb dM_soft_84 rfl ?_
  refine lv_ladd hx hb dM_soft_85 ?_
  refine W.callV (W.runV (C := "TextureBankModel") (As := [.int w9, .long (v1 + ((0 : Int32).toInt64))]) (rest := []) ⟨hx, hb, hml, hown, hB⟩ (kM_into l D cI m0 a1 a2 a3 a4 a5 a6 th mn zz (nI (2 ^ e9)) f1 f2 f3 f4 f5 f6 w9 (v1 + ((0 : Int32).toInt64)) hs1 hs2) ⟨callB_of 2 hB gwM_into rfl rfl rfl (hB _ wd_3) (hB _ wd_418) ydM_into ⟨Nat.le_of_ble_eq_true rfl, Nat.le_of_ble_eq_true rfl⟩, hB _ wd_420, hB _ ws_17⟩ (rd_V hC hP hK (va_recv hK hP (ci := 2) (q0 := 0) rfl rfl)) rfl rfl hl.1 rfl (lv_room (Nat.le_of_ble_eq_true rfl)) dM_soft_86 ⟨Nat.zero_le _, Nat.zero_le _⟩) ?_
  refine W.eq (g2 := F0 m 89 ls [.int (mm_into (nI (2 ^ e9)) w9 (v1 + ((0 : Int32).toInt64)))]) rfl ?_
  refine W.eq (g2 := F0 m 89 ls [.int (nI x0)]) (by rw [ev1, hx0]) ?_
  refine lv_istore (lv' := [(19, .int (nI x0)), (18, .int 2), (16, .long ((0 + ((((mm_part (f6 (y0 * 2 ^ e9 + x0)) 0).toInt64) * (256 - v3)) * (256 - v4))) + ((((mm_part (f6 (y0 * 2 ^ e9 + x1)) 0).toInt64) * v3) * (256 - v4)))), (20, .int (nI y0)), (15, .int 0), (14, .int 0), (12, .long v4), (10, .long v3), (8, .long v2), (6, .long v1), (0, .ref m0), (1, .int w9), (2, .long a), (4, .long b)]) hx hb dM_soft_89 hl (by decide) rfl (fun ls hl => ?_)
  refine lv_aload_n hx hb dM_soft_91 rfl (lv_at hl 10 rfl) ?_
  refine lv_iload_n hx hb dM_soft_92 rfl (lv_at hl 11 rfl) ?_
  refine lv_lload hx hb dM_soft_93 (lv_at hl 8 rfl) ?_
  refine lv_iload hx hb dM_soft_95 (lv_at hl 1 rfl) ?_
  refine lv_iconst (v := 2) hx hb dM_soft_97 (by decide) ?_
  refine lv_idiv hx hb dM_soft_98 (by decide) ?_
  refine W.eq (g2 := F0 m 99 ls [.int 1, .long v2, .int w9, .ref m0]) rfl ?_
  refine lv_i2l hx hb dM_soft_99 rfl ?_
  refine lv_ladd hx hb dM_soft_100 ?_
  refine W.callV (W.runV (C := "TextureBankModel") (As := [.int w9, .long (v2 + ((1 : Int32).toInt64))]) (rest := []) ⟨hx, hb, hml, hown, hB⟩ (kM_into l D cI m0 a1 a2 a3 a4 a5 a6 th mn zz (nI (2 ^ e9)) f1 f2 f3 f4 f5 f6 w9 (v2 + ((1 : Int32).toInt64)) hs1 hs2) ⟨callB_of 2 hB gwM_into rfl rfl rfl (hB _ wd_3) (hB _ wd_418) ydM_into ⟨Nat.le_of_ble_eq_true rfl, Nat.le_of_ble_eq_true rfl⟩, hB _ wd_420, hB _ ws_17⟩ (rd_V hC hP hK (va_recv hK hP (ci := 2) (q0 := 0) rfl rfl)) rfl rfl hl.1 rfl (lv_room (Nat.le_of_ble_eq_true rfl)) dM_soft_101 ⟨Nat.zero_le _, Nat.zero_le _⟩) ?_
  refine W.eq (g2 := F0 m 104 ls [.int (mm_into (nI (2 ^ e9)) w9 (v2 + ((1 : Int32).toInt64)))]) rfl ?_
  refine W.eq (g2 := F0 m 104 ls [.int (nI y1)]) (by rw [ev2, hy1]) ?_
  refine lv_istore (lv' := [(20, .int (nI y1)), (19, .int (nI x0)), (18, .int 2), (16, .long ((0 + ((((mm_part (f6 (y0 * 2 ^ e9 + x0)) 0).toInt64) * (256 - v3)) * (256 - v4))) + ((((mm_part (f6 (y0 * 2 ^ e9 + x1)) 0).toInt64) * v3) * (256 - v4)))), (15, .int 0), (14, .int 0), (12, .long v4), (10, .long v3), (8, .long v2), (6, .long v1), (0, .ref m0), (1, .int w9), (2, .long a), (4, .long b)]) hx hb dM_soft_104 hl (by decide) rfl (fun ls hl => ?_)
  refine lv_lload hx hb dM_soft_106 (lv_at hl 3 rfl) ?_
  refine lv_aload_n hx hb dM_soft_108 rfl (lv_at hl 10 rfl) ?_
  refine va_get (D := D) (ci := 2) (v := .ref a6) (C := RM) (T := FM) (N := 10) hx hb hB inM hown hK hP 0 rfl rfl 8 (by decide) (hB _ wd_330) (fun _ h9 => h9) rfl dM_soft_109 ?_
  refine lv_iload hx hb dM_soft_112 (lv_at hl 0 rfl) ?_
  refine lv_aload_n hx hb dM_soft_114 rfl (lv_at hl 10 rfl) ?_
  refine va_get (D := D) (ci := 2) (v := .int (nI (2 ^ e9))) (C := RM) (T := FM) (N := 10) hx hb hB inM hown hK hP 0 rfl rfl 9 (by decide) (hB _ wd_331) (fun _ h9 => h9) rfl dM_soft_115 ?_
  refine lv_imul hx hb dM_soft_118 ?_
  refine lv_iload hx hb dM_soft_119 (lv_at hl 1 rfl) ?_
  refine lv_iadd hx hb dM_soft_121 ?_
  refine W.eq (g2 := F0 m 122 ls [.int (nI (y1 * 2 ^ e9 + x0)), .ref a6, .long ((0 + ((((mm_part (f6 (y0 * 2 ^ e9 + x0)) 0).toInt64) * (256 - v3)) * (256 - v4))) + ((((mm_part (f6 (y0 * 2 ^ e9 + x1)) 0).toInt64) * v3) * (256 - v4)))]) (by rw [pk_mul, nI_add]) ?_
  refine va_iald hx hb hK hP 6 0 (f := f6) rfl rfl (i := nI (y1 * 2 ^ e9 + x0)) (vp_in_nI (mm_nl5 he9 lx0 ly1) (by omega)) dM_soft_122 ?_
  refine W.eq (g2 := F0 m 123 ls [.int (f6 (y1 * 2 ^ e9 + x0)), .long ((0 + ((((mm_part (f6 (y0 * 2 ^ e9 + x0)) 0).toInt64) * (256 - v3)) * (256 - v4))) + ((((mm_part (f6 (y0 * 2 ^ e9 + x1)) 0).toInt64) * v3) * (256 - v4)))]) (by rw [nI_clamp (by have := (mm_nl5 he9 lx0 ly1 : y1 * 2 ^ e9 + x0 < 1024); omega)]) ?_
  refine lv_iload hx hb dM_soft_123 (lv_at hl 4 rfl) ?_
  refine W.callV (W.runS (As := [.int (f6 (y1 * 2 ^ e9 + x0)), .int 0]) (rest := [.long ((0 + ((((mm_part (f6 (y0 * 2 ^ e9 + x0)) 0).toInt64) * (256 - v3)) * (256 - v4))) + ((((mm_part (f6 (y0 * 2 ^ e9 + x1)) 0).toInt64) * v3) * (256 - v4)))]) ⟨hx, hb, hml, hown, hB⟩ (kM_part l (f6 (y1 * 2 ^ e9 + x0)) 0) ⟨callB_of 2 hB gwM_part rfl rfl rfl (hB _ wd_3) (hB _ wd_405) ydM_part ⟨Nat.le_of_ble_eq_true rfl, Nat.le_of_ble_eq_true rfl⟩, hB _ wd_406⟩ (preEq) rfl rfl hl.1 rfl (lv_room (Nat.le_of_ble_eq_true rfl)) dM_soft_125 ⟨Nat.zero_le _, Nat.zero_le _⟩) ?_
  refine W.eq (g2 := F0 m 128 ls [.int (mm_part (f6 (y1 * 2 ^ e9 + x0)) 0), .long ((0 + ((((mm_part (f6 (y0 * 2 ^ e9 + x0)) 0).toInt64) * (256 - v3)) * (256 - v4))) + ((((mm_part (f6 (y0 * 2 ^ e9 + x1)) 0).toInt64) * v3) * (256 - v4)))]) rfl ?_
  refine lv_i2l hx hb dM_soft_128 rfl ?_
  refine lv_iload hx hb dM_soft_129 (lv_at hl 2 rfl) ?_
  refine lv_iconst (v := 2) hx hb dM_soft_131 (by decide) ?_
  refine lv_irem hx hb dM_soft_132 (by decide) ?_
  refine W.eq (g2 := F0 m 133 ls [.int 0, .long ((mm_part (f6 (y1 * 2 ^ e9 + x0)) 0).toInt64), .long ((0 + ((((mm_part (f6 (y0 * 2 ^ e9 + x0)) 0).toInt64) * (256 - v3)) * (256 - v4))) + ((((mm_part (f6 (y0 * 2 ^ e9 + x1)) 0).toInt64) * v3) * (256 - v4)))]) rfl ?_
  refine lv_if_ne (tgt := 145) hx hb dM_soft_133 (by decide) (fun c_9 => absurd c_9 (by decide)) (fun c_9 => ?_)
  refine lv_ldc2 (v := 256) hx hb hown (hB _ wd_417) dM_soft_136 ?_
  refine lv_lload hx hb dM_soft_139 (lv_at hl 7 rfl) ?_
  refine lv_lsub hx hb dM_soft_141 ?_
  refine lv_goto (tgt := 147) hx hb dM_soft_142 (by decide) ?_
  refine lv_lmul hx hb dM_soft_147 ?_
  refine lv_iload hx hb dM_soft_148 (lv_at hl 2 rfl) ?_
  refine lv_iconst (v := 2) hx hb dM_soft_150 (by decide) ?_
  refine lv_idiv hx hb dM_soft_151 (by decide) ?_
  refine W.eq (g2 := F0 m 152 ls [.int 1, .long (((mm_part (f6 (y1 * 2 ^ e9 + x0)) 0).toInt64) * (256 - v3)), .long ((0 + ((((mm_part (f6 (y0 * 2 ^ e9 + x0)) 0).toInt64) * (256 - v3)) * (256 - v4))) + ((((mm_part (f6 (y0 * 2 ^ e9 + x1)) 0).toInt64) * v3) * (256 - v4)))]) rfl ?_
  refine lv_if_ne (tgt := 164) hx hb dM_soft_152 (by decide) (fun c_10 => ?_) (fun c_10 => absurd c_10 (by decide))
  refine lv_lload hx hb dM_soft_164 (lv_at hl 6 rfl) ?_
  refine lv_lmul hx hb dM_soft_166 ?_
  refine lv_ladd hx hb dM_soft_167 ?_
  refine lv_lstore (lv' := [(16, .long (((0 + ((((mm_part (f6 (y0 * 2 ^ e9 + x0)) 0).toInt64) * (256 - v3)) * (256 - v4))) + ((((mm_part (f6 (y0 * 2 ^ e9 + x1)) 0).toInt64) * v3) * (256 - v4))) + ((((mm_part (f6 (y1 * 2 ^ e9 + x0)) 0).toInt64) * (256 - v3)) * v4))), (20, .int (nI y1)), (19, .int (nI x0)), (18, .int 2), (15, .int 0), (14, .int 0), (12, .long v4), (10, .long v3), (8, .long v2), (6, .long v1), (0, .ref m0), (1, .int w9), (2, .long a), (4, .long b)]) hx hb dM_soft_168 hl (by decide) rfl (fun ls hl => ?_)
  refine lv_iinc (v := 3) (lv' := [(18, .int 3), (16, .long (((0 + ((((mm_part (f6 (y0 * 2 ^ e9 + x0)) 0).toInt64) * (256 - v3)) * (256 - v4))) + ((((mm_part (f6 (y0 * 2 ^ e9 + x1)) 0).toInt64) * v3) * (256 - v4))) + ((((mm_part (f6 (y1 * 2 ^ e9 + x0)) 0).toInt64) * (256 - v3)) * v4))), (20, .int (nI y1)), (19, .int (nI x0)), (15, .int 0), (14, .int 0), (12, .long v4), (10, .long v3), (8, .long v2), (6, .long v1), (0, .ref m0), (1, .int w9), (2, .long a), (4, .long b)]) hx hb dM_soft_170 hl (k := 3) rfl (by decide) (by decide) rfl (fun ls hl => ?_)
  refine lv_goto (tgt := 70) hx hb dM_soft_173 (by decide) ?_
  refine lv_iload hx hb dM_soft_70 (lv_at hl 0 rfl) ?_
  refine lv_iconst (v := 4) hx hb dM_soft_72 (by decide) ?_
  refine lv_icmp_ge (tgt := 176) hx hb dM_soft_73 (by decide) (fun c_11 => absurd c_11 (by decide)) (fun c_11 => ?_)
  refine lv_aload_n hx hb dM_soft_76 rfl (lv_at hl 10 rfl) ?_
  refine lv_iload_n hx hb dM_soft_77 rfl (lv_at hl 11 rfl) ?_
  refine lv_lload hx hb dM_soft_78 (lv_at hl 9 rfl) ?_
  refine lv_iload hx hb dM_soft_80 (lv_at hl 0 rfl) ?_
  refine lv_iconst (v := 2) hx hb dM_soft_82 (by decide) ?_
  refine lv_irem hx hb dM_soft_83 (by decide) ?_
  refine W.eq (g2 := F0 m 84 ls [.int 1, .long v1, .int w9, .ref m0]) rfl ?_
  refine lv_i2l hx hb dM_soft_84 rfl ?_
  refine lv_ladd hx hb dM_soft_85 ?_
  refine W.callV (W.runV (C := "TextureBankModel") (As := [.int w9, .long (v1 + ((1 : Int32).toInt64))]) (rest := []) ⟨hx, hb, hml, hown, hB⟩ (kM_into l D cI m0 a1 a2 a3 a4 a5 a6 th mn zz (nI (2 ^ e9)) f1 f2 f3 f4 f5 f6 w9 (v1 + ((1 : Int32).toInt64)) hs1 hs2) ⟨callB_of 2 hB gwM_into rfl rfl rfl (hB _ wd_3) (hB _ wd_418) ydM_into ⟨Nat.le_of_ble_eq_true rfl, Nat.le_of_ble_eq_true rfl⟩, hB _ wd_420, hB _ ws_17⟩ (rd_V hC hP hK (va_recv hK hP (ci := 2) (q0 := 0) rfl rfl)) rfl rfl hl.1 rfl (lv_room (Nat.le_of_ble_eq_true rfl)) dM_soft_86 ⟨Nat.zero_le _, Nat.zero_le _⟩) ?_
  refine W.eq (g2 := F0 m 89 ls [.int (mm_into (nI (2 ^ e9)) w9 (v1 + ((1 : Int32).toInt64)))]) rfl ?_
  refine W.eq (g2 := F0 m 89 ls [.int (nI x1)]) (by rw [ev1, hx1]) ?_
  refine lv_istore (lv' := [(19, .int (nI x1)), (18, .int 3), (16, .long (((0 + ((((mm_part (f6 (y0 * 2 ^ e9 + x0)) 0).toInt64) * (256 - v3)) * (256 - v4))) + ((((mm_part (f6 (y0 * 2 ^ e9 + x1)) 0).toInt64) * v3) * (256 - v4))) + ((((mm_part (f6 (y1 * 2 ^ e9 + x0)) 0).toInt64) * (256 - v3)) * v4))), (20, .int (nI y1)), (15, .int 0), (14, .int 0), (12, .long v4), (10, .long v3), (8, .long v2), (6, .long v1), (0, .ref m0), (1, .int w9), (2, .long a), (4, .long b)]) hx hb dM_soft_89 hl (by decide) rfl (fun ls hl => ?_)
  refine lv_aload_n hx hb dM_soft_91 rfl (lv_at hl 10 rfl) ?_
  refine lv_iload_n hx hb dM_soft_92 rfl (lv_at hl 11 rfl) ?_
  refine lv_lload hx hb dM_soft_93 (lv_at hl 8 rfl) ?_
  refine lv_iload hx hb dM_soft_95 (lv_at hl 1 rfl) ?_
  refine lv_iconst (v := 2) hx hb dM_soft_97 (by decide) ?_
  refine lv_idiv hx hb dM_soft_98 (by decide) ?_
  refine W.eq (g2 := F0 m 99 ls [.int 1, .long v2, .int w9, .ref m0]) rfl ?_
  refine lv_i2l hx hb dM_soft_99 rfl ?_
  refine lv_ladd hx hb dM_soft_100 ?_
  refine W.callV (W.runV (C := "TextureBankModel") (As := [.int w9, .long (v2 + ((1 : Int32).toInt64))]) (rest := []) ⟨hx, hb, hml, hown, hB⟩ (kM_into l D cI m0 a1 a2 a3 a4 a5 a6 th mn zz (nI (2 ^ e9)) f1 f2 f3 f4 f5 f6 w9 (v2 + ((1 : Int32).toInt64)) hs1 hs2) ⟨callB_of 2 hB gwM_into rfl rfl rfl (hB _ wd_3) (hB _ wd_418) ydM_into ⟨Nat.le_of_ble_eq_true rfl, Nat.le_of_ble_eq_true rfl⟩, hB _ wd_420, hB _ ws_17⟩ (rd_V hC hP hK (va_recv hK hP (ci := 2) (q0 := 0) rfl rfl)) rfl rfl hl.1 rfl (lv_room (Nat.le_of_ble_eq_true rfl)) dM_soft_101 ⟨Nat.zero_le _, Nat.zero_le _⟩) ?_
  refine W.eq (g2 := F0 m 104 ls [.int (mm_into (nI (2 ^ e9)) w9 (v2 + ((1 : Int32).toInt64)))]) rfl ?_
  refine W.eq (g2 := F0 m 104 ls [.int (nI y1)]) (by rw [ev2, hy1]) ?_
  refine lv_istore (lv' := [(20, .int (nI y1)), (19, .int (nI x1)), (18, .int 3), (16, .long (((0 + ((((mm_part (f6 (y0 * 2 ^ e9 + x0)) 0).toInt64) * (256 - v3)) * (256 - v4))) + ((((mm_part (f6 (y0 * 2 ^ e9 + x1)) 0).toInt64) * v3) * (256 - v4))) + ((((mm_part (f6 (y1 * 2 ^ e9 + x0)) 0).toInt64) * (256 - v3)) * v4))), (15, .int 0), (14, .int 0), (12, .long v4), (10, .long v3), (8, .long v2), (6, .long v1), (0, .ref m0), (1, .int w9), (2, .long a), (4, .long b)]) hx hb dM_soft_104 hl (by decide) rfl (fun ls hl => ?_)
  refine lv_lload hx hb dM_soft_106 (lv_at hl 3 rfl) ?_
  refine lv_aload_n hx hb dM_soft_108 rfl (lv_at hl 10 rfl) ?_
  refine va_get (D := D) (ci := 2) (v := .ref a6) (C := RM) (T := FM) (N := 10) hx hb hB inM hown hK hP 0 rfl rfl 8 (by decide) (hB _ wd_330) (fun _ h9 => h9) rfl dM_soft_109 ?_
  refine lv_iload hx hb dM_soft_112 (lv_at hl 0 rfl) ?_
  refine lv_aload_n hx hb dM_soft_114 rfl (lv_at hl 10 rfl) ?_
  refine va_get (D := D) (ci := 2) (v := .int (nI (2 ^ e9))) (C := RM) (T := FM) (N := 10) hx hb hB inM hown hK hP 0 rfl rfl 9 (by decide) (hB _ wd_331) (fun _ h9 => h9) rfl dM_soft_115 ?_
  refine lv_imul hx hb dM_soft_118 ?_
  refine lv_iload hx hb dM_soft_119 (lv_at hl 1 rfl) ?_
  refine lv_iadd hx hb dM_soft_121 ?_
  refine W.eq (g2 := F0 m 122 ls [.int (nI (y1 * 2 ^ e9 + x1)), .ref a6, .long (((0 + ((((mm_part (f6 (y0 * 2 ^ e9 + x0)) 0).toInt64) * (256 - v3)) * (256 - v4))) + ((((mm_part (f6 (y0 * 2 ^ e9 + x1)) 0).toInt64) * v3) * (256 - v4))) + ((((mm_part (f6 (y1 * 2 ^ e9 + x0)) 0).toInt64) * (256 - v3)) * v4))]) (by rw [pk_mul, nI_add]) ?_
  refine va_iald hx hb hK hP 6 0 (f := f6) rfl rfl (i := nI (y1 * 2 ^ e9 + x1)) (vp_in_nI (mm_nl5 he9 lx1 ly1) (by omega)) dM_soft_122 ?_
  refine W.eq (g2 := F0 m 123 ls [.int (f6 (y1 * 2 ^ e9 + x1)), .long (((0 + ((((mm_part (f6 (y0 * 2 ^ e9 + x0)) 0).toInt64) * (256 - v3)) * (256 - v4))) + ((((mm_part (f6 (y0 * 2 ^ e9 + x1)) 0).toInt64) * v3) * (256 - v4))) + ((((mm_part (f6 (y1 * 2 ^ e9 + x0)) 0).toInt64) * (256 - v3)) * v4))]) (by rw [nI_clamp (by have := (mm_nl5 he9 lx1 ly1 : y1 * 2 ^ e9 + x1 < 1024); omega)]) ?_
  refine lv_iload hx hb dM_soft_123 (lv_at hl 4 rfl) ?_
  refine W.callV (W.runS (As := [.int (f6 (y1 * 2 ^ e9 + x1)), .int 0]) (rest := [.long (((0 + ((((mm_part (f6 (y0 * 2 ^ e9 + x0)) 0).toInt64) * (256 - v3)) * (256 - v4))) + ((((mm_part (f6 (y0 * 2 ^ e9 + x1)) 0).toInt64) * v3) * (256 - v4))) + ((((mm_part (f6 (y1 * 2 ^ e9 + x0)) 0).toInt64) * (256 - v3)) * v4))]) ⟨hx, hb, hml, hown, hB⟩ (kM_part l (f6 (y1 * 2 ^ e9 + x1)) 0) ⟨callB_of 2 hB gwM_part rfl rfl rfl (hB _ wd_3) (hB _ wd_405) ydM_part ⟨Nat.le_of_ble_eq_true rfl, Nat.le_of_ble_eq_true rfl⟩, hB _ wd_406⟩ (preEq) rfl rfl hl.1 rfl (lv_room (Nat.le_of_ble_eq_true rfl)) dM_soft_125 ⟨Nat.zero_le _, Nat.zero_le _⟩) ?_
  refine W.eq (g2 := F0 m 128 ls [.int (mm_part (f6 (y1 * 2 ^ e9 + x1)) 0), .long (((0 + ((((mm_part (f6 (y0 * 2 ^ e9 + x0)) 0).toInt64) * (256 - v3)) * (256 - v4))) + ((((mm_part (f6 (y0 * 2 ^ e9 + x1)) 0).toInt64) * v3) * (256 - v4))) + ((((mm_part (f6 (y1 * 2 ^ e9 + x0)) 0).toInt64) * (256 - v3)) * v4))]) rfl ?_
  refine lv_i2l hx hb dM_soft_128 rfl ?_
  refine lv_iload hx hb dM_soft_129 (lv_at hl 2 rfl) ?_
  refine lv_iconst (v := 2) hx hb dM_soft_131 (by decide) ?_
  refine lv_irem hx hb dM_soft_132 (by decide) ?_
  refine W.eq (g2 := F0 m 133 ls [.int 1, .long ((mm_part (f6 (y1 * 2 ^ e9 + x1)) 0).toInt64), .long (((0 + ((((mm_part (f6 (y0 * 2 ^ e9 + x0)) 0).toInt64) * (256 - v3)) * (256 - v4))) + ((((mm_part (f6 (y0 * 2 ^ e9 + x1)) 0).toInt64) * v3) * (256 - v4))) + ((((mm_part (f6 (y1 * 2 ^ e9 + x0)) 0).toInt64) * (256 - v3)) * v4))]) rfl ?_
  refine lv_if_ne (tgt := 145) hx hb dM_soft_133 (by decide) (fun c_12 => ?_) (fun c_12 => absurd c_12 (by decide))
  refine lv_lload hx hb dM_soft_145 (lv_at hl 7 rfl) ?_
  refine lv_lmul hx hb dM_soft_147 ?_
  refine lv_iload hx hb dM_soft_148 (lv_at hl 2 rfl) ?_
  refine lv_iconst (v := 2) hx hb dM_soft_150 (by decide) ?_
  refine lv_idiv hx hb dM_soft_151 (by decide) ?_
  refine W.eq (g2 := F0 m 152 ls [.int 1, .long (((mm_part (f6 (y1 * 2 ^ e9 + x1)) 0).toInt64) * v3), .long (((0 + ((((mm_part (f6 (y0 * 2 ^ e9 + x0)) 0).toInt64) * (256 - v3)) * (256 - v4))) + ((((mm_part (f6 (y0 * 2 ^ e9 + x1)) 0).toInt64) * v3) * (256 - v4))) + ((((mm_part (f6 (y1 * 2 ^ e9 + x0)) 0).toInt64) * (256 - v3)) * v4))]) rfl ?_
  refine lv_if_ne (tgt := 164) hx hb dM_soft_152 (by decide) (fun c_13 => ?_) (fun c_13 => absurd c_13 (by decide))
  refine lv_lload hx hb dM_soft_164 (lv_at hl 6 rfl) ?_
  refine lv_lmul hx hb dM_soft_166 ?_
  refine lv_ladd hx hb dM_soft_167 ?_
  refine lv_lstore (lv' := [(16, .long ((((0 + ((((mm_part (f6 (y0 * 2 ^ e9 + x0)) 0).toInt64) * (256 - v3)) * (256 - v4))) + ((((mm_part (f6 (y0 * 2 ^ e9 + x1)) 0).toInt64) * v3) * (256 - v4))) + ((((mm_part (f6 (y1 * 2 ^ e9 + x0)) 0).toInt64) * (256 - v3)) * v4)) + ((((mm_part (f6 (y1 * 2 ^ e9 + x1)) 0).toInt64) * v3) * v4))), (20, .int (nI y1)), (19, .int (nI x1)), (18, .int 3), (15, .int 0), (14, .int 0), (12, .long v4), (10, .long v3), (8, .long v2), (6, .long v1), (0, .ref m0), (1, .int w9), (2, .long a), (4, .long b)]) hx hb dM_soft_168 hl (by decide) rfl (fun ls hl => ?_)
  refine lv_iinc (v := 4) (lv' := [(18, .int 4), (16, .long ((((0 + ((((mm_part (f6 (y0 * 2 ^ e9 + x0)) 0).toInt64) * (256 - v3)) * (256 - v4))) + ((((mm_part (f6 (y0 * 2 ^ e9 + x1)) 0).toInt64) * v3) * (256 - v4))) + ((((mm_part (f6 (y1 * 2 ^ e9 + x0)) 0).toInt64) * (256 - v3)) * v4)) + ((((mm_part (f6 (y1 * 2 ^ e9 + x1)) 0).toInt64) * v3) * v4))), (20, .int (nI y1)), (19, .int (nI x1)), (15, .int 0), (14, .int 0), (12, .long v4), (10, .long v3), (8, .long v2), (6, .long v1), (0, .ref m0), (1, .int w9), (2, .long a), (4, .long b)]) hx hb dM_soft_170 hl (k := 3) rfl (by decide) (by decide) rfl (fun ls hl => ?_)
  refine lv_goto (tgt := 70) hx hb dM_soft_173 (by decide) ?_
  refine lv_iload hx hb dM_soft_70 (lv_at hl 0 rfl) ?_
  refine lv_iconst (v := 4) hx hb dM_soft_72 (by decide) ?_
  refine lv_icmp_ge (tgt := 176) hx hb dM_soft_73 (by decide) (fun c_14 => ?_) (fun c_14 => absurd c_14 (by decide))
  refine lv_iload hx hb dM_soft_176 (lv_at hl 5 rfl) ?_
  refine lv_sipush (v := 256) hx hb dM_soft_178 (by decide) ?_
  refine lv_imul hx hb dM_soft_181 ?_
  refine W.eq (g2 := F0 m 182 ls [.int 0]) rfl ?_
  refine lv_lload hx hb dM_soft_182 (lv_at hl 1 rfl) ?_
  refine lv_ldc2 (v := 65536) hx hb hown (hB _ wd_413) dM_soft_184 ?_
  refine lv_ldiv hx hb dM_soft_187 (by decide) ?_
  refine lv_l2i hx hb dM_soft_188 rfl ?_
  refine lv_iadd hx hb dM_soft_189 ?_
  refine lv_istore (lv' := [(14, .int (0 + ((((((0 + ((((mm_part (f6 (y0 * 2 ^ e9 + x0)) 0).toInt64) * (256 - v3)) * (256 - v4))) + ((((mm_part (f6 (y0 * 2 ^ e9 + x1)) 0).toInt64) * v3) * (256 - v4))) + ((((mm_part (f6 (y1 * 2 ^ e9 + x0)) 0).toInt64) * (256 - v3)) * v4)) + ((((mm_part (f6 (y1 * 2 ^ e9 + x1)) 0).toInt64) * v3) * v4)) / 65536).toInt32))), (18, .int 4), (16, .long ((((0 + ((((mm_part (f6 (y0 * 2 ^ e9 + x0)) 0).toInt64) * (256 - v3)) * (256 - v4))) + ((((mm_part (f6 (y0 * 2 ^ e9 + x1)) 0).toInt64) * v3) * (256 - v4))) + ((((mm_part (f6 (y1 * 2 ^ e9 + x0)) 0).toInt64) * (256 - v3)) * v4)) + ((((mm_part (f6 (y1 * 2 ^ e9 + x1)) 0).toInt64) * v3) * v4))), (20, .int (nI y1)), (19, .int (nI x1)), (15, .int 0), (12, .long v4), (10, .long v3), (8, .long v2), (6, .long v1), (0, .ref m0), (1, .int w9), (2, .long a), (4, .long b)]) hx hb dM_soft_190 hl (by decide) rfl (fun ls hl => ?_)
  refine lv_iinc (v := 1) (lv' := [(15, .int 1), (14, .int (0 + ((((((0 + ((((mm_part (f6 (y0 * 2 ^ e9 + x0)) 0).toInt64) * (256 - v3)) * (256 - v4))) + ((((mm_part (f6 (y0 * 2 ^ e9 + x1)) 0).toInt64) * v3) * (256 - v4))) + ((((mm_part (f6 (y1 * 2 ^ e9 + x0)) 0).toInt64) * (256 - v3)) * v4)) + ((((mm_part (f6 (y1 * 2 ^ e9 + x1)) 0).toInt64) * v3) * v4)) / 65536).toInt32))), (18, .int 4), (16, .long ((((0 + ((((mm_part (f6 (y0 * 2 ^ e9 + x0)) 0).toInt64) * (256 - v3)) * (256 - v4))) + ((((mm_part (f6 (y0 * 2 ^ e9 + x1)) 0).toInt64) * v3) * (256 - v4))) + ((((mm_part (f6 (y1 * 2 ^ e9 + x0)) 0).toInt64) * (256 - v3)) * v4)) + ((((mm_part (f6 (y1 * 2 ^ e9 + x1)) 0).toInt64) * v3) * v4))), (20, .int (nI y1)), (19, .int (nI x1)), (12, .long v4), (10, .long v3), (8, .long v2), (6, .long v1), (0, .ref m0), (1, .int w9), (2, .long a), (4, .long b)]) hx hb dM_soft_192 hl (k := 5) rfl (by decide) (by decide) rfl (fun ls hl => ?_)
  refine lv_goto (tgt := 58) hx hb dM_soft_195 (by decide) ?_
  refine lv_iload hx hb dM_soft_58 (lv_at hl 0 rfl) ?_
  refine lv_iconst (v := 3) hx hb dM_soft_60 (by decide) ?_
  refine lv_icmp_ge (tgt := 198) hx hb dM_soft_61 (by decide) (fun c_15 => absurd c_15 (by decide)) (fun c_15 => ?_)
  refine lv_lconst (v := 0) hx hb dM_soft_64 (by decide) ?_
  refine lv_lstore (lv' := [(16, .long 0), (15, .int 1), (14, .int (0 + ((((((0 + ((((mm_part (f6 (y0 * 2 ^ e9 + x0)) 0).toInt64) * (256 - v3)) * (256 - v4))) + ((((mm_part (f6 (y0 * 2 ^ e9 + x1)) 0).toInt64) * v3) * (256 - v4))) + ((((mm_part (f6 (y1 * 2 ^ e9 + x0)) 0).toInt64) * (256 - v3)) * v4)) + ((((mm_part (f6 (y1 * 2 ^ e9 + x1)) 0).toInt64) * v3) * v4)) / 65536).toInt32))), (18, .int 4), (20, .int (nI y1)), (19, .int (nI x1)), (12, .long v4), (10, .long v3), (8, .long v2), (6, .long v1), (0, .ref m0), (1, .int w9), (2, .long a), (4, .long b)]) hx hb dM_soft_65 hl (by decide) rfl (fun ls hl => ?_)
  refine lv_iconst (v := 0) hx hb dM_soft_67 (by decide) ?_
  refine lv_istore (lv' := [(18, .int 0), (16, .long 0), (15, .int 1), (14, .int (0 + ((((((0 + ((((mm_part (f6 (y0 * 2 ^ e9 + x0)) 0).toInt64) * (256 - v3)) * (256 - v4))) + ((((mm_part (f6 (y0 * 2 ^ e9 + x1)) 0).toInt64) * v3) * (256 - v4))) + ((((mm_part (f6 (y1 * 2 ^ e9 + x0)) 0).toInt64) * (256 - v3)) * v4)) + ((((mm_part (f6 (y1 * 2 ^ e9 + x1)) 0).toInt64) * v3) * v4)) / 65536).toInt32))), (20, .int (nI y1)), (19, .int (nI x1)), (12, .long v4), (10, .long v3), (8, .long v2), (6, .long v1), (0, .ref m0), (1, .int w9), (2, .long a), (4, .long b)]) hx hb dM_soft_68 hl (by decide) rfl (fun ls hl => ?_)
  refine lv_iload hx hb dM_soft_70 (lv_at hl 0 rfl) ?_
  refine lv_iconst (v := 4) hx hb dM_soft_72 (by decide) ?_
  refine lv_icmp_ge (tgt := 176) hx hb dM_soft_73 (by decide) (fun c_16 => absurd c_16 (by decide)) (fun c_16 => ?_)
  refine lv_aload_n hx hb dM_soft_76 rfl (lv_at hl 10 rfl) ?_
  refine lv_iload_n hx hb dM_soft_77 rfl (lv_at hl 11 rfl) ?_
  refine lv_lload hx hb dM_soft_78 (lv_at hl 9 rfl) ?_
  refine lv_iload hx hb dM_soft_80 (lv_at hl 0 rfl) ?_
  refine lv_iconst (v := 2) hx hb dM_soft_82 (by decide) ?_
  refine lv_irem hx hb dM_soft_83 (by decide) ?_
  refine W.eq (g2 := F0 m 84 ls [.int 0, .long v1, .int w9, .ref m0]) rfl ?_
  refine lv_i2l hx hb dM_soft_84 rfl ?_
  refine lv_ladd hx hb dM_soft_85 ?_
  refine W.callV (W.runV (C := "TextureBankModel") (As := [.int w9, .long (v1 + ((0 : Int32).toInt64))]) (rest := []) ⟨hx, hb, hml, hown, hB⟩ (kM_into l D cI m0 a1 a2 a3 a4 a5 a6 th mn zz (nI (2 ^ e9)) f1 f2 f3 f4 f5 f6 w9 (v1 + ((0 : Int32).toInt64)) hs1 hs2) ⟨callB_of 2 hB gwM_into rfl rfl rfl (hB _ wd_3) (hB _ wd_418) ydM_into ⟨Nat.le_of_ble_eq_true rfl, Nat.le_of_ble_eq_true rfl⟩, hB _ wd_420, hB _ ws_17⟩ (rd_V hC hP hK (va_recv hK hP (ci := 2) (q0 := 0) rfl rfl)) rfl rfl hl.1 rfl (lv_room (Nat.le_of_ble_eq_true rfl)) dM_soft_86 ⟨Nat.zero_le _, Nat.zero_le _⟩) ?_
  refine W.eq (g2 := F0 m 89 ls [.int (mm_into (nI (2 ^ e9)) w9 (v1 + ((0 : Int32).toInt64)))]) rfl ?_
  refine W.eq (g2 := F0 m 89 ls [.int (nI x0)]) (by rw [ev1, hx0]) ?_
  refine lv_istore (lv' := [(19, .int (nI x0)), (18, .int 0), (16, .long 0), (15, .int 1), (14, .int (0 + ((((((0 + ((((mm_part (f6 (y0 * 2 ^ e9 + x0)) 0).toInt64) * (256 - v3)) * (256 - v4))) + ((((mm_part (f6 (y0 * 2 ^ e9 + x1)) 0).toInt64) * v3) * (256 - v4))) + ((((mm_part (f6 (y1 * 2 ^ e9 + x0)) 0).toInt64) * (256 - v3)) * v4)) + ((((mm_part (f6 (y1 * 2 ^ e9 + x1)) 0).toInt64) * v3) * v4)) / 65536).toInt32))), (20, .int (nI y1)), (12, .long v4), (10, .long v3), (8, .long v2), (6, .long v1), (0, .ref m0), (1, .int w9), (2, .long a), (4, .long b)]) hx hb dM_soft_89 hl (by decide) rfl (fun ls hl => ?_)
  refine lv_aload_n hx hb dM_soft_91 rfl (lv_at hl 10 rfl) ?_
  refine lv_iload_n hx hb dM_soft_92 rfl (lv_at hl 11 rfl) ?_
  refine lv_lload hx hb dM_soft_93 (lv_at hl 8 rfl) ?_
  refine lv_iload hx hb dM_soft_95 (lv_at hl 1 rfl) ?_
  refine lv_iconst (v := 2) hx hb dM_soft_97 (by decide) ?_
  refine lv_idiv hx hb dM_soft_98 (by decide) ?_
  refine W.eq (g2 := F0 m 99 ls [.int 0, .long v2, .int w9, .ref m0]) rfl ?_
  refine lv_i2l hx hb dM_soft_99 rfl ?_
  refine lv_ladd hx hb dM_soft_100 ?_
  refine W.callV (W.runV (C := "TextureBankModel") (As := [.int w9, .long (v2 + ((0 : Int32).toInt64))]) (rest := []) ⟨hx, hb, hml, hown, hB⟩ (kM_into l D cI m0 a1 a2 a3 a4 a5 a6 th mn zz (nI (2 ^ e9)) f1 f2 f3 f4 f5 f6 w9 (v2 + ((0 : Int32).toInt64)) hs1 hs2) ⟨callB_of 2 hB gwM_into rfl rfl rfl (hB _ wd_3) (hB _ wd_418) ydM_into ⟨Nat.le_of_ble_eq_true rfl, Nat.le_of_ble_eq_true rfl⟩, hB _ wd_420, hB _ ws_17⟩ (rd_V hC hP hK (va_recv hK hP (ci := 2) (q0 := 0) rfl rfl)) rfl rfl hl.1 rfl (lv_room (Nat.le_of_ble_eq_true rfl)) dM_soft_101 ⟨Nat.zero_le _, Nat.zero_le _⟩) ?_
  refine W.eq (g2 := F0 m 104 ls [.int (mm_into (nI (2 ^ e9)) w9 (v2 + ((0 : Int32).toInt64)))]) rfl ?_
  refine W.eq (g2 := F0 m 104 ls [.int (nI y0)]) (by rw [ev2, hy0]) ?_
  refine lv_istore (lv' := [(20, .int (nI y0)), (19, .int (nI x0)), (18, .int 0), (16, .long 0), (15, .int 1), (14, .int (0 + ((((((0 + ((((mm_part (f6 (y0 * 2 ^ e9 + x0)) 0).toInt64) * (256 - v3)) * (256 - v4))) + ((((mm_part (f6 (y0 * 2 ^ e9 + x1)) 0).toInt64) * v3) * (256 - v4))) + ((((mm_part (f6 (y1 * 2 ^ e9 + x0)) 0).toInt64) * (256 - v3)) * v4)) + ((((mm_part (f6 (y1 * 2 ^ e9 + x1)) 0).toInt64) * v3) * v4)) / 65536).toInt32))), (12, .long v4), (10, .long v3), (8, .long v2), (6, .long v1), (0, .ref m0), (1, .int w9), (2, .long a), (4, .long b)]) hx hb dM_soft_104 hl (by decide) rfl (fun ls hl => ?_)
  refine lv_lload hx hb dM_soft_106 (lv_at hl 3 rfl) ?_
  refine lv_aload_n hx hb dM_soft_108 rfl (lv_at hl 10 rfl) ?_
  refine va_get (D := D) (ci := 2) (v := .ref a6) (C := RM) (T := FM) (N := 10) hx hb hB inM hown hK hP 0 rfl rfl 8 (by decide) (hB _ wd_330) (fun _ h9 => h9) rfl dM_soft_109 ?_
  refine lv_iload hx hb dM_soft_112 (lv_at hl 0 rfl) ?_
  refine lv_aload_n hx hb dM_soft_114 rfl (lv_at hl 10 rfl) ?_
  refine va_get (D := D) (ci := 2) (v := .int (nI (2 ^ e9))) (C := RM) (T := FM) (N := 10) hx hb hB inM hown hK hP 0 rfl rfl 9 (by decide) (hB _ wd_331) (fun _ h9 => h9) rfl dM_soft_115 ?_
  refine lv_imul hx hb dM_soft_118 ?_
  refine lv_iload hx hb dM_soft_119 (lv_at hl 1 rfl) ?_
  refine lv_iadd hx hb dM_soft_121 ?_
  refine W.eq (g2 := F0 m 122 ls [.int (nI (y0 * 2 ^ e9 + x0)), .ref a6, .long 0]) (by rw [pk_mul, nI_add]) ?_
  refine va_iald hx hb hK hP 6 0 (f := f6) rfl rfl (i := nI (y0 * 2 ^ e9 + x0)) (vp_in_nI (mm_nl5 he9 lx0 ly0) (by omega)) dM_soft_122 ?_
  refine W.eq (g2 := F0 m 123 ls [.int (f6 (y0 * 2 ^ e9 + x0)), .long 0]) (by rw [nI_clamp (by have := (mm_nl5 he9 lx0 ly0 : y0 * 2 ^ e9 + x0 < 1024); omega)]) ?_
  refine lv_iload hx hb dM_soft_123 (lv_at hl 4 rfl) ?_
  refine W.callV (W.runS (As := [.int (f6 (y0 * 2 ^ e9 + x0)), .int 1]) (rest := [.long 0]) ⟨hx, hb, hml, hown, hB⟩ (kM_part l (f6 (y0 * 2 ^ e9 + x0)) 1) ⟨callB_of 2 hB gwM_part rfl rfl rfl (hB _ wd_3) (hB _ wd_405) ydM_part ⟨Nat.le_of_ble_eq_true rfl, Nat.le_of_ble_eq_true rfl⟩, hB _ wd_406⟩ (preEq) rfl rfl hl.1 rfl (lv_room (Nat.le_of_ble_eq_true rfl)) dM_soft_125 ⟨Nat.zero_le _, Nat.zero_le _⟩) ?_
  refine W.eq (g2 := F0 m 128 ls [.int (mm_part (f6 (y0 * 2 ^ e9 + x0)) 1), .long 0]) rfl ?_
  refine lv_i2l hx hb dM_soft_128 rfl ?_
  refine lv_iload hx hb dM_soft_129 (lv_at hl 2 rfl) ?_
  refine lv_iconst (v := 2) hx hb dM_soft_131 (by decide) ?_
  refine lv_irem hx hb dM_soft_132 (by decide) ?_
  refine W.eq (g2 := F0 m 133 ls [.int 0, .long ((mm_part (f6 (y0 * 2 ^ e9 + x0)) 1).toInt64), .long 0]) rfl ?_
  refine lv_if_ne (tgt := 145) hx hb dM_soft_133 (by decide) (fun c_17 => absurd c_17 (by decide)) (fun c_17 => ?_)
  refine lv_ldc2 (v := 256) hx hb hown (hB _ wd_417) dM_soft_136 ?_
  refine lv_lload hx hb dM_soft_139 (lv_at hl 7 rfl) ?_
  refine lv_lsub hx hb dM_soft_141 ?_
  refine lv_goto (tgt := 147) hx hb dM_soft_142 (by decide) ?_
  refine lv_lmul hx hb dM_soft_147 ?_
  refine lv_iload hx hb dM_soft_148 (lv_at hl 2 rfl) ?_
  refine lv_iconst (v := 2) hx hb dM_soft_150 (by decide) ?_
  refine lv_idiv hx hb dM_soft_151 (by decide) ?_
  refine W.eq (g2 := F0 m 152 ls [.int 0, .long (((mm_part (f6 (y0 * 2 ^ e9 + x0)) 1).toInt64) * (256 - v3)), .long 0]) rfl ?_
  refine lv_if_ne (tgt := 164) hx hb dM_soft_152 (by decide) (fun c_18 => absurd c_18 (by decide)) (fun c_18 => ?_)
  refine lv_ldc2 (v := 256) hx hb hown (hB _ wd_417) dM_soft_155 ?_
  refine lv_lload hx hb dM_soft_158 (lv_at hl 6 rfl) ?_
  refine lv_lsub hx hb dM_soft_160 ?_
  refine lv_goto (tgt := 166) hx hb dM_soft_161 (by decide) ?_
  refine lv_lmul hx hb dM_soft_166 ?_
  refine lv_ladd hx hb dM_soft_167 ?_
  refine lv_lstore (lv' := [(16, .long (0 + ((((mm_part (f6 (y0 * 2 ^ e9 + x0)) 1).toInt64) * (256 - v3)) * (256 - v4)))), (20, .int (nI y0)), (19, .int (nI x0)), (18, .int 0), (15, .int 1), (14, .int (0 + ((((((0 + ((((mm_part (f6 (y0 * 2 ^ e9 + x0)) 0).toInt64) * (256 - v3)) * (256 - v4))) + ((((mm_part (f6 (y0 * 2 ^ e9 + x1)) 0).toInt64) * v3) * (256 - v4))) + ((((mm_part (f6 (y1 * 2 ^ e9 + x0)) 0).toInt64) * (256 - v3)) * v4)) + ((((mm_part (f6 (y1 * 2 ^ e9 + x1)) 0).toInt64) * v3) * v4)) / 65536).toInt32))), (12, .long v4), (10, .long v3), (8, .long v2), (6, .long v1), (0, .ref m0), (1, .int w9), (2, .long a), (4, .long b)]) hx hb dM_soft_168 hl (by decide) rfl (fun ls hl => ?_)
  refine lv_iinc (v := 1) (lv' := [(18, .int 1), (16, .long (0 + ((((mm_part (f6 (y0 * 2 ^ e9 + x0)) 1).toInt64) * (256 - v3)) * (256 - v4)))), (20, .int (nI y0)), (19, .int (nI x0)), (15, .int 1), (14, .int (0 + ((((((0 + ((((mm_part (f6 (y0 * 2 ^ e9 + x0)) 0).toInt64) * (256 - v3)) * (256 - v4))) + ((((mm_part (f6 (y0 * 2 ^ e9 + x1)) 0).toInt64) * v3) * (256 - v4))) + ((((mm_part (f6 (y1 * 2 ^ e9 + x0)) 0).toInt64) * (256 - v3)) * v4)) + ((((mm_part (f6 (y1 * 2 ^ e9 + x1)) 0).toInt64) * v3) * v4)) / 65536).toInt32))), (12, .long v4), (10, .long v3), (8, .long v2), (6, .long v1), (0, .ref m0), (1, .int w9), (2, .long a), (4, .long b)]) hx hb dM_soft_170 hl (k := 3) rfl (by decide) (by decide) rfl (fun ls hl => ?_)
  refine lv_goto (tgt := 70) hx hb dM_soft_173 (by decide) ?_
  refine lv_iload hx hb dM_soft_70 (lv_at hl 0 rfl) ?_
  refine lv_iconst (v := 4) hx hb dM_soft_72 (by decide) ?_
  refine lv_icmp_ge (tgt := 176) hx hb dM_soft_73 (by decide) (fun c_19 => absurd c_19 (by decide)) (fun c_19 => ?_)
  refine lv_aload_n hx hb dM_soft_76 rfl (lv_at hl 10 rfl) ?_
  refine lv_iload_n hx hb dM_soft_77 rfl (lv_at hl 11 rfl) ?_
  refine lv_lload hx hb dM_soft_78 (lv_at hl 9 rfl) ?_
  refine lv_iload hx hb dM_soft_80 (lv_at hl 0 rfl) ?_
  refine lv_iconst (v := 2) hx hb dM_soft_82 (by decide) ?_
  refine lv_irem hx hb dM_soft_83 (by decide) ?_
  refine W.eq (g2 := F0 m 84 ls [.int 1, .long v1, .int w9, .ref m0]) rfl ?_
  refine lv_i2l hx hb dM_soft_84 rfl ?_
  refine lv_ladd hx hb dM_soft_85 ?_
  refine W.callV (W.runV (C := "TextureBankModel") (As := [.int w9, .long (v1 + ((1 : Int32).toInt64))]) (rest := []) ⟨hx, hb, hml, hown, hB⟩ (kM_into l D cI m0 a1 a2 a3 a4 a5 a6 th mn zz (nI (2 ^ e9)) f1 f2 f3 f4 f5 f6 w9 (v1 + ((1 : Int32).toInt64)) hs1 hs2) ⟨callB_of 2 hB gwM_into rfl rfl rfl (hB _ wd_3) (hB _ wd_418) ydM_into ⟨Nat.le_of_ble_eq_true rfl, Nat.le_of_ble_eq_true rfl⟩, hB _ wd_420, hB _ ws_17⟩ (rd_V hC hP hK (va_recv hK hP (ci := 2) (q0 := 0) rfl rfl)) rfl rfl hl.1 rfl (lv_room (Nat.le_of_ble_eq_true rfl)) dM_soft_86 ⟨Nat.zero_le _, Nat.zero_le _⟩) ?_
  refine W.eq (g2 := F0 m 89 ls [.int (mm_into (nI (2 ^ e9)) w9 (v1 + ((1 : Int32).toInt64)))]) rfl ?_
  refine W.eq (g2 := F0 m 89 ls [.int (nI x1)]) (by rw [ev1, hx1]) ?_
  refine lv_istore (lv' := [(19, .int (nI x1)), (18, .int 1), (16, .long (0 + ((((mm_part (f6 (y0 * 2 ^ e9 + x0)) 1).toInt64) * (256 - v3)) * (256 - v4)))), (20, .int (nI y0)), (15, .int 1), (14, .int (0 + ((((((0 + ((((mm_part (f6 (y0 * 2 ^ e9 + x0)) 0).toInt64) * (256 - v3)) * (256 - v4))) + ((((mm_part (f6 (y0 * 2 ^ e9 + x1)) 0).toInt64) * v3) * (256 - v4))) + ((((mm_part (f6 (y1 * 2 ^ e9 + x0)) 0).toInt64) * (256 - v3)) * v4)) + ((((mm_part (f6 (y1 * 2 ^ e9 + x1)) 0).toInt64) * v3) * v4)) / 65536).toInt32))), (12, .long v4), (10, .long v3), (8, .long v2), (6, .long v1), (0, .ref m0), (1, .int w9), (2, .long a), (4, .long b)]) hx hb dM_soft_89 hl (by decide) rfl (fun ls hl => ?_)
  refine lv_aload_n hx hb dM_soft_91 rfl (lv_at hl 10 rfl) ?_
  refine lv_iload_n hx hb dM_soft_92 rfl (lv_at hl 11 rfl) ?_
  refine lv_lload hx hb dM_soft_93 (lv_at hl 8 rfl) ?_
  refine lv_iload hx hb dM_soft_95 (lv_at hl 1 rfl) ?_
  refine lv_iconst (v := 2) hx hb dM_soft_97 (by decide) ?_
  refine lv_idiv hx hb dM_soft_98 (by decide) ?_
  refine W.eq (g2 := F0 m 99 ls [.int 0, .long v2, .int w9, .ref m0]) rfl ?_
  refine lv_i2l hx hb dM_soft_99 rfl ?_
  refine lv_ladd hx hb dM_soft_100 ?_
  refine W.callV (W.runV (C := "TextureBankModel") (As := [.int w9, .long (v2 + ((0 : Int32).toInt64))]) (rest := []) ⟨hx, hb, hml, hown, hB⟩ (kM_into l D cI m0 a1 a2 a3 a4 a5 a6 th mn zz (nI (2 ^ e9)) f1 f2 f3 f4 f5 f6 w9 (v2 + ((0 : Int32).toInt64)) hs1 hs2) ⟨callB_of 2 hB gwM_into rfl rfl rfl (hB _ wd_3) (hB _ wd_418) ydM_into ⟨Nat.le_of_ble_eq_true rfl, Nat.le_of_ble_eq_true rfl⟩, hB _ wd_420, hB _ ws_17⟩ (rd_V hC hP hK (va_recv hK hP (ci := 2) (q0 := 0) rfl rfl)) rfl rfl hl.1 rfl (lv_room (Nat.le_of_ble_eq_true rfl)) dM_soft_101 ⟨Nat.zero_le _, Nat.zero_le _⟩) ?_
  refine W.eq (g2 := F0 m 104 ls [.int (mm_into (nI (2 ^ e9)) w9 (v2 + ((0 : Int32).toInt64)))]) rfl ?_
  refine W.eq (g2 := F0 m 104 ls [.int (nI y0)]) (by rw [ev2, hy0]) ?_
  refine lv_istore (lv' := [(20, .int (nI y0)), (19, .int (nI x1)), (18, .int 1), (16, .long (0 + ((((mm_part (f6 (y0 * 2 ^ e9 + x0)) 1).toInt64) * (256 - v3)) * (256 - v4)))), (15, .int 1), (14, .int (0 + ((((((0 + ((((mm_part (f6 (y0 * 2 ^ e9 + x0)) 0).toInt64) * (256 - v3)) * (256 - v4))) + ((((mm_part (f6 (y0 * 2 ^ e9 + x1)) 0).toInt64) * v3) * (256 - v4))) + ((((mm_part (f6 (y1 * 2 ^ e9 + x0)) 0).toInt64) * (256 - v3)) * v4)) + ((((mm_part (f6 (y1 * 2 ^ e9 + x1)) 0).toInt64) * v3) * v4)) / 65536).toInt32))), (12, .long v4), (10, .long v3), (8, .long v2), (6, .long v1), (0, .ref m0), (1, .int w9), (2, .long a), (4, .long b)]) hx hb dM_soft_104 hl (by decide) rfl (fun ls hl => ?_)
  refine lv_lload hx hb dM_soft_106 (lv_at hl 3 rfl) ?_
  refine lv_aload_n hx hb dM_soft_108 rfl (lv_at hl 10 rfl) ?_
  refine va_get (D := D) (ci := 2) (v := .ref a6) (C := RM) (T := FM) (N := 10) hx hb hB inM hown hK hP 0 rfl rfl 8 (by decide) (hB _ wd_330) (fun _ h9 => h9) rfl dM_soft_109 ?_
  refine lv_iload hx hb dM_soft_112 (lv_at hl 0 rfl) ?_
  refine lv_aload_n hx hb dM_soft_114 rfl (lv_at hl 10 rfl) ?_
  refine va_get (D := D) (ci := 2) (v := .int (nI (2 ^ e9))) (C := RM) (T := FM) (N := 10) hx hb hB inM hown hK hP 0 rfl rfl 9 (by decide) (hB _ wd_331) (fun _ h9 => h9) rfl dM_soft_115 ?_
  refine lv_imul hx hb dM_soft_118 ?_
  refine lv_iload hx hb dM_soft_119 (lv_at hl 1 rfl) ?_
  refine lv_iadd hx hb dM_soft_121 ?_
  refine W.eq (g2 := F0 m 122 ls [.int (nI (y0 * 2 ^ e9 + x1)), .ref a6, .long (0 + ((((mm_part (f6 (y0 * 2 ^ e9 + x0)) 1).toInt64) * (256 - v3)) * (256 - v4)))]) (by rw [pk_mul, nI_add]) ?_
  refine va_iald hx hb hK hP 6 0 (f := f6) rfl rfl (i := nI (y0 * 2 ^ e9 + x1)) (vp_in_nI (mm_nl5 he9 lx1 ly0) (by omega)) dM_soft_122 ?_
  refine W.eq (g2 := F0 m 123 ls [.int (f6 (y0 * 2 ^ e9 + x1)), .long (0 + ((((mm_part (f6 (y0 * 2 ^ e9 + x0)) 1).toInt64) * (256 - v3)) * (256 - v4)))]) (by rw [nI_clamp (by have := (mm_nl5 he9 lx1 ly0 : y0 * 2 ^ e9 + x1 < 1024); omega)]) ?_
  refine lv_iload hx hb dM_soft_123 (lv_at hl 4 rfl) ?_
  refine W.callV (W.runS (As := [.int (f6 (y0 * 2 ^ e9 + x1)), .int 1]) (rest := [.long (0 + ((((mm_part (f6 (y0 * 2 ^ e9 + x0)) 1).toInt64) * (256 - v3)) * (256 - v4)))]) ⟨hx, hb, hml, hown, hB⟩ (kM_part l (f6 (y0 * 2 ^ e9 + x1)) 1) ⟨callB_of 2 hB gwM_part rfl rfl rfl (hB _ wd_3) (hB _ wd_405) ydM_part ⟨Nat.le_of_ble_eq_true rfl, Nat.le_of_ble_eq_true rfl⟩, hB _ wd_406⟩ (preEq) rfl rfl hl.1 rfl (lv_room (Nat.le_of_ble_eq_true rfl)) dM_soft_125 ⟨Nat.zero_le _, Nat.zero_le _⟩) ?_
  refine W.eq (g2 := F0 m 128 ls [.int (mm_part (f6 (y0 * 2 ^ e9 + x1)) 1), .long (0 + ((((mm_part (f6 (y0 * 2 ^ e9 + x0)) 1).toInt64) * (256 - v3)) * (256 - v4)))]) rfl ?_
  refine lv_i2l hx hb dM_soft_128 rfl ?_
  refine lv_iload hx hb dM_soft_129 (lv_at hl 2 rfl) ?_
  refine lv_iconst (v := 2) hx hb dM_soft_131 (by decide) ?_
  refine lv_irem hx hb dM_soft_132 (by decide) ?_
  refine W.eq (g2 := F0 m 133 ls [.int 1, .long ((mm_part (f6 (y0 * 2 ^ e9 + x1)) 1).toInt64), .long (0 + ((((mm_part (f6 (y0 * 2 ^ e9 + x0)) 1).toInt64) * (256 - v3)) * (256 - v4)))]) rfl ?_
  refine lv_if_ne (tgt := 145) hx hb dM_soft_133 (by decide) (fun c_20 => ?_) (fun c_20 => absurd c_20 (by decide))
  refine lv_lload hx hb dM_soft_145 (lv_at hl 7 rfl) ?_
  refine lv_lmul hx hb dM_soft_147 ?_
  refine lv_iload hx hb dM_soft_148 (lv_at hl 2 rfl) ?_
  refine lv_iconst (v := 2) hx hb dM_soft_150 (by decide) ?_
  refine lv_idiv hx hb dM_soft_151 (by decide) ?_
  refine W.eq (g2 := F0 m 152 ls [.int 0, .long (((mm_part (f6 (y0 * 2 ^ e9 + x1)) 1).toInt64) * v3), .long (0 + ((((mm_part (f6 (y0 * 2 ^ e9 + x0)) 1).toInt64) * (256 - v3)) * (256 - v4)))]) rfl ?_
  refine lv_if_ne (tgt := 164) hx hb dM_soft_152 (by decide) (fun c_21 => absurd c_21 (by decide)) (fun c_21 => ?_)
  refine lv_ldc2 (v := 256) hx hb hown (hB _ wd_417) dM_soft_155 ?_
  refine lv_lload hx hb dM_soft_158 (lv_at hl 6 rfl) ?_
  refine lv_lsub hx hb dM_soft_160 ?_
  refine lv_goto (tgt := 166) hx hb dM_soft_161 (by decide) ?_
  refine lv_lmul hx hb dM_soft_166 ?_
  refine lv_ladd hx hb dM_soft_167 ?_
  refine lv_lstore (lv' := [(16, .long ((0 + ((((mm_part (f6 (y0 * 2 ^ e9 + x0)) 1).toInt64) * (256 - v3)) * (256 - v4))) + ((((mm_part (f6 (y0 * 2 ^ e9 + x1)) 1).toInt64) * v3) * (256 - v4)))), (20, .int (nI y0)), (19, .int (nI x1)), (18, .int 1), (15, .int 1), (14, .int (0 + ((((((0 + ((((mm_part (f6 (y0 * 2 ^ e9 + x0)) 0).toInt64) * (256 - v3)) * (256 - v4))) + ((((mm_part (f6 (y0 * 2 ^ e9 + x1)) 0).toInt64) * v3) * (256 - v4))) + ((((mm_part (f6 (y1 * 2 ^ e9 + x0)) 0).toInt64) * (256 - v3)) * v4)) + ((((mm_part (f6 (y1 * 2 ^ e9 + x1)) 0).toInt64) * v3) * v4)) / 65536).toInt32))), (12, .long v4), (10, .long v3), (8, .long v2), (6, .long v1), (0, .ref m0), (1, .int w9), (2, .long a), (4, .long b)]) hx hb dM_soft_168 hl (by decide) rfl (fun ls hl => ?_)
  refine lv_iinc (v := 2) (lv' := [(18, .int 2), (16, .long ((0 + ((((mm_part (f6 (y0 * 2 ^ e9 + x0)) 1).toInt64) * (256 - v3)) * (256 - v4))) + ((((mm_part (f6 (y0 * 2 ^ e9 + x1)) 1).toInt64) * v3) * (256 - v4)))), (20, .int (nI y0)), (19, .int (nI x1)), (15, .int 1), (14, .int (0 + ((((((0 + ((((mm_part (f6 (y0 * 2 ^ e9 + x0)) 0).toInt64) * (256 - v3)) * (256 - v4))) + ((((mm_part (f6 (y0 * 2 ^ e9 + x1)) 0).toInt64) * v3) * (256 - v4))) + ((((mm_part (f6 (y1 * 2 ^ e9 + x0)) 0).toInt64) * (256 - v3)) * v4)) + ((((mm_part (f6 (y1 * 2 ^ e9 + x1)) 0).toInt64) * v3) * v4)) / 65536).toInt32))), (12, .long v4), (10, .long v3), (8, .long v2), (6, .long v1), (0, .ref m0), (1, .int w9), (2, .long a), (4, .long b)]) hx hb dM_soft_170 hl (k := 3) rfl (by decide) (by decide) rfl (fun ls hl => ?_)
  refine lv_goto (tgt := 70) hx hb dM_soft_173 (by decide) ?_
  refine lv_iload hx hb dM_soft_70 (lv_at hl 0 rfl) ?_
  refine lv_iconst (v := 4) hx hb dM_soft_72 (by decide) ?_
  refine lv_icmp_ge (tgt := 176) hx hb dM_soft_73 (by decide) (fun c_22 => absurd c_22 (by decide)) (fun c_22 => ?_)
  refine lv_aload_n hx hb dM_soft_76 rfl (lv_at hl 10 rfl) ?_
  refine lv_iload_n hx hb dM_soft_77 rfl (lv_at hl 11 rfl) ?_
  refine lv_lload hx hb dM_soft_78 (lv_at hl 9 rfl) ?_
  refine lv_iload hx hb dM_soft_80 (lv_at hl 0 rfl) ?_
  refine lv_iconst (v := 2) hx hb dM_soft_82 (by decide) ?_
  refine lv_irem hx hb dM_soft_83 (by decide) ?_
  refine W.eq (g2 := F0 m 84 ls [.int 0, .long v1, .int w9, .ref m0]) rfl ?_
  refine lv_i2l hx hb dM_soft_84 rfl ?_
  refine lv_ladd hx hb dM_soft_85 ?_
  refine W.callV (W.runV (C := "TextureBankModel") (As := [.int w9, .long (v1 + ((0 : Int32).toInt64))]) (rest := []) ⟨hx, hb, hml, hown, hB⟩ (kM_into l D cI m0 a1 a2 a3 a4 a5 a6 th mn zz (nI (2 ^ e9)) f1 f2 f3 f4 f5 f6 w9 (v1 + ((0 : Int32).toInt64)) hs1 hs2) ⟨callB_of 2 hB gwM_into rfl rfl rfl (hB _ wd_3) (hB _ wd_418) ydM_into ⟨Nat.le_of_ble_eq_true rfl, Nat.le_of_ble_eq_true rfl⟩, hB _ wd_420, hB _ ws_17⟩ (rd_V hC hP hK (va_recv hK hP (ci := 2) (q0 := 0) rfl rfl)) rfl rfl hl.1 rfl (lv_room (Nat.le_of_ble_eq_true rfl)) dM_soft_86 ⟨Nat.zero_le _, Nat.zero_le _⟩) ?_
  refine W.eq (g2 := F0 m 89 ls [.int (mm_into (nI (2 ^ e9)) w9 (v1 + ((0 : Int32).toInt64)))]) rfl ?_
  refine W.eq (g2 := F0 m 89 ls [.int (nI x0)]) (by rw [ev1, hx0]) ?_
  refine lv_istore (lv' := [(19, .int (nI x0)), (18, .int 2), (16, .long ((0 + ((((mm_part (f6 (y0 * 2 ^ e9 + x0)) 1).toInt64) * (256 - v3)) * (256 - v4))) + ((((mm_part (f6 (y0 * 2 ^ e9 + x1)) 1).toInt64) * v3) * (256 - v4)))), (20, .int (nI y0)), (15, .int 1), (14, .int (0 + ((((((0 + ((((mm_part (f6 (y0 * 2 ^ e9 + x0)) 0).toInt64) * (256 - v3)) * (256 - v4))) + ((((mm_part (f6 (y0 * 2 ^ e9 + x1)) 0).toInt64) * v3) * (256 - v4))) + ((((mm_part (f6 (y1 * 2 ^ e9 + x0)) 0).toInt64) * (256 - v3)) * v4)) + ((((mm_part (f6 (y1 * 2 ^ e9 + x1)) 0).toInt64) * v3) * v4)) / 65536).toInt32))), (12, .long v4), (10, .long v3), (8, .long v2), (6, .long v1), (0, .ref m0), (1, .int w9), (2, .long a), (4, .long b)]) hx hb dM_soft_89 hl (by decide) rfl (fun ls hl => ?_)
  refine lv_aload_n hx hb dM_soft_91 rfl (lv_at hl 10 rfl) ?_
  refine lv_iload_n hx hb dM_soft_92 rfl (lv_at hl 11 rfl) ?_
  refine lv_lload hx hb dM_soft_93 (lv_at hl 8 rfl) ?_
  refine lv_iload hx hb dM_soft_95 (lv_at hl 1 rfl) ?_
  refine lv_iconst (v := 2) hx hb dM_soft_97 (by decide) ?_
  refine lv_idiv hx hb dM_soft_98 (by decide) ?_
  refine W.eq (g2 := F0 m 99 ls [.int 1, .long v2, .int w9, .ref m0]) rfl ?_
  refine lv_i2l hx hb dM_soft_99 rfl ?_
  refine lv_ladd hx hb dM_soft_100 ?_
  refine W.callV (W.runV (C := "TextureBankModel") (As := [.int w9, .long (v2 + ((1 : Int32).toInt64))]) (rest := []) ⟨hx, hb, hml, hown, hB⟩ (kM_into l D cI m0 a1 a2 a3 a4 a5 a6 th mn zz (nI (2 ^ e9)) f1 f2 f3 f4 f5 f6 w9 (v2 + ((1 : Int32).toInt64)) hs1 hs2) ⟨callB_of 2 hB gwM_into rfl rfl rfl (hB _ wd_3) (hB _ wd_418) ydM_into ⟨Nat.le_of_ble_eq_true rfl, Nat.le_of_ble_eq_true rfl⟩, hB _ wd_420, hB _ ws_17⟩ (rd_V hC hP hK (va_recv hK hP (ci := 2) (q0 := 0) rfl rfl)) rfl rfl hl.1 rfl (lv_room (Nat.le_of_ble_eq_true rfl)) dM_soft_101 ⟨Nat.zero_le _, Nat.zero_le _⟩) ?_
  refine W.eq (g2 := F0 m 104 ls [.int (mm_into (nI (2 ^ e9)) w9 (v2 + ((1 : Int32).toInt64)))]) rfl ?_
  refine W.eq (g2 := F0 m 104 ls [.int (nI y1)]) (by rw [ev2, hy1]) ?_
  refine lv_istore (lv' := [(20, .int (nI y1)), (19, .int (nI x0)), (18, .int 2), (16, .long ((0 + ((((mm_part (f6 (y0 * 2 ^ e9 + x0)) 1).toInt64) * (256 - v3)) * (256 - v4))) + ((((mm_part (f6 (y0 * 2 ^ e9 + x1)) 1).toInt64) * v3) * (256 - v4)))), (15, .int 1), (14, .int (0 + ((((((0 + ((((mm_part (f6 (y0 * 2 ^ e9 + x0)) 0).toInt64) * (256 - v3)) * (256 - v4))) + ((((mm_part (f6 (y0 * 2 ^ e9 + x1)) 0).toInt64) * v3) * (256 - v4))) + ((((mm_part (f6 (y1 * 2 ^ e9 + x0)) 0).toInt64) * (256 - v3)) * v4)) + ((((mm_part (f6 (y1 * 2 ^ e9 + x1)) 0).toInt64) * v3) * v4)) / 65536).toInt32))), (12, .long v4), (10, .long v3), (8, .long v2), (6, .long v1), (0, .ref m0), (1, .int w9), (2, .long a), (4, .long b)]) hx hb dM_soft_104 hl (by decide) rfl (fun ls hl => ?_)
  refine lv_lload hx hb dM_soft_106 (lv_at hl 3 rfl) ?_
  refine lv_aload_n hx hb dM_soft_108 rfl (lv_at hl 10 rfl) ?_
  refine va_get (D := D) (ci := 2) (v := .ref a6) (C := RM) (T := FM) (N := 10) hx hb hB inM hown hK hP 0 rfl rfl 8 (by decide) (hB _ wd_330) (fun _ h9 => h9) rfl dM_soft_109 ?_
  refine lv_iload hx hb dM_soft_112 (lv_at hl 0 rfl) ?_
  refine lv_aload_n hx hb dM_soft_114 rfl (lv_at hl 10 rfl) ?_
  refine va_get (D := D) (ci := 2) (v := .int (nI (2 ^ e9))) (C := RM) (T := FM) (N := 10) hx hb hB inM hown hK hP 0 rfl rfl 9 (by decide) (hB _ wd_331) (fun _ h9 => h9) rfl dM_soft_115 ?_
  refine lv_imul hx hb dM_soft_118 ?_
  refine lv_iload hx hb dM_soft_119 (lv_at hl 1 rfl) ?_
  refine lv_iadd hx hb dM_soft_121 ?_
  refine W.eq (g2 := F0 m 122 ls [.int (nI (y1 * 2 ^ e9 + x0)), .ref a6, .long ((0 + ((((mm_part (f6 (y0 * 2 ^ e9 + x0)) 1).toInt64) * (256 - v3)) * (256 - v4))) + ((((mm_part (f6 (y0 * 2 ^ e9 + x1)) 1).toInt64) * v3) * (256 - v4)))]) (by rw [pk_mul, nI_add]) ?_
  refine va_iald hx hb hK hP 6 0 (f := f6) rfl rfl (i := nI (y1 * 2 ^ e9 + x0)) (vp_in_nI (mm_nl5 he9 lx0 ly1) (by omega)) dM_soft_122 ?_
  refine W.eq (g2 := F0 m 123 ls [.int (f6 (y1 * 2 ^ e9 + x0)), .long ((0 + ((((mm_part (f6 (y0 * 2 ^ e9 + x0)) 1).toInt64) * (256 - v3)) * (256 - v4))) + ((((mm_part (f6 (y0 * 2 ^ e9 + x1)) 1).toInt64) * v3) * (256 - v4)))]) (by rw [nI_clamp (by have := (mm_nl5 he9 lx0 ly1 : y1 * 2 ^ e9 + x0 < 1024); omega)]) ?_
  refine lv_iload hx hb dM_soft_123 (lv_at hl 4 rfl) ?_
  refine W.callV (W.runS (As := [.int (f6 (y1 * 2 ^ e9 + x0)), .int 1]) (rest := [.long ((0 + ((((mm_part (f6 (y0 * 2 ^ e9 + x0)) 1).toInt64) * (256 - v3)) * (256 - v4))) + ((((mm_part (f6 (y0 * 2 ^ e9 + x1)) 1).toInt64) * v3) * (256 - v4)))]) ⟨hx, hb, hml, hown, hB⟩ (kM_part l (f6 (y1 * 2 ^ e9 + x0)) 1) ⟨callB_of 2 hB gwM_part rfl rfl rfl (hB _ wd_3) (hB _ wd_405) ydM_part ⟨Nat.le_of_ble_eq_true rfl, Nat.le_of_ble_eq_true rfl⟩, hB _ wd_406⟩ (preEq) rfl rfl hl.1 rfl (lv_room (Nat.le_of_ble_eq_true rfl)) dM_soft_125 ⟨Nat.zero_le _, Nat.zero_le _⟩) ?_
  refine W.eq (g2 := F0 m 128 ls [.int (mm_part (f6 (y1 * 2 ^ e9 + x0)) 1), .long ((0 + ((((mm_part (f6 (y0 * 2 ^ e9 + x0)) 1).toInt64) * (256 - v3)) * (256 - v4))) + ((((mm_part (f6 (y0 * 2 ^ e9 + x1)) 1).toInt64) * v3) * (256 - v4)))]) rfl ?_
  refine lv_i2l hx hb dM_soft_128 rfl ?_
  refine lv_iload hx hb dM_soft_129 (lv_at hl 2 rfl) ?_
  refine lv_iconst (v := 2) hx hb dM_soft_131 (by decide) ?_
  refine lv_irem hx hb dM_soft_132 (by decide) ?_
  refine W.eq (g2 := F0 m 133 ls [.int 0, .long ((mm_part (f6 (y1 * 2 ^ e9 + x0)) 1).toInt64), .long ((0 + ((((mm_part (f6 (y0 * 2 ^ e9 + x0)) 1).toInt64) * (256 - v3)) * (256 - v4))) + ((((mm_part (f6 (y0 * 2 ^ e9 + x1)) 1).toInt64) * v3) * (256 - v4)))]) rfl ?_
  refine lv_if_ne (tgt := 145) hx hb dM_soft_133 (by decide) (fun c_23 => absurd c_23 (by decide)) (fun c_23 => ?_)
  refine lv_ldc2 (v := 256) hx hb hown (hB _ wd_417) dM_soft_136 ?_
  refine lv_lload hx hb dM_soft_139 (lv_at hl 7 rfl) ?_
  refine lv_lsub hx hb dM_soft_141 ?_
  refine lv_goto (tgt := 147) hx hb dM_soft_142 (by decide) ?_
  refine lv_lmul hx hb dM_soft_147 ?_
  refine lv_iload hx hb dM_soft_148 (lv_at hl 2 rfl) ?_
  refine lv_iconst (v := 2) hx hb dM_soft_150 (by decide) ?_
  refine lv_idiv hx hb dM_soft_151 (by decide) ?_
  refine W.eq (g2 := F0 m 152 ls [.int 1, .long (((mm_part (f6 (y1 * 2 ^ e9 + x0)) 1).toInt64) * (256 - v3)), .long ((0 + ((((mm_part (f6 (y0 * 2 ^ e9 + x0)) 1).toInt64) * (256 - v3)) * (256 - v4))) + ((((mm_part (f6 (y0 * 2 ^ e9 + x1)) 1).toInt64) * v3) * (256 - v4)))]) rfl ?_
  refine lv_if_ne (tgt := 164) hx hb dM_soft_152 (by decide) (fun c_24 => ?_) (fun c_24 => absurd c_24 (by decide))
  refine lv_lload hx hb dM_soft_164 (lv_at hl 6 rfl) ?_
  refine lv_lmul hx hb dM_soft_166 ?_
  refine lv_ladd hx hb dM_soft_167 ?_
  refine lv_lstore (lv' := [(16, .long (((0 + ((((mm_part (f6 (y0 * 2 ^ e9 + x0)) 1).toInt64) * (256 - v3)) * (256 - v4))) + ((((mm_part (f6 (y0 * 2 ^ e9 + x1)) 1).toInt64) * v3) * (256 - v4))) + ((((mm_part (f6 (y1 * 2 ^ e9 + x0)) 1).toInt64) * (256 - v3)) * v4))), (20, .int (nI y1)), (19, .int (nI x0)), (18, .int 2), (15, .int 1), (14, .int (0 + ((((((0 + ((((mm_part (f6 (y0 * 2 ^ e9 + x0)) 0).toInt64) * (256 - v3)) * (256 - v4))) + ((((mm_part (f6 (y0 * 2 ^ e9 + x1)) 0).toInt64) * v3) * (256 - v4))) + ((((mm_part (f6 (y1 * 2 ^ e9 + x0)) 0).toInt64) * (256 - v3)) * v4)) + ((((mm_part (f6 (y1 * 2 ^ e9 + x1)) 0).toInt64) * v3) * v4)) / 65536).toInt32))), (12, .long v4), (10, .long v3), (8, .long v2), (6, .long v1), (0, .ref m0), (1, .int w9), (2, .long a), (4, .long b)]) hx hb dM_soft_168 hl (by decide) rfl (fun ls hl => ?_)
  refine lv_iinc (v := 3) (lv' := [(18, .int 3), (16, .long (((0 + ((((mm_part (f6 (y0 * 2 ^ e9 + x0)) 1).toInt64) * (256 - v3)) * (256 - v4))) + ((((mm_part (f6 (y0 * 2 ^ e9 + x1)) 1).toInt64) * v3) * (256 - v4))) + ((((mm_part (f6 (y1 * 2 ^ e9 + x0)) 1).toInt64) * (256 - v3)) * v4))), (20, .int (nI y1)), (19, .int (nI x0)), (15, .int 1), (14, .int (0 + ((((((0 + ((((mm_part (f6 (y0 * 2 ^ e9 + x0)) 0).toInt64) * (256 - v3)) * (256 - v4))) + ((((mm_part (f6 (y0 * 2 ^ e9 + x1)) 0).toInt64) * v3) * (256 - v4))) + ((((mm_part (f6 (y1 * 2 ^ e9 + x0)) 0).toInt64) * (256 - v3)) * v4)) + ((((mm_part (f6 (y1 * 2 ^ e9 + x1)) 0).toInt64) * v3) * v4)) / 65536).toInt32))), (12, .long v4), (10, .long v3), (8, .long v2), (6, .long v1), (0, .ref m0), (1, .int w9), (2, .long a), (4, .long b)]) hx hb dM_soft_170 hl (k := 3) rfl (by decide) (by decide) rfl (fun ls hl => ?_)
  refine lv_goto (tgt := 70) hx hb dM_soft_173 (by decide) ?_
  refine lv_iload hx hb dM_soft_70 (lv_at hl 0 rfl) ?_
  refine lv_iconst (v := 4) hx hb dM_soft_72 (by decide) ?_
  refine lv_icmp_ge (tgt := 176) hx hb dM_soft_73 (by decide) (fun c_25 => absurd c_25 (by decide)) (fun c_25 => ?_)
  refine lv_aload_n hx hb dM_soft_76 rfl (lv_at hl 10 rfl) ?_
  refine lv_iload_n hx hb dM_soft_77 rfl (lv_at hl 11 rfl) ?_
  refine lv_lload hx hb dM_soft_78 (lv_at hl 9 rfl) ?_
  refine lv_iload hx hb dM_soft_80 (lv_at hl 0 rfl) ?_
  refine lv_iconst (v := 2) hx hb dM_soft_82 (by decide) ?_
  refine lv_irem hx hb dM_soft_83 (by decide) ?_
  refine W.eq (g2 := F0 m 84 ls [.int 1, .long v1, .int w9, .ref m0]) rfl ?_
  refine lv_i2l hx hb dM_soft_84 rfl ?_
  refine lv_ladd hx hb dM_soft_85 ?_
  refine W.callV (W.runV (C := "TextureBankModel") (As := [.int w9, .long (v1 + ((1 : Int32).toInt64))]) (rest := []) ⟨hx, hb, hml, hown, hB⟩ (kM_into l D cI m0 a1 a2 a3 a4 a5 a6 th mn zz (nI (2 ^ e9)) f1 f2 f3 f4 f5 f6 w9 (v1 + ((1 : Int32).toInt64)) hs1 hs2) ⟨callB_of 2 hB gwM_into rfl rfl rfl (hB _ wd_3) (hB _ wd_418) ydM_into ⟨Nat.le_of_ble_eq_true rfl, Nat.le_of_ble_eq_true rfl⟩, hB _ wd_420, hB _ ws_17⟩ (rd_V hC hP hK (va_recv hK hP (ci := 2) (q0 := 0) rfl rfl)) rfl rfl hl.1 rfl (lv_room (Nat.le_of_ble_eq_true rfl)) dM_soft_86 ⟨Nat.zero_le _, Nat.zero_le _⟩) ?_
  refine W.eq (g2 := F0 m 89 ls [.int (mm_into (nI (2 ^ e9)) w9 (v1 + ((1 : Int32).toInt64)))]) rfl ?_
  refine W.eq (g2 := F0 m 89 ls [.int (nI x1)]) (by rw [ev1, hx1]) ?_
  refine lv_istore (lv' := [(19, .int (nI x1)), (18, .int 3), (16, .long (((0 + ((((mm_part (f6 (y0 * 2 ^ e9 + x0)) 1).toInt64) * (256 - v3)) * (256 - v4))) + ((((mm_part (f6 (y0 * 2 ^ e9 + x1)) 1).toInt64) * v3) * (256 - v4))) + ((((mm_part (f6 (y1 * 2 ^ e9 + x0)) 1).toInt64) * (256 - v3)) * v4))), (20, .int (nI y1)), (15, .int 1), (14, .int (0 + ((((((0 + ((((mm_part (f6 (y0 * 2 ^ e9 + x0)) 0).toInt64) * (256 - v3)) * (256 - v4))) + ((((mm_part (f6 (y0 * 2 ^ e9 + x1)) 0).toInt64) * v3) * (256 - v4))) + ((((mm_part (f6 (y1 * 2 ^ e9 + x0)) 0).toInt64) * (256 - v3)) * v4)) + ((((mm_part (f6 (y1 * 2 ^ e9 + x1)) 0).toInt64) * v3) * v4)) / 65536).toInt32))), (12, .long v4), (10, .long v3), (8, .long v2), (6, .long v1), (0, .ref m0), (1, .int w9), (2, .long a), (4, .long b)]) hx hb dM_soft_89 hl (by decide) rfl (fun ls hl => ?_)
  refine lv_aload_n hx hb dM_soft_91 rfl (lv_at hl 10 rfl) ?_
  refine lv_iload_n hx hb dM_soft_92 rfl (lv_at hl 11 rfl) ?_
  refine lv_lload hx hb dM_soft_93 (lv_at hl 8 rfl) ?_
  refine lv_iload hx hb dM_soft_95 (lv_at hl 1 rfl) ?_
  refine lv_iconst (v := 2) hx hb dM_soft_97 (by decide) ?_
  refine lv_idiv hx hb dM_soft_98 (by decide) ?_
  refine W.eq (g2 := F0 m 99 ls [.int 1, .long v2, .int w9, .ref m0]) rfl ?_
  refine lv_i2l hx hb dM_soft_99 rfl ?_
  refine lv_ladd hx hb dM_soft_100 ?_
  refine W.callV (W.runV (C := "TextureBankModel") (As := [.int w9, .long (v2 + ((1 : Int32).toInt64))]) (rest := []) ⟨hx, hb, hml, hown, hB⟩ (kM_into l D cI m0 a1 a2 a3 a4 a5 a6 th mn zz (nI (2 ^ e9)) f1 f2 f3 f4 f5 f6 w9 (v2 + ((1 : Int32).toInt64)) hs1 hs2) ⟨callB_of 2 hB gwM_into rfl rfl rfl (hB _ wd_3) (hB _ wd_418) ydM_into ⟨Nat.le_of_ble_eq_true rfl, Nat.le_of_ble_eq_true rfl⟩, hB _ wd_420, hB _ ws_17⟩ (rd_V hC hP hK (va_recv hK hP (ci := 2) (q0 := 0) rfl rfl)) rfl rfl hl.1 rfl (lv_room (Nat.le_of_ble_eq_true rfl)) dM_soft_101 ⟨Nat.zero_le _, Nat.zero_le _⟩) ?_
  refine W.eq (g2 := F0 m 104 ls [.int (mm_into (nI (2 ^ e9)) w9 (v2 + ((1 : Int32).toInt64)))]) rfl ?_
  refine W.eq (g2 := F0 m 104 ls [.int (nI y1)]) (by rw [ev2, hy1]) ?_
  refine lv_istore (lv' := [(20, .int (nI y1)), (19, .int (nI x1)), (18, .int 3), (16, .long (((0 + ((((mm_part (f6 (y0 * 2 ^ e9 + x0)) 1).toInt64) * (256 - v3)) * (256 - v4))) + ((((mm_part (f6 (y0 * 2 ^ e9 + x1)) 1).toInt64) * v3) * (256 - v4))) + ((((mm_part (f6 (y1 * 2 ^ e9 + x0)) 1).toInt64) * (256 - v3)) * v4))), (15, .int 1), (14, .int (0 + ((((((0 + ((((mm_part (f6 (y0 * 2 ^ e9 + x0)) 0).toInt64) * (256 - v3)) * (256 - v4))) + ((((mm_part (f6 (y0 * 2 ^ e9 + x1)) 0).toInt64) * v3) * (256 - v4))) + ((((mm_part (f6 (y1 * 2 ^ e9 + x0)) 0).toInt64) * (256 - v3)) * v4)) + ((((mm_part (f6 (y1 * 2 ^ e9 + x1)) 0).toInt64) * v3) * v4)) / 65536).toInt32))), (12, .long v4), (10, .long v3), (8, .long v2), (6, .long v1), (0, .ref m0), (1, .int w9), (2, .long a), (4, .long b)]) hx hb dM_soft_104 hl (by decide) rfl (fun ls hl => ?_)
  refine lv_lload hx hb dM_soft_106 (lv_at hl 3 rfl) ?_
  refine lv_aload_n hx hb dM_soft_108 rfl (lv_at hl 10 rfl) ?_
  refine va_get (D := D) (ci := 2) (v := .ref a6) (C := RM) (T := FM) (N := 10) hx hb hB inM hown hK hP 0 rfl rfl 8 (by decide) (hB _ wd_330) (fun _ h9 => h9) rfl dM_soft_109 ?_
  refine lv_iload hx hb dM_soft_112 (lv_at hl 0 rfl) ?_
  refine lv_aload_n hx hb dM_soft_114 rfl (lv_at hl 10 rfl) ?_
  refine va_get (D := D) (ci := 2) (v := .int (nI (2 ^ e9))) (C := RM) (T := FM) (N := 10) hx hb hB inM hown hK hP 0 rfl rfl 9 (by decide) (hB _ wd_331) (fun _ h9 => h9) rfl dM_soft_115 ?_
  refine lv_imul hx hb dM_soft_118 ?_
  refine lv_iload hx hb dM_soft_119 (lv_at hl 1 rfl) ?_
  refine lv_iadd hx hb dM_soft_121 ?_
  refine W.eq (g2 := F0 m 122 ls [.int (nI (y1 * 2 ^ e9 + x1)), .ref a6, .long (((0 + ((((mm_part (f6 (y0 * 2 ^ e9 + x0)) 1).toInt64) * (256 - v3)) * (256 - v4))) + ((((mm_part (f6 (y0 * 2 ^ e9 + x1)) 1).toInt64) * v3) * (256 - v4))) + ((((mm_part (f6 (y1 * 2 ^ e9 + x0)) 1).toInt64) * (256 - v3)) * v4))]) (by rw [pk_mul, nI_add]) ?_
  refine va_iald hx hb hK hP 6 0 (f := f6) rfl rfl (i := nI (y1 * 2 ^ e9 + x1)) (vp_in_nI (mm_nl5 he9 lx1 ly1) (by omega)) dM_soft_122 ?_
  refine W.eq (g2 := F0 m 123 ls [.int (f6 (y1 * 2 ^ e9 + x1)), .long (((0 + ((((mm_part (f6 (y0 * 2 ^ e9 + x0)) 1).toInt64) * (256 - v3)) * (256 - v4))) + ((((mm_part (f6 (y0 * 2 ^ e9 + x1)) 1).toInt64) * v3) * (256 - v4))) + ((((mm_part (f6 (y1 * 2 ^ e9 + x0)) 1).toInt64) * (256 - v3)) * v4))]) (by rw [nI_clamp (by have := (mm_nl5 he9 lx1 ly1 : y1 * 2 ^ e9 + x1 < 1024); omega)]) ?_
  refine lv_iload hx hb dM_soft_123 (lv_at hl 4 rfl) ?_
  refine W.callV (W.runS (As := [.int (f6 (y1 * 2 ^ e9 + x1)), .int 1]) (rest := [.long (((0 + ((((mm_part (f6 (y0 * 2 ^ e9 + x0)) 1).toInt64) * (256 - v3)) * (256 - v4))) + ((((mm_part (f6 (y0 * 2 ^ e9 + x1)) 1).toInt64) * v3) * (256 - v4))) + ((((mm_part (f6 (y1 * 2 ^ e9 + x0)) 1).toInt64) * (256 - v3)) * v4))]) ⟨hx, hb, hml, hown, hB⟩ (kM_part l (f6 (y1 * 2 ^ e9 + x1)) 1) ⟨callB_of 2 hB gwM_part rfl rfl rfl (hB _ wd_3) (hB _ wd_405) ydM_part ⟨Nat.le_of_ble_eq_true rfl, Nat.le_of_ble_eq_true rfl⟩, hB _ wd_406⟩ (preEq) rfl rfl hl.1 rfl (lv_room (Nat.le_of_ble_eq_true rfl)) dM_soft_125 ⟨Nat.zero_le _, Nat.zero_le _⟩) ?_
  refine W.eq (g2 := F0 m 128 ls [.int (mm_part (f6 (y1 * 2 ^ e9 + x1)) 1), .long (((0 + ((((mm_part (f6 (y0 * 2 ^ e9 + x0)) 1).toInt64) * (256 - v3)) * (256 - v4))) + ((((mm_part (f6 (y0 * 2 ^ e9 + x1)) 1).toInt64) * v3) * (256 - v4))) + ((((mm_part (f6 (y1 * 2 ^ e9 + x0)) 1).toInt64) * (256 - v3)) * v4))]) rfl ?_
  refine lv_i2l hx hb dM_soft_128 rfl ?_
  refine lv_iload hx hb dM_soft_129 (lv_at hl 2 rfl) ?_
  refine lv_iconst (v := 2) hx hb dM_soft_131 (by decide) ?_
  refine lv_irem hx hb dM_soft_132 (by decide) ?_
  refine W.eq (g2 := F0 m 133 ls [.int 1, .long ((mm_part (f6 (y1 * 2 ^ e9 + x1)) 1).toInt64), .long (((0 + ((((mm_part (f6 (y0 * 2 ^ e9 + x0)) 1).toInt64) * (256 - v3)) * (256 - v4))) + ((((mm_part (f6 (y0 * 2 ^ e9 + x1)) 1).toInt64) * v3) * (256 - v4))) + ((((mm_part (f6 (y1 * 2 ^ e9 + x0)) 1).toInt64) * (256 - v3)) * v4))]) rfl ?_
  refine lv_if_ne (tgt := 145) hx hb dM_soft_133 (by decide) (fun c_26 => ?_) (fun c_26 => absurd c_26 (by decide))
  refine lv_lload hx hb dM_soft_145 (lv_at hl 7 rfl) ?_
  refine lv_lmul hx hb dM_soft_147 ?_
  refine lv_iload hx hb dM_soft_148 (lv_at hl 2 rfl) ?_
  refine lv_iconst (v := 2) hx hb dM_soft_150 (by decide) ?_
  refine lv_idiv hx hb dM_soft_151 (by decide) ?_
  refine W.eq (g2 := F0 m 152 ls [.int 1, .long (((mm_part (f6 (y1 * 2 ^ e9 + x1)) 1).toInt64) * v3), .long (((0 + ((((mm_part (f6 (y0 * 2 ^ e9 + x0)) 1).toInt64) * (256 - v3)) * (256 - v4))) + ((((mm_part (f6 (y0 * 2 ^ e9 + x1)) 1).toInt64) * v3) * (256 - v4))) + ((((mm_part (f6 (y1 * 2 ^ e9 + x0)) 1).toInt64) * (256 - v3)) * v4))]) rfl ?_
  refine lv_if_ne (tgt := 164) hx hb dM_soft_152 (by decide) (fun c_27 => ?_) (fun c_27 => absurd c_27 (by decide))
  refine lv_lload hx hb dM_soft_164 (lv_at hl 6 rfl) ?_
  refine lv_lmul hx hb dM_soft_166 ?_
  refine lv_ladd hx hb dM_soft_167 ?_
  refine lv_lstore (lv' := [(16, .long ((((0 + ((((mm_part (f6 (y0 * 2 ^ e9 + x0)) 1).toInt64) * (256 - v3)) * (256 - v4))) + ((((mm_part (f6 (y0 * 2 ^ e9 + x1)) 1).toInt64) * v3) * (256 - v4))) + ((((mm_part (f6 (y1 * 2 ^ e9 + x0)) 1).toInt64) * (256 - v3)) * v4)) + ((((mm_part (f6 (y1 * 2 ^ e9 + x1)) 1).toInt64) * v3) * v4))), (20, .int (nI y1)), (19, .int (nI x1)), (18, .int 3), (15, .int 1), (14, .int (0 + ((((((0 + ((((mm_part (f6 (y0 * 2 ^ e9 + x0)) 0).toInt64) * (256 - v3)) * (256 - v4))) + ((((mm_part (f6 (y0 * 2 ^ e9 + x1)) 0).toInt64) * v3) * (256 - v4))) + ((((mm_part (f6 (y1 * 2 ^ e9 + x0)) 0).toInt64) * (256 - v3)) * v4)) + ((((mm_part (f6 (y1 * 2 ^ e9 + x1)) 0).toInt64) * v3) * v4)) / 65536).toInt32))), (12, .long v4), (10, .long v3), (8, .long v2), (6, .long v1), (0, .ref m0), (1, .int w9), (2, .long a), (4, .long b)]) hx hb dM_soft_168 hl (by decide) rfl (fun ls hl => ?_)
  refine lv_iinc (v := 4) (lv' := [(18, .int 4), (16, .long ((((0 + ((((mm_part (f6 (y0 * 2 ^ e9 + x0)) 1).toInt64) * (256 - v3)) * (256 - v4))) + ((((mm_part (f6 (y0 * 2 ^ e9 + x1)) 1).toInt64) * v3) * (256 - v4))) + ((((mm_part (f6 (y1 * 2 ^ e9 + x0)) 1).toInt64) * (256 - v3)) * v4)) + ((((mm_part (f6 (y1 * 2 ^ e9 + x1)) 1).toInt64) * v3) * v4))), (20, .int (nI y1)), (19, .int (nI x1)), (15, .int 1), (14, .int (0 + ((((((0 + ((((mm_part (f6 (y0 * 2 ^ e9 + x0)) 0).toInt64) * (256 - v3)) * (256 - v4))) + ((((mm_part (f6 (y0 * 2 ^ e9 + x1)) 0).toInt64) * v3) * (256 - v4))) + ((((mm_part (f6 (y1 * 2 ^ e9 + x0)) 0).toInt64) * (256 - v3)) * v4)) + ((((mm_part (f6 (y1 * 2 ^ e9 + x1)) 0).toInt64) * v3) * v4)) / 65536).toInt32))), (12, .long v4), (10, .long v3), (8, .long v2), (6, .long v1), (0, .ref m0), (1, .int w9), (2, .long a), (4, .long b)]) hx hb dM_soft_170 hl (k := 3) rfl (by decide) (by decide) rfl (fun ls hl => ?_)
  refine lv_goto (tgt := 70) hx hb dM_soft_173 (by decide) ?_
  refine lv_iload hx hb dM_soft_70 (lv_at hl 0 rfl) ?_
  refine lv_iconst (v := 4) hx hb dM_soft_72 (by decide) ?_
  refine lv_icmp_ge (tgt := 176) hx hb dM_soft_73 (by decide) (fun c_28 => ?_) (fun c_28 => absurd c_28 (by decide))
  refine lv_iload hx hb dM_soft_176 (lv_at hl 5 rfl) ?_
  refine lv_sipush (v := 256) hx hb dM_soft_178 (by decide) ?_
  refine lv_imul hx hb dM_soft_181 ?_
  refine lv_lload hx hb dM_soft_182 (lv_at hl 1 rfl) ?_
  refine lv_ldc2 (v := 65536) hx hb hown (hB _ wd_413) dM_soft_184 ?_
  refine lv_ldiv hx hb dM_soft_187 (by decide) ?_
  refine lv_l2i hx hb dM_soft_188 rfl ?_
  refine lv_iadd hx hb dM_soft_189 ?_
  refine lv_istore (lv' := [(14, .int (((0 + ((((((0 + ((((mm_part (f6 (y0 * 2 ^ e9 + x0)) 0).toInt64) * (256 - v3)) * (256 - v4))) + ((((mm_part (f6 (y0 * 2 ^ e9 + x1)) 0).toInt64) * v3) * (256 - v4))) + ((((mm_part (f6 (y1 * 2 ^ e9 + x0)) 0).toInt64) * (256 - v3)) * v4)) + ((((mm_part (f6 (y1 * 2 ^ e9 + x1)) 0).toInt64) * v3) * v4)) / 65536).toInt32)) * 256) + ((((((0 + ((((mm_part (f6 (y0 * 2 ^ e9 + x0)) 1).toInt64) * (256 - v3)) * (256 - v4))) + ((((mm_part (f6 (y0 * 2 ^ e9 + x1)) 1).toInt64) * v3) * (256 - v4))) + ((((mm_part (f6 (y1 * 2 ^ e9 + x0)) 1).toInt64) * (256 - v3)) * v4)) + ((((mm_part (f6 (y1 * 2 ^ e9 + x1)) 1).toInt64) * v3) * v4)) / 65536).toInt32))), (18, .int 4), (16, .long ((((0 + ((((mm_part (f6 (y0 * 2 ^ e9 + x0)) 1).toInt64) * (256 - v3)) * (256 - v4))) + ((((mm_part (f6 (y0 * 2 ^ e9 + x1)) 1).toInt64) * v3) * (256 - v4))) + ((((mm_part (f6 (y1 * 2 ^ e9 + x0)) 1).toInt64) * (256 - v3)) * v4)) + ((((mm_part (f6 (y1 * 2 ^ e9 + x1)) 1).toInt64) * v3) * v4))), (20, .int (nI y1)), (19, .int (nI x1)), (15, .int 1), (12, .long v4), (10, .long v3), (8, .long v2), (6, .long v1), (0, .ref m0), (1, .int w9), (2, .long a), (4, .long b)]) hx hb dM_soft_190 hl (by decide) rfl (fun ls hl => ?_)
  refine lv_iinc (v := 2) (lv' := [(15, .int 2), (14, .int (((0 + ((((((0 + ((((mm_part (f6 (y0 * 2 ^ e9 + x0)) 0).toInt64) * (256 - v3)) * (256 - v4))) + ((((mm_part (f6 (y0 * 2 ^ e9 + x1)) 0).toInt64) * v3) * (256 - v4))) + ((((mm_part (f6 (y1 * 2 ^ e9 + x0)) 0).toInt64) * (256 - v3)) * v4)) + ((((mm_part (f6 (y1 * 2 ^ e9 + x1)) 0).toInt64) * v3) * v4)) / 65536).toInt32)) * 256) + ((((((0 + ((((mm_part (f6 (y0 * 2 ^ e9 + x0)) 1).toInt64) * (256 - v3)) * (256 - v4))) + ((((mm_part (f6 (y0 * 2 ^ e9 + x1)) 1).toInt64) * v3) * (256 - v4))) + ((((mm_part (f6 (y1 * 2 ^ e9 + x0)) 1).toInt64) * (256 - v3)) * v4)) + ((((mm_part (f6 (y1 * 2 ^ e9 + x1)) 1).toInt64) * v3) * v4)) / 65536).toInt32))), (18, .int 4), (16, .long ((((0 + ((((mm_part (f6 (y0 * 2 ^ e9 + x0)) 1).toInt64) * (256 - v3)) * (256 - v4))) + ((((mm_part (f6 (y0 * 2 ^ e9 + x1)) 1).toInt64) * v3) * (256 - v4))) + ((((mm_part (f6 (y1 * 2 ^ e9 + x0)) 1).toInt64) * (256 - v3)) * v4)) + ((((mm_part (f6 (y1 * 2 ^ e9 + x1)) 1).toInt64) * v3) * v4))), (20, .int (nI y1)), (19, .int (nI x1)), (12, .long v4), (10, .long v3), (8, .long v2), (6, .long v1), (0, .ref m0), (1, .int w9), (2, .long a), (4, .long b)]) hx hb dM_soft_192 hl (k := 5) rfl (by decide) (by decide) rfl (fun ls hl => ?_)
  refine lv_goto (tgt := 58) hx hb dM_soft_195 (by decide) ?_
  refine lv_iload hx hb dM_soft_58 (lv_at hl 0 rfl) ?_
  refine lv_iconst (v := 3) hx hb dM_soft_60 (by decide) ?_
  refine lv_icmp_ge (tgt := 198) hx hb dM_soft_61 (by decide) (fun c_29 => absurd c_29 (by decide)) (fun c_29 => ?_)
  refine lv_lconst (v := 0) hx hb dM_soft_64 (by decide) ?_
  refine lv_lstore (lv' := [(16, .long 0), (15, .int 2), (14, .int (((0 + ((((((0 + ((((mm_part (f6 (y0 * 2 ^ e9 + x0)) 0).toInt64) * (256 - v3)) * (256 - v4))) + ((((mm_part (f6 (y0 * 2 ^ e9 + x1)) 0).toInt64) * v3) * (256 - v4))) + ((((mm_part (f6 (y1 * 2 ^ e9 + x0)) 0).toInt64) * (256 - v3)) * v4)) + ((((mm_part (f6 (y1 * 2 ^ e9 + x1)) 0).toInt64) * v3) * v4)) / 65536).toInt32)) * 256) + ((((((0 + ((((mm_part (f6 (y0 * 2 ^ e9 + x0)) 1).toInt64) * (256 - v3)) * (256 - v4))) + ((((mm_part (f6 (y0 * 2 ^ e9 + x1)) 1).toInt64) * v3) * (256 - v4))) + ((((mm_part (f6 (y1 * 2 ^ e9 + x0)) 1).toInt64) * (256 - v3)) * v4)) + ((((mm_part (f6 (y1 * 2 ^ e9 + x1)) 1).toInt64) * v3) * v4)) / 65536).toInt32))), (18, .int 4), (20, .int (nI y1)), (19, .int (nI x1)), (12, .long v4), (10, .long v3), (8, .long v2), (6, .long v1), (0, .ref m0), (1, .int w9), (2, .long a), (4, .long b)]) hx hb dM_soft_65 hl (by decide) rfl (fun ls hl => ?_)
  refine lv_iconst (v := 0) hx hb dM_soft_67 (by decide) ?_
  refine lv_istore (lv' := [(18, .int 0), (16, .long 0), (15, .int 2), (14, .int (((0 + ((((((0 + ((((mm_part (f6 (y0 * 2 ^ e9 + x0)) 0).toInt64) * (256 - v3)) * (256 - v4))) + ((((mm_part (f6 (y0 * 2 ^ e9 + x1)) 0).toInt64) * v3) * (256 - v4))) + ((((mm_part (f6 (y1 * 2 ^ e9 + x0)) 0).toInt64) * (256 - v3)) * v4)) + ((((mm_part (f6 (y1 * 2 ^ e9 + x1)) 0).toInt64) * v3) * v4)) / 65536).toInt32)) * 256) + ((((((0 + ((((mm_part (f6 (y0 * 2 ^ e9 + x0)) 1).toInt64) * (256 - v3)) * (256 - v4))) + ((((mm_part (f6 (y0 * 2 ^ e9 + x1)) 1).toInt64) * v3) * (256 - v4))) + ((((mm_part (f6 (y1 * 2 ^ e9 + x0)) 1).toInt64) * (256 - v3)) * v4)) + ((((mm_part (f6 (y1 * 2 ^ e9 + x1)) 1).toInt64) * v3) * v4)) / 65536).toInt32))), (20, .int (nI y1)), (19, .int (nI x1)), (12, .long v4), (10, .long v3), (8, .long v2), (6, .long v1), (0, .ref m0), (1, .int w9), (2, .long a), (4, .long b)]) hx hb dM_soft_68 hl (by decide) rfl (fun ls hl => ?_)
  refine lv_iload hx hb dM_soft_70 (lv_at hl 0 rfl) ?_
  refine lv_iconst (v := 4) hx hb dM_soft_72 (by decide) ?_
  refine lv_icmp_ge (tgt := 176) hx hb dM_soft_73 (by decide) (fun c_30 => absurd c_30 (by decide)) (fun c_30 => ?_)
  refine lv_aload_n hx hb dM_soft_76 rfl (lv_at hl 10 rfl) ?_
  refine lv_iload_n hx hb dM_soft_77 rfl (lv_at hl 11 rfl) ?_
  refine lv_lload hx hb dM_soft_78 (lv_at hl 9 rfl) ?_
  refine lv_iload hx hb dM_soft_80 (lv_at hl 0 rfl) ?_
  refine lv_iconst (v := 2) hx hb dM_soft_82 (by decide) ?_
  refine lv_irem hx hb dM_soft_83 (by decide) ?_
  refine W.eq (g2 := F0 m 84 ls [.int 0, .long v1, .int w9, .ref m0]) rfl ?_
  refine lv_i2l hx hb dM_soft_84 rfl ?_
  refine lv_ladd hx hb dM_soft_85 ?_
  refine W.callV (W.runV (C := "TextureBankModel") (As := [.int w9, .long (v1 + ((0 : Int32).toInt64))]) (rest := []) ⟨hx, hb, hml, hown, hB⟩ (kM_into l D cI m0 a1 a2 a3 a4 a5 a6 th mn zz (nI (2 ^ e9)) f1 f2 f3 f4 f5 f6 w9 (v1 + ((0 : Int32).toInt64)) hs1 hs2) ⟨callB_of 2 hB gwM_into rfl rfl rfl (hB _ wd_3) (hB _ wd_418) ydM_into ⟨Nat.le_of_ble_eq_true rfl, Nat.le_of_ble_eq_true rfl⟩, hB _ wd_420, hB _ ws_17⟩ (rd_V hC hP hK (va_recv hK hP (ci := 2) (q0 := 0) rfl rfl)) rfl rfl hl.1 rfl (lv_room (Nat.le_of_ble_eq_true rfl)) dM_soft_86 ⟨Nat.zero_le _, Nat.zero_le _⟩) ?_
  refine W.eq (g2 := F0 m 89 ls [.int (mm_into (nI (2 ^ e9)) w9 (v1 + ((0 : Int32).toInt64)))]) rfl ?_
  refine W.eq (g2 := F0 m 89 ls [.int (nI x0)]) (by rw [ev1, hx0]) ?_
  refine lv_istore (lv' := [(19, .int (nI x0)), (18, .int 0), (16, .long 0), (15, .int 2), (14, .int (((0 + ((((((0 + ((((mm_part (f6 (y0 * 2 ^ e9 + x0)) 0).toInt64) * (256 - v3)) * (256 - v4))) + ((((mm_part (f6 (y0 * 2 ^ e9 + x1)) 0).toInt64) * v3) * (256 - v4))) + ((((mm_part (f6 (y1 * 2 ^ e9 + x0)) 0).toInt64) * (256 - v3)) * v4)) + ((((mm_part (f6 (y1 * 2 ^ e9 + x1)) 0).toInt64) * v3) * v4)) / 65536).toInt32)) * 256) + ((((((0 + ((((mm_part (f6 (y0 * 2 ^ e9 + x0)) 1).toInt64) * (256 - v3)) * (256 - v4))) + ((((mm_part (f6 (y0 * 2 ^ e9 + x1)) 1).toInt64) * v3) * (256 - v4))) + ((((mm_part (f6 (y1 * 2 ^ e9 + x0)) 1).toInt64) * (256 - v3)) * v4)) + ((((mm_part (f6 (y1 * 2 ^ e9 + x1)) 1).toInt64) * v3) * v4)) / 65536).toInt32))), (20, .int (nI y1)), (12, .long v4), (10, .long v3), (8, .long v2), (6, .long v1), (0, .ref m0), (1, .int w9), (2, .long a), (4, .long b)]) hx hb dM_soft_89 hl (by decide) rfl (fun ls hl => ?_)
  refine lv_aload_n hx hb dM_soft_91 rfl (lv_at hl 10 rfl) ?_
  refine lv_iload_n hx hb dM_soft_92 rfl (lv_at hl 11 rfl) ?_
  refine lv_lload hx hb dM_soft_93 (lv_at hl 8 rfl) ?_
  refine lv_iload hx hb dM_soft_95 (lv_at hl 1 rfl) ?_
  refine lv_iconst (v := 2) hx hb dM_soft_97 (by decide) ?_
  refine lv_idiv hx hb dM_soft_98 (by decide) ?_
  refine W.eq (g2 := F0 m 99 ls [.int 0, .long v2, .int w9, .ref m0]) rfl ?_
  refine lv_i2l hx hb dM_soft_99 rfl ?_
  refine lv_ladd hx hb dM_soft_100 ?_
  refine W.callV (W.runV (C := "TextureBankModel") (As := [.int w9, .long (v2 + ((0 : Int32).toInt64))]) (rest := []) ⟨hx, hb, hml, hown, hB⟩ (kM_into l D cI m0 a1 a2 a3 a4 a5 a6 th mn zz (nI (2 ^ e9)) f1 f2 f3 f4 f5 f6 w9 (v2 + ((0 : Int32).toInt64)) hs1 hs2) ⟨callB_of 2 hB gwM_into rfl rfl rfl (hB _ wd_3) (hB _ wd_418) ydM_into ⟨Nat.le_of_ble_eq_true rfl, Nat.le_of_ble_eq_true rfl⟩, hB _ wd_420, hB _ ws_17⟩ (rd_V hC hP hK (va_recv hK hP (ci := 2) (q0 := 0) rfl rfl)) rfl rfl hl.1 rfl (lv_room (Nat.le_of_ble_eq_true rfl)) dM_soft_101 ⟨Nat.zero_le _, Nat.zero_le _⟩) ?_
  refine W.eq (g2 := F0 m 104 ls [.int (mm_into (nI (2 ^ e9)) w9 (v2 + ((0 : Int32).toInt64)))]) rfl ?_
  refine W.eq (g2 := F0 m 104 ls [.int (nI y0)]) (by rw [ev2, hy0]) ?_
  refine lv_istore (lv' := [(20, .int (nI y0)), (19, .int (nI x0)), (18, .int 0), (16, .long 0), (15, .int 2), (14, .int (((0 + ((((((0 + ((((mm_part (f6 (y0 * 2 ^ e9 + x0)) 0).toInt64) * (256 - v3)) * (256 - v4))) + ((((mm_part (f6 (y0 * 2 ^ e9 + x1)) 0).toInt64) * v3) * (256 - v4))) + ((((mm_part (f6 (y1 * 2 ^ e9 + x0)) 0).toInt64) * (256 - v3)) * v4)) + ((((mm_part (f6 (y1 * 2 ^ e9 + x1)) 0).toInt64) * v3) * v4)) / 65536).toInt32)) * 256) + ((((((0 + ((((mm_part (f6 (y0 * 2 ^ e9 + x0)) 1).toInt64) * (256 - v3)) * (256 - v4))) + ((((mm_part (f6 (y0 * 2 ^ e9 + x1)) 1).toInt64) * v3) * (256 - v4))) + ((((mm_part (f6 (y1 * 2 ^ e9 + x0)) 1).toInt64) * (256 - v3)) * v4)) + ((((mm_part (f6 (y1 * 2 ^ e9 + x1)) 1).toInt64) * v3) * v4)) / 65536).toInt32))), (12, .long v4), (10, .long v3), (8, .long v2), (6, .long v1), (0, .ref m0), (1, .int w9), (2, .long a), (4, .long b)]) hx hb dM_soft_104 hl (by decide) rfl (fun ls hl => ?_)
  refine lv_lload hx hb dM_soft_106 (lv_at hl 3 rfl) ?_
  refine lv_aload_n hx hb dM_soft_108 rfl (lv_at hl 10 rfl) ?_
  refine va_get (D := D) (ci := 2) (v := .ref a6) (C := RM) (T := FM) (N := 10) hx hb hB inM hown hK hP 0 rfl rfl 8 (by decide) (hB _ wd_330) (fun _ h9 => h9) rfl dM_soft_109 ?_
  refine lv_iload hx hb dM_soft_112 (lv_at hl 0 rfl) ?_
  refine lv_aload_n hx hb dM_soft_114 rfl (lv_at hl 10 rfl) ?_
  refine va_get (D := D) (ci := 2) (v := .int (nI (2 ^ e9))) (C := RM) (T := FM) (N := 10) hx hb hB inM hown hK hP 0 rfl rfl 9 (by decide) (hB _ wd_331) (fun _ h9 => h9) rfl dM_soft_115 ?_
  refine lv_imul hx hb dM_soft_118 ?_
  refine lv_iload hx hb dM_soft_119 (lv_at hl 1 rfl) ?_
  refine lv_iadd hx hb dM_soft_121 ?_
  refine W.eq (g2 := F0 m 122 ls [.int (nI (y0 * 2 ^ e9 + x0)), .ref a6, .long 0]) (by rw [pk_mul, nI_add]) ?_
  refine va_iald hx hb hK hP 6 0 (f := f6) rfl rfl (i := nI (y0 * 2 ^ e9 + x0)) (vp_in_nI (mm_nl5 he9 lx0 ly0) (by omega)) dM_soft_122 ?_
  refine W.eq (g2 := F0 m 123 ls [.int (f6 (y0 * 2 ^ e9 + x0)), .long 0]) (by rw [nI_clamp (by have := (mm_nl5 he9 lx0 ly0 : y0 * 2 ^ e9 + x0 < 1024); omega)]) ?_
  refine lv_iload hx hb dM_soft_123 (lv_at hl 4 rfl) ?_
  refine W.callV (W.runS (As := [.int (f6 (y0 * 2 ^ e9 + x0)), .int 2]) (rest := [.long 0]) ⟨hx, hb, hml, hown, hB⟩ (kM_part l (f6 (y0 * 2 ^ e9 + x0)) 2) ⟨callB_of 2 hB gwM_part rfl rfl rfl (hB _ wd_3) (hB _ wd_405) ydM_part ⟨Nat.le_of_ble_eq_true rfl, Nat.le_of_ble_eq_true rfl⟩, hB _ wd_406⟩ (preEq) rfl rfl hl.1 rfl (lv_room (Nat.le_of_ble_eq_true rfl)) dM_soft_125 ⟨Nat.zero_le _, Nat.zero_le _⟩) ?_
  refine W.eq (g2 := F0 m 128 ls [.int (mm_part (f6 (y0 * 2 ^ e9 + x0)) 2), .long 0]) rfl ?_
  refine lv_i2l hx hb dM_soft_128 rfl ?_
  refine lv_iload hx hb dM_soft_129 (lv_at hl 2 rfl) ?_
  refine lv_iconst (v := 2) hx hb dM_soft_131 (by decide) ?_
  refine lv_irem hx hb dM_soft_132 (by decide) ?_
  refine W.eq (g2 := F0 m 133 ls [.int 0, .long ((mm_part (f6 (y0 * 2 ^ e9 + x0)) 2).toInt64), .long 0]) rfl ?_
  refine lv_if_ne (tgt := 145) hx hb dM_soft_133 (by decide) (fun c_31 => absurd c_31 (by decide)) (fun c_31 => ?_)
  refine lv_ldc2 (v := 256) hx hb hown (hB _ wd_417) dM_soft_136 ?_
  refine lv_lload hx hb dM_soft_139 (lv_at hl 7 rfl) ?_
  refine lv_lsub hx hb dM_soft_141 ?_
  refine lv_goto (tgt := 147) hx hb dM_soft_142 (by decide) ?_
  refine lv_lmul hx hb dM_soft_147 ?_
  refine lv_iload hx hb dM_soft_148 (lv_at hl 2 rfl) ?_
  refine lv_iconst (v := 2) hx hb dM_soft_150 (by decide) ?_
  refine lv_idiv hx hb dM_soft_151 (by decide) ?_
  refine W.eq (g2 := F0 m 152 ls [.int 0, .long (((mm_part (f6 (y0 * 2 ^ e9 + x0)) 2).toInt64) * (256 - v3)), .long 0]) rfl ?_
  refine lv_if_ne (tgt := 164) hx hb dM_soft_152 (by decide) (fun c_32 => absurd c_32 (by decide)) (fun c_32 => ?_)
  refine lv_ldc2 (v := 256) hx hb hown (hB _ wd_417) dM_soft_155 ?_
  refine lv_lload hx hb dM_soft_158 (lv_at hl 6 rfl) ?_
  refine lv_lsub hx hb dM_soft_160 ?_
  refine lv_goto (tgt := 166) hx hb dM_soft_161 (by decide) ?_
  refine lv_lmul hx hb dM_soft_166 ?_
  refine lv_ladd hx hb dM_soft_167 ?_
  refine lv_lstore (lv' := [(16, .long (0 + ((((mm_part (f6 (y0 * 2 ^ e9 + x0)) 2).toInt64) * (256 - v3)) * (256 - v4)))), (20, .int (nI y0)), (19, .int (nI x0)), (18, .int 0), (15, .int 2), (14, .int (((0 + ((((((0 + ((((mm_part (f6 (y0 * 2 ^ e9 + x0)) 0).toInt64) * (256 - v3)) * (256 - v4))) + ((((mm_part (f6 (y0 * 2 ^ e9 + x1)) 0).toInt64) * v3) * (256 - v4))) + ((((mm_part (f6 (y1 * 2 ^ e9 + x0)) 0).toInt64) * (256 - v3)) * v4)) + ((((mm_part (f6 (y1 * 2 ^ e9 + x1)) 0).toInt64) * v3) * v4)) / 65536).toInt32)) * 256) + ((((((0 + ((((mm_part (f6 (y0 * 2 ^ e9 + x0)) 1).toInt64) * (256 - v3)) * (256 - v4))) + ((((mm_part (f6 (y0 * 2 ^ e9 + x1)) 1).toInt64) * v3) * (256 - v4))) + ((((mm_part (f6 (y1 * 2 ^ e9 + x0)) 1).toInt64) * (256 - v3)) * v4)) + ((((mm_part (f6 (y1 * 2 ^ e9 + x1)) 1).toInt64) * v3) * v4)) / 65536).toInt32))), (12, .long v4), (10, .long v3), (8, .long v2), (6, .long v1), (0, .ref m0), (1, .int w9), (2, .long a), (4, .long b)]) hx hb dM_soft_168 hl (by decide) rfl (fun ls hl => ?_)
  refine lv_iinc (v := 1) (lv' := [(18, .int 1), (16, .long (0 + ((((mm_part (f6 (y0 * 2 ^ e9 + x0)) 2).toInt64) * (256 - v3)) * (256 - v4)))), (20, .int (nI y0)), (19, .int (nI x0)), (15, .int 2), (14, .int (((0 + ((((((0 + ((((mm_part (f6 (y0 * 2 ^ e9 + x0)) 0).toInt64) * (256 - v3)) * (256 - v4))) + ((((mm_part (f6 (y0 * 2 ^ e9 + x1)) 0).toInt64) * v3) * (256 - v4))) + ((((mm_part (f6 (y1 * 2 ^ e9 + x0)) 0).toInt64) * (256 - v3)) * v4)) + ((((mm_part (f6 (y1 * 2 ^ e9 + x1)) 0).toInt64) * v3) * v4)) / 65536).toInt32)) * 256) + ((((((0 + ((((mm_part (f6 (y0 * 2 ^ e9 + x0)) 1).toInt64) * (256 - v3)) * (256 - v4))) + ((((mm_part (f6 (y0 * 2 ^ e9 + x1)) 1).toInt64) * v3) * (256 - v4))) + ((((mm_part (f6 (y1 * 2 ^ e9 + x0)) 1).toInt64) * (256 - v3)) * v4)) + ((((mm_part (f6 (y1 * 2 ^ e9 + x1)) 1).toInt64) * v3) * v4)) / 65536).toInt32))), (12, .long v4), (10, .long v3), (8, .long v2), (6, .long v1), (0, .ref m0), (1, .int w9), (2, .long a), (4, .long b)]) hx hb dM_soft_170 hl (k := 3) rfl (by decide) (by decide) rfl (fun ls hl => ?_)
  refine lv_goto (tgt := 70) hx hb dM_soft_173 (by decide) ?_
  refine lv_iload hx hb dM_soft_70 (lv_at hl 0 rfl) ?_
  refine lv_iconst (v := 4) hx hb dM_soft_72 (by decide) ?_
  refine lv_icmp_ge (tgt := 176) hx hb dM_soft_73 (by decide) (fun c_33 => absurd c_33 (by decide)) (fun c_33 => ?_)
  refine lv_aload_n hx hb dM_soft_76 rfl (lv_at hl 10 rfl) ?_
  refine lv_iload_n hx hb dM_soft_77 rfl (lv_at hl 11 rfl) ?_
  refine lv_lload hx hb dM_soft_78 (lv_at hl 9 rfl) ?_
  refine lv_iload hx hb dM_soft_80 (lv_at hl 0 rfl) ?_
  refine lv_iconst (v := 2) hx hb dM_soft_82 (by decide) ?_
  refine lv_irem hx hb dM_soft_83 (by decide) ?_
  refine W.eq (g2 := F0 m 84 ls [.int 1, .long v1, .int w9, .ref m0]) rfl ?_
  refine lv_i2l hx hb dM_soft_84 rfl ?_
  refine lv_ladd hx hb dM_soft_85 ?_
  refine W.callV (W.runV (C := "TextureBankModel") (As := [.int w9, .long (v1 + ((1 : Int32).toInt64))]) (rest := []) ⟨hx, hb, hml, hown, hB⟩ (kM_into l D cI m0 a1 a2 a3 a4 a5 a6 th mn zz (nI (2 ^ e9)) f1 f2 f3 f4 f5 f6 w9 (v1 + ((1 : Int32).toInt64)) hs1 hs2) ⟨callB_of 2 hB gwM_into rfl rfl rfl (hB _ wd_3) (hB _ wd_418) ydM_into ⟨Nat.le_of_ble_eq_true rfl, Nat.le_of_ble_eq_true rfl⟩, hB _ wd_420, hB _ ws_17⟩ (rd_V hC hP hK (va_recv hK hP (ci := 2) (q0 := 0) rfl rfl)) rfl rfl hl.1 rfl (lv_room (Nat.le_of_ble_eq_true rfl)) dM_soft_86 ⟨Nat.zero_le _, Nat.zero_le _⟩) ?_
  refine W.eq (g2 := F0 m 89 ls [.int (mm_into (nI (2 ^ e9)) w9 (v1 + ((1 : Int32).toInt64)))]) rfl ?_
  refine W.eq (g2 := F0 m 89 ls [.int (nI x1)]) (by rw [ev1, hx1]) ?_
  refine lv_istore (lv' := [(19, .int (nI x1)), (18, .int 1), (16, .long (0 + ((((mm_part (f6 (y0 * 2 ^ e9 + x0)) 2).toInt64) * (256 - v3)) * (256 - v4)))), (20, .int (nI y0)), (15, .int 2), (14, .int (((0 + ((((((0 + ((((mm_part (f6 (y0 * 2 ^ e9 + x0)) 0).toInt64) * (256 - v3)) * (256 - v4))) + ((((mm_part (f6 (y0 * 2 ^ e9 + x1)) 0).toInt64) * v3) * (256 - v4))) + ((((mm_part (f6 (y1 * 2 ^ e9 + x0)) 0).toInt64) * (256 - v3)) * v4)) + ((((mm_part (f6 (y1 * 2 ^ e9 + x1)) 0).toInt64) * v3) * v4)) / 65536).toInt32)) * 256) + ((((((0 + ((((mm_part (f6 (y0 * 2 ^ e9 + x0)) 1).toInt64) * (256 - v3)) * (256 - v4))) + ((((mm_part (f6 (y0 * 2 ^ e9 + x1)) 1).toInt64) * v3) * (256 - v4))) + ((((mm_part (f6 (y1 * 2 ^ e9 + x0)) 1).toInt64) * (256 - v3)) * v4)) + ((((mm_part (f6 (y1 * 2 ^ e9 + x1)) 1).toInt64) * v3) * v4)) / 65536).toInt32))), (12, .long v4), (10, .long v3), (8, .long v2), (6, .long v1), (0, .ref m0), (1, .int w9), (2, .long a), (4, .long b)]) hx hb dM_soft_89 hl (by decide) rfl (fun ls hl => ?_)
  refine lv_aload_n hx hb dM_soft_91 rfl (lv_at hl 10 rfl) ?_
  refine lv_iload_n hx hb dM_soft_92 rfl (lv_at hl 11 rfl) ?_
  refine lv_lload hx hb dM_soft_93 (lv_at hl 8 rfl) ?_
  refine lv_iload hx hb dM_soft_95 (lv_at hl 1 rfl) ?_
  refine lv_iconst (v := 2) hx hb dM_soft_97 (by decide) ?_
  refine lv_idiv hx hb dM_soft_98 (by decide) ?_
  refine W.eq (g2 := F0 m 99 ls [.int 0, .long v2, .int w9, .ref m0]) rfl ?_
  refine lv_i2l hx hb dM_soft_99 rfl ?_
  refine lv_ladd hx hb dM_soft_100 ?_
  refine W.callV (W.runV (C := "TextureBankModel") (As := [.int w9, .long (v2 + ((0 : Int32).toInt64))]) (rest := []) ⟨hx, hb, hml, hown, hB⟩ (kM_into l D cI m0 a1 a2 a3 a4 a5 a6 th mn zz (nI (2 ^ e9)) f1 f2 f3 f4 f5 f6 w9 (v2 + ((0 : Int32).toInt64)) hs1 hs2) ⟨callB_of 2 hB gwM_into rfl rfl rfl (hB _ wd_3) (hB _ wd_418) ydM_into ⟨Nat.le_of_ble_eq_true rfl, Nat.le_of_ble_eq_true rfl⟩, hB _ wd_420, hB _ ws_17⟩ (rd_V hC hP hK (va_recv hK hP (ci := 2) (q0 := 0) rfl rfl)) rfl rfl hl.1 rfl (lv_room (Nat.le_of_ble_eq_true rfl)) dM_soft_101 ⟨Nat.zero_le _, Nat.zero_le _⟩) ?_
  refine W.eq (g2 := F0 m 104 ls [.int (mm_into (nI (2 ^ e9)) w9 (v2 + ((0 : Int32).toInt64)))]) rfl ?_
  refine W.eq (g2 := F0 m 104 ls [.int (nI y0)]) (by rw [ev2, hy0]) ?_
  refine lv_istore (lv' := [(20, .int (nI y0)), (19, .int (nI x1)), (18, .int 1), (16, .long (0 + ((((mm_part (f6 (y0 * 2 ^ e9 + x0)) 2).toInt64) * (256 - v3)) * (256 - v4)))), (15, .int 2), (14, .int (((0 + ((((((0 + ((((mm_part (f6 (y0 * 2 ^ e9 + x0)) 0).toInt64) * (256 - v3)) * (256 - v4))) + ((((mm_part (f6 (y0 * 2 ^ e9 + x1)) 0).toInt64) * v3) * (256 - v4))) + ((((mm_part (f6 (y1 * 2 ^ e9 + x0)) 0).toInt64) * (256 - v3)) * v4)) + ((((mm_part (f6 (y1 * 2 ^ e9 + x1)) 0).toInt64) * v3) * v4)) / 65536).toInt32)) * 256) + ((((((0 + ((((mm_part (f6 (y0 * 2 ^ e9 + x0)) 1).toInt64) * (256 - v3)) * (256 - v4))) + ((((mm_part (f6 (y0 * 2 ^ e9 + x1)) 1).toInt64) * v3) * (256 - v4))) + ((((mm_part (f6 (y1 * 2 ^ e9 + x0)) 1).toInt64) * (256 - v3)) * v4)) + ((((mm_part (f6 (y1 * 2 ^ e9 + x1)) 1).toInt64) * v3) * v4)) / 65536).toInt32))), (12, .long v4), (10, .long v3), (8, .long v2), (6, .long v1), (0, .ref m0), (1, .int w9), (2, .long a), (4, .long b)]) hx hb dM_soft_104 hl (by decide) rfl (fun ls hl => ?_)
  refine lv_lload hx hb dM_soft_106 (lv_at hl 3 rfl) ?_
  refine lv_aload_n hx hb dM_soft_108 rfl (lv_at hl 10 rfl) ?_
  refine va_get (D := D) (ci := 2) (v := .ref a6) (C := RM) (T := FM) (N := 10) hx hb hB inM hown hK hP 0 rfl rfl 8 (by decide) (hB _ wd_330) (fun _ h9 => h9) rfl dM_soft_109 ?_
  refine lv_iload hx hb dM_soft_112 (lv_at hl 0 rfl) ?_
  refine lv_aload_n hx hb dM_soft_114 rfl (lv_at hl 10 rfl) ?_
  refine va_get (D := D) (ci := 2) (v := .int (nI (2 ^ e9))) (C := RM) (T := FM) (N := 10) hx hb hB inM hown hK hP 0 rfl rfl 9 (by decide) (hB _ wd_331) (fun _ h9 => h9) rfl dM_soft_115 ?_
  refine lv_imul hx hb dM_soft_118 ?_
  refine lv_iload hx hb dM_soft_119 (lv_at hl 1 rfl) ?_
  refine lv_iadd hx hb dM_soft_121 ?_
  refine W.eq (g2 := F0 m 122 ls [.int (nI (y0 * 2 ^ e9 + x1)), .ref a6, .long (0 + ((((mm_part (f6 (y0 * 2 ^ e9 + x0)) 2).toInt64) * (256 - v3)) * (256 - v4)))]) (by rw [pk_mul, nI_add]) ?_
  refine va_iald hx hb hK hP 6 0 (f := f6) rfl rfl (i := nI (y0 * 2 ^ e9 + x1)) (vp_in_nI (mm_nl5 he9 lx1 ly0) (by omega)) dM_soft_122 ?_
  refine W.eq (g2 := F0 m 123 ls [.int (f6 (y0 * 2 ^ e9 + x1)), .long (0 + ((((mm_part (f6 (y0 * 2 ^ e9 + x0)) 2).toInt64) * (256 - v3)) * (256 - v4)))]) (by rw [nI_clamp (by have := (mm_nl5 he9 lx1 ly0 : y0 * 2 ^ e9 + x1 < 1024); omega)]) ?_
  refine lv_iload hx hb dM_soft_123 (lv_at hl 4 rfl) ?_
  refine W.callV (W.runS (As := [.int (f6 (y0 * 2 ^ e9 + x1)), .int 2]) (rest := [.long (0 + ((((mm_part (f6 (y0 * 2 ^ e9 + x0)) 2).toInt64) * (256 - v3)) * (256 - v4)))]) ⟨hx, hb, hml, hown, hB⟩ (kM_part l (f6 (y0 * 2 ^ e9 + x1)) 2) ⟨callB_of 2 hB gwM_part rfl rfl rfl (hB _ wd_3) (hB _ wd_405) ydM_part ⟨Nat.le_of_ble_eq_true rfl, Nat.le_of_ble_eq_true rfl⟩, hB _ wd_406⟩ (preEq) rfl rfl hl.1 rfl (lv_room (Nat.le_of_ble_eq_true rfl)) dM_soft_125 ⟨Nat.zero_le _, Nat.zero_le _⟩) ?_
  refine W.eq (g2 := F0 m 128 ls [.int (mm_part (f6 (y0 * 2 ^ e9 + x1)) 2), .long (0 + ((((mm_part (f6 (y0 * 2 ^ e9 + x0)) 2).toInt64) * (256 - v3)) * (256 - v4)))]) rfl ?_
  refine lv_i2l hx hb dM_soft_128 rfl ?_
  refine lv_iload hx hb dM_soft_129 (lv_at hl 2 rfl) ?_
  refine lv_iconst (v := 2) hx hb dM_soft_131 (by decide) ?_
  refine lv_irem hx hb dM_soft_132 (by decide) ?_
  refine W.eq (g2 := F0 m 133 ls [.int 1, .long ((mm_part (f6 (y0 * 2 ^ e9 + x1)) 2).toInt64), .long (0 + ((((mm_part (f6 (y0 * 2 ^ e9 + x0)) 2).toInt64) * (256 - v3)) * (256 - v4)))]) rfl ?_
  refine lv_if_ne (tgt := 145) hx hb dM_soft_133 (by decide) (fun c_34 => ?_) (fun c_34 => absurd c_34 (by decide))
  refine lv_lload hx hb dM_soft_145 (lv_at hl 7 rfl) ?_
  refine lv_lmul hx hb dM_soft_147 ?_
  refine lv_iload hx hb dM_soft_148 (lv_at hl 2 rfl) ?_
  refine lv_iconst (v := 2) hx hb dM_soft_150 (by decide) ?_
  refine lv_idiv hx hb dM_soft_151 (by decide) ?_
  refine W.eq (g2 := F0 m 152 ls [.int 0, .long (((mm_part (f6 (y0 * 2 ^ e9 + x1)) 2).toInt64) * v3), .long (0 + ((((mm_part (f6 (y0 * 2 ^ e9 + x0)) 2).toInt64) * (256 - v3)) * (256 - v4)))]) rfl ?_
  refine lv_if_ne (tgt := 164) hx hb dM_soft_152 (by decide) (fun c_35 => absurd c_35 (by decide)) (fun c_35 => ?_)
  refine lv_ldc2 (v := 256) hx hb hown (hB _ wd_417) dM_soft_155 ?_
  refine lv_lload hx hb dM_soft_158 (lv_at hl 6 rfl) ?_
  refine lv_lsub hx hb dM_soft_160 ?_
  refine lv_goto (tgt := 166) hx hb dM_soft_161 (by decide) ?_
  refine lv_lmul hx hb dM_soft_166 ?_
  refine lv_ladd hx hb dM_soft_167 ?_
  refine lv_lstore (lv' := [(16, .long ((0 + ((((mm_part (f6 (y0 * 2 ^ e9 + x0)) 2).toInt64) * (256 - v3)) * (256 - v4))) + ((((mm_part (f6 (y0 * 2 ^ e9 + x1)) 2).toInt64) * v3) * (256 - v4)))), (20, .int (nI y0)), (19, .int (nI x1)), (18, .int 1), (15, .int 2), (14, .int (((0 + ((((((0 + ((((mm_part (f6 (y0 * 2 ^ e9 + x0)) 0).toInt64) * (256 - v3)) * (256 - v4))) + ((((mm_part (f6 (y0 * 2 ^ e9 + x1)) 0).toInt64) * v3) * (256 - v4))) + ((((mm_part (f6 (y1 * 2 ^ e9 + x0)) 0).toInt64) * (256 - v3)) * v4)) + ((((mm_part (f6 (y1 * 2 ^ e9 + x1)) 0).toInt64) * v3) * v4)) / 65536).toInt32)) * 256) + ((((((0 + ((((mm_part (f6 (y0 * 2 ^ e9 + x0)) 1).toInt64) * (256 - v3)) * (256 - v4))) + ((((mm_part (f6 (y0 * 2 ^ e9 + x1)) 1).toInt64) * v3) * (256 - v4))) + ((((mm_part (f6 (y1 * 2 ^ e9 + x0)) 1).toInt64) * (256 - v3)) * v4)) + ((((mm_part (f6 (y1 * 2 ^ e9 + x1)) 1).toInt64) * v3) * v4)) / 65536).toInt32))), (12, .long v4), (10, .long v3), (8, .long v2), (6, .long v1), (0, .ref m0), (1, .int w9), (2, .long a), (4, .long b)]) hx hb dM_soft_168 hl (by decide) rfl (fun ls hl => ?_)
  refine lv_iinc (v := 2) (lv' := [(18, .int 2), (16, .long ((0 + ((((mm_part (f6 (y0 * 2 ^ e9 + x0)) 2).toInt64) * (256 - v3)) * (256 - v4))) + ((((mm_part (f6 (y0 * 2 ^ e9 + x1)) 2).toInt64) * v3) * (256 - v4)))), (20, .int (nI y0)), (19, .int (nI x1)), (15, .int 2), (14, .int (((0 + ((((((0 + ((((mm_part (f6 (y0 * 2 ^ e9 + x0)) 0).toInt64) * (256 - v3)) * (256 - v4))) + ((((mm_part (f6 (y0 * 2 ^ e9 + x1)) 0).toInt64) * v3) * (256 - v4))) + ((((mm_part (f6 (y1 * 2 ^ e9 + x0)) 0).toInt64) * (256 - v3)) * v4)) + ((((mm_part (f6 (y1 * 2 ^ e9 + x1)) 0).toInt64) * v3) * v4)) / 65536).toInt32)) * 256) + ((((((0 + ((((mm_part (f6 (y0 * 2 ^ e9 + x0)) 1).toInt64) * (256 - v3)) * (256 - v4))) + ((((mm_part (f6 (y0 * 2 ^ e9 + x1)) 1).toInt64) * v3) * (256 - v4))) + ((((mm_part (f6 (y1 * 2 ^ e9 + x0)) 1).toInt64) * (256 - v3)) * v4)) + ((((mm_part (f6 (y1 * 2 ^ e9 + x1)) 1).toInt64) * v3) * v4)) / 65536).toInt32))), (12, .long v4), (10, .long v3), (8, .long v2), (6, .long v1), (0, .ref m0), (1, .int w9), (2, .long a), (4, .long b)]) hx hb dM_soft_170 hl (k := 3) rfl (by decide) (by decide) rfl (fun ls hl => ?_)
  refine lv_goto (tgt := 70) hx hb dM_soft_173 (by decide) ?_
  refine lv_iload hx hb dM_soft_70 (lv_at hl 0 rfl) ?_
  refine lv_iconst (v := 4) hx hb dM_soft_72 (by decide) ?_
  refine lv_icmp_ge (tgt := 176) hx hb dM_soft_73 (by decide) (fun c_36 => absurd c_36 (by decide)) (fun c_36 => ?_)
  refine lv_aload_n hx hb dM_soft_76 rfl (lv_at hl 10 rfl) ?_
  refine lv_iload_n hx hb dM_soft_77 rfl (lv_at hl 11 rfl) ?_
  refine lv_lload hx hb dM_soft_78 (lv_at hl 9 rfl) ?_
  refine lv_iload hx hb dM_soft_80 (lv_at hl 0 rfl) ?_
  refine lv_iconst (v := 2) hx hb dM_soft_82 (by decide) ?_
  refine lv_irem hx hb dM_soft_83 (by decide) ?_
  refine W.eq (g2 := F0 m 84 ls [.int 0, .long v1, .int w9, .ref m0]) rfl ?_
  refine lv_i2l hx hb dM_soft_84 rfl ?_
  refine lv_ladd hx hb dM_soft_85 ?_
  refine W.callV (W.runV (C := "TextureBankModel") (As := [.int w9, .long (v1 + ((0 : Int32).toInt64))]) (rest := []) ⟨hx, hb, hml, hown, hB⟩ (kM_into l D cI m0 a1 a2 a3 a4 a5 a6 th mn zz (nI (2 ^ e9)) f1 f2 f3 f4 f5 f6 w9 (v1 + ((0 : Int32).toInt64)) hs1 hs2) ⟨callB_of 2 hB gwM_into rfl rfl rfl (hB _ wd_3) (hB _ wd_418) ydM_into ⟨Nat.le_of_ble_eq_true rfl, Nat.le_of_ble_eq_true rfl⟩, hB _ wd_420, hB _ ws_17⟩ (rd_V hC hP hK (va_recv hK hP (ci := 2) (q0 := 0) rfl rfl)) rfl rfl hl.1 rfl (lv_room (Nat.le_of_ble_eq_true rfl)) dM_soft_86 ⟨Nat.zero_le _, Nat.zero_le _⟩) ?_
  refine W.eq (g2 := F0 m 89 ls [.int (mm_into (nI (2 ^ e9)) w9 (v1 + ((0 : Int32).toInt64)))]) rfl ?_
  refine W.eq (g2 := F0 m 89 ls [.int (nI x0)]) (by rw [ev1, hx0]) ?_
  refine lv_istore (lv' := [(19, .int (nI x0)), (18, .int 2), (16, .long ((0 + ((((mm_part (f6 (y0 * 2 ^ e9 + x0)) 2).toInt64) * (256 - v3)) * (256 - v4))) + ((((mm_part (f6 (y0 * 2 ^ e9 + x1)) 2).toInt64) * v3) * (256 - v4)))), (20, .int (nI y0)), (15, .int 2), (14, .int (((0 + ((((((0 + ((((mm_part (f6 (y0 * 2 ^ e9 + x0)) 0).toInt64) * (256 - v3)) * (256 - v4))) + ((((mm_part (f6 (y0 * 2 ^ e9 + x1)) 0).toInt64) * v3) * (256 - v4))) + ((((mm_part (f6 (y1 * 2 ^ e9 + x0)) 0).toInt64) * (256 - v3)) * v4)) + ((((mm_part (f6 (y1 * 2 ^ e9 + x1)) 0).toInt64) * v3) * v4)) / 65536).toInt32)) * 256) + ((((((0 + ((((mm_part (f6 (y0 * 2 ^ e9 + x0)) 1).toInt64) * (256 - v3)) * (256 - v4))) + ((((mm_part (f6 (y0 * 2 ^ e9 + x1)) 1).toInt64) * v3) * (256 - v4))) + ((((mm_part (f6 (y1 * 2 ^ e9 + x0)) 1).toInt64) * (256 - v3)) * v4)) + ((((mm_part (f6 (y1 * 2 ^ e9 + x1)) 1).toInt64) * v3) * v4)) / 65536).toInt32))), (12, .long v4), (10, .long v3), (8, .long v2), (6, .long v1), (0, .ref m0), (1, .int w9), (2, .long a), (4, .long b)]) hx hb dM_soft_89 hl (by decide) rfl (fun ls hl => ?_)
  refine lv_aload_n hx hb dM_soft_91 rfl (lv_at hl 10 rfl) ?_
  refine lv_iload_n hx hb dM_soft_92 rfl (lv_at hl 11 rfl) ?_
  refine lv_lload hx hb dM_soft_93 (lv_at hl 8 rfl) ?_
  refine lv_iload hx hb dM_soft_95 (lv_at hl 1 rfl) ?_
  refine lv_iconst (v := 2) hx hb dM_soft_97 (by decide) ?_
  refine lv_idiv hx hb dM_soft_98 (by decide) ?_
  refine W.eq (g2 := F0 m 99 ls [.int 1, .long v2, .int w9, .ref m0]) rfl ?_
  refine lv_i2l hx hb dM_soft_99 rfl ?_
  refine lv_ladd hx hb dM_soft_100 ?_
  refine W.callV (W.runV (C := "TextureBankModel") (As := [.int w9, .long (v2 + ((1 : Int32).toInt64))]) (rest := []) ⟨hx, hb, hml, hown, hB⟩ (kM_into l D cI m0 a1 a2 a3 a4 a5 a6 th mn zz (nI (2 ^ e9)) f1 f2 f3 f4 f5 f6 w9 (v2 + ((1 : Int32).toInt64)) hs1 hs2) ⟨callB_of 2 hB gwM_into rfl rfl rfl (hB _ wd_3) (hB _ wd_418) ydM_into ⟨Nat.le_of_ble_eq_true rfl, Nat.le_of_ble_eq_true rfl⟩, hB _ wd_420, hB _ ws_17⟩ (rd_V hC hP hK (va_recv hK hP (ci := 2) (q0 := 0) rfl rfl)) rfl rfl hl.1 rfl (lv_room (Nat.le_of_ble_eq_true rfl)) dM_soft_101 ⟨Nat.zero_le _, Nat.zero_le _⟩) ?_
  refine W.eq (g2 := F0 m 104 ls [.int (mm_into (nI (2 ^ e9)) w9 (v2 + ((1 : Int32).toInt64)))]) rfl ?_
  refine W.eq (g2 := F0 m 104 ls [.int (nI y1)]) (by rw [ev2, hy1]) ?_
  refine lv_istore (lv' := [(20, .int (nI y1)), (19, .int (nI x0)), (18, .int 2), (16, .long ((0 + ((((mm_part (f6 (y0 * 2 ^ e9 + x0)) 2).toInt64) * (256 - v3)) * (256 - v4))) + ((((mm_part (f6 (y0 * 2 ^ e9 + x1)) 2).toInt64) * v3) * (256 - v4)))), (15, .int 2), (14, .int (((0 + ((((((0 + ((((mm_part (f6 (y0 * 2 ^ e9 + x0)) 0).toInt64) * (256 - v3)) * (256 - v4))) + ((((mm_part (f6 (y0 * 2 ^ e9 + x1)) 0).toInt64) * v3) * (256 - v4))) + ((((mm_part (f6 (y1 * 2 ^ e9 + x0)) 0).toInt64) * (256 - v3)) * v4)) + ((((mm_part (f6 (y1 * 2 ^ e9 + x1)) 0).toInt64) * v3) * v4)) / 65536).toInt32)) * 256) + ((((((0 + ((((mm_part (f6 (y0 * 2 ^ e9 + x0)) 1).toInt64) * (256 - v3)) * (256 - v4))) + ((((mm_part (f6 (y0 * 2 ^ e9 + x1)) 1).toInt64) * v3) * (256 - v4))) + ((((mm_part (f6 (y1 * 2 ^ e9 + x0)) 1).toInt64) * (256 - v3)) * v4)) + ((((mm_part (f6 (y1 * 2 ^ e9 + x1)) 1).toInt64) * v3) * v4)) / 65536).toInt32))), (12, .long v4), (10, .long v3), (8, .long v2), (6, .long v1), (0, .ref m0), (1, .int w9), (2, .long a), (4, .long b)]) hx hb dM_soft_104 hl (by decide) rfl (fun ls hl => ?_)
  refine lv_lload hx hb dM_soft_106 (lv_at hl 3 rfl) ?_
  refine lv_aload_n hx hb dM_soft_108 rfl (lv_at hl 10 rfl) ?_
  refine va_get (D := D) (ci := 2) (v := .ref a6) (C := RM) (T := FM) (N := 10) hx hb hB inM hown hK hP 0 rfl rfl 8 (by decide) (hB _ wd_330) (fun _ h9 => h9) rfl dM_soft_109 ?_
  refine lv_iload hx hb dM_soft_112 (lv_at hl 0 rfl) ?_
  refine lv_aload_n hx hb dM_soft_114 rfl (lv_at hl 10 rfl) ?_
  refine va_get (D := D) (ci := 2) (v := .int (nI (2 ^ e9))) (C := RM) (T := FM) (N := 10) hx hb hB inM hown hK hP 0 rfl rfl 9 (by decide) (hB _ wd_331) (fun _ h9 => h9) rfl dM_soft_115 ?_
  refine lv_imul hx hb dM_soft_118 ?_
  refine lv_iload hx hb dM_soft_119 (lv_at hl 1 rfl) ?_
  refine lv_iadd hx hb dM_soft_121 ?_
  refine W.eq (g2 := F0 m 122 ls [.int (nI (y1 * 2 ^ e9 + x0)), .ref a6, .long ((0 + ((((mm_part (f6 (y0 * 2 ^ e9 + x0)) 2).toInt64) * (256 - v3)) * (256 - v4))) + ((((mm_part (f6 (y0 * 2 ^ e9 + x1)) 2).toInt64) * v3) * (256 - v4)))]) (by rw [pk_mul, nI_add]) ?_
  refine va_iald hx hb hK hP 6 0 (f := f6) rfl rfl (i := nI (y1 * 2 ^ e9 + x0)) (vp_in_nI (mm_nl5 he9 lx0 ly1) (by omega)) dM_soft_122 ?_
  refine W.eq (g2 := F0 m 123 ls [.int (f6 (y1 * 2 ^ e9 + x0)), .long ((0 + ((((mm_part (f6 (y0 * 2 ^ e9 + x0)) 2).toInt64) * (256 - v3)) * (256 - v4))) + ((((mm_part (f6 (y0 * 2 ^ e9 + x1)) 2).toInt64) * v3) * (256 - v4)))]) (by rw [nI_clamp (by have := (mm_nl5 he9 lx0 ly1 : y1 * 2 ^ e9 + x0 < 1024); omega)]) ?_
  refine lv_iload hx hb dM_soft_123 (lv_at hl 4 rfl) ?_
  refine W.callV (W.runS (As := [.int (f6 (y1 * 2 ^ e9 + x0)), .int 2]) (rest := [.long ((0 + ((((mm_part (f6 (y0 * 2 ^ e9 + x0)) 2).toInt64) * (256 - v3)) * (256 - v4))) + ((((mm_part (f6 (y0 * 2 ^ e9 + x1)) 2).toInt64) * v3) * (256 - v4)))]) ⟨hx, hb, hml, hown, hB⟩ (kM_part l (f6 (y1 * 2 ^ e9 + x0)) 2) ⟨callB_of 2 hB gwM_part rfl rfl rfl (hB _ wd_3) (hB _ wd_405) ydM_part ⟨Nat.le_of_ble_eq_true rfl, Nat.le_of_ble_eq_true rfl⟩, hB _ wd_406⟩ (preEq) rfl rfl hl.1 rfl (lv_room (Nat.le_of_ble_eq_true rfl)) dM_soft_125 ⟨Nat.zero_le _, Nat.zero_le _⟩) ?_
  refine W.eq (g2 := F0 m 128 ls [.int (mm_part (f6 (y1 * 2 ^ e9 + x0)) 2), .long ((0 + ((((mm_part (f6 (y0 * 2 ^ e9 + x0)) 2).toInt64) * (256 - v3)) * (256 - v4))) + ((((mm_part (f6 (y0 * 2 ^ e9 + x1)) 2).toInt64) * v3) * (256 - v4)))]) rfl ?_
  refine lv_i2l hx hb dM_soft_128 rfl ?_
  refine lv_iload hx hb dM_soft_129 (lv_at hl 2 rfl) ?_
  refine lv_iconst (v := 2) hx hb dM_soft_131 (by decide) ?_
  refine lv_irem hx hb dM_soft_132 (by decide) ?_
  refine W.eq (g2 := F0 m 133 ls [.int 0, .long ((mm_part (f6 (y1 * 2 ^ e9 + x0)) 2).toInt64), .long ((0 + ((((mm_part (f6 (y0 * 2 ^ e9 + x0)) 2).toInt64) * (256 - v3)) * (256 - v4))) + ((((mm_part (f6 (y0 * 2 ^ e9 + x1)) 2).toInt64) * v3) * (256 - v4)))]) rfl ?_
  refine lv_if_ne (tgt := 145) hx hb dM_soft_133 (by decide) (fun c_37 => absurd c_37 (by decide)) (fun c_37 => ?_)
  refine lv_ldc2 (v := 256) hx hb hown (hB _ wd_417) dM_soft_136 ?_
  refine lv_lload hx hb dM_soft_139 (lv_at hl 7 rfl) ?_
  refine lv_lsub hx hb dM_soft_141 ?_
  refine lv_goto (tgt := 147) hx hb dM_soft_142 (by decide) ?_
  refine lv_lmul hx hb dM_soft_147 ?_
  refine lv_iload hx hb dM_soft_148 (lv_at hl 2 rfl) ?_
  refine lv_iconst (v := 2) hx hb dM_soft_150 (by decide) ?_
  refine lv_idiv hx hb dM_soft_151 (by decide) ?_
  refine W.eq (g2 := F0 m 152 ls [.int 1, .long (((mm_part (f6 (y1 * 2 ^ e9 + x0)) 2).toInt64) * (256 - v3)), .long ((0 + ((((mm_part (f6 (y0 * 2 ^ e9 + x0)) 2).toInt64) * (256 - v3)) * (256 - v4))) + ((((mm_part (f6 (y0 * 2 ^ e9 + x1)) 2).toInt64) * v3) * (256 - v4)))]) rfl ?_
  refine lv_if_ne (tgt := 164) hx hb dM_soft_152 (by decide) (fun c_38 => ?_) (fun c_38 => absurd c_38 (by decide))
  refine lv_lload hx hb dM_soft_164 (lv_at hl 6 rfl) ?_
  refine lv_lmul hx hb dM_soft_166 ?_
  refine lv_ladd hx hb dM_soft_167 ?_
  refine lv_lstore (lv' := [(16, .long (((0 + ((((mm_part (f6 (y0 * 2 ^ e9 + x0)) 2).toInt64) * (256 - v3)) * (256 - v4))) + ((((mm_part (f6 (y0 * 2 ^ e9 + x1)) 2).toInt64) * v3) * (256 - v4))) + ((((mm_part (f6 (y1 * 2 ^ e9 + x0)) 2).toInt64) * (256 - v3)) * v4))), (20, .int (nI y1)), (19, .int (nI x0)), (18, .int 2), (15, .int 2), (14, .int (((0 + ((((((0 + ((((mm_part (f6 (y0 * 2 ^ e9 + x0)) 0).toInt64) * (256 - v3)) * (256 - v4))) + ((((mm_part (f6 (y0 * 2 ^ e9 + x1)) 0).toInt64) * v3) * (256 - v4))) + ((((mm_part (f6 (y1 * 2 ^ e9 + x0)) 0).toInt64) * (256 - v3)) * v4)) + ((((mm_part (f6 (y1 * 2 ^ e9 + x1)) 0).toInt64) * v3) * v4)) / 65536).toInt32)) * 256) + ((((((0 + ((((mm_part (f6 (y0 * 2 ^ e9 + x0)) 1).toInt64) * (256 - v3)) * (256 - v4))) + ((((mm_part (f6 (y0 * 2 ^ e9 + x1)) 1).toInt64) * v3) * (256 - v4))) + ((((mm_part (f6 (y1 * 2 ^ e9 + x0)) 1).toInt64) * (256 - v3)) * v4)) + ((((mm_part (f6 (y1 * 2 ^ e9 + x1)) 1).toInt64) * v3) * v4)) / 65536).toInt32))), (12, .long v4), (10, .long v3), (8, .long v2), (6, .long v1), (0, .ref m0), (1, .int w9), (2, .long a), (4, .long b)]) hx hb dM_soft_168 hl (by decide) rfl (fun ls hl => ?_)
  refine lv_iinc (v := 3) (lv' := [(18, .int 3), (16, .long (((0 + ((((mm_part (f6 (y0 * 2 ^ e9 + x0)) 2).toInt64) * (256 - v3)) * (256 - v4))) + ((((mm_part (f6 (y0 * 2 ^ e9 + x1)) 2).toInt64) * v3) * (256 - v4))) + ((((mm_part (f6 (y1 * 2 ^ e9 + x0)) 2).toInt64) * (256 - v3)) * v4))), (20, .int (nI y1)), (19, .int (nI x0)), (15, .int 2), (14, .int (((0 + ((((((0 + ((((mm_part (f6 (y0 * 2 ^ e9 + x0)) 0).toInt64) * (256 - v3)) * (256 - v4))) + ((((mm_part (f6 (y0 * 2 ^ e9 + x1)) 0).toInt64) * v3) * (256 - v4))) + ((((mm_part (f6 (y1 * 2 ^ e9 + x0)) 0).toInt64) * (256 - v3)) * v4)) + ((((mm_part (f6 (y1 * 2 ^ e9 + x1)) 0).toInt64) * v3) * v4)) / 65536).toInt32)) * 256) + ((((((0 + ((((mm_part (f6 (y0 * 2 ^ e9 + x0)) 1).toInt64) * (256 - v3)) * (256 - v4))) + ((((mm_part (f6 (y0 * 2 ^ e9 + x1)) 1).toInt64) * v3) * (256 - v4))) + ((((mm_part (f6 (y1 * 2 ^ e9 + x0)) 1).toInt64) * (256 - v3)) * v4)) + ((((mm_part (f6 (y1 * 2 ^ e9 + x1)) 1).toInt64) * v3) * v4)) / 65536).toInt32))), (12, .long v4), (10, .long v3), (8, .long v2), (6, .long v1), (0, .ref m0), (1, .int w9), (2, .long a), (4, .long b)]) hx hb dM_soft_170 hl (k := 3) rfl (by decide) (by decide) rfl (fun ls hl => ?_)
  refine lv_goto (tgt := 70) hx hb dM_soft_173 (by decide) ?_
  refine lv_iload hx hb dM_soft_70 (lv_at hl 0 rfl) ?_
  refine lv_iconst (v := 4) hx hb dM_soft_72 (by decide) ?_
  refine lv_icmp_ge (tgt := 176) hx hb dM_soft_73 (by decide) (fun c_39 => absurd c_39 (by decide)) (fun c_39 => ?_)
  refine lv_aload_n hx hb dM_soft_76 rfl (lv_at hl 10 rfl) ?_
  refine lv_iload_n hx hb dM_soft_77 rfl (lv_at hl 11 rfl) ?_
  refine lv_lload hx hb dM_soft_78 (lv_at hl 9 rfl) ?_
  refine lv_iload hx hb dM_soft_80 (lv_at hl 0 rfl) ?_
  refine lv_iconst (v := 2) hx hb dM_soft_82 (by decide) ?_
  refine lv_irem hx hb dM_soft_83 (by decide) ?_
  refine W.eq (g2 := F0 m 84 ls [.int 1, .long v1, .int w9, .ref m0]) rfl ?_
  refine lv_i2l hx hb dM_soft_84 rfl ?_
  refine lv_ladd hx hb dM_soft_85 ?_
  refine W.callV (W.runV (C := "TextureBankModel") (As := [.int w9, .long (v1 + ((1 : Int32).toInt64))]) (rest := []) ⟨hx, hb, hml, hown, hB⟩ (kM_into l D cI m0 a1 a2 a3 a4 a5 a6 th mn zz (nI (2 ^ e9)) f1 f2 f3 f4 f5 f6 w9 (v1 + ((1 : Int32).toInt64)) hs1 hs2) ⟨callB_of 2 hB gwM_into rfl rfl rfl (hB _ wd_3) (hB _ wd_418) ydM_into ⟨Nat.le_of_ble_eq_true rfl, Nat.le_of_ble_eq_true rfl⟩, hB _ wd_420, hB _ ws_17⟩ (rd_V hC hP hK (va_recv hK hP (ci := 2) (q0 := 0) rfl rfl)) rfl rfl hl.1 rfl (lv_room (Nat.le_of_ble_eq_true rfl)) dM_soft_86 ⟨Nat.zero_le _, Nat.zero_le _⟩) ?_
  refine W.eq (g2 := F0 m 89 ls [.int (mm_into (nI (2 ^ e9)) w9 (v1 + ((1 : Int32).toInt64)))]) rfl ?_
  refine W.eq (g2 := F0 m 89 ls [.int (nI x1)]) (by rw [ev1, hx1]) ?_
  refine lv_istore (lv' := [(19, .int (nI x1)), (18, .int 3), (16, .long (((0 + ((((mm_part (f6 (y0 * 2 ^ e9 + x0)) 2).toInt64) * (256 - v3)) * (256 - v4))) + ((((mm_part (f6 (y0 * 2 ^ e9 + x1)) 2).toInt64) * v3) * (256 - v4))) + ((((mm_part (f6 (y1 * 2 ^ e9 + x0)) 2).toInt64) * (256 - v3)) * v4))), (20, .int (nI y1)), (15, .int 2), (14, .int (((0 + ((((((0 + ((((mm_part (f6 (y0 * 2 ^ e9 + x0)) 0).toInt64) * (256 - v3)) * (256 - v4))) + ((((mm_part (f6 (y0 * 2 ^ e9 + x1)) 0).toInt64) * v3) * (256 - v4))) + ((((mm_part (f6 (y1 * 2 ^ e9 + x0)) 0).toInt64) * (256 - v3)) * v4)) + ((((mm_part (f6 (y1 * 2 ^ e9 + x1)) 0).toInt64) * v3) * v4)) / 65536).toInt32)) * 256) + ((((((0 + ((((mm_part (f6 (y0 * 2 ^ e9 + x0)) 1).toInt64) * (256 - v3)) * (256 - v4))) + ((((mm_part (f6 (y0 * 2 ^ e9 + x1)) 1).toInt64) * v3) * (256 - v4))) + ((((mm_part (f6 (y1 * 2 ^ e9 + x0)) 1).toInt64) * (256 - v3)) * v4)) + ((((mm_part (f6 (y1 * 2 ^ e9 + x1)) 1).toInt64) * v3) * v4)) / 65536).toInt32))), (12, .long v4), (10, .long v3), (8, .long v2), (6, .long v1), (0, .ref m0), (1, .int w9), (2, .long a), (4, .long b)]) hx hb dM_soft_89 hl (by decide) rfl (fun ls hl => ?_)
  refine lv_aload_n hx hb dM_soft_91 rfl (lv_at hl 10 rfl) ?_
  refine lv_iload_n hx hb dM_soft_92 rfl (lv_at hl 11 rfl) ?_
  refine lv_lload hx hb dM_soft_93 (lv_at hl 8 rfl) ?_
  refine lv_iload hx hb dM_soft_95 (lv_at hl 1 rfl) ?_
  refine lv_iconst (v := 2) hx hb dM_soft_97 (by decide) ?_
  refine lv_idiv hx hb dM_soft_98 (by decide) ?_
  refine W.eq (g2 := F0 m 99 ls [.int 1, .long v2, .int w9, .ref m0]) rfl ?_
  refine lv_i2l hx hb dM_soft_99 rfl ?_
  refine lv_ladd hx hb dM_soft_100 ?_
  refine W.callV (W.runV (C := "TextureBankModel") (As := [.int w9, .long (v2 + ((1 : Int32).toInt64))]) (rest := []) ⟨hx, hb, hml, hown, hB⟩ (kM_into l D cI m0 a1 a2 a3 a4 a5 a6 th mn zz (nI (2 ^ e9)) f1 f2 f3 f4 f5 f6 w9 (v2 + ((1 : Int32).toInt64)) hs1 hs2) ⟨callB_of 2 hB gwM_into rfl rfl rfl (hB _ wd_3) (hB _ wd_418) ydM_into ⟨Nat.le_of_ble_eq_true rfl, Nat.le_of_ble_eq_true rfl⟩, hB _ wd_420, hB _ ws_17⟩ (rd_V hC hP hK (va_recv hK hP (ci := 2) (q0 := 0) rfl rfl)) rfl rfl hl.1 rfl (lv_room (Nat.le_of_ble_eq_true rfl)) dM_soft_101 ⟨Nat.zero_le _, Nat.zero_le _⟩) ?_
  refine W.eq (g2 := F0 m 104 ls [.int (mm_into (nI (2 ^ e9)) w9 (v2 + ((1 : Int32).toInt64)))]) rfl ?_
  refine W.eq (g2 := F0 m 104 ls [.int (nI y1)]) (by rw [ev2, hy1]) ?_
  refine lv_istore (lv' := [(20, .int (nI y1)), (19, .int (nI x1)), (18, .int 3), (16, .long (((0 + ((((mm_part (f6 (y0 * 2 ^ e9 + x0)) 2).toInt64) * (256 - v3)) * (256 - v4))) + ((((mm_part (f6 (y0 * 2 ^ e9 + x1)) 2).toInt64) * v3) * (256 - v4))) + ((((mm_part (f6 (y1 * 2 ^ e9 + x0)) 2).toInt64) * (256 - v3)) * v4))), (15, .int 2), (14, .int (((0 + ((((((0 + ((((mm_part (f6 (y0 * 2 ^ e9 + x0)) 0).toInt64) * (256 - v3)) * (256 - v4))) + ((((mm_part (f6 (y0 * 2 ^ e9 + x1)) 0).toInt64) * v3) * (256 - v4))) + ((((mm_part (f6 (y1 * 2 ^ e9 + x0)) 0).toInt64) * (256 - v3)) * v4)) + ((((mm_part (f6 (y1 * 2 ^ e9 + x1)) 0).toInt64) * v3) * v4)) / 65536).toInt32)) * 256) + ((((((0 + ((((mm_part (f6 (y0 * 2 ^ e9 + x0)) 1).toInt64) * (256 - v3)) * (256 - v4))) + ((((mm_part (f6 (y0 * 2 ^ e9 + x1)) 1).toInt64) * v3) * (256 - v4))) + ((((mm_part (f6 (y1 * 2 ^ e9 + x0)) 1).toInt64) * (256 - v3)) * v4)) + ((((mm_part (f6 (y1 * 2 ^ e9 + x1)) 1).toInt64) * v3) * v4)) / 65536).toInt32))), (12, .long v4), (10, .long v3), (8, .long v2), (6, .long v1), (0, .ref m0), (1, .int w9), (2, .long a), (4, .long b)]) hx hb dM_soft_104 hl (by decide) rfl (fun ls hl => ?_)
  refine lv_lload hx hb dM_soft_106 (lv_at hl 3 rfl) ?_
  refine lv_aload_n hx hb dM_soft_108 rfl (lv_at hl 10 rfl) ?_
  refine va_get (D := D) (ci := 2) (v := .ref a6) (C := RM) (T := FM) (N := 10) hx hb hB inM hown hK hP 0 rfl rfl 8 (by decide) (hB _ wd_330) (fun _ h9 => h9) rfl dM_soft_109 ?_
  refine lv_iload hx hb dM_soft_112 (lv_at hl 0 rfl) ?_
  refine lv_aload_n hx hb dM_soft_114 rfl (lv_at hl 10 rfl) ?_
  refine va_get (D := D) (ci := 2) (v := .int (nI (2 ^ e9))) (C := RM) (T := FM) (N := 10) hx hb hB inM hown hK hP 0 rfl rfl 9 (by decide) (hB _ wd_331) (fun _ h9 => h9) rfl dM_soft_115 ?_
  refine lv_imul hx hb dM_soft_118 ?_
  refine lv_iload hx hb dM_soft_119 (lv_at hl 1 rfl) ?_
  refine lv_iadd hx hb dM_soft_121 ?_
  refine W.eq (g2 := F0 m 122 ls [.int (nI (y1 * 2 ^ e9 + x1)), .ref a6, .long (((0 + ((((mm_part (f6 (y0 * 2 ^ e9 + x0)) 2).toInt64) * (256 - v3)) * (256 - v4))) + ((((mm_part (f6 (y0 * 2 ^ e9 + x1)) 2).toInt64) * v3) * (256 - v4))) + ((((mm_part (f6 (y1 * 2 ^ e9 + x0)) 2).toInt64) * (256 - v3)) * v4))]) (by rw [pk_mul, nI_add]) ?_
  refine va_iald hx hb hK hP 6 0 (f := f6) rfl rfl (i := nI (y1 * 2 ^ e9 + x1)) (vp_in_nI (mm_nl5 he9 lx1 ly1) (by omega)) dM_soft_122 ?_
  refine W.eq (g2 := F0 m 123 ls [.int (f6 (y1 * 2 ^ e9 + x1)), .long (((0 + ((((mm_part (f6 (y0 * 2 ^ e9 + x0)) 2).toInt64) * (256 - v3)) * (256 - v4))) + ((((mm_part (f6 (y0 * 2 ^ e9 + x1)) 2).toInt64) * v3) * (256 - v4))) + ((((mm_part (f6 (y1 * 2 ^ e9 + x0)) 2).toInt64) * (256 - v3)) * v4))]) (by rw [nI_clamp (by have := (mm_nl5 he9 lx1 ly1 : y1 * 2 ^ e9 + x1 < 1024); omega)]) ?_
  refine lv_iload hx hb dM_soft_123 (lv_at hl 4 rfl) ?_
  refine W.callV (W.runS (As := [.int (f6 (y1 * 2 ^ e9 + x1)), .int 2]) (rest := [.long (((0 + ((((mm_part (f6 (y0 * 2 ^ e9 + x0)) 2).toInt64) * (256 - v3)) * (256 - v4))) + ((((mm_part (f6 (y0 * 2 ^ e9 + x1)) 2).toInt64) * v3) * (256 - v4))) + ((((mm_part (f6 (y1 * 2 ^ e9 + x0)) 2).toInt64) * (256 - v3)) * v4))]) ⟨hx, hb, hml, hown, hB⟩ (kM_part l (f6 (y1 * 2 ^ e9 + x1)) 2) ⟨callB_of 2 hB gwM_part rfl rfl rfl (hB _ wd_3) (hB _ wd_405) ydM_part ⟨Nat.le_of_ble_eq_true rfl, Nat.le_of_ble_eq_true rfl⟩, hB _ wd_406⟩ (preEq) rfl rfl hl.1 rfl (lv_room (Nat.le_of_ble_eq_true rfl)) dM_soft_125 ⟨Nat.zero_le _, Nat.zero_le _⟩) ?_
  refine W.eq (g2 := F0 m 128 ls [.int (mm_part (f6 (y1 * 2 ^ e9 + x1)) 2), .long (((0 + ((((mm_part (f6 (y0 * 2 ^ e9 + x0)) 2).toInt64) * (256 - v3)) * (256 - v4))) + ((((mm_part (f6 (y0 * 2 ^ e9 + x1)) 2).toInt64) * v3) * (256 - v4))) + ((((mm_part (f6 (y1 * 2 ^ e9 + x0)) 2).toInt64) * (256 - v3)) * v4))]) rfl ?_
  refine lv_i2l hx hb dM_soft_128 rfl ?_
  refine lv_iload hx hb dM_soft_129 (lv_at hl 2 rfl) ?_
  refine lv_iconst (v := 2) hx hb dM_soft_131 (by decide) ?_
  refine lv_irem hx hb dM_soft_132 (by decide) ?_
  refine W.eq (g2 := F0 m 133 ls [.int 1, .long ((mm_part (f6 (y1 * 2 ^ e9 + x1)) 2).toInt64), .long (((0 + ((((mm_part (f6 (y0 * 2 ^ e9 + x0)) 2).toInt64) * (256 - v3)) * (256 - v4))) + ((((mm_part (f6 (y0 * 2 ^ e9 + x1)) 2).toInt64) * v3) * (256 - v4))) + ((((mm_part (f6 (y1 * 2 ^ e9 + x0)) 2).toInt64) * (256 - v3)) * v4))]) rfl ?_
  refine lv_if_ne (tgt := 145) hx hb dM_soft_133 (by decide) (fun c_40 => ?_) (fun c_40 => absurd c_40 (by decide))
  refine lv_lload hx hb dM_soft_145 (lv_at hl 7 rfl) ?_
  refine lv_lmul hx hb dM_soft_147 ?_
  refine lv_iload hx hb dM_soft_148 (lv_at hl 2 rfl) ?_
  refine lv_iconst (v := 2) hx hb dM_soft_150 (by decide) ?_
  refine lv_idiv hx hb dM_soft_151 (by decide) ?_
  refine W.eq (g2 := F0 m 152 ls [.int 1, .long (((mm_part (f6 (y1 * 2 ^ e9 + x1)) 2).toInt64) * v3), .long (((0 + ((((mm_part (f6 (y0 * 2 ^ e9 + x0)) 2).toInt64) * (256 - v3)) * (256 - v4))) + ((((mm_part (f6 (y0 * 2 ^ e9 + x1)) 2).toInt64) * v3) * (256 - v4))) + ((((mm_part (f6 (y1 * 2 ^ e9 + x0)) 2).toInt64) * (256 - v3)) * v4))]) rfl ?_
  refine lv_if_ne (tgt := 164) hx hb dM_soft_152 (by decide) (fun c_41 => ?_) (fun c_41 => absurd c_41 (by decide))
  refine lv_lload hx hb dM_soft_164 (lv_at hl 6 rfl) ?_
  refine lv_lmul hx hb dM_soft_166 ?_
  refine lv_ladd hx hb dM_soft_167 ?_
  refine lv_lstore (lv' := [(16, .long ((((0 + ((((mm_part (f6 (y0 * 2 ^ e9 + x0)) 2).toInt64) * (256 - v3)) * (256 - v4))) + ((((mm_part (f6 (y0 * 2 ^ e9 + x1)) 2).toInt64) * v3) * (256 - v4))) + ((((mm_part (f6 (y1 * 2 ^ e9 + x0)) 2).toInt64) * (256 - v3)) * v4)) + ((((mm_part (f6 (y1 * 2 ^ e9 + x1)) 2).toInt64) * v3) * v4))), (20, .int (nI y1)), (19, .int (nI x1)), (18, .int 3), (15, .int 2), (14, .int (((0 + ((((((0 + ((((mm_part (f6 (y0 * 2 ^ e9 + x0)) 0).toInt64) * (256 - v3)) * (256 - v4))) + ((((mm_part (f6 (y0 * 2 ^ e9 + x1)) 0).toInt64) * v3) * (256 - v4))) + ((((mm_part (f6 (y1 * 2 ^ e9 + x0)) 0).toInt64) * (256 - v3)) * v4)) + ((((mm_part (f6 (y1 * 2 ^ e9 + x1)) 0).toInt64) * v3) * v4)) / 65536).toInt32)) * 256) + ((((((0 + ((((mm_part (f6 (y0 * 2 ^ e9 + x0)) 1).toInt64) * (256 - v3)) * (256 - v4))) + ((((mm_part (f6 (y0 * 2 ^ e9 + x1)) 1).toInt64) * v3) * (256 - v4))) + ((((mm_part (f6 (y1 * 2 ^ e9 + x0)) 1).toInt64) * (256 - v3)) * v4)) + ((((mm_part (f6 (y1 * 2 ^ e9 + x1)) 1).toInt64) * v3) * v4)) / 65536).toInt32))), (12, .long v4), (10, .long v3), (8, .long v2), (6, .long v1), (0, .ref m0), (1, .int w9), (2, .long a), (4, .long b)]) hx hb dM_soft_168 hl (by decide) rfl (fun ls hl => ?_)
  refine lv_iinc (v := 4) (lv' := [(18, .int 4), (16, .long ((((0 + ((((mm_part (f6 (y0 * 2 ^ e9 + x0)) 2).toInt64) * (256 - v3)) * (256 - v4))) + ((((mm_part (f6 (y0 * 2 ^ e9 + x1)) 2).toInt64) * v3) * (256 - v4))) + ((((mm_part (f6 (y1 * 2 ^ e9 + x0)) 2).toInt64) * (256 - v3)) * v4)) + ((((mm_part (f6 (y1 * 2 ^ e9 + x1)) 2).toInt64) * v3) * v4))), (20, .int (nI y1)), (19, .int (nI x1)), (15, .int 2), (14, .int (((0 + ((((((0 + ((((mm_part (f6 (y0 * 2 ^ e9 + x0)) 0).toInt64) * (256 - v3)) * (256 - v4))) + ((((mm_part (f6 (y0 * 2 ^ e9 + x1)) 0).toInt64) * v3) * (256 - v4))) + ((((mm_part (f6 (y1 * 2 ^ e9 + x0)) 0).toInt64) * (256 - v3)) * v4)) + ((((mm_part (f6 (y1 * 2 ^ e9 + x1)) 0).toInt64) * v3) * v4)) / 65536).toInt32)) * 256) + ((((((0 + ((((mm_part (f6 (y0 * 2 ^ e9 + x0)) 1).toInt64) * (256 - v3)) * (256 - v4))) + ((((mm_part (f6 (y0 * 2 ^ e9 + x1)) 1).toInt64) * v3) * (256 - v4))) + ((((mm_part (f6 (y1 * 2 ^ e9 + x0)) 1).toInt64) * (256 - v3)) * v4)) + ((((mm_part (f6 (y1 * 2 ^ e9 + x1)) 1).toInt64) * v3) * v4)) / 65536).toInt32))), (12, .long v4), (10, .long v3), (8, .long v2), (6, .long v1), (0, .ref m0), (1, .int w9), (2, .long a), (4, .long b)]) hx hb dM_soft_170 hl (k := 3) rfl (by decide) (by decide) rfl (fun ls hl => ?_)
  refine lv_goto (tgt := 70) hx hb dM_soft_173 (by decide) ?_
  refine lv_iload hx hb dM_soft_70 (lv_at hl 0 rfl) ?_
  refine lv_iconst (v := 4) hx hb dM_soft_72 (by decide) ?_
  refine lv_icmp_ge (tgt := 176) hx hb dM_soft_73 (by decide) (fun c_42 => ?_) (fun c_42 => absurd c_42 (by decide))
  refine lv_iload hx hb dM_soft_176 (lv_at hl 5 rfl) ?_
  refine lv_sipush (v := 256) hx hb dM_soft_178 (by decide) ?_
  refine lv_imul hx hb dM_soft_181 ?_
  refine lv_lload hx hb dM_soft_182 (lv_at hl 1 rfl) ?_
  refine lv_ldc2 (v := 65536) hx hb hown (hB _ wd_413) dM_soft_184 ?_
  refine lv_ldiv hx hb dM_soft_187 (by decide) ?_
  refine lv_l2i hx hb dM_soft_188 rfl ?_
  refine lv_iadd hx hb dM_soft_189 ?_
  refine lv_istore (lv' := [(14, .int (((((0 + ((((((0 + ((((mm_part (f6 (y0 * 2 ^ e9 + x0)) 0).toInt64) * (256 - v3)) * (256 - v4))) + ((((mm_part (f6 (y0 * 2 ^ e9 + x1)) 0).toInt64) * v3) * (256 - v4))) + ((((mm_part (f6 (y1 * 2 ^ e9 + x0)) 0).toInt64) * (256 - v3)) * v4)) + ((((mm_part (f6 (y1 * 2 ^ e9 + x1)) 0).toInt64) * v3) * v4)) / 65536).toInt32)) * 256) + ((((((0 + ((((mm_part (f6 (y0 * 2 ^ e9 + x0)) 1).toInt64) * (256 - v3)) * (256 - v4))) + ((((mm_part (f6 (y0 * 2 ^ e9 + x1)) 1).toInt64) * v3) * (256 - v4))) + ((((mm_part (f6 (y1 * 2 ^ e9 + x0)) 1).toInt64) * (256 - v3)) * v4)) + ((((mm_part (f6 (y1 * 2 ^ e9 + x1)) 1).toInt64) * v3) * v4)) / 65536).toInt32)) * 256) + ((((((0 + ((((mm_part (f6 (y0 * 2 ^ e9 + x0)) 2).toInt64) * (256 - v3)) * (256 - v4))) + ((((mm_part (f6 (y0 * 2 ^ e9 + x1)) 2).toInt64) * v3) * (256 - v4))) + ((((mm_part (f6 (y1 * 2 ^ e9 + x0)) 2).toInt64) * (256 - v3)) * v4)) + ((((mm_part (f6 (y1 * 2 ^ e9 + x1)) 2).toInt64) * v3) * v4)) / 65536).toInt32))), (18, .int 4), (16, .long ((((0 + ((((mm_part (f6 (y0 * 2 ^ e9 + x0)) 2).toInt64) * (256 - v3)) * (256 - v4))) + ((((mm_part (f6 (y0 * 2 ^ e9 + x1)) 2).toInt64) * v3) * (256 - v4))) + ((((mm_part (f6 (y1 * 2 ^ e9 + x0)) 2).toInt64) * (256 - v3)) * v4)) + ((((mm_part (f6 (y1 * 2 ^ e9 + x1)) 2).toInt64) * v3) * v4))), (20, .int (nI y1)), (19, .int (nI x1)), (15, .int 2), (12, .long v4), (10, .long v3), (8, .long v2), (6, .long v1), (0, .ref m0), (1, .int w9), (2, .long a), (4, .long b)]) hx hb dM_soft_190 hl (by decide) rfl (fun ls hl => ?_)
  refine lv_iinc (v := 3) (lv' := [(15, .int 3), (14, .int (((((0 + ((((((0 + ((((mm_part (f6 (y0 * 2 ^ e9 + x0)) 0).toInt64) * (256 - v3)) * (256 - v4))) + ((((mm_part (f6 (y0 * 2 ^ e9 + x1)) 0).toInt64) * v3) * (256 - v4))) + ((((mm_part (f6 (y1 * 2 ^ e9 + x0)) 0).toInt64) * (256 - v3)) * v4)) + ((((mm_part (f6 (y1 * 2 ^ e9 + x1)) 0).toInt64) * v3) * v4)) / 65536).toInt32)) * 256) + ((((((0 + ((((mm_part (f6 (y0 * 2 ^ e9 + x0)) 1).toInt64) * (256 - v3)) * (256 - v4))) + ((((mm_part (f6 (y0 * 2 ^ e9 + x1)) 1).toInt64) * v3) * (256 - v4))) + ((((mm_part (f6 (y1 * 2 ^ e9 + x0)) 1).toInt64) * (256 - v3)) * v4)) + ((((mm_part (f6 (y1 * 2 ^ e9 + x1)) 1).toInt64) * v3) * v4)) / 65536).toInt32)) * 256) + ((((((0 + ((((mm_part (f6 (y0 * 2 ^ e9 + x0)) 2).toInt64) * (256 - v3)) * (256 - v4))) + ((((mm_part (f6 (y0 * 2 ^ e9 + x1)) 2).toInt64) * v3) * (256 - v4))) + ((((mm_part (f6 (y1 * 2 ^ e9 + x0)) 2).toInt64) * (256 - v3)) * v4)) + ((((mm_part (f6 (y1 * 2 ^ e9 + x1)) 2).toInt64) * v3) * v4)) / 65536).toInt32))), (18, .int 4), (16, .long ((((0 + ((((mm_part (f6 (y0 * 2 ^ e9 + x0)) 2).toInt64) * (256 - v3)) * (256 - v4))) + ((((mm_part (f6 (y0 * 2 ^ e9 + x1)) 2).toInt64) * v3) * (256 - v4))) + ((((mm_part (f6 (y1 * 2 ^ e9 + x0)) 2).toInt64) * (256 - v3)) * v4)) + ((((mm_part (f6 (y1 * 2 ^ e9 + x1)) 2).toInt64) * v3) * v4))), (20, .int (nI y1)), (19, .int (nI x1)), (12, .long v4), (10, .long v3), (8, .long v2), (6, .long v1), (0, .ref m0), (1, .int w9), (2, .long a), (4, .long b)]) hx hb dM_soft_192 hl (k := 5) rfl (by decide) (by decide) rfl (fun ls hl => ?_)
  refine lv_goto (tgt := 58) hx hb dM_soft_195 (by decide) ?_
  refine lv_iload hx hb dM_soft_58 (lv_at hl 0 rfl) ?_
  refine lv_iconst (v := 3) hx hb dM_soft_60 (by decide) ?_
  refine lv_icmp_ge (tgt := 198) hx hb dM_soft_61 (by decide) (fun c_43 => ?_) (fun c_43 => absurd c_43 (by decide))
  refine lv_iload hx hb dM_soft_198 (lv_at hl 1 rfl) ?_
  exact W.iret hx hb hr (fun t ht _ => ⟨tbI (by subst ev4; subst ev3; subst ev2; subst ev1; rfl), ht⟩) (fun q hq => nomatch hq) dM_soft_200
