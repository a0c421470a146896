theorem lc_put {N : Nat} (hN : N ≤ 1024) {a b c : Int32} (h : tt_isNum a = 0 ∨ tt_isNum b = 0 ∨ tt_isNum c = 0 ∨ 1024 ≤ nI N) : mm_isNum a = 0 ∨ mm_isNum b = 0 ∨ mm_isNum c = 0 ∨ nI N = 1024 := by
  rcases h with h | h | h | h
  · exact Or.inl (cn_num.mp h)
  · exact Or.inr (Or.inl (cn_num.mp h))
  · exact Or.inr (Or.inr (Or.inl (cn_num.mp h)))
  · have : N = 1024 := by
      rcases Nat.lt_or_ge N 1024 with q | q
      · exact absurd h (show ¬ (1024 : Int32) ≤ nI N from nI_ge (b := 1024) q (by decide))
      · omega
    subst this
    exact Or.inr (Or.inr (Or.inr rfl))
theorem lc_put2 {N : Nat} {a b c : Int32} (hN : N ≤ 1024) (h : ¬ (tt_isNum a = 0 ∨ tt_isNum b = 0 ∨ tt_isNum c = 0 ∨ 1024 ≤ nI N)) : ¬ tt_isNum a = 0 ∧ ¬ tt_isNum b = 0 ∧ ¬ tt_isNum c = 0 ∧ N < 1024 := by
  refine ⟨fun q => h (Or.inl q), fun q => h (Or.inr (Or.inl q)), fun q => h (Or.inr (Or.inr (Or.inl q))), ?_⟩
  rcases Nat.lt_or_ge N 1024 with q | q
  · exact q
  · exact absurd (Or.inr (Or.inr (Or.inr (show (1024 : Int32) ≤ nI N from nI_le (a := 1024) q (by omega))))) h
theorem lc_putR {N C : Nat} {f : Nat → Int32} {S Wr O Lv : Nat → Int32} {G : Nat → Nat → Int32} {f1 f2 f3 f4 f5 : Nat → Int32} (h : lwR N C f S Wr O Lv G f1 f2 f3 f4 f5) (hN : N < 1024) {a b c : Int32} (ha : ¬ tt_isNum a = 0) (hb : ¬ tt_isNum b = 0) (hc : ¬ tt_isNum c = 0) : lwR (N + 1) C (upd f N (tt_col a b c)) S Wr O Lv G f1 f2 f3 f4 (upd f5 N (a * 65536 + b * 256 + c)) := by
  obtain ⟨h1, h2, h3, h4⟩ := h
  obtain ⟨e1, e2⟩ := cn_col ha hb hc
  refine ⟨by omega, h2, ?_, h4⟩
  intro i hi
  unfold upd
  by_cases hiN : i = N
  · rw [if_pos hiN, if_pos hiN]
    exact ⟨e1, e2⟩
  · rw [if_neg hiN, if_neg hiN]
    exact h3 i (by omega)
theorem lc_add {C N : Nat} (hC : C ≤ 8) {s w f9 : Int32} (h : ¬ (C < 8 ∧ mm_is s ∧ (w = 0 ∨ w = 1 ∨ w = 2) ∧ (f9 = 0 ∨ f9 = 1) ∧ nI N = s * s)) : (8 ≤ nI C ∨ tt_isSide s = 0 ∨ tt_isWrap w = 0 ∨ tt_isSoft f9 = 0 ∨ ¬ nI N = s * s) ∧ (¬ mm_is s ∨ (mm_is s ∧ (nI C = 8 ∨ w < 0 ∨ 2 < w ∨ f9 < 0 ∨ 1 < f9 ∨ ¬ nI N = s * s))) := by
  by_cases c1 : C < 8
  · by_cases c2 : mm_is s
    · by_cases c3 : w = 0 ∨ w = 1 ∨ w = 2
      · by_cases c4 : f9 = 0 ∨ f9 = 1
        · by_cases c5 : nI N = s * s
          · exact absurd ⟨c1, c2, c3, c4, c5⟩ h
          · exact ⟨Or.inr (Or.inr (Or.inr (Or.inr c5))), Or.inr ⟨c2, Or.inr (Or.inr (Or.inr (Or.inr (Or.inr c5))))⟩⟩
        · refine ⟨Or.inr (Or.inr (Or.inr (Or.inl (Classical.byContradiction fun q => c4 (cn_soft.mp q))))), Or.inr ⟨c2, ?_⟩⟩
          by_cases d1 : f9 < 0
          · exact Or.inr (Or.inr (Or.inr (Or.inl d1)))
          · by_cases d2 : 1 < f9
            · exact Or.inr (Or.inr (Or.inr (Or.inr (Or.inl d2))))
            · exact absurd (cn_soft2 d1 d2) c4
      · refine ⟨Or.inr (Or.inr (Or.inl (Classical.byContradiction fun q => c3 (cn_wrap.mp q)))), Or.inr ⟨c2, ?_⟩⟩
        by_cases d1 : w < 0
        · exact Or.inr (Or.inl d1)
        · by_cases d2 : 2 < w
          · exact Or.inr (Or.inr (Or.inl d2))
          · exact absurd (cn_wrap2 d1 d2) c3
    · exact ⟨Or.inr (Or.inl (Classical.byContradiction fun q => c2 (cn_side.mp q))), Or.inl c2⟩
  · have : C = 8 := by omega
    subst this
    refine ⟨Or.inl (by decide), ?_⟩
    by_cases c2 : mm_is s
    · exact Or.inr ⟨c2, Or.inl rfl⟩
    · exact Or.inl c2
theorem lc_w {w : Int32} (h : w = 0 ∨ w = 1 ∨ w = 2) : ¬ w < 0 ∧ ¬ 2 < w := by
  rcases h with rfl | rfl | rfl <;> decide
theorem lc_f {w : Int32} (h : w = 0 ∨ w = 1) : ¬ w < 0 ∧ ¬ 1 < w := by
  rcases h with rfl | rfl <;> decide
theorem lc_sq {N k : Nat} (hN : N ≤ 1024) (hk : k ≤ 5) (h : nI N = nI (2 ^ k) * nI (2 ^ k)) : N = 2 ^ k * 2 ^ k := by
  obtain ⟨p1, p2, -, -, -⟩ := tt_pw k hk
  have : 2 ^ k * 2 ^ k ≤ 32 * 32 := Nat.mul_le_mul p1 p1
  rw [pk_mul] at h
  exact (nI_eq (by omega) (by omega)).mp h
theorem lc_addR {N C : Nat} {f : Nat → Int32} {S Wr O Lv : Nat → Int32} {G : Nat → Nat → Int32} {f1 f2 f3 f4 f5 : Nat → Int32} (h : lwR N C f S Wr O Lv G f1 f2 f3 f4 f5) (hC : C < 8) {k : Nat} (hk : k ≤ 5) (hN : N = 2 ^ k * 2 ^ k) {w f9 : Int32} (hw : w = 0 ∨ w = 1 ∨ w = 2) (hf : f9 = 0 ∨ f9 = 1) : lwR 0 (C + 1) f (va_up S C (nI (2 ^ k))) (va_up Wr C w) (va_up O C f9) (va_up Lv C (nI (k + 1))) (va_up G C (tt_fl (va_cpy f (G C) 0 (st4 k) (4 ^ k)) k)) (upd f1 C (nI (2 ^ k))) (upd f2 C w) (upd f3 C f9) (va_cpy f5 f4 0 (1024 * C) (4 ^ k)) f5 := by
  obtain ⟨h1, h2, h3, h4⟩ := h
  obtain ⟨p1, p2, p3, p4, p5⟩ := tt_pw k hk
  have p6 : 4 ^ k ≤ 1024 := by rw [← p4]; exact Nat.mul_le_mul p1 p1
  refine ⟨by omega, by omega, fun i hi => absurd hi (by omega), ?_⟩
  intro j hj
  unfold upd va_up
  by_cases hjC : j = C
  · subst hjC
    refine ⟨k, hk, by rw [if_pos rfl], by rw [if_pos rfl], by rw [if_pos rfl, if_pos rfl], by rw [if_pos rfl]; exact hw, by rw [if_pos rfl, if_pos rfl], by rw [if_pos rfl]; exact hf, by rw [if_pos rfl], va_cpy f (G j) 0 (st4 k) (4 ^ k), by rw [if_pos rfl], ?_⟩
    intro n hn
    have q := h3 n (by omega)
    rw [pk_cpy_in (by omega) (by omega), pk_cpy_in (by omega) (by omega), Nat.add_sub_cancel_left, Nat.add_sub_cancel_left, Nat.zero_add]
    exact q
  · obtain ⟨k', a1, a2, a3, a4, a5, a6, a7, a8, hh, a9, a10⟩ := h4 j (by omega)
    refine ⟨k', a1, by rw [if_neg hjC]; exact a2, by rw [if_neg hjC]; exact a3, by rw [if_neg hjC, if_neg hjC]; exact a4, by rw [if_neg hjC]; exact a5, by rw [if_neg hjC, if_neg hjC]; exact a6, by rw [if_neg hjC]; exact a7, by rw [if_neg hjC]; exact a8, hh, by rw [if_neg hjC]; exact a9, ?_⟩
    intro n hn
    have p7 : 4 ^ k' ≤ 1024 := by
      obtain ⟨r1, -, -, r4, -⟩ := tt_pw k' a1
      rw [← r4]
      exact Nat.mul_le_mul r1 r1
    rw [pk_cpy_out (by omega)]
    exact a10 n hn
theorem lc_clrR {N C : Nat} {f : Nat → Int32} {S Wr O Lv : Nat → Int32} {G : Nat → Nat → Int32} {f1 f2 f3 f4 f5 : Nat → Int32} (h : lwR N C f S Wr O Lv G f1 f2 f3 f4 f5) : lwR N 0 f S Wr O Lv G f1 f2 f3 f4 f5 := ⟨h.1, by omega, h.2.2.1, fun j hj => absurd hj (by omega)⟩
theorem lc_noR {N C : Nat} {f : Nat → Int32} {S Wr O Lv : Nat → Int32} {G : Nat → Nat → Int32} {f1 f2 f3 f4 f5 : Nat → Int32} (h : lwR N C f S Wr O Lv G f1 f2 f3 f4 f5) : lwR 0 C f S Wr O Lv G f1 f2 f3 f4 f5 := ⟨by omega, h.2.1, fun i hi => absurd hi (by omega), h.2.2.2⟩
theorem lc_end {i L : Nat} (hL : L ≤ 2560) (hi : i ≤ 2560) (h : ¬ nI L - 5 < nI i) : i + 5 ≤ L := by
  rw [Int32.lt_iff_toInt_lt, show (5 : Int32) = nI 5 from rfl, pk_sub_toInt (by omega) (by decide), nI_toInt (by omega)] at h
  omega
theorem tt_sw8 {x : Int32} (h0 : ¬ x = 0) (h1 : ¬ x = 1) (h2 : ¬ x = 2) (h3 : ¬ x = 3) (h4 : ¬ x = 4) (h5 : ¬ x = 5) (h6 : ¬ x = 6) (h7 : ¬ x = 7) (h8 : ¬ x = 8) : x.toInt < 0 ∨ 8 < x.toInt := by
  have a0 := lv_neT (k := 0) (a := 0) h0 rfl
  have a1 := lv_neT (k := 1) (a := 1) h1 rfl
  have a2 := lv_neT (k := 2) (a := 2) h2 rfl
  have a3 := lv_neT (k := 3) (a := 3) h3 rfl
  have a4 := lv_neT (k := 4) (a := 4) h4 rfl
  have a5 := lv_neT (k := 5) (a := 5) h5 rfl
  have a6 := lv_neT (k := 6) (a := 6) h6 rfl
  have a7 := lv_neT (k := 7) (a := 7) h7 rfl
  have a8 := lv_neT (k := 8) (a := 8) h8 rfl
  omega
/-- what a look-up answers, not softly -/
theorem lc_hard {h f4 f6 : Nat → Int32} {j k L : Nat} (hk : k ≤ 5) (hL : L ≤ k) (h0 : ∀ n, n < 4 ^ k → h (st4 k + n) = f4 (1024 * j + n) ∧ cq (f4 (1024 * j + n))) {w sf u v : Int32} (hw : w = 0 ∨ w = 1 ∨ w = 2) (hsf : ¬ sf = 1) (hu : ¬ tt_isPlace u = 0) (hv : ¬ tt_isPlace v = 0) :
    ∃ x0 y0 : Nat, x0 < 2 ^ (k - L) ∧ y0 < 2 ^ (k - L) ∧ mm_into (nI (2 ^ (k - L))) w (mm_div (u.toInt64 * (nI (2 ^ (k - L))).toInt64) 65536) = nI x0 ∧ mm_into (nI (2 ^ (k - L))) w (mm_div (v.toInt64 * (nI (2 ^ (k - L))).toInt64) 65536) = nI y0 ∧ tt_cat w sf (tt_fl h k) (nI (2 ^ k) >>> (nI L &&& 31)) u.toInt64 v.toInt64 = mm_hs (va_cpy f4 f6 (1024 * j) 0 (4 ^ k)) k L (y0 * 2 ^ (k - L) + x0) := by
  obtain ⟨a1, a2⟩ := nq_a hu (e := k - L) (by omega)
  obtain ⟨b1, b2⟩ := nq_a hv (e := k - L) (by omega)
  obtain ⟨c1, c2, c3⟩ := nq_d16 (a := u.toInt64 * (nI (2 ^ (k - L))).toInt64) (by omega) (by omega)
  obtain ⟨d1, d2, d3⟩ := nq_d16 (a := v.toInt64 * (nI (2 ^ (k - L))).toInt64) (by omega) (by omega)
  obtain ⟨x0, hx0, ex, mx⟩ := nq_wrap hw (e := k - L) (by omega) (fd_l (u.toInt64 * (nI (2 ^ (k - L))).toInt64) 65536) (by omega) (by omega)
  obtain ⟨y0, hy0, ey, my⟩ := nq_wrap hw (e := k - L) (by omega) (fd_l (v.toInt64 * (nI (2 ^ (k - L))).toInt64) 65536) (by omega) (by omega)
  refine ⟨x0, y0, hx0, hy0, by rw [c1]; exact mx, by rw [d1]; exact my, ?_⟩
  unfold tt_cat
  rw [if_neg hsf, tq_shr hk hL, ex, ey]
  exact (tq_lev hk (m := va_cpy f4 f6 (1024 * j) 0 (4 ^ k)) (fun n hn => by rw [pk_cpy_in (by omega) (by omega), Nat.sub_zero]; exact h0 n hn) hL hy0 hx0).1
/-- .. and softly -/
theorem lc_soft {h f4 f6 : Nat → Int32} {j k L : Nat} (hk : k ≤ 5) (hL : L ≤ k) (h0 : ∀ n, n < 4 ^ k → h (st4 k + n) = f4 (1024 * j + n) ∧ cq (f4 (1024 * j + n))) {w sf u v : Int32} (hw : w = 0 ∨ w = 1 ∨ w = 2) (hsf : sf = 1) (hu : ¬ tt_isPlace u = 0) (hv : ¬ tt_isPlace v = 0) :
    ∃ x0 x1 y0 y1 : Nat, x0 < 2 ^ (k - L) ∧ x1 < 2 ^ (k - L) ∧ y0 < 2 ^ (k - L) ∧ y1 < 2 ^ (k - L) ∧ mm_into (nI (2 ^ (k - L))) w (mm_div (u.toInt64 * (nI (2 ^ (k - L))).toInt64 - 32768) 65536 + (0 : Int32).toInt64) = nI x0 ∧ mm_into (nI (2 ^ (k - L))) w (mm_div (u.toInt64 * (nI (2 ^ (k - L))).toInt64 - 32768) 65536 + (1 : Int32).toInt64) = nI x1 ∧ mm_into (nI (2 ^ (k - L))) w (mm_div (v.toInt64 * (nI (2 ^ (k - L))).toInt64 - 32768) 65536 + (0 : Int32).toInt64) = nI y0 ∧ mm_into (nI (2 ^ (k - L))) w (mm_div (v.toInt64 * (nI (2 ^ (k - L))).toInt64 - 32768) 65536 + (1 : Int32).toInt64) = nI y1 ∧
      tt_cat w sf (tt_fl h k) (nI (2 ^ k) >>> (nI L &&& 31)) u.toInt64 v.toInt64 = mm_soft2 (mm_hs (va_cpy f4 f6 (1024 * j) 0 (4 ^ k)) k L (y0 * 2 ^ (k - L) + x0)) (mm_hs (va_cpy f4 f6 (1024 * j) 0 (4 ^ k)) k L (y0 * 2 ^ (k - L) + x1)) (mm_hs (va_cpy f4 f6 (1024 * j) 0 (4 ^ k)) k L (y1 * 2 ^ (k - L) + x0)) (mm_hs (va_cpy f4 f6 (1024 * j) 0 (4 ^ k)) k L (y1 * 2 ^ (k - L) + x1)) (mm_div (u.toInt64 * (nI (2 ^ (k - L))).toInt64 - 32768 - 65536 * mm_div (u.toInt64 * (nI (2 ^ (k - L))).toInt64 - 32768) 65536) 256) (mm_div (v.toInt64 * (nI (2 ^ (k - L))).toInt64 - 32768 - 65536 * mm_div (v.toInt64 * (nI (2 ^ (k - L))).toInt64 - 32768) 65536) 256) := by
  obtain ⟨a1, a2⟩ := nq_a hu (e := k - L) (by omega)
  obtain ⟨b1, b2⟩ := nq_a hv (e := k - L) (by omega)
  have h3 : (32768 : Int64).toInt = 32768 := by decide
  obtain ⟨a, ha⟩ : ∃ a : Int64, a = u.toInt64 * (nI (2 ^ (k - L))).toInt64 - 32768 := ⟨_, rfl⟩
  obtain ⟨b, hb⟩ : ∃ b : Int64, b = v.toInt64 * (nI (2 ^ (k - L))).toInt64 - 32768 := ⟨_, rfl⟩
  have ia : -1073741824 ≤ a.toInt ∧ a.toInt ≤ 1073741824 := by
    rw [ha, Int64.toInt_sub, h3, Int.bmod_eq_of_le (by omega) (by omega)]
    omega
  have ib : -1073741824 ≤ b.toInt ∧ b.toInt ≤ 1073741824 := by
    rw [hb, Int64.toInt_sub, h3, Int.bmod_eq_of_le (by omega) (by omega)]
    omega
  obtain ⟨c1, c2, c3⟩ := nq_d16 ia.1 ia.2
  obtain ⟨d1, d2, d3⟩ := nq_d16 ib.1 ib.2
  obtain ⟨ga, hga, ga1, ga2⟩ := nq_g ia.1 ia.2
  obtain ⟨gb, hgb, gb1, gb2⟩ := nq_g ib.1 ib.2
  have one : (1 : Int64).toInt = 1 := rfl
  have sa : (fd_l a 65536 + 1).toInt = (fd_l a 65536).toInt + 1 := by rw [Int64.toInt_add, one, Int.bmod_eq_of_le (by omega) (by omega)]
  have sb : (fd_l b 65536 + 1).toInt = (fd_l b 65536).toInt + 1 := by rw [Int64.toInt_add, one, Int.bmod_eq_of_le (by omega) (by omega)]
  obtain ⟨x0, hx0, ex0, mx0⟩ := nq_wrap hw (e := k - L) (by omega) (fd_l a 65536) (by omega) (by omega)
  obtain ⟨x1, hx1, ex1, mx1⟩ := nq_wrap hw (e := k - L) (by omega) (fd_l a 65536 + 1) (by omega) (by omega)
  obtain ⟨y0, hy0, ey0, my0⟩ := nq_wrap hw (e := k - L) (by omega) (fd_l b 65536) (by omega) (by omega)
  obtain ⟨y1, hy1, ey1, my1⟩ := nq_wrap hw (e := k - L) (by omega) (fd_l b 65536 + 1) (by omega) (by omega)
  have z0 : (0 : Int32).toInt64 = 0 := rfl
  have z1 : (1 : Int32).toInt64 = 1 := rfl
  refine ⟨x0, x1, y0, y1, hx0, hx1, hy0, hy1, ?_, ?_, ?_, ?_, ?_⟩
  · rw [← ha, c1, z0, Int64.add_zero]; exact mx0
  · rw [← ha, c1, z1]; exact mx1
  · rw [← hb, d1, z0, Int64.add_zero]; exact my0
  · rw [← hb, d1, z1]; exact my1
  · have hm : ∀ n, n < 4 ^ k → h (st4 k + n) = va_cpy f4 f6 (1024 * j) 0 (4 ^ k) n ∧ cq (va_cpy f4 f6 (1024 * j) 0 (4 ^ k) n) := fun n hn => by rw [pk_cpy_in (by omega) (by omega), Nat.sub_zero]; exact h0 n hn
    obtain ⟨t00, q00⟩ := tq_lev hk hm hL hy0 hx0
    obtain ⟨t10, q10⟩ := tq_lev hk hm hL hy0 hx1
    obtain ⟨t01, q01⟩ := tq_lev hk hm hL hy1 hx0
    obtain ⟨t11, q11⟩ := tq_lev hk hm hL hy1 hx1
    unfold tt_cat
    rw [if_pos hsf, tq_shr hk hL, ← ha, ← hb]
    unfold tt_soft
    rw [ex0, ex1, ey0, ey1, t00, t10, t01, t11, ga1, gb1, ga2, gb2]
    exact nq_soft2 q00 q10 q01 q11 hga hgb
theorem lc_s1 {k L : Nat} (hk : k ≤ 5) : ¬ (nI (2 ^ (k - L))).toInt64 = 0 ∧ ¬ 2 * (nI (2 ^ (k - L))).toInt64 = 0 := by
  obtain ⟨p1, p2, -, -, -⟩ := tt_pw (k - L) (by omega)
  rw [nI_l (by omega), show (2 : Int64) = lN 2 from rfl, lN_mul, show (0 : Int64) = lN 0 from rfl]
  exact ⟨fun q => absurd ((pk_lEQ (by omega) (by omega)).mp q) (by omega), fun q => absurd ((pk_lEQ (by omega) (by omega)).mp q) (by omega)⟩
theorem lc_has {k : Nat} (hk : k ≤ 5) {lv : Int32} : tt_has (nI (k + 1)) lv = 0 ↔ (lv < 0 ∨ ¬ lv ≤ nI k) := by
  rw [cn_has]
  by_cases h : lv < 0
  · exact ⟨fun _ => Or.inl h, fun _ => Or.inl h⟩
  · obtain ⟨n, hn, rfl⟩ := nI_of h
    rw [nI_leI (by omega) hn, nI_leI hn (by omega)]
    exact ⟨fun q => q.elim (fun z => absurd z h) (fun z => Or.inr (by omega)), fun q => q.elim (fun z => absurd z h) (fun z => Or.inr (by omega))⟩
theorem lc_lev {k : Nat} (hk : k ≤ 5) {lv : Int32} (h : ¬ (lv < 0 ∨ ¬ lv ≤ nI k)) : ∃ L : Nat, L ≤ k ∧ lv = nI L := by
  obtain ⟨n, hn, rfl⟩ := nI_of (fun q => h (Or.inl q))
  refine ⟨n, ?_, rfl⟩
  rcases Nat.lt_or_ge k n with q | q
  · exact absurd (Or.inr (by rw [nI_leI hn (by omega)]; omega)) h
  · exact q
theorem lc_texel {h f4 f6 : Nat → Int32} {j k L : Nat} (hk : k ≤ 5) (hL : L ≤ k) (h0 : ∀ n, n < 4 ^ k → h (st4 k + n) = f4 (1024 * j + n) ∧ cq (f4 (1024 * j + n))) {x0 y0 : Nat} (hx : x0 < 2 ^ (k - L)) (hy : y0 < 2 ^ (k - L)) : tt_at (tt_fl h k) (nI (2 ^ k) >>> (nI L &&& 31)) (nI x0) (nI y0) = mm_hs (va_cpy f4 f6 (1024 * j) 0 (4 ^ k)) k L (y0 * 2 ^ (k - L) + x0) ∧ ¬ tt_at (tt_fl h k) (nI (2 ^ k) >>> (nI L &&& 31)) (nI x0) (nI y0) = -1 := by
  rw [tq_shr hk hL]
  obtain ⟨t, q⟩ := tq_lev hk (m := va_cpy f4 f6 (1024 * j) 0 (4 ^ k)) (fun n hn => by rw [pk_cpy_in (by omega) (by omega), Nat.sub_zero]; exact h0 n hn) hL hy hx
  refine ⟨t, ?_⟩
  rw [t]
  obtain ⟨n, hn, e⟩ := q
  rw [e]
  intro z
  have := congrArg Int32.toInt z
  rw [nI_toInt (by omega)] at this
  have m1 : (-1 : Int32).toInt = -1 := by decide
  omega
theorem lc_texbad {g : Nat → Int32} {k L : Nat} (hk : k ≤ 5) (hL : L ≤ k) {x y : Int32} (h : x < 0 ∨ nI (2 ^ (k - L)) ≤ x ∨ y < 0 ∨ ¬ y < nI (2 ^ (k - L))) : tt_at g (nI (2 ^ k) >>> (nI L &&& 31)) x y = -1 := by
  rw [tq_shr hk hL]
  unfold tt_at
  by_cases c1 : (32 : Int32) < nI (2 ^ (k - L))
  · rw [if_pos c1]
  · by_cases c2 : x < 0
    · rw [if_neg c1, if_pos c2]
    · by_cases c3 : nI (2 ^ (k - L)) ≤ x
      · rw [if_neg c1, if_neg c2, if_pos c3]
      · by_cases c4 : y < 0
        · rw [if_neg c1, if_neg c2, if_neg c3, if_pos c4]
        · by_cases c5 : y < nI (2 ^ (k - L))
          · exact h.elim (fun q => absurd q c2) (fun q => q.elim (fun q => absurd q c3) (fun q => q.elim (fun q => absurd q c4) (fun q => absurd c5 q)))
          · rw [if_neg c1, if_neg c2, if_neg c3, if_neg c4, if_neg c5]
theorem lc_texok {k L : Nat} (hk : k ≤ 5) {x y : Int32} (h : ¬ (x < 0 ∨ nI (2 ^ (k - L)) ≤ x ∨ y < 0 ∨ ¬ y < nI (2 ^ (k - L)))) : ∃ x0 y0 : Nat, x0 < 2 ^ (k - L) ∧ y0 < 2 ^ (k - L) ∧ x = nI x0 ∧ y = nI y0 := by
  obtain ⟨p1, p2, -, -, -⟩ := tt_pw (k - L) (by omega)
  obtain ⟨a, ha, rfl⟩ := nI_of (fun q => h (Or.inl q))
  obtain ⟨b, hb, rfl⟩ := nI_of (fun q => h (Or.inr (Or.inr (Or.inl q))))
  refine ⟨a, b, ?_, ?_, rfl, rfl⟩
  · rcases Nat.lt_or_ge a (2 ^ (k - L)) with q | q
    · exact q
    · exact absurd (Or.inr (Or.inl (nI_le q ha))) h
  · rcases Nat.lt_or_ge b (2 ^ (k - L)) with q | q
    · exact q
    · exact absurd (Or.inr (Or.inr (Or.inr (nI_nlt q hb)))) h
