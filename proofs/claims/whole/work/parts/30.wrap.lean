theorem wb_tb (n : Nat) : (lN n).toBitVec = BitVec.ofNat 64 n := rfl
theorem wb_inj {a b : Int64} (h : a.toBitVec = b.toBitVec) : a = b := Int64.toBitVec_inj.mp h
theorem wb_tn {n : Nat} (h : n < 2 ^ 64) : (lN n).toBitVec.toNat = n := by rw [wb_tb, BitVec.toNat_ofNat, Nat.mod_eq_of_lt h]
theorem wb_of (x : Int64) : ∃ n, n < 2 ^ 64 ∧ x = lN n := ⟨x.toBitVec.toNat, x.toBitVec.isLt, wb_inj (by rw [wb_tb]; simp)⟩
theorem wb_lt2 {a b : Nat} (h : a < b) : 2 ^ a < 2 ^ b := Nat.pow_lt_pow_right (by decide) h
theorem wb_and {a b : Nat} (ha : a < 2 ^ 64) (hb : b < 2 ^ 64) : lN a &&& lN b = lN (a &&& b) := by
  apply wb_inj
  rw [Int64.toBitVec_and, wb_tb, wb_tb, wb_tb]
  apply BitVec.eq_of_toNat_eq
  rw [BitVec.toNat_and, BitVec.toNat_ofNat, BitVec.toNat_ofNat, BitVec.toNat_ofNat, Nat.mod_eq_of_lt ha, Nat.mod_eq_of_lt hb, Nat.mod_eq_of_lt (Nat.and_lt_two_pow _ hb)]
theorem wb_mask {n k : Nat} (hn : n < 2 ^ 64) (hk : k < 64) : lN n &&& lN (2 ^ k - 1) = lN (n % 2 ^ k) := by
  rw [wb_and hn (by have := wb_lt2 hk; omega), Nat.and_two_pow_sub_one_eq_mod]
theorem lN_bv (n : Nat) : (lN n).toBitVec = BitVec.ofNat 64 n := rfl
theorem lN_nat {n : Nat} (h : n < 2 ^ 64) : (lN n).toBitVec.toNat = n := by rw [lN_bv, BitVec.toNat_ofNat]; exact Nat.mod_eq_of_lt h
theorem lN_ti {m : Nat} (h : m < 2 ^ 64) : (lN m).toInt = if m < 2 ^ 63 then (m : Int) else (m : Int) - 2 ^ 64 := by
  have c := BitVec.toInt_eq_toNat_cond (lN m).toBitVec
  rw [lN_nat h] at c
  show (lN m).toBitVec.toInt = _
  rw [c]
  split <;> split <;> omega
theorem nq_mask (x : Int64) {k : Nat} (hk : k ≤ 6) : x &&& lN (2 ^ k - 1) = lN ((x.toInt % ((2 ^ k : Nat) : Int)).toNat) := by
  obtain ⟨m, hm, rfl⟩ := wb_of x
  rw [wb_mask hm (by omega), lN_ti hm]
  refine congrArg lN ?_
  match k, hk with
  | 0, _ => split <;> omega
  | 1, _ => split <;> omega
  | 2, _ => split <;> omega
  | 3, _ => split <;> omega
  | 4, _ => split <;> omega
  | 5, _ => split <;> omega
  | 6, _ => split <;> omega
  | k + 7, h => exact absurd h (by omega)
theorem nq_rem (n : Int64) {S : Nat} (hS : 0 < S) (hS2 : S ≤ 65536) (h1 : -4611686018427387904 ≤ n.toInt) (h2 : n.toInt < 4611686018427387904) : n - lN S * fd_l n (lN S) = lN ((n.toInt % (S : Int)).toNat) := by
  have hSi : (lN S).toInt = (S : Int) := pk_lT (by omega)
  have hf : (fd_l n (lN S)).toInt = n.toInt / (S : Int) := by rw [fd_toInt n (lN S) (by rw [hSi]; omega), hSi]
  have e0 : n.toInt % (S : Int) = n.toInt - (S : Int) * (n.toInt / (S : Int)) := Int.emod_def _ _
  have e1 : 0 ≤ n.toInt % (S : Int) := Int.emod_nonneg _ (by omega)
  have e2 : n.toInt % (S : Int) < (S : Int) := Int.emod_lt_of_pos _ (by omega)
  apply Int64.toInt_inj.mp
  rw [Int64.toInt_sub, Int64.toInt_mul, hf, hSi, pk_lT (by omega), Int.toNat_of_nonneg e1, Int.bmod_eq_of_le (n := (S : Int) * (n.toInt / (S : Int))) (by omega) (by omega), Int.bmod_eq_of_le (by omega) (by omega)]
  omega
theorem tq_w0 (n : Int64) (s : Int32) : tt_wrap 0 n s = (n &&& (s - 1).toInt64).toInt32 := by
  unfold tt_wrap
  exact if_pos rfl
theorem tq_w1 (n : Int64) (s : Int32) : tt_wrap 1 n s = (if (if s.toInt64 - 1 < n then s.toInt64 - 1 else n) < 0 then 0 else (if s.toInt64 - 1 < n then s.toInt64 - 1 else n)).toInt32 := by
  unfold tt_wrap
  exact (if_neg (show ¬ (1 : Int32) = 0 by decide)).trans (if_pos rfl)
theorem tq_w2 (n : Int64) (s : Int32) : tt_wrap 2 n s = if (n &&& (2 * s - 1).toInt64).toInt32 < s then (n &&& (2 * s - 1).toInt64).toInt32 else (2 * s - 1) - (n &&& (2 * s - 1).toInt64).toInt32 := by
  unfold tt_wrap
  exact (if_neg (show ¬ (2 : Int32) = 0 by decide)).trans (if_neg (show ¬ (2 : Int32) = 1 by decide))
theorem mq_w0 (si : Int32) (k : Int64) : mm_into si 0 k = (k - si.toInt64 * mm_div k si.toInt64).toInt32 := by
  unfold mm_into
  exact if_pos rfl
theorem mq_w1 (si : Int32) (k : Int64) : mm_into si 1 k = (if 0 ≤ k then (if k < si.toInt64 then k.toInt32 else (si.toInt64 - 1).toInt32) else (0 : Int64).toInt32) := by
  unfold mm_into
  exact (if_neg (show ¬ (1 : Int32) = 0 by decide)).trans (if_pos rfl)
theorem mq_w2 (si : Int32) (k : Int64) : mm_into si 2 k = if k - 2 * si.toInt64 * mm_div k (2 * si.toInt64) < si.toInt64 then (k - 2 * si.toInt64 * mm_div k (2 * si.toInt64)).toInt32 else (2 * si.toInt64 - 1 - (k - 2 * si.toInt64 * mm_div k (2 * si.toInt64))).toInt32 := by
  unfold mm_into
  exact (if_neg (show ¬ (2 : Int32) = 0 by decide)).trans (if_neg (show ¬ (2 : Int32) = 1 by decide))
theorem nq_wrap {w : Int32} (hw : w = 0 ∨ w = 1 ∨ w = 2) {e : Nat} (he : e ≤ 5) (n : Int64) (h1 : -4611686018427387904 ≤ n.toInt) (h2 : n.toInt < 4611686018427387904) : ∃ a : Nat, a < 2 ^ e ∧ tt_wrap w n (nI (2 ^ e)) = nI a ∧ mm_into (nI (2 ^ e)) w n = nI a := by
  obtain ⟨p1, p2, -, -, -⟩ := tt_pw e he
  have hp2 : 2 ^ (e + 1) = 2 * 2 ^ e := by rw [Nat.pow_succ, Nat.mul_comm]
  have hl : (nI (2 ^ e)).toInt64 = lN (2 ^ e) := nI_l (by omega)
  have hl2 : (2 : Int64) * lN (2 ^ e) = lN (2 * 2 ^ e) := by rw [show (2 : Int64) = lN 2 from rfl, lN_mul]
  have pos1 : 0 < (lN (2 ^ e)).toInt := by rw [pk_lT (by omega)]; omega
  have pos2 : 0 < (lN (2 * 2 ^ e)).toInt := by rw [pk_lT (by omega)]; omega
  rcases hw with rfl | rfl | rfl
  · rw [tq_w0, mq_w0, hl]
    have a1 : 0 ≤ n.toInt % ((2 ^ e : Nat) : Int) := Int.emod_nonneg _ (by omega)
    have a2 : n.toInt % ((2 ^ e : Nat) : Int) < ((2 ^ e : Nat) : Int) := Int.emod_lt_of_pos _ (by omega)
    refine ⟨(n.toInt % ((2 ^ e : Nat) : Int)).toNat, by omega, ?_, ?_⟩
    · rw [show (nI (2 ^ e) - 1 : Int32) = nI (2 ^ e - 1) from by rw [show (1 : Int32) = nI 1 from rfl, pk_sub p2], nI_l (by omega), nq_mask n (by omega), lN_i]
    · rw [mm_divI n _ pos1, nq_rem n (by omega) (by omega) h1 h2, lN_i]
  · rw [tq_w1, mq_w1, hl]
    have e1 : lN (2 ^ e) - 1 = lN (2 ^ e - 1) := by rw [show (1 : Int64) = lN 1 from rfl, lN_sub p2]
    rw [e1]
    by_cases hn : n < 0
    · have hn' : n.toInt < 0 := by
        rw [Int64.lt_iff_toInt_lt] at hn
        exact hn
      have c1 : ¬ lN (2 ^ e - 1) < n := by
        rw [Int64.lt_iff_toInt_lt, pk_lT (by omega)]
        omega
      have c2 : ¬ 0 ≤ n := by
        rw [Int64.le_iff_toInt_le]
        show ¬ (0 : Int) ≤ n.toInt
        omega
      refine ⟨0, by omega, ?_, ?_⟩
      · rw [if_neg c1, if_pos hn]
        rfl
      · rw [if_neg c2]
        rfl
    · obtain ⟨q, hq, rfl⟩ := pk_lOf hn
      have c2 : (0 : Int64) ≤ lN q := by
        rw [Int64.le_iff_toInt_le, pk_lT hq]
        show (0 : Int) ≤ q
        omega
      rw [if_pos c2]
      by_cases hqs : q < 2 ^ e
      · refine ⟨q, hqs, ?_, ?_⟩
        · have c3 : ¬ lN (2 ^ e - 1) < lN q := fun h => absurd ((pk_lLT (by omega) hq).mp h) (by omega)
          rw [if_neg c3, if_neg hn, lN_i]
        · rw [if_pos ((pk_lLT hq (by omega)).mpr hqs), lN_i]
      · refine ⟨2 ^ e - 1, by omega, ?_, ?_⟩
        · rw [if_pos ((pk_lLT (by omega) hq).mpr (by omega)), if_neg (by rw [show (0 : Int64) = lN 0 from rfl, pk_lLT (by omega) (by omega)]; omega), lN_i]
        · rw [if_neg (by rw [pk_lLT hq (by omega)]; omega), lN_i]
  · rw [tq_w2, mq_w2, hl, hl2]
    have a1 : 0 ≤ n.toInt % ((2 * 2 ^ e : Nat) : Int) := Int.emod_nonneg _ (by omega)
    have a2 : n.toInt % ((2 * 2 ^ e : Nat) : Int) < ((2 * 2 ^ e : Nat) : Int) := Int.emod_lt_of_pos _ (by omega)
    obtain ⟨F, hF⟩ : ∃ F : Nat, F = (n.toInt % ((2 * 2 ^ e : Nat) : Int)).toNat := ⟨_, rfl⟩
    have hFl : F < 2 * 2 ^ e := by omega
    have m1 : (n &&& (2 * nI (2 ^ e) - 1).toInt64).toInt32 = nI F := by
      rw [show (2 * nI (2 ^ e) - 1 : Int32) = nI (2 ^ (e + 1) - 1) from by rw [show (2 : Int32) = nI 2 from rfl, pk_mul, show (1 : Int32) = nI 1 from rfl, pk_sub (by omega), hp2], nI_l (by omega), nq_mask n (by omega), lN_i, hF, hp2]
    have m2 : n - lN (2 * 2 ^ e) * mm_div n (lN (2 * 2 ^ e)) = lN F := by
      rw [mm_divI n _ pos2, nq_rem n (by omega) (by omega) h1 h2, hF]
    rw [m1, m2]
    by_cases hFs : F < 2 ^ e
    · refine ⟨F, hFs, ?_, ?_⟩
      · rw [if_pos (nI_lt hFs (by omega))]
      · rw [if_pos ((pk_lLT (by omega) (by omega)).mpr hFs), lN_i]
    · refine ⟨2 * 2 ^ e - 1 - F, by omega, ?_, ?_⟩
      · rw [if_neg (by rw [nI_ltI (by omega) (by omega)]; omega), show (2 : Int32) = nI 2 from rfl, pk_mul, show (1 : Int32) = nI 1 from rfl, pk_sub (by omega), pk_sub (by omega)]
      · rw [if_neg (by rw [pk_lLT (by omega) (by omega)]; omega), show (1 : Int64) = lN 1 from rfl, lN_sub (by omega), lN_sub (by omega), lN_i]
theorem nq_place {u : Int32} (h : ¬ tt_isPlace u = 0) : -16777216 ≤ u.toInt ∧ u.toInt ≤ 16777216 := by
  unfold tt_isPlace at h
  by_cases h1 : u < -16777216
  · rw [if_pos h1] at h
    exact absurd rfl h
  · by_cases h2 : 16777216 < u
    · rw [if_neg h1, if_pos h2] at h
      exact absurd rfl h
    · rw [Int32.lt_iff_toInt_lt] at h1 h2
      have e1 : (-16777216 : Int32).toInt = -16777216 := by decide
      have e2 : (16777216 : Int32).toInt = 16777216 := by decide
      omega
theorem nq_a {u : Int32} (h : ¬ tt_isPlace u = 0) {e : Nat} (he : e ≤ 5) : -536870912 ≤ (u.toInt64 * (nI (2 ^ e)).toInt64).toInt ∧ (u.toInt64 * (nI (2 ^ e)).toInt64).toInt ≤ 536870912 := by
  obtain ⟨p1, p2, -, -, -⟩ := tt_pw e he
  obtain ⟨u1, u2⟩ := nq_place h
  rw [nI_l (by omega), Int64.toInt_mul, Int32.toInt_toInt64, pk_lT (by omega)]
  have b1 : -16777216 * 32 ≤ u.toInt * ((2 ^ e : Nat) : Int) := by
    rcases Int.le_total 0 u.toInt with q | q
    · have : 0 ≤ u.toInt * ((2 ^ e : Nat) : Int) := Int.mul_nonneg q (by omega)
      omega
    · have c1 : u.toInt * 32 ≤ u.toInt * ((2 ^ e : Nat) : Int) := Int.mul_le_mul_of_nonpos_left q (by omega)
      omega
  have b2 : u.toInt * ((2 ^ e : Nat) : Int) ≤ 16777216 * 32 := by
    rcases Int.le_total 0 u.toInt with q | q
    · have c1 : u.toInt * ((2 ^ e : Nat) : Int) ≤ u.toInt * 32 := Int.mul_le_mul_of_nonneg_left (by omega) q
      omega
    · have : u.toInt * ((2 ^ e : Nat) : Int) ≤ 0 := Int.mul_nonpos_of_nonpos_of_nonneg q (by omega)
      omega
  rw [Int.bmod_eq_of_le (by omega) (by omega)]
  omega
theorem nq_d16 {a : Int64} (h1 : -1073741824 ≤ a.toInt) (h2 : a.toInt ≤ 1073741824) : mm_div a 65536 = fd_l a 65536 ∧ -16385 ≤ (fd_l a 65536).toInt ∧ (fd_l a 65536).toInt ≤ 16385 := by
  have hp : (0 : Int) < (65536 : Int64).toInt := by decide
  have hv : (65536 : Int64).toInt = 65536 := by decide
  refine ⟨mm_divI a _ hp, ?_, ?_⟩
  · rw [fd_toInt a _ hp, hv]; omega
  · rw [fd_toInt a _ hp, hv]; omega
/-- the share g: at most 255, the same on both sides -/
theorem nq_g {a : Int64} (h1 : -1073741824 ≤ a.toInt) (h2 : a.toInt ≤ 1073741824) : ∃ g : Nat, g ≤ 255 ∧ fd_l (a - 65536 * fd_l a 65536) 256 = lN g ∧ mm_div (a - 65536 * mm_div a 65536) 256 = lN g := by
  have e1 : 0 ≤ a.toInt % ((65536 : Nat) : Int) := Int.emod_nonneg _ (by omega)
  have e2 : a.toInt % ((65536 : Nat) : Int) < ((65536 : Nat) : Int) := Int.emod_lt_of_pos _ (by omega)
  have r : a - 65536 * fd_l a 65536 = lN ((a.toInt % ((65536 : Nat) : Int)).toNat) := nq_rem a (S := 65536) (by omega) (by omega) (by omega) (by omega)
  refine ⟨(a.toInt % ((65536 : Nat) : Int)).toNat / 256, by omega, ?_, ?_⟩
  · rw [r, show (256 : Int64) = lN 256 from rfl, nq_fd (by omega) (by decide) (by decide)]
  · rw [(nq_d16 h1 h2).1, r, mm_divI _ _ (by decide), show (256 : Int64) = lN 256 from rfl, nq_fd (by omega) (by decide) (by decide)]
