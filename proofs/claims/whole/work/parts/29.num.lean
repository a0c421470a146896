theorem fd_sgn (x y : Int64) (hy : 0 < y.toInt) : 0 ≤ x ^^^ y ↔ 0 ≤ x.toInt := by
  rw [Int64.le_iff_toInt_le]
  have h0 : (0 : Int64).toInt = 0 := rfl
  rw [h0]
  have a : (x.toBitVec ^^^ y.toBitVec).msb = (x.toBitVec.msb ^^ y.toBitVec.msb) := BitVec.msb_xor
  rw [BitVec.msb_eq_toInt, BitVec.msb_eq_toInt, BitVec.msb_eq_toInt] at a
  have b : decide (y.toBitVec.toInt < 0) = false := decide_eq_false (by have : y.toBitVec.toInt = y.toInt := rfl; omega)
  rw [b, Bool.xor_false] at a
  have a' : ((x ^^^ y).toInt < 0) ↔ (x.toInt < 0) := decide_eq_decide.mp a
  omega
theorem fd_toInt (x y : Int64) (hy : 0 < y.toInt) : (fd_l x y).toInt = x.toInt / y.toInt := by
  have hne : y ≠ -1 := by
    intro h
    rw [h] at hy
    exact absurd hy (by decide)
  have hq : (x / y).toInt = x.toInt.tdiv y.toInt := Int64.toInt_div_of_ne_right x y hne
  have hx1 := Int64.toInt_lt x
  have hx2 := Int64.le_toInt x
  rw [Int.tdiv_eq_ediv] at hq
  have e1 : x.toInt / y.toInt * y.toInt ≤ x.toInt := Int.ediv_mul_le _ (by omega)
  have e2 : x.toInt < (x.toInt / y.toInt + 1) * y.toInt := Int.lt_ediv_add_one_mul_self _ hy
  unfold fd_l
  by_cases h : 0 ≤ x.toInt
  · rw [if_pos ((fd_sgn x y hy).mpr h), hq, if_pos (Or.inl h), Int.add_zero]
  · rw [if_neg (fun g => h ((fd_sgn x y hy).mp g))]
    by_cases hd : y.toInt ∣ x.toInt
    · rw [if_pos (Or.inr hd), Int.add_zero] at hq
      have hm : x / y * y = x := by
        apply Int64.toInt_inj.mp
        rw [Int64.toInt_mul, hq, Int.ediv_mul_cancel hd]
        exact Int.bmod_eq_of_le (by omega) (by omega)
      rw [if_pos hm, hq]
    · rw [if_neg (fun g => g.elim h hd), Int.sign_eq_one_of_pos hy] at hq
      have hlt : x.toInt / y.toInt < 0 := Int.ediv_neg_of_neg_of_pos (by omega) hy
      have hle : (x.toInt / y.toInt + 1) * y.toInt ≤ 0 := Int.mul_nonpos_of_nonpos_of_nonneg (by omega) (by omega)
      have hm : ¬ x / y * y = x := by
        intro g
        have g' := congrArg Int64.toInt g
        rw [Int64.toInt_mul, hq, Int.bmod_eq_of_le (by omega) (by omega)] at g'
        exact hd ⟨x.toInt / y.toInt + 1, by rw [Int.mul_comm]; exact g'.symm⟩
      have hge : -9223372036854775808 ≤ x.toInt / y.toInt := by
        have : x.toInt ≤ x.toInt / y.toInt := by
          rw [Int.le_ediv_iff_mul_le hy]
          have : x.toInt * y.toInt ≤ x.toInt * 1 := Int.mul_le_mul_of_nonpos_left (by omega) (by omega)
          omega
        omega
      rw [if_neg hm, Int64.toInt_sub, hq]
      have h1 : (1 : Int64).toInt = 1 := rfl
      rw [h1, Int.bmod_eq_of_le (by omega) (by omega)]
      omega
theorem mm_toInt (x y : Int64) (hy : 0 < y.toInt) : (mm_div x y).toInt = x.toInt / y.toInt := by
  have hne : y ≠ -1 := by
    intro h
    rw [h] at hy
    exact absurd hy (by decide)
  have hq : (x / y).toInt = x.toInt.tdiv y.toInt := Int64.toInt_div_of_ne_right x y hne
  have hx1 := Int64.toInt_lt x
  have hx2 := Int64.le_toInt x
  rw [Int.tdiv_eq_ediv] at hq
  have e1 : x.toInt / y.toInt * y.toInt ≤ x.toInt := Int.ediv_mul_le _ (by omega)
  have e2 : x.toInt < (x.toInt / y.toInt + 1) * y.toInt := Int.lt_ediv_add_one_mul_self _ hy
  unfold mm_div
  by_cases h : 0 ≤ x.toInt ∨ y.toInt ∣ x.toInt
  · rw [if_pos h, Int.add_zero] at hq
    have hm : x / y * y ≤ x := by
      rw [Int64.le_iff_toInt_le, Int64.toInt_mul, hq]
      have hlo : -9223372036854775808 ≤ x.toInt / y.toInt * y.toInt := by
        rcases h with h | h
        · have : 0 ≤ x.toInt / y.toInt * y.toInt := Int.mul_nonneg (Int.ediv_nonneg h (by omega)) (by omega)
          omega
        · rw [Int.ediv_mul_cancel h]; omega
      rw [Int.bmod_eq_of_le (by omega) (by omega)]
      exact e1
    rw [if_pos hm, hq]
  · rw [if_neg h, Int.sign_eq_one_of_pos hy] at hq
    have hx0 : x.toInt < 0 := by omega
    have hlt : x.toInt / y.toInt < 0 := Int.ediv_neg_of_neg_of_pos hx0 hy
    have hle : (x.toInt / y.toInt + 1) * y.toInt ≤ 0 := Int.mul_nonpos_of_nonpos_of_nonneg (by omega) (by omega)
    have hm : ¬ x / y * y ≤ x := by
      rw [Int64.le_iff_toInt_le, Int64.toInt_mul, hq, Int.bmod_eq_of_le (by omega) (by omega)]
      omega
    have hge : -9223372036854775808 ≤ x.toInt / y.toInt := by
      have : x.toInt ≤ x.toInt / y.toInt := by
        rw [Int.le_ediv_iff_mul_le hy]
        have : x.toInt * y.toInt ≤ x.toInt * 1 := Int.mul_le_mul_of_nonpos_left (by omega) (by omega)
        omega
      omega
    rw [if_neg hm, Int64.toInt_sub, hq]
    have h1 : (1 : Int64).toInt = 1 := rfl
    rw [h1, Int.bmod_eq_of_le (by omega) (by omega)]
    omega
theorem mm_divI (x y : Int64) (hy : 0 < y.toInt) : mm_div x y = fd_l x y := Int64.toInt_inj.mp (by rw [mm_toInt x y hy, fd_toInt x y hy])
theorem nq_fd {a b : Nat} (ha : a < 2 ^ 62) (hb0 : 0 < b) (hb : b < 2 ^ 62) : fd_l (lN a) (lN b) = lN (a / b) := by
  apply Int64.toInt_inj.mp
  have hd := Nat.div_le_self a b
  rw [fd_toInt _ _ (by rw [pk_lT (by omega)]; omega), pk_lT (by omega), pk_lT (by omega), pk_lT (by omega)]
  exact (Int.natCast_ediv a b).symm
/-- a colour -/
def cq (x : Int32) : Prop := ∃ n : Nat, n < 16777216 ∧ x = nI n
theorem nq_num16 {n : Nat} (h : n < 16777216) : tt_num (nI n) 16 = lN (n / 65536 % 256) := by
  unfold tt_num
  rw [pk_shrN (by omega) _ 16 (by decide), show n / 2 ^ 16 = n / 65536 by rw [show (2 ^ 16) = 65536 from rfl], pk_andN (by omega) 8 (by decide), nI_l (by omega)]
theorem nq_num8 {n : Nat} (h : n < 16777216) : tt_num (nI n) 8 = lN (n / 256 % 256) := by
  unfold tt_num
  rw [pk_shrN (by omega) _ 8 (by decide), show n / 2 ^ 8 = n / 256 by rw [show (2 ^ 8) = 256 from rfl], pk_andN (by omega) 8 (by decide), nI_l (by omega)]
theorem nq_num0 {n : Nat} (h : n < 16777216) : tt_num (nI n) 0 = lN (n % 256) := by
  unfold tt_num
  rw [pk_shrN (by omega) _ 0 (by decide), show n / 2 ^ 0 = n by rw [show (2 ^ 0) = 1 from rfl, Nat.div_one], pk_andN (by omega) 8 (by decide), nI_l (by omega)]
theorem nq_part0 {n : Nat} (h : n < 16777216) : mm_part (nI n) 0 = nI (n / 65536 % 256) := by
  unfold mm_part
  rw [if_pos rfl, show (65536 : Int32) = nI 65536 from rfl, pk_div (by omega) (by decide) (by decide), show n / 65536 % 256 = n / 65536 by omega]
theorem nq_part1 {n : Nat} (h : n < 16777216) : mm_part (nI n) 1 = nI (n / 256 % 256) := by
  unfold mm_part
  rw [if_neg (by decide), if_pos rfl, show (256 : Int32) = nI 256 from rfl, pk_div (by omega) (by decide) (by decide), pk_rem (by omega) (by decide) (by decide)]
theorem nq_part2 {n : Nat} (h : n < 16777216) : mm_part (nI n) 2 = nI (n % 256) := by
  unfold mm_part
  rw [if_neg (by decide), if_neg (by decide), show (256 : Int32) = nI 256 from rfl, pk_rem (by omega) (by decide) (by decide)]
theorem nq_col {r g b : Nat} (hr : r < 256) (hg : g < 256) (hb : b < 256) : tt_col (nI r) (nI g) (nI b) = nI (r * 65536 + g * 256 + b) := by
  unfold tt_col
  rw [pk_shlN _ 16 (by decide) (by omega), pk_shlN _ 8 (by decide) (by omega), pk_shlN _ 0 (by decide) (by omega), nI_add, nI_add, show b * 2 ^ 0 = b by omega]
theorem nq_mn16 {a b c d : Nat} (ha : a < 16777216) (hb : b < 16777216) (hc : c < 16777216) (hd : d < 16777216) : tt_mn (nI a) (nI b) (nI c) (nI d) 16 = nI ((a / 65536 % 256 + b / 65536 % 256 + c / 65536 % 256 + d / 65536 % 256) / 4) := by
  unfold tt_mn
  rw [nq_num16 ha, nq_num16 hb, nq_num16 hc, nq_num16 hd, lN_add, lN_add, lN_add, show (4 : Int64) = lN 4 from rfl, nq_fd (by omega) (by decide) (by decide), lN_i]
theorem nq_sum0 {a b c d : Nat} (ha : a < 16777216) (hb : b < 16777216) (hc : c < 16777216) (hd : d < 16777216) : mm_sum (nI a) (nI b) (nI c) (nI d) 0 / 4 = nI ((a / 65536 % 256 + b / 65536 % 256 + c / 65536 % 256 + d / 65536 % 256) / 4) := by
  unfold mm_sum
  rw [nq_part0 ha, nq_part0 hb, nq_part0 hc, nq_part0 hd, show (0 : Int32) = nI 0 from rfl, nI_add, nI_add, nI_add, nI_add, show (4 : Int32) = nI 4 from rfl, pk_div (by omega) (by decide) (by decide), Nat.zero_add]
theorem nq_mn8 {a b c d : Nat} (ha : a < 16777216) (hb : b < 16777216) (hc : c < 16777216) (hd : d < 16777216) : tt_mn (nI a) (nI b) (nI c) (nI d) 8 = nI ((a / 256 % 256 + b / 256 % 256 + c / 256 % 256 + d / 256 % 256) / 4) := by
  unfold tt_mn
  rw [nq_num8 ha, nq_num8 hb, nq_num8 hc, nq_num8 hd, lN_add, lN_add, lN_add, show (4 : Int64) = lN 4 from rfl, nq_fd (by omega) (by decide) (by decide), lN_i]
theorem nq_sum1 {a b c d : Nat} (ha : a < 16777216) (hb : b < 16777216) (hc : c < 16777216) (hd : d < 16777216) : mm_sum (nI a) (nI b) (nI c) (nI d) 1 / 4 = nI ((a / 256 % 256 + b / 256 % 256 + c / 256 % 256 + d / 256 % 256) / 4) := by
  unfold mm_sum
  rw [nq_part1 ha, nq_part1 hb, nq_part1 hc, nq_part1 hd, show (0 : Int32) = nI 0 from rfl, nI_add, nI_add, nI_add, nI_add, show (4 : Int32) = nI 4 from rfl, pk_div (by omega) (by decide) (by decide), Nat.zero_add]
theorem nq_mn0 {a b c d : Nat} (ha : a < 16777216) (hb : b < 16777216) (hc : c < 16777216) (hd : d < 16777216) : tt_mn (nI a) (nI b) (nI c) (nI d) 0 = nI ((a % 256 + b % 256 + c % 256 + d % 256) / 4) := by
  unfold tt_mn
  rw [nq_num0 ha, nq_num0 hb, nq_num0 hc, nq_num0 hd, lN_add, lN_add, lN_add, show (4 : Int64) = lN 4 from rfl, nq_fd (by omega) (by decide) (by decide), lN_i]
theorem nq_sum2 {a b c d : Nat} (ha : a < 16777216) (hb : b < 16777216) (hc : c < 16777216) (hd : d < 16777216) : mm_sum (nI a) (nI b) (nI c) (nI d) 2 / 4 = nI ((a % 256 + b % 256 + c % 256 + d % 256) / 4) := by
  unfold mm_sum
  rw [nq_part2 ha, nq_part2 hb, nq_part2 hc, nq_part2 hd, show (0 : Int32) = nI 0 from rfl, nI_add, nI_add, nI_add, nI_add, show (4 : Int32) = nI 4 from rfl, pk_div (by omega) (by decide) (by decide), Nat.zero_add]
theorem nq_mean {a b c d : Int32} (ha : cq a) (hb : cq b) (hc : cq c) (hd : cq d) : tt_mean a b c d = mm_mean a b c d ∧ cq (mm_mean a b c d) := by
  obtain ⟨a, ha, rfl⟩ := ha
  obtain ⟨b, hb, rfl⟩ := hb
  obtain ⟨c, hc, rfl⟩ := hc
  obtain ⟨d, hd, rfl⟩ := hd
  have e : mm_mean (nI a) (nI b) (nI c) (nI d) = nI ((((a / 65536 % 256 + b / 65536 % 256 + c / 65536 % 256 + d / 65536 % 256) / 4) * 256 + (a / 256 % 256 + b / 256 % 256 + c / 256 % 256 + d / 256 % 256) / 4) * 256 + (a % 256 + b % 256 + c % 256 + d % 256) / 4) := by
    unfold mm_mean
    rw [nq_sum0 ha hb hc hd, nq_sum1 ha hb hc hd, nq_sum2 ha hb hc hd, show (0 : Int32) = nI 0 from rfl, nI_add, show (256 : Int32) = nI 256 from rfl, pk_mul, nI_add, pk_mul, nI_add, Nat.zero_add]
  refine ⟨?_, _, by omega, e⟩
  rw [e]
  unfold tt_mean
  rw [nq_mn16 ha hb hc hd, nq_mn8 ha hb hc hd, nq_mn0 ha hb hc hd, nq_col (by omega) (by omega) (by omega)]
  exact congrArg nI (by omega)
