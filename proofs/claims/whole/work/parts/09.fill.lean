/-- where the level of side 2^k stands -/
def st4 : Nat → Nat
  | 0 => 0
  | k + 1 => st4 k + 4 ^ k
theorem tt_pw : ∀ k, k ≤ 5 → 2 ^ k ≤ 32 ∧ 1 ≤ 2 ^ k ∧ (2 ^ k * 2 ^ k - 1) / 3 = st4 k ∧ 2 ^ k * 2 ^ k = 4 ^ k ∧ st4 k + 4 ^ k ≤ 1365 := by
  intro k hk
  match k, hk with
  | 0, _ => decide
  | 1, _ => decide
  | 2, _ => decide
  | 3, _ => decide
  | 4, _ => decide
  | 5, _ => decide
  | k + 6, h => exact absurd h (by omega)
theorem tt_startN {k : Nat} (h1 : 1 ≤ k) (h : k ≤ 32) : tt_start (nI k) = nI ((k * k - 1) / 3) := by
  have hkk : k * k ≤ 1024 := Nat.mul_le_mul h h
  have hk1 : 1 ≤ k * k := Nat.mul_pos (by omega) (by omega)
  unfold tt_start
  rw [pk_mul, show (1 : Int32) = nI 1 from rfl, pk_sub hk1, show (3 : Int32) = nI 3 from rfl, pk_div (by omega) (by omega) (by omega)]
theorem tt_start4 {k : Nat} (hk : k ≤ 5) : tt_start (nI (2 ^ k)) = nI (st4 k) := by
  obtain ⟨h1, h2, h3, -, -⟩ := tt_pw k hk
  rw [tt_startN h2 h1, h3]
theorem tt_atN {g : Nat → Int32} {k a b : Nat} (hk : k ≤ 5) (ha : a < 2 ^ k) (hb : b < 2 ^ k) : tt_at g (nI (2 ^ k)) (nI a) (nI b) = g (st4 k + b * 2 ^ k + a) := by
  obtain ⟨h1, h2, h3, h4, h5⟩ := tt_pw k hk
  unfold tt_at
  rw [if_neg (show ¬ (32 : Int32) < nI (2 ^ k) from nI_nlt (a := 32) h1 (by omega)), if_neg (nI_pos (by omega)), if_neg (nI_ge ha (by omega)), if_neg (nI_pos (by omega)), if_pos (nI_lt hb (by omega))]
  rw [tt_start4 hk, pk_mul, nI_add, nI_add]
  have hbk2 : b * 2 ^ k + 2 ^ k ≤ 4 ^ k := by
    have : (b + 1) * 2 ^ k ≤ 2 ^ k * 2 ^ k := Nat.mul_le_mul_right _ hb
    rw [Nat.succ_mul, h4] at this
    exact this
  rw [nI_clamp (by omega)]
def tt_ffv (g : Nat → Int32) (k i : Nat) : Int32 := tt_m4 g (nI (2 * 2 ^ k)) (nI (2 * (i % 2 ^ k))) (nI (2 * (i / 2 ^ k)))
/-- the colours with the first n of the level of side 2^k made out of the next greater one -/
def tt_ffp (g : Nat → Int32) (k n : Nat) : Nat → Int32 := fun i => if st4 k ≤ i ∧ i < st4 k + n then tt_ffv g k (i - st4 k) else g i
theorem tt_ffp0 (g : Nat → Int32) (k : Nat) : tt_ffp g k 0 = g := by
  funext i
  unfold tt_ffp
  rw [if_neg (by omega)]
theorem tt_ffp1 (g : Nat → Int32) (k n : Nat) : upd (tt_ffp g k n) (st4 k + n) (tt_ffv g k n) = tt_ffp g k (n + 1) := by
  funext i
  unfold upd tt_ffp
  by_cases h : i = st4 k + n
  · subst h
    rw [if_pos rfl, if_pos (by omega), Nat.add_sub_cancel_left]
  · rw [if_neg h]
    by_cases h2 : st4 k ≤ i ∧ i < st4 k + n
    · rw [if_pos h2, if_pos (by omega)]
    · rw [if_neg h2, if_neg (by omega)]
theorem tt_ffat (g : Nat → Int32) {k n : Nat} (hk : k ≤ 4) (hn : n ≤ 4 ^ k) (x y : Int32) : tt_at (tt_ffp g k n) (nI (2 * 2 ^ k)) x y = tt_at g (nI (2 * 2 ^ k)) x y := by
  have e2 : 2 * 2 ^ k = 2 ^ (k + 1) := by rw [Nat.pow_succ, Nat.mul_comm]
  rw [e2]
  have hk1 : k + 1 ≤ 5 := by omega
  obtain ⟨h1, h2, h3, h4, h5⟩ := tt_pw (k + 1) hk1
  unfold tt_at
  by_cases c1 : (32 : Int32) < nI (2 ^ (k + 1))
  · rw [if_pos c1, if_pos c1]
  · rw [if_neg c1, if_neg c1]
    by_cases c2 : x < 0
    · rw [if_pos c2, if_pos c2]
    · rw [if_neg c2, if_neg c2]
      by_cases c3 : nI (2 ^ (k + 1)) ≤ x
      · rw [if_pos c3, if_pos c3]
      · rw [if_neg c3, if_neg c3]
        by_cases c4 : y < 0
        · rw [if_pos c4, if_pos c4]
        · rw [if_neg c4, if_neg c4]
          by_cases c5 : y < nI (2 ^ (k + 1))
          · rw [if_pos c5, if_pos c5]
            obtain ⟨a, ha, rfl⟩ := nI_of c2
            obtain ⟨b, hb, rfl⟩ := nI_of c4
            have hbk : b < 2 ^ (k + 1) := (nI_ltI hb (by omega)).mp c5
            have hak : a < 2 ^ (k + 1) := by
              rcases Nat.lt_or_ge a (2 ^ (k + 1)) with q | q
              · exact q
              · exact absurd (nI_le q ha) c3
            rw [tt_start4 hk1, pk_mul, nI_add, nI_add]
            have hbk2 : b * 2 ^ (k + 1) + 2 ^ (k + 1) ≤ 4 ^ (k + 1) := by
              have : (b + 1) * 2 ^ (k + 1) ≤ 2 ^ (k + 1) * 2 ^ (k + 1) := Nat.mul_le_mul_right _ hbk
              rw [Nat.succ_mul, h4] at this
              exact this
            rw [nI_clamp (by omega)]
            unfold tt_ffp
            rw [if_neg (by simp only [st4]; omega)]
          · rw [if_neg c5, if_neg c5]
theorem tt_ffm (g : Nat → Int32) {k n : Nat} (hk : k ≤ 4) (hn : n ≤ 4 ^ k) (x y : Int32) : tt_m4 (tt_ffp g k n) (nI (2 * 2 ^ k)) x y = tt_m4 g (nI (2 * 2 ^ k)) x y := by
  unfold tt_m4
  rw [tt_ffat g hk hn, tt_ffat g hk hn, tt_ffat g hk hn, tt_ffat g hk hn]
theorem tt_ffs (g : Nat → Int32) {k x y : Nat} (hk : k ≤ 4) (hx : x < 2 ^ k) (hy : y < 2 ^ k) : tt_m4 (tt_ffp g k (y * 2 ^ k + x)) (2 * nI (2 ^ k)) (2 * nI x) (2 * nI y) = tt_ffv g k (y * 2 ^ k + x) := by
  obtain ⟨h1, h2, h3, h4, h5⟩ := tt_pw k (by omega)
  have hyk : y * 2 ^ k + 2 ^ k ≤ 4 ^ k := by
    have : (y + 1) * 2 ^ k ≤ 2 ^ k * 2 ^ k := Nat.mul_le_mul_right _ hy
    rw [Nat.succ_mul, h4] at this
    exact this
  rw [show (2 : Int32) = nI 2 from rfl, pk_mul, pk_mul, pk_mul, tt_ffm g hk (by omega)]
  unfold tt_ffv
  have e1 : (y * 2 ^ k + x) % 2 ^ k = x := by rw [Nat.mul_comm, Nat.mul_add_mod, Nat.mod_eq_of_lt hx]
  have e2 : (y * 2 ^ k + x) / 2 ^ k = y := by rw [Nat.mul_comm, Nat.mul_add_div (by omega), Nat.div_eq_of_lt hx, Nat.add_zero]
  rw [e1, e2]
theorem tt_ffi {k x y : Nat} (hk : k ≤ 4) (hx : x < 2 ^ k) (hy : y < 2 ^ k) : (nI (st4 k) + nI y * nI (2 ^ k)) + nI x = nI (st4 k + (y * 2 ^ k + x)) ∧ st4 k + (y * 2 ^ k + x) < 1365 := by
  obtain ⟨h1, h2, h3, h4, h5⟩ := tt_pw k (by omega)
  have hyk : y * 2 ^ k + 2 ^ k ≤ 4 ^ k := by
    have : (y + 1) * 2 ^ k ≤ 2 ^ k * 2 ^ k := Nat.mul_le_mul_right _ hy
    rw [Nat.succ_mul, h4] at this
    exact this
  refine ⟨by rw [pk_mul, nI_add, nI_add, Nat.add_assoc], by omega⟩
/-- the levels below the one of side 2^j made out of it, one after the other -/
def tt_fl (h : Nat → Int32) : Nat → (Nat → Int32)
  | 0 => h
  | i + 1 => tt_fl (tt_ffp h i (4 ^ i)) i
theorem tt_half (i : Nat) : nI (2 ^ (i + 1)) / 2 = nI (2 ^ (i + 1) / 2) ∧ 2 ^ (i + 1) / 2 = 2 ^ i ∨ 31 ≤ i + 1 := by
  rcases Nat.lt_or_ge (i + 1) 31 with h | h
  · left
    have h2 : 2 ^ (i + 1) < 2 ^ 31 := Nat.pow_lt_pow_right (by decide) h
    refine ⟨?_, by rw [Nat.pow_succ]; omega⟩
    rw [show (2 : Int32) = nI 2 from rfl, pk_div h2 (by decide) (by decide)]
  · exact Or.inr h
theorem tt_hv {j : Nat} (h : j ≤ 5) : nI (2 ^ j) / 2 = nI (2 ^ j / 2) := by
  have h2 : 2 ^ j < 2 ^ 31 := Nat.pow_lt_pow_right (by decide) (by omega)
  rw [show (2 : Int32) = nI 2 from rfl, pk_div h2 (by decide) (by decide)]
theorem tt_hs (i : Nat) : 2 ^ (i + 1) / 2 = 2 ^ i := by rw [Nat.pow_succ]; omega
