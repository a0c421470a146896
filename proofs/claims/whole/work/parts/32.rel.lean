/-- the colours after L halvings -/
def tq_arr (h : Nat → Int32) (k : Nat) : Nat → (Nat → Int32)
  | 0 => h
  | L + 1 => tt_ffp (tq_arr h k L) (k - L - 1) (4 ^ (k - L - 1))
theorem tq_fl (h : Nat → Int32) (k : Nat) : ∀ L, L ≤ k → tt_fl h k = tt_fl (tq_arr h k L) (k - L) := by
  intro L
  induction L with
  | zero => intro _; rfl
  | succ L ih =>
    intro hL
    rw [ih (by omega)]
    have e : k - L = (k - L - 1) + 1 := by omega
    rw [e]
    show tt_fl (tt_ffp (tq_arr h k L) (k - L - 1) (4 ^ (k - L - 1))) (k - L - 1) = tt_fl (tt_ffp (tq_arr h k L) (k - L - 1) (4 ^ (k - L - 1))) (k - (L + 1))
    rw [show k - (L + 1) = k - L - 1 by omega]
theorem tt_flk : ∀ (j : Nat) (h : Nat → Int32) (p : Nat), st4 j ≤ p → tt_fl h j p = h p := by
  intro j
  induction j with
  | zero => intro h p _; rfl
  | succ i ih =>
    intro h p hp
    have hp : st4 i + 4 ^ i ≤ p := hp
    show tt_fl (tt_ffp h i (4 ^ i)) i p = h p
    rw [ih _ _ (Nat.le_trans (Nat.le_add_right _ _) hp)]
    unfold tt_ffp
    rw [if_neg (by omega)]
theorem tq_rel {h m : Nat → Int32} {k : Nat} (hk : k ≤ 5) (h0 : ∀ n, n < 4 ^ k → h (st4 k + n) = m n ∧ cq (m n)) : ∀ L, L ≤ k → ∀ y x : Nat, y < 2 ^ (k - L) → x < 2 ^ (k - L) →
    tq_arr h k L (st4 (k - L) + (y * 2 ^ (k - L) + x)) = mm_hs m k L (y * 2 ^ (k - L) + x) ∧ cq (mm_hs m k L (y * 2 ^ (k - L) + x)) := by
  intro L
  induction L with
  | zero =>
    intro _ y x hy hx
    obtain ⟨p1, p2, p3, p4, p5⟩ := tt_pw k hk
    have hyk : y * 2 ^ k + 2 ^ k ≤ 4 ^ k := by
      have : (y + 1) * 2 ^ k ≤ 2 ^ k * 2 ^ k := Nat.mul_le_mul_right _ hy
      rw [Nat.succ_mul, p4] at this
      exact this
    have hx : x < 2 ^ k := hx
    exact h0 (y * 2 ^ k + x) (by omega)
  | succ L ih =>
    intro hL y x hy hx
    have ihL := ih (by omega)
    obtain ⟨e, he⟩ : ∃ e, e = k - L - 1 := ⟨_, rfl⟩
    have e1 : k - L = e + 1 := by omega
    have e2 : k - (L + 1) = e := by omega
    rw [e2] at hy hx ⊢
    rw [e1] at ihL
    have he4 : e ≤ 4 := by omega
    obtain ⟨p1, p2, p3, p4, p5⟩ := tt_pw e (by omega)
    have hyk : y * 2 ^ e + 2 ^ e ≤ 4 ^ e := by
      have : (y + 1) * 2 ^ e ≤ 2 ^ e * 2 ^ e := Nat.mul_le_mul_right _ hy
      rw [Nat.succ_mul, p4] at this
      exact this
    have d2 : 2 ^ (e + 1) = 2 * 2 ^ e := by rw [Nat.pow_succ, Nat.mul_comm]
    have m1 : (y * 2 ^ e + x) % 2 ^ e = x := by rw [Nat.mul_comm, Nat.mul_add_mod, Nat.mod_eq_of_lt hx]
    have m2 : (y * 2 ^ e + x) / 2 ^ e = y := by rw [Nat.mul_comm, Nat.mul_add_div (by omega), Nat.div_eq_of_lt hx, Nat.add_zero]
    have g1 : tq_arr h k (L + 1) (st4 e + (y * 2 ^ e + x)) = tt_ffv (tq_arr h k L) e (y * 2 ^ e + x) := by
      show tt_ffp (tq_arr h k L) (k - L - 1) (4 ^ (k - L - 1)) _ = _
      rw [← he]
      unfold tt_ffp
      rw [if_pos (by omega), Nat.add_sub_cancel_left]
    have g2 : mm_hs m k (L + 1) (y * 2 ^ e + x) = mm_hv (mm_hs m k L) e (y * 2 ^ e + x) := by
      show mm_hp (mm_hs m k L) (k - L - 1) (4 ^ (k - L - 1)) _ = _
      rw [← he]
      unfold mm_hp
      rw [if_pos (by omega)]
    have r : ∀ a b : Nat, a < 2 → b < 2 → tt_at (tq_arr h k L) (nI (2 ^ (e + 1))) (nI (2 * x + b)) (nI (2 * y + a)) = mm_hs m k L ((2 * y + a) * 2 ^ (e + 1) + 2 * x + b) ∧ cq (mm_hs m k L ((2 * y + a) * 2 ^ (e + 1) + 2 * x + b)) := by
      intro a b ha hb
      have q := ihL (2 * y + a) (2 * x + b) (by omega) (by omega)
      rw [tt_atN (by omega) (by omega) (by omega), Nat.add_assoc (st4 (e + 1)), Nat.add_assoc _ (2 * x) b]
      exact q
    rw [g1, g2]
    unfold tt_ffv mm_hv
    rw [m1, m2, ← d2]
    unfold tt_m4
    rw [nI_1, nI_1]
    have r00 := r 0 0 (by decide) (by decide)
    have r01 := r 0 1 (by decide) (by decide)
    have r10 := r 1 0 (by decide) (by decide)
    have r11 := r 1 1 (by decide) (by decide)
    rw [show tt_at (tq_arr h k L) (nI (2 ^ (e + 1))) (nI (2 * x)) (nI (2 * y)) = _ from r00.1, show tt_at (tq_arr h k L) (nI (2 ^ (e + 1))) (nI (2 * x + 1)) (nI (2 * y)) = _ from r01.1, show tt_at (tq_arr h k L) (nI (2 ^ (e + 1))) (nI (2 * x)) (nI (2 * y + 1)) = _ from r10.1, r11.1]
    exact nq_mean r00.2 r01.2 r10.2 r11.2
/-- a texel of a level, on both sides -/
theorem tq_lev {h m : Nat → Int32} {k : Nat} (hk : k ≤ 5) (h0 : ∀ n, n < 4 ^ k → h (st4 k + n) = m n ∧ cq (m n)) {L : Nat} (hL : L ≤ k) {y x : Nat} (hy : y < 2 ^ (k - L)) (hx : x < 2 ^ (k - L)) :
    tt_at (tt_fl h k) (nI (2 ^ (k - L))) (nI x) (nI y) = mm_hs m k L (y * 2 ^ (k - L) + x) ∧ cq (mm_hs m k L (y * 2 ^ (k - L) + x)) := by
  have q := tq_rel hk h0 L hL y x hy hx
  rw [tt_atN (by omega) hx hy, tq_fl h k L hL, tt_flk (k - L) _ _ (by omega), Nat.add_assoc]
  exact q
theorem tq_shr {k L : Nat} (hk : k ≤ 5) (hL : L ≤ k) : nI (2 ^ k) >>> (nI L &&& 31) = nI (2 ^ (k - L)) := by
  obtain ⟨p1, -, -, -, -⟩ := tt_pw k hk
  have hs : ((nI L &&& 31).toBitVec.smod 32).toNat = L := by
    match L, (show L ≤ 5 by omega) with
    | 0, _ => decide
    | 1, _ => decide
    | 2, _ => decide
    | 3, _ => decide
    | 4, _ => decide
    | 5, _ => decide
    | L + 6, h => exact absurd h (by omega)
  rw [pk_shrN (by omega) _ L hs, Nat.pow_div hL (by decide)]
theorem cn_num {x : Int32} : tt_isNum x = 0 ↔ mm_isNum x = 0 := by
  unfold tt_isNum mm_isNum
  by_cases h1 : x < 0
  · rw [if_pos h1, if_pos h1]
  · obtain ⟨n, hn, rfl⟩ := nI_of h1
    rw [if_neg h1, if_neg h1]
    by_cases h2 : n < 256
    · rw [if_neg (show ¬ (255 : Int32) < nI n from nI_nlt (a := 255) (by omega) (by decide)), if_neg (show ¬ (256 : Int32) ≤ nI n from nI_ge (b := 256) h2 (by decide))]
    · rw [if_pos (show (255 : Int32) < nI n from nI_lt (a := 255) (by omega) hn), if_pos (show (256 : Int32) ≤ nI n from nI_le (a := 256) (by omega) hn)]
theorem cn_num2 {x : Int32} (h : ¬ tt_isNum x = 0) : ∃ n : Nat, n < 256 ∧ x = nI n := by
  unfold tt_isNum at h
  by_cases h1 : x < 0
  · rw [if_pos h1] at h
    exact absurd rfl h
  · obtain ⟨n, hn, rfl⟩ := nI_of h1
    refine ⟨n, ?_, rfl⟩
    rcases Nat.lt_or_ge n 256 with q | q
    · exact q
    · rw [if_neg h1, if_pos (show (255 : Int32) < nI n from nI_lt (a := 255) (by omega) hn)] at h
      exact absurd rfl h
theorem cn_col {r g b : Int32} (hr : ¬ tt_isNum r = 0) (hg : ¬ tt_isNum g = 0) (hb : ¬ tt_isNum b = 0) : tt_col r g b = r * 65536 + g * 256 + b ∧ cq (r * 65536 + g * 256 + b) := by
  obtain ⟨r, h1, rfl⟩ := cn_num2 hr
  obtain ⟨g, h2, rfl⟩ := cn_num2 hg
  obtain ⟨b, h3, rfl⟩ := cn_num2 hb
  rw [nq_col h1 h2 h3, show (65536 : Int32) = nI 65536 from rfl, show (256 : Int32) = nI 256 from rfl, pk_mul, pk_mul, nI_add, nI_add]
  exact ⟨rfl, _, by omega, rfl⟩
theorem cn_bc : ∀ n, n < 33 → 1 ≤ n → (tt_bc (nI n) = 1 ↔ n = 1 ∨ n = 2 ∨ n = 4 ∨ n = 8 ∨ n = 16 ∨ n = 32) := by decide +kernel
theorem cn_side {s : Int32} : ¬ tt_isSide s = 0 ↔ mm_is s := by
  unfold tt_isSide mm_is
  constructor
  · intro h
    by_cases h1 : s < 1
    · rw [if_pos h1] at h
      exact absurd rfl h
    · by_cases h2 : 32 < s
      · rw [if_neg h1, if_pos h2] at h
        exact absurd rfl h
      · have h0 : ¬ s < 0 := fun q => h1 (by
          rw [Int32.lt_iff_toInt_lt] at q ⊢
          have a : (0 : Int32).toInt = 0 := rfl
          have b : (1 : Int32).toInt = 1 := rfl
          omega)
        obtain ⟨n, hn, rfl⟩ := nI_of h0
        have n1 : 1 ≤ n := by
          rcases Nat.lt_or_ge n 1 with q | q
          · exact absurd (show nI n < 1 from nI_lt (b := 1) q (by decide)) h1
          · exact q
        have n2 : n < 33 := by
          rcases Nat.lt_or_ge n 33 with q | q
          · exact q
          · exact absurd (show (32 : Int32) < nI n from nI_lt (a := 32) (by omega) hn) h2
        rw [if_neg h1, if_neg h2] at h
        by_cases h3 : tt_bc (nI n) = 1
        · rcases (cn_bc n n2 n1).mp h3 with rfl | rfl | rfl | rfl | rfl | rfl
          · exact Or.inl rfl
          · exact Or.inr (Or.inl rfl)
          · exact Or.inr (Or.inr (Or.inl rfl))
          · exact Or.inr (Or.inr (Or.inr (Or.inl rfl)))
          · exact Or.inr (Or.inr (Or.inr (Or.inr (Or.inl rfl))))
          · exact Or.inr (Or.inr (Or.inr (Or.inr (Or.inr rfl))))
        · rw [if_neg h3] at h
          exact absurd rfl h
  · rintro (rfl | rfl | rfl | rfl | rfl | rfl) <;> decide
theorem cn_pow {s : Int32} (h : mm_is s) : ∃ k : Nat, k ≤ 5 ∧ s = nI (2 ^ k) := by
  rcases h with rfl | rfl | rfl | rfl | rfl | rfl
  · exact ⟨0, by decide, rfl⟩
  · exact ⟨1, by decide, rfl⟩
  · exact ⟨2, by decide, rfl⟩
  · exact ⟨3, by decide, rfl⟩
  · exact ⟨4, by decide, rfl⟩
  · exact ⟨5, by decide, rfl⟩
theorem cn_wrap {w : Int32} : ¬ tt_isWrap w = 0 ↔ (w = 0 ∨ w = 1 ∨ w = 2) := by
  unfold tt_isWrap
  constructor
  · intro h
    by_cases h0 : w = 0
    · exact Or.inl h0
    · by_cases h1 : w = 1
      · exact Or.inr (Or.inl h1)
      · by_cases h2 : w = 2
        · exact Or.inr (Or.inr h2)
        · rw [if_neg h0, if_neg h1, if_neg h2] at h
          exact absurd rfl h
  · rintro (rfl | rfl | rfl) <;> decide
theorem cn_wrap2 {w : Int32} (h1 : ¬ w < 0) (h2 : ¬ 2 < w) : w = 0 ∨ w = 1 ∨ w = 2 := by
  obtain ⟨n, hn, rfl⟩ := nI_of h1
  have : n < 3 := by
    rcases Nat.lt_or_ge n 3 with q | q
    · exact q
    · exact absurd (show (2 : Int32) < nI n from nI_lt (a := 2) (by omega) hn) h2
  match n, this with
  | 0, _ => exact Or.inl rfl
  | 1, _ => exact Or.inr (Or.inl rfl)
  | 2, _ => exact Or.inr (Or.inr rfl)
  | n + 3, h => exact absurd h (by omega)
theorem cn_soft {w : Int32} : ¬ tt_isSoft w = 0 ↔ (w = 0 ∨ w = 1) := by
  unfold tt_isSoft
  constructor
  · intro h
    by_cases h0 : w = 0
    · exact Or.inl h0
    · by_cases h1 : w = 1
      · exact Or.inr h1
      · rw [if_neg h0, if_neg h1] at h
        exact absurd rfl h
  · rintro (rfl | rfl) <;> decide
theorem cn_soft2 {w : Int32} (h1 : ¬ w < 0) (h2 : ¬ 1 < w) : w = 0 ∨ w = 1 := by
  obtain ⟨n, hn, rfl⟩ := nI_of h1
  have : n < 2 := by
    rcases Nat.lt_or_ge n 2 with q | q
    · exact q
    · exact absurd (show (1 : Int32) < nI n from nI_lt (a := 1) (by omega) hn) h2
  match n, this with
  | 0, _ => exact Or.inl rfl
  | 1, _ => exact Or.inr rfl
  | n + 2, h => exact absurd h (by omega)
theorem cn_has {mn t : Int32} : tt_has mn t = 0 ↔ (t < 0 ∨ mn ≤ t) := by
  unfold tt_has
  by_cases h1 : t < 0
  · rw [if_pos h1]
    exact ⟨fun _ => Or.inl h1, fun _ => rfl⟩
  · by_cases h2 : mn ≤ t
    · rw [if_neg h1, if_pos h2]
      exact ⟨fun _ => Or.inr h2, fun _ => rfl⟩
    · rw [if_neg h1, if_neg h2]
      exact ⟨fun h => absurd h (by decide), fun h => h.elim (fun q => absurd q h1) (fun q => absurd q h2)⟩
theorem cn_there {C : Nat} (hC : C ≤ 8) {t : Int32} (h : ¬ (t < 0 ∨ nI C ≤ t)) : ∃ j : Nat, j < C ∧ t = nI j := by
  obtain ⟨j, hj, rfl⟩ := nI_of (fun q => h (Or.inl q))
  refine ⟨j, ?_, rfl⟩
  rcases Nat.lt_or_ge j C with q | q
  · exact q
  · exact absurd (Or.inr (nI_le q hj)) h
theorem cn_colour {c : Int32} : tt_isCol c = 0 ↔ (c < 0 ∨ 16777216 ≤ c) := by
  unfold tt_isCol
  by_cases h1 : c < 0
  · rw [if_pos h1]
    exact ⟨fun _ => Or.inl h1, fun _ => rfl⟩
  · obtain ⟨n, hn, rfl⟩ := nI_of h1
    rw [if_neg h1]
    by_cases h2 : n < 16777216
    · rw [if_neg (show ¬ (16777215 : Int32) < nI n from nI_nlt (a := 16777215) (by omega) (by decide))]
      exact ⟨fun h => absurd h (by decide), fun h => h.elim (fun q => absurd q h1) (fun q => absurd q (show ¬ (16777216 : Int32) ≤ nI n from nI_ge (b := 16777216) h2 (by decide)))⟩
    · rw [if_pos (show (16777215 : Int32) < nI n from nI_lt (a := 16777215) (by omega) hn)]
      exact ⟨fun _ => Or.inr (show (16777216 : Int32) ≤ nI n from nI_le (a := 16777216) (by omega) hn), fun _ => rfl⟩
theorem cn_cq {c : Int32} (h : ¬ (c < 0 ∨ 16777216 ≤ c)) : cq c := by
  obtain ⟨n, hn, rfl⟩ := nI_of (fun q => h (Or.inl q))
  refine ⟨n, ?_, rfl⟩
  rcases Nat.lt_or_ge n 16777216 with q | q
  · exact q
  · exact absurd (Or.inr (show (16777216 : Int32) ≤ nI n from nI_le (a := 16777216) q hn)) h
theorem cn_light {li : Int32} : li.toInt64 ≤ 65536 ↔ ¬ 65536 < li := by
  rw [Int64.le_iff_toInt_le, Int32.lt_iff_toInt_lt, Int32.toInt_toInt64]
  have a : (65536 : Int64).toInt = 65536 := by decide
  have b : (65536 : Int32).toInt = 65536 := by decide
  omega
theorem cn_light2 {li : Int32} (h1 : ¬ li < 0) (h2 : ¬ 65536 < li) : ∃ q : Nat, q ≤ 65536 ∧ li = nI q := by
  obtain ⟨n, hn, rfl⟩ := nI_of h1
  refine ⟨n, ?_, rfl⟩
  rcases Nat.lt_or_ge 65536 n with q | q
  · exact absurd (show (65536 : Int32) < nI n from nI_lt (a := 65536) q hn) h2
  · exact q
