theorem nq_cv {p q G : Nat} (hp : p ≤ 255) (hq : q ≤ 255) (hG : G ≤ 256) : p * (256 - G) + q * G ≤ 65280 := by
  have h1 : p * (256 - G) ≤ 255 * (256 - G) := Nat.mul_le_mul_right _ hp
  have h2 : q * G ≤ 255 * G := Nat.mul_le_mul_right _ hq
  omega
theorem nq_cv2 {U V K : Nat} (hU : U ≤ 65280) (hV : V ≤ 65280) (hK : K ≤ 256) : U * (256 - K) + V * K ≤ 16711680 := by
  have h1 : U * (256 - K) ≤ 65280 * (256 - K) := Nat.mul_le_mul_right _ hU
  have h2 : V * K ≤ 65280 * K := Nat.mul_le_mul_right _ hV
  omega
theorem nq_256 {G : Nat} (h : G ≤ 255) : (256 : Int64) - lN G = lN (256 - G) := by
  rw [show (256 : Int64) = lN 256 from rfl, lN_sub (by omega)]
theorem nq_sn {U V K : Nat} (hU : U ≤ 65280) (hV : V ≤ 65280) (hK : K ≤ 255) : tt_sn (lN U) (lN V) (lN K) = nI ((U * (256 - K) + V * K) / 65536) := by
  have := nq_cv2 hU hV (show K ≤ 256 by omega)
  unfold tt_sn
  rw [nq_256 hK, lN_mul, lN_mul, lN_add, show (65536 : Int64) = lN 65536 from rfl, nq_fd (by omega) (by decide) (by decide), lN_i]
theorem nq_mix16 {a b G : Nat} (ha : a < 16777216) (hb : b < 16777216) (hG : G ≤ 255) : tt_mix (nI a) (nI b) (lN G) 16 = lN ((a / 65536 % 256) * (256 - G) + (b / 65536 % 256) * G) := by
  unfold tt_mix
  rw [nq_num16 ha, nq_num16 hb, nq_256 hG, lN_mul, lN_mul, lN_add]
theorem nq_ss0 {a b c d G K : Nat} (ha : a < 16777216) (hb : b < 16777216) (hc : c < 16777216) (hd : d < 16777216) (hG : G ≤ 255) (hK : K ≤ 255) : (mm_ss (nI a) (nI b) (nI c) (nI d) (lN G) (lN K) 0 / 65536).toInt32 = nI ((((a / 65536 % 256) * (256 - G) + (b / 65536 % 256) * G) * (256 - K) + ((c / 65536 % 256) * (256 - G) + (d / 65536 % 256) * G) * K) / 65536) := by
  have hu := nq_cv (p := a / 65536 % 256) (q := b / 65536 % 256) (G := G) (by omega) (by omega) (by omega)
  have hv := nq_cv (p := c / 65536 % 256) (q := d / 65536 % 256) (G := G) (by omega) (by omega) (by omega)
  have hb9 := nq_cv2 hu hv (show K ≤ 256 by omega)
  unfold mm_ss
  rw [nq_part0 ha, nq_part0 hb, nq_part0 hc, nq_part0 hd, nI_l (by omega), nI_l (by omega), nI_l (by omega), nI_l (by omega), nq_256 hG, nq_256 hK, lN_mul, lN_mul, lN_mul, lN_mul, lN_mul, lN_mul, lN_mul, lN_mul, show (0 : Int64) = lN 0 from rfl, lN_add, lN_add, lN_add, lN_add, show (65536 : Int64) = lN 65536 from rfl]
  have e9 : 0 + (a / 65536 % 256) * (256 - G) * (256 - K) + (b / 65536 % 256) * G * (256 - K) + (c / 65536 % 256) * (256 - G) * K + (d / 65536 % 256) * G * K = ((a / 65536 % 256) * (256 - G) + (b / 65536 % 256) * G) * (256 - K) + ((c / 65536 % 256) * (256 - G) + (d / 65536 % 256) * G) * K := by
    rw [Nat.add_mul, Nat.add_mul]
    omega
  rw [e9, pk_lDiv (by omega) (by decide) (by decide), lN_i]
theorem nq_mix8 {a b G : Nat} (ha : a < 16777216) (hb : b < 16777216) (hG : G ≤ 255) : tt_mix (nI a) (nI b) (lN G) 8 = lN ((a / 256 % 256) * (256 - G) + (b / 256 % 256) * G) := by
  unfold tt_mix
  rw [nq_num8 ha, nq_num8 hb, nq_256 hG, lN_mul, lN_mul, lN_add]
theorem nq_ss1 {a b c d G K : Nat} (ha : a < 16777216) (hb : b < 16777216) (hc : c < 16777216) (hd : d < 16777216) (hG : G ≤ 255) (hK : K ≤ 255) : (mm_ss (nI a) (nI b) (nI c) (nI d) (lN G) (lN K) 1 / 65536).toInt32 = nI ((((a / 256 % 256) * (256 - G) + (b / 256 % 256) * G) * (256 - K) + ((c / 256 % 256) * (256 - G) + (d / 256 % 256) * G) * K) / 65536) := by
  have hu := nq_cv (p := a / 256 % 256) (q := b / 256 % 256) (G := G) (by omega) (by omega) (by omega)
  have hv := nq_cv (p := c / 256 % 256) (q := d / 256 % 256) (G := G) (by omega) (by omega) (by omega)
  have hb9 := nq_cv2 hu hv (show K ≤ 256 by omega)
  unfold mm_ss
  rw [nq_part1 ha, nq_part1 hb, nq_part1 hc, nq_part1 hd, nI_l (by omega), nI_l (by omega), nI_l (by omega), nI_l (by omega), nq_256 hG, nq_256 hK, lN_mul, lN_mul, lN_mul, lN_mul, lN_mul, lN_mul, lN_mul, lN_mul, show (0 : Int64) = lN 0 from rfl, lN_add, lN_add, lN_add, lN_add, show (65536 : Int64) = lN 65536 from rfl]
  have e9 : 0 + (a / 256 % 256) * (256 - G) * (256 - K) + (b / 256 % 256) * G * (256 - K) + (c / 256 % 256) * (256 - G) * K + (d / 256 % 256) * G * K = ((a / 256 % 256) * (256 - G) + (b / 256 % 256) * G) * (256 - K) + ((c / 256 % 256) * (256 - G) + (d / 256 % 256) * G) * K := by
    rw [Nat.add_mul, Nat.add_mul]
    omega
  rw [e9, pk_lDiv (by omega) (by decide) (by decide), lN_i]
theorem nq_mix0 {a b G : Nat} (ha : a < 16777216) (hb : b < 16777216) (hG : G ≤ 255) : tt_mix (nI a) (nI b) (lN G) 0 = lN ((a % 256) * (256 - G) + (b % 256) * G) := by
  unfold tt_mix
  rw [nq_num0 ha, nq_num0 hb, nq_256 hG, lN_mul, lN_mul, lN_add]
theorem nq_ss2 {a b c d G K : Nat} (ha : a < 16777216) (hb : b < 16777216) (hc : c < 16777216) (hd : d < 16777216) (hG : G ≤ 255) (hK : K ≤ 255) : (mm_ss (nI a) (nI b) (nI c) (nI d) (lN G) (lN K) 2 / 65536).toInt32 = nI ((((a % 256) * (256 - G) + (b % 256) * G) * (256 - K) + ((c % 256) * (256 - G) + (d % 256) * G) * K) / 65536) := by
  have hu := nq_cv (p := a % 256) (q := b % 256) (G := G) (by omega) (by omega) (by omega)
  have hv := nq_cv (p := c % 256) (q := d % 256) (G := G) (by omega) (by omega) (by omega)
  have hb9 := nq_cv2 hu hv (show K ≤ 256 by omega)
  unfold mm_ss
  rw [nq_part2 ha, nq_part2 hb, nq_part2 hc, nq_part2 hd, nI_l (by omega), nI_l (by omega), nI_l (by omega), nI_l (by omega), nq_256 hG, nq_256 hK, lN_mul, lN_mul, lN_mul, lN_mul, lN_mul, lN_mul, lN_mul, lN_mul, show (0 : Int64) = lN 0 from rfl, lN_add, lN_add, lN_add, lN_add, show (65536 : Int64) = lN 65536 from rfl]
  have e9 : 0 + (a % 256) * (256 - G) * (256 - K) + (b % 256) * G * (256 - K) + (c % 256) * (256 - G) * K + (d % 256) * G * K = ((a % 256) * (256 - G) + (b % 256) * G) * (256 - K) + ((c % 256) * (256 - G) + (d % 256) * G) * K := by
    rw [Nat.add_mul, Nat.add_mul]
    omega
  rw [e9, pk_lDiv (by omega) (by decide) (by decide), lN_i]
theorem nq_soft2 {c1 c2 c3 c4 : Int32} (h1 : cq c1) (h2 : cq c2) (h3 : cq c3) (h4 : cq c4) {G K : Nat} (hG : G ≤ 255) (hK : K ≤ 255) : tt_soft2 c1 c2 c3 c4 (lN G) (lN K) = mm_soft2 c1 c2 c3 c4 (lN G) (lN K) := by
  obtain ⟨a, ha, rfl⟩ := h1
  obtain ⟨b, hb, rfl⟩ := h2
  obtain ⟨c, hc, rfl⟩ := h3
  obtain ⟨d, hd, rfl⟩ := h4
  have u16 := nq_cv (p := a / 65536 % 256) (q := b / 65536 % 256) (G := G) (by omega) (by omega) (by omega)
  have v16 := nq_cv (p := c / 65536 % 256) (q := d / 65536 % 256) (G := G) (by omega) (by omega) (by omega)
  have b16 := nq_cv2 u16 v16 (show K ≤ 256 by omega)
  have u8 := nq_cv (p := a / 256 % 256) (q := b / 256 % 256) (G := G) (by omega) (by omega) (by omega)
  have v8 := nq_cv (p := c / 256 % 256) (q := d / 256 % 256) (G := G) (by omega) (by omega) (by omega)
  have b8 := nq_cv2 u8 v8 (show K ≤ 256 by omega)
  have u0 := nq_cv (p := a % 256) (q := b % 256) (G := G) (by omega) (by omega) (by omega)
  have v0 := nq_cv (p := c % 256) (q := d % 256) (G := G) (by omega) (by omega) (by omega)
  have b0 := nq_cv2 u0 v0 (show K ≤ 256 by omega)
  unfold tt_soft2 mm_soft2
  rw [nq_mix16 ha hb hG, nq_mix16 hc hd hG, nq_mix8 ha hb hG, nq_mix8 hc hd hG, nq_mix0 ha hb hG, nq_mix0 hc hd hG, nq_sn u16 v16 hK, nq_sn u8 v8 hK, nq_sn u0 v0 hK, nq_ss0 ha hb hc hd hG hK, nq_ss1 ha hb hc hd hG hK, nq_ss2 ha hb hc hd hG hK]
  obtain ⟨X, hX⟩ : ∃ X : Nat, X = (((a / 65536 % 256) * (256 - G) + (b / 65536 % 256) * G) * (256 - K) + ((c / 65536 % 256) * (256 - G) + (d / 65536 % 256) * G) * K) / 65536 := ⟨_, rfl⟩
  obtain ⟨Y, hY⟩ : ∃ Y : Nat, Y = (((a / 256 % 256) * (256 - G) + (b / 256 % 256) * G) * (256 - K) + ((c / 256 % 256) * (256 - G) + (d / 256 % 256) * G) * K) / 65536 := ⟨_, rfl⟩
  obtain ⟨Z, hZ⟩ : ∃ Z : Nat, Z = (((a % 256) * (256 - G) + (b % 256) * G) * (256 - K) + ((c % 256) * (256 - G) + (d % 256) * G) * K) / 65536 := ⟨_, rfl⟩
  rw [← hX, ← hY, ← hZ, nq_col (by omega) (by omega) (by omega), show (0 : Int32) = nI 0 from rfl, nI_add, show (256 : Int32) = nI 256 from rfl, pk_mul, nI_add, pk_mul, nI_add]
  exact congrArg nI (by omega)
theorem nq_lit16 {a b q : Nat} (ha : a < 16777216) (hb : b < 16777216) (hq : q ≤ 65536) : tt_litN (nI a) (nI b) (nI q) 16 = nI ((a / 65536 % 256) * (b / 65536 % 256) / 255 * q / 65536) ∧ mm_ln (nI a) (nI b) (nI q) 0 = nI ((a / 65536 % 256) * (b / 65536 % 256) / 255 * q / 65536) ∧ (a / 65536 % 256) * (b / 65536 % 256) / 255 * q / 65536 < 256 := by
  have h1 : (a / 65536 % 256) * (b / 65536 % 256) ≤ 255 * 255 := Nat.mul_le_mul (by omega) (by omega)
  have h2 : (a / 65536 % 256) * (b / 65536 % 256) / 255 * q ≤ 255 * 65536 := Nat.mul_le_mul (by omega) hq
  refine ⟨?_, ?_, by omega⟩
  · unfold tt_litN
    rw [nq_num16 ha, nq_num16 hb, lN_mul, show (255 : Int64) = lN 255 from rfl, nq_fd (by omega) (by decide) (by decide), nI_l (by omega), lN_mul, show (65536 : Int64) = lN 65536 from rfl, nq_fd (by omega) (by decide) (by decide), lN_i]
  · unfold mm_ln
    rw [nq_part0 ha, nq_part0 hb, pk_mul, show (255 : Int32) = nI 255 from rfl, pk_div (by omega) (by decide) (by decide), nI_l (by omega), nI_l (by omega), lN_mul, show (65536 : Int64) = lN 65536 from rfl, pk_lDiv (by omega) (by decide) (by decide), lN_i]
theorem nq_lit8 {a b q : Nat} (ha : a < 16777216) (hb : b < 16777216) (hq : q ≤ 65536) : tt_litN (nI a) (nI b) (nI q) 8 = nI ((a / 256 % 256) * (b / 256 % 256) / 255 * q / 65536) ∧ mm_ln (nI a) (nI b) (nI q) 1 = nI ((a / 256 % 256) * (b / 256 % 256) / 255 * q / 65536) ∧ (a / 256 % 256) * (b / 256 % 256) / 255 * q / 65536 < 256 := by
  have h1 : (a / 256 % 256) * (b / 256 % 256) ≤ 255 * 255 := Nat.mul_le_mul (by omega) (by omega)
  have h2 : (a / 256 % 256) * (b / 256 % 256) / 255 * q ≤ 255 * 65536 := Nat.mul_le_mul (by omega) hq
  refine ⟨?_, ?_, by omega⟩
  · unfold tt_litN
    rw [nq_num8 ha, nq_num8 hb, lN_mul, show (255 : Int64) = lN 255 from rfl, nq_fd (by omega) (by decide) (by decide), nI_l (by omega), lN_mul, show (65536 : Int64) = lN 65536 from rfl, nq_fd (by omega) (by decide) (by decide), lN_i]
  · unfold mm_ln
    rw [nq_part1 ha, nq_part1 hb, pk_mul, show (255 : Int32) = nI 255 from rfl, pk_div (by omega) (by decide) (by decide), nI_l (by omega), nI_l (by omega), lN_mul, show (65536 : Int64) = lN 65536 from rfl, pk_lDiv (by omega) (by decide) (by decide), lN_i]
theorem nq_lit0 {a b q : Nat} (ha : a < 16777216) (hb : b < 16777216) (hq : q ≤ 65536) : tt_litN (nI a) (nI b) (nI q) 0 = nI ((a % 256) * (b % 256) / 255 * q / 65536) ∧ mm_ln (nI a) (nI b) (nI q) 2 = nI ((a % 256) * (b % 256) / 255 * q / 65536) ∧ (a % 256) * (b % 256) / 255 * q / 65536 < 256 := by
  have h1 : (a % 256) * (b % 256) ≤ 255 * 255 := Nat.mul_le_mul (by omega) (by omega)
  have h2 : (a % 256) * (b % 256) / 255 * q ≤ 255 * 65536 := Nat.mul_le_mul (by omega) hq
  refine ⟨?_, ?_, by omega⟩
  · unfold tt_litN
    rw [nq_num0 ha, nq_num0 hb, lN_mul, show (255 : Int64) = lN 255 from rfl, nq_fd (by omega) (by decide) (by decide), nI_l (by omega), lN_mul, show (65536 : Int64) = lN 65536 from rfl, nq_fd (by omega) (by decide) (by decide), lN_i]
  · unfold mm_ln
    rw [nq_part2 ha, nq_part2 hb, pk_mul, show (255 : Int32) = nI 255 from rfl, pk_div (by omega) (by decide) (by decide), nI_l (by omega), nI_l (by omega), lN_mul, show (65536 : Int64) = lN 65536 from rfl, pk_lDiv (by omega) (by decide) (by decide), lN_i]
theorem nq_lit {a b : Int32} (ha : cq a) (hb : cq b) {q : Nat} (hq : q ≤ 65536) : tt_col (tt_litN a b (nI q) 16) (tt_litN a b (nI q) 8) (tt_litN a b (nI q) 0) = mm_lit a b (nI q) := by
  obtain ⟨a, ha, rfl⟩ := ha
  obtain ⟨b, hb, rfl⟩ := hb
  obtain ⟨x1, x2, x3⟩ := nq_lit16 ha hb hq
  obtain ⟨y1, y2, y3⟩ := nq_lit8 ha hb hq
  obtain ⟨z1, z2, z3⟩ := nq_lit0 ha hb hq
  unfold mm_lit
  rw [x1, x2, y1, y2, z1, z2, nq_col x3 y3 z3, show (0 : Int32) = nI 0 from rfl, nI_add, show (256 : Int32) = nI 256 from rfl, pk_mul, nI_add, pk_mul, nI_add]
  exact congrArg nI (by omega)
