/-! what the class's small methods answer, as their code goes -/
def tt_isNum (x : Int32) : Int32 := if x < 0 then 0 else if 255 < x then 0 else 1
def tt_isCol (x : Int32) : Int32 := if x < 0 then 0 else if 16777215 < x then 0 else 1
def tt_ush (x n : Int32) : Int32 := (x.toUInt32 >>> (n.toUInt32 &&& Int32.toUInt32 31)).toInt32
def tt_b1 (i : Int32) : Int32 := i - (tt_ush i 1 &&& 1431655765)
def tt_b2 (i : Int32) : Int32 := (i &&& 858993459) + (tt_ush i 2 &&& 858993459)
def tt_b3 (i : Int32) : Int32 := (i + tt_ush i 4) &&& 252645135
def tt_b4 (i : Int32) : Int32 := i + tt_ush i 8
def tt_b5 (i : Int32) : Int32 := i + tt_ush i 16
def tt_bc (i : Int32) : Int32 := tt_b5 (tt_b4 (tt_b3 (tt_b2 (tt_b1 i)))) &&& 63
def tt_isSide (x : Int32) : Int32 := if x < 1 then 0 else if 32 < x then 0 else if tt_bc x = 1 then 1 else 0
def tt_isWrap (x : Int32) : Int32 := if x = 0 then 1 else if x = 1 then 1 else if x = 2 then 1 else 0
def tt_isSoft (x : Int32) : Int32 := if x = 0 then 1 else if x = 1 then 1 else 0
def tt_isPlace (x : Int32) : Int32 := if x < -16777216 then 0 else if 16777216 < x then 0 else 1
def tt_col (r g b : Int32) : Int32 := ((r <<< ((16 : Int32) &&& 31)) + (g <<< ((8 : Int32) &&& 31))) + (b <<< ((0 : Int32) &&& 31))
def tt_num (c sh : Int32) : Int64 := ((c >>> (sh &&& 31)) &&& 255).toInt64
/-- Math.floorDiv of longs -/
def fd_l (x y : Int64) : Int64 := if 0 ≤ x ^^^ y then x / y else if x / y * y = x then x / y else x / y - 1
def tt_litN (c t li sh : Int32) : Int32 := (fd_l (fd_l (tt_num c sh * tt_num t sh) 255 * li.toInt64) 65536).toInt32
def tt_start (s : Int32) : Int32 := (s * s - 1) / 3
def tt_has (lv x : Int32) : Int32 := if x < 0 then 0 else if lv ≤ x then 0 else 1
def tt_at (g : Nat → Int32) (s x y : Int32) : Int32 := if 32 < s then -1 else if x < 0 then -1 else if s ≤ x then -1 else if y < 0 then -1 else if y < s then g ((tt_start s + y * s) + x).toNatClampNeg else -1
theorem tt_idx {s x y : Int32} (h1 : ¬ 32 < s) (h2 : ¬ x < 0) (h3 : ¬ s ≤ x) (h4 : ¬ y < 0) (h5 : y < s) : vp_in ((tt_start s + y * s) + x) 1365 := by
  obtain ⟨a, ha, rfl⟩ := nI_of h2
  obtain ⟨b, hb, rfl⟩ := nI_of h4
  have hs0 : ¬ s < 0 := fun h => h3 (by
    rw [Int32.le_iff_toInt_le]
    rw [Int32.lt_iff_toInt_lt] at h
    have := nI_toInt ha
    have h0 : (0 : Int32).toInt = 0 := rfl
    omega)
  obtain ⟨k, hk, rfl⟩ := nI_of hs0
  have k32 : k ≤ 32 := by
    rcases Nat.lt_or_ge 32 k with q | q
    · exact absurd (show (32 : Int32) < nI k from nI_lt (a := 32) q hk) h1
    · exact q
  have hak : a < k := by
    rcases Nat.lt_or_ge a k with q | q
    · exact q
    · exact absurd (nI_le q ha) h3
  have hbk : b < k := (nI_ltI hb hk).mp h5
  have hkk : k * k ≤ 1024 := Nat.mul_le_mul k32 k32
  have hbk2 : b * k + k ≤ k * k := by
    have : (b + 1) * k ≤ k * k := Nat.mul_le_mul_right k hbk
    rw [Nat.succ_mul] at this
    exact this
  have hk1 : 1 ≤ k * k := Nat.mul_pos (by omega) (by omega)
  have e1 : tt_start (nI k) = nI ((k * k - 1) / 3) := by
    unfold tt_start
    rw [pk_mul, show (1 : Int32) = nI 1 from rfl, pk_sub hk1, show (3 : Int32) = nI 3 from rfl, pk_div (by omega) (by omega) (by omega)]
  rw [e1, pk_mul, nI_add, nI_add]
  exact vp_in_nI (by omega) (by omega)
def tt_mn (c1 c2 c3 c4 sh : Int32) : Int32 := (fd_l (((tt_num c1 sh + tt_num c2 sh) + tt_num c3 sh) + tt_num c4 sh) 4).toInt32
def tt_mean (c1 c2 c3 c4 : Int32) : Int32 := tt_col (tt_mn c1 c2 c3 c4 16) (tt_mn c1 c2 c3 c4 8) (tt_mn c1 c2 c3 c4 0)
def tt_m4 (g : Nat → Int32) (s x y : Int32) : Int32 := tt_mean (tt_at g s x y) (tt_at g s (x + 1) y) (tt_at g s x (y + 1)) (tt_at g s (x + 1) (y + 1))
def tt_mix (c1 c2 : Int32) (g : Int64) (sh : Int32) : Int64 := tt_num c1 sh * (256 - g) + tt_num c2 sh * g
def tt_sn (up lo k : Int64) : Int32 := (fd_l (up * (256 - k) + lo * k) 65536).toInt32
def tt_wrap (w : Int32) (n : Int64) (s : Int32) : Int32 :=
  if w = 0 then (n &&& (s - 1).toInt64).toInt32
  else if w = 1 then (if (if s.toInt64 - 1 < n then s.toInt64 - 1 else n) < 0 then 0 else (if s.toInt64 - 1 < n then s.toInt64 - 1 else n)).toInt32
  else if (n &&& (2 * s - 1).toInt64).toInt32 < s then (n &&& (2 * s - 1).toInt64).toInt32
  else (2 * s - 1) - (n &&& (2 * s - 1).toInt64).toInt32
