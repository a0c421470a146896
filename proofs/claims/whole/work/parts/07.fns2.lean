def tt_soft2 (c1 c2 c3 c4 : Int32) (g k : Int64) : Int32 := tt_col (tt_sn (tt_mix c1 c2 g 16) (tt_mix c3 c4 g 16) k) (tt_sn (tt_mix c1 c2 g 8) (tt_mix c3 c4 g 8) k) (tt_sn (tt_mix c1 c2 g 0) (tt_mix c3 c4 g 0) k)
def tt_soft (w : Int32) (g : Nat → Int32) (s : Int32) (a b : Int64) : Int32 :=
  tt_soft2 (tt_at g s (tt_wrap w (fd_l a 65536) s) (tt_wrap w (fd_l b 65536) s)) (tt_at g s (tt_wrap w (fd_l a 65536 + 1) s) (tt_wrap w (fd_l b 65536) s)) (tt_at g s (tt_wrap w (fd_l a 65536) s) (tt_wrap w (fd_l b 65536 + 1) s)) (tt_at g s (tt_wrap w (fd_l a 65536 + 1) s) (tt_wrap w (fd_l b 65536 + 1) s)) (fd_l (a - 65536 * fd_l a 65536) 256) (fd_l (b - 65536 * fd_l b 65536) 256)
def tt_cat (w sf : Int32) (g : Nat → Int32) (s : Int32) (u v : Int64) : Int32 :=
  if sf = 1 then tt_soft w g s (u * s.toInt64 - 32768) (v * s.toInt64 - 32768)
  else tt_at g s (tt_wrap w (fd_l (u * s.toInt64) 65536) s) (tt_wrap w (fd_l (v * s.toInt64) 65536) s)
/-- levelFor's loop: at most n rounds -/
def tt_lf (tex : Int64) (last : Int32) : Nat → Int64 → Int32 → Int32
  | 0, _, _ => last
  | n + 1, room, i => if last ≤ i then last else if room < tex then tt_lf tex last n (room * 4) (i + 1) else i
theorem tt_sw3 {x : Int32} (h0 : ¬ x = 0) (h1 : ¬ x = 1) (h2 : ¬ x = 2) (h3 : ¬ x = 3) : x.toInt < 0 ∨ 3 < x.toInt := by
  have a0 := lv_neT (k := 0) (a := 0) h0 rfl
  have a1 := lv_neT (k := 1) (a := 1) h1 rfl
  have a2 := lv_neT (k := 2) (a := 2) h2 rfl
  have a3 := lv_neT (k := 3) (a := 3) h3 rfl
  omega
