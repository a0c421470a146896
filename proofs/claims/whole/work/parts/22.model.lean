def mm_isNum (x : Int32) : Int32 := if x < 0 then 0 else if 256 ≤ x then 0 else 1
def mm_part (c w : Int32) : Int32 := if w = 0 then c / 65536 else if w = 1 then c / 256 - c / 256 / 256 * 256 else c - c / 256 * 256
def mm_div (a b : Int64) : Int64 := if a / b * b ≤ a then a / b else a / b - 1
def mm_into (si w : Int32) (k : Int64) : Int32 :=
  if w = 0 then (k - si.toInt64 * mm_div k si.toInt64).toInt32
  else if w = 1 then (if 0 ≤ k then (if k < si.toInt64 then k.toInt32 else (si.toInt64 - 1).toInt32) else (0 : Int64).toInt32)
  else if k - 2 * si.toInt64 * mm_div k (2 * si.toInt64) < si.toInt64 then (k - 2 * si.toInt64 * mm_div k (2 * si.toInt64)).toInt32
  else (2 * si.toInt64 - 1 - (k - 2 * si.toInt64 * mm_div k (2 * si.toInt64))).toInt32
set_option maxHeartbeats 4000000 in
set_option maxRecDepth 100000 in
theorem kM_isNumber (l : Launch) (x : Int32) : Met l yM_isNumber wM_isNumber (k2_rm 0 0) (fun v _ => v = ([.int x] : List Value).toArray) (k2_QcV (.int (mm_isNum x))) 0 0 (fun _ => False) := by
  refine Met.ofW (cc := cM_isNumber) (maxL := 1) (ret := (some .boolean)) (by decide) rfl ?_
  intro p e s m args below meth c s₁ B hml hv
  obtain rfl := hv
  have hx := B.exec
  have hb := B.bytes
  have hr := B.returns
  have hB : ∀ w ∈ tbB, w.before _ s = true := fun w h => (atoms_spec (ws := wM_isNumber) B.pre) w (List.mem_cons_of_mem _ h)
  have hown : s.vm.findClass "TextureBankModel" = some m.cls := findClass_of_methodNamed B.named
  have hlocks := B.notSynchronized
  have hl := lv_entry ([.int x]) (n := 1) (Nat.le_of_ble_eq_true rfl)
  rw [lg_entry_eq]
  generalize (lg_sl ([.int x]) ++ List.replicate (1 - (lg_sl ([.int x])).length) Slot.unset).toArray = ls at hl ⊢
  have hl : lv_has ls 1 [(0, .int x)] := hl
  refine lv_iload_n hx hb dM_isNumber_0 rfl (lv_at hl 0 rfl) ?_
  refine lv_if_lt (tgt := 15) hx hb dM_isNumber_1 (by decide) (fun c_1 => ?_) (fun c_1 => ?_)
  · refine lv_iconst (v := 0) hx hb dM_isNumber_15 (by decide) ?_
    exact W.zret hx hb hr rfl (fun t ht _ => ⟨tbI (by unfold mm_isNum; (first | rw [if_pos c_1] | rw [if_neg c_1])), ht⟩) (fun q hq => nomatch hq) dM_isNumber_16
  · refine lv_iload_n hx hb dM_isNumber_4 rfl (lv_at hl 0 rfl) ?_
    refine lv_sipush (v := 256) hx hb dM_isNumber_5 (by decide) ?_
    refine lv_icmp_ge (tgt := 15) hx hb dM_isNumber_8 (by decide) (fun c_2 => ?_) (fun c_2 => ?_)
    · refine lv_iconst (v := 0) hx hb dM_isNumber_15 (by decide) ?_
      exact W.zret hx hb hr rfl (fun t ht _ => ⟨tbI (by unfold mm_isNum; (first | rw [if_pos c_1] | rw [if_neg c_1]); (first | rw [if_pos c_2] | rw [if_neg c_2])), ht⟩) (fun q hq => nomatch hq) dM_isNumber_16
    · refine lv_iconst (v := 1) hx hb dM_isNumber_11 (by decide) ?_
      refine lv_goto (tgt := 16) hx hb dM_isNumber_12 (by decide) ?_
      exact W.zret hx hb hr rfl (fun t ht _ => ⟨tbI (by unfold mm_isNum; (first | rw [if_pos c_1] | rw [if_neg c_1]); (first | rw [if_pos c_2] | rw [if_neg c_2])), ht⟩) (fun q hq => nomatch hq) dM_isNumber_16

set_option maxHeartbeats 4000000 in
set_option maxRecDepth 100000 in
theorem kM_part (l : Launch) (co : Int32) (w : Int32) : Met l yM_part wM_part (k2_rm 0 0) (fun v _ => v = ([.int co, .int w] : List Value).toArray) (k2_QcV (.int (mm_part co w))) 0 0 (fun _ => False) := by
  refine Met.ofW (cc := cM_part) (maxL := 2) (ret := (some .int)) (by decide) rfl ?_
  intro p e s m args below meth c s₁ B hml hv
  obtain rfl := hv
  have hx := B.exec
  have hb := B.bytes
  have hr := B.returns
  have hB : ∀ w ∈ tbB, w.before _ s = true := fun w h => (atoms_spec (ws := wM_part) B.pre) w (List.mem_cons_of_mem _ h)
  have hown : s.vm.findClass "TextureBankModel" = some m.cls := findClass_of_methodNamed B.named
  have hlocks := B.notSynchronized
  have hl := lv_entry ([.int co, .int w]) (n := 2) (Nat.le_of_ble_eq_true rfl)
  rw [lg_entry_eq]
  generalize (lg_sl ([.int co, .int w]) ++ List.replicate (2 - (lg_sl ([.int co, .int w])).length) Slot.unset).toArray = ls at hl ⊢
  have hl : lv_has ls 2 [(0, .int co), (1, .int w)] := hl
  refine lv_iload_n hx hb dM_part_0 rfl (lv_at hl 1 rfl) ?_
  refine lv_if_ne (tgt := 11) hx hb dM_part_1 (by decide) (fun c_1 => ?_) (fun c_1 => ?_)
  · refine lv_iload_n hx hb dM_part_11 rfl (lv_at hl 1 rfl) ?_
    refine lv_iconst (v := 1) hx hb dM_part_12 (by decide) ?_
    refine lv_icmp_ne (tgt := 28) hx hb dM_part_13 (by decide) (fun c_2 => ?_) (fun c_2 => ?_)
    · refine lv_iload_n hx hb dM_part_28 rfl (lv_at hl 0 rfl) ?_
      refine lv_sipush (v := 256) hx hb dM_part_29 (by decide) ?_
      refine lv_irem hx hb dM_part_32 (by decide) ?_
      exact W.iret hx hb hr (fun t ht _ => ⟨tbI (by unfold mm_part; (first | rw [if_pos c_1] | rw [if_neg c_1]); (first | rw [if_pos c_2] | rw [if_neg c_2])), ht⟩) (fun q hq => nomatch hq) dM_part_33
    · refine lv_iload_n hx hb dM_part_16 rfl (lv_at hl 0 rfl) ?_
      refine lv_sipush (v := 256) hx hb dM_part_17 (by decide) ?_
      refine lv_idiv hx hb dM_part_20 (by decide) ?_
      refine lv_sipush (v := 256) hx hb dM_part_21 (by decide) ?_
      refine lv_irem hx hb dM_part_24 (by decide) ?_
      refine lv_goto (tgt := 33) hx hb dM_part_25 (by decide) ?_
      exact W.iret hx hb hr (fun t ht _ => ⟨tbI (by unfold mm_part; (first | rw [if_pos c_1] | rw [if_neg c_1]); (first | rw [if_pos c_2] | rw [if_neg c_2])), ht⟩) (fun q hq => nomatch hq) dM_part_33
  · refine lv_iload_n hx hb dM_part_4 rfl (lv_at hl 0 rfl) ?_
    refine lv_ldc (v := 65536) hx hb hown (hB _ wd_364) dM_part_5 ?_
    refine lv_idiv hx hb dM_part_7 (by decide) ?_
    refine lv_goto (tgt := 33) hx hb dM_part_8 (by decide) ?_
    exact W.iret hx hb hr (fun t ht _ => ⟨tbI (by unfold mm_part; (first | rw [if_pos c_1] | rw [if_neg c_1])), ht⟩) (fun q hq => nomatch hq) dM_part_33

set_option maxHeartbeats 4000000 in
set_option maxRecDepth 100000 in
theorem kM_isPlace (l : Launch) (x : Int32) : Met l yM_isPlace wM_isPlace (k2_rm 0 0) (fun v _ => v = ([.int x] : List Value).toArray) (k2_QcV (.int (tt_isPlace x))) 0 0 (fun _ => False) := by
  refine Met.ofW (cc := cM_isPlace) (maxL := 1) (ret := (some .boolean)) (by decide) rfl ?_
  intro p e s m args below meth c s₁ B hml hv
  obtain rfl := hv
  have hx := B.exec
  have hb := B.bytes
  have hr := B.returns
  have hB : ∀ w ∈ tbB, w.before _ s = true := fun w h => (atoms_spec (ws := wM_isPlace) B.pre) w (List.mem_cons_of_mem _ h)
  have hown : s.vm.findClass "TextureBankModel" = some m.cls := findClass_of_methodNamed B.named
  have hlocks := B.notSynchronized
  have hl := lv_entry ([.int x]) (n := 1) (Nat.le_of_ble_eq_true rfl)
  rw [lg_entry_eq]
  generalize (lg_sl ([.int x]) ++ List.replicate (1 - (lg_sl ([.int x])).length) Slot.unset).toArray = ls at hl ⊢
  have hl : lv_has ls 1 [(0, .int x)] := hl
  refine lv_iload_n hx hb dM_isPlace_0 rfl (lv_at hl 0 rfl) ?_
  refine lv_ldc (v := (-16777216)) hx hb hown (hB _ wd_396) dM_isPlace_1 ?_
  refine lv_icmp_lt (tgt := 16) hx hb dM_isPlace_3 (by decide) (fun c_1 => ?_) (fun c_1 => ?_)
  · refine lv_iconst (v := 0) hx hb dM_isPlace_16 (by decide) ?_
    exact W.zret hx hb hr rfl (fun t ht _ => ⟨tbI (by unfold tt_isPlace; (first | rw [if_pos c_1] | rw [if_neg c_1])), ht⟩) (fun q hq => nomatch hq) dM_isPlace_17
  · refine lv_iload_n hx hb dM_isPlace_6 rfl (lv_at hl 0 rfl) ?_
    refine lv_ldc (v := 16777216) hx hb hown (hB _ wd_382) dM_isPlace_7 ?_
    refine lv_icmp_gt (tgt := 16) hx hb dM_isPlace_9 (by decide) (fun c_2 => ?_) (fun c_2 => ?_)
    · refine lv_iconst (v := 0) hx hb dM_isPlace_16 (by decide) ?_
      exact W.zret hx hb hr rfl (fun t ht _ => ⟨tbI (by unfold tt_isPlace; (first | rw [if_pos c_1] | rw [if_neg c_1]); (first | rw [if_pos c_2] | rw [if_neg c_2])), ht⟩) (fun q hq => nomatch hq) dM_isPlace_17
    · refine lv_iconst (v := 1) hx hb dM_isPlace_12 (by decide) ?_
      refine lv_goto (tgt := 17) hx hb dM_isPlace_13 (by decide) ?_
      exact W.zret hx hb hr rfl (fun t ht _ => ⟨tbI (by unfold tt_isPlace; (first | rw [if_pos c_1] | rw [if_neg c_1]); (first | rw [if_pos c_2] | rw [if_neg c_2])), ht⟩) (fun q hq => nomatch hq) dM_isPlace_17

set_option maxHeartbeats 4000000 in
set_option maxRecDepth 100000 in
theorem kM_div (l : Launch) (x : Int64) (y : Int64) (hy : ¬ y = 0) : Met l yM_div wM_div (k2_rm 0 0) (fun v _ => v = ([.long x, .long y] : List Value).toArray) (k2_QcV (.long (mm_div x y))) 0 0 (fun _ => False) := by
  refine Met.ofW (cc := cM_div) (maxL := 6) (ret := (some .long)) (by decide) rfl ?_
  intro p e s m args below meth c s₁ B hml hv
  obtain rfl := hv
  have hx := B.exec
  have hb := B.bytes
  have hr := B.returns
  have hB : ∀ w ∈ tbB, w.before _ s = true := fun w h => (atoms_spec (ws := wM_div) B.pre) w (List.mem_cons_of_mem _ h)
  have hown : s.vm.findClass "TextureBankModel" = some m.cls := findClass_of_methodNamed B.named
  have hlocks := B.notSynchronized
  have hl := lv_entry ([.long x, .long y]) (n := 6) (Nat.le_of_ble_eq_true rfl)
  rw [lg_entry_eq]
  generalize (lg_sl ([.long x, .long y]) ++ List.replicate (6 - (lg_sl ([.long x, .long y])).length) Slot.unset).toArray = ls at hl ⊢
  have hl : lv_has ls 6 [(0, .long x), (2, .long y)] := hl
  refine lv_lload_n hx hb dM_div_0 rfl (lv_at hl 0 rfl) ?_
  refine lv_lload_n hx hb dM_div_1 rfl (lv_at hl 1 rfl) ?_
  refine lv_ldiv hx hb dM_div_2 hy ?_
  refine lv_lstore (lv' := [(4, .long (x / y)), (0, .long x), (2, .long y)]) hx hb dM_div_3 hl (by decide) rfl (fun ls hl => ?_)
  refine lv_lload hx hb dM_div_5 (lv_at hl 0 rfl) ?_
  refine lv_lload_n hx hb dM_div_7 rfl (lv_at hl 2 rfl) ?_
  refine lv_lmul hx hb dM_div_8 ?_
  refine lv_lload_n hx hb dM_div_9 rfl (lv_at hl 1 rfl) ?_
  refine W.lcmp hx hb dM_div_10 ?_
  refine lv_if_le (tgt := 21) hx hb dM_div_11 (by decide) (fun c_1 => ?_) (fun c_1 => ?_)
  · refine lv_lload hx hb dM_div_21 (lv_at hl 0 rfl) ?_
    exact W.lret hx hb hr (fun t ht _ => ⟨tbL (by unfold mm_div; (first | rw [if_pos ((lg_cmp_le _ _).mp c_1)] | rw [if_neg ((lg_cmp_le _ _).mp c_1)])), ht⟩) (fun q hq => nomatch hq) dM_div_23
  · refine lv_lload hx hb dM_div_14 (lv_at hl 0 rfl) ?_
    refine lv_lconst (v := 1) hx hb dM_div_16 (by decide) ?_
    refine lv_lsub hx hb dM_div_17 ?_
    refine lv_goto (tgt := 23) hx hb dM_div_18 (by decide) ?_
    exact W.lret hx hb hr (fun t ht _ => ⟨tbL (by unfold mm_div; (first | rw [if_pos (fun h9 => c_1 ((lg_cmp_le _ _).mpr h9))] | rw [if_neg (fun h9 => c_1 ((lg_cmp_le _ _).mpr h9))])), ht⟩) (fun q hq => nomatch hq) dM_div_23

set_option maxHeartbeats 4000000 in
set_option maxRecDepth 100000 in
theorem kM_isThere (l : Launch) (D : va_G) (cI : ClassId) (m0 a1 a2 a3 a4 a5 a6 : Nat) (th mn zz si : Int32) (f1 f2 f3 f4 f5 f6 : Nat → Int32) (t9 : Int32) : Met l yM_isThere wM_isThere (k2_rm 0 0) (rd_P [.ref m0, .int t9] D [(cI, .int)] [(m0, .inr (2, [.int th, .int mn, .ref a1, .ref a2, .ref a3, .ref a4, .int zz, .ref a5, .ref a6, .int si])), (a1, .inl (cI, 8, .inl f1)), (a2, .inl (cI, 8, .inl f2)), (a3, .inl (cI, 8, .inl f3)), (a4, .inl (cI, 8192, .inl f4)), (a5, .inl (cI, 1024, .inl f5)), (a6, .inl (cI, 1024, .inl f6))]) (k2_QcV (.int (tt_has mn t9))) 0 0 (fun _ => False) := by
  refine Met.ofW (cc := cM_isThere) (maxL := 2) (ret := (some .boolean)) (by decide) rfl ?_
  intro p e s m args below meth c s₁ B hml hv
  obtain ⟨rfl, hC, hP, hK⟩ := hv
  have hx := B.exec
  have hb := B.bytes
  have hr := B.returns
  have hB : ∀ w ∈ tbB, w.before _ s = true := fun w h => (atoms_spec (ws := wM_isThere) B.pre) w (List.mem_cons_of_mem _ h)
  have hown : s.vm.findClass "TextureBankModel" = some m.cls := findClass_of_methodNamed B.named
  have hlocks := B.notSynchronized
  have hl := lv_entry ([.ref m0, .int t9]) (n := 2) (Nat.le_of_ble_eq_true rfl)
  rw [lg_entry_eq]
  generalize (lg_sl ([.ref m0, .int t9]) ++ List.replicate (2 - (lg_sl ([.ref m0, .int t9])).length) Slot.unset).toArray = ls at hl ⊢
  have hl : lv_has ls 2 [(0, .ref m0), (1, .int t9)] := hl
  refine lv_iload_n hx hb dM_isThere_0 rfl (lv_at hl 1 rfl) ?_
  refine lv_if_lt (tgt := 16) hx hb dM_isThere_1 (by decide) (fun c_1 => ?_) (fun c_1 => ?_)
  · refine lv_iconst (v := 0) hx hb dM_isThere_16 (by decide) ?_
    exact W.zret hx hb hr rfl (fun t ht _ => ⟨tbI (by unfold tt_has; (first | rw [if_pos c_1] | rw [if_neg c_1])), ht⟩) (fun q hq => nomatch hq) dM_isThere_17
  · refine lv_iload_n hx hb dM_isThere_4 rfl (lv_at hl 1 rfl) ?_
    refine lv_aload_n hx hb dM_isThere_5 rfl (lv_at hl 0 rfl) ?_
    refine va_get (D := D) (ci := 2) (v := .int mn) (C := RM) (T := FM) (N := 10) hx hb hB inM hown hK hP 0 rfl rfl 1 (by decide) (hB _ wd_323) (fun _ h9 => h9) rfl dM_isThere_6 ?_
    refine lv_icmp_ge (tgt := 16) hx hb dM_isThere_9 (by decide) (fun c_2 => ?_) (fun c_2 => ?_)
    · refine lv_iconst (v := 0) hx hb dM_isThere_16 (by decide) ?_
      exact W.zret hx hb hr rfl (fun t ht _ => ⟨tbI (by unfold tt_has; (first | rw [if_pos c_1] | rw [if_neg c_1]); (first | rw [if_pos c_2] | rw [if_neg c_2])), ht⟩) (fun q hq => nomatch hq) dM_isThere_17
    · refine lv_iconst (v := 1) hx hb dM_isThere_12 (by decide) ?_
      refine lv_goto (tgt := 17) hx hb dM_isThere_13 (by decide) ?_
      exact W.zret hx hb hr rfl (fun t ht _ => ⟨tbI (by unfold tt_has; (first | rw [if_pos c_1] | rw [if_neg c_1]); (first | rw [if_pos c_2] | rw [if_neg c_2])), ht⟩) (fun q hq => nomatch hq) dM_isThere_17

set_option maxHeartbeats 4000000 in
set_option maxRecDepth 100000 in
theorem kM_thrown (l : Launch) (D : va_G) (cI : ClassId) (m0 a1 a2 a3 a4 a5 a6 : Nat) (th mn zz si : Int32) (f1 f2 f3 f4 f5 f6 : Nat → Int32)  : Met l yM_thrown wM_thrown (k2_rm 0 0) (rd_P [.ref m0] D [(cI, .int)] [(m0, .inr (2, [.int th, .int mn, .ref a1, .ref a2, .ref a3, .ref a4, .int zz, .ref a5, .ref a6, .int si])), (a1, .inl (cI, 8, .inl f1)), (a2, .inl (cI, 8, .inl f2)), (a3, .inl (cI, 8, .inl f3)), (a4, .inl (cI, 8192, .inl f4)), (a5, .inl (cI, 1024, .inl f5)), (a6, .inl (cI, 1024, .inl f6))]) (k2_QcV (.int th)) 0 0 (fun _ => False) := by
  refine Met.ofW (cc := cM_thrown) (maxL := 1) (ret := (some .int)) (by decide) rfl ?_
  intro p e s m args below meth c s₁ B hml hv
  obtain ⟨rfl, hC, hP, hK⟩ := hv
  have hx := B.exec
  have hb := B.bytes
  have hr := B.returns
  have hB : ∀ w ∈ tbB, w.before _ s = true := fun w h => (atoms_spec (ws := wM_thrown) B.pre) w (List.mem_cons_of_mem _ h)
  have hown : s.vm.findClass "TextureBankModel" = some m.cls := findClass_of_methodNamed B.named
  have hlocks := B.notSynchronized
  have hl := lv_entry ([.ref m0]) (n := 1) (Nat.le_of_ble_eq_true rfl)
  rw [lg_entry_eq]
  generalize (lg_sl ([.ref m0]) ++ List.replicate (1 - (lg_sl ([.ref m0])).length) Slot.unset).toArray = ls at hl ⊢
  have hl : lv_has ls 1 [(0, .ref m0)] := hl
  refine lv_aload_n hx hb dM_thrown_0 rfl (lv_at hl 0 rfl) ?_
  refine va_get (D := D) (ci := 2) (v := .int th) (C := RM) (T := FM) (N := 10) hx hb hB inM hown hK hP 0 rfl rfl 0 (by decide) (hB _ wd_322) (fun _ h9 => h9) rfl dM_thrown_1 ?_
  exact W.iret hx hb hr (fun t ht _ => ⟨tbI (rfl), ht⟩) (fun q hq => nomatch hq) dM_thrown_4

set_option maxHeartbeats 4000000 in
set_option maxRecDepth 100000 in
theorem kM_last (l : Launch) (D : va_G) (cI : ClassId) (m0 a1 a2 a3 a4 a5 a6 : Nat) (th mn zz si : Int32) (f1 f2 f3 f4 f5 f6 : Nat → Int32) (j k : Nat) (hj : j < 8) (hk : k ≤ 5) (hf : f1 j = nI (2 ^ k)) : Met l yM_last wM_last (k2_rm 0 0) (rd_P [.ref m0, .int (nI j)] D [(cI, .int)] [(m0, .inr (2, [.int th, .int mn, .ref a1, .ref a2, .ref a3, .ref a4, .int zz, .ref a5, .ref a6, .int si])), (a1, .inl (cI, 8, .inl f1)), (a2, .inl (cI, 8, .inl f2)), (a3, .inl (cI, 8, .inl f3)), (a4, .inl (cI, 8192, .inl f4)), (a5, .inl (cI, 1024, .inl f5)), (a6, .inl (cI, 1024, .inl f6))]) (k2_QcV (.int (nI k))) 0 0 (fun _ => False) := by
  refine Met.ofW (cc := cM_last) (maxL := 4) (ret := (some .int)) (by decide) rfl ?_
  intro p e s m args below meth c s₁ B hml hv
  obtain ⟨rfl, hC, hP, hK⟩ := hv
  have hx := B.exec
  have hb := B.bytes
  have hr := B.returns
  have hB : ∀ w ∈ tbB, w.before _ s = true := fun w h => (atoms_spec (ws := wM_last) B.pre) w (List.mem_cons_of_mem _ h)
  have hown : s.vm.findClass "TextureBankModel" = some m.cls := findClass_of_methodNamed B.named
  have hlocks := B.notSynchronized
  have hl := lv_entry ([.ref m0, .int (nI j)]) (n := 4) (Nat.le_of_ble_eq_true rfl)
  rw [lg_entry_eq]
  generalize (lg_sl ([.ref m0, .int (nI j)]) ++ List.replicate (4 - (lg_sl ([.ref m0, .int (nI j)])).length) Slot.unset).toArray = ls at hl ⊢
  have hl : lv_has ls 4 [(0, .ref m0), (1, .int (nI j))] := hl
  have loop : ∀ (k9 i : Nat), k9 ≤ 5 → nI (i + k9) = nI k → ∀ ls : Array Slot, lv_has ls 4 [(2, .int (nI i)), (3, .int (nI (2 ^ k9))), (0, .ref m0), (1, .int (nI j))] → W p l e (headSpec wM_last (k2_rm 0 0)).room s m (#[.ref m0, .int (nI j)] : Array Value) below meth c s.heap [] 0 0 (MQ below (k2_QcV (.int (nI k))) (#[.ref m0, .int (nI j)] : Array Value) s 0 0 (fun _ => False)) (F0 m 9 ls []) := by
    intro k9
    induction k9 with
    | zero =>
      intro i hk9 he ls hl
      refine lv_iload_n hx hb dM_last_9 rfl (lv_at hl 1 rfl) ?_
      refine lv_iconst (v := 1) hx hb dM_last_10 (by decide) ?_
      refine lv_icmp_le (tgt := 24) hx hb dM_last_11 (by decide) (fun c_1 => ?_) (fun c_1 => ?_)
      · refine lv_iload_n hx hb dM_last_24 rfl (lv_at hl 0 rfl) ?_
        exact W.iret hx hb hr (fun t ht _ => ⟨tbI (by rw [← he]; rfl), ht⟩) (fun q hq => nomatch hq) dM_last_25
      · exact absurd (show nI (2 ^ 0) ≤ 1 by decide) c_1
    | succ k9 ih =>
      intro i hk9 he ls hl
      refine lv_iload_n hx hb dM_last_9 rfl (lv_at hl 1 rfl) ?_
      refine lv_iconst (v := 1) hx hb dM_last_10 (by decide) ?_
      refine lv_icmp_le (tgt := 24) hx hb dM_last_11 (by decide) (fun c_1 => ?_) (fun c_1 => ?_)
      · exact absurd c_1 (show ¬ nI (2 ^ (k9 + 1)) ≤ 1 from nI_ge (a := 1) (by have := (tt_pw k9 (by omega)).2.1; rw [Nat.pow_succ]; omega) (by have := (tt_pw (k9 + 1) (by omega)).1; omega))
      · obtain ⟨i_2, ei_2⟩ : ∃ z9 : Int32, z9 = (nI i) + 1 := ⟨_, rfl⟩
        refine lv_iinc (v := i_2) (lv' := [(2, .int i_2), (3, .int (nI (2 ^ (k9 + 1)))), (0, .ref m0), (1, .int (nI j))]) hx hb dM_last_14 hl (k := 0) rfl (by rw [ei_2]; rfl) (by decide) rfl (fun ls hl => ?_)
        refine lv_iload_n hx hb dM_last_17 rfl (lv_at hl 1 rfl) ?_
        refine lv_iconst (v := 2) hx hb dM_last_18 (by decide) ?_
        refine lv_idiv hx hb dM_last_19 (by decide) ?_
        refine lv_istore_n (lv' := [(3, .int ((nI (2 ^ (k9 + 1))) / 2)), (2, .int i_2), (0, .ref m0), (1, .int (nI j))]) hx hb dM_last_20 rfl hl (by decide) rfl (fun ls hl => ?_)
        refine lv_goto (tgt := 9) hx hb dM_last_21 (by decide) ?_
        exact ih (i + 1) (by omega) (by rw [← he]; congr 1; omega) ls (by have hl := lv_sub hl [1, 0, 2, 3] rfl; rw [ei_2, nI_1, tt_hv (by omega), tt_hs] at hl; exact hl)
  refine lv_iconst (v := 0) hx hb dM_last_0 (by decide) ?_
  refine lv_istore_n (lv' := [(2, .int 0), (0, .ref m0), (1, .int (nI j))]) hx hb dM_last_1 rfl hl (by decide) rfl (fun ls hl => ?_)
  refine lv_aload_n hx hb dM_last_2 rfl (lv_at hl 1 rfl) ?_
  refine va_get (D := D) (ci := 2) (v := .ref a1) (C := RM) (T := FM) (N := 10) hx hb hB inM hown hK hP 0 rfl rfl 2 (by decide) (hB _ wd_324) (fun _ h9 => h9) rfl dM_last_3 ?_
  refine lv_iload_n hx hb dM_last_6 rfl (lv_at hl 2 rfl) ?_
  refine va_iald hx hb hK hP 1 0 (f := f1) rfl rfl (i := nI j) (vp_in_nI (hj) (by omega)) dM_last_7 ?_
  refine W.eq (g2 := F0 m 8 ls [.int (f1 j)]) (by rw [nI_clamp (by have := (hj : j < 8); omega)]) ?_
  refine lv_istore_n (lv' := [(3, .int (f1 j)), (2, .int 0), (0, .ref m0), (1, .int (nI j))]) hx hb dM_last_8 rfl hl (by decide) rfl (fun ls hl => ?_)
  exact loop k 0 (by omega) (by rw [Nat.zero_add]) ls (by have hl := lv_sub hl [1, 0, 2, 3] rfl; rw [hf] at hl; exact hl)

set_option maxHeartbeats 4000000 in
set_option maxRecDepth 100000 in
theorem kM_into (l : Launch) (D : va_G) (cI : ClassId) (m0 a1 a2 a3 a4 a5 a6 : Nat) (th mn zz si : Int32) (f1 f2 f3 f4 f5 f6 : Nat → Int32) (w9 : Int32) (k9 : Int64) (hs1 : ¬ si.toInt64 = 0) (hs2 : ¬ 2 * si.toInt64 = 0) : Met l yM_into wM_into (k2_rm 1 25) (rd_P [.ref m0, .int w9, .long k9] D [(cI, .int)] [(m0, .inr (2, [.int th, .int mn, .ref a1, .ref a2, .ref a3, .ref a4, .int zz, .ref a5, .ref a6, .int si])), (a1, .inl (cI, 8, .inl f1)), (a2, .inl (cI, 8, .inl f2)), (a3, .inl (cI, 8, .inl f3)), (a4, .inl (cI, 8192, .inl f4)), (a5, .inl (cI, 1024, .inl f5)), (a6, .inl (cI, 1024, .inl f6))]) (k2_QcV (.int (mm_into si w9 k9))) 0 0 (fun _ => False) := by
  refine Met.ofW (cc := cM_into) (maxL := 8) (ret := (some .int)) (by decide) rfl ?_
  intro p e s m args below meth c s₁ B hml hv
  obtain ⟨rfl, hC, hP, hK⟩ := hv
  have hx := B.exec
  have hb := B.bytes
  have hr := B.returns
  have hB : ∀ w ∈ tbB, w.before _ s = true := fun w h => (atoms_spec (ws := wM_into) B.pre) w (List.mem_cons_of_mem _ h)
  have hown : s.vm.findClass "TextureBankModel" = some m.cls := findClass_of_methodNamed B.named
  have hlocks := B.notSynchronized
  have hl := lv_entry ([.ref m0, .int w9, .long k9]) (n := 8) (Nat.le_of_ble_eq_true rfl)
  rw [lg_entry_eq]
  generalize (lg_sl ([.ref m0, .int w9, .long k9]) ++ List.replicate (8 - (lg_sl ([.ref m0, .int w9, .long k9])).length) Slot.unset).toArray = ls at hl ⊢
  have hl : lv_has ls 8 [(0, .ref m0), (1, .int w9), (2, .long k9)] := hl
  refine lv_aload_n hx hb dM_into_0 rfl (lv_at hl 0 rfl) ?_
  refine va_get (D := D) (ci := 2) (v := .int si) (C := RM) (T := FM) (N := 10) hx hb hB inM hown hK hP 0 rfl rfl 9 (by decide) (hB _ wd_331) (fun _ h9 => h9) rfl dM_into_1 ?_
  refine lv_i2l hx hb dM_into_4 rfl ?_
  refine lv_lstore (lv' := [(4, .long si.toInt64), (0, .ref m0), (1, .int w9), (2, .long k9)]) hx hb dM_into_5 hl (by decide) rfl (fun ls hl => ?_)
  refine lv_iload_n hx hb dM_into_7 rfl (lv_at hl 2 rfl) ?_
  refine lv_if_ne (tgt := 24) hx hb dM_into_8 (by decide) (fun c_1 => ?_) (fun c_1 => ?_)
  · refine lv_iload_n hx hb dM_into_24 rfl (lv_at hl 2 rfl) ?_
    refine lv_iconst (v := 1) hx hb dM_into_25 (by decide) ?_
    refine lv_icmp_ne (tgt := 56) hx hb dM_into_26 (by decide) (fun c_2 => ?_) (fun c_2 => ?_)
    · refine lv_lload_n hx hb dM_into_56 rfl (lv_at hl 3 rfl) ?_
      refine lv_ldc2 (v := 2) hx hb hown (hB _ wd_422) dM_into_57 ?_
      refine lv_lload hx hb dM_into_60 (lv_at hl 0 rfl) ?_
      refine lv_lmul hx hb dM_into_62 ?_
      refine lv_lload_n hx hb dM_into_63 rfl (lv_at hl 3 rfl) ?_
      refine lv_ldc2 (v := 2) hx hb hown (hB _ wd_422) dM_into_64 ?_
      refine lv_lload hx hb dM_into_67 (lv_at hl 0 rfl) ?_
      refine lv_lmul hx hb dM_into_69 ?_
      refine W.callV (W.runS (As := [.long k9, .long (2 * si.toInt64)]) (rest := [.long (2 * si.toInt64), .long k9]) ⟨hx, hb, hml, hown, hB⟩ (kM_div l k9 (2 * si.toInt64) hs2) ⟨callB_of 2 hB gwM_div rfl rfl rfl (hB _ wd_3) (hB _ wd_414) ydM_div ⟨Nat.le_of_ble_eq_true rfl, Nat.le_of_ble_eq_true rfl⟩, hB _ wd_415⟩ (preEq) rfl rfl hl.1 rfl (lv_room (Nat.le_of_ble_eq_true rfl)) dM_into_70 ⟨Nat.zero_le _, Nat.zero_le _⟩) ?_
      refine W.eq (g2 := F0 m 73 ls [.long (mm_div k9 (2 * si.toInt64)), .long (2 * si.toInt64), .long k9]) rfl ?_
      refine lv_lmul hx hb dM_into_73 ?_
      refine lv_lsub hx hb dM_into_74 ?_
      refine lv_topl (fun mv emv => ?_)
      refine lv_lstore (lv' := [(6, .long mv), (4, .long si.toInt64), (0, .ref m0), (1, .int w9), (2, .long k9)]) hx hb dM_into_75 hl (by decide) rfl (fun ls hl => ?_)
      refine lv_lload hx hb dM_into_77 (lv_at hl 0 rfl) ?_
      refine lv_lload hx hb dM_into_79 (lv_at hl 1 rfl) ?_
      refine W.lcmp hx hb dM_into_81 ?_
      refine lv_if_lt (tgt := 99) hx hb dM_into_82 (by decide) (fun c_3 => ?_) (fun c_3 => ?_)
      · refine lv_lload hx hb dM_into_99 (lv_at hl 0 rfl) ?_
        refine lv_l2i hx hb dM_into_101 rfl ?_
        exact W.iret hx hb hr (fun t ht _ => ⟨tbI (by subst emv; unfold mm_into; (first | rw [if_pos c_1] | rw [if_neg c_1]); (first | rw [if_pos c_2] | rw [if_neg c_2]); (first | rw [if_pos ((lg_cmp_lt _ _).mp c_3)] | rw [if_neg ((lg_cmp_lt _ _).mp c_3)])), ht⟩) (fun q hq => nomatch hq) dM_into_102
      · refine lv_ldc2 (v := 2) hx hb hown (hB _ wd_422) dM_into_85 ?_
        refine lv_lload hx hb dM_into_88 (lv_at hl 1 rfl) ?_
        refine lv_lmul hx hb dM_into_90 ?_
        refine lv_lconst (v := 1) hx hb dM_into_91 (by decide) ?_
        refine lv_lsub hx hb dM_into_92 ?_
        refine lv_lload hx hb dM_into_93 (lv_at hl 0 rfl) ?_
        refine lv_lsub hx hb dM_into_95 ?_
        refine lv_goto (tgt := 101) hx hb dM_into_96 (by decide) ?_
        refine lv_l2i hx hb dM_into_101 rfl ?_
        exact W.iret hx hb hr (fun t ht _ => ⟨tbI (by subst emv; unfold mm_into; (first | rw [if_pos c_1] | rw [if_neg c_1]); (first | rw [if_pos c_2] | rw [if_neg c_2]); (first | rw [if_pos (fun h9 => c_3 ((lg_cmp_lt _ _).mpr h9))] | rw [if_neg (fun h9 => c_3 ((lg_cmp_lt _ _).mpr h9))])), ht⟩) (fun q hq => nomatch hq) dM_into_102
    · refine lv_lload_n hx hb dM_into_29 rfl (lv_at hl 3 rfl) ?_
      refine lv_lconst (v := 0) hx hb dM_into_30 (by decide) ?_
      refine W.lcmp hx hb dM_into_31 ?_
      refine lv_if_ge (tgt := 39) hx hb dM_into_32 (by decide) (fun c_4 => ?_) (fun c_4 => ?_)
      · refine lv_lload_n hx hb dM_into_39 rfl (lv_at hl 3 rfl) ?_
        refine lv_lload hx hb dM_into_40 (lv_at hl 0 rfl) ?_
        refine W.lcmp hx hb dM_into_42 ?_
        refine lv_if_lt (tgt := 53) hx hb dM_into_43 (by decide) (fun c_5 => ?_) (fun c_5 => ?_)
        · refine lv_lload_n hx hb dM_into_53 rfl (lv_at hl 3 rfl) ?_
          refine lv_l2i hx hb dM_into_54 rfl ?_
          exact W.iret hx hb hr (fun t ht _ => ⟨tbI (by unfold mm_into; (first | rw [if_pos c_1] | rw [if_neg c_1]); (first | rw [if_pos c_2] | rw [if_neg c_2]); (first | rw [if_pos ((lg_cmp_ge _ _).mp c_4)] | rw [if_neg ((lg_cmp_ge _ _).mp c_4)]); (first | rw [if_pos ((lg_cmp_lt _ _).mp c_5)] | rw [if_neg ((lg_cmp_lt _ _).mp c_5)])), ht⟩) (fun q hq => nomatch hq) dM_into_55
        · refine lv_lload hx hb dM_into_46 (lv_at hl 0 rfl) ?_
          refine lv_lconst (v := 1) hx hb dM_into_48 (by decide) ?_
          refine lv_lsub hx hb dM_into_49 ?_
          refine lv_goto (tgt := 54) hx hb dM_into_50 (by decide) ?_
          refine lv_l2i hx hb dM_into_54 rfl ?_
          exact W.iret hx hb hr (fun t ht _ => ⟨tbI (by unfold mm_into; (first | rw [if_pos c_1] | rw [if_neg c_1]); (first | rw [if_pos c_2] | rw [if_neg c_2]); (first | rw [if_pos ((lg_cmp_ge _ _).mp c_4)] | rw [if_neg ((lg_cmp_ge _ _).mp c_4)]); (first | rw [if_pos (fun h9 => c_5 ((lg_cmp_lt _ _).mpr h9))] | rw [if_neg (fun h9 => c_5 ((lg_cmp_lt _ _).mpr h9))])), ht⟩) (fun q hq => nomatch hq) dM_into_55
      · refine lv_lconst (v := 0) hx hb dM_into_35 (by decide) ?_
        refine lv_goto (tgt := 54) hx hb dM_into_36 (by decide) ?_
        refine lv_l2i hx hb dM_into_54 rfl ?_
        exact W.iret hx hb hr (fun t ht _ => ⟨tbI (by unfold mm_into; (first | rw [if_pos c_1] | rw [if_neg c_1]); (first | rw [if_pos c_2] | rw [if_neg c_2]); (first | rw [if_pos (fun h9 => c_4 ((lg_cmp_ge _ _).mpr h9))] | rw [if_neg (fun h9 => c_4 ((lg_cmp_ge _ _).mpr h9))])), ht⟩) (fun q hq => nomatch hq) dM_into_55
  · refine lv_lload_n hx hb dM_into_11 rfl (lv_at hl 3 rfl) ?_
    refine lv_lload hx hb dM_into_12 (lv_at hl 0 rfl) ?_
    refine lv_lload_n hx hb dM_into_14 rfl (lv_at hl 3 rfl) ?_
    refine lv_lload hx hb dM_into_15 (lv_at hl 0 rfl) ?_
    refine W.callV (W.runS (As := [.long k9, .long si.toInt64]) (rest := [.long si.toInt64, .long k9]) ⟨hx, hb, hml, hown, hB⟩ (kM_div l k9 si.toInt64 hs1) ⟨callB_of 2 hB gwM_div rfl rfl rfl (hB _ wd_3) (hB _ wd_414) ydM_div ⟨Nat.le_of_ble_eq_true rfl, Nat.le_of_ble_eq_true rfl⟩, hB _ wd_415⟩ (preEq) rfl rfl hl.1 rfl (lv_room (Nat.le_of_ble_eq_true rfl)) dM_into_17 ⟨Nat.zero_le _, Nat.zero_le _⟩) ?_
    refine W.eq (g2 := F0 m 20 ls [.long (mm_div k9 si.toInt64), .long si.toInt64, .long k9]) rfl ?_
    refine lv_lmul hx hb dM_into_20 ?_
    refine lv_lsub hx hb dM_into_21 ?_
    refine lv_l2i hx hb dM_into_22 rfl ?_
    exact W.iret hx hb hr (fun t ht _ => ⟨tbI (by unfold mm_into; (first | rw [if_pos c_1] | rw [if_neg c_1])), ht⟩) (fun q hq => nomatch hq) dM_into_23

set_option maxHeartbeats 4000000 in
set_option maxRecDepth 100000 in
theorem kM_put_no (l : Launch) (D : va_G) (sz : Nat) (cI : ClassId) (m0 a1 a2 a3 a4 a5 a6 : Nat) (th mn zz si : Int32) (f1 f2 f3 f4 f5 f6 : Nat → Int32) (r9 g9 b9 : Int32) (hno : mm_isNum r9 = 0 ∨ mm_isNum g9 = 0 ∨ mm_isNum b9 = 0 ∨ zz = 1024) : Met l yM_put wM_put (k2_rm 1 20) (wr_P [.ref m0, .int r9, .int g9, .int b9] sz D [(cI, .int)] [(m0, .inr (2, [.int th, .int mn, .ref a1, .ref a2, .ref a3, .ref a4, .int zz, .ref a5, .ref a6, .int si])), (a1, .inl (cI, 8, .inl f1)), (a2, .inl (cI, 8, .inl f2)), (a3, .inl (cI, 8, .inl f3)), (a4, .inl (cI, 8192, .inl f4)), (a5, .inl (cI, 1024, .inl f5)), (a6, .inl (cI, 1024, .inl f6))]) (wr_Qi (-1) D (va_A [(m0, .inr (2, [.int th, .int mn, .ref a1, .ref a2, .ref a3, .ref a4, .int zz, .ref a5, .ref a6, .int si])), (a1, .inl (cI, 8, .inl f1)), (a2, .inl (cI, 8, .inl f2)), (a3, .inl (cI, 8, .inl f3)), (a4, .inl (cI, 8192, .inl f4)), (a5, .inl (cI, 1024, .inl f5)), (a6, .inl (cI, 1024, .inl f6))] sz) [(m0, .inr (2, [.int 0, .int mn, .ref a1, .ref a2, .ref a3, .ref a4, .int zz, .ref a5, .ref a6, .int si])), (a1, .inl (cI, 8, .inl f1)), (a2, .inl (cI, 8, .inl f2)), (a3, .inl (cI, 8, .inl f3)), (a4, .inl (cI, 8192, .inl f4)), (a5, .inl (cI, 1024, .inl f5)), (a6, .inl (cI, 1024, .inl f6))]) 0 0 (va_A [(m0, .inr (2, [.int th, .int mn, .ref a1, .ref a2, .ref a3, .ref a4, .int zz, .ref a5, .ref a6, .int si])), (a1, .inl (cI, 8, .inl f1)), (a2, .inl (cI, 8, .inl f2)), (a3, .inl (cI, 8, .inl f3)), (a4, .inl (cI, 8192, .inl f4)), (a5, .inl (cI, 1024, .inl f5)), (a6, .inl (cI, 1024, .inl f6))] sz) := by
  refine Met.ofW (cc := cM_put) (maxL := 4) (ret := (some .int)) (by decide) rfl ?_
  intro p e s m args below meth c s₁ B hml hv
  obtain ⟨rfl, hsz, hC, hP, hK, hD0⟩ := hv
  have hx := B.exec
  have hb := B.bytes
  have hr := B.returns
  have hB : ∀ w ∈ tbB, w.before _ s = true := fun w h => (atoms_spec (ws := wM_put) B.pre) w (List.mem_cons_of_mem _ h)
  have hown : s.vm.findClass "TextureBankModel" = some m.cls := findClass_of_methodNamed B.named
  have hlocks := B.notSynchronized
  subst hsz
  have hD := hD0.self (sz := s.heap.size)
  generalize hAe : va_A [(m0, .inr (2, [.int th, .int mn, .ref a1, .ref a2, .ref a3, .ref a4, .int zz, .ref a5, .ref a6, .int si])), (a1, .inl (cI, 8, .inl f1)), (a2, .inl (cI, 8, .inl f2)), (a3, .inl (cI, 8, .inl f3)), (a4, .inl (cI, 8192, .inl f4)), (a5, .inl (cI, 1024, .inl f5)), (a6, .inl (cI, 1024, .inl f6))] s.heap.size = A at hD ⊢
  have hA : ∀ q : Nat, s.heap.size ≤ q → A q := fun q h => by rw [← hAe]; exact Or.inr h
  have hS : va_S A s.heap s.heap [] := va_S.rf
  have hl := lv_entry ([.ref m0, .int r9, .int g9, .int b9]) (n := 4) (Nat.le_of_ble_eq_true rfl)
  rw [lg_entry_eq]
  generalize (lg_sl ([.ref m0, .int r9, .int g9, .int b9]) ++ List.replicate (4 - (lg_sl ([.ref m0, .int r9, .int g9, .int b9])).length) Slot.unset).toArray = ls at hl ⊢
  have hl : lv_has ls 4 [(0, .ref m0), (1, .int r9), (2, .int g9), (3, .int b9)] := hl
  refine lv_aload_n hx hb dM_put_0 rfl (lv_at hl 0 rfl) ?_
  refine lv_iconst (v := 0) hx hb dM_put_1 (by decide) ?_
  refine va_put (D := D) (ci := 2) (v := .int 0) (ty := .int) (C := RM) (T := FM) (N := 10) hx hb hB inM tyM tyM_ok nmM hown hK hP hD hS 0 rfl rfl 0 (by decide) (hB _ wd_322) (fun _ h9 => h9) rfl (by decide +kernel) rfl rfl (Nat.le_of_ble_eq_true rfl) dM_put_2 (fun H locs hP hD hS => ?_)
  have hP : va_P D tbCl [(m0, .inr (2, [.int 0, .int mn, .ref a1, .ref a2, .ref a3, .ref a4, .int zz, .ref a5, .ref a6, .int si])), (a1, .inl (cI, 8, .inl f1)), (a2, .inl (cI, 8, .inl f2)), (a3, .inl (cI, 8, .inl f3)), (a4, .inl (cI, 8192, .inl f4)), (a5, .inl (cI, 1024, .inl f5)), (a6, .inl (cI, 1024, .inl f6))] H := hP
  have hD : va_D A [(m0, .inr (2, [.int 0, .int mn, .ref a1, .ref a2, .ref a3, .ref a4, .int zz, .ref a5, .ref a6, .int si])), (a1, .inl (cI, 8, .inl f1)), (a2, .inl (cI, 8, .inl f2)), (a3, .inl (cI, 8, .inl f3)), (a4, .inl (cI, 8192, .inl f4)), (a5, .inl (cI, 1024, .inl f5)), (a6, .inl (cI, 1024, .inl f6))] := hD
  refine lv_iload_n hx hb dM_put_5 rfl (lv_at hl 1 rfl) ?_
  refine W.callV (W.runS (As := [.int r9]) (rest := []) ⟨hx, hb, hml, hown, hB⟩ (kM_isNumber l r9) ⟨callB_of 1 hB gwM_isNumber rfl rfl rfl (hB _ wd_3) (hB _ wd_361) ydM_isNumber ⟨Nat.le_of_ble_eq_true rfl, Nat.le_of_ble_eq_true rfl⟩, hB _ wd_362⟩ (preEq) rfl rfl hl.1 rfl (lv_room (Nat.le_of_ble_eq_true rfl)) dM_put_6 ⟨Nat.zero_le _, Nat.zero_le _⟩) ?_
  refine W.eq (g2 := F0 m 9 ls [.int (mm_isNum r9)]) rfl ?_
  refine lv_if_eq (tgt := 36) hx hb dM_put_9 (by decide) (fun c_1 => ?_) (fun c_1 => ?_)
  · refine lv_iconst (v := (-1)) hx hb dM_put_36 (by decide) ?_
    exact W.iret hx hb hr (fun t ht hW => ⟨⟨_, (), rfl, rfl, (by have h9 : va_P D tbCl [(m0, .inr (2, [.int 0, .int mn, .ref a1, .ref a2, .ref a3, .ref a4, .int zz, .ref a5, .ref a6, .int si])), (a1, .inl (cI, 8, .inl f1)), (a2, .inl (cI, 8, .inl f2)), (a3, .inl (cI, 8, .inl f3)), (a4, .inl (cI, 8192, .inl f4)), (a5, .inl (cI, 1024, .inl f5)), (a6, .inl (cI, 1024, .inl f6))] H := hP; rw [← ht] at h9; exact h9)⟩, hS.F ht⟩) hS.2.2 dM_put_37
  · refine lv_iload_n hx hb dM_put_12 rfl (lv_at hl 2 rfl) ?_
    refine W.callV (W.runS (As := [.int g9]) (rest := []) ⟨hx, hb, hml, hown, hB⟩ (kM_isNumber l g9) ⟨callB_of 1 hB gwM_isNumber rfl rfl rfl (hB _ wd_3) (hB _ wd_361) ydM_isNumber ⟨Nat.le_of_ble_eq_true rfl, Nat.le_of_ble_eq_true rfl⟩, hB _ wd_362⟩ (preEq) rfl rfl hl.1 rfl (lv_room (Nat.le_of_ble_eq_true rfl)) dM_put_13 ⟨Nat.zero_le _, Nat.zero_le _⟩) ?_
    refine W.eq (g2 := F0 m 16 ls [.int (mm_isNum g9)]) rfl ?_
    refine lv_if_eq (tgt := 36) hx hb dM_put_16 (by decide) (fun c_2 => ?_) (fun c_2 => ?_)
    · refine lv_iconst (v := (-1)) hx hb dM_put_36 (by decide) ?_
      exact W.iret hx hb hr (fun t ht hW => ⟨⟨_, (), rfl, rfl, (by have h9 : va_P D tbCl [(m0, .inr (2, [.int 0, .int mn, .ref a1, .ref a2, .ref a3, .ref a4, .int zz, .ref a5, .ref a6, .int si])), (a1, .inl (cI, 8, .inl f1)), (a2, .inl (cI, 8, .inl f2)), (a3, .inl (cI, 8, .inl f3)), (a4, .inl (cI, 8192, .inl f4)), (a5, .inl (cI, 1024, .inl f5)), (a6, .inl (cI, 1024, .inl f6))] H := hP; rw [← ht] at h9; exact h9)⟩, hS.F ht⟩) hS.2.2 dM_put_37
    · refine lv_iload_n hx hb dM_put_19 rfl (lv_at hl 3 rfl) ?_
      refine W.callV (W.runS (As := [.int b9]) (rest := []) ⟨hx, hb, hml, hown, hB⟩ (kM_isNumber l b9) ⟨callB_of 1 hB gwM_isNumber rfl rfl rfl (hB _ wd_3) (hB _ wd_361) ydM_isNumber ⟨Nat.le_of_ble_eq_true rfl, Nat.le_of_ble_eq_true rfl⟩, hB _ wd_362⟩ (preEq) rfl rfl hl.1 rfl (lv_room (Nat.le_of_ble_eq_true rfl)) dM_put_20 ⟨Nat.zero_le _, Nat.zero_le _⟩) ?_
      refine W.eq (g2 := F0 m 23 ls [.int (mm_isNum b9)]) rfl ?_
      refine lv_if_eq (tgt := 36) hx hb dM_put_23 (by decide) (fun c_3 => ?_) (fun c_3 => ?_)
      · refine lv_iconst (v := (-1)) hx hb dM_put_36 (by decide) ?_
        exact W.iret hx hb hr (fun t ht hW => ⟨⟨_, (), rfl, rfl, (by have h9 : va_P D tbCl [(m0, .inr (2, [.int 0, .int mn, .ref a1, .ref a2, .ref a3, .ref a4, .int zz, .ref a5, .ref a6, .int si])), (a1, .inl (cI, 8, .inl f1)), (a2, .inl (cI, 8, .inl f2)), (a3, .inl (cI, 8, .inl f3)), (a4, .inl (cI, 8192, .inl f4)), (a5, .inl (cI, 1024, .inl f5)), (a6, .inl (cI, 1024, .inl f6))] H := hP; rw [← ht] at h9; exact h9)⟩, hS.F ht⟩) hS.2.2 dM_put_37
      · refine lv_aload_n hx hb dM_put_26 rfl (lv_at hl 0 rfl) ?_
        refine va_get (D := D) (ci := 2) (v := .int zz) (C := RM) (T := FM) (N := 10) hx hb hB inM hown hK hP 0 rfl rfl 6 (by decide) (hB _ wd_328) (fun _ h9 => h9) rfl dM_put_27 ?_
        refine lv_sipush (v := 1024) hx hb dM_put_30 (by decide) ?_
        refine lv_icmp_ne (tgt := 38) hx hb dM_put_33 (by decide) (fun c_4 => ?_) (fun c_4 => ?_)
        · exact absurd (hno.elim (fun h => absurd h c_1) (fun h => h.elim (fun h => absurd h c_2) (fun h => h.elim (fun h => absurd h c_3) id))) c_4
        · refine lv_iconst (v := (-1)) hx hb dM_put_36 (by decide) ?_
          exact W.iret hx hb hr (fun t ht hW => ⟨⟨_, (), rfl, rfl, (by have h9 : va_P D tbCl [(m0, .inr (2, [.int 0, .int mn, .ref a1, .ref a2, .ref a3, .ref a4, .int zz, .ref a5, .ref a6, .int si])), (a1, .inl (cI, 8, .inl f1)), (a2, .inl (cI, 8, .inl f2)), (a3, .inl (cI, 8, .inl f3)), (a4, .inl (cI, 8192, .inl f4)), (a5, .inl (cI, 1024, .inl f5)), (a6, .inl (cI, 1024, .inl f6))] H := hP; rw [← ht] at h9; exact h9)⟩, hS.F ht⟩) hS.2.2 dM_put_37

set_option maxHeartbeats 4000000 in
set_option maxRecDepth 100000 in
theorem kM_put_ok (l : Launch) (D : va_G) (sz : Nat) (cI : ClassId) (m0 a1 a2 a3 a4 a5 a6 : Nat) (th mn si : Int32) (n : Nat) (f1 f2 f3 f4 f5 f6 : Nat → Int32) (hn : n < 1024) (r9 g9 b9 : Int32) (h1 : ¬ mm_isNum r9 = 0) (h2 : ¬ mm_isNum g9 = 0) (h3 : ¬ mm_isNum b9 = 0) : Met l yM_put wM_put (k2_rm 1 20) (wr_P [.ref m0, .int r9, .int g9, .int b9] sz D [(cI, .int)] [(m0, .inr (2, [.int th, .int mn, .ref a1, .ref a2, .ref a3, .ref a4, .int (nI n), .ref a5, .ref a6, .int si])), (a1, .inl (cI, 8, .inl f1)), (a2, .inl (cI, 8, .inl f2)), (a3, .inl (cI, 8, .inl f3)), (a4, .inl (cI, 8192, .inl f4)), (a5, .inl (cI, 1024, .inl f5)), (a6, .inl (cI, 1024, .inl f6))]) (wr_Qi (nI (n + 1)) D (va_A [(m0, .inr (2, [.int th, .int mn, .ref a1, .ref a2, .ref a3, .ref a4, .int (nI n), .ref a5, .ref a6, .int si])), (a1, .inl (cI, 8, .inl f1)), (a2, .inl (cI, 8, .inl f2)), (a3, .inl (cI, 8, .inl f3)), (a4, .inl (cI, 8192, .inl f4)), (a5, .inl (cI, 1024, .inl f5)), (a6, .inl (cI, 1024, .inl f6))] sz) [(m0, .inr (2, [.int 0, .int mn, .ref a1, .ref a2, .ref a3, .ref a4, .int (nI (n + 1)), .ref a5, .ref a6, .int si])), (a1, .inl (cI, 8, .inl f1)), (a2, .inl (cI, 8, .inl f2)), (a3, .inl (cI, 8, .inl f3)), (a4, .inl (cI, 8192, .inl f4)), (a5, .inl (cI, 1024, .inl (upd f5 n (r9 * 65536 + g9 * 256 + b9)))), (a6, .inl (cI, 1024, .inl f6))]) 0 0 (va_A [(m0, .inr (2, [.int th, .int mn, .ref a1, .ref a2, .ref a3, .ref a4, .int (nI n), .ref a5, .ref a6, .int si])), (a1, .inl (cI, 8, .inl f1)), (a2, .inl (cI, 8, .inl f2)), (a3, .inl (cI, 8, .inl f3)), (a4, .inl (cI, 8192, .inl f4)), (a5, .inl (cI, 1024, .inl f5)), (a6, .inl (cI, 1024, .inl f6))] sz) := by
  refine Met.ofW (cc := cM_put) (maxL := 4) (ret := (some .int)) (by decide) rfl ?_
  intro p e s m args below meth c s₁ B hml hv
  obtain ⟨rfl, hsz, hC, hP, hK, hD0⟩ := hv
  have hx := B.exec
  have hb := B.bytes
  have hr := B.returns
  have hB : ∀ w ∈ tbB, w.before _ s = true := fun w h => (atoms_spec (ws := wM_put) B.pre) w (List.mem_cons_of_mem _ h)
  have hown : s.vm.findClass "TextureBankModel" = some m.cls := findClass_of_methodNamed B.named
  have hlocks := B.notSynchronized
  subst hsz
  have hD := hD0.self (sz := s.heap.size)
  generalize hAe : va_A [(m0, .inr (2, [.int th, .int mn, .ref a1, .ref a2, .ref a3, .ref a4, .int (nI n), .ref a5, .ref a6, .int si])), (a1, .inl (cI, 8, .inl f1)), (a2, .inl (cI, 8, .inl f2)), (a3, .inl (cI, 8, .inl f3)), (a4, .inl (cI, 8192, .inl f4)), (a5, .inl (cI, 1024, .inl f5)), (a6, .inl (cI, 1024, .inl f6))] s.heap.size = A at hD ⊢
  have hA : ∀ q : Nat, s.heap.size ≤ q → A q := fun q h => by rw [← hAe]; exact Or.inr h
  have hS : va_S A s.heap s.heap [] := va_S.rf
  have hl := lv_entry ([.ref m0, .int r9, .int g9, .int b9]) (n := 4) (Nat.le_of_ble_eq_true rfl)
  rw [lg_entry_eq]
  generalize (lg_sl ([.ref m0, .int r9, .int g9, .int b9]) ++ List.replicate (4 - (lg_sl ([.ref m0, .int r9, .int g9, .int b9])).length) Slot.unset).toArray = ls at hl ⊢
  have hl : lv_has ls 4 [(0, .ref m0), (1, .int r9), (2, .int g9), (3, .int b9)] := hl
  refine lv_aload_n hx hb dM_put_0 rfl (lv_at hl 0 rfl) ?_
  refine lv_iconst (v := 0) hx hb dM_put_1 (by decide) ?_
  refine va_put (D := D) (ci := 2) (v := .int 0) (ty := .int) (C := RM) (T := FM) (N := 10) hx hb hB inM tyM tyM_ok nmM hown hK hP hD hS 0 rfl rfl 0 (by decide) (hB _ wd_322) (fun _ h9 => h9) rfl (by decide +kernel) rfl rfl (Nat.le_of_ble_eq_true rfl) dM_put_2 (fun H locs hP hD hS => ?_)
  have hP : va_P D tbCl [(m0, .inr (2, [.int 0, .int mn, .ref a1, .ref a2, .ref a3, .ref a4, .int (nI n), .ref a5, .ref a6, .int si])), (a1, .inl (cI, 8, .inl f1)), (a2, .inl (cI, 8, .inl f2)), (a3, .inl (cI, 8, .inl f3)), (a4, .inl (cI, 8192, .inl f4)), (a5, .inl (cI, 1024, .inl f5)), (a6, .inl (cI, 1024, .inl f6))] H := hP
  have hD : va_D A [(m0, .inr (2, [.int 0, .int mn, .ref a1, .ref a2, .ref a3, .ref a4, .int (nI n), .ref a5, .ref a6, .int si])), (a1, .inl (cI, 8, .inl f1)), (a2, .inl (cI, 8, .inl f2)), (a3, .inl (cI, 8, .inl f3)), (a4, .inl (cI, 8192, .inl f4)), (a5, .inl (cI, 1024, .inl f5)), (a6, .inl (cI, 1024, .inl f6))] := hD
  refine lv_iload_n hx hb dM_put_5 rfl (lv_at hl 1 rfl) ?_
  refine W.callV (W.runS (As := [.int r9]) (rest := []) ⟨hx, hb, hml, hown, hB⟩ (kM_isNumber l r9) ⟨callB_of 1 hB gwM_isNumber rfl rfl rfl (hB _ wd_3) (hB _ wd_361) ydM_isNumber ⟨Nat.le_of_ble_eq_true rfl, Nat.le_of_ble_eq_true rfl⟩, hB _ wd_362⟩ (preEq) rfl rfl hl.1 rfl (lv_room (Nat.le_of_ble_eq_true rfl)) dM_put_6 ⟨Nat.zero_le _, Nat.zero_le _⟩) ?_
  refine W.eq (g2 := F0 m 9 ls [.int (mm_isNum r9)]) rfl ?_
  refine lv_if_eq (tgt := 36) hx hb dM_put_9 (by decide) (fun c_1 => ?_) (fun c_1 => ?_)
  · exact absurd c_1 h1
  · refine lv_iload_n hx hb dM_put_12 rfl (lv_at hl 2 rfl) ?_
    refine W.callV (W.runS (As := [.int g9]) (rest := []) ⟨hx, hb, hml, hown, hB⟩ (kM_isNumber l g9) ⟨callB_of 1 hB gwM_isNumber rfl rfl rfl (hB _ wd_3) (hB _ wd_361) ydM_isNumber ⟨Nat.le_of_ble_eq_true rfl, Nat.le_of_ble_eq_true rfl⟩, hB _ wd_362⟩ (preEq) rfl rfl hl.1 rfl (lv_room (Nat.le_of_ble_eq_true rfl)) dM_put_13 ⟨Nat.zero_le _, Nat.zero_le _⟩) ?_
    refine W.eq (g2 := F0 m 16 ls [.int (mm_isNum g9)]) rfl ?_
    refine lv_if_eq (tgt := 36) hx hb dM_put_16 (by decide) (fun c_2 => ?_) (fun c_2 => ?_)
    · exact absurd c_2 h2
    · refine lv_iload_n hx hb dM_put_19 rfl (lv_at hl 3 rfl) ?_
      refine W.callV (W.runS (As := [.int b9]) (rest := []) ⟨hx, hb, hml, hown, hB⟩ (kM_isNumber l b9) ⟨callB_of 1 hB gwM_isNumber rfl rfl rfl (hB _ wd_3) (hB _ wd_361) ydM_isNumber ⟨Nat.le_of_ble_eq_true rfl, Nat.le_of_ble_eq_true rfl⟩, hB _ wd_362⟩ (preEq) rfl rfl hl.1 rfl (lv_room (Nat.le_of_ble_eq_true rfl)) dM_put_20 ⟨Nat.zero_le _, Nat.zero_le _⟩) ?_
      refine W.eq (g2 := F0 m 23 ls [.int (mm_isNum b9)]) rfl ?_
      refine lv_if_eq (tgt := 36) hx hb dM_put_23 (by decide) (fun c_3 => ?_) (fun c_3 => ?_)
      · exact absurd c_3 h3
      · refine lv_aload_n hx hb dM_put_26 rfl (lv_at hl 0 rfl) ?_
        refine va_get (D := D) (ci := 2) (v := .int (nI n)) (C := RM) (T := FM) (N := 10) hx hb hB inM hown hK hP 0 rfl rfl 6 (by decide) (hB _ wd_328) (fun _ h9 => h9) rfl dM_put_27 ?_
        refine lv_sipush (v := 1024) hx hb dM_put_30 (by decide) ?_
        refine lv_icmp_ne (tgt := 38) hx hb dM_put_33 (by decide) (fun c_4 => ?_) (fun c_4 => ?_)
        · refine lv_aload_n hx hb dM_put_38 rfl (lv_at hl 0 rfl) ?_
          refine va_get (D := D) (ci := 2) (v := .ref a5) (C := RM) (T := FM) (N := 10) hx hb hB inM hown hK hP 0 rfl rfl 7 (by decide) (hB _ wd_329) (fun _ h9 => h9) rfl dM_put_39 ?_
          refine lv_aload_n hx hb dM_put_42 rfl (lv_at hl 0 rfl) ?_
          refine va_get (D := D) (ci := 2) (v := .int (nI n)) (C := RM) (T := FM) (N := 10) hx hb hB inM hown hK hP 0 rfl rfl 6 (by decide) (hB _ wd_328) (fun _ h9 => h9) rfl dM_put_43 ?_
          refine lv_iload_n hx hb dM_put_46 rfl (lv_at hl 1 rfl) ?_
          refine lv_ldc (v := 65536) hx hb hown (hB _ wd_364) dM_put_47 ?_
          refine lv_imul hx hb dM_put_49 ?_
          refine lv_iload_n hx hb dM_put_50 rfl (lv_at hl 2 rfl) ?_
          refine lv_sipush (v := 256) hx hb dM_put_51 (by decide) ?_
          refine lv_imul hx hb dM_put_54 ?_
          refine lv_iadd hx hb dM_put_55 ?_
          refine lv_iload_n hx hb dM_put_56 rfl (lv_at hl 3 rfl) ?_
          refine lv_iadd hx hb dM_put_57 ?_
          refine va_iast hx hb hK hP hD hS 5 0 rfl rfl (vp_in_nI (hn) (by omega)) dM_put_58 (fun H locs hP hD hS => ?_)
          have hP : va_P D tbCl [(m0, .inr (2, [.int 0, .int mn, .ref a1, .ref a2, .ref a3, .ref a4, .int (nI n), .ref a5, .ref a6, .int si])), (a1, .inl (cI, 8, .inl f1)), (a2, .inl (cI, 8, .inl f2)), (a3, .inl (cI, 8, .inl f3)), (a4, .inl (cI, 8192, .inl f4)), (a5, .inl (cI, 1024, .inl (upd f5 n (r9 * 65536 + g9 * 256 + b9)))), (a6, .inl (cI, 1024, .inl f6))] H := by
            have hP9 := hP
            rw [nI_clamp (by have := (hn : n < 1024); omega)] at hP9
            exact hP9
          have hD : va_D A [(m0, .inr (2, [.int 0, .int mn, .ref a1, .ref a2, .ref a3, .ref a4, .int (nI n), .ref a5, .ref a6, .int si])), (a1, .inl (cI, 8, .inl f1)), (a2, .inl (cI, 8, .inl f2)), (a3, .inl (cI, 8, .inl f3)), (a4, .inl (cI, 8192, .inl f4)), (a5, .inl (cI, 1024, .inl (upd f5 n (r9 * 65536 + g9 * 256 + b9)))), (a6, .inl (cI, 1024, .inl f6))] := wd_D hD rfl
          refine lv_aload_n hx hb dM_put_59 rfl (lv_at hl 0 rfl) ?_
          refine lv_dup hx hb dM_put_60 rfl ?_
          refine va_get (D := D) (ci := 2) (v := .int (nI n)) (C := RM) (T := FM) (N := 10) hx hb hB inM hown hK hP 0 rfl rfl 6 (by decide) (hB _ wd_328) (fun _ h9 => h9) rfl dM_put_61 ?_
          refine lv_iconst (v := 1) hx hb dM_put_64 (by decide) ?_
          refine lv_iadd hx hb dM_put_65 ?_
          refine W.eq (g2 := F0 m 66 ls [.int (nI (n + 1)), .ref m0]) (by rw [nI_1]) ?_
          refine va_put (D := D) (ci := 2) (v := .int (nI (n + 1))) (ty := .int) (C := RM) (T := FM) (N := 10) hx hb hB inM tyM tyM_ok nmM hown hK hP hD hS 0 rfl rfl 6 (by decide) (hB _ wd_328) (fun _ h9 => h9) rfl (by decide +kernel) rfl rfl (Nat.le_of_ble_eq_true rfl) dM_put_66 (fun H locs hP hD hS => ?_)
          have hP : va_P D tbCl [(m0, .inr (2, [.int 0, .int mn, .ref a1, .ref a2, .ref a3, .ref a4, .int (nI (n + 1)), .ref a5, .ref a6, .int si])), (a1, .inl (cI, 8, .inl f1)), (a2, .inl (cI, 8, .inl f2)), (a3, .inl (cI, 8, .inl f3)), (a4, .inl (cI, 8192, .inl f4)), (a5, .inl (cI, 1024, .inl (upd f5 n (r9 * 65536 + g9 * 256 + b9)))), (a6, .inl (cI, 1024, .inl f6))] H := hP
          have hD : va_D A [(m0, .inr (2, [.int 0, .int mn, .ref a1, .ref a2, .ref a3, .ref a4, .int (nI (n + 1)), .ref a5, .ref a6, .int si])), (a1, .inl (cI, 8, .inl f1)), (a2, .inl (cI, 8, .inl f2)), (a3, .inl (cI, 8, .inl f3)), (a4, .inl (cI, 8192, .inl f4)), (a5, .inl (cI, 1024, .inl (upd f5 n (r9 * 65536 + g9 * 256 + b9)))), (a6, .inl (cI, 1024, .inl f6))] := hD
          refine lv_aload_n hx hb dM_put_69 rfl (lv_at hl 0 rfl) ?_
          refine va_get (D := D) (ci := 2) (v := .int (nI (n + 1))) (C := RM) (T := FM) (N := 10) hx hb hB inM hown hK hP 0 rfl rfl 6 (by decide) (hB _ wd_328) (fun _ h9 => h9) rfl dM_put_70 ?_
          exact W.iret hx hb hr (fun t ht hW => ⟨⟨_, (), rfl, rfl, (by have h9 : va_P D tbCl [(m0, .inr (2, [.int 0, .int mn, .ref a1, .ref a2, .ref a3, .ref a4, .int (nI (n + 1)), .ref a5, .ref a6, .int si])), (a1, .inl (cI, 8, .inl f1)), (a2, .inl (cI, 8, .inl f2)), (a3, .inl (cI, 8, .inl f3)), (a4, .inl (cI, 8192, .inl f4)), (a5, .inl (cI, 1024, .inl (upd f5 n (r9 * 65536 + g9 * 256 + b9)))), (a6, .inl (cI, 1024, .inl f6))] H := hP; rw [← ht] at h9; exact h9)⟩, hS.F ht⟩) hS.2.2 dM_put_73
        · exact absurd c_4 (fun h9 => absurd ((nI_eq (b := 1024) (by omega) (by omega)).mp h9) (by omega))

set_option maxHeartbeats 4000000 in
set_option maxRecDepth 100000 in
theorem kM_clear (l : Launch) (D : va_G) (sz : Nat) (cI : ClassId) (m0 a1 a2 a3 a4 a5 a6 : Nat) (th mn zz si : Int32) (f1 f2 f3 f4 f5 f6 : Nat → Int32)  : Met l yM_clear wM_clear (k2_rm 0 0) (wr_P [.ref m0] sz D [(cI, .int)] [(m0, .inr (2, [.int th, .int mn, .ref a1, .ref a2, .ref a3, .ref a4, .int zz, .ref a5, .ref a6, .int si])), (a1, .inl (cI, 8, .inl f1)), (a2, .inl (cI, 8, .inl f2)), (a3, .inl (cI, 8, .inl f3)), (a4, .inl (cI, 8192, .inl f4)), (a5, .inl (cI, 1024, .inl f5)), (a6, .inl (cI, 1024, .inl f6))]) (wr_Qv D (va_A [(m0, .inr (2, [.int th, .int mn, .ref a1, .ref a2, .ref a3, .ref a4, .int zz, .ref a5, .ref a6, .int si])), (a1, .inl (cI, 8, .inl f1)), (a2, .inl (cI, 8, .inl f2)), (a3, .inl (cI, 8, .inl f3)), (a4, .inl (cI, 8192, .inl f4)), (a5, .inl (cI, 1024, .inl f5)), (a6, .inl (cI, 1024, .inl f6))] sz) [(m0, .inr (2, [.int 0, .int 0, .ref a1, .ref a2, .ref a3, .ref a4, .int zz, .ref a5, .ref a6, .int si])), (a1, .inl (cI, 8, .inl f1)), (a2, .inl (cI, 8, .inl f2)), (a3, .inl (cI, 8, .inl f3)), (a4, .inl (cI, 8192, .inl f4)), (a5, .inl (cI, 1024, .inl f5)), (a6, .inl (cI, 1024, .inl f6))]) 0 0 (va_A [(m0, .inr (2, [.int th, .int mn, .ref a1, .ref a2, .ref a3, .ref a4, .int zz, .ref a5, .ref a6, .int si])), (a1, .inl (cI, 8, .inl f1)), (a2, .inl (cI, 8, .inl f2)), (a3, .inl (cI, 8, .inl f3)), (a4, .inl (cI, 8192, .inl f4)), (a5, .inl (cI, 1024, .inl f5)), (a6, .inl (cI, 1024, .inl f6))] sz) := by
  refine Met.ofW (cc := cM_clear) (maxL := 1) (ret := none) (by decide) rfl ?_
  intro p e s m args below meth c s₁ B hml hv
  obtain ⟨rfl, hsz, hC, hP, hK, hD0⟩ := hv
  have hx := B.exec
  have hb := B.bytes
  have hr := B.returns
  have hB : ∀ w ∈ tbB, w.before _ s = true := fun w h => (atoms_spec (ws := wM_clear) B.pre) w (List.mem_cons_of_mem _ h)
  have hown : s.vm.findClass "TextureBankModel" = some m.cls := findClass_of_methodNamed B.named
  have hlocks := B.notSynchronized
  subst hsz
  have hD := hD0.self (sz := s.heap.size)
  generalize hAe : va_A [(m0, .inr (2, [.int th, .int mn, .ref a1, .ref a2, .ref a3, .ref a4, .int zz, .ref a5, .ref a6, .int si])), (a1, .inl (cI, 8, .inl f1)), (a2, .inl (cI, 8, .inl f2)), (a3, .inl (cI, 8, .inl f3)), (a4, .inl (cI, 8192, .inl f4)), (a5, .inl (cI, 1024, .inl f5)), (a6, .inl (cI, 1024, .inl f6))] s.heap.size = A at hD ⊢
  have hA : ∀ q : Nat, s.heap.size ≤ q → A q := fun q h => by rw [← hAe]; exact Or.inr h
  have hS : va_S A s.heap s.heap [] := va_S.rf
  have hl := lv_entry ([.ref m0]) (n := 1) (Nat.le_of_ble_eq_true rfl)
  rw [lg_entry_eq]
  generalize (lg_sl ([.ref m0]) ++ List.replicate (1 - (lg_sl ([.ref m0])).length) Slot.unset).toArray = ls at hl ⊢
  have hl : lv_has ls 1 [(0, .ref m0)] := hl
  refine lv_aload_n hx hb dM_clear_0 rfl (lv_at hl 0 rfl) ?_
  refine lv_iconst (v := 0) hx hb dM_clear_1 (by decide) ?_
  refine va_put (D := D) (ci := 2) (v := .int 0) (ty := .int) (C := RM) (T := FM) (N := 10) hx hb hB inM tyM tyM_ok nmM hown hK hP hD hS 0 rfl rfl 0 (by decide) (hB _ wd_322) (fun _ h9 => h9) rfl (by decide +kernel) rfl rfl (Nat.le_of_ble_eq_true rfl) dM_clear_2 (fun H locs hP hD hS => ?_)
  have hP : va_P D tbCl [(m0, .inr (2, [.int 0, .int mn, .ref a1, .ref a2, .ref a3, .ref a4, .int zz, .ref a5, .ref a6, .int si])), (a1, .inl (cI, 8, .inl f1)), (a2, .inl (cI, 8, .inl f2)), (a3, .inl (cI, 8, .inl f3)), (a4, .inl (cI, 8192, .inl f4)), (a5, .inl (cI, 1024, .inl f5)), (a6, .inl (cI, 1024, .inl f6))] H := hP
  have hD : va_D A [(m0, .inr (2, [.int 0, .int mn, .ref a1, .ref a2, .ref a3, .ref a4, .int zz, .ref a5, .ref a6, .int si])), (a1, .inl (cI, 8, .inl f1)), (a2, .inl (cI, 8, .inl f2)), (a3, .inl (cI, 8, .inl f3)), (a4, .inl (cI, 8192, .inl f4)), (a5, .inl (cI, 1024, .inl f5)), (a6, .inl (cI, 1024, .inl f6))] := hD
  refine lv_aload_n hx hb dM_clear_5 rfl (lv_at hl 0 rfl) ?_
  refine lv_iconst (v := 0) hx hb dM_clear_6 (by decide) ?_
  refine va_put (D := D) (ci := 2) (v := .int 0) (ty := .int) (C := RM) (T := FM) (N := 10) hx hb hB inM tyM tyM_ok nmM hown hK hP hD hS 0 rfl rfl 1 (by decide) (hB _ wd_323) (fun _ h9 => h9) rfl (by decide +kernel) rfl rfl (Nat.le_of_ble_eq_true rfl) dM_clear_7 (fun H locs hP hD hS => ?_)
  have hP : va_P D tbCl [(m0, .inr (2, [.int 0, .int 0, .ref a1, .ref a2, .ref a3, .ref a4, .int zz, .ref a5, .ref a6, .int si])), (a1, .inl (cI, 8, .inl f1)), (a2, .inl (cI, 8, .inl f2)), (a3, .inl (cI, 8, .inl f3)), (a4, .inl (cI, 8192, .inl f4)), (a5, .inl (cI, 1024, .inl f5)), (a6, .inl (cI, 1024, .inl f6))] H := hP
  have hD : va_D A [(m0, .inr (2, [.int 0, .int 0, .ref a1, .ref a2, .ref a3, .ref a4, .int zz, .ref a5, .ref a6, .int si])), (a1, .inl (cI, 8, .inl f1)), (a2, .inl (cI, 8, .inl f2)), (a3, .inl (cI, 8, .inl f3)), (a4, .inl (cI, 8192, .inl f4)), (a5, .inl (cI, 1024, .inl f5)), (a6, .inl (cI, 1024, .inl f6))] := hD
  exact W.vret hx hb hr (fun t ht hW => ⟨⟨(), rfl, trivial, (by have h9 := hP; rw [← ht] at h9; exact h9)⟩, hS.F ht⟩) hS.2.2 dM_clear_10

set_option maxHeartbeats 4000000 in
set_option maxRecDepth 100000 in
theorem kM_count (l : Launch) (D : va_G) (sz : Nat) (cI : ClassId) (m0 a1 a2 a3 a4 a5 a6 : Nat) (th mn zz si : Int32) (f1 f2 f3 f4 f5 f6 : Nat → Int32) (w9 : Int32) : Met l yM_count wM_count (k2_rm 0 0) (wr_P [.ref m0, .int w9] sz D [(cI, .int)] [(m0, .inr (2, [.int th, .int mn, .ref a1, .ref a2, .ref a3, .ref a4, .int zz, .ref a5, .ref a6, .int si])), (a1, .inl (cI, 8, .inl f1)), (a2, .inl (cI, 8, .inl f2)), (a3, .inl (cI, 8, .inl f3)), (a4, .inl (cI, 8192, .inl f4)), (a5, .inl (cI, 1024, .inl f5)), (a6, .inl (cI, 1024, .inl f6))]) (wr_Qi (tb_count zz mn w9) D (va_A [(m0, .inr (2, [.int th, .int mn, .ref a1, .ref a2, .ref a3, .ref a4, .int zz, .ref a5, .ref a6, .int si])), (a1, .inl (cI, 8, .inl f1)), (a2, .inl (cI, 8, .inl f2)), (a3, .inl (cI, 8, .inl f3)), (a4, .inl (cI, 8192, .inl f4)), (a5, .inl (cI, 1024, .inl f5)), (a6, .inl (cI, 1024, .inl f6))] sz) [(m0, .inr (2, [.int 0, .int mn, .ref a1, .ref a2, .ref a3, .ref a4, .int zz, .ref a5, .ref a6, .int si])), (a1, .inl (cI, 8, .inl f1)), (a2, .inl (cI, 8, .inl f2)), (a3, .inl (cI, 8, .inl f3)), (a4, .inl (cI, 8192, .inl f4)), (a5, .inl (cI, 1024, .inl f5)), (a6, .inl (cI, 1024, .inl f6))]) 0 0 (va_A [(m0, .inr (2, [.int th, .int mn, .ref a1, .ref a2, .ref a3, .ref a4, .int zz, .ref a5, .ref a6, .int si])), (a1, .inl (cI, 8, .inl f1)), (a2, .inl (cI, 8, .inl f2)), (a3, .inl (cI, 8, .inl f3)), (a4, .inl (cI, 8192, .inl f4)), (a5, .inl (cI, 1024, .inl f5)), (a6, .inl (cI, 1024, .inl f6))] sz) := by
  refine Met.ofW (cc := cM_count) (maxL := 2) (ret := (some .int)) (by decide) rfl ?_
  intro p e s m args below meth c s₁ B hml hv
  obtain ⟨rfl, hsz, hC, hP, hK, hD0⟩ := hv
  have hx := B.exec
  have hb := B.bytes
  have hr := B.returns
  have hB : ∀ w ∈ tbB, w.before _ s = true := fun w h => (atoms_spec (ws := wM_count) B.pre) w (List.mem_cons_of_mem _ h)
  have hown : s.vm.findClass "TextureBankModel" = some m.cls := findClass_of_methodNamed B.named
  have hlocks := B.notSynchronized
  subst hsz
  have hD := hD0.self (sz := s.heap.size)
  generalize hAe : va_A [(m0, .inr (2, [.int th, .int mn, .ref a1, .ref a2, .ref a3, .ref a4, .int zz, .ref a5, .ref a6, .int si])), (a1, .inl (cI, 8, .inl f1)), (a2, .inl (cI, 8, .inl f2)), (a3, .inl (cI, 8, .inl f3)), (a4, .inl (cI, 8192, .inl f4)), (a5, .inl (cI, 1024, .inl f5)), (a6, .inl (cI, 1024, .inl f6))] s.heap.size = A at hD ⊢
  have hA : ∀ q : Nat, s.heap.size ≤ q → A q := fun q h => by rw [← hAe]; exact Or.inr h
  have hS : va_S A s.heap s.heap [] := va_S.rf
  have hl := lv_entry ([.ref m0, .int w9]) (n := 2) (Nat.le_of_ble_eq_true rfl)
  rw [lg_entry_eq]
  generalize (lg_sl ([.ref m0, .int w9]) ++ List.replicate (2 - (lg_sl ([.ref m0, .int w9])).length) Slot.unset).toArray = ls at hl ⊢
  have hl : lv_has ls 2 [(0, .ref m0), (1, .int w9)] := hl
  refine lv_aload_n hx hb dM_count_0 rfl (lv_at hl 0 rfl) ?_
  refine lv_iconst (v := 0) hx hb dM_count_1 (by decide) ?_
  refine va_put (D := D) (ci := 2) (v := .int 0) (ty := .int) (C := RM) (T := FM) (N := 10) hx hb hB inM tyM tyM_ok nmM hown hK hP hD hS 0 rfl rfl 0 (by decide) (hB _ wd_322) (fun _ h9 => h9) rfl (by decide +kernel) rfl rfl (Nat.le_of_ble_eq_true rfl) dM_count_2 (fun H locs hP hD hS => ?_)
  have hP : va_P D tbCl [(m0, .inr (2, [.int 0, .int mn, .ref a1, .ref a2, .ref a3, .ref a4, .int zz, .ref a5, .ref a6, .int si])), (a1, .inl (cI, 8, .inl f1)), (a2, .inl (cI, 8, .inl f2)), (a3, .inl (cI, 8, .inl f3)), (a4, .inl (cI, 8192, .inl f4)), (a5, .inl (cI, 1024, .inl f5)), (a6, .inl (cI, 1024, .inl f6))] H := hP
  have hD : va_D A [(m0, .inr (2, [.int 0, .int mn, .ref a1, .ref a2, .ref a3, .ref a4, .int zz, .ref a5, .ref a6, .int si])), (a1, .inl (cI, 8, .inl f1)), (a2, .inl (cI, 8, .inl f2)), (a3, .inl (cI, 8, .inl f3)), (a4, .inl (cI, 8192, .inl f4)), (a5, .inl (cI, 1024, .inl f5)), (a6, .inl (cI, 1024, .inl f6))] := hD
  refine lv_iload_n hx hb dM_count_5 rfl (lv_at hl 1 rfl) ?_
  refine lv_if_ne (tgt := 16) hx hb dM_count_6 (by decide) (fun c_1 => ?_) (fun c_1 => ?_)
  · refine lv_iload_n hx hb dM_count_16 rfl (lv_at hl 1 rfl) ?_
    refine lv_iconst (v := 1) hx hb dM_count_17 (by decide) ?_
    refine lv_icmp_ne (tgt := 28) hx hb dM_count_18 (by decide) (fun c_2 => ?_) (fun c_2 => ?_)
    · refine lv_iconst (v := (-1)) hx hb dM_count_28 (by decide) ?_
      exact W.iret hx hb hr (fun t ht hW => ⟨⟨_, (), rfl, by unfold tb_count; (first | rw [if_pos c_1] | rw [if_neg c_1]); (first | rw [if_pos c_2] | rw [if_neg c_2]), (by have h9 : va_P D tbCl [(m0, .inr (2, [.int 0, .int mn, .ref a1, .ref a2, .ref a3, .ref a4, .int zz, .ref a5, .ref a6, .int si])), (a1, .inl (cI, 8, .inl f1)), (a2, .inl (cI, 8, .inl f2)), (a3, .inl (cI, 8, .inl f3)), (a4, .inl (cI, 8192, .inl f4)), (a5, .inl (cI, 1024, .inl f5)), (a6, .inl (cI, 1024, .inl f6))] H := hP; rw [← ht] at h9; exact h9)⟩, hS.F ht⟩) hS.2.2 dM_count_29
    · refine lv_aload_n hx hb dM_count_21 rfl (lv_at hl 0 rfl) ?_
      refine va_get (D := D) (ci := 2) (v := .int zz) (C := RM) (T := FM) (N := 10) hx hb hB inM hown hK hP 0 rfl rfl 6 (by decide) (hB _ wd_328) (fun _ h9 => h9) rfl dM_count_22 ?_
      refine lv_goto (tgt := 29) hx hb dM_count_25 (by decide) ?_
      exact W.iret hx hb hr (fun t ht hW => ⟨⟨_, (), rfl, by unfold tb_count; (first | rw [if_pos c_1] | rw [if_neg c_1]); (first | rw [if_pos c_2] | rw [if_neg c_2]), (by have h9 : va_P D tbCl [(m0, .inr (2, [.int 0, .int mn, .ref a1, .ref a2, .ref a3, .ref a4, .int zz, .ref a5, .ref a6, .int si])), (a1, .inl (cI, 8, .inl f1)), (a2, .inl (cI, 8, .inl f2)), (a3, .inl (cI, 8, .inl f3)), (a4, .inl (cI, 8192, .inl f4)), (a5, .inl (cI, 1024, .inl f5)), (a6, .inl (cI, 1024, .inl f6))] H := hP; rw [← ht] at h9; exact h9)⟩, hS.F ht⟩) hS.2.2 dM_count_29
  · refine lv_aload_n hx hb dM_count_9 rfl (lv_at hl 0 rfl) ?_
    refine va_get (D := D) (ci := 2) (v := .int mn) (C := RM) (T := FM) (N := 10) hx hb hB inM hown hK hP 0 rfl rfl 1 (by decide) (hB _ wd_323) (fun _ h9 => h9) rfl dM_count_10 ?_
    refine lv_goto (tgt := 29) hx hb dM_count_13 (by decide) ?_
    exact W.iret hx hb hr (fun t ht hW => ⟨⟨_, (), rfl, by unfold tb_count; (first | rw [if_pos c_1] | rw [if_neg c_1]), (by have h9 : va_P D tbCl [(m0, .inr (2, [.int 0, .int mn, .ref a1, .ref a2, .ref a3, .ref a4, .int zz, .ref a5, .ref a6, .int si])), (a1, .inl (cI, 8, .inl f1)), (a2, .inl (cI, 8, .inl f2)), (a3, .inl (cI, 8, .inl f3)), (a4, .inl (cI, 8192, .inl f4)), (a5, .inl (cI, 1024, .inl f5)), (a6, .inl (cI, 1024, .inl f6))] H := hP; rw [← ht] at h9; exact h9)⟩, hS.F ht⟩) hS.2.2 dM_count_29
