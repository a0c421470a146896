set_option maxHeartbeats 4000000 in
set_option maxRecDepth 100000 in
theorem kT_startOf (l : Launch) (x : Int32) : Met l yT_startOf wT_startOf (k2_rm 0 0) (fun v _ => v = ([.int x] : List Value).toArray) (k2_QcV (.int (tt_start x))) 0 0 (fun _ => False) := by
  refine Met.ofW (cc := cT_startOf) (maxL := 1) (ret := (some .int)) (by decide) rfl ?_
  intro p e s m args below meth c s₁ B hml hv
  obtain rfl := hv
  have hx := B.exec
  have hb := B.bytes
  have hr := B.returns
  have hB : ∀ w ∈ tbB, w.before _ s = true := fun w h => (atoms_spec (ws := wT_startOf) B.pre) w (List.mem_cons_of_mem _ h)
  have hown : s.vm.findClass "TextureBank$Texture" = some m.cls := findClass_of_methodNamed B.named
  have hlocks := B.notSynchronized
  have hl := lv_entry ([.int x]) (n := 1) (Nat.le_of_ble_eq_true rfl)
  rw [lg_entry_eq]
  generalize (lg_sl ([.int x]) ++ List.replicate (1 - (lg_sl ([.int x])).length) Slot.unset).toArray = ls at hl ⊢
  have hl : lv_has ls 1 [(0, .int x)] := hl
  refine lv_iload_n hx hb dT_startOf_0 rfl (lv_at hl 0 rfl) ?_
  refine lv_iload_n hx hb dT_startOf_1 rfl (lv_at hl 0 rfl) ?_
  refine lv_imul hx hb dT_startOf_2 ?_
  refine lv_iconst (v := 1) hx hb dT_startOf_3 (by decide) ?_
  refine lv_isub hx hb dT_startOf_4 ?_
  refine lv_iconst (v := 3) hx hb dT_startOf_5 (by decide) ?_
  refine lv_idiv hx hb dT_startOf_6 (by decide) ?_
  exact W.iret hx hb hr (fun t ht _ => ⟨tbI (rfl), ht⟩) (fun q hq => nomatch hq) dT_startOf_7

set_option maxHeartbeats 4000000 in
set_option maxRecDepth 100000 in
theorem kT_hasLevel (l : Launch) (D : va_G) (cI : ClassId) (t0 g0 : Nat) (sd wr sf lv : Int32) (g : Nat → Int32) (x : Int32) : Met l yT_hasLevel wT_hasLevel (k2_rm 0 0) (rd_P [.ref t0, .int x] D [(cI, .int)] [(t0, .inr (0, [.ref g0, .int sd, .int wr, .int sf, .int lv])), (g0, .inl (cI, 1365, .inl g))]) (k2_QcV (.int (tt_has lv x))) 0 0 (fun _ => False) := by
  refine Met.ofW (cc := cT_hasLevel) (maxL := 2) (ret := (some .boolean)) (by decide) rfl ?_
  intro p e s m args below meth c s₁ B hml hv
  obtain ⟨rfl, hC, hP, hK⟩ := hv
  have hx := B.exec
  have hb := B.bytes
  have hr := B.returns
  have hB : ∀ w ∈ tbB, w.before _ s = true := fun w h => (atoms_spec (ws := wT_hasLevel) B.pre) w (List.mem_cons_of_mem _ h)
  have hown : s.vm.findClass "TextureBank$Texture" = some m.cls := findClass_of_methodNamed B.named
  have hlocks := B.notSynchronized
  have hl := lv_entry ([.ref t0, .int x]) (n := 2) (Nat.le_of_ble_eq_true rfl)
  rw [lg_entry_eq]
  generalize (lg_sl ([.ref t0, .int x]) ++ List.replicate (2 - (lg_sl ([.ref t0, .int x])).length) Slot.unset).toArray = ls at hl ⊢
  have hl : lv_has ls 2 [(0, .ref t0), (1, .int x)] := hl
  refine lv_iload_n hx hb dT_hasLevel_0 rfl (lv_at hl 1 rfl) ?_
  refine lv_if_lt (tgt := 16) hx hb dT_hasLevel_1 (by decide) (fun c_1 => ?_) (fun c_1 => ?_)
  · refine lv_iconst (v := 0) hx hb dT_hasLevel_16 (by decide) ?_
    exact W.zret hx hb hr rfl (fun t ht _ => ⟨tbI (by unfold tt_has; (first | rw [if_pos c_1] | rw [if_neg c_1])), ht⟩) (fun q hq => nomatch hq) dT_hasLevel_17
  · refine lv_iload_n hx hb dT_hasLevel_4 rfl (lv_at hl 1 rfl) ?_
    refine lv_aload_n hx hb dT_hasLevel_5 rfl (lv_at hl 0 rfl) ?_
    refine va_get (D := D) (ci := 0) (v := .int lv) (C := RT) (T := FT) (N := 5) hx hb hB inT hown hK hP 0 rfl rfl 4 (by decide) (hB _ wd_34) (fun _ h9 => h9) rfl dT_hasLevel_6 ?_
    refine lv_icmp_ge (tgt := 16) hx hb dT_hasLevel_9 (by decide) (fun c_2 => ?_) (fun c_2 => ?_)
    · refine lv_iconst (v := 0) hx hb dT_hasLevel_16 (by decide) ?_
      exact W.zret hx hb hr rfl (fun t ht _ => ⟨tbI (by unfold tt_has; (first | rw [if_pos c_1] | rw [if_neg c_1]); (first | rw [if_pos c_2] | rw [if_neg c_2])), ht⟩) (fun q hq => nomatch hq) dT_hasLevel_17
    · refine lv_iconst (v := 1) hx hb dT_hasLevel_12 (by decide) ?_
      refine lv_goto (tgt := 17) hx hb dT_hasLevel_13 (by decide) ?_
      exact W.zret hx hb hr rfl (fun t ht _ => ⟨tbI (by unfold tt_has; (first | rw [if_pos c_1] | rw [if_neg c_1]); (first | rw [if_pos c_2] | rw [if_neg c_2])), ht⟩) (fun q hq => nomatch hq) dT_hasLevel_17

set_option maxHeartbeats 4000000 in
set_option maxRecDepth 100000 in
theorem kT_sideOf (l : Launch) (D : va_G) (cI : ClassId) (t0 g0 : Nat) (sd wr sf lv : Int32) (g : Nat → Int32) (x : Int32) : Met l yT_sideOf wT_sideOf (k2_rm 0 0) (rd_P [.ref t0, .int x] D [(cI, .int)] [(t0, .inr (0, [.ref g0, .int sd, .int wr, .int sf, .int lv])), (g0, .inl (cI, 1365, .inl g))]) (k2_QcV (.int (sd >>> (x &&& 31)))) 0 0 (fun _ => False) := by
  refine Met.ofW (cc := cT_sideOf) (maxL := 2) (ret := (some .int)) (by decide) rfl ?_
  intro p e s m args below meth c s₁ B hml hv
  obtain ⟨rfl, hC, hP, hK⟩ := hv
  have hx := B.exec
  have hb := B.bytes
  have hr := B.returns
  have hB : ∀ w ∈ tbB, w.before _ s = true := fun w h => (atoms_spec (ws := wT_sideOf) B.pre) w (List.mem_cons_of_mem _ h)
  have hown : s.vm.findClass "TextureBank$Texture" = some m.cls := findClass_of_methodNamed B.named
  have hlocks := B.notSynchronized
  have hl := lv_entry ([.ref t0, .int x]) (n := 2) (Nat.le_of_ble_eq_true rfl)
  rw [lg_entry_eq]
  generalize (lg_sl ([.ref t0, .int x]) ++ List.replicate (2 - (lg_sl ([.ref t0, .int x])).length) Slot.unset).toArray = ls at hl ⊢
  have hl : lv_has ls 2 [(0, .ref t0), (1, .int x)] := hl
  refine lv_aload_n hx hb dT_sideOf_0 rfl (lv_at hl 0 rfl) ?_
  refine va_get (D := D) (ci := 0) (v := .int sd) (C := RT) (T := FT) (N := 5) hx hb hB inT hown hK hP 0 rfl rfl 1 (by decide) (hB _ wd_28) (fun _ h9 => h9) rfl dT_sideOf_1 ?_
  refine lv_iload_n hx hb dT_sideOf_4 rfl (lv_at hl 1 rfl) ?_
  refine lv_ishr hx hb dT_sideOf_5 ?_
  exact W.iret hx hb hr (fun t ht _ => ⟨tbI (rfl), ht⟩) (fun q hq => nomatch hq) dT_sideOf_6

set_option maxHeartbeats 4000000 in
set_option maxRecDepth 100000 in
theorem kT_colourIn (l : Launch) (D : va_G) (cI : ClassId) (t0 g0 : Nat) (sd wr sf lv : Int32) (g : Nat → Int32) (s9 : Int32) (x : Int32) (y : Int32) : Met l yT_colourIn wT_colourIn (k2_rm 1 20) (rd_P [.ref t0, .int s9, .int x, .int y] D [(cI, .int)] [(t0, .inr (0, [.ref g0, .int sd, .int wr, .int sf, .int lv])), (g0, .inl (cI, 1365, .inl g))]) (k2_QcV (.int (tt_at g s9 x y))) 0 0 (fun _ => False) := by
  refine Met.ofW (cc := cT_colourIn) (maxL := 4) (ret := (some .int)) (by decide) rfl ?_
  intro p e s m args below meth c s₁ B hml hv
  obtain ⟨rfl, hC, hP, hK⟩ := hv
  have hx := B.exec
  have hb := B.bytes
  have hr := B.returns
  have hB : ∀ w ∈ tbB, w.before _ s = true := fun w h => (atoms_spec (ws := wT_colourIn) B.pre) w (List.mem_cons_of_mem _ h)
  have hown : s.vm.findClass "TextureBank$Texture" = some m.cls := findClass_of_methodNamed B.named
  have hlocks := B.notSynchronized
  have hl := lv_entry ([.ref t0, .int s9, .int x, .int y]) (n := 4) (Nat.le_of_ble_eq_true rfl)
  rw [lg_entry_eq]
  generalize (lg_sl ([.ref t0, .int s9, .int x, .int y]) ++ List.replicate (4 - (lg_sl ([.ref t0, .int s9, .int x, .int y])).length) Slot.unset).toArray = ls at hl ⊢
  have hl : lv_has ls 4 [(0, .ref t0), (1, .int s9), (2, .int x), (3, .int y)] := hl
  refine lv_iload_n hx hb dT_colourIn_0 rfl (lv_at hl 1 rfl) ?_
  refine lv_bipush (v := 32) hx hb dT_colourIn_1 (by decide) ?_
  refine lv_icmp_gt (tgt := 24) hx hb dT_colourIn_3 (by decide) (fun c_1 => ?_) (fun c_1 => ?_)
  · refine lv_iconst (v := (-1)) hx hb dT_colourIn_24 (by decide) ?_
    exact W.iret hx hb hr (fun t ht _ => ⟨tbI (by unfold tt_at; (first | rw [if_pos c_1] | rw [if_neg c_1])), ht⟩) (fun q hq => nomatch hq) dT_colourIn_25
  · refine lv_iload_n hx hb dT_colourIn_6 rfl (lv_at hl 2 rfl) ?_
    refine lv_if_lt (tgt := 24) hx hb dT_colourIn_7 (by decide) (fun c_2 => ?_) (fun c_2 => ?_)
    · refine lv_iconst (v := (-1)) hx hb dT_colourIn_24 (by decide) ?_
      exact W.iret hx hb hr (fun t ht _ => ⟨tbI (by unfold tt_at; (first | rw [if_pos c_1] | rw [if_neg c_1]); (first | rw [if_pos c_2] | rw [if_neg c_2])), ht⟩) (fun q hq => nomatch hq) dT_colourIn_25
    · refine lv_iload_n hx hb dT_colourIn_10 rfl (lv_at hl 2 rfl) ?_
      refine lv_iload_n hx hb dT_colourIn_11 rfl (lv_at hl 1 rfl) ?_
      refine lv_icmp_ge (tgt := 24) hx hb dT_colourIn_12 (by decide) (fun c_3 => ?_) (fun c_3 => ?_)
      · refine lv_iconst (v := (-1)) hx hb dT_colourIn_24 (by decide) ?_
        exact W.iret hx hb hr (fun t ht _ => ⟨tbI (by unfold tt_at; (first | rw [if_pos c_1] | rw [if_neg c_1]); (first | rw [if_pos c_2] | rw [if_neg c_2]); (first | rw [if_pos c_3] | rw [if_neg c_3])), ht⟩) (fun q hq => nomatch hq) dT_colourIn_25
      · refine lv_iload_n hx hb dT_colourIn_15 rfl (lv_at hl 3 rfl) ?_
        refine lv_if_lt (tgt := 24) hx hb dT_colourIn_16 (by decide) (fun c_4 => ?_) (fun c_4 => ?_)
        · refine lv_iconst (v := (-1)) hx hb dT_colourIn_24 (by decide) ?_
          exact W.iret hx hb hr (fun t ht _ => ⟨tbI (by unfold tt_at; (first | rw [if_pos c_1] | rw [if_neg c_1]); (first | rw [if_pos c_2] | rw [if_neg c_2]); (first | rw [if_pos c_3] | rw [if_neg c_3]); (first | rw [if_pos c_4] | rw [if_neg c_4])), ht⟩) (fun q hq => nomatch hq) dT_colourIn_25
        · refine lv_iload_n hx hb dT_colourIn_19 rfl (lv_at hl 3 rfl) ?_
          refine lv_iload_n hx hb dT_colourIn_20 rfl (lv_at hl 1 rfl) ?_
          refine lv_icmp_lt (tgt := 26) hx hb dT_colourIn_21 (by decide) (fun c_5 => ?_) (fun c_5 => ?_)
          · refine lv_aload_n hx hb dT_colourIn_26 rfl (lv_at hl 0 rfl) ?_
            refine va_get (D := D) (ci := 0) (v := .ref g0) (C := RT) (T := FT) (N := 5) hx hb hB inT hown hK hP 0 rfl rfl 0 (by decide) (hB _ wd_27) (fun _ h9 => h9) rfl dT_colourIn_27 ?_
            refine lv_iload_n hx hb dT_colourIn_30 rfl (lv_at hl 1 rfl) ?_
            refine W.callV (W.runS (As := [.int s9]) (rest := [.ref g0]) ⟨hx, hb, hml, hown, hB⟩ (kT_startOf l s9) ⟨callB_of 1 hB gwT_startOf rfl rfl rfl (hB _ wd_2) (hB _ wd_94) ydT_startOf ⟨Nat.le_of_ble_eq_true rfl, Nat.le_of_ble_eq_true rfl⟩, hB _ wd_95⟩ (preEq) rfl rfl hl.1 rfl (lv_room (Nat.le_of_ble_eq_true rfl)) dT_colourIn_31 ⟨Nat.zero_le _, Nat.zero_le _⟩) ?_
            refine W.eq (g2 := F0 m 34 ls [.int (tt_start s9), .ref g0]) rfl ?_
            refine lv_iload_n hx hb dT_colourIn_34 rfl (lv_at hl 3 rfl) ?_
            refine lv_iload_n hx hb dT_colourIn_35 rfl (lv_at hl 1 rfl) ?_
            refine lv_imul hx hb dT_colourIn_36 ?_
            refine lv_iadd hx hb dT_colourIn_37 ?_
            refine lv_iload_n hx hb dT_colourIn_38 rfl (lv_at hl 2 rfl) ?_
            refine lv_iadd hx hb dT_colourIn_39 ?_
            refine va_iald hx hb hK hP 1 0 (f := g) rfl rfl (i := (((tt_start s9) + (y * s9)) + x)) (tt_idx c_1 c_2 c_3 c_4 c_5) dT_colourIn_40 ?_
            exact W.iret hx hb hr (fun t ht _ => ⟨tbI (by unfold tt_at; (first | rw [if_pos c_1] | rw [if_neg c_1]); (first | rw [if_pos c_2] | rw [if_neg c_2]); (first | rw [if_pos c_3] | rw [if_neg c_3]); (first | rw [if_pos c_4] | rw [if_neg c_4]); (first | rw [if_pos c_5] | rw [if_neg c_5])), ht⟩) (fun q hq => nomatch hq) dT_colourIn_41
          · refine lv_iconst (v := (-1)) hx hb dT_colourIn_24 (by decide) ?_
            exact W.iret hx hb hr (fun t ht _ => ⟨tbI (by unfold tt_at; (first | rw [if_pos c_1] | rw [if_neg c_1]); (first | rw [if_pos c_2] | rw [if_neg c_2]); (first | rw [if_pos c_3] | rw [if_neg c_3]); (first | rw [if_pos c_4] | rw [if_neg c_4]); (first | rw [if_pos c_5] | rw [if_neg c_5])), ht⟩) (fun q hq => nomatch hq) dT_colourIn_25

set_option maxHeartbeats 4000000 in
set_option maxRecDepth 100000 in
theorem kT_meanNumber (l : Launch) (D : va_G) (c1 : Int32) (c2 : Int32) (c3 : Int32) (c4 : Int32) (sh : Int32) : Met l yT_meanNumber wT_meanNumber (k2_rm 1 25) (rd_P [.int c1, .int c2, .int c3, .int c4, .int sh] D [] []) (k2_QcV (.int (tt_mn c1 c2 c3 c4 sh))) 0 0 (fun _ => False) := by
  refine Met.ofW (cc := cT_meanNumber) (maxL := 7) (ret := (some .int)) (by decide) rfl ?_
  intro p e s m args below meth c s₁ B hml hv
  obtain ⟨rfl, hC, hP, hK⟩ := hv
  have hx := B.exec
  have hb := B.bytes
  have hr := B.returns
  have hB : ∀ w ∈ tbB, w.before _ s = true := fun w h => (atoms_spec (ws := wT_meanNumber) B.pre) w (List.mem_cons_of_mem _ h)
  have hown : s.vm.findClass "TextureBank$Texture" = some m.cls := findClass_of_methodNamed B.named
  have hlocks := B.notSynchronized
  have hl := lv_entry ([.int c1, .int c2, .int c3, .int c4, .int sh]) (n := 7) (Nat.le_of_ble_eq_true rfl)
  rw [lg_entry_eq]
  generalize (lg_sl ([.int c1, .int c2, .int c3, .int c4, .int sh]) ++ List.replicate (7 - (lg_sl ([.int c1, .int c2, .int c3, .int c4, .int sh])).length) Slot.unset).toArray = ls at hl ⊢
  have hl : lv_has ls 7 [(0, .int c1), (1, .int c2), (2, .int c3), (3, .int c4), (4, .int sh)] := hl
  refine lv_iload_n hx hb dT_meanNumber_0 rfl (lv_at hl 0 rfl) ?_
  refine lv_iload hx hb dT_meanNumber_1 (lv_at hl 4 rfl) ?_
  refine W.callV (run_of (va_runSN (As := [.int c1, .int sh]) (rest := []) ⟨hx, hb, hml, hown, hB⟩ (kB_numberOf l c1 sh) ⟨va_cnB 2 hB gwB_numberOf rfl rfl rfl (hC.2.2.2.2.2.2.1) (hB _ wd_1) ydB_numberOf ⟨Nat.le_of_ble_eq_true rfl, Nat.le_of_ble_eq_true rfl⟩, hB _ wd_116, trivial⟩ (preEq) rfl rfl hl.1 rfl (lv_room (Nat.le_of_ble_eq_true rfl)) dT_meanNumber_3 ⟨Nat.zero_le _, Nat.zero_le _⟩)) ?_
  refine W.eq (g2 := F0 m 6 ls [.long (tt_num c1 sh)]) rfl ?_
  refine lv_iload_n hx hb dT_meanNumber_6 rfl (lv_at hl 1 rfl) ?_
  refine lv_iload hx hb dT_meanNumber_7 (lv_at hl 4 rfl) ?_
  refine W.callV (run_of (va_runSN (As := [.int c2, .int sh]) (rest := [.long (tt_num c1 sh)]) ⟨hx, hb, hml, hown, hB⟩ (kB_numberOf l c2 sh) ⟨va_cnB 2 hB gwB_numberOf rfl rfl rfl (hC.2.2.2.2.2.2.1) (hB _ wd_1) ydB_numberOf ⟨Nat.le_of_ble_eq_true rfl, Nat.le_of_ble_eq_true rfl⟩, hB _ wd_116, trivial⟩ (preEq) rfl rfl hl.1 rfl (lv_room (Nat.le_of_ble_eq_true rfl)) dT_meanNumber_9 ⟨Nat.zero_le _, Nat.zero_le _⟩)) ?_
  refine W.eq (g2 := F0 m 12 ls [.long (tt_num c2 sh), .long (tt_num c1 sh)]) rfl ?_
  refine lv_ladd hx hb dT_meanNumber_12 ?_
  refine lv_iload_n hx hb dT_meanNumber_13 rfl (lv_at hl 2 rfl) ?_
  refine lv_iload hx hb dT_meanNumber_14 (lv_at hl 4 rfl) ?_
  refine W.callV (run_of (va_runSN (As := [.int c3, .int sh]) (rest := [.long ((tt_num c1 sh) + (tt_num c2 sh))]) ⟨hx, hb, hml, hown, hB⟩ (kB_numberOf l c3 sh) ⟨va_cnB 2 hB gwB_numberOf rfl rfl rfl (hC.2.2.2.2.2.2.1) (hB _ wd_1) ydB_numberOf ⟨Nat.le_of_ble_eq_true rfl, Nat.le_of_ble_eq_true rfl⟩, hB _ wd_116, trivial⟩ (preEq) rfl rfl hl.1 rfl (lv_room (Nat.le_of_ble_eq_true rfl)) dT_meanNumber_16 ⟨Nat.zero_le _, Nat.zero_le _⟩)) ?_
  refine W.eq (g2 := F0 m 19 ls [.long (tt_num c3 sh), .long ((tt_num c1 sh) + (tt_num c2 sh))]) rfl ?_
  refine lv_ladd hx hb dT_meanNumber_19 ?_
  refine lv_iload_n hx hb dT_meanNumber_20 rfl (lv_at hl 3 rfl) ?_
  refine lv_iload hx hb dT_meanNumber_21 (lv_at hl 4 rfl) ?_
  refine W.callV (run_of (va_runSN (As := [.int c4, .int sh]) (rest := [.long (((tt_num c1 sh) + (tt_num c2 sh)) + (tt_num c3 sh))]) ⟨hx, hb, hml, hown, hB⟩ (kB_numberOf l c4 sh) ⟨va_cnB 2 hB gwB_numberOf rfl rfl rfl (hC.2.2.2.2.2.2.1) (hB _ wd_1) ydB_numberOf ⟨Nat.le_of_ble_eq_true rfl, Nat.le_of_ble_eq_true rfl⟩, hB _ wd_116, trivial⟩ (preEq) rfl rfl hl.1 rfl (lv_room (Nat.le_of_ble_eq_true rfl)) dT_meanNumber_23 ⟨Nat.zero_le _, Nat.zero_le _⟩)) ?_
  refine W.eq (g2 := F0 m 26 ls [.long (tt_num c4 sh), .long (((tt_num c1 sh) + (tt_num c2 sh)) + (tt_num c3 sh))]) rfl ?_
  refine lv_ladd hx hb dT_meanNumber_26 ?_
  refine lv_lstore (lv' := [(5, .long ((((tt_num c1 sh) + (tt_num c2 sh)) + (tt_num c3 sh)) + (tt_num c4 sh))), (0, .int c1), (1, .int c2), (2, .int c3), (3, .int c4), (4, .int sh)]) hx hb dT_meanNumber_27 hl (by decide) rfl (fun ls hl => ?_)
  refine lv_lload hx hb dT_meanNumber_29 (lv_at hl 0 rfl) ?_
  refine lv_ldc2 (v := 4) hx hb hown (hB _ wd_118) dT_meanNumber_31 ?_
  refine W.callV (W.runS (As := [.long ((((tt_num c1 sh) + (tt_num c2 sh)) + (tt_num c3 sh)) + (tt_num c4 sh)), .long 4]) (rest := []) ⟨hx, hb, hml, hown, hB⟩ (kJ_floorDiv l ((((tt_num c1 sh) + (tt_num c2 sh)) + (tt_num c3 sh)) + (tt_num c4 sh)) 4 (by decide)) ⟨callB_of 2 hB gwJ_floorDiv rfl rfl rfl (hB _ wd_6) (hB _ wd_119) ydJ_floorDiv ⟨Nat.le_of_ble_eq_true rfl, Nat.le_of_ble_eq_true rfl⟩, hB _ wd_120⟩ (preEq) rfl rfl hl.1 rfl (lv_room (Nat.le_of_ble_eq_true rfl)) dT_meanNumber_34 ⟨Nat.zero_le _, Nat.zero_le _⟩) ?_
  refine W.eq (g2 := F0 m 37 ls [.long (fd_l ((((tt_num c1 sh) + (tt_num c2 sh)) + (tt_num c3 sh)) + (tt_num c4 sh)) 4)]) rfl ?_
  refine lv_l2i hx hb dT_meanNumber_37 rfl ?_
  exact W.iret hx hb hr (fun t ht _ => ⟨tbI (rfl), ht⟩) (fun q hq => nomatch hq) dT_meanNumber_38

set_option maxHeartbeats 4000000 in
set_option maxRecDepth 100000 in
theorem kT_meanOfFour (l : Launch) (D : va_G) (cI : ClassId) (t0 g0 : Nat) (sd wr sf lv : Int32) (g : Nat → Int32) (s9 : Int32) (x : Int32) (y : Int32) : Met l yT_meanOfFour wT_meanOfFour (k2_rm 2 51) (rd_P [.ref t0, .int s9, .int x, .int y] D [(cI, .int)] [(t0, .inr (0, [.ref g0, .int sd, .int wr, .int sf, .int lv])), (g0, .inl (cI, 1365, .inl g))]) (k2_QcV (.int (tt_m4 g s9 x y))) 0 0 (fun _ => False) := by
  refine Met.ofW (cc := cT_meanOfFour) (maxL := 8) (ret := (some .int)) (by decide) rfl ?_
  intro p e s m args below meth c s₁ B hml hv
  obtain ⟨rfl, hC, hP, hK⟩ := hv
  have hx := B.exec
  have hb := B.bytes
  have hr := B.returns
  have hB : ∀ w ∈ tbB, w.before _ s = true := fun w h => (atoms_spec (ws := wT_meanOfFour) B.pre) w (List.mem_cons_of_mem _ h)
  have hown : s.vm.findClass "TextureBank$Texture" = some m.cls := findClass_of_methodNamed B.named
  have hlocks := B.notSynchronized
  have hl := lv_entry ([.ref t0, .int s9, .int x, .int y]) (n := 8) (Nat.le_of_ble_eq_true rfl)
  rw [lg_entry_eq]
  generalize (lg_sl ([.ref t0, .int s9, .int x, .int y]) ++ List.replicate (8 - (lg_sl ([.ref t0, .int s9, .int x, .int y])).length) Slot.unset).toArray = ls at hl ⊢
  have hl : lv_has ls 8 [(0, .ref t0), (1, .int s9), (2, .int x), (3, .int y)] := hl
  refine lv_aload_n hx hb dT_meanOfFour_0 rfl (lv_at hl 0 rfl) ?_
  refine lv_iload_n hx hb dT_meanOfFour_1 rfl (lv_at hl 1 rfl) ?_
  refine lv_iload_n hx hb dT_meanOfFour_2 rfl (lv_at hl 2 rfl) ?_
  refine lv_iload_n hx hb dT_meanOfFour_3 rfl (lv_at hl 3 rfl) ?_
  refine W.callV (W.runV (C := "TextureBank$Texture") (As := [.int s9, .int x, .int y]) (rest := []) ⟨hx, hb, hml, hown, hB⟩ (kT_colourIn l D cI t0 g0 sd wr sf lv g s9 x y) ⟨callB_of 3 hB gwT_colourIn rfl rfl rfl (hB _ wd_2) (hB _ wd_108) ydT_colourIn ⟨Nat.le_of_ble_eq_true rfl, Nat.le_of_ble_eq_true rfl⟩, hB _ wd_110, hB _ ws_3⟩ (rd_V hC (hP.sub [0, 1] rfl) (hK.sub [0] rfl) (va_recv hK hP (ci := 0) (q0 := 0) rfl rfl)) rfl rfl hl.1 rfl (lv_room (Nat.le_of_ble_eq_true rfl)) dT_meanOfFour_4 ⟨Nat.zero_le _, Nat.zero_le _⟩) ?_
  refine W.eq (g2 := F0 m 7 ls [.int (tt_at g s9 x y)]) rfl ?_
  refine lv_topi (fun v1 ev1 => ?_)
  refine lv_istore (lv' := [(4, .int v1), (0, .ref t0), (1, .int s9), (2, .int x), (3, .int y)]) hx hb dT_meanOfFour_7 hl (by decide) rfl (fun ls hl => ?_)
  refine lv_aload_n hx hb dT_meanOfFour_9 rfl (lv_at hl 1 rfl) ?_
  refine lv_iload_n hx hb dT_meanOfFour_10 rfl (lv_at hl 2 rfl) ?_
  refine lv_iload_n hx hb dT_meanOfFour_11 rfl (lv_at hl 3 rfl) ?_
  refine lv_iconst (v := 1) hx hb dT_meanOfFour_12 (by decide) ?_
  refine lv_iadd hx hb dT_meanOfFour_13 ?_
  refine lv_iload_n hx hb dT_meanOfFour_14 rfl (lv_at hl 4 rfl) ?_
  refine W.callV (W.runV (C := "TextureBank$Texture") (As := [.int s9, .int (x + 1), .int y]) (rest := []) ⟨hx, hb, hml, hown, hB⟩ (kT_colourIn l D cI t0 g0 sd wr sf lv g s9 (x + 1) y) ⟨callB_of 3 hB gwT_colourIn rfl rfl rfl (hB _ wd_2) (hB _ wd_108) ydT_colourIn ⟨Nat.le_of_ble_eq_true rfl, Nat.le_of_ble_eq_true rfl⟩, hB _ wd_110, hB _ ws_3⟩ (rd_V hC (hP.sub [0, 1] rfl) (hK.sub [0] rfl) (va_recv hK hP (ci := 0) (q0 := 0) rfl rfl)) rfl rfl hl.1 rfl (lv_room (Nat.le_of_ble_eq_true rfl)) dT_meanOfFour_15 ⟨Nat.zero_le _, Nat.zero_le _⟩) ?_
  refine W.eq (g2 := F0 m 18 ls [.int (tt_at g s9 (x + 1) y)]) rfl ?_
  refine lv_topi (fun v2 ev2 => ?_)
  refine lv_istore (lv' := [(5, .int v2), (4, .int v1), (0, .ref t0), (1, .int s9), (2, .int x), (3, .int y)]) hx hb dT_meanOfFour_18 hl (by decide) rfl (fun ls hl => ?_)
  refine lv_aload_n hx hb dT_meanOfFour_20 rfl (lv_at hl 2 rfl) ?_
  refine lv_iload_n hx hb dT_meanOfFour_21 rfl (lv_at hl 3 rfl) ?_
  refine lv_iload_n hx hb dT_meanOfFour_22 rfl (lv_at hl 4 rfl) ?_
  refine lv_iload_n hx hb dT_meanOfFour_23 rfl (lv_at hl 5 rfl) ?_
  refine lv_iconst (v := 1) hx hb dT_meanOfFour_24 (by decide) ?_
  refine lv_iadd hx hb dT_meanOfFour_25 ?_
  refine W.callV (W.runV (C := "TextureBank$Texture") (As := [.int s9, .int x, .int (y + 1)]) (rest := []) ⟨hx, hb, hml, hown, hB⟩ (kT_colourIn l D cI t0 g0 sd wr sf lv g s9 x (y + 1)) ⟨callB_of 3 hB gwT_colourIn rfl rfl rfl (hB _ wd_2) (hB _ wd_108) ydT_colourIn ⟨Nat.le_of_ble_eq_true rfl, Nat.le_of_ble_eq_true rfl⟩, hB _ wd_110, hB _ ws_3⟩ (rd_V hC (hP.sub [0, 1] rfl) (hK.sub [0] rfl) (va_recv hK hP (ci := 0) (q0 := 0) rfl rfl)) rfl rfl hl.1 rfl (lv_room (Nat.le_of_ble_eq_true rfl)) dT_meanOfFour_26 ⟨Nat.zero_le _, Nat.zero_le _⟩) ?_
  refine W.eq (g2 := F0 m 29 ls [.int (tt_at g s9 x (y + 1))]) rfl ?_
  refine lv_topi (fun v3 ev3 => ?_)
  refine lv_istore (lv' := [(6, .int v3), (5, .int v2), (4, .int v1), (0, .ref t0), (1, .int s9), (2, .int x), (3, .int y)]) hx hb dT_meanOfFour_29 hl (by decide) rfl (fun ls hl => ?_)
  refine lv_aload_n hx hb dT_meanOfFour_31 rfl (lv_at hl 3 rfl) ?_
  refine lv_iload_n hx hb dT_meanOfFour_32 rfl (lv_at hl 4 rfl) ?_
  refine lv_iload_n hx hb dT_meanOfFour_33 rfl (lv_at hl 5 rfl) ?_
  refine lv_iconst (v := 1) hx hb dT_meanOfFour_34 (by decide) ?_
  refine lv_iadd hx hb dT_meanOfFour_35 ?_
  refine lv_iload_n hx hb dT_meanOfFour_36 rfl (lv_at hl 6 rfl) ?_
  refine lv_iconst (v := 1) hx hb dT_meanOfFour_37 (by decide) ?_
  refine lv_iadd hx hb dT_meanOfFour_38 ?_
  refine W.callV (W.runV (C := "TextureBank$Texture") (As := [.int s9, .int (x + 1), .int (y + 1)]) (rest := []) ⟨hx, hb, hml, hown, hB⟩ (kT_colourIn l D cI t0 g0 sd wr sf lv g s9 (x + 1) (y + 1)) ⟨callB_of 3 hB gwT_colourIn rfl rfl rfl (hB _ wd_2) (hB _ wd_108) ydT_colourIn ⟨Nat.le_of_ble_eq_true rfl, Nat.le_of_ble_eq_true rfl⟩, hB _ wd_110, hB _ ws_3⟩ (rd_V hC (hP.sub [0, 1] rfl) (hK.sub [0] rfl) (va_recv hK hP (ci := 0) (q0 := 0) rfl rfl)) rfl rfl hl.1 rfl (lv_room (Nat.le_of_ble_eq_true rfl)) dT_meanOfFour_39 ⟨Nat.zero_le _, Nat.zero_le _⟩) ?_
  refine W.eq (g2 := F0 m 42 ls [.int (tt_at g s9 (x + 1) (y + 1))]) rfl ?_
  refine lv_topi (fun v4 ev4 => ?_)
  refine lv_istore (lv' := [(7, .int v4), (6, .int v3), (5, .int v2), (4, .int v1), (0, .ref t0), (1, .int s9), (2, .int x), (3, .int y)]) hx hb dT_meanOfFour_42 hl (by decide) rfl (fun ls hl => ?_)
  refine lv_iload hx hb dT_meanOfFour_44 (lv_at hl 3 rfl) ?_
  refine lv_iload hx hb dT_meanOfFour_46 (lv_at hl 2 rfl) ?_
  refine lv_iload hx hb dT_meanOfFour_48 (lv_at hl 1 rfl) ?_
  refine lv_iload hx hb dT_meanOfFour_50 (lv_at hl 0 rfl) ?_
  refine lv_bipush (v := 16) hx hb dT_meanOfFour_52 (by decide) ?_
  refine W.callV (W.runS (As := [.int v1, .int v2, .int v3, .int v4, .int 16]) (rest := []) ⟨hx, hb, hml, hown, hB⟩ (kT_meanNumber l D v1 v2 v3 v4 16) ⟨callB_of 5 hB gwT_meanNumber rfl rfl rfl (hB _ wd_2) (hB _ wd_112) ydT_meanNumber ⟨Nat.le_of_ble_eq_true rfl, Nat.le_of_ble_eq_true rfl⟩, hB _ wd_113⟩ (rd_S hC tbP0 (hK.sub [] rfl)) rfl rfl hl.1 rfl (lv_room (Nat.le_of_ble_eq_true rfl)) dT_meanOfFour_54 ⟨Nat.zero_le _, Nat.zero_le _⟩) ?_
  refine W.eq (g2 := F0 m 57 ls [.int (tt_mn v1 v2 v3 v4 16)]) rfl ?_
  refine lv_iload hx hb dT_meanOfFour_57 (lv_at hl 3 rfl) ?_
  refine lv_iload hx hb dT_meanOfFour_59 (lv_at hl 2 rfl) ?_
  refine lv_iload hx hb dT_meanOfFour_61 (lv_at hl 1 rfl) ?_
  refine lv_iload hx hb dT_meanOfFour_63 (lv_at hl 0 rfl) ?_
  refine lv_bipush (v := 8) hx hb dT_meanOfFour_65 (by decide) ?_
  refine W.callV (W.runS (As := [.int v1, .int v2, .int v3, .int v4, .int 8]) (rest := [.int (tt_mn v1 v2 v3 v4 16)]) ⟨hx, hb, hml, hown, hB⟩ (kT_meanNumber l D v1 v2 v3 v4 8) ⟨callB_of 5 hB gwT_meanNumber rfl rfl rfl (hB _ wd_2) (hB _ wd_112) ydT_meanNumber ⟨Nat.le_of_ble_eq_true rfl, Nat.le_of_ble_eq_true rfl⟩, hB _ wd_113⟩ (rd_S hC tbP0 (hK.sub [] rfl)) rfl rfl hl.1 rfl (lv_room (Nat.le_of_ble_eq_true rfl)) dT_meanOfFour_67 ⟨Nat.zero_le _, Nat.zero_le _⟩) ?_
  refine W.eq (g2 := F0 m 70 ls [.int (tt_mn v1 v2 v3 v4 8), .int (tt_mn v1 v2 v3 v4 16)]) rfl ?_
  refine lv_iload hx hb dT_meanOfFour_70 (lv_at hl 3 rfl) ?_
  refine lv_iload hx hb dT_meanOfFour_72 (lv_at hl 2 rfl) ?_
  refine lv_iload hx hb dT_meanOfFour_74 (lv_at hl 1 rfl) ?_
  refine lv_iload hx hb dT_meanOfFour_76 (lv_at hl 0 rfl) ?_
  refine lv_iconst (v := 0) hx hb dT_meanOfFour_78 (by decide) ?_
  refine W.callV (W.runS (As := [.int v1, .int v2, .int v3, .int v4, .int 0]) (rest := [.int (tt_mn v1 v2 v3 v4 8), .int (tt_mn v1 v2 v3 v4 16)]) ⟨hx, hb, hml, hown, hB⟩ (kT_meanNumber l D v1 v2 v3 v4 0) ⟨callB_of 5 hB gwT_meanNumber rfl rfl rfl (hB _ wd_2) (hB _ wd_112) ydT_meanNumber ⟨Nat.le_of_ble_eq_true rfl, Nat.le_of_ble_eq_true rfl⟩, hB _ wd_113⟩ (rd_S hC tbP0 (hK.sub [] rfl)) rfl rfl hl.1 rfl (lv_room (Nat.le_of_ble_eq_true rfl)) dT_meanOfFour_79 ⟨Nat.zero_le _, Nat.zero_le _⟩) ?_
  refine W.eq (g2 := F0 m 82 ls [.int (tt_mn v1 v2 v3 v4 0), .int (tt_mn v1 v2 v3 v4 8), .int (tt_mn v1 v2 v3 v4 16)]) rfl ?_
  refine W.callV (run_of (va_runSN (As := [.int (tt_mn v1 v2 v3 v4 16), .int (tt_mn v1 v2 v3 v4 8), .int (tt_mn v1 v2 v3 v4 0)]) (rest := []) ⟨hx, hb, hml, hown, hB⟩ (kB_colourOf l (tt_mn v1 v2 v3 v4 16) (tt_mn v1 v2 v3 v4 8) (tt_mn v1 v2 v3 v4 0)) ⟨va_cnB 3 hB gwB_colourOf rfl rfl rfl (hC.2.2.2.2.2.2.2.1) (hB _ wd_1) ydB_colourOf ⟨Nat.le_of_ble_eq_true rfl, Nat.le_of_ble_eq_true rfl⟩, hB _ wd_69, trivial⟩ (preEq) rfl rfl hl.1 rfl (lv_room (Nat.le_of_ble_eq_true rfl)) dT_meanOfFour_82 ⟨Nat.zero_le _, Nat.zero_le _⟩)) ?_
  refine W.eq (g2 := F0 m 85 ls [.int (tt_col (tt_mn v1 v2 v3 v4 16) (tt_mn v1 v2 v3 v4 8) (tt_mn v1 v2 v3 v4 0))]) rfl ?_
  exact W.iret hx hb hr (fun t ht _ => ⟨tbI (by subst ev1; subst ev2; subst ev3; subst ev4; rfl), ht⟩) (fun q hq => nomatch hq) dT_meanOfFour_85

set_option maxHeartbeats 4000000 in
set_option maxRecDepth 100000 in
theorem kT_mixed (l : Launch) (D : va_G) (c1 : Int32) (c2 : Int32) (gg : Int64) (sh : Int32) : Met l yT_mixed wT_mixed (k2_rm 1 21) (rd_P [.int c1, .int c2, .long gg, .int sh] D [] []) (k2_QcV (.long (tt_mix c1 c2 gg sh))) 0 0 (fun _ => False) := by
  refine Met.ofW (cc := cT_mixed) (maxL := 5) (ret := (some .long)) (by decide) rfl ?_
  intro p e s m args below meth c s₁ B hml hv
  obtain ⟨rfl, hC, hP, hK⟩ := hv
  have hx := B.exec
  have hb := B.bytes
  have hr := B.returns
  have hB : ∀ w ∈ tbB, w.before _ s = true := fun w h => (atoms_spec (ws := wT_mixed) B.pre) w (List.mem_cons_of_mem _ h)
  have hown : s.vm.findClass "TextureBank$Texture" = some m.cls := findClass_of_methodNamed B.named
  have hlocks := B.notSynchronized
  have hl := lv_entry ([.int c1, .int c2, .long gg, .int sh]) (n := 5) (Nat.le_of_ble_eq_true rfl)
  rw [lg_entry_eq]
  generalize (lg_sl ([.int c1, .int c2, .long gg, .int sh]) ++ List.replicate (5 - (lg_sl ([.int c1, .int c2, .long gg, .int sh])).length) Slot.unset).toArray = ls at hl ⊢
  have hl : lv_has ls 5 [(0, .int c1), (1, .int c2), (2, .long gg), (4, .int sh)] := hl
  refine lv_iload_n hx hb dT_mixed_0 rfl (lv_at hl 0 rfl) ?_
  refine lv_iload hx hb dT_mixed_1 (lv_at hl 3 rfl) ?_
  refine W.callV (run_of (va_runSN (As := [.int c1, .int sh]) (rest := []) ⟨hx, hb, hml, hown, hB⟩ (kB_numberOf l c1 sh) ⟨va_cnB 2 hB gwB_numberOf rfl rfl rfl (hC.2.2.2.2.2.2.1) (hB _ wd_1) ydB_numberOf ⟨Nat.le_of_ble_eq_true rfl, Nat.le_of_ble_eq_true rfl⟩, hB _ wd_116, trivial⟩ (preEq) rfl rfl hl.1 rfl (lv_room (Nat.le_of_ble_eq_true rfl)) dT_mixed_3 ⟨Nat.zero_le _, Nat.zero_le _⟩)) ?_
  refine W.eq (g2 := F0 m 6 ls [.long (tt_num c1 sh)]) rfl ?_
  refine lv_ldc2 (v := 256) hx hb hown (hB _ wd_270) dT_mixed_6 ?_
  refine lv_lload_n hx hb dT_mixed_9 rfl (lv_at hl 2 rfl) ?_
  refine lv_lsub hx hb dT_mixed_10 ?_
  refine lv_lmul hx hb dT_mixed_11 ?_
  refine lv_iload_n hx hb dT_mixed_12 rfl (lv_at hl 1 rfl) ?_
  refine lv_iload hx hb dT_mixed_13 (lv_at hl 3 rfl) ?_
  refine W.callV (run_of (va_runSN (As := [.int c2, .int sh]) (rest := [.long ((tt_num c1 sh) * (256 - gg))]) ⟨hx, hb, hml, hown, hB⟩ (kB_numberOf l c2 sh) ⟨va_cnB 2 hB gwB_numberOf rfl rfl rfl (hC.2.2.2.2.2.2.1) (hB _ wd_1) ydB_numberOf ⟨Nat.le_of_ble_eq_true rfl, Nat.le_of_ble_eq_true rfl⟩, hB _ wd_116, trivial⟩ (preEq) rfl rfl hl.1 rfl (lv_room (Nat.le_of_ble_eq_true rfl)) dT_mixed_15 ⟨Nat.zero_le _, Nat.zero_le _⟩)) ?_
  refine W.eq (g2 := F0 m 18 ls [.long (tt_num c2 sh), .long ((tt_num c1 sh) * (256 - gg))]) rfl ?_
  refine lv_lload_n hx hb dT_mixed_18 rfl (lv_at hl 2 rfl) ?_
  refine lv_lmul hx hb dT_mixed_19 ?_
  refine lv_ladd hx hb dT_mixed_20 ?_
  exact W.lret hx hb hr (fun t ht _ => ⟨tbL (rfl), ht⟩) (fun q hq => nomatch hq) dT_mixed_21

set_option maxHeartbeats 4000000 in
set_option maxRecDepth 100000 in
theorem kT_softNumber (l : Launch) (up : Int64) (lo : Int64) (kk : Int64) : Met l yT_softNumber wT_softNumber (k2_rm 1 25) (fun v _ => v = ([.long up, .long lo, .long kk] : List Value).toArray) (k2_QcV (.int (tt_sn up lo kk))) 0 0 (fun _ => False) := by
  refine Met.ofW (cc := cT_softNumber) (maxL := 6) (ret := (some .int)) (by decide) rfl ?_
  intro p e s m args below meth c s₁ B hml hv
  obtain rfl := hv
  have hx := B.exec
  have hb := B.bytes
  have hr := B.returns
  have hB : ∀ w ∈ tbB, w.before _ s = true := fun w h => (atoms_spec (ws := wT_softNumber) B.pre) w (List.mem_cons_of_mem _ h)
  have hown : s.vm.findClass "TextureBank$Texture" = some m.cls := findClass_of_methodNamed B.named
  have hlocks := B.notSynchronized
  have hl := lv_entry ([.long up, .long lo, .long kk]) (n := 6) (Nat.le_of_ble_eq_true rfl)
  rw [lg_entry_eq]
  generalize (lg_sl ([.long up, .long lo, .long kk]) ++ List.replicate (6 - (lg_sl ([.long up, .long lo, .long kk])).length) Slot.unset).toArray = ls at hl ⊢
  have hl : lv_has ls 6 [(0, .long up), (2, .long lo), (4, .long kk)] := hl
  refine lv_lload_n hx hb dT_softNumber_0 rfl (lv_at hl 0 rfl) ?_
  refine lv_ldc2 (v := 256) hx hb hown (hB _ wd_270) dT_softNumber_1 ?_
  refine lv_lload hx hb dT_softNumber_4 (lv_at hl 2 rfl) ?_
  refine lv_lsub hx hb dT_softNumber_6 ?_
  refine lv_lmul hx hb dT_softNumber_7 ?_
  refine lv_lload_n hx hb dT_softNumber_8 rfl (lv_at hl 1 rfl) ?_
  refine lv_lload hx hb dT_softNumber_9 (lv_at hl 2 rfl) ?_
  refine lv_lmul hx hb dT_softNumber_11 ?_
  refine lv_ladd hx hb dT_softNumber_12 ?_
  refine lv_ldc2 (v := 65536) hx hb hown (hB _ wd_269) dT_softNumber_13 ?_
  refine W.callV (W.runS (As := [.long ((up * (256 - kk)) + (lo * kk)), .long 65536]) (rest := []) ⟨hx, hb, hml, hown, hB⟩ (kJ_floorDiv l ((up * (256 - kk)) + (lo * kk)) 65536 (by decide)) ⟨callB_of 2 hB gwJ_floorDiv rfl rfl rfl (hB _ wd_6) (hB _ wd_119) ydJ_floorDiv ⟨Nat.le_of_ble_eq_true rfl, Nat.le_of_ble_eq_true rfl⟩, hB _ wd_120⟩ (preEq) rfl rfl hl.1 rfl (lv_room (Nat.le_of_ble_eq_true rfl)) dT_softNumber_16 ⟨Nat.zero_le _, Nat.zero_le _⟩) ?_
  refine W.eq (g2 := F0 m 19 ls [.long (fd_l ((up * (256 - kk)) + (lo * kk)) 65536)]) rfl ?_
  refine lv_l2i hx hb dT_softNumber_19 rfl ?_
  exact W.iret hx hb hr (fun t ht _ => ⟨tbI (rfl), ht⟩) (fun q hq => nomatch hq) dT_softNumber_20

set_option maxHeartbeats 4000000 in
set_option maxRecDepth 100000 in
theorem kT_wrapped (l : Launch) (D : va_G) (cI : ClassId) (t0 g0 : Nat) (sd wr sf lv : Int32) (g : Nat → Int32) (n : Int64) (s9 : Int32) : Met l yT_wrapped wT_wrapped (k2_rm 1 34) (rd_P [.ref t0, .long n, .int s9] D [(cI, .int)] [(t0, .inr (0, [.ref g0, .int sd, .int wr, .int sf, .int lv])), (g0, .inl (cI, 1365, .inl g))]) (k2_QcV (.int (tt_wrap wr n s9))) 0 0 (fun _ => False) := by
  refine Met.ofW (cc := cT_wrapped) (maxL := 5) (ret := (some .int)) (by decide) rfl ?_
  intro p e s m args below meth c s₁ B hml hv
  obtain ⟨rfl, hC, hP, hK⟩ := hv
  have hx := B.exec
  have hb := B.bytes
  have hr := B.returns
  have hB : ∀ w ∈ tbB, w.before _ s = true := fun w h => (atoms_spec (ws := wT_wrapped) B.pre) w (List.mem_cons_of_mem _ h)
  have hown : s.vm.findClass "TextureBank$Texture" = some m.cls := findClass_of_methodNamed B.named
  have hlocks := B.notSynchronized
  have hl := lv_entry ([.ref t0, .long n, .int s9]) (n := 5) (Nat.le_of_ble_eq_true rfl)
  rw [lg_entry_eq]
  generalize (lg_sl ([.ref t0, .long n, .int s9]) ++ List.replicate (5 - (lg_sl ([.ref t0, .long n, .int s9])).length) Slot.unset).toArray = ls at hl ⊢
  have hl : lv_has ls 5 [(0, .ref t0), (1, .long n), (3, .int s9)] := hl
  refine lv_aload_n hx hb dT_wrapped_0 rfl (lv_at hl 0 rfl) ?_
  refine va_get (D := D) (ci := 0) (v := .int wr) (C := RT) (T := FT) (N := 5) hx hb hB inT hown hK hP 0 rfl rfl 2 (by decide) (hB _ wd_30) (fun _ h9 => h9) rfl dT_wrapped_1 ?_
  refine lv_if_ne (tgt := 15) hx hb dT_wrapped_4 (by decide) (fun c_1 => ?_) (fun c_1 => ?_)
  · refine lv_aload_n hx hb dT_wrapped_15 rfl (lv_at hl 0 rfl) ?_
    refine va_get (D := D) (ci := 0) (v := .int wr) (C := RT) (T := FT) (N := 5) hx hb hB inT hown hK hP 0 rfl rfl 2 (by decide) (hB _ wd_30) (fun _ h9 => h9) rfl dT_wrapped_16 ?_
    refine lv_iconst (v := 1) hx hb dT_wrapped_19 (by decide) ?_
    refine lv_icmp_ne (tgt := 37) hx hb dT_wrapped_20 (by decide) (fun c_2 => ?_) (fun c_2 => ?_)
    · refine lv_lload_n hx hb dT_wrapped_37 rfl (lv_at hl 1 rfl) ?_
      refine lv_iconst (v := 2) hx hb dT_wrapped_38 (by decide) ?_
      refine lv_iload_n hx hb dT_wrapped_39 rfl (lv_at hl 2 rfl) ?_
      refine lv_imul hx hb dT_wrapped_40 ?_
      refine lv_iconst (v := 1) hx hb dT_wrapped_41 (by decide) ?_
      refine lv_isub hx hb dT_wrapped_42 ?_
      refine lv_i2l hx hb dT_wrapped_43 rfl ?_
      refine lv_land hx hb dT_wrapped_44 ?_
      refine lv_l2i hx hb dT_wrapped_45 rfl ?_
      refine lv_istore (lv' := [(4, .int ((n &&& (((2 * s9) - 1).toInt64)).toInt32)), (0, .ref t0), (1, .long n), (3, .int s9)]) hx hb dT_wrapped_46 hl (by decide) rfl (fun ls hl => ?_)
      refine lv_iload hx hb dT_wrapped_48 (lv_at hl 0 rfl) ?_
      refine lv_iload_n hx hb dT_wrapped_50 rfl (lv_at hl 3 rfl) ?_
      refine lv_icmp_lt (tgt := 65) hx hb dT_wrapped_51 (by decide) (fun c_3 => ?_) (fun c_3 => ?_)
      · refine lv_iload hx hb dT_wrapped_65 (lv_at hl 0 rfl) ?_
        exact W.iret hx hb hr (fun t ht _ => ⟨tbI (by unfold tt_wrap; (first | rw [if_pos c_1] | rw [if_neg c_1]); (first | rw [if_pos c_2] | rw [if_neg c_2]); (first | rw [if_pos c_3] | rw [if_neg c_3])), ht⟩) (fun q hq => nomatch hq) dT_wrapped_67
      · refine lv_iconst (v := 2) hx hb dT_wrapped_54 (by decide) ?_
        refine lv_iload_n hx hb dT_wrapped_55 rfl (lv_at hl 3 rfl) ?_
        refine lv_imul hx hb dT_wrapped_56 ?_
        refine lv_iconst (v := 1) hx hb dT_wrapped_57 (by decide) ?_
        refine lv_isub hx hb dT_wrapped_58 ?_
        refine lv_iload hx hb dT_wrapped_59 (lv_at hl 0 rfl) ?_
        refine lv_isub hx hb dT_wrapped_61 ?_
        refine lv_goto (tgt := 67) hx hb dT_wrapped_62 (by decide) ?_
        exact W.iret hx hb hr (fun t ht _ => ⟨tbI (by unfold tt_wrap; (first | rw [if_pos c_1] | rw [if_neg c_1]); (first | rw [if_pos c_2] | rw [if_neg c_2]); (first | rw [if_pos c_3] | rw [if_neg c_3])), ht⟩) (fun q hq => nomatch hq) dT_wrapped_67
    · refine lv_lconst (v := 0) hx hb dT_wrapped_23 (by decide) ?_
      refine lv_lload_n hx hb dT_wrapped_24 rfl (lv_at hl 1 rfl) ?_
      refine lv_iload_n hx hb dT_wrapped_25 rfl (lv_at hl 2 rfl) ?_
      refine lv_i2l hx hb dT_wrapped_26 rfl ?_
      refine lv_lconst (v := 1) hx hb dT_wrapped_27 (by decide) ?_
      refine lv_lsub hx hb dT_wrapped_28 ?_
      refine va_mmin_long hx hb (by rw [hml]; exact hl.1.symm) hown (hB _ wd_275) (hB _ wd_276) (hB _ wd_6) (hB _ wd_277) (Nat.le_of_ble_eq_true rfl) (Nat.le_of_ble_eq_true rfl) (Nat.zero_le _) (Nat.zero_le _) dT_wrapped_29 ?_
      refine va_mmax_long hx hb (by rw [hml]; exact hl.1.symm) hown (hB _ wd_278) (hB _ wd_279) (hB _ wd_6) (hB _ wd_280) (Nat.le_of_ble_eq_true rfl) (Nat.le_of_ble_eq_true rfl) (Nat.zero_le _) (Nat.zero_le _) dT_wrapped_32 ?_
      refine lv_l2i hx hb dT_wrapped_35 rfl ?_
      exact W.iret hx hb hr (fun t ht _ => ⟨tbI (by unfold tt_wrap; (first | rw [if_pos c_1] | rw [if_neg c_1]); (first | rw [if_pos c_2] | rw [if_neg c_2])), ht⟩) (fun q hq => nomatch hq) dT_wrapped_36
  · refine lv_lload_n hx hb dT_wrapped_7 rfl (lv_at hl 1 rfl) ?_
    refine lv_iload_n hx hb dT_wrapped_8 rfl (lv_at hl 2 rfl) ?_
    refine lv_iconst (v := 1) hx hb dT_wrapped_9 (by decide) ?_
    refine lv_isub hx hb dT_wrapped_10 ?_
    refine lv_i2l hx hb dT_wrapped_11 rfl ?_
    refine lv_land hx hb dT_wrapped_12 ?_
    refine lv_l2i hx hb dT_wrapped_13 rfl ?_
    exact W.iret hx hb hr (fun t ht _ => ⟨tbI (by unfold tt_wrap; (first | rw [if_pos c_1] | rw [if_neg c_1])), ht⟩) (fun q hq => nomatch hq) dT_wrapped_14
