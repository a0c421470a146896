set_option maxHeartbeats 4000000 in
set_option maxRecDepth 100000 in
theorem kB_isNumber (l : Launch) (x : Int32) : Met l yB_isNumber wB_isNumber (k2_rm 0 0) (fun v _ => v = ([.int x] : List Value).toArray) (k2_QcV (.int (tt_isNum x))) 0 0 (fun _ => False) := by
  refine Met.ofW (cc := cB_isNumber) (maxL := 1) (ret := (some .boolean)) (by decide) rfl ?_
  intro p e s m args below meth c s₁ B hml hv
  obtain rfl := hv
  have hx := B.exec
  have hb := B.bytes
  have hr := B.returns
  have hB : ∀ w ∈ tbB, w.before _ s = true := fun w h => (atoms_spec (ws := wB_isNumber) B.pre) w (List.mem_cons_of_mem _ h)
  have hown : s.vm.findClass "TextureBank" = some m.cls := findClass_of_methodNamed B.named
  have hlocks := B.notSynchronized
  have hl := lv_entry ([.int x]) (n := 1) (Nat.le_of_ble_eq_true rfl)
  rw [lg_entry_eq]
  generalize (lg_sl ([.int x]) ++ List.replicate (1 - (lg_sl ([.int x])).length) Slot.unset).toArray = ls at hl ⊢
  have hl : lv_has ls 1 [(0, .int x)] := hl
  refine lv_iload_n hx hb dB_isNumber_0 rfl (lv_at hl 0 rfl) ?_
  refine lv_if_lt (tgt := 15) hx hb dB_isNumber_1 (by decide) (fun c_1 => ?_) (fun c_1 => ?_)
  · refine lv_iconst (v := 0) hx hb dB_isNumber_15 (by decide) ?_
    exact W.zret hx hb hr rfl (fun t ht _ => ⟨tbI (by unfold tt_isNum; (first | rw [if_pos c_1] | rw [if_neg c_1])), ht⟩) (fun q hq => nomatch hq) dB_isNumber_16
  · refine lv_iload_n hx hb dB_isNumber_4 rfl (lv_at hl 0 rfl) ?_
    refine lv_sipush (v := 255) hx hb dB_isNumber_5 (by decide) ?_
    refine lv_icmp_gt (tgt := 15) hx hb dB_isNumber_8 (by decide) (fun c_2 => ?_) (fun c_2 => ?_)
    · refine lv_iconst (v := 0) hx hb dB_isNumber_15 (by decide) ?_
      exact W.zret hx hb hr rfl (fun t ht _ => ⟨tbI (by unfold tt_isNum; (first | rw [if_pos c_1] | rw [if_neg c_1]); (first | rw [if_pos c_2] | rw [if_neg c_2])), ht⟩) (fun q hq => nomatch hq) dB_isNumber_16
    · refine lv_iconst (v := 1) hx hb dB_isNumber_11 (by decide) ?_
      refine lv_goto (tgt := 16) hx hb dB_isNumber_12 (by decide) ?_
      exact W.zret hx hb hr rfl (fun t ht _ => ⟨tbI (by unfold tt_isNum; (first | rw [if_pos c_1] | rw [if_neg c_1]); (first | rw [if_pos c_2] | rw [if_neg c_2])), ht⟩) (fun q hq => nomatch hq) dB_isNumber_16

set_option maxHeartbeats 4000000 in
set_option maxRecDepth 100000 in
theorem kB_isColour (l : Launch) (x : Int32) : Met l yB_isColour wB_isColour (k2_rm 0 0) (fun v _ => v = ([.int x] : List Value).toArray) (k2_QcV (.int (tt_isCol x))) 0 0 (fun _ => False) := by
  refine Met.ofW (cc := cB_isColour) (maxL := 1) (ret := (some .boolean)) (by decide) rfl ?_
  intro p e s m args below meth c s₁ B hml hv
  obtain rfl := hv
  have hx := B.exec
  have hb := B.bytes
  have hr := B.returns
  have hB : ∀ w ∈ tbB, w.before _ s = true := fun w h => (atoms_spec (ws := wB_isColour) B.pre) w (List.mem_cons_of_mem _ h)
  have hown : s.vm.findClass "TextureBank" = some m.cls := findClass_of_methodNamed B.named
  have hlocks := B.notSynchronized
  have hl := lv_entry ([.int x]) (n := 1) (Nat.le_of_ble_eq_true rfl)
  rw [lg_entry_eq]
  generalize (lg_sl ([.int x]) ++ List.replicate (1 - (lg_sl ([.int x])).length) Slot.unset).toArray = ls at hl ⊢
  have hl : lv_has ls 1 [(0, .int x)] := hl
  refine lv_iload_n hx hb dB_isColour_0 rfl (lv_at hl 0 rfl) ?_
  refine lv_if_lt (tgt := 14) hx hb dB_isColour_1 (by decide) (fun c_1 => ?_) (fun c_1 => ?_)
  · refine lv_iconst (v := 0) hx hb dB_isColour_14 (by decide) ?_
    exact W.zret hx hb hr rfl (fun t ht _ => ⟨tbI (by unfold tt_isCol; (first | rw [if_pos c_1] | rw [if_neg c_1])), ht⟩) (fun q hq => nomatch hq) dB_isColour_15
  · refine lv_iload_n hx hb dB_isColour_4 rfl (lv_at hl 0 rfl) ?_
    refine lv_ldc (v := 16777215) hx hb hown (hB _ wd_306) dB_isColour_5 ?_
    refine lv_icmp_gt (tgt := 14) hx hb dB_isColour_7 (by decide) (fun c_2 => ?_) (fun c_2 => ?_)
    · refine lv_iconst (v := 0) hx hb dB_isColour_14 (by decide) ?_
      exact W.zret hx hb hr rfl (fun t ht _ => ⟨tbI (by unfold tt_isCol; (first | rw [if_pos c_1] | rw [if_neg c_1]); (first | rw [if_pos c_2] | rw [if_neg c_2])), ht⟩) (fun q hq => nomatch hq) dB_isColour_15
    · refine lv_iconst (v := 1) hx hb dB_isColour_10 (by decide) ?_
      refine lv_goto (tgt := 15) hx hb dB_isColour_11 (by decide) ?_
      exact W.zret hx hb hr rfl (fun t ht _ => ⟨tbI (by unfold tt_isCol; (first | rw [if_pos c_1] | rw [if_neg c_1]); (first | rw [if_pos c_2] | rw [if_neg c_2])), ht⟩) (fun q hq => nomatch hq) dB_isColour_15

set_option maxHeartbeats 4000000 in
set_option maxRecDepth 100000 in
theorem kJ_bitCount (l : Launch) (x : Int32) : Met l yJ_bitCount wJ_bitCount (k2_rm 0 0) (fun v _ => v = ([.int x] : List Value).toArray) (k2_QcV (.int (tt_bc x))) 0 0 (fun _ => False) := by
  refine va_MetF (cc := cJ_bitCount) (maxL := 1) (ret := (some .int)) (by decide +kernel) rfl ?_
  intro p e s m args below meth c s₁ B hml hv
  obtain rfl := hv
  have hx := B.exec
  have hb := B.bytes
  have hr := B.returns
  have hB : ∀ w ∈ tbB, w.before _ s = true := fun w h => (atoms_spec (ws := wJ_bitCount) B.pre) w (List.mem_cons_of_mem _ h)
  have hown : s.vm.findClass "java/lang/Integer" = some m.cls := findClass_of_methodNamed B.named
  have hlocks := B.notSynchronized
  have hl := lv_entry ([.int x]) (n := 1) (Nat.le_of_ble_eq_true rfl)
  rw [lg_entry_eq]
  generalize (lg_sl ([.int x]) ++ List.replicate (1 - (lg_sl ([.int x])).length) Slot.unset).toArray = ls at hl ⊢
  have hl : lv_has ls 1 [(0, .int x)] := hl
  refine lv_iload_n hx hb dJ_bitCount_0 rfl (lv_at hl 0 rfl) ?_
  refine lv_iload_n hx hb dJ_bitCount_1 rfl (lv_at hl 0 rfl) ?_
  refine lv_iconst (v := 1) hx hb dJ_bitCount_2 (by decide) ?_
  refine lv_iushr hx hb dJ_bitCount_3 rfl ?_
  refine lv_ldcw (v := 1431655765) hx hb hown (hB _ wd_81) dJ_bitCount_4 ?_
  refine lv_iand hx hb dJ_bitCount_7 ?_
  refine lv_isub hx hb dJ_bitCount_8 ?_
  refine lv_topi (fun b1 eb1 => ?_)
  refine lv_istore_n (lv' := [(0, .int b1)]) hx hb dJ_bitCount_9 rfl hl (by decide) rfl (fun ls hl => ?_)
  refine lv_iload_n hx hb dJ_bitCount_10 rfl (lv_at hl 0 rfl) ?_
  refine lv_ldcw (v := 858993459) hx hb hown (hB _ wd_82) dJ_bitCount_11 ?_
  refine lv_iand hx hb dJ_bitCount_14 ?_
  refine lv_iload_n hx hb dJ_bitCount_15 rfl (lv_at hl 0 rfl) ?_
  refine lv_iconst (v := 2) hx hb dJ_bitCount_16 (by decide) ?_
  refine lv_iushr hx hb dJ_bitCount_17 rfl ?_
  refine lv_ldcw (v := 858993459) hx hb hown (hB _ wd_82) dJ_bitCount_18 ?_
  refine lv_iand hx hb dJ_bitCount_21 ?_
  refine lv_iadd hx hb dJ_bitCount_22 ?_
  refine lv_topi (fun b2 eb2 => ?_)
  refine lv_istore_n (lv' := [(0, .int b2)]) hx hb dJ_bitCount_23 rfl hl (by decide) rfl (fun ls hl => ?_)
  refine lv_iload_n hx hb dJ_bitCount_24 rfl (lv_at hl 0 rfl) ?_
  refine lv_iload_n hx hb dJ_bitCount_25 rfl (lv_at hl 0 rfl) ?_
  refine lv_iconst (v := 4) hx hb dJ_bitCount_26 (by decide) ?_
  refine lv_iushr hx hb dJ_bitCount_27 rfl ?_
  refine lv_iadd hx hb dJ_bitCount_28 ?_
  refine lv_ldcw (v := 252645135) hx hb hown (hB _ wd_83) dJ_bitCount_29 ?_
  refine lv_iand hx hb dJ_bitCount_32 ?_
  refine lv_topi (fun b3 eb3 => ?_)
  refine lv_istore_n (lv' := [(0, .int b3)]) hx hb dJ_bitCount_33 rfl hl (by decide) rfl (fun ls hl => ?_)
  refine lv_iload_n hx hb dJ_bitCount_34 rfl (lv_at hl 0 rfl) ?_
  refine lv_iload_n hx hb dJ_bitCount_35 rfl (lv_at hl 0 rfl) ?_
  refine lv_bipush (v := 8) hx hb dJ_bitCount_36 (by decide) ?_
  refine lv_iushr hx hb dJ_bitCount_38 rfl ?_
  refine lv_iadd hx hb dJ_bitCount_39 ?_
  refine lv_topi (fun b4 eb4 => ?_)
  refine lv_istore_n (lv' := [(0, .int b4)]) hx hb dJ_bitCount_40 rfl hl (by decide) rfl (fun ls hl => ?_)
  refine lv_iload_n hx hb dJ_bitCount_41 rfl (lv_at hl 0 rfl) ?_
  refine lv_iload_n hx hb dJ_bitCount_42 rfl (lv_at hl 0 rfl) ?_
  refine lv_bipush (v := 16) hx hb dJ_bitCount_43 (by decide) ?_
  refine lv_iushr hx hb dJ_bitCount_45 rfl ?_
  refine lv_iadd hx hb dJ_bitCount_46 ?_
  refine lv_topi (fun b5 eb5 => ?_)
  refine lv_istore_n (lv' := [(0, .int b5)]) hx hb dJ_bitCount_47 rfl hl (by decide) rfl (fun ls hl => ?_)
  refine lv_iload_n hx hb dJ_bitCount_48 rfl (lv_at hl 0 rfl) ?_
  refine lv_bipush (v := 63) hx hb dJ_bitCount_49 (by decide) ?_
  refine lv_iand hx hb dJ_bitCount_51 ?_
  exact W.iret hx hb hr (fun t ht _ => ⟨tbI (by subst eb1; subst eb2; subst eb3; subst eb4; subst eb5; rfl), ht⟩) (fun q hq => nomatch hq) dJ_bitCount_52

set_option maxHeartbeats 4000000 in
set_option maxRecDepth 100000 in
theorem kB_isSide (l : Launch) (x : Int32) : Met l yB_isSide wB_isSide (k2_rm 1 20) (fun v _ => v = ([.int x] : List Value).toArray) (k2_QcV (.int (tt_isSide x))) 0 0 (fun _ => False) := by
  refine Met.ofW (cc := cB_isSide) (maxL := 1) (ret := (some .boolean)) (by decide) rfl ?_
  intro p e s m args below meth c s₁ B hml hv
  obtain rfl := hv
  have hx := B.exec
  have hb := B.bytes
  have hr := B.returns
  have hB : ∀ w ∈ tbB, w.before _ s = true := fun w h => (atoms_spec (ws := wB_isSide) B.pre) w (List.mem_cons_of_mem _ h)
  have hown : s.vm.findClass "TextureBank" = some m.cls := findClass_of_methodNamed B.named
  have hlocks := B.notSynchronized
  have hl := lv_entry ([.int x]) (n := 1) (Nat.le_of_ble_eq_true rfl)
  rw [lg_entry_eq]
  generalize (lg_sl ([.int x]) ++ List.replicate (1 - (lg_sl ([.int x])).length) Slot.unset).toArray = ls at hl ⊢
  have hl : lv_has ls 1 [(0, .int x)] := hl
  refine lv_iload_n hx hb dB_isSide_0 rfl (lv_at hl 0 rfl) ?_
  refine lv_iconst (v := 1) hx hb dB_isSide_1 (by decide) ?_
  refine lv_icmp_lt (tgt := 23) hx hb dB_isSide_2 (by decide) (fun c_1 => ?_) (fun c_1 => ?_)
  · refine lv_iconst (v := 0) hx hb dB_isSide_23 (by decide) ?_
    exact W.zret hx hb hr rfl (fun t ht _ => ⟨tbI (by unfold tt_isSide; (first | rw [if_pos c_1] | rw [if_neg c_1])), ht⟩) (fun q hq => nomatch hq) dB_isSide_24
  · refine lv_iload_n hx hb dB_isSide_5 rfl (lv_at hl 0 rfl) ?_
    refine lv_bipush (v := 32) hx hb dB_isSide_6 (by decide) ?_
    refine lv_icmp_gt (tgt := 23) hx hb dB_isSide_8 (by decide) (fun c_2 => ?_) (fun c_2 => ?_)
    · refine lv_iconst (v := 0) hx hb dB_isSide_23 (by decide) ?_
      exact W.zret hx hb hr rfl (fun t ht _ => ⟨tbI (by unfold tt_isSide; (first | rw [if_pos c_1] | rw [if_neg c_1]); (first | rw [if_pos c_2] | rw [if_neg c_2])), ht⟩) (fun q hq => nomatch hq) dB_isSide_24
    · refine lv_iload_n hx hb dB_isSide_11 rfl (lv_at hl 0 rfl) ?_
      refine W.callV (W.runS (As := [.int x]) (rest := []) ⟨hx, hb, hml, hown, hB⟩ (kJ_bitCount l x) ⟨callB_of 1 hB gwJ_bitCount rfl rfl rfl (hB _ wd_4) (hB _ wd_78) ydJ_bitCount ⟨Nat.le_of_ble_eq_true rfl, Nat.le_of_ble_eq_true rfl⟩, hB _ wd_79⟩ (preEq) rfl rfl hl.1 rfl (lv_room (Nat.le_of_ble_eq_true rfl)) dB_isSide_12 ⟨Nat.zero_le _, Nat.zero_le _⟩) ?_
      refine W.eq (g2 := F0 m 15 ls [.int (tt_bc x)]) rfl ?_
      refine lv_iconst (v := 1) hx hb dB_isSide_15 (by decide) ?_
      refine lv_icmp_ne (tgt := 23) hx hb dB_isSide_16 (by decide) (fun c_3 => ?_) (fun c_3 => ?_)
      · refine lv_iconst (v := 0) hx hb dB_isSide_23 (by decide) ?_
        exact W.zret hx hb hr rfl (fun t ht _ => ⟨tbI (by unfold tt_isSide; (first | rw [if_pos c_1] | rw [if_neg c_1]); (first | rw [if_pos c_2] | rw [if_neg c_2]); (first | rw [if_pos c_3] | rw [if_neg c_3])), ht⟩) (fun q hq => nomatch hq) dB_isSide_24
      · refine lv_iconst (v := 1) hx hb dB_isSide_19 (by decide) ?_
        refine lv_goto (tgt := 24) hx hb dB_isSide_20 (by decide) ?_
        exact W.zret hx hb hr rfl (fun t ht _ => ⟨tbI (by unfold tt_isSide; (first | rw [if_pos c_1] | rw [if_neg c_1]); (first | rw [if_pos c_2] | rw [if_neg c_2]); (first | rw [if_pos c_3] | rw [if_neg c_3])), ht⟩) (fun q hq => nomatch hq) dB_isSide_24

set_option maxHeartbeats 4000000 in
set_option maxRecDepth 100000 in
theorem kB_isWrap (l : Launch) (x : Int32) : Met l yB_isWrap wB_isWrap (k2_rm 0 0) (fun v _ => v = ([.int x] : List Value).toArray) (k2_QcV (.int (tt_isWrap x))) 0 0 (fun _ => False) := by
  refine Met.ofW (cc := cB_isWrap) (maxL := 1) (ret := (some .boolean)) (by decide) rfl ?_
  intro p e s m args below meth c s₁ B hml hv
  obtain rfl := hv
  have hx := B.exec
  have hb := B.bytes
  have hr := B.returns
  have hB : ∀ w ∈ tbB, w.before _ s = true := fun w h => (atoms_spec (ws := wB_isWrap) B.pre) w (List.mem_cons_of_mem _ h)
  have hown : s.vm.findClass "TextureBank" = some m.cls := findClass_of_methodNamed B.named
  have hlocks := B.notSynchronized
  have hl := lv_entry ([.int x]) (n := 1) (Nat.le_of_ble_eq_true rfl)
  rw [lg_entry_eq]
  generalize (lg_sl ([.int x]) ++ List.replicate (1 - (lg_sl ([.int x])).length) Slot.unset).toArray = ls at hl ⊢
  have hl : lv_has ls 1 [(0, .int x)] := hl
  refine lv_iload_n hx hb dB_isWrap_0 rfl (lv_at hl 0 rfl) ?_
  refine lv_if_eq (tgt := 14) hx hb dB_isWrap_1 (by decide) (fun c_1 => ?_) (fun c_1 => ?_)
  · refine lv_iconst (v := 1) hx hb dB_isWrap_14 (by decide) ?_
    refine lv_goto (tgt := 19) hx hb dB_isWrap_15 (by decide) ?_
    exact W.zret hx hb hr rfl (fun t ht _ => ⟨tbI (by unfold tt_isWrap; (first | rw [if_pos c_1] | rw [if_neg c_1])), ht⟩) (fun q hq => nomatch hq) dB_isWrap_19
  · refine lv_iload_n hx hb dB_isWrap_4 rfl (lv_at hl 0 rfl) ?_
    refine lv_iconst (v := 1) hx hb dB_isWrap_5 (by decide) ?_
    refine lv_icmp_eq (tgt := 14) hx hb dB_isWrap_6 (by decide) (fun c_2 => ?_) (fun c_2 => ?_)
    · refine lv_iconst (v := 1) hx hb dB_isWrap_14 (by decide) ?_
      refine lv_goto (tgt := 19) hx hb dB_isWrap_15 (by decide) ?_
      exact W.zret hx hb hr rfl (fun t ht _ => ⟨tbI (by unfold tt_isWrap; (first | rw [if_pos c_1] | rw [if_neg c_1]); (first | rw [if_pos c_2] | rw [if_neg c_2])), ht⟩) (fun q hq => nomatch hq) dB_isWrap_19
    · refine lv_iload_n hx hb dB_isWrap_9 rfl (lv_at hl 0 rfl) ?_
      refine lv_iconst (v := 2) hx hb dB_isWrap_10 (by decide) ?_
      refine lv_icmp_ne (tgt := 18) hx hb dB_isWrap_11 (by decide) (fun c_3 => ?_) (fun c_3 => ?_)
      · refine lv_iconst (v := 0) hx hb dB_isWrap_18 (by decide) ?_
        exact W.zret hx hb hr rfl (fun t ht _ => ⟨tbI (by unfold tt_isWrap; (first | rw [if_pos c_1] | rw [if_neg c_1]); (first | rw [if_pos c_2] | rw [if_neg c_2]); (first | rw [if_pos c_3] | rw [if_neg c_3])), ht⟩) (fun q hq => nomatch hq) dB_isWrap_19
      · refine lv_iconst (v := 1) hx hb dB_isWrap_14 (by decide) ?_
        refine lv_goto (tgt := 19) hx hb dB_isWrap_15 (by decide) ?_
        exact W.zret hx hb hr rfl (fun t ht _ => ⟨tbI (by unfold tt_isWrap; (first | rw [if_pos c_1] | rw [if_neg c_1]); (first | rw [if_pos c_2] | rw [if_neg c_2]); (first | rw [if_pos c_3] | rw [if_neg c_3])), ht⟩) (fun q hq => nomatch hq) dB_isWrap_19

set_option maxHeartbeats 4000000 in
set_option maxRecDepth 100000 in
theorem kB_isSoft (l : Launch) (x : Int32) : Met l yB_isSoft wB_isSoft (k2_rm 0 0) (fun v _ => v = ([.int x] : List Value).toArray) (k2_QcV (.int (tt_isSoft x))) 0 0 (fun _ => False) := by
  refine Met.ofW (cc := cB_isSoft) (maxL := 1) (ret := (some .boolean)) (by decide) rfl ?_
  intro p e s m args below meth c s₁ B hml hv
  obtain rfl := hv
  have hx := B.exec
  have hb := B.bytes
  have hr := B.returns
  have hB : ∀ w ∈ tbB, w.before _ s = true := fun w h => (atoms_spec (ws := wB_isSoft) B.pre) w (List.mem_cons_of_mem _ h)
  have hown : s.vm.findClass "TextureBank" = some m.cls := findClass_of_methodNamed B.named
  have hlocks := B.notSynchronized
  have hl := lv_entry ([.int x]) (n := 1) (Nat.le_of_ble_eq_true rfl)
  rw [lg_entry_eq]
  generalize (lg_sl ([.int x]) ++ List.replicate (1 - (lg_sl ([.int x])).length) Slot.unset).toArray = ls at hl ⊢
  have hl : lv_has ls 1 [(0, .int x)] := hl
  refine lv_iload_n hx hb dB_isSoft_0 rfl (lv_at hl 0 rfl) ?_
  refine lv_if_eq (tgt := 9) hx hb dB_isSoft_1 (by decide) (fun c_1 => ?_) (fun c_1 => ?_)
  · refine lv_iconst (v := 1) hx hb dB_isSoft_9 (by decide) ?_
    refine lv_goto (tgt := 14) hx hb dB_isSoft_10 (by decide) ?_
    exact W.zret hx hb hr rfl (fun t ht _ => ⟨tbI (by unfold tt_isSoft; (first | rw [if_pos c_1] | rw [if_neg c_1])), ht⟩) (fun q hq => nomatch hq) dB_isSoft_14
  · refine lv_iload_n hx hb dB_isSoft_4 rfl (lv_at hl 0 rfl) ?_
    refine lv_iconst (v := 1) hx hb dB_isSoft_5 (by decide) ?_
    refine lv_icmp_ne (tgt := 13) hx hb dB_isSoft_6 (by decide) (fun c_2 => ?_) (fun c_2 => ?_)
    · refine lv_iconst (v := 0) hx hb dB_isSoft_13 (by decide) ?_
      exact W.zret hx hb hr rfl (fun t ht _ => ⟨tbI (by unfold tt_isSoft; (first | rw [if_pos c_1] | rw [if_neg c_1]); (first | rw [if_pos c_2] | rw [if_neg c_2])), ht⟩) (fun q hq => nomatch hq) dB_isSoft_14
    · refine lv_iconst (v := 1) hx hb dB_isSoft_9 (by decide) ?_
      refine lv_goto (tgt := 14) hx hb dB_isSoft_10 (by decide) ?_
      exact W.zret hx hb hr rfl (fun t ht _ => ⟨tbI (by unfold tt_isSoft; (first | rw [if_pos c_1] | rw [if_neg c_1]); (first | rw [if_pos c_2] | rw [if_neg c_2])), ht⟩) (fun q hq => nomatch hq) dB_isSoft_14

set_option maxHeartbeats 4000000 in
set_option maxRecDepth 100000 in
theorem kB_isPlace (l : Launch) (x : Int32) : Met l yB_isPlace wB_isPlace (k2_rm 0 0) (fun v _ => v = ([.int x] : List Value).toArray) (k2_QcV (.int (tt_isPlace x))) 0 0 (fun _ => False) := by
  refine Met.ofW (cc := cB_isPlace) (maxL := 1) (ret := (some .boolean)) (by decide) rfl ?_
  intro p e s m args below meth c s₁ B hml hv
  obtain rfl := hv
  have hx := B.exec
  have hb := B.bytes
  have hr := B.returns
  have hB : ∀ w ∈ tbB, w.before _ s = true := fun w h => (atoms_spec (ws := wB_isPlace) B.pre) w (List.mem_cons_of_mem _ h)
  have hown : s.vm.findClass "TextureBank" = some m.cls := findClass_of_methodNamed B.named
  have hlocks := B.notSynchronized
  have hl := lv_entry ([.int x]) (n := 1) (Nat.le_of_ble_eq_true rfl)
  rw [lg_entry_eq]
  generalize (lg_sl ([.int x]) ++ List.replicate (1 - (lg_sl ([.int x])).length) Slot.unset).toArray = ls at hl ⊢
  have hl : lv_has ls 1 [(0, .int x)] := hl
  refine lv_iload_n hx hb dB_isPlace_0 rfl (lv_at hl 0 rfl) ?_
  refine lv_ldc (v := (-16777216)) hx hb hown (hB _ wd_254) dB_isPlace_1 ?_
  refine lv_icmp_lt (tgt := 16) hx hb dB_isPlace_3 (by decide) (fun c_1 => ?_) (fun c_1 => ?_)
  · refine lv_iconst (v := 0) hx hb dB_isPlace_16 (by decide) ?_
    exact W.zret hx hb hr rfl (fun t ht _ => ⟨tbI (by unfold tt_isPlace; (first | rw [if_pos c_1] | rw [if_neg c_1])), ht⟩) (fun q hq => nomatch hq) dB_isPlace_17
  · refine lv_iload_n hx hb dB_isPlace_6 rfl (lv_at hl 0 rfl) ?_
    refine lv_ldc (v := 16777216) hx hb hown (hB _ wd_232) dB_isPlace_7 ?_
    refine lv_icmp_gt (tgt := 16) hx hb dB_isPlace_9 (by decide) (fun c_2 => ?_) (fun c_2 => ?_)
    · refine lv_iconst (v := 0) hx hb dB_isPlace_16 (by decide) ?_
      exact W.zret hx hb hr rfl (fun t ht _ => ⟨tbI (by unfold tt_isPlace; (first | rw [if_pos c_1] | rw [if_neg c_1]); (first | rw [if_pos c_2] | rw [if_neg c_2])), ht⟩) (fun q hq => nomatch hq) dB_isPlace_17
    · refine lv_iconst (v := 1) hx hb dB_isPlace_12 (by decide) ?_
      refine lv_goto (tgt := 17) hx hb dB_isPlace_13 (by decide) ?_
      exact W.zret hx hb hr rfl (fun t ht _ => ⟨tbI (by unfold tt_isPlace; (first | rw [if_pos c_1] | rw [if_neg c_1]); (first | rw [if_pos c_2] | rw [if_neg c_2])), ht⟩) (fun q hq => nomatch hq) dB_isPlace_17

set_option maxHeartbeats 4000000 in
set_option maxRecDepth 100000 in
theorem kB_colourOf (l : Launch) (r : Int32) (gr : Int32) (bl : Int32) : Met l yB_colourOf wB_colourOf (k2_rm 0 0) (fun v _ => v = ([.int r, .int gr, .int bl] : List Value).toArray) (k2_QcV (.int (tt_col r gr bl))) 0 0 (fun _ => False) := by
  refine Met.ofW (cc := cB_colourOf) (maxL := 3) (ret := (some .int)) (by decide) rfl ?_
  intro p e s m args below meth c s₁ B hml hv
  obtain rfl := hv
  have hx := B.exec
  have hb := B.bytes
  have hr := B.returns
  have hB : ∀ w ∈ tbB, w.before _ s = true := fun w h => (atoms_spec (ws := wB_colourOf) B.pre) w (List.mem_cons_of_mem _ h)
  have hown : s.vm.findClass "TextureBank" = some m.cls := findClass_of_methodNamed B.named
  have hlocks := B.notSynchronized
  have hl := lv_entry ([.int r, .int gr, .int bl]) (n := 3) (Nat.le_of_ble_eq_true rfl)
  rw [lg_entry_eq]
  generalize (lg_sl ([.int r, .int gr, .int bl]) ++ List.replicate (3 - (lg_sl ([.int r, .int gr, .int bl])).length) Slot.unset).toArray = ls at hl ⊢
  have hl : lv_has ls 3 [(0, .int r), (1, .int gr), (2, .int bl)] := hl
  refine lv_iload_n hx hb dB_colourOf_0 rfl (lv_at hl 0 rfl) ?_
  refine lv_bipush (v := 16) hx hb dB_colourOf_1 (by decide) ?_
  refine lv_ishl hx hb dB_colourOf_3 ?_
  refine lv_iload_n hx hb dB_colourOf_4 rfl (lv_at hl 1 rfl) ?_
  refine lv_bipush (v := 8) hx hb dB_colourOf_5 (by decide) ?_
  refine lv_ishl hx hb dB_colourOf_7 ?_
  refine lv_iadd hx hb dB_colourOf_8 ?_
  refine lv_iload_n hx hb dB_colourOf_9 rfl (lv_at hl 2 rfl) ?_
  refine lv_iconst (v := 0) hx hb dB_colourOf_10 (by decide) ?_
  refine lv_ishl hx hb dB_colourOf_11 ?_
  refine lv_iadd hx hb dB_colourOf_12 ?_
  exact W.iret hx hb hr (fun t ht _ => ⟨tbI (rfl), ht⟩) (fun q hq => nomatch hq) dB_colourOf_13

set_option maxHeartbeats 4000000 in
set_option maxRecDepth 100000 in
theorem kB_numberOf (l : Launch) (co : Int32) (sh : Int32) : Met l yB_numberOf wB_numberOf (k2_rm 0 0) (fun v _ => v = ([.int co, .int sh] : List Value).toArray) (k2_QcV (.long (tt_num co sh))) 0 0 (fun _ => False) := by
  refine Met.ofW (cc := cB_numberOf) (maxL := 2) (ret := (some .long)) (by decide) rfl ?_
  intro p e s m args below meth c s₁ B hml hv
  obtain rfl := hv
  have hx := B.exec
  have hb := B.bytes
  have hr := B.returns
  have hB : ∀ w ∈ tbB, w.before _ s = true := fun w h => (atoms_spec (ws := wB_numberOf) B.pre) w (List.mem_cons_of_mem _ h)
  have hown : s.vm.findClass "TextureBank" = some m.cls := findClass_of_methodNamed B.named
  have hlocks := B.notSynchronized
  have hl := lv_entry ([.int co, .int sh]) (n := 2) (Nat.le_of_ble_eq_true rfl)
  rw [lg_entry_eq]
  generalize (lg_sl ([.int co, .int sh]) ++ List.replicate (2 - (lg_sl ([.int co, .int sh])).length) Slot.unset).toArray = ls at hl ⊢
  have hl : lv_has ls 2 [(0, .int co), (1, .int sh)] := hl
  refine lv_iload_n hx hb dB_numberOf_0 rfl (lv_at hl 0 rfl) ?_
  refine lv_iload_n hx hb dB_numberOf_1 rfl (lv_at hl 1 rfl) ?_
  refine lv_ishr hx hb dB_numberOf_2 ?_
  refine lv_sipush (v := 255) hx hb dB_numberOf_3 (by decide) ?_
  refine lv_iand hx hb dB_numberOf_6 ?_
  refine lv_i2l hx hb dB_numberOf_7 rfl ?_
  exact W.lret hx hb hr (fun t ht _ => ⟨tbL (rfl), ht⟩) (fun q hq => nomatch hq) dB_numberOf_8

set_option maxHeartbeats 4000000 in
set_option maxRecDepth 100000 in
theorem kJ_floorDiv (l : Launch) (x : Int64) (y : Int64) (hy : ¬ y = 0) : Met l yJ_floorDiv wJ_floorDiv (k2_rm 0 0) (fun v _ => v = ([.long x, .long y] : List Value).toArray) (k2_QcV (.long (fd_l x y))) 0 0 (fun _ => False) := by
  refine va_MetF (cc := cJ_floorDiv) (maxL := 6) (ret := (some .long)) (by decide +kernel) rfl ?_
  intro p e s m args below meth c s₁ B hml hv
  obtain rfl := hv
  have hx := B.exec
  have hb := B.bytes
  have hr := B.returns
  have hB : ∀ w ∈ tbB, w.before _ s = true := fun w h => (atoms_spec (ws := wJ_floorDiv) B.pre) w (List.mem_cons_of_mem _ h)
  have hown : s.vm.findClass "java/lang/Math" = some m.cls := findClass_of_methodNamed B.named
  have hlocks := B.notSynchronized
  have hl := lv_entry ([.long x, .long y]) (n := 6) (Nat.le_of_ble_eq_true rfl)
  rw [lg_entry_eq]
  generalize (lg_sl ([.long x, .long y]) ++ List.replicate (6 - (lg_sl ([.long x, .long y])).length) Slot.unset).toArray = ls at hl ⊢
  have hl : lv_has ls 6 [(0, .long x), (2, .long y)] := hl
  refine lv_lload_n hx hb dJ_floorDiv_0 rfl (lv_at hl 0 rfl) ?_
  refine lv_lload_n hx hb dJ_floorDiv_1 rfl (lv_at hl 1 rfl) ?_
  refine lv_ldiv hx hb dJ_floorDiv_2 hy ?_
  refine lv_lstore (lv' := [(4, .long (x / y)), (0, .long x), (2, .long y)]) hx hb dJ_floorDiv_3 hl (by decide) rfl (fun ls hl => ?_)
  refine lv_lload_n hx hb dJ_floorDiv_5 rfl (lv_at hl 1 rfl) ?_
  refine lv_lload_n hx hb dJ_floorDiv_6 rfl (lv_at hl 2 rfl) ?_
  refine lv_lxor hx hb dJ_floorDiv_7 ?_
  refine lv_lconst (v := 0) hx hb dJ_floorDiv_8 (by decide) ?_
  refine W.lcmp hx hb dJ_floorDiv_9 ?_
  refine lv_if_ge (tgt := 27) hx hb dJ_floorDiv_10 (by decide) (fun c_1 => ?_) (fun c_1 => ?_)
  · refine lv_lload hx hb dJ_floorDiv_27 (lv_at hl 0 rfl) ?_
    exact W.lret hx hb hr (fun t ht _ => ⟨tbL (by unfold fd_l; (first | rw [if_pos ((lg_cmp_ge _ _).mp c_1)] | rw [if_neg ((lg_cmp_ge _ _).mp c_1)])), ht⟩) (fun q hq => nomatch hq) dJ_floorDiv_29
  · refine lv_lload hx hb dJ_floorDiv_13 (lv_at hl 0 rfl) ?_
    refine lv_lload_n hx hb dJ_floorDiv_15 rfl (lv_at hl 2 rfl) ?_
    refine lv_lmul hx hb dJ_floorDiv_16 ?_
    refine lv_lload_n hx hb dJ_floorDiv_17 rfl (lv_at hl 1 rfl) ?_
    refine W.lcmp hx hb dJ_floorDiv_18 ?_
    refine lv_if_eq (tgt := 27) hx hb dJ_floorDiv_19 (by decide) (fun c_2 => ?_) (fun c_2 => ?_)
    · refine lv_lload hx hb dJ_floorDiv_27 (lv_at hl 0 rfl) ?_
      exact W.lret hx hb hr (fun t ht _ => ⟨tbL (by unfold fd_l; (first | rw [if_pos (fun h9 => c_1 ((lg_cmp_ge _ _).mpr h9))] | rw [if_neg (fun h9 => c_1 ((lg_cmp_ge _ _).mpr h9))]); (first | rw [if_pos ((lg_cmp_eq _ _).mp c_2)] | rw [if_neg ((lg_cmp_eq _ _).mp c_2)])), ht⟩) (fun q hq => nomatch hq) dJ_floorDiv_29
    · refine lv_lload hx hb dJ_floorDiv_22 (lv_at hl 0 rfl) ?_
      refine lv_lconst (v := 1) hx hb dJ_floorDiv_24 (by decide) ?_
      refine lv_lsub hx hb dJ_floorDiv_25 ?_
      exact W.lret hx hb hr (fun t ht _ => ⟨tbL (by unfold fd_l; (first | rw [if_pos (fun h9 => c_1 ((lg_cmp_ge _ _).mpr h9))] | rw [if_neg (fun h9 => c_1 ((lg_cmp_ge _ _).mpr h9))]); (first | rw [if_pos (fun h9 => c_2 ((lg_cmp_eq _ _).mpr h9))] | rw [if_neg (fun h9 => c_2 ((lg_cmp_eq _ _).mpr h9))])), ht⟩) (fun q hq => nomatch hq) dJ_floorDiv_26

set_option maxHeartbeats 4000000 in
set_option maxRecDepth 100000 in
theorem kB_litNumber (l : Launch) (co : Int32) (ti : Int32) (li : Int32) (sh : Int32) : Met l yB_litNumber wB_litNumber (k2_rm 1 25) (fun v _ => v = ([.int co, .int ti, .int li, .int sh] : List Value).toArray) (k2_QcV (.int (tt_litN co ti li sh))) 0 0 (fun _ => False) := by
  refine Met.ofW (cc := cB_litNumber) (maxL := 6) (ret := (some .int)) (by decide) rfl ?_
  intro p e s m args below meth c s₁ B hml hv
  obtain rfl := hv
  have hx := B.exec
  have hb := B.bytes
  have hr := B.returns
  have hB : ∀ w ∈ tbB, w.before _ s = true := fun w h => (atoms_spec (ws := wB_litNumber) B.pre) w (List.mem_cons_of_mem _ h)
  have hown : s.vm.findClass "TextureBank" = some m.cls := findClass_of_methodNamed B.named
  have hlocks := B.notSynchronized
  have hl := lv_entry ([.int co, .int ti, .int li, .int sh]) (n := 6) (Nat.le_of_ble_eq_true rfl)
  rw [lg_entry_eq]
  generalize (lg_sl ([.int co, .int ti, .int li, .int sh]) ++ List.replicate (6 - (lg_sl ([.int co, .int ti, .int li, .int sh])).length) Slot.unset).toArray = ls at hl ⊢
  have hl : lv_has ls 6 [(0, .int co), (1, .int ti), (2, .int li), (3, .int sh)] := hl
  refine lv_iload_n hx hb dB_litNumber_0 rfl (lv_at hl 0 rfl) ?_
  refine lv_iload_n hx hb dB_litNumber_1 rfl (lv_at hl 3 rfl) ?_
  refine W.callV (W.runS (As := [.int co, .int sh]) (rest := []) ⟨hx, hb, hml, hown, hB⟩ (kB_numberOf l co sh) ⟨callB_of 2 hB gwB_numberOf rfl rfl rfl (hB _ wd_1) (hB _ wd_313) ydB_numberOf ⟨Nat.le_of_ble_eq_true rfl, Nat.le_of_ble_eq_true rfl⟩, hB _ wd_116⟩ (preEq) rfl rfl hl.1 rfl (lv_room (Nat.le_of_ble_eq_true rfl)) dB_litNumber_2 ⟨Nat.zero_le _, Nat.zero_le _⟩) ?_
  refine W.eq (g2 := F0 m 5 ls [.long (tt_num co sh)]) rfl ?_
  refine lv_iload_n hx hb dB_litNumber_5 rfl (lv_at hl 1 rfl) ?_
  refine lv_iload_n hx hb dB_litNumber_6 rfl (lv_at hl 3 rfl) ?_
  refine W.callV (W.runS (As := [.int ti, .int sh]) (rest := [.long (tt_num co sh)]) ⟨hx, hb, hml, hown, hB⟩ (kB_numberOf l ti sh) ⟨callB_of 2 hB gwB_numberOf rfl rfl rfl (hB _ wd_1) (hB _ wd_313) ydB_numberOf ⟨Nat.le_of_ble_eq_true rfl, Nat.le_of_ble_eq_true rfl⟩, hB _ wd_116⟩ (preEq) rfl rfl hl.1 rfl (lv_room (Nat.le_of_ble_eq_true rfl)) dB_litNumber_7 ⟨Nat.zero_le _, Nat.zero_le _⟩) ?_
  refine W.eq (g2 := F0 m 10 ls [.long (tt_num ti sh), .long (tt_num co sh)]) rfl ?_
  refine lv_lmul hx hb dB_litNumber_10 ?_
  refine lv_ldc2 (v := 255) hx hb hown (hB _ wd_314) dB_litNumber_11 ?_
  refine W.callV (W.runS (As := [.long ((tt_num co sh) * (tt_num ti sh)), .long 255]) (rest := []) ⟨hx, hb, hml, hown, hB⟩ (kJ_floorDiv l ((tt_num co sh) * (tt_num ti sh)) 255 (by decide)) ⟨callB_of 2 hB gwJ_floorDiv rfl rfl rfl (hB _ wd_6) (hB _ wd_315) ydJ_floorDiv ⟨Nat.le_of_ble_eq_true rfl, Nat.le_of_ble_eq_true rfl⟩, hB _ wd_120⟩ (preEq) rfl rfl hl.1 rfl (lv_room (Nat.le_of_ble_eq_true rfl)) dB_litNumber_14 ⟨Nat.zero_le _, Nat.zero_le _⟩) ?_
  refine W.eq (g2 := F0 m 17 ls [.long (fd_l ((tt_num co sh) * (tt_num ti sh)) 255)]) rfl ?_
  refine lv_lstore (lv' := [(4, .long (fd_l ((tt_num co sh) * (tt_num ti sh)) 255)), (0, .int co), (1, .int ti), (2, .int li), (3, .int sh)]) hx hb dB_litNumber_17 hl (by decide) rfl (fun ls hl => ?_)
  refine lv_lload hx hb dB_litNumber_19 (lv_at hl 0 rfl) ?_
  refine lv_iload_n hx hb dB_litNumber_21 rfl (lv_at hl 3 rfl) ?_
  refine lv_i2l hx hb dB_litNumber_22 rfl ?_
  refine lv_lmul hx hb dB_litNumber_23 ?_
  refine lv_ldc2 (v := 65536) hx hb hown (hB _ wd_308) dB_litNumber_24 ?_
  refine W.callV (W.runS (As := [.long ((fd_l ((tt_num co sh) * (tt_num ti sh)) 255) * li.toInt64), .long 65536]) (rest := []) ⟨hx, hb, hml, hown, hB⟩ (kJ_floorDiv l ((fd_l ((tt_num co sh) * (tt_num ti sh)) 255) * li.toInt64) 65536 (by decide)) ⟨callB_of 2 hB gwJ_floorDiv rfl rfl rfl (hB _ wd_6) (hB _ wd_315) ydJ_floorDiv ⟨Nat.le_of_ble_eq_true rfl, Nat.le_of_ble_eq_true rfl⟩, hB _ wd_120⟩ (preEq) rfl rfl hl.1 rfl (lv_room (Nat.le_of_ble_eq_true rfl)) dB_litNumber_27 ⟨Nat.zero_le _, Nat.zero_le _⟩) ?_
  refine W.eq (g2 := F0 m 30 ls [.long (fd_l ((fd_l ((tt_num co sh) * (tt_num ti sh)) 255) * li.toInt64) 65536)]) rfl ?_
  refine lv_l2i hx hb dB_litNumber_30 rfl ?_
  exact W.iret hx hb hr (fun t ht _ => ⟨tbI (rfl), ht⟩) (fun q hq => nomatch hq) dB_litNumber_31
