/-- the start of one of the law's helpers that writes its answer into the array ou -/
def lo_P (av : List Value) (sz : Nat) (D : va_G) (tys : List (ClassId × FieldType)) (W9 w : va_W) : Array Value → State → Prop := fun v U => v = av.toArray ∧ U.heap.size = sz ∧ tbCx U ∧ va_P D tbCl W9 U.heap ∧ va_P D tbCl w U.heap ∧ va_K D tbCl tys U ∧ va_D (fun _ => True) w
theorem lo_B {av : List Value} {sz : Nat} {D : va_G} {tys : List (ClassId × FieldType)} {W9 w : va_W} : FrameBlind (lo_P av sz D tys W9 w) := fun a U g mk q => ⟨q.1, q.2.1, tbCx.same (u := U) rfl q.2.2.1, q.2.2.2.1, q.2.2.2.2.1, va_K.moved (u := U) (U := U.calling g mk a) (Vm.Alike.refl U.vm) q.2.2.2.2.2.1, q.2.2.2.2.2.2⟩
theorem lo_S {s : State} {H : Heap} {av : List Value} {D : va_G} {tys : List (ClassId × FieldType)} {W9 w : va_W} {A : Nat → Prop} (hC : tbCx s) (hPW : va_P D tbCl W9 H) (hP : va_P D tbCl w H) (hK : va_K D tbCl tys s) (hD : va_D A w) : PreS s H (lo_P av H.size D tys W9 w) av := ⟨lo_B, fun U hU hW => ⟨rfl, by rw [hU], hC.warm hW, by rw [hU]; exact hPW, by rw [hU]; exact hP, va_K.moved hW.alike hK, hD.weaken (fun _ _ _ _ => trivial)⟩⟩
theorem th_S {s : State} {H : Heap} {av : List Value} {D : va_G} {tys : List (ClassId × FieldType)} {w : va_W} (hC : tbCx s) (hP : va_P D tbCl w H) (hK : va_K D tbCl tys s) (hT : tbTx s) (hZ : tbZ s H) : PreS s H (th_P av D tys w) av := ⟨th_B, fun U hU hW => ⟨rfl, hC.warm hW, by rw [hU]; exact hP, va_K.moved hW.alike hK, hT.warm hW, by rw [hU]; exact hZ.moved hW.alike⟩⟩
set_option maxHeartbeats 4000000 in
set_option maxRecDepth 100000 in
theorem kL_level_ok (l : Launch) (D : va_G) (sz : Nat) (cI cT cL : ClassId) (W9 : va_W) (x0 ou : Nat) (fs : List Value) (fo : Nat → Int64) (t9 : Int32) (sp : Int64) (ar : Int32) (r : Int32) (F9 N9 : Nat) (hF9 : F9 ≤ 6) (hN9 : N9 ≤ 150) (hx0 : W9[0]? = some (x0, .inr (1, fs))) (hM : Met l yB_level wB_level (k2_rm F9 N9) (rd_P [.ref x0, .int t9, .long sp, .int ar] D [(cI, .int), (cT, .object "TextureBank$Texture")] W9) (k2_QcV (.int r)) 0 0 (fun _ => False)) : Met l yL_level wL_level (k2_rm 7 200) (lo_P [.ref x0, .int t9, .long sp, .int ar, .ref ou] sz D [(cI, .int), (cT, .object "TextureBank$Texture"), (cL, .long)] W9 [(ou, .inl (cL, 1, .inr (.inl fo)))]) (va_Qi (fun (x : Int32) (_ : Unit) => x = 0) (fun _ t => va_P D tbCl [(ou, .inl (cL, 1, .inr (.inl (vp_updL fo 0 r.toInt64))))] t.heap) (va_A [(ou, .inl (cL, 1, .inr (.inl fo)))] sz)) 0 0 (va_A [(ou, .inl (cL, 1, .inr (.inl fo)))] sz) := by
  refine va_MetW (cc := cL_level) (maxL := 7) (ret := (some .int)) (by decide) rfl ?_
  intro p e s m args below meth c s₁ B hml hv
  obtain ⟨rfl, hsz, hC, hPW, hP, hK, hD0⟩ := hv
  have hx := B.exec
  have hb := B.bytes
  have hr := B.returns
  have hB : ∀ w ∈ tbB, w.before _ s = true := fun w h => (atoms_spec (ws := wL_level) B.pre) w (List.mem_cons_of_mem _ h)
  have hown : s.vm.findClass "TextureBankLaw" = some m.cls := findClass_of_methodNamed B.named
  have hlocks := B.notSynchronized
  subst hsz
  have hD := hD0.self (sz := s.heap.size)
  generalize hAe : va_A [(ou, .inl (cL, 1, .inr (.inl fo)))] s.heap.size = A at hD ⊢
  have hA : ∀ q : Nat, s.heap.size ≤ q → A q := fun q h => by rw [← hAe]; exact Or.inr h
  have hS : va_S A s.heap s.heap [] := va_S.rf
  have hl := lv_entry ([.ref x0, .int t9, .long sp, .int ar, .ref ou]) (n := 7) (Nat.le_of_ble_eq_true rfl)
  rw [lg_entry_eq]
  generalize (lg_sl ([.ref x0, .int t9, .long sp, .int ar, .ref ou]) ++ List.replicate (7 - (lg_sl ([.ref x0, .int t9, .long sp, .int ar, .ref ou])).length) Slot.unset).toArray = ls at hl ⊢
  have hl : lv_has ls 7 [(0, .ref x0), (1, .int t9), (2, .long sp), (4, .int ar), (5, .ref ou)] := hl
  refine lv_aload hx hb dL_level_0 (lv_at hl 4 rfl) ?_
  refine lv_iconst (v := 0) hx hb dL_level_2 (by decide) ?_
  refine lv_aload_n hx hb dL_level_3 rfl (lv_at hl 0 rfl) ?_
  refine lv_iload_n hx hb dL_level_4 rfl (lv_at hl 1 rfl) ?_
  refine lv_lload_n hx hb dL_level_5 rfl (lv_at hl 2 rfl) ?_
  refine lv_iload hx hb dL_level_6 (lv_at hl 3 rfl) ?_
  refine W.callV (W.runV (C := "TextureBank") (As := [.int t9, .long sp, .int ar]) (rest := [.int 0, .ref ou]) ⟨hx, hb, hml, hown, hB⟩ hM ⟨callB_of 3 hB gwB_level rfl rfl rfl (hB _ wd_1) (hB _ wd_144) ydB_level ⟨by show F9 + 1 ≤ 7; omega, by show 8 + (6 + 11) + N9 ≤ 200; omega⟩, hB _ wd_145, hB _ wd_146⟩ (rd_V hC hPW (hK.sub [0, 1] rfl) (va_recv hK hPW (ci := 1) (q0 := 0) rfl hx0)) rfl rfl hl.1 rfl (lv_room (Nat.le_of_ble_eq_true rfl)) dL_level_8 ⟨Nat.zero_le _, Nat.zero_le _⟩) ?_
  refine W.eq (g2 := F0 m 11 ls [.int r, .int 0, .ref ou]) rfl ?_
  refine lv_i2l hx hb dL_level_11 rfl ?_
  refine va_last hx hb hK hP hD hS 0 2 rfl rfl (vp_in_nI (n := 0) (N := 1) (by decide) (by decide)) dL_level_12 (fun H locs hP hD hS => ?_)
  refine lv_goto (tgt := 24) hx hb dL_level_13 (by decide) ?_
  refine lv_iconst (v := 0) hx hb dL_level_24 (by decide) ?_
  exact W.iret hx hb hr (fun t ht hW => ⟨⟨_, (), rfl, rfl, (by have h9 : va_P D tbCl [(ou, .inl (cL, 1, .inr (.inl (vp_updL fo 0 r.toInt64))))] H := hP; rw [← ht] at h9; exact h9)⟩, hS.F ht⟩) hS.2.2 dL_level_25

set_option maxHeartbeats 4000000 in
set_option maxRecDepth 100000 in
theorem kL_level_ns (l : Launch) (D : va_G) (cI cT : ClassId) (W9 : va_W) (x0 ou : Nat) (fs : List Value) (t9 : Int32) (sp : Int64) (ar : Int32) (hx0 : W9[0]? = some (x0, .inr (1, fs))) (hM : vx_Met l yB_level wB_level ({ frames := 6, cells := 1, slots := 6, locals := 90 }) (th_P [.ref x0, .int t9, .long sp, .int ar] D [(cI, .int), (cT, .object "TextureBank$Texture")] W9) th_Q (th_X "java/util/NoSuchElementException") 1 6 (fun _ => False)) : Met l yL_level wL_level ({ frames := 7, cells := 1, slots := 6, locals := 200 }) (th_P [.ref x0, .int t9, .long sp, .int ar, .ref ou] D [(cI, .int), (cT, .object "TextureBank$Texture")] W9) (va_Qi (fun (x : Int32) (_ : Unit) => x = 1) (fun _ _ => True) (fun _ => False)) 1 6 (fun _ => False) := by
  refine va_MetW (cc := cL_level) (maxL := 7) (ret := (some .int)) (by decide) rfl ?_
  intro p e s m args below meth c s₁ B hml hv
  obtain ⟨rfl, hC, hPW, hK, hT, hZ⟩ := hv
  have hx := B.exec
  have hb := B.bytes
  have hr := B.returns
  have hB : ∀ w ∈ tbB, w.before _ s = true := fun w h => (atoms_spec (ws := wL_level) B.pre) w (List.mem_cons_of_mem _ h)
  have hown : s.vm.findClass "TextureBankLaw" = some m.cls := findClass_of_methodNamed B.named
  have hlocks := B.notSynchronized
  have hl := lv_entry ([.ref x0, .int t9, .long sp, .int ar, .ref ou]) (n := 7) (Nat.le_of_ble_eq_true rfl)
  rw [lg_entry_eq]
  generalize (lg_sl ([.ref x0, .int t9, .long sp, .int ar, .ref ou]) ++ List.replicate (7 - (lg_sl ([.ref x0, .int t9, .long sp, .int ar, .ref ou])).length) Slot.unset).toArray = ls at hl ⊢
  have hl : lv_has ls 7 [(0, .ref x0), (1, .int t9), (2, .long sp), (4, .int ar), (5, .ref ou)] := hl
  have htab : c.exceptionTable.toList = [⟨0, 13, 16, 13⟩, ⟨0, 13, 20, 15⟩] := vx_table (x := yL_level) B ((atoms_spec (ws := wL_level) B.pre) _ List.mem_cons_self)
  refine lv_aload hx hb dL_level_0 (lv_at hl 4 rfl) ?_
  refine lv_iconst (v := 0) hx hb dL_level_2 (by decide) ?_
  refine lv_aload_n hx hb dL_level_3 rfl (lv_at hl 0 rfl) ?_
  refine lv_iload_n hx hb dL_level_4 rfl (lv_at hl 1 rfl) ?_
  refine lv_lload_n hx hb dL_level_5 rfl (lv_at hl 2 rfl) ?_
  refine lv_iload hx hb dL_level_6 (lv_at hl 3 rfl) ?_
  refine vx_calli (vx_runV (C := "TextureBank") (As := [.int t9, .long sp, .int ar]) (rest := [.int 0, .ref ou]) ⟨hx, hb, hml, hown, hB⟩ hM ⟨callB_of 3 hB gwB_level rfl rfl rfl (hB _ wd_1) (hB _ wd_144) ydB_level ⟨Nat.le_of_ble_eq_true rfl, Nat.le_of_ble_eq_true rfl⟩, hB _ wd_145, hB _ wd_146⟩ (th_V hC hPW hK hT hZ (va_recv hK hPW (ci := 1) (q0 := 0) rfl hx0)) rfl rfl hl.1 rfl (lv_room (Nat.le_of_ble_eq_true rfl)) dL_level_8 ⟨Nat.le_of_ble_eq_true rfl, Nat.le_of_ble_eq_true rfl⟩) (A0 := fun _ => False) va_S.rf (fun _ _ h => h) (fun _ h => h) (fun _ _ h => h) (fun E9 ce9 q9 u t H1 locs1 ht hvm hpx hBX hz hk hS hce hv9 hcl => ?_) (fun r u t H1 locs1 ht hvm hpost hB1 hz hk hS => hpost.elim)
  have hE9 : E9 = "java/util/NoSuchElementException" := hBX
  subst hE9
  refine vx_catch hown [] ⟨0, 13, 16, 13⟩ [⟨0, 13, 20, 15⟩] htab (fun z hz => nomatch hz) (by decide) (by decide) (hB _ wd_142) (va_Nw.use rfl hT.2.2.2.1) hce hv9 hcl ?_
  refine W.eq (g2 := F0 m 16 ls [.ref q9]) rfl ?_
  refine lv_astore (lv' := [(6, .ref q9), (0, .ref x0), (1, .int t9), (2, .long sp), (4, .int ar), (5, .ref ou)]) hx hb dL_level_16 hl (by decide) rfl (fun ls hl => ?_)
  refine lv_iconst (v := 1) hx hb dL_level_18 (by decide) ?_
  exact W.iret hx hb hr (fun t9 ht9 hW9 => ⟨⟨_, (), rfl, rfl, trivial⟩, hS.F ht9⟩) hS.2.2 dL_level_19

set_option maxHeartbeats 4000000 in
set_option maxRecDepth 100000 in
theorem kL_level_ia (l : Launch) (D : va_G) (cI cT : ClassId) (W9 : va_W) (x0 ou : Nat) (fs : List Value) (t9 : Int32) (sp : Int64) (ar : Int32) (hx0 : W9[0]? = some (x0, .inr (1, fs))) (hM : vx_Met l yB_level wB_level ({ frames := 6, cells := 1, slots := 6, locals := 90 }) (th_P [.ref x0, .int t9, .long sp, .int ar] D [(cI, .int), (cT, .object "TextureBank$Texture")] W9) th_Q (th_X "java/lang/IllegalArgumentException") 1 6 (fun _ => False)) : Met l yL_level wL_level ({ frames := 7, cells := 1, slots := 6, locals := 200 }) (th_P [.ref x0, .int t9, .long sp, .int ar, .ref ou] D [(cI, .int), (cT, .object "TextureBank$Texture")] W9) (va_Qi (fun (x : Int32) (_ : Unit) => x = 2) (fun _ _ => True) (fun _ => False)) 1 6 (fun _ => False) := by
  refine va_MetW (cc := cL_level) (maxL := 7) (ret := (some .int)) (by decide) rfl ?_
  intro p e s m args below meth c s₁ B hml hv
  obtain ⟨rfl, hC, hPW, hK, hT, hZ⟩ := hv
  have hx := B.exec
  have hb := B.bytes
  have hr := B.returns
  have hB : ∀ w ∈ tbB, w.before _ s = true := fun w h => (atoms_spec (ws := wL_level) B.pre) w (List.mem_cons_of_mem _ h)
  have hown : s.vm.findClass "TextureBankLaw" = some m.cls := findClass_of_methodNamed B.named
  have hlocks := B.notSynchronized
  have hl := lv_entry ([.ref x0, .int t9, .long sp, .int ar, .ref ou]) (n := 7) (Nat.le_of_ble_eq_true rfl)
  rw [lg_entry_eq]
  generalize (lg_sl ([.ref x0, .int t9, .long sp, .int ar, .ref ou]) ++ List.replicate (7 - (lg_sl ([.ref x0, .int t9, .long sp, .int ar, .ref ou])).length) Slot.unset).toArray = ls at hl ⊢
  have hl : lv_has ls 7 [(0, .ref x0), (1, .int t9), (2, .long sp), (4, .int ar), (5, .ref ou)] := hl
  have htab : c.exceptionTable.toList = [⟨0, 13, 16, 13⟩, ⟨0, 13, 20, 15⟩] := vx_table (x := yL_level) B ((atoms_spec (ws := wL_level) B.pre) _ List.mem_cons_self)
  refine lv_aload hx hb dL_level_0 (lv_at hl 4 rfl) ?_
  refine lv_iconst (v := 0) hx hb dL_level_2 (by decide) ?_
  refine lv_aload_n hx hb dL_level_3 rfl (lv_at hl 0 rfl) ?_
  refine lv_iload_n hx hb dL_level_4 rfl (lv_at hl 1 rfl) ?_
  refine lv_lload_n hx hb dL_level_5 rfl (lv_at hl 2 rfl) ?_
  refine lv_iload hx hb dL_level_6 (lv_at hl 3 rfl) ?_
  refine vx_calli (vx_runV (C := "TextureBank") (As := [.int t9, .long sp, .int ar]) (rest := [.int 0, .ref ou]) ⟨hx, hb, hml, hown, hB⟩ hM ⟨callB_of 3 hB gwB_level rfl rfl rfl (hB _ wd_1) (hB _ wd_144) ydB_level ⟨Nat.le_of_ble_eq_true rfl, Nat.le_of_ble_eq_true rfl⟩, hB _ wd_145, hB _ wd_146⟩ (th_V hC hPW hK hT hZ (va_recv hK hPW (ci := 1) (q0 := 0) rfl hx0)) rfl rfl hl.1 rfl (lv_room (Nat.le_of_ble_eq_true rfl)) dL_level_8 ⟨Nat.le_of_ble_eq_true rfl, Nat.le_of_ble_eq_true rfl⟩) (A0 := fun _ => False) va_S.rf (fun _ _ h => h) (fun _ h => h) (fun _ _ h => h) (fun E9 ce9 q9 u t H1 locs1 ht hvm hpx hBX hz hk hS hce hv9 hcl => ?_) (fun r u t H1 locs1 ht hvm hpost hB1 hz hk hS => hpost.elim)
  have hE9 : E9 = "java/lang/IllegalArgumentException" := hBX
  subst hE9
  refine vx_catch hown [⟨0, 13, 16, 13⟩] ⟨0, 13, 20, 15⟩ [] htab (fun z hz => by rw [List.mem_singleton.mp hz]; exact Or.inr ⟨by decide, _, hB _ wd_142, hT.2.2.2.2.2.2.2.2.2.2.2.2.2⟩) (by decide) (by decide) (hB _ wd_143) (va_Nw.use rfl hT.2.2.2.2.1) hce hv9 hcl ?_
  refine W.eq (g2 := F0 m 20 ls [.ref q9]) rfl ?_
  refine lv_astore (lv' := [(6, .ref q9), (0, .ref x0), (1, .int t9), (2, .long sp), (4, .int ar), (5, .ref ou)]) hx hb dL_level_20 hl (by decide) rfl (fun ls hl => ?_)
  refine lv_iconst (v := 2) hx hb dL_level_22 (by decide) ?_
  exact W.iret hx hb hr (fun t9 ht9 hW9 => ⟨⟨_, (), rfl, rfl, trivial⟩, hS.F ht9⟩) hS.2.2 dL_level_23

set_option maxHeartbeats 4000000 in
set_option maxRecDepth 100000 in
theorem kL_lookUp_ok (l : Launch) (D : va_G) (sz : Nat) (cI cT cL : ClassId) (W9 : va_W) (x0 ou : Nat) (fs : List Value) (fo : Nat → Int64) (t9 : Int32) (lv9 : Int32) (u9 : Int32) (v9 : Int32) (r : Int32) (F9 N9 : Nat) (hF9 : F9 ≤ 6) (hN9 : N9 ≤ 150) (hx0 : W9[0]? = some (x0, .inr (1, fs))) (hM : Met l yB_lookUp wB_lookUp (k2_rm F9 N9) (rd_P [.ref x0, .int t9, .int lv9, .int u9, .int v9] D [(cI, .int), (cT, .object "TextureBank$Texture")] W9) (k2_QcV (.int r)) 0 0 (fun _ => False)) : Met l yL_lookUp wL_lookUp (k2_rm 7 200) (lo_P [.ref x0, .int t9, .int lv9, .int u9, .int v9, .ref ou] sz D [(cI, .int), (cT, .object "TextureBank$Texture"), (cL, .long)] W9 [(ou, .inl (cL, 1, .inr (.inl fo)))]) (va_Qi (fun (x : Int32) (_ : Unit) => x = 0) (fun _ t => va_P D tbCl [(ou, .inl (cL, 1, .inr (.inl (vp_updL fo 0 r.toInt64))))] t.heap) (va_A [(ou, .inl (cL, 1, .inr (.inl fo)))] sz)) 0 0 (va_A [(ou, .inl (cL, 1, .inr (.inl fo)))] sz) := by
  refine va_MetW (cc := cL_lookUp) (maxL := 7) (ret := (some .int)) (by decide) rfl ?_
  intro p e s m args below meth c s₁ B hml hv
  obtain ⟨rfl, hsz, hC, hPW, hP, hK, hD0⟩ := hv
  have hx := B.exec
  have hb := B.bytes
  have hr := B.returns
  have hB : ∀ w ∈ tbB, w.before _ s = true := fun w h => (atoms_spec (ws := wL_lookUp) B.pre) w (List.mem_cons_of_mem _ h)
  have hown : s.vm.findClass "TextureBankLaw" = some m.cls := findClass_of_methodNamed B.named
  have hlocks := B.notSynchronized
  subst hsz
  have hD := hD0.self (sz := s.heap.size)
  generalize hAe : va_A [(ou, .inl (cL, 1, .inr (.inl fo)))] s.heap.size = A at hD ⊢
  have hA : ∀ q : Nat, s.heap.size ≤ q → A q := fun q h => by rw [← hAe]; exact Or.inr h
  have hS : va_S A s.heap s.heap [] := va_S.rf
  have hl := lv_entry ([.ref x0, .int t9, .int lv9, .int u9, .int v9, .ref ou]) (n := 7) (Nat.le_of_ble_eq_true rfl)
  rw [lg_entry_eq]
  generalize (lg_sl ([.ref x0, .int t9, .int lv9, .int u9, .int v9, .ref ou]) ++ List.replicate (7 - (lg_sl ([.ref x0, .int t9, .int lv9, .int u9, .int v9, .ref ou])).length) Slot.unset).toArray = ls at hl ⊢
  have hl : lv_has ls 7 [(0, .ref x0), (1, .int t9), (2, .int lv9), (3, .int u9), (4, .int v9), (5, .ref ou)] := hl
  refine lv_aload hx hb dL_lookUp_0 (lv_at hl 5 rfl) ?_
  refine lv_iconst (v := 0) hx hb dL_lookUp_2 (by decide) ?_
  refine lv_aload_n hx hb dL_lookUp_3 rfl (lv_at hl 0 rfl) ?_
  refine lv_iload_n hx hb dL_lookUp_4 rfl (lv_at hl 1 rfl) ?_
  refine lv_iload_n hx hb dL_lookUp_5 rfl (lv_at hl 2 rfl) ?_
  refine lv_iload_n hx hb dL_lookUp_6 rfl (lv_at hl 3 rfl) ?_
  refine lv_iload hx hb dL_lookUp_7 (lv_at hl 4 rfl) ?_
  refine W.callV (W.runV (C := "TextureBank") (As := [.int t9, .int lv9, .int u9, .int v9]) (rest := [.int 0, .ref ou]) ⟨hx, hb, hml, hown, hB⟩ hM ⟨callB_of 4 hB gwB_lookUp rfl rfl rfl (hB _ wd_1) (hB _ wd_242) ydB_lookUp ⟨by show F9 + 1 ≤ 7; omega, by show 8 + (6 + 11) + N9 ≤ 200; omega⟩, hB _ wd_243, hB _ wd_244⟩ (rd_V hC hPW (hK.sub [0, 1] rfl) (va_recv hK hPW (ci := 1) (q0 := 0) rfl hx0)) rfl rfl hl.1 rfl (lv_room (Nat.le_of_ble_eq_true rfl)) dL_lookUp_9 ⟨Nat.zero_le _, Nat.zero_le _⟩) ?_
  refine W.eq (g2 := F0 m 12 ls [.int r, .int 0, .ref ou]) rfl ?_
  refine lv_i2l hx hb dL_lookUp_12 rfl ?_
  refine va_last hx hb hK hP hD hS 0 2 rfl rfl (vp_in_nI (n := 0) (N := 1) (by decide) (by decide)) dL_lookUp_13 (fun H locs hP hD hS => ?_)
  refine lv_goto (tgt := 25) hx hb dL_lookUp_14 (by decide) ?_
  refine lv_iconst (v := 0) hx hb dL_lookUp_25 (by decide) ?_
  exact W.iret hx hb hr (fun t ht hW => ⟨⟨_, (), rfl, rfl, (by have h9 : va_P D tbCl [(ou, .inl (cL, 1, .inr (.inl (vp_updL fo 0 r.toInt64))))] H := hP; rw [← ht] at h9; exact h9)⟩, hS.F ht⟩) hS.2.2 dL_lookUp_26

set_option maxHeartbeats 4000000 in
set_option maxRecDepth 100000 in
theorem kL_lookUp_ns (l : Launch) (D : va_G) (cI cT : ClassId) (W9 : va_W) (x0 ou : Nat) (fs : List Value) (t9 : Int32) (lv9 : Int32) (u9 : Int32) (v9 : Int32) (hx0 : W9[0]? = some (x0, .inr (1, fs))) (hM : vx_Met l yB_lookUp wB_lookUp ({ frames := 6, cells := 1, slots := 6, locals := 90 }) (th_P [.ref x0, .int t9, .int lv9, .int u9, .int v9] D [(cI, .int), (cT, .object "TextureBank$Texture")] W9) th_Q (th_X "java/util/NoSuchElementException") 1 6 (fun _ => False)) : Met l yL_lookUp wL_lookUp ({ frames := 7, cells := 1, slots := 6, locals := 200 }) (th_P [.ref x0, .int t9, .int lv9, .int u9, .int v9, .ref ou] D [(cI, .int), (cT, .object "TextureBank$Texture")] W9) (va_Qi (fun (x : Int32) (_ : Unit) => x = 1) (fun _ _ => True) (fun _ => False)) 1 6 (fun _ => False) := by
  refine va_MetW (cc := cL_lookUp) (maxL := 7) (ret := (some .int)) (by decide) rfl ?_
  intro p e s m args below meth c s₁ B hml hv
  obtain ⟨rfl, hC, hPW, hK, hT, hZ⟩ := hv
  have hx := B.exec
  have hb := B.bytes
  have hr := B.returns
  have hB : ∀ w ∈ tbB, w.before _ s = true := fun w h => (atoms_spec (ws := wL_lookUp) B.pre) w (List.mem_cons_of_mem _ h)
  have hown : s.vm.findClass "TextureBankLaw" = some m.cls := findClass_of_methodNamed B.named
  have hlocks := B.notSynchronized
  have hl := lv_entry ([.ref x0, .int t9, .int lv9, .int u9, .int v9, .ref ou]) (n := 7) (Nat.le_of_ble_eq_true rfl)
  rw [lg_entry_eq]
  generalize (lg_sl ([.ref x0, .int t9, .int lv9, .int u9, .int v9, .ref ou]) ++ List.replicate (7 - (lg_sl ([.ref x0, .int t9, .int lv9, .int u9, .int v9, .ref ou])).length) Slot.unset).toArray = ls at hl ⊢
  have hl : lv_has ls 7 [(0, .ref x0), (1, .int t9), (2, .int lv9), (3, .int u9), (4, .int v9), (5, .ref ou)] := hl
  have htab : c.exceptionTable.toList = [⟨0, 14, 17, 13⟩, ⟨0, 14, 21, 15⟩] := vx_table (x := yL_lookUp) B ((atoms_spec (ws := wL_lookUp) B.pre) _ List.mem_cons_self)
  refine lv_aload hx hb dL_lookUp_0 (lv_at hl 5 rfl) ?_
  refine lv_iconst (v := 0) hx hb dL_lookUp_2 (by decide) ?_
  refine lv_aload_n hx hb dL_lookUp_3 rfl (lv_at hl 0 rfl) ?_
  refine lv_iload_n hx hb dL_lookUp_4 rfl (lv_at hl 1 rfl) ?_
  refine lv_iload_n hx hb dL_lookUp_5 rfl (lv_at hl 2 rfl) ?_
  refine lv_iload_n hx hb dL_lookUp_6 rfl (lv_at hl 3 rfl) ?_
  refine lv_iload hx hb dL_lookUp_7 (lv_at hl 4 rfl) ?_
  refine vx_calli (vx_runV (C := "TextureBank") (As := [.int t9, .int lv9, .int u9, .int v9]) (rest := [.int 0, .ref ou]) ⟨hx, hb, hml, hown, hB⟩ hM ⟨callB_of 4 hB gwB_lookUp rfl rfl rfl (hB _ wd_1) (hB _ wd_242) ydB_lookUp ⟨Nat.le_of_ble_eq_true rfl, Nat.le_of_ble_eq_true rfl⟩, hB _ wd_243, hB _ wd_244⟩ (th_V hC hPW hK hT hZ (va_recv hK hPW (ci := 1) (q0 := 0) rfl hx0)) rfl rfl hl.1 rfl (lv_room (Nat.le_of_ble_eq_true rfl)) dL_lookUp_9 ⟨Nat.le_of_ble_eq_true rfl, Nat.le_of_ble_eq_true rfl⟩) (A0 := fun _ => False) va_S.rf (fun _ _ h => h) (fun _ h => h) (fun _ _ h => h) (fun E9 ce9 q9 u t H1 locs1 ht hvm hpx hBX hz hk hS hce hv9 hcl => ?_) (fun r u t H1 locs1 ht hvm hpost hB1 hz hk hS => hpost.elim)
  have hE9 : E9 = "java/util/NoSuchElementException" := hBX
  subst hE9
  refine vx_catch hown [] ⟨0, 14, 17, 13⟩ [⟨0, 14, 21, 15⟩] htab (fun z hz => nomatch hz) (by decide) (by decide) (hB _ wd_142) (va_Nw.use rfl hT.2.2.2.1) hce hv9 hcl ?_
  refine W.eq (g2 := F0 m 17 ls [.ref q9]) rfl ?_
  refine lv_astore (lv' := [(6, .ref q9), (0, .ref x0), (1, .int t9), (2, .int lv9), (3, .int u9), (4, .int v9), (5, .ref ou)]) hx hb dL_lookUp_17 hl (by decide) rfl (fun ls hl => ?_)
  refine lv_iconst (v := 1) hx hb dL_lookUp_19 (by decide) ?_
  exact W.iret hx hb hr (fun t9 ht9 hW9 => ⟨⟨_, (), rfl, rfl, trivial⟩, hS.F ht9⟩) hS.2.2 dL_lookUp_20

set_option maxHeartbeats 4000000 in
set_option maxRecDepth 100000 in
theorem kL_lookUp_ia (l : Launch) (D : va_G) (cI cT : ClassId) (W9 : va_W) (x0 ou : Nat) (fs : List Value) (t9 : Int32) (lv9 : Int32) (u9 : Int32) (v9 : Int32) (hx0 : W9[0]? = some (x0, .inr (1, fs))) (hM : vx_Met l yB_lookUp wB_lookUp ({ frames := 6, cells := 1, slots := 6, locals := 90 }) (th_P [.ref x0, .int t9, .int lv9, .int u9, .int v9] D [(cI, .int), (cT, .object "TextureBank$Texture")] W9) th_Q (th_X "java/lang/IllegalArgumentException") 1 6 (fun _ => False)) : Met l yL_lookUp wL_lookUp ({ frames := 7, cells := 1, slots := 6, locals := 200 }) (th_P [.ref x0, .int t9, .int lv9, .int u9, .int v9, .ref ou] D [(cI, .int), (cT, .object "TextureBank$Texture")] W9) (va_Qi (fun (x : Int32) (_ : Unit) => x = 2) (fun _ _ => True) (fun _ => False)) 1 6 (fun _ => False) := by
  refine va_MetW (cc := cL_lookUp) (maxL := 7) (ret := (some .int)) (by decide) rfl ?_
  intro p e s m args below meth c s₁ B hml hv
  obtain ⟨rfl, hC, hPW, hK, hT, hZ⟩ := hv
  have hx := B.exec
  have hb := B.bytes
  have hr := B.returns
  have hB : ∀ w ∈ tbB, w.before _ s = true := fun w h => (atoms_spec (ws := wL_lookUp) B.pre) w (List.mem_cons_of_mem _ h)
  have hown : s.vm.findClass "TextureBankLaw" = some m.cls := findClass_of_methodNamed B.named
  have hlocks := B.notSynchronized
  have hl := lv_entry ([.ref x0, .int t9, .int lv9, .int u9, .int v9, .ref ou]) (n := 7) (Nat.le_of_ble_eq_true rfl)
  rw [lg_entry_eq]
  generalize (lg_sl ([.ref x0, .int t9, .int lv9, .int u9, .int v9, .ref ou]) ++ List.replicate (7 - (lg_sl ([.ref x0, .int t9, .int lv9, .int u9, .int v9, .ref ou])).length) Slot.unset).toArray = ls at hl ⊢
  have hl : lv_has ls 7 [(0, .ref x0), (1, .int t9), (2, .int lv9), (3, .int u9), (4, .int v9), (5, .ref ou)] := hl
  have htab : c.exceptionTable.toList = [⟨0, 14, 17, 13⟩, ⟨0, 14, 21, 15⟩] := vx_table (x := yL_lookUp) B ((atoms_spec (ws := wL_lookUp) B.pre) _ List.mem_cons_self)
  refine lv_aload hx hb dL_lookUp_0 (lv_at hl 5 rfl) ?_
  refine lv_iconst (v := 0) hx hb dL_lookUp_2 (by decide) ?_
  refine lv_aload_n hx hb dL_lookUp_3 rfl (lv_at hl 0 rfl) ?_
  refine lv_iload_n hx hb dL_lookUp_4 rfl (lv_at hl 1 rfl) ?_
  refine lv_iload_n hx hb dL_lookUp_5 rfl (lv_at hl 2 rfl) ?_
  refine lv_iload_n hx hb dL_lookUp_6 rfl (lv_at hl 3 rfl) ?_
  refine lv_iload hx hb dL_lookUp_7 (lv_at hl 4 rfl) ?_
  refine vx_calli (vx_runV (C := "TextureBank") (As := [.int t9, .int lv9, .int u9, .int v9]) (rest := [.int 0, .ref ou]) ⟨hx, hb, hml, hown, hB⟩ hM ⟨callB_of 4 hB gwB_lookUp rfl rfl rfl (hB _ wd_1) (hB _ wd_242) ydB_lookUp ⟨Nat.le_of_ble_eq_true rfl, Nat.le_of_ble_eq_true rfl⟩, hB _ wd_243, hB _ wd_244⟩ (th_V hC hPW hK hT hZ (va_recv hK hPW (ci := 1) (q0 := 0) rfl hx0)) rfl rfl hl.1 rfl (lv_room (Nat.le_of_ble_eq_true rfl)) dL_lookUp_9 ⟨Nat.le_of_ble_eq_true rfl, Nat.le_of_ble_eq_true rfl⟩) (A0 := fun _ => False) va_S.rf (fun _ _ h => h) (fun _ h => h) (fun _ _ h => h) (fun E9 ce9 q9 u t H1 locs1 ht hvm hpx hBX hz hk hS hce hv9 hcl => ?_) (fun r u t H1 locs1 ht hvm hpost hB1 hz hk hS => hpost.elim)
  have hE9 : E9 = "java/lang/IllegalArgumentException" := hBX
  subst hE9
  refine vx_catch hown [⟨0, 14, 17, 13⟩] ⟨0, 14, 21, 15⟩ [] htab (fun z hz => by rw [List.mem_singleton.mp hz]; exact Or.inr ⟨by decide, _, hB _ wd_142, hT.2.2.2.2.2.2.2.2.2.2.2.2.2⟩) (by decide) (by decide) (hB _ wd_143) (va_Nw.use rfl hT.2.2.2.2.1) hce hv9 hcl ?_
  refine W.eq (g2 := F0 m 21 ls [.ref q9]) rfl ?_
  refine lv_astore (lv' := [(6, .ref q9), (0, .ref x0), (1, .int t9), (2, .int lv9), (3, .int u9), (4, .int v9), (5, .ref ou)]) hx hb dL_lookUp_21 hl (by decide) rfl (fun ls hl => ?_)
  refine lv_iconst (v := 2) hx hb dL_lookUp_23 (by decide) ?_
  exact W.iret hx hb hr (fun t9 ht9 hW9 => ⟨⟨_, (), rfl, rfl, trivial⟩, hS.F ht9⟩) hS.2.2 dL_lookUp_24

set_option maxHeartbeats 4000000 in
set_option maxRecDepth 100000 in
theorem kL_texel_ok (l : Launch) (D : va_G) (sz : Nat) (cI cT cL : ClassId) (W9 : va_W) (x0 ou : Nat) (fs : List Value) (fo : Nat → Int64) (t9 : Int32) (lv9 : Int32) (u9 : Int32) (v9 : Int32) (r : Int32) (F9 N9 : Nat) (hF9 : F9 ≤ 6) (hN9 : N9 ≤ 150) (hx0 : W9[0]? = some (x0, .inr (1, fs))) (hM : Met l yB_texel wB_texel (k2_rm F9 N9) (rd_P [.ref x0, .int t9, .int lv9, .int u9, .int v9] D [(cI, .int), (cT, .object "TextureBank$Texture")] W9) (k2_QcV (.int r)) 0 0 (fun _ => False)) : Met l yL_texel wL_texel (k2_rm 7 200) (lo_P [.ref x0, .int t9, .int lv9, .int u9, .int v9, .ref ou] sz D [(cI, .int), (cT, .object "TextureBank$Texture"), (cL, .long)] W9 [(ou, .inl (cL, 1, .inr (.inl fo)))]) (va_Qi (fun (x : Int32) (_ : Unit) => x = 0) (fun _ t => va_P D tbCl [(ou, .inl (cL, 1, .inr (.inl (vp_updL fo 0 r.toInt64))))] t.heap) (va_A [(ou, .inl (cL, 1, .inr (.inl fo)))] sz)) 0 0 (va_A [(ou, .inl (cL, 1, .inr (.inl fo)))] sz) := by
  refine va_MetW (cc := cL_texel) (maxL := 7) (ret := (some .int)) (by decide) rfl ?_
  intro p e s m args below meth c s₁ B hml hv
  obtain ⟨rfl, hsz, hC, hPW, hP, hK, hD0⟩ := hv
  have hx := B.exec
  have hb := B.bytes
  have hr := B.returns
  have hB : ∀ w ∈ tbB, w.before _ s = true := fun w h => (atoms_spec (ws := wL_texel) B.pre) w (List.mem_cons_of_mem _ h)
  have hown : s.vm.findClass "TextureBankLaw" = some m.cls := findClass_of_methodNamed B.named
  have hlocks := B.notSynchronized
  subst hsz
  have hD := hD0.self (sz := s.heap.size)
  generalize hAe : va_A [(ou, .inl (cL, 1, .inr (.inl fo)))] s.heap.size = A at hD ⊢
  have hA : ∀ q : Nat, s.heap.size ≤ q → A q := fun q h => by rw [← hAe]; exact Or.inr h
  have hS : va_S A s.heap s.heap [] := va_S.rf
  have hl := lv_entry ([.ref x0, .int t9, .int lv9, .int u9, .int v9, .ref ou]) (n := 7) (Nat.le_of_ble_eq_true rfl)
  rw [lg_entry_eq]
  generalize (lg_sl ([.ref x0, .int t9, .int lv9, .int u9, .int v9, .ref ou]) ++ List.replicate (7 - (lg_sl ([.ref x0, .int t9, .int lv9, .int u9, .int v9, .ref ou])).length) Slot.unset).toArray = ls at hl ⊢
  have hl : lv_has ls 7 [(0, .ref x0), (1, .int t9), (2, .int lv9), (3, .int u9), (4, .int v9), (5, .ref ou)] := hl
  refine lv_aload hx hb dL_texel_0 (lv_at hl 5 rfl) ?_
  refine lv_iconst (v := 0) hx hb dL_texel_2 (by decide) ?_
  refine lv_aload_n hx hb dL_texel_3 rfl (lv_at hl 0 rfl) ?_
  refine lv_iload_n hx hb dL_texel_4 rfl (lv_at hl 1 rfl) ?_
  refine lv_iload_n hx hb dL_texel_5 rfl (lv_at hl 2 rfl) ?_
  refine lv_iload_n hx hb dL_texel_6 rfl (lv_at hl 3 rfl) ?_
  refine lv_iload hx hb dL_texel_7 (lv_at hl 4 rfl) ?_
  refine W.callV (W.runV (C := "TextureBank") (As := [.int t9, .int lv9, .int u9, .int v9]) (rest := [.int 0, .ref ou]) ⟨hx, hb, hml, hown, hB⟩ hM ⟨callB_of 4 hB gwB_texel rfl rfl rfl (hB _ wd_1) (hB _ wd_290) ydB_texel ⟨by show F9 + 1 ≤ 7; omega, by show 8 + (7 + 11) + N9 ≤ 200; omega⟩, hB _ wd_291, hB _ wd_292⟩ (rd_V hC hPW (hK.sub [0, 1] rfl) (va_recv hK hPW (ci := 1) (q0 := 0) rfl hx0)) rfl rfl hl.1 rfl (lv_room (Nat.le_of_ble_eq_true rfl)) dL_texel_9 ⟨Nat.zero_le _, Nat.zero_le _⟩) ?_
  refine W.eq (g2 := F0 m 12 ls [.int r, .int 0, .ref ou]) rfl ?_
  refine lv_i2l hx hb dL_texel_12 rfl ?_
  refine va_last hx hb hK hP hD hS 0 2 rfl rfl (vp_in_nI (n := 0) (N := 1) (by decide) (by decide)) dL_texel_13 (fun H locs hP hD hS => ?_)
  refine lv_goto (tgt := 21) hx hb dL_texel_14 (by decide) ?_
  refine lv_iconst (v := 0) hx hb dL_texel_21 (by decide) ?_
  exact W.iret hx hb hr (fun t ht hW => ⟨⟨_, (), rfl, rfl, (by have h9 : va_P D tbCl [(ou, .inl (cL, 1, .inr (.inl (vp_updL fo 0 r.toInt64))))] H := hP; rw [← ht] at h9; exact h9)⟩, hS.F ht⟩) hS.2.2 dL_texel_22

set_option maxHeartbeats 4000000 in
set_option maxRecDepth 100000 in
theorem kL_texel_ns (l : Launch) (D : va_G) (cI cT : ClassId) (W9 : va_W) (x0 ou : Nat) (fs : List Value) (t9 : Int32) (lv9 : Int32) (u9 : Int32) (v9 : Int32) (hx0 : W9[0]? = some (x0, .inr (1, fs))) (hM : vx_Met l yB_texel wB_texel ({ frames := 6, cells := 1, slots := 6, locals := 90 }) (th_P [.ref x0, .int t9, .int lv9, .int u9, .int v9] D [(cI, .int), (cT, .object "TextureBank$Texture")] W9) th_Q (th_X "java/util/NoSuchElementException") 1 6 (fun _ => False)) : Met l yL_texel wL_texel ({ frames := 7, cells := 1, slots := 6, locals := 200 }) (th_P [.ref x0, .int t9, .int lv9, .int u9, .int v9, .ref ou] D [(cI, .int), (cT, .object "TextureBank$Texture")] W9) (va_Qi (fun (x : Int32) (_ : Unit) => x = 1) (fun _ _ => True) (fun _ => False)) 1 6 (fun _ => False) := by
  refine va_MetW (cc := cL_texel) (maxL := 7) (ret := (some .int)) (by decide) rfl ?_
  intro p e s m args below meth c s₁ B hml hv
  obtain ⟨rfl, hC, hPW, hK, hT, hZ⟩ := hv
  have hx := B.exec
  have hb := B.bytes
  have hr := B.returns
  have hB : ∀ w ∈ tbB, w.before _ s = true := fun w h => (atoms_spec (ws := wL_texel) B.pre) w (List.mem_cons_of_mem _ h)
  have hown : s.vm.findClass "TextureBankLaw" = some m.cls := findClass_of_methodNamed B.named
  have hlocks := B.notSynchronized
  have hl := lv_entry ([.ref x0, .int t9, .int lv9, .int u9, .int v9, .ref ou]) (n := 7) (Nat.le_of_ble_eq_true rfl)
  rw [lg_entry_eq]
  generalize (lg_sl ([.ref x0, .int t9, .int lv9, .int u9, .int v9, .ref ou]) ++ List.replicate (7 - (lg_sl ([.ref x0, .int t9, .int lv9, .int u9, .int v9, .ref ou])).length) Slot.unset).toArray = ls at hl ⊢
  have hl : lv_has ls 7 [(0, .ref x0), (1, .int t9), (2, .int lv9), (3, .int u9), (4, .int v9), (5, .ref ou)] := hl
  have htab : c.exceptionTable.toList = [⟨0, 14, 17, 13⟩] := vx_table (x := yL_texel) B ((atoms_spec (ws := wL_texel) B.pre) _ List.mem_cons_self)
  refine lv_aload hx hb dL_texel_0 (lv_at hl 5 rfl) ?_
  refine lv_iconst (v := 0) hx hb dL_texel_2 (by decide) ?_
  refine lv_aload_n hx hb dL_texel_3 rfl (lv_at hl 0 rfl) ?_
  refine lv_iload_n hx hb dL_texel_4 rfl (lv_at hl 1 rfl) ?_
  refine lv_iload_n hx hb dL_texel_5 rfl (lv_at hl 2 rfl) ?_
  refine lv_iload_n hx hb dL_texel_6 rfl (lv_at hl 3 rfl) ?_
  refine lv_iload hx hb dL_texel_7 (lv_at hl 4 rfl) ?_
  refine vx_calli (vx_runV (C := "TextureBank") (As := [.int t9, .int lv9, .int u9, .int v9]) (rest := [.int 0, .ref ou]) ⟨hx, hb, hml, hown, hB⟩ hM ⟨callB_of 4 hB gwB_texel rfl rfl rfl (hB _ wd_1) (hB _ wd_290) ydB_texel ⟨Nat.le_of_ble_eq_true rfl, Nat.le_of_ble_eq_true rfl⟩, hB _ wd_291, hB _ wd_292⟩ (th_V hC hPW hK hT hZ (va_recv hK hPW (ci := 1) (q0 := 0) rfl hx0)) rfl rfl hl.1 rfl (lv_room (Nat.le_of_ble_eq_true rfl)) dL_texel_9 ⟨Nat.le_of_ble_eq_true rfl, Nat.le_of_ble_eq_true rfl⟩) (A0 := fun _ => False) va_S.rf (fun _ _ h => h) (fun _ h => h) (fun _ _ h => h) (fun E9 ce9 q9 u t H1 locs1 ht hvm hpx hBX hz hk hS hce hv9 hcl => ?_) (fun r u t H1 locs1 ht hvm hpost hB1 hz hk hS => hpost.elim)
  have hE9 : E9 = "java/util/NoSuchElementException" := hBX
  subst hE9
  refine vx_catch hown [] ⟨0, 14, 17, 13⟩ [] htab (fun z hz => nomatch hz) (by decide) (by decide) (hB _ wd_142) (va_Nw.use rfl hT.2.2.2.1) hce hv9 hcl ?_
  refine W.eq (g2 := F0 m 17 ls [.ref q9]) rfl ?_
  refine lv_astore (lv' := [(6, .ref q9), (0, .ref x0), (1, .int t9), (2, .int lv9), (3, .int u9), (4, .int v9), (5, .ref ou)]) hx hb dL_texel_17 hl (by decide) rfl (fun ls hl => ?_)
  refine lv_iconst (v := 1) hx hb dL_texel_19 (by decide) ?_
  exact W.iret hx hb hr (fun t9 ht9 hW9 => ⟨⟨_, (), rfl, rfl, trivial⟩, hS.F ht9⟩) hS.2.2 dL_texel_20

set_option maxHeartbeats 4000000 in
set_option maxRecDepth 100000 in
theorem kL_lit_ok (l : Launch) (D : va_G) (sz : Nat) (cI cT cL : ClassId) (W9 : va_W) (x0 ou : Nat) (fs : List Value) (fo : Nat → Int64) (co : Int32) (ti : Int32) (li : Int32) (r : Int32) (F9 N9 : Nat) (hF9 : F9 ≤ 6) (hN9 : N9 ≤ 150) (hx0 : W9[0]? = some (x0, .inr (1, fs))) (hM : Met l yB_lit wB_lit (k2_rm F9 N9) (rd_P [.ref x0, .int co, .int ti, .int li] D [(cI, .int), (cT, .object "TextureBank$Texture")] W9) (k2_QcV (.int r)) 0 0 (fun _ => False)) : Met l yL_lit wL_lit (k2_rm 7 200) (lo_P [.ref x0, .int co, .int ti, .int li, .ref ou] sz D [(cI, .int), (cT, .object "TextureBank$Texture"), (cL, .long)] W9 [(ou, .inl (cL, 1, .inr (.inl fo)))]) (va_Qi (fun (x : Int32) (_ : Unit) => x = 0) (fun _ t => va_P D tbCl [(ou, .inl (cL, 1, .inr (.inl (vp_updL fo 0 r.toInt64))))] t.heap) (va_A [(ou, .inl (cL, 1, .inr (.inl fo)))] sz)) 0 0 (va_A [(ou, .inl (cL, 1, .inr (.inl fo)))] sz) := by
  refine va_MetW (cc := cL_lit) (maxL := 6) (ret := (some .int)) (by decide) rfl ?_
  intro p e s m args below meth c s₁ B hml hv
  obtain ⟨rfl, hsz, hC, hPW, hP, hK, hD0⟩ := hv
  have hx := B.exec
  have hb := B.bytes
  have hr := B.returns
  have hB : ∀ w ∈ tbB, w.before _ s = true := fun w h => (atoms_spec (ws := wL_lit) B.pre) w (List.mem_cons_of_mem _ h)
  have hown : s.vm.findClass "TextureBankLaw" = some m.cls := findClass_of_methodNamed B.named
  have hlocks := B.notSynchronized
  subst hsz
  have hD := hD0.self (sz := s.heap.size)
  generalize hAe : va_A [(ou, .inl (cL, 1, .inr (.inl fo)))] s.heap.size = A at hD ⊢
  have hA : ∀ q : Nat, s.heap.size ≤ q → A q := fun q h => by rw [← hAe]; exact Or.inr h
  have hS : va_S A s.heap s.heap [] := va_S.rf
  have hl := lv_entry ([.ref x0, .int co, .int ti, .int li, .ref ou]) (n := 6) (Nat.le_of_ble_eq_true rfl)
  rw [lg_entry_eq]
  generalize (lg_sl ([.ref x0, .int co, .int ti, .int li, .ref ou]) ++ List.replicate (6 - (lg_sl ([.ref x0, .int co, .int ti, .int li, .ref ou])).length) Slot.unset).toArray = ls at hl ⊢
  have hl : lv_has ls 6 [(0, .ref x0), (1, .int co), (2, .int ti), (3, .int li), (4, .ref ou)] := hl
  refine lv_aload hx hb dL_lit_0 (lv_at hl 4 rfl) ?_
  refine lv_iconst (v := 0) hx hb dL_lit_2 (by decide) ?_
  refine lv_aload_n hx hb dL_lit_3 rfl (lv_at hl 0 rfl) ?_
  refine lv_iload_n hx hb dL_lit_4 rfl (lv_at hl 1 rfl) ?_
  refine lv_iload_n hx hb dL_lit_5 rfl (lv_at hl 2 rfl) ?_
  refine lv_iload_n hx hb dL_lit_6 rfl (lv_at hl 3 rfl) ?_
  refine W.callV (W.runV (C := "TextureBank") (As := [.int co, .int ti, .int li]) (rest := [.int 0, .ref ou]) ⟨hx, hb, hml, hown, hB⟩ hM ⟨callB_of 3 hB gwB_lit rfl rfl rfl (hB _ wd_1) (hB _ wd_299) ydB_lit ⟨by show F9 + 1 ≤ 7; omega, by show 8 + (4 + 11) + N9 ≤ 200; omega⟩, hB _ wd_300, hB _ wd_301⟩ (rd_V hC hPW (hK.sub [0, 1] rfl) (va_recv hK hPW (ci := 1) (q0 := 0) rfl hx0)) rfl rfl hl.1 rfl (lv_room (Nat.le_of_ble_eq_true rfl)) dL_lit_7 ⟨Nat.zero_le _, Nat.zero_le _⟩) ?_
  refine W.eq (g2 := F0 m 10 ls [.int r, .int 0, .ref ou]) rfl ?_
  refine lv_i2l hx hb dL_lit_10 rfl ?_
  refine va_last hx hb hK hP hD hS 0 2 rfl rfl (vp_in_nI (n := 0) (N := 1) (by decide) (by decide)) dL_lit_11 (fun H locs hP hD hS => ?_)
  refine lv_goto (tgt := 19) hx hb dL_lit_12 (by decide) ?_
  refine lv_iconst (v := 0) hx hb dL_lit_19 (by decide) ?_
  exact W.iret hx hb hr (fun t ht hW => ⟨⟨_, (), rfl, rfl, (by have h9 : va_P D tbCl [(ou, .inl (cL, 1, .inr (.inl (vp_updL fo 0 r.toInt64))))] H := hP; rw [← ht] at h9; exact h9)⟩, hS.F ht⟩) hS.2.2 dL_lit_20

set_option maxHeartbeats 4000000 in
set_option maxRecDepth 100000 in
theorem kL_lit_ia (l : Launch) (D : va_G) (cI cT : ClassId) (W9 : va_W) (x0 ou : Nat) (fs : List Value) (co : Int32) (ti : Int32) (li : Int32) (hx0 : W9[0]? = some (x0, .inr (1, fs))) (hM : vx_Met l yB_lit wB_lit ({ frames := 6, cells := 1, slots := 6, locals := 90 }) (th_P [.ref x0, .int co, .int ti, .int li] D [(cI, .int), (cT, .object "TextureBank$Texture")] W9) th_Q (th_X "java/lang/IllegalArgumentException") 1 6 (fun _ => False)) : Met l yL_lit wL_lit ({ frames := 7, cells := 1, slots := 6, locals := 200 }) (th_P [.ref x0, .int co, .int ti, .int li, .ref ou] D [(cI, .int), (cT, .object "TextureBank$Texture")] W9) (va_Qi (fun (x : Int32) (_ : Unit) => x = 1) (fun _ _ => True) (fun _ => False)) 1 6 (fun _ => False) := by
  refine va_MetW (cc := cL_lit) (maxL := 6) (ret := (some .int)) (by decide) rfl ?_
  intro p e s m args below meth c s₁ B hml hv
  obtain ⟨rfl, hC, hPW, hK, hT, hZ⟩ := hv
  have hx := B.exec
  have hb := B.bytes
  have hr := B.returns
  have hB : ∀ w ∈ tbB, w.before _ s = true := fun w h => (atoms_spec (ws := wL_lit) B.pre) w (List.mem_cons_of_mem _ h)
  have hown : s.vm.findClass "TextureBankLaw" = some m.cls := findClass_of_methodNamed B.named
  have hlocks := B.notSynchronized
  have hl := lv_entry ([.ref x0, .int co, .int ti, .int li, .ref ou]) (n := 6) (Nat.le_of_ble_eq_true rfl)
  rw [lg_entry_eq]
  generalize (lg_sl ([.ref x0, .int co, .int ti, .int li, .ref ou]) ++ List.replicate (6 - (lg_sl ([.ref x0, .int co, .int ti, .int li, .ref ou])).length) Slot.unset).toArray = ls at hl ⊢
  have hl : lv_has ls 6 [(0, .ref x0), (1, .int co), (2, .int ti), (3, .int li), (4, .ref ou)] := hl
  have htab : c.exceptionTable.toList = [⟨0, 12, 15, 15⟩] := vx_table (x := yL_lit) B ((atoms_spec (ws := wL_lit) B.pre) _ List.mem_cons_self)
  refine lv_aload hx hb dL_lit_0 (lv_at hl 4 rfl) ?_
  refine lv_iconst (v := 0) hx hb dL_lit_2 (by decide) ?_
  refine lv_aload_n hx hb dL_lit_3 rfl (lv_at hl 0 rfl) ?_
  refine lv_iload_n hx hb dL_lit_4 rfl (lv_at hl 1 rfl) ?_
  refine lv_iload_n hx hb dL_lit_5 rfl (lv_at hl 2 rfl) ?_
  refine lv_iload_n hx hb dL_lit_6 rfl (lv_at hl 3 rfl) ?_
  refine vx_calli (vx_runV (C := "TextureBank") (As := [.int co, .int ti, .int li]) (rest := [.int 0, .ref ou]) ⟨hx, hb, hml, hown, hB⟩ hM ⟨callB_of 3 hB gwB_lit rfl rfl rfl (hB _ wd_1) (hB _ wd_299) ydB_lit ⟨Nat.le_of_ble_eq_true rfl, Nat.le_of_ble_eq_true rfl⟩, hB _ wd_300, hB _ wd_301⟩ (th_V hC hPW hK hT hZ (va_recv hK hPW (ci := 1) (q0 := 0) rfl hx0)) rfl rfl hl.1 rfl (lv_room (Nat.le_of_ble_eq_true rfl)) dL_lit_7 ⟨Nat.le_of_ble_eq_true rfl, Nat.le_of_ble_eq_true rfl⟩) (A0 := fun _ => False) va_S.rf (fun _ _ h => h) (fun _ h => h) (fun _ _ h => h) (fun E9 ce9 q9 u t H1 locs1 ht hvm hpx hBX hz hk hS hce hv9 hcl => ?_) (fun r u t H1 locs1 ht hvm hpost hB1 hz hk hS => hpost.elim)
  have hE9 : E9 = "java/lang/IllegalArgumentException" := hBX
  subst hE9
  refine vx_catch hown [] ⟨0, 12, 15, 15⟩ [] htab (fun z hz => nomatch hz) (by decide) (by decide) (hB _ wd_143) (va_Nw.use rfl hT.2.2.2.2.1) hce hv9 hcl ?_
  refine W.eq (g2 := F0 m 15 ls [.ref q9]) rfl ?_
  refine lv_astore (lv' := [(5, .ref q9), (0, .ref x0), (1, .int co), (2, .int ti), (3, .int li), (4, .ref ou)]) hx hb dL_lit_15 hl (by decide) rfl (fun ls hl => ?_)
  refine lv_iconst (v := 1) hx hb dL_lit_17 (by decide) ?_
  exact W.iret hx hb hr (fun t9 ht9 hW9 => ⟨⟨_, (), rfl, rfl, trivial⟩, hS.F ht9⟩) hS.2.2 dL_lit_18
