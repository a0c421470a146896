/-- what a throw, and its catching, want of the tables beside the good words -/
def tbTx (U : State) : Prop :=
  va_Nw (.declares ⟨"java/lang/RuntimeException", "<init>", "(Ljava/lang/String;)V"⟩) U ∧
  va_Nw (.declares ⟨"java/lang/Exception", "<init>", "(Ljava/lang/String;)V"⟩) U ∧
  va_Nw (.declares ⟨"java/lang/Throwable", "<init>", "(Ljava/lang/String;)V"⟩) U ∧
  va_Nw (.castable "java/util/NoSuchElementException" "java/util/NoSuchElementException") U ∧
  va_Nw (.castable "java/lang/IllegalArgumentException" "java/lang/IllegalArgumentException") U ∧
  (∃ a, vk_R "TextureBank" 54 "no such texture" a U) ∧
  (∃ a, vk_R "TextureBank" 63 "spread is not 0 .. 2^40" a U) ∧
  (∃ a, vk_R "TextureBank" 67 "area is not 1 .. 2^24" a U) ∧
  (∃ a, vk_R "TextureBank" 76 "no such texture or level" a U) ∧
  (∃ a, vk_R "TextureBank" 81 "a place is not -16777216 .. 16777216" a U) ∧
  (∃ a, vk_R "TextureBank" 94 "no such texel" a U) ∧
  (∃ a, vk_R "TextureBank" 99 "no colour" a U) ∧
  (∃ a, vk_R "TextureBank" 103 "light is not 0 .. 65536" a U) ∧
  va_Nc "java/lang/IllegalArgumentException" "java/util/NoSuchElementException" U
theorem tbTx.warm {s U : State} (hW : s.WarmedH U.vm) (h : tbTx s) : tbTx U := by
  obtain ⟨h1, h2, h3, h4, h5, ⟨a6, h6⟩, ⟨a7, h7⟩, ⟨a8, h8⟩, ⟨a9, h9⟩, ⟨a10, h10⟩, ⟨a11, h11⟩, ⟨a12, h12⟩, ⟨a13, h13⟩, h14⟩ := h
  exact ⟨va_Nw.warmD hW h1, va_Nw.warmD hW h2, va_Nw.warmD hW h3, va_Nw.warmC hW h4, va_Nw.warmC hW h5, ⟨a6, vk_R.warm hW h6⟩, ⟨a7, vk_R.warm hW h7⟩, ⟨a8, vk_R.warm hW h8⟩, ⟨a9, vk_R.warm hW h9⟩, ⟨a10, vk_R.warm hW h10⟩, ⟨a11, vk_R.warm hW h11⟩, ⟨a12, vk_R.warm hW h12⟩, ⟨a13, vk_R.warm hW h13⟩, va_Nc.moved hW.alike h14⟩
theorem tbTx.same {u U : State} (e : u.vm = U.vm) (h : tbTx u) : tbTx U := by
  obtain ⟨h1, h2, h3, h4, h5, ⟨a6, h6⟩, ⟨a7, h7⟩, ⟨a8, h8⟩, ⟨a9, h9⟩, ⟨a10, h10⟩, ⟨a11, h11⟩, ⟨a12, h12⟩, ⟨a13, h13⟩, h14⟩ := h
  exact ⟨va_Nw.same rfl e h1, va_Nw.same rfl e h2, va_Nw.same rfl e h3, va_Nw.same rfl e h4, va_Nw.same rfl e h5, ⟨a6, vk_R.same e.symm h6⟩, ⟨a7, vk_R.same e.symm h7⟩, ⟨a8, vk_R.same e.symm h8⟩, ⟨a9, vk_R.same e.symm h9⟩, ⟨a10, vk_R.same e.symm h10⟩, ⟨a11, vk_R.same e.symm h11⟩, ⟨a12, vk_R.same e.symm h12⟩, ⟨a13, vk_R.same e.symm h13⟩, va_Nc.moved (by rw [e]; exact Vm.Alike.refl _) h14⟩
/-- where Throwable's two statics lie: none of them is a new cell -/
def tbZ (U : State) (H : Heap) : Prop := vx_Zq Bundle.tN "UNASSIGNED_STACK" Bundle.steD (fun q => H.size ≤ q) U H ∧ vx_Zq Bundle.tN "SUPPRESSED_SENTINEL" Bundle.listD (fun q => H.size ≤ q) U H
def tw_B : List Cond := [.declares ⟨"java/lang/RuntimeException", "<init>", "(Ljava/lang/String;)V"⟩, .declares ⟨"java/lang/Exception", "<init>", "(Ljava/lang/String;)V"⟩, .declares ⟨"java/lang/Throwable", "<init>", "(Ljava/lang/String;)V"⟩, .castable "java/util/NoSuchElementException" "java/util/NoSuchElementException", .castable "java/lang/IllegalArgumentException" "java/lang/IllegalArgumentException"]
theorem tw_ns_bad : ∀ w ∈ tw_NS.filter (fun w => !goodWord w), w ∈ tw_B := by decide +kernel
theorem tw_ia_bad : ∀ w ∈ tw_IA.filter (fun w => !goodWord w), w ∈ tw_B := by decide +kernel
theorem tw_Bs {s : State} {args : Array Value} (h : tbTx s) : ∀ w ∈ tw_B, w.before args s = true := by
  obtain ⟨h1, h2, h3, h4, h5, -⟩ := h
  exact vx_c (va_Nw.use rfl h1) (vx_c (va_Nw.use rfl h2) (vx_c (va_Nw.use rfl h3) (vx_c (va_Nw.use rfl h4) (vx_c (va_Nw.use rfl h5) vx_n))))
theorem tw_nsat {s : State} {args : Array Value} (hB : ∀ w ∈ tbB, w.before args s = true) (h : tbTx s) : ∀ w ∈ tw_NS, w.before args s = true :=
  vx_hat (fun w hw => hB w (tbB_in (tw_ns_in w (List.mem_filter.mp hw).1) (List.mem_filter.mp hw).2)) tw_ns_bad (tw_Bs h)
theorem tw_iaat {s : State} {args : Array Value} (hB : ∀ w ∈ tbB, w.before args s = true) (h : tbTx s) : ∀ w ∈ tw_IA, w.before args s = true :=
  vx_hat (fun w hw => hB w (tbB_in (tw_ia_in w (List.mem_filter.mp hw).1) (List.mem_filter.mp hw).2)) tw_ia_bad (tw_Bs h)
/-- a throwing method's start -/
def th_P (av : List Value) (D : va_G) (tys : List (ClassId × FieldType)) (w : va_W) : Array Value → State → Prop := fun v U => v = av.toArray ∧ tbCx U ∧ va_P D tbCl w U.heap ∧ va_K D tbCl tys U ∧ tbTx U ∧ tbZ U U.heap
theorem tbZ.moved {u U : State} {H : Heap} (hvm : u.vm.Alike U.vm) (h : tbZ u H) : tbZ U H := ⟨vx_Zq.moved hvm h.1, vx_Zq.moved hvm h.2⟩
theorem tw_znew1 {C n d : String} {v : Value} {A : Nat → Prop} {U : State} {H : Heap} (h : va_Z C n d v A U H) : va_Z C n d v (fun q => H.size ≤ q) U H := by
  obtain ⟨cf, kf, fi, f, a, cell, h1, h2, h3, h4, h5, h6, h7, -⟩ := h
  exact ⟨cf, kf, fi, f, a, cell, h1, h2, h3, h4, h5, h6, h7, Nat.not_le.mpr (Array.getElem?_eq_some_iff.mp h5).1⟩
theorem tw_znew2 {C n d : String} {A : Nat → Prop} {U : State} {H : Heap} (h : vx_L C n d A U H) : vx_L C n d (fun q => H.size ≤ q) U H := by
  obtain ⟨c9, k9, i9, f9, a9, cell9, g1, g2, g3, g4, g5, g6, g7, g8, g9, -⟩ := h
  exact ⟨c9, k9, i9, f9, a9, cell9, g1, g2, g3, g4, g5, g6, g7, g8, g9, Nat.not_le.mpr (Array.getElem?_eq_some_iff.mp g5).1⟩
theorem tw_znew {C n d : String} {A : Nat → Prop} {U : State} {H : Heap} (h : vx_Zq C n d A U H) : vx_Zq C n d (fun q => H.size ≤ q) U H :=
  ⟨h.1.elim (fun h => Or.inl (tw_znew1 h)) (fun ⟨t, h⟩ => Or.inr ⟨t, tw_znew1 h⟩), tw_znew2 h.2⟩
theorem tbZ.of {A : Nat → Prop} {U : State} {H : Heap} (h1 : vx_Zq Bundle.tN "UNASSIGNED_STACK" Bundle.steD A U H) (h2 : vx_Zq Bundle.tN "SUPPRESSED_SENTINEL" Bundle.listD A U H) : tbZ U H := ⟨tw_znew h1, tw_znew h2⟩
theorem th_B {av : List Value} {D : va_G} {tys : List (ClassId × FieldType)} {w : va_W} : FrameBlind (th_P av D tys w) := fun a U g mk q => ⟨q.1, tbCx.same (u := U) rfl q.2.1, q.2.2.1, va_K.moved (u := U) (U := U.calling g mk a) (Vm.Alike.refl U.vm) q.2.2.2.1, tbTx.same (u := U) rfl q.2.2.2.2.1, tbZ.moved (u := U) (U := U.calling g mk a) (Vm.Alike.refl U.vm) q.2.2.2.2.2⟩
theorem th_V {s : State} {H : Heap} {C : String} {b : Nat} {As : List Value} {D : va_G} {tys : List (ClassId × FieldType)} {w : va_W} (hC : tbCx s) (hP : va_P D tbCl w H) (hK : va_K D tbCl tys s) (hT : tbTx s) (hZ : tbZ s H) (hr : ∃ cellB : Cell, H[b]? = some cellB ∧ cellB.vm.isStatics = false ∧ s.vm.findClass C = some cellB.cls) : PreV s H C b (th_P (.ref b :: As) D tys w) As := ⟨th_B, hr, fun U hU hW => ⟨rfl, hC.warm hW, by rw [hU]; exact hP, va_K.moved hW.alike hK, hT.warm hW, by rw [hU]; exact hZ.moved hW.alike⟩⟩
/-- E is thrown, and nothing that was there has changed -/
abbrev th_X (E : String) : String → State → State → Prop := vx_X (fun _ : Unit => True) (fun E' _ _ => E' = E) (fun _ => False)
abbrev th_Q : Array Value → State → Outcome → State → Prop := va_Qi (fun (_ : Int32) (_ : Unit) => False) (fun _ _ => True) (fun _ => False)
