/-- a writing method's start: its arguments, the heap's size, the tables, its cells, which are apart -/
def wr_P (av : List Value) (sz : Nat) (D : va_G) (tys : List (ClassId × FieldType)) (w : va_W) : Array Value → State → Prop := fun v U => v = av.toArray ∧ U.heap.size = sz ∧ tbCx U ∧ va_P D tbCl w U.heap ∧ va_K D tbCl tys U ∧ va_D (fun _ => True) w
theorem wr_B {av : List Value} {sz : Nat} {D : va_G} {tys : List (ClassId × FieldType)} {w : va_W} : FrameBlind (wr_P av sz D tys w) := fun a U g mk q => ⟨q.1, q.2.1, tbCx.same (u := U) rfl q.2.2.1, q.2.2.2.1, va_K.moved (u := U) (U := U.calling g mk a) (Vm.Alike.refl U.vm) q.2.2.2.2.1, q.2.2.2.2.2⟩
theorem wr_S {s : State} {H : Heap} {av : List Value} {D : va_G} {tys : List (ClassId × FieldType)} {w : va_W} {A : Nat → Prop} (hC : tbCx s) (hP : va_P D tbCl w H) (hK : va_K D tbCl tys s) (hD : va_D A w) : PreS s H (wr_P av H.size D tys w) av := ⟨wr_B, fun U hU hW => ⟨rfl, by rw [hU], hC.warm hW, by rw [hU]; exact hP, va_K.moved hW.alike hK, hD.weaken (fun _ _ _ _ => trivial)⟩⟩
theorem wr_V {s : State} {H : Heap} {C : String} {b : Nat} {As : List Value} {D : va_G} {tys : List (ClassId × FieldType)} {w : va_W} {A : Nat → Prop} (hC : tbCx s) (hP : va_P D tbCl w H) (hK : va_K D tbCl tys s) (hD : va_D A w) (hr : ∃ cellB : Cell, H[b]? = some cellB ∧ cellB.vm.isStatics = false ∧ s.vm.findClass C = some cellB.cls) : PreV s H C b (wr_P (.ref b :: As) H.size D tys w) As := ⟨wr_B, hr, fun U hU hW => ⟨rfl, by rw [hU], hC.warm hW, by rw [hU]; exact hP, va_K.moved hW.alike hK, hD.weaken (fun _ _ _ _ => trivial)⟩⟩
abbrev wr_Qv (D : va_G) (A : Nat → Prop) (w : va_W) : Array Value → State → Outcome → State → Prop := va_Qv (fun _ : Unit => True) (fun _ t => va_P D tbCl w t.heap) A
abbrev wr_Qi (r : Int32) (D : va_G) (A : Nat → Prop) (w : va_W) : Array Value → State → Outcome → State → Prop := va_Qi (fun (x : Int32) (_ : Unit) => x = r) (fun _ t => va_P D tbCl w t.heap) A
/-- behind a call whose cells are some of the world's, at the same addresses -/
theorem wd_back {A0 : Nat → Prop} {D : va_G} {cl : List vw_C} {ws ws' wc w1 : va_W} {H H1 : Heap} (hP : va_P D cl ws H) (hD : va_D A0 ws) (isC : List Nat) (hC : isC.map (fun i => ws[i]?) = wc.map some)
    (hk : ∀ q : Nat, q < H.size → ¬ va_A wc H.size q → H1[q]? = H[q]?) (hP1 : va_P D cl w1 H1)
    (hw : ∀ (k : Nat) (q : Nat × va_E), ws'[k]? = some q → (∃ i : Nat, w1[i]? = some q) ∨ (k ∉ isC ∧ ws[k]? = some q)) : va_P D cl ws' H1 := by
  intro k q hq
  rcases hw k q hq with ⟨i, hi⟩ | ⟨hn, hk0⟩
  · exact hP1 i q hi
  · have hlt : q.1 < H.size := va_at.lt (hP k q hk0)
    refine va_at.kept (hP k q hk0) (hk q.1 hlt ?_)
    rintro (⟨j, e, hj⟩ | hge)
    · obtain ⟨i, hi, hwi⟩ := va_in_of isC hC hj
      have e1 := hD.1 i k _ _ hwi hk0 rfl
      exact hn (e1 ▸ List.mem_of_getElem? hi)
    · exact absurd hlt (Nat.not_lt.mpr hge)
theorem wd_D {A : Nat → Prop} {ws ws' : va_W} (hD : va_D A ws) (h : ws'.map (fun q => q.1) = ws.map (fun q => q.1)) : va_D A ws' := by
  have key : ∀ (k : Nat) (q : Nat × va_E), ws'[k]? = some q → ∃ q', ws[k]? = some q' ∧ q'.1 = q.1 := by
    intro k q hq
    have h1 : (ws'.map (fun q => q.1))[k]? = some q.1 := by rw [List.getElem?_map, hq]; rfl
    rw [h, List.getElem?_map] at h1
    cases h2 : ws[k]? with
    | none => rw [h2] at h1; simp at h1
    | some q' => rw [h2] at h1; exact ⟨q', rfl, by simpa using h1⟩
  refine ⟨fun i j p q hp hq e => ?_, fun k q hq => ?_⟩
  · obtain ⟨p', hp', ep⟩ := key i p hp
    obtain ⟨q', hq', eq⟩ := key j q hq
    exact hD.1 i j p' q' hp' hq' (by rw [ep, eq, e])
  · obtain ⟨q', hq', eq⟩ := key k q hq
    rw [← eq]
    exact hD.2 k q' hq'
