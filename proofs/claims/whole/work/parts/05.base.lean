theorem tbI {a b : Int32} (h : a = b) : Outcome.returned (some (Value.int a)) = Outcome.returned (some (Value.int b)) := by rw [h]
theorem tbL {a b : Int64} (h : a = b) : Outcome.returned (some (Value.long a)) = Outcome.returned (some (Value.long b)) := by rw [h]
theorem tbR {a b : Value} (h : a = b) : Outcome.returned (some a) = Outcome.returned (some b) := by rw [h]
theorem run_of {p : Program} {l : Launch} {e : Env} {R : Room} {s : State} {m : MethodId} {args : Array Value} {below : List Frame} {meth : Method} {c : Code} {H : Heap} {locs : List Loc} {cells slots mc ms : Nat} {g : JFrame} {rest : List Value} {Qa : State → Outcome → State → Prop} {free : Addr → Prop}
    (h : va_Run p l e R s m args below meth c H locs cells slots mc ms g rest Qa free) : CallRun p l e R s m args below meth c H locs cells slots mc ms g rest Qa free := by
  intro T hT X
  obtain ⟨v, st0, t, T', L, a1, a2, a3, a4, _, a5, a6⟩ := h T hT X
  exact ⟨v, st0, t, T', L, a1, a2, a3, a4, a5, a6⟩
/-- what a call of a nest mate wants of the tables, and the class of the textures' array -/
def tbCx (U : State) : Prop :=
  va_Nw (.methodLinkNest "TextureBank" 23 ⟨"TextureBank$Texture", "<init>", "()V"⟩ "TextureBank") U ∧
  va_Nw (.fieldLinkNest "TextureBank" 109 "TextureBank$Texture" "side" "I" "TextureBank") U ∧
  va_Nw (.fieldLinkNest "TextureBank" 112 "TextureBank$Texture" "wrap" "I" "TextureBank") U ∧
  va_Nw (.fieldLinkNest "TextureBank" 115 "TextureBank$Texture" "soft" "I" "TextureBank") U ∧
  va_Nw (.fieldLinkNest "TextureBank" 118 "TextureBank$Texture" "levels" "I" "TextureBank") U ∧
  va_Nw (.methodLinkNest "TextureBank" 44 ⟨"TextureBank$Texture", "fill", "([IIII)V"⟩ "TextureBank") U ∧
  va_Nw (.methodLinkNest "TextureBank$Texture" 56 ⟨"TextureBank", "numberOf", "(II)J"⟩ "TextureBank") U ∧
  va_Nw (.methodLinkNest "TextureBank$Texture" 53 ⟨"TextureBank", "colourOf", "(III)I"⟩ "TextureBank") U ∧
  va_Nw (.methodLinkNest "TextureBank" 69 ⟨"TextureBank$Texture", "levelFor", "(JJ)I"⟩ "TextureBank") U ∧
  va_Nw (.methodLinkNest "TextureBank" 73 ⟨"TextureBank$Texture", "hasLevel", "(I)Z"⟩ "TextureBank") U ∧
  va_Nw (.methodLinkNest "TextureBank" 83 ⟨"TextureBank$Texture", "sideOf", "(I)I"⟩ "TextureBank") U ∧
  va_Nw (.methodLinkNest "TextureBank" 87 ⟨"TextureBank$Texture", "colourAt", "(IJJ)I"⟩ "TextureBank") U ∧
  va_Nw (.methodLinkNest "TextureBank" 91 ⟨"TextureBank$Texture", "colourIn", "(III)I"⟩ "TextureBank") U ∧
  va_AO "TextureBank$Texture" U
theorem tbCx.warm {s U : State} (hW : s.WarmedH U.vm) (h : tbCx s) : tbCx U := by
  obtain ⟨h1, h2, h3, h4, h5, h6, h7, h8, h9, h10, h11, h12, h13, h14⟩ := h
  exact ⟨va_Nw.warmM hW h1, va_Nw.warmF hW h2, va_Nw.warmF hW h3, va_Nw.warmF hW h4, va_Nw.warmF hW h5, va_Nw.warmM hW h6, va_Nw.warmM hW h7, va_Nw.warmM hW h8, va_Nw.warmM hW h9, va_Nw.warmM hW h10, va_Nw.warmM hW h11, va_Nw.warmM hW h12, va_Nw.warmM hW h13, va_AO.moved hW.alike h14⟩
theorem tbCx.same {u U : State} (e : u.vm = U.vm) (h : tbCx u) : tbCx U := by
  obtain ⟨h1, h2, h3, h4, h5, h6, h7, h8, h9, h10, h11, h12, h13, h14⟩ := h
  exact ⟨va_Nw.same rfl e h1, va_Nw.same rfl e h2, va_Nw.same rfl e h3, va_Nw.same rfl e h4, va_Nw.same rfl e h5, va_Nw.same rfl e h6, va_Nw.same rfl e h7, va_Nw.same rfl e h8, va_Nw.same rfl e h9, va_Nw.same rfl e h10, va_Nw.same rfl e h11, va_Nw.same rfl e h12, va_Nw.same rfl e h13, va_AO.moved (by rw [e]; exact Vm.Alike.refl _) h14⟩
/-- a reading method's start: its arguments, the tables, its cells -/
def rd_P (av : List Value) (D : va_G) (tys : List (ClassId × FieldType)) (w : va_W) : Array Value → State → Prop := fun v U => v = av.toArray ∧ tbCx U ∧ va_P D tbCl w U.heap ∧ va_K D tbCl tys U
theorem rd_B {av : List Value} {D : va_G} {tys : List (ClassId × FieldType)} {w : va_W} : FrameBlind (rd_P av D tys w) := fun a U g mk q => ⟨q.1, tbCx.same (u := U) rfl q.2.1, q.2.2.1, va_K.moved (u := U) (U := U.calling g mk a) (Vm.Alike.refl U.vm) q.2.2.2⟩
theorem rd_S {s : State} {H : Heap} {av : List Value} {D : va_G} {tys : List (ClassId × FieldType)} {w : va_W} (hC : tbCx s) (hP : va_P D tbCl w H) (hK : va_K D tbCl tys s) : PreS s H (rd_P av D tys w) av := ⟨rd_B, fun U hU hW => ⟨rfl, hC.warm hW, by rw [hU]; exact hP, va_K.moved hW.alike hK⟩⟩
theorem rd_V {s : State} {H : Heap} {C : String} {b : Nat} {As : List Value} {D : va_G} {tys : List (ClassId × FieldType)} {w : va_W} (hC : tbCx s) (hP : va_P D tbCl w H) (hK : va_K D tbCl tys s) (hr : ∃ cellB : Cell, H[b]? = some cellB ∧ cellB.vm.isStatics = false ∧ s.vm.findClass C = some cellB.cls) : PreV s H C b (rd_P (.ref b :: As) D tys w) As := ⟨rd_B, hr, fun U hU hW => ⟨rfl, hC.warm hW, by rw [hU]; exact hP, va_K.moved hW.alike hK⟩⟩
theorem tbP0 {D : va_G} {H : Heap} : va_P D tbCl [] H := fun k q h => by simp at h
theorem inT : ∀ w ∈ u_ws RT FT 5, w ∈ tbB := by decide +kernel
theorem inB : ∀ w ∈ u_ws RB FB 4, w ∈ tbB := by decide +kernel
theorem inM : ∀ w ∈ u_ws RM FM 10, w ∈ tbB := by decide +kernel
