section
-- ===== PART A: goes FIRST, ahead of the names: the tables' words, and 'selects' of the private methods out of them =====
/-- a private method of a class that the tables say can be made, by its rows of tables_1 -/
def lw_okq (q : MethodName × Nat) : Prop := (q.1.cls ≠ "java/lang/invoke/MethodHandle" ∧ q.1.cls ≠ "java/lang/invoke/VarHandle") ∧ Cond.instantiable q.1.cls q.2 ∈ tables_1 ∧ Cond.privateMethod q.1 ∈ tables_1 ∧ Cond.instanceMethod q.1 ∈ tables_1
theorem lw_p0 : lw_okq (⟨"TextureBank$Texture", "fill", "([IIII)V"⟩, 5) := ⟨⟨by decide +kernel, by decide +kernel⟩, List.mem_of_getElem? (i := 22) (by decide +kernel), List.mem_of_getElem? (i := 91) (by decide +kernel), List.mem_of_getElem? (i := 92) (by decide +kernel)⟩
theorem lw_p1 : lw_okq (⟨"TextureBank$Texture", "fillFromDouble", "(I)V"⟩, 5) := ⟨⟨by decide +kernel, by decide +kernel⟩, List.mem_of_getElem? (i := 22) (by decide +kernel), List.mem_of_getElem? (i := 101) (by decide +kernel), List.mem_of_getElem? (i := 102) (by decide +kernel)⟩
theorem lw_p2 : lw_okq (⟨"TextureBank$Texture", "meanOfFour", "(III)I"⟩, 5) := ⟨⟨by decide +kernel, by decide +kernel⟩, List.mem_of_getElem? (i := 22) (by decide +kernel), List.mem_of_getElem? (i := 105) (by decide +kernel), List.mem_of_getElem? (i := 106) (by decide +kernel)⟩
theorem lw_p3 : lw_okq (⟨"TextureBank$Texture", "colourIn", "(III)I"⟩, 5) := ⟨⟨by decide +kernel, by decide +kernel⟩, List.mem_of_getElem? (i := 22) (by decide +kernel), List.mem_of_getElem? (i := 109) (by decide +kernel), List.mem_of_getElem? (i := 110) (by decide +kernel)⟩
theorem lw_p4 : lw_okq (⟨"TextureBank", "find", "(I)LTextureBank$Texture;"⟩, 4) := ⟨⟨by decide +kernel, by decide +kernel⟩, List.mem_of_getElem? (i := 13) (by decide +kernel), List.mem_of_getElem? (i := 132) (by decide +kernel), List.mem_of_getElem? (i := 133) (by decide +kernel)⟩
theorem lw_p5 : lw_okq (⟨"java/lang/Throwable", "fillInStackTrace", "(I)Ljava/lang/Throwable;"⟩, 6) := ⟨⟨by decide +kernel, by decide +kernel⟩, List.mem_of_getElem? (i := 186) (by decide +kernel), List.mem_of_getElem? (i := 184) (by decide +kernel), List.mem_of_getElem? (i := 185) (by decide +kernel)⟩
theorem lw_p6 : lw_okq (⟨"TextureBank$Texture", "levelFor", "(JJ)I"⟩, 5) := ⟨⟨by decide +kernel, by decide +kernel⟩, List.mem_of_getElem? (i := 22) (by decide +kernel), List.mem_of_getElem? (i := 235) (by decide +kernel), List.mem_of_getElem? (i := 236) (by decide +kernel)⟩
theorem lw_p7 : lw_okq (⟨"TextureBank$Texture", "hasLevel", "(I)Z"⟩, 5) := ⟨⟨by decide +kernel, by decide +kernel⟩, List.mem_of_getElem? (i := 22) (by decide +kernel), List.mem_of_getElem? (i := 247) (by decide +kernel), List.mem_of_getElem? (i := 248) (by decide +kernel)⟩
theorem lw_p8 : lw_okq (⟨"TextureBank$Texture", "sideOf", "(I)I"⟩, 5) := ⟨⟨by decide +kernel, by decide +kernel⟩, List.mem_of_getElem? (i := 22) (by decide +kernel), List.mem_of_getElem? (i := 257) (by decide +kernel), List.mem_of_getElem? (i := 258) (by decide +kernel)⟩
theorem lw_p9 : lw_okq (⟨"TextureBank$Texture", "colourAt", "(IJJ)I"⟩, 5) := ⟨⟨by decide +kernel, by decide +kernel⟩, List.mem_of_getElem? (i := 22) (by decide +kernel), List.mem_of_getElem? (i := 261) (by decide +kernel), List.mem_of_getElem? (i := 262) (by decide +kernel)⟩
theorem lw_p10 : lw_okq (⟨"TextureBank$Texture", "softColour", "(IJJ)I"⟩, 5) := ⟨⟨by decide +kernel, by decide +kernel⟩, List.mem_of_getElem? (i := 22) (by decide +kernel), List.mem_of_getElem? (i := 266) (by decide +kernel), List.mem_of_getElem? (i := 267) (by decide +kernel)⟩
theorem lw_p11 : lw_okq (⟨"TextureBank$Texture", "wrapped", "(JI)I"⟩, 5) := ⟨⟨by decide +kernel, by decide +kernel⟩, List.mem_of_getElem? (i := 22) (by decide +kernel), List.mem_of_getElem? (i := 272) (by decide +kernel), List.mem_of_getElem? (i := 273) (by decide +kernel)⟩
theorem lw_p12 : lw_okq (⟨"TextureBankModel", "isThere", "(I)Z"⟩, 10) := ⟨⟨by decide +kernel, by decide +kernel⟩, List.mem_of_getElem? (i := 317) (by decide +kernel), List.mem_of_getElem? (i := 378) (by decide +kernel), List.mem_of_getElem? (i := 379) (by decide +kernel)⟩
theorem lw_p13 : lw_okq (⟨"TextureBankModel", "last", "(I)I"⟩, 10) := ⟨⟨by decide +kernel, by decide +kernel⟩, List.mem_of_getElem? (i := 317) (by decide +kernel), List.mem_of_getElem? (i := 385) (by decide +kernel), List.mem_of_getElem? (i := 386) (by decide +kernel)⟩
theorem lw_p14 : lw_okq (⟨"TextureBankModel", "makes", "(II)V"⟩, 10) := ⟨⟨by decide +kernel, by decide +kernel⟩, List.mem_of_getElem? (i := 317) (by decide +kernel), List.mem_of_getElem? (i := 398) (by decide +kernel), List.mem_of_getElem? (i := 399) (by decide +kernel)⟩
theorem lw_p15 : lw_okq (⟨"TextureBankModel", "halve", "()V"⟩, 10) := ⟨⟨by decide +kernel, by decide +kernel⟩, List.mem_of_getElem? (i := 317) (by decide +kernel), List.mem_of_getElem? (i := 402) (by decide +kernel), List.mem_of_getElem? (i := 403) (by decide +kernel)⟩
def lw_privs_1 : List (MethodName × Nat) := [(⟨"TextureBank$Texture", "fill", "([IIII)V"⟩, 5), (⟨"TextureBank$Texture", "fillFromDouble", "(I)V"⟩, 5), (⟨"TextureBank$Texture", "meanOfFour", "(III)I"⟩, 5), (⟨"TextureBank$Texture", "colourIn", "(III)I"⟩, 5), (⟨"TextureBank", "find", "(I)LTextureBank$Texture;"⟩, 4), (⟨"java/lang/Throwable", "fillInStackTrace", "(I)Ljava/lang/Throwable;"⟩, 6), (⟨"TextureBank$Texture", "levelFor", "(JJ)I"⟩, 5), (⟨"TextureBank$Texture", "hasLevel", "(I)Z"⟩, 5), (⟨"TextureBank$Texture", "sideOf", "(I)I"⟩, 5), (⟨"TextureBank$Texture", "colourAt", "(IJJ)I"⟩, 5), (⟨"TextureBank$Texture", "softColour", "(IJJ)I"⟩, 5), (⟨"TextureBank$Texture", "wrapped", "(JI)I"⟩, 5), (⟨"TextureBankModel", "isThere", "(I)Z"⟩, 10), (⟨"TextureBankModel", "last", "(I)I"⟩, 10), (⟨"TextureBankModel", "makes", "(II)V"⟩, 10), (⟨"TextureBankModel", "halve", "()V"⟩, 10)]
theorem lw_r1 : ∀ q ∈ lw_privs_1, lw_okq q := List.forall_mem_cons.mpr ⟨lw_p0, List.forall_mem_cons.mpr ⟨lw_p1, List.forall_mem_cons.mpr ⟨lw_p2, List.forall_mem_cons.mpr ⟨lw_p3, List.forall_mem_cons.mpr ⟨lw_p4, List.forall_mem_cons.mpr ⟨lw_p5, List.forall_mem_cons.mpr ⟨lw_p6, List.forall_mem_cons.mpr ⟨lw_p7, List.forall_mem_cons.mpr ⟨lw_p8, List.forall_mem_cons.mpr ⟨lw_p9, List.forall_mem_cons.mpr ⟨lw_p10, List.forall_mem_cons.mpr ⟨lw_p11, List.forall_mem_cons.mpr ⟨lw_p12, List.forall_mem_cons.mpr ⟨lw_p13, List.forall_mem_cons.mpr ⟨lw_p14, List.forall_mem_cons.mpr ⟨lw_p15, fun _ h => absurd h List.not_mem_nil⟩⟩⟩⟩⟩⟩⟩⟩⟩⟩⟩⟩⟩⟩⟩⟩
theorem lw_p16 : lw_okq (⟨"TextureBankModel", "soft", "(IJJ)I"⟩, 10) := ⟨⟨by decide +kernel, by decide +kernel⟩, List.mem_of_getElem? (i := 317) (by decide +kernel), List.mem_of_getElem? (i := 410) (by decide +kernel), List.mem_of_getElem? (i := 411) (by decide +kernel)⟩
theorem lw_p17 : lw_okq (⟨"TextureBankModel", "into", "(IJ)I"⟩, 10) := ⟨⟨by decide +kernel, by decide +kernel⟩, List.mem_of_getElem? (i := 317) (by decide +kernel), List.mem_of_getElem? (i := 419) (by decide +kernel), List.mem_of_getElem? (i := 420) (by decide +kernel)⟩
def lw_privs_2 : List (MethodName × Nat) := [(⟨"TextureBankModel", "soft", "(IJJ)I"⟩, 10), (⟨"TextureBankModel", "into", "(IJ)I"⟩, 10)]
theorem lw_r2 : ∀ q ∈ lw_privs_2, lw_okq q := List.forall_mem_cons.mpr ⟨lw_p16, List.forall_mem_cons.mpr ⟨lw_p17, fun _ h => absurd h List.not_mem_nil⟩⟩
def lw_privs : List (MethodName × Nat) := lw_privs_1 ++ (lw_privs_2)
def lw_tbl : List Cond := k2_sels lw_privs ++ tables_1
theorem lw_privs_ok : ∀ q ∈ lw_privs, lw_okq q := by
  show ∀ q ∈ lw_privs_1 ++ (lw_privs_2), lw_okq q
  exact List.forall_mem_append.mpr ⟨lw_r1, lw_r2⟩
end
section
abbrev RT : String := "TextureBank$Texture"
abbrev RB : String := "TextureBank"
abbrev RM : String := "TextureBankModel"
abbrev RL : String := "TextureBankLaw"
def FT : u_T := fun k => match k with
  | 0 => ("TextureBank$Texture", "colours", "[I", true)
  | 1 => ("TextureBank$Texture", "side", "I", false)
  | 2 => ("TextureBank$Texture", "wrap", "I", false)
  | 3 => ("TextureBank$Texture", "soft", "I", false)
  | _ => ("TextureBank$Texture", "levels", "I", false)
def tyT : Nat → FieldType := fun k => match k with
  | 0 => .array .int
  | 1 => .int
  | 2 => .int
  | 3 => .int
  | _ => .int
theorem nmT : ∀ a, a < 5 → ∀ b, b < 5 → a ≠ b → (FT a).2.1 ≠ (FT b).2.1 := by decide +kernel
theorem tyT_ok : ∀ k, k < 5 → parseFieldDescriptor (FT k).2.2.1 = some (tyT k) := by decide +kernel
def FB : u_T := fun k => match k with
  | 0 => ("TextureBank", "text", "[I", true)
  | 1 => ("TextureBank", "textLength", "I", false)
  | 2 => ("TextureBank", "textures", "[LTextureBank$Texture;", true)
  | _ => ("TextureBank", "textureCount", "I", false)
def tyB : Nat → FieldType := fun k => match k with
  | 0 => .array .int
  | 1 => .int
  | 2 => .array (.object "TextureBank$Texture")
  | _ => .int
theorem nmB : ∀ a, a < 4 → ∀ b, b < 4 → a ≠ b → (FB a).2.1 ≠ (FB b).2.1 := by decide +kernel
theorem tyB_ok : ∀ k, k < 4 → parseFieldDescriptor (FB k).2.2.1 = some (tyB k) := by decide +kernel
def FM : u_T := fun k => match k with
  | 0 => ("TextureBankModel", "thrown", "I", false)
  | 1 => ("TextureBankModel", "many", "I", false)
  | 2 => ("TextureBankModel", "sides", "[I", true)
  | 3 => ("TextureBankModel", "wraps", "[I", true)
  | 4 => ("TextureBankModel", "softs", "[I", true)
  | 5 => ("TextureBankModel", "texels", "[I", true)
  | 6 => ("TextureBankModel", "size", "I", false)
  | 7 => ("TextureBankModel", "text", "[I", true)
  | 8 => ("TextureBankModel", "made", "[I", true)
  | _ => ("TextureBankModel", "side", "I", false)
def tyM : Nat → FieldType := fun k => match k with
  | 0 => .int
  | 1 => .int
  | 2 => .array .int
  | 3 => .array .int
  | 4 => .array .int
  | 5 => .array .int
  | 6 => .int
  | 7 => .array .int
  | 8 => .array .int
  | _ => .int
theorem nmM : ∀ a, a < 10 → ∀ b, b < 10 → a ≠ b → (FM a).2.1 ≠ (FM b).2.1 := by decide +kernel
theorem tyM_ok : ∀ k, k < 10 → parseFieldDescriptor (FM k).2.2.1 = some (tyM k) := by decide +kernel
abbrev tbCl : List vw_C := [(RT, FT, 5), (RB, FB, 4), (RM, FM, 10)]
abbrev cB_init : ByteArray := prog_1_method_1_code
abbrev yB_init : MethodName := ⟨"TextureBank", "<init>", "()V"⟩
abbrev cT_init : ByteArray := prog_2_method_1_code
abbrev yT_init : MethodName := ⟨"TextureBank$Texture", "<init>", "()V"⟩
abbrev cB_put : ByteArray := prog_1_method_2_code
abbrev yB_put : MethodName := ⟨"TextureBank", "put", "(III)I"⟩
abbrev cB_isNumber : ByteArray := prog_1_method_12_code
abbrev yB_isNumber : MethodName := ⟨"TextureBank", "isNumber", "(I)Z"⟩
abbrev cB_colourOf : ByteArray := prog_1_method_18_code
abbrev yB_colourOf : MethodName := ⟨"TextureBank", "colourOf", "(III)I"⟩
abbrev cB_add : ByteArray := prog_1_method_3_code
abbrev yB_add : MethodName := ⟨"TextureBank", "add", "(III)I"⟩
abbrev cB_isSide : ByteArray := prog_1_method_14_code
abbrev yB_isSide : MethodName := ⟨"TextureBank", "isSide", "(I)Z"⟩
abbrev cJ_bitCount : ByteArray := prog_7_method_49_code
abbrev yJ_bitCount : MethodName := ⟨"java/lang/Integer", "bitCount", "(I)I"⟩
abbrev cB_isWrap : ByteArray := prog_1_method_15_code
abbrev yB_isWrap : MethodName := ⟨"TextureBank", "isWrap", "(I)Z"⟩
abbrev cB_isSoft : ByteArray := prog_1_method_16_code
abbrev yB_isSoft : MethodName := ⟨"TextureBank", "isSoft", "(I)Z"⟩
abbrev cT_fill : ByteArray := prog_2_method_2_code
abbrev yT_fill : MethodName := ⟨"TextureBank$Texture", "fill", "([IIII)V"⟩
abbrev cT_startOf : ByteArray := prog_2_method_6_code
abbrev yT_startOf : MethodName := ⟨"TextureBank$Texture", "startOf", "(I)I"⟩
abbrev cT_fillFromDouble : ByteArray := prog_2_method_3_code
abbrev yT_fillFromDouble : MethodName := ⟨"TextureBank$Texture", "fillFromDouble", "(I)V"⟩
abbrev cT_meanOfFour : ByteArray := prog_2_method_4_code
abbrev yT_meanOfFour : MethodName := ⟨"TextureBank$Texture", "meanOfFour", "(III)I"⟩
abbrev cT_colourIn : ByteArray := prog_2_method_9_code
abbrev yT_colourIn : MethodName := ⟨"TextureBank$Texture", "colourIn", "(III)I"⟩
abbrev cT_meanNumber : ByteArray := prog_2_method_5_code
abbrev yT_meanNumber : MethodName := ⟨"TextureBank$Texture", "meanNumber", "(IIIII)I"⟩
abbrev cB_numberOf : ByteArray := prog_1_method_19_code
abbrev yB_numberOf : MethodName := ⟨"TextureBank", "numberOf", "(II)J"⟩
abbrev cJ_floorDiv : ByteArray := prog_8_method_49_code
abbrev yJ_floorDiv : MethodName := ⟨"java/lang/Math", "floorDiv", "(JJ)J"⟩
abbrev cB_clear : ByteArray := prog_1_method_4_code
abbrev yB_clear : MethodName := ⟨"TextureBank", "clear", "()V"⟩
abbrev cB_about : ByteArray := prog_1_method_9_code
abbrev yB_about : MethodName := ⟨"TextureBank", "about", "(II)I"⟩
abbrev cB_find : ByteArray := prog_1_method_11_code
abbrev yB_find : MethodName := ⟨"TextureBank", "find", "(I)LTextureBank$Texture;"⟩
abbrev cB_count : ByteArray := prog_1_method_10_code
abbrev yB_count : MethodName := ⟨"TextureBank", "count", "(I)I"⟩
abbrev cL_level : ByteArray := method_3_code
abbrev yL_level : MethodName := ⟨"TextureBankLaw", "level", "(LTextureBank;IJI[J)I"⟩
abbrev cB_level : ByteArray := prog_1_method_5_code
abbrev yB_level : MethodName := ⟨"TextureBank", "level", "(IJI)I"⟩
abbrev cT_levelFor : ByteArray := prog_2_method_10_code
abbrev yT_levelFor : MethodName := ⟨"TextureBank$Texture", "levelFor", "(JJ)I"⟩
abbrev cL_lookUp : ByteArray := method_4_code
abbrev yL_lookUp : MethodName := ⟨"TextureBankLaw", "lookUp", "(LTextureBank;IIII[J)I"⟩
abbrev cB_lookUp : ByteArray := prog_1_method_6_code
abbrev yB_lookUp : MethodName := ⟨"TextureBank", "lookUp", "(IIII)I"⟩
abbrev cT_hasLevel : ByteArray := prog_2_method_7_code
abbrev yT_hasLevel : MethodName := ⟨"TextureBank$Texture", "hasLevel", "(I)Z"⟩
abbrev cB_isPlace : ByteArray := prog_1_method_17_code
abbrev yB_isPlace : MethodName := ⟨"TextureBank", "isPlace", "(I)Z"⟩
abbrev cT_sideOf : ByteArray := prog_2_method_8_code
abbrev yT_sideOf : MethodName := ⟨"TextureBank$Texture", "sideOf", "(I)I"⟩
abbrev cT_colourAt : ByteArray := prog_2_method_11_code
abbrev yT_colourAt : MethodName := ⟨"TextureBank$Texture", "colourAt", "(IJJ)I"⟩
abbrev cT_softColour : ByteArray := prog_2_method_12_code
abbrev yT_softColour : MethodName := ⟨"TextureBank$Texture", "softColour", "(IJJ)I"⟩
abbrev cT_wrapped : ByteArray := prog_2_method_15_code
abbrev yT_wrapped : MethodName := ⟨"TextureBank$Texture", "wrapped", "(JI)I"⟩
abbrev cT_mixed : ByteArray := prog_2_method_13_code
abbrev yT_mixed : MethodName := ⟨"TextureBank$Texture", "mixed", "(IIJI)J"⟩
abbrev cT_softNumber : ByteArray := prog_2_method_14_code
abbrev yT_softNumber : MethodName := ⟨"TextureBank$Texture", "softNumber", "(JJJ)I"⟩
abbrev cL_texel : ByteArray := method_5_code
abbrev yL_texel : MethodName := ⟨"TextureBankLaw", "texel", "(LTextureBank;IIII[J)I"⟩
abbrev cB_texel : ByteArray := prog_1_method_7_code
abbrev yB_texel : MethodName := ⟨"TextureBank", "texel", "(IIII)I"⟩
abbrev cL_lit : ByteArray := method_6_code
abbrev yL_lit : MethodName := ⟨"TextureBankLaw", "lit", "(LTextureBank;III[J)I"⟩
abbrev cB_lit : ByteArray := prog_1_method_8_code
abbrev yB_lit : MethodName := ⟨"TextureBank", "lit", "(III)I"⟩
abbrev cB_isColour : ByteArray := prog_1_method_13_code
abbrev yB_isColour : MethodName := ⟨"TextureBank", "isColour", "(I)Z"⟩
abbrev cB_litNumber : ByteArray := prog_1_method_20_code
abbrev yB_litNumber : MethodName := ⟨"TextureBank", "litNumber", "(IIII)I"⟩
abbrev cM_init : ByteArray := prog_4_method_1_code
abbrev yM_init : MethodName := ⟨"TextureBankModel", "<init>", "()V"⟩
abbrev cM_thrown : ByteArray := prog_4_method_2_code
abbrev yM_thrown : MethodName := ⟨"TextureBankModel", "thrown", "()I"⟩
abbrev cM_put : ByteArray := prog_4_method_4_code
abbrev yM_put : MethodName := ⟨"TextureBankModel", "put", "(III)I"⟩
abbrev cM_isNumber : ByteArray := prog_4_method_3_code
abbrev yM_isNumber : MethodName := ⟨"TextureBankModel", "isNumber", "(I)Z"⟩
abbrev cM_add : ByteArray := prog_4_method_5_code
abbrev yM_add : MethodName := ⟨"TextureBankModel", "add", "(III)I"⟩
abbrev cM_clear : ByteArray := prog_4_method_6_code
abbrev yM_clear : MethodName := ⟨"TextureBankModel", "clear", "()V"⟩
abbrev cM_level : ByteArray := prog_4_method_12_code
abbrev yM_level : MethodName := ⟨"TextureBankModel", "level", "(IJI)I"⟩
abbrev cM_isThere : ByteArray := prog_4_method_7_code
abbrev yM_isThere : MethodName := ⟨"TextureBankModel", "isThere", "(I)Z"⟩
abbrev cM_last : ByteArray := prog_4_method_8_code
abbrev yM_last : MethodName := ⟨"TextureBankModel", "last", "(I)I"⟩
abbrev cM_lookUp : ByteArray := prog_4_method_17_code
abbrev yM_lookUp : MethodName := ⟨"TextureBankModel", "lookUp", "(IIII)I"⟩
abbrev cM_isPlace : ByteArray := prog_4_method_16_code
abbrev yM_isPlace : MethodName := ⟨"TextureBankModel", "isPlace", "(I)Z"⟩
abbrev cM_makes : ByteArray := prog_4_method_11_code
abbrev yM_makes : MethodName := ⟨"TextureBankModel", "makes", "(II)V"⟩
abbrev cM_halve : ByteArray := prog_4_method_10_code
abbrev yM_halve : MethodName := ⟨"TextureBankModel", "halve", "()V"⟩
abbrev cM_part : ByteArray := prog_4_method_9_code
abbrev yM_part : MethodName := ⟨"TextureBankModel", "part", "(II)I"⟩
abbrev cM_soft : ByteArray := prog_4_method_15_code
abbrev yM_soft : MethodName := ⟨"TextureBankModel", "soft", "(IJJ)I"⟩
abbrev cM_div : ByteArray := prog_4_method_13_code
abbrev yM_div : MethodName := ⟨"TextureBankModel", "div", "(JJ)J"⟩
abbrev cM_into : ByteArray := prog_4_method_14_code
abbrev yM_into : MethodName := ⟨"TextureBankModel", "into", "(IJ)I"⟩
abbrev cM_texel : ByteArray := prog_4_method_18_code
abbrev yM_texel : MethodName := ⟨"TextureBankModel", "texel", "(IIII)I"⟩
abbrev cM_lit : ByteArray := prog_4_method_19_code
abbrev yM_lit : MethodName := ⟨"TextureBankModel", "lit", "(III)I"⟩
abbrev cM_about : ByteArray := prog_4_method_20_code
abbrev yM_about : MethodName := ⟨"TextureBankModel", "about", "(II)I"⟩
abbrev cM_count : ByteArray := prog_4_method_21_code
abbrev yM_count : MethodName := ⟨"TextureBankModel", "count", "(I)I"⟩
abbrev cL_law : ByteArray := code
abbrev yL_law : MethodName := ⟨"TextureBankLaw", "law", "([I)Z"⟩
/-- the words of the tables that any call may use -/
def tbB : List Cond := lw_tbl.filter goodWord
theorem tbB_in {w : Cond} (h : w ∈ lw_tbl) (g : goodWord w = true) : w ∈ tbB := List.mem_filter.mpr ⟨h, g⟩
theorem tbB_good {c : List Cond} {L : List Cond} (h : ∀ w ∈ L, w ∈ tbB) (hc : ∀ w ∈ tbB, w ∈ c) : GoodIn c L := fun w hw => ⟨hc w (h w hw), good_of_word (List.mem_filter.mp (h w hw)).2⟩
end
section
theorem wd_0 : (Cond.initialized "TextureBankLaw" : Cond) ∈ tbB := tbB_in (List.mem_append_right _ (List.mem_of_getElem? (i := 0) (by decide +kernel))) (by decide +kernel)
theorem wd_1 : (Cond.initialized "TextureBank" : Cond) ∈ tbB := tbB_in (List.mem_append_right _ (List.mem_of_getElem? (i := 1) (by decide +kernel))) (by decide +kernel)
theorem wd_2 : (Cond.initialized "TextureBank$Texture" : Cond) ∈ tbB := tbB_in (List.mem_append_right _ (List.mem_of_getElem? (i := 2) (by decide +kernel))) (by decide +kernel)
theorem wd_3 : (Cond.initialized "TextureBankModel" : Cond) ∈ tbB := tbB_in (List.mem_append_right _ (List.mem_of_getElem? (i := 3) (by decide +kernel))) (by decide +kernel)
theorem wd_4 : (Cond.initialized "java/lang/Integer" : Cond) ∈ tbB := tbB_in (List.mem_append_right _ (List.mem_of_getElem? (i := 4) (by decide +kernel))) (by decide +kernel)
theorem wd_5 : (Cond.initialized "java/lang/System" : Cond) ∈ tbB := tbB_in (List.mem_append_right _ (List.mem_of_getElem? (i := 5) (by decide +kernel))) (by decide +kernel)
theorem wd_6 : (Cond.initialized "java/lang/Math" : Cond) ∈ tbB := tbB_in (List.mem_append_right _ (List.mem_of_getElem? (i := 6) (by decide +kernel))) (by decide +kernel)
theorem wd_7 : (Cond.initialized "java/lang/Throwable" : Cond) ∈ tbB := tbB_in (List.mem_append_right _ (List.mem_of_getElem? (i := 7) (by decide +kernel))) (by decide +kernel)
theorem wd_8 : (Cond.initialized "java/lang/Exception" : Cond) ∈ tbB := tbB_in (List.mem_append_right _ (List.mem_of_getElem? (i := 8) (by decide +kernel))) (by decide +kernel)
theorem wd_9 : (Cond.initialized "java/lang/RuntimeException" : Cond) ∈ tbB := tbB_in (List.mem_append_right _ (List.mem_of_getElem? (i := 9) (by decide +kernel))) (by decide +kernel)
theorem wd_10 : (Cond.initialized "java/util/NoSuchElementException" : Cond) ∈ tbB := tbB_in (List.mem_append_right _ (List.mem_of_getElem? (i := 10) (by decide +kernel))) (by decide +kernel)
theorem wd_11 : (Cond.initialized "java/lang/IllegalArgumentException" : Cond) ∈ tbB := tbB_in (List.mem_append_right _ (List.mem_of_getElem? (i := 11) (by decide +kernel))) (by decide +kernel)
theorem wd_12 : (Cond.classLink "TextureBankLaw" 8 "TextureBank" : Cond) ∈ tbB := tbB_in (List.mem_append_right _ (List.mem_of_getElem? (i := 12) (by decide +kernel))) (by decide +kernel)
theorem wd_13 : (Cond.instantiable "TextureBank" 4 : Cond) ∈ tbB := tbB_in (List.mem_append_right _ (List.mem_of_getElem? (i := 13) (by decide +kernel))) (by decide +kernel)
theorem wd_14 : (Cond.methodLink "TextureBankLaw" 28 ⟨"TextureBank", "<init>", "()V"⟩ : Cond) ∈ tbB := tbB_in (List.mem_append_right _ (List.mem_of_getElem? (i := 14) (by decide +kernel))) (by decide +kernel)
theorem wd_15 : (Cond.instanceMethod ⟨"TextureBank", "<init>", "()V"⟩ : Cond) ∈ tbB := tbB_in (List.mem_append_right _ (List.mem_of_getElem? (i := 15) (by decide +kernel))) (by decide +kernel)
theorem wd_16 : (Cond.code ⟨"TextureBank", "<init>", "()V"⟩ prog_1_method_1_code 2 (Option.none : Option FieldType) : Cond) ∈ tbB := tbB_in (List.mem_append_right _ (List.mem_of_getElem? (i := 16) (by decide +kernel))) (by decide +kernel)
theorem wd_17 : (Cond.methodLink "TextureBank" 3 ⟨"java/lang/Object", "<init>", "()V"⟩ : Cond) ∈ tbB := tbB_in (List.mem_append_right _ (List.mem_of_getElem? (i := 17) (by decide +kernel))) (by decide +kernel)
theorem wd_18 : (Cond.instanceMethod ⟨"java/lang/Object", "<init>", "()V"⟩ : Cond) ∈ tbB := tbB_in (List.mem_append_right _ (List.mem_of_getElem? (i := 18) (by decide +kernel))) (by decide +kernel)
theorem wd_19 : (Cond.code ⟨"java/lang/Object", "<init>", "()V"⟩ object_method_1_code 1 (Option.none : Option FieldType) : Cond) ∈ tbB := tbB_in (List.mem_append_right _ (List.mem_of_getElem? (i := 19) (by decide +kernel))) (by decide +kernel)
theorem wd_20 : (Cond.classLink "TextureBank" 17 "TextureBank$Texture" : Cond) ∈ tbB := tbB_in (List.mem_append_right _ (List.mem_of_getElem? (i := 20) (by decide +kernel))) (by decide +kernel)
theorem wt_21 : (Cond.arrayOver (FieldType.object "TextureBank$Texture") : Cond) ∈ lw_tbl := List.mem_append_right _ (List.mem_of_getElem? (i := 21) (by decide +kernel))
theorem wd_22 : (Cond.instantiable "TextureBank$Texture" 5 : Cond) ∈ tbB := tbB_in (List.mem_append_right _ (List.mem_of_getElem? (i := 22) (by decide +kernel))) (by decide +kernel)
theorem wt_23 : (Cond.methodLinkNest "TextureBank" 23 ⟨"TextureBank$Texture", "<init>", "()V"⟩ "TextureBank" : Cond) ∈ lw_tbl := List.mem_append_right _ (List.mem_of_getElem? (i := 23) (by decide +kernel))
theorem wd_24 : (Cond.instanceMethod ⟨"TextureBank$Texture", "<init>", "()V"⟩ : Cond) ∈ tbB := tbB_in (List.mem_append_right _ (List.mem_of_getElem? (i := 24) (by decide +kernel))) (by decide +kernel)
theorem wd_25 : (Cond.code ⟨"TextureBank$Texture", "<init>", "()V"⟩ prog_2_method_1_code 1 (Option.none : Option FieldType) : Cond) ∈ tbB := tbB_in (List.mem_append_right _ (List.mem_of_getElem? (i := 25) (by decide +kernel))) (by decide +kernel)
theorem wd_26 : (Cond.methodLink "TextureBank$Texture" 3 ⟨"java/lang/Object", "<init>", "()V"⟩ : Cond) ∈ tbB := tbB_in (List.mem_append_right _ (List.mem_of_getElem? (i := 26) (by decide +kernel))) (by decide +kernel)
theorem wd_27 : (Cond.fieldLink "TextureBank$Texture" 9 "TextureBank$Texture" "colours" "[I" : Cond) ∈ tbB := tbB_in (List.mem_append_right _ (List.mem_of_getElem? (i := 27) (by decide +kernel))) (by decide +kernel)
theorem wd_28 : (Cond.fieldLink "TextureBank$Texture" 15 "TextureBank$Texture" "side" "I" : Cond) ∈ tbB := tbB_in (List.mem_append_right _ (List.mem_of_getElem? (i := 28) (by decide +kernel))) (by decide +kernel)
theorem wt_29 : (Cond.fieldLinkNest "TextureBank" 109 "TextureBank$Texture" "side" "I" "TextureBank" : Cond) ∈ lw_tbl := List.mem_append_right _ (List.mem_of_getElem? (i := 29) (by decide +kernel))
theorem wd_30 : (Cond.fieldLink "TextureBank$Texture" 19 "TextureBank$Texture" "wrap" "I" : Cond) ∈ tbB := tbB_in (List.mem_append_right _ (List.mem_of_getElem? (i := 30) (by decide +kernel))) (by decide +kernel)
theorem wt_31 : (Cond.fieldLinkNest "TextureBank" 112 "TextureBank$Texture" "wrap" "I" "TextureBank" : Cond) ∈ lw_tbl := List.mem_append_right _ (List.mem_of_getElem? (i := 31) (by decide +kernel))
theorem wd_32 : (Cond.fieldLink "TextureBank$Texture" 22 "TextureBank$Texture" "soft" "I" : Cond) ∈ tbB := tbB_in (List.mem_append_right _ (List.mem_of_getElem? (i := 32) (by decide +kernel))) (by decide +kernel)
theorem wt_33 : (Cond.fieldLinkNest "TextureBank" 115 "TextureBank$Texture" "soft" "I" "TextureBank" : Cond) ∈ lw_tbl := List.mem_append_right _ (List.mem_of_getElem? (i := 33) (by decide +kernel))
theorem wd_34 : (Cond.fieldLink "TextureBank$Texture" 25 "TextureBank$Texture" "levels" "I" : Cond) ∈ tbB := tbB_in (List.mem_append_right _ (List.mem_of_getElem? (i := 34) (by decide +kernel))) (by decide +kernel)
theorem wt_35 : (Cond.fieldLinkNest "TextureBank" 118 "TextureBank$Texture" "levels" "I" "TextureBank" : Cond) ∈ lw_tbl := List.mem_append_right _ (List.mem_of_getElem? (i := 35) (by decide +kernel))
theorem wd_36 : (Cond.laysFinal "TextureBank$Texture" "TextureBank$Texture" "colours" "[I" : Cond) ∈ tbB := tbB_in (List.mem_append_right _ (List.mem_of_getElem? (i := 36) (by decide +kernel))) (by decide +kernel)
theorem wd_37 : (Cond.soleField "TextureBank$Texture" "colours" : Cond) ∈ tbB := tbB_in (List.mem_append_right _ (List.mem_of_getElem? (i := 37) (by decide +kernel))) (by decide +kernel)
theorem wd_38 : (Cond.lays "TextureBank$Texture" "TextureBank$Texture" "side" "I" : Cond) ∈ tbB := tbB_in (List.mem_append_right _ (List.mem_of_getElem? (i := 38) (by decide +kernel))) (by decide +kernel)
theorem wd_39 : (Cond.soleField "TextureBank$Texture" "side" : Cond) ∈ tbB := tbB_in (List.mem_append_right _ (List.mem_of_getElem? (i := 39) (by decide +kernel))) (by decide +kernel)
theorem wd_40 : (Cond.lays "TextureBank$Texture" "TextureBank$Texture" "wrap" "I" : Cond) ∈ tbB := tbB_in (List.mem_append_right _ (List.mem_of_getElem? (i := 40) (by decide +kernel))) (by decide +kernel)
theorem wd_41 : (Cond.soleField "TextureBank$Texture" "wrap" : Cond) ∈ tbB := tbB_in (List.mem_append_right _ (List.mem_of_getElem? (i := 41) (by decide +kernel))) (by decide +kernel)
theorem wd_42 : (Cond.lays "TextureBank$Texture" "TextureBank$Texture" "soft" "I" : Cond) ∈ tbB := tbB_in (List.mem_append_right _ (List.mem_of_getElem? (i := 42) (by decide +kernel))) (by decide +kernel)
theorem wd_43 : (Cond.soleField "TextureBank$Texture" "soft" : Cond) ∈ tbB := tbB_in (List.mem_append_right _ (List.mem_of_getElem? (i := 43) (by decide +kernel))) (by decide +kernel)
theorem wd_44 : (Cond.lays "TextureBank$Texture" "TextureBank$Texture" "levels" "I" : Cond) ∈ tbB := tbB_in (List.mem_append_right _ (List.mem_of_getElem? (i := 44) (by decide +kernel))) (by decide +kernel)
theorem wd_45 : (Cond.soleField "TextureBank$Texture" "levels" : Cond) ∈ tbB := tbB_in (List.mem_append_right _ (List.mem_of_getElem? (i := 45) (by decide +kernel))) (by decide +kernel)
theorem wd_46 : (Cond.superclass "TextureBank$Texture" "java/lang/Object" : Cond) ∈ tbB := tbB_in (List.mem_append_right _ (List.mem_of_getElem? (i := 46) (by decide +kernel))) (by decide +kernel)
theorem wd_47 : (Cond.arrayClass FieldType.int : Cond) ∈ tbB := tbB_in (List.mem_append_right _ (List.mem_of_getElem? (i := 47) (by decide +kernel))) (by decide +kernel)
theorem wd_48 : (Cond.fieldLink "TextureBank" 9 "TextureBank" "text" "[I" : Cond) ∈ tbB := tbB_in (List.mem_append_right _ (List.mem_of_getElem? (i := 48) (by decide +kernel))) (by decide +kernel)
theorem wd_49 : (Cond.fieldLink "TextureBank" 13 "TextureBank" "textLength" "I" : Cond) ∈ tbB := tbB_in (List.mem_append_right _ (List.mem_of_getElem? (i := 49) (by decide +kernel))) (by decide +kernel)
theorem wd_50 : (Cond.fieldLink "TextureBank" 19 "TextureBank" "textures" "[LTextureBank$Texture;" : Cond) ∈ tbB := tbB_in (List.mem_append_right _ (List.mem_of_getElem? (i := 50) (by decide +kernel))) (by decide +kernel)
theorem wd_51 : (Cond.fieldLink "TextureBank" 24 "TextureBank" "textureCount" "I" : Cond) ∈ tbB := tbB_in (List.mem_append_right _ (List.mem_of_getElem? (i := 51) (by decide +kernel))) (by decide +kernel)
theorem wd_52 : (Cond.laysFinal "TextureBank" "TextureBank" "text" "[I" : Cond) ∈ tbB := tbB_in (List.mem_append_right _ (List.mem_of_getElem? (i := 52) (by decide +kernel))) (by decide +kernel)
theorem wd_53 : (Cond.soleField "TextureBank" "text" : Cond) ∈ tbB := tbB_in (List.mem_append_right _ (List.mem_of_getElem? (i := 53) (by decide +kernel))) (by decide +kernel)
theorem wd_54 : (Cond.lays "TextureBank" "TextureBank" "textLength" "I" : Cond) ∈ tbB := tbB_in (List.mem_append_right _ (List.mem_of_getElem? (i := 54) (by decide +kernel))) (by decide +kernel)
theorem wd_55 : (Cond.soleField "TextureBank" "textLength" : Cond) ∈ tbB := tbB_in (List.mem_append_right _ (List.mem_of_getElem? (i := 55) (by decide +kernel))) (by decide +kernel)
theorem wd_56 : (Cond.laysFinal "TextureBank" "TextureBank" "textures" "[LTextureBank$Texture;" : Cond) ∈ tbB := tbB_in (List.mem_append_right _ (List.mem_of_getElem? (i := 56) (by decide +kernel))) (by decide +kernel)
theorem wd_57 : (Cond.soleField "TextureBank" "textures" : Cond) ∈ tbB := tbB_in (List.mem_append_right _ (List.mem_of_getElem? (i := 57) (by decide +kernel))) (by decide +kernel)
theorem wd_58 : (Cond.lays "TextureBank" "TextureBank" "textureCount" "I" : Cond) ∈ tbB := tbB_in (List.mem_append_right _ (List.mem_of_getElem? (i := 58) (by decide +kernel))) (by decide +kernel)
theorem wd_59 : (Cond.soleField "TextureBank" "textureCount" : Cond) ∈ tbB := tbB_in (List.mem_append_right _ (List.mem_of_getElem? (i := 59) (by decide +kernel))) (by decide +kernel)
theorem wd_60 : (Cond.superclass "TextureBank" "java/lang/Object" : Cond) ∈ tbB := tbB_in (List.mem_append_right _ (List.mem_of_getElem? (i := 60) (by decide +kernel))) (by decide +kernel)
theorem wd_61 : (Cond.methodLink "TextureBankLaw" 32 ⟨"TextureBank", "put", "(III)I"⟩ : Cond) ∈ tbB := tbB_in (List.mem_append_right _ (List.mem_of_getElem? (i := 61) (by decide +kernel))) (by decide +kernel)
theorem wd_62 : (Cond.instanceMethod ⟨"TextureBank", "put", "(III)I"⟩ : Cond) ∈ tbB := tbB_in (List.mem_append_right _ (List.mem_of_getElem? (i := 62) (by decide +kernel))) (by decide +kernel)
theorem wd_63 : (Cond.selects "TextureBank" ⟨"TextureBank", "put", "(III)I"⟩ ⟨"TextureBank", "put", "(III)I"⟩ : Cond) ∈ tbB := tbB_in (List.mem_append_right _ (List.mem_of_getElem? (i := 63) (by decide +kernel))) (by decide +kernel)
theorem wd_64 : (Cond.code ⟨"TextureBank", "put", "(III)I"⟩ prog_1_method_2_code 4 (Option.some FieldType.int) : Cond) ∈ tbB := tbB_in (List.mem_append_right _ (List.mem_of_getElem? (i := 64) (by decide +kernel))) (by decide +kernel)
theorem wd_65 : (Cond.methodLink "TextureBank" 27 ⟨"TextureBank", "isNumber", "(I)Z"⟩ : Cond) ∈ tbB := tbB_in (List.mem_append_right _ (List.mem_of_getElem? (i := 65) (by decide +kernel))) (by decide +kernel)
theorem wd_66 : (Cond.static ⟨"TextureBank", "isNumber", "(I)Z"⟩ : Cond) ∈ tbB := tbB_in (List.mem_append_right _ (List.mem_of_getElem? (i := 66) (by decide +kernel))) (by decide +kernel)
theorem wd_67 : (Cond.code ⟨"TextureBank", "isNumber", "(I)Z"⟩ prog_1_method_12_code 1 (Option.some FieldType.boolean) : Cond) ∈ tbB := tbB_in (List.mem_append_right _ (List.mem_of_getElem? (i := 67) (by decide +kernel))) (by decide +kernel)
theorem wd_68 : (Cond.methodLink "TextureBank" 31 ⟨"TextureBank", "colourOf", "(III)I"⟩ : Cond) ∈ tbB := tbB_in (List.mem_append_right _ (List.mem_of_getElem? (i := 68) (by decide +kernel))) (by decide +kernel)
theorem wd_69 : (Cond.static ⟨"TextureBank", "colourOf", "(III)I"⟩ : Cond) ∈ tbB := tbB_in (List.mem_append_right _ (List.mem_of_getElem? (i := 69) (by decide +kernel))) (by decide +kernel)
theorem wd_70 : (Cond.code ⟨"TextureBank", "colourOf", "(III)I"⟩ prog_1_method_18_code 3 (Option.some FieldType.int) : Cond) ∈ tbB := tbB_in (List.mem_append_right _ (List.mem_of_getElem? (i := 70) (by decide +kernel))) (by decide +kernel)
theorem wd_71 : (Cond.methodLink "TextureBankLaw" 36 ⟨"TextureBank", "add", "(III)I"⟩ : Cond) ∈ tbB := tbB_in (List.mem_append_right _ (List.mem_of_getElem? (i := 71) (by decide +kernel))) (by decide +kernel)
theorem wd_72 : (Cond.instanceMethod ⟨"TextureBank", "add", "(III)I"⟩ : Cond) ∈ tbB := tbB_in (List.mem_append_right _ (List.mem_of_getElem? (i := 72) (by decide +kernel))) (by decide +kernel)
theorem wd_73 : (Cond.selects "TextureBank" ⟨"TextureBank", "add", "(III)I"⟩ ⟨"TextureBank", "add", "(III)I"⟩ : Cond) ∈ tbB := tbB_in (List.mem_append_right _ (List.mem_of_getElem? (i := 73) (by decide +kernel))) (by decide +kernel)
theorem wd_74 : (Cond.code ⟨"TextureBank", "add", "(III)I"⟩ prog_1_method_3_code 6 (Option.some FieldType.int) : Cond) ∈ tbB := tbB_in (List.mem_append_right _ (List.mem_of_getElem? (i := 74) (by decide +kernel))) (by decide +kernel)
theorem wd_75 : (Cond.methodLink "TextureBank" 35 ⟨"TextureBank", "isSide", "(I)Z"⟩ : Cond) ∈ tbB := tbB_in (List.mem_append_right _ (List.mem_of_getElem? (i := 75) (by decide +kernel))) (by decide +kernel)
theorem wd_76 : (Cond.static ⟨"TextureBank", "isSide", "(I)Z"⟩ : Cond) ∈ tbB := tbB_in (List.mem_append_right _ (List.mem_of_getElem? (i := 76) (by decide +kernel))) (by decide +kernel)
theorem wd_77 : (Cond.code ⟨"TextureBank", "isSide", "(I)Z"⟩ prog_1_method_14_code 1 (Option.some FieldType.boolean) : Cond) ∈ tbB := tbB_in (List.mem_append_right _ (List.mem_of_getElem? (i := 77) (by decide +kernel))) (by decide +kernel)
theorem wd_78 : (Cond.methodLink "TextureBank" 122 ⟨"java/lang/Integer", "bitCount", "(I)I"⟩ : Cond) ∈ tbB := tbB_in (List.mem_append_right _ (List.mem_of_getElem? (i := 78) (by decide +kernel))) (by decide +kernel)
theorem wd_79 : (Cond.static ⟨"java/lang/Integer", "bitCount", "(I)I"⟩ : Cond) ∈ tbB := tbB_in (List.mem_append_right _ (List.mem_of_getElem? (i := 79) (by decide +kernel))) (by decide +kernel)
theorem wd_80 : (Cond.code ⟨"java/lang/Integer", "bitCount", "(I)I"⟩ prog_7_method_49_code 1 (Option.some FieldType.int) : Cond) ∈ tbB := tbB_in (List.mem_append_right _ (List.mem_of_getElem? (i := 80) (by decide +kernel))) (by decide +kernel)
theorem wd_81 : (Cond.constant "java/lang/Integer" 265 (1431655765 : Int32) : Cond) ∈ tbB := tbB_in (List.mem_append_right _ (List.mem_of_getElem? (i := 81) (by decide +kernel))) (by decide +kernel)
theorem wd_82 : (Cond.constant "java/lang/Integer" 266 (858993459 : Int32) : Cond) ∈ tbB := tbB_in (List.mem_append_right _ (List.mem_of_getElem? (i := 82) (by decide +kernel))) (by decide +kernel)
theorem wd_83 : (Cond.constant "java/lang/Integer" 267 (252645135 : Int32) : Cond) ∈ tbB := tbB_in (List.mem_append_right _ (List.mem_of_getElem? (i := 83) (by decide +kernel))) (by decide +kernel)
theorem wd_84 : (Cond.methodLink "TextureBank" 38 ⟨"TextureBank", "isWrap", "(I)Z"⟩ : Cond) ∈ tbB := tbB_in (List.mem_append_right _ (List.mem_of_getElem? (i := 84) (by decide +kernel))) (by decide +kernel)
theorem wd_85 : (Cond.static ⟨"TextureBank", "isWrap", "(I)Z"⟩ : Cond) ∈ tbB := tbB_in (List.mem_append_right _ (List.mem_of_getElem? (i := 85) (by decide +kernel))) (by decide +kernel)
theorem wd_86 : (Cond.code ⟨"TextureBank", "isWrap", "(I)Z"⟩ prog_1_method_15_code 1 (Option.some FieldType.boolean) : Cond) ∈ tbB := tbB_in (List.mem_append_right _ (List.mem_of_getElem? (i := 86) (by decide +kernel))) (by decide +kernel)
theorem wd_87 : (Cond.methodLink "TextureBank" 41 ⟨"TextureBank", "isSoft", "(I)Z"⟩ : Cond) ∈ tbB := tbB_in (List.mem_append_right _ (List.mem_of_getElem? (i := 87) (by decide +kernel))) (by decide +kernel)
theorem wd_88 : (Cond.static ⟨"TextureBank", "isSoft", "(I)Z"⟩ : Cond) ∈ tbB := tbB_in (List.mem_append_right _ (List.mem_of_getElem? (i := 88) (by decide +kernel))) (by decide +kernel)
theorem wd_89 : (Cond.code ⟨"TextureBank", "isSoft", "(I)Z"⟩ prog_1_method_16_code 1 (Option.some FieldType.boolean) : Cond) ∈ tbB := tbB_in (List.mem_append_right _ (List.mem_of_getElem? (i := 89) (by decide +kernel))) (by decide +kernel)
theorem wt_90 : (Cond.methodLinkNest "TextureBank" 44 ⟨"TextureBank$Texture", "fill", "([IIII)V"⟩ "TextureBank" : Cond) ∈ lw_tbl := List.mem_append_right _ (List.mem_of_getElem? (i := 90) (by decide +kernel))
theorem wt_91 : (Cond.privateMethod ⟨"TextureBank$Texture", "fill", "([IIII)V"⟩ : Cond) ∈ lw_tbl := List.mem_append_right _ (List.mem_of_getElem? (i := 91) (by decide +kernel))
theorem wd_92 : (Cond.instanceMethod ⟨"TextureBank$Texture", "fill", "([IIII)V"⟩ : Cond) ∈ tbB := tbB_in (List.mem_append_right _ (List.mem_of_getElem? (i := 92) (by decide +kernel))) (by decide +kernel)
theorem wd_93 : (Cond.code ⟨"TextureBank$Texture", "fill", "([IIII)V"⟩ prog_2_method_2_code 6 (Option.none : Option FieldType) : Cond) ∈ tbB := tbB_in (List.mem_append_right _ (List.mem_of_getElem? (i := 93) (by decide +kernel))) (by decide +kernel)
theorem wd_94 : (Cond.methodLink "TextureBank$Texture" 28 ⟨"TextureBank$Texture", "startOf", "(I)I"⟩ : Cond) ∈ tbB := tbB_in (List.mem_append_right _ (List.mem_of_getElem? (i := 94) (by decide +kernel))) (by decide +kernel)
theorem wd_95 : (Cond.static ⟨"TextureBank$Texture", "startOf", "(I)I"⟩ : Cond) ∈ tbB := tbB_in (List.mem_append_right _ (List.mem_of_getElem? (i := 95) (by decide +kernel))) (by decide +kernel)
theorem wd_96 : (Cond.code ⟨"TextureBank$Texture", "startOf", "(I)I"⟩ prog_2_method_6_code 1 (Option.some FieldType.int) : Cond) ∈ tbB := tbB_in (List.mem_append_right _ (List.mem_of_getElem? (i := 96) (by decide +kernel))) (by decide +kernel)
theorem wd_97 : (Cond.methodLink "TextureBank$Texture" 32 ⟨"java/lang/System", "arraycopy", "(Ljava/lang/Object;ILjava/lang/Object;II)V"⟩ : Cond) ∈ tbB := tbB_in (List.mem_append_right _ (List.mem_of_getElem? (i := 97) (by decide +kernel))) (by decide +kernel)
theorem wd_98 : (Cond.static ⟨"java/lang/System", "arraycopy", "(Ljava/lang/Object;ILjava/lang/Object;II)V"⟩ : Cond) ∈ tbB := tbB_in (List.mem_append_right _ (List.mem_of_getElem? (i := 98) (by decide +kernel))) (by decide +kernel)
theorem wd_99 : (Cond.native ⟨"java/lang/System", "arraycopy", "(Ljava/lang/Object;ILjava/lang/Object;II)V"⟩ : Cond) ∈ tbB := tbB_in (List.mem_append_right _ (List.mem_of_getElem? (i := 99) (by decide +kernel))) (by decide +kernel)
theorem wd_100 : (Cond.methodLink "TextureBank$Texture" 38 ⟨"TextureBank$Texture", "fillFromDouble", "(I)V"⟩ : Cond) ∈ tbB := tbB_in (List.mem_append_right _ (List.mem_of_getElem? (i := 100) (by decide +kernel))) (by decide +kernel)
theorem wt_101 : (Cond.privateMethod ⟨"TextureBank$Texture", "fillFromDouble", "(I)V"⟩ : Cond) ∈ lw_tbl := List.mem_append_right _ (List.mem_of_getElem? (i := 101) (by decide +kernel))
theorem wd_102 : (Cond.instanceMethod ⟨"TextureBank$Texture", "fillFromDouble", "(I)V"⟩ : Cond) ∈ tbB := tbB_in (List.mem_append_right _ (List.mem_of_getElem? (i := 102) (by decide +kernel))) (by decide +kernel)
theorem wd_103 : (Cond.code ⟨"TextureBank$Texture", "fillFromDouble", "(I)V"⟩ prog_2_method_3_code 5 (Option.none : Option FieldType) : Cond) ∈ tbB := tbB_in (List.mem_append_right _ (List.mem_of_getElem? (i := 103) (by decide +kernel))) (by decide +kernel)
theorem wd_104 : (Cond.methodLink "TextureBank$Texture" 42 ⟨"TextureBank$Texture", "meanOfFour", "(III)I"⟩ : Cond) ∈ tbB := tbB_in (List.mem_append_right _ (List.mem_of_getElem? (i := 104) (by decide +kernel))) (by decide +kernel)
theorem wt_105 : (Cond.privateMethod ⟨"TextureBank$Texture", "meanOfFour", "(III)I"⟩ : Cond) ∈ lw_tbl := List.mem_append_right _ (List.mem_of_getElem? (i := 105) (by decide +kernel))
theorem wd_106 : (Cond.instanceMethod ⟨"TextureBank$Texture", "meanOfFour", "(III)I"⟩ : Cond) ∈ tbB := tbB_in (List.mem_append_right _ (List.mem_of_getElem? (i := 106) (by decide +kernel))) (by decide +kernel)
theorem wd_107 : (Cond.code ⟨"TextureBank$Texture", "meanOfFour", "(III)I"⟩ prog_2_method_4_code 8 (Option.some FieldType.int) : Cond) ∈ tbB := tbB_in (List.mem_append_right _ (List.mem_of_getElem? (i := 107) (by decide +kernel))) (by decide +kernel)
theorem wd_108 : (Cond.methodLink "TextureBank$Texture" 46 ⟨"TextureBank$Texture", "colourIn", "(III)I"⟩ : Cond) ∈ tbB := tbB_in (List.mem_append_right _ (List.mem_of_getElem? (i := 108) (by decide +kernel))) (by decide +kernel)
theorem wt_109 : (Cond.privateMethod ⟨"TextureBank$Texture", "colourIn", "(III)I"⟩ : Cond) ∈ lw_tbl := List.mem_append_right _ (List.mem_of_getElem? (i := 109) (by decide +kernel))
theorem wd_110 : (Cond.instanceMethod ⟨"TextureBank$Texture", "colourIn", "(III)I"⟩ : Cond) ∈ tbB := tbB_in (List.mem_append_right _ (List.mem_of_getElem? (i := 110) (by decide +kernel))) (by decide +kernel)
theorem wd_111 : (Cond.code ⟨"TextureBank$Texture", "colourIn", "(III)I"⟩ prog_2_method_9_code 4 (Option.some FieldType.int) : Cond) ∈ tbB := tbB_in (List.mem_append_right _ (List.mem_of_getElem? (i := 111) (by decide +kernel))) (by decide +kernel)
theorem wd_112 : (Cond.methodLink "TextureBank$Texture" 49 ⟨"TextureBank$Texture", "meanNumber", "(IIIII)I"⟩ : Cond) ∈ tbB := tbB_in (List.mem_append_right _ (List.mem_of_getElem? (i := 112) (by decide +kernel))) (by decide +kernel)
theorem wd_113 : (Cond.static ⟨"TextureBank$Texture", "meanNumber", "(IIIII)I"⟩ : Cond) ∈ tbB := tbB_in (List.mem_append_right _ (List.mem_of_getElem? (i := 113) (by decide +kernel))) (by decide +kernel)
theorem wd_114 : (Cond.code ⟨"TextureBank$Texture", "meanNumber", "(IIIII)I"⟩ prog_2_method_5_code 7 (Option.some FieldType.int) : Cond) ∈ tbB := tbB_in (List.mem_append_right _ (List.mem_of_getElem? (i := 114) (by decide +kernel))) (by decide +kernel)
theorem wt_115 : (Cond.methodLinkNest "TextureBank$Texture" 56 ⟨"TextureBank", "numberOf", "(II)J"⟩ "TextureBank" : Cond) ∈ lw_tbl := List.mem_append_right _ (List.mem_of_getElem? (i := 115) (by decide +kernel))
theorem wd_116 : (Cond.static ⟨"TextureBank", "numberOf", "(II)J"⟩ : Cond) ∈ tbB := tbB_in (List.mem_append_right _ (List.mem_of_getElem? (i := 116) (by decide +kernel))) (by decide +kernel)
theorem wd_117 : (Cond.code ⟨"TextureBank", "numberOf", "(II)J"⟩ prog_1_method_19_code 2 (Option.some FieldType.long) : Cond) ∈ tbB := tbB_in (List.mem_append_right _ (List.mem_of_getElem? (i := 117) (by decide +kernel))) (by decide +kernel)
theorem wd_118 : (Cond.constantLong "TextureBank$Texture" 60 (4 : Int64) : Cond) ∈ tbB := tbB_in (List.mem_append_right _ (List.mem_of_getElem? (i := 118) (by decide +kernel))) (by decide +kernel)
theorem wd_119 : (Cond.methodLink "TextureBank$Texture" 62 ⟨"java/lang/Math", "floorDiv", "(JJ)J"⟩ : Cond) ∈ tbB := tbB_in (List.mem_append_right _ (List.mem_of_getElem? (i := 119) (by decide +kernel))) (by decide +kernel)
theorem wd_120 : (Cond.static ⟨"java/lang/Math", "floorDiv", "(JJ)J"⟩ : Cond) ∈ tbB := tbB_in (List.mem_append_right _ (List.mem_of_getElem? (i := 120) (by decide +kernel))) (by decide +kernel)
theorem wd_121 : (Cond.code ⟨"java/lang/Math", "floorDiv", "(JJ)J"⟩ prog_8_method_49_code 6 (Option.some FieldType.long) : Cond) ∈ tbB := tbB_in (List.mem_append_right _ (List.mem_of_getElem? (i := 121) (by decide +kernel))) (by decide +kernel)
theorem wt_122 : (Cond.methodLinkNest "TextureBank$Texture" 53 ⟨"TextureBank", "colourOf", "(III)I"⟩ "TextureBank" : Cond) ∈ lw_tbl := List.mem_append_right _ (List.mem_of_getElem? (i := 122) (by decide +kernel))
theorem wd_123 : (Cond.methodLink "TextureBankLaw" 40 ⟨"TextureBank", "clear", "()V"⟩ : Cond) ∈ tbB := tbB_in (List.mem_append_right _ (List.mem_of_getElem? (i := 123) (by decide +kernel))) (by decide +kernel)
theorem wd_124 : (Cond.instanceMethod ⟨"TextureBank", "clear", "()V"⟩ : Cond) ∈ tbB := tbB_in (List.mem_append_right _ (List.mem_of_getElem? (i := 124) (by decide +kernel))) (by decide +kernel)
theorem wd_125 : (Cond.selects "TextureBank" ⟨"TextureBank", "clear", "()V"⟩ ⟨"TextureBank", "clear", "()V"⟩ : Cond) ∈ tbB := tbB_in (List.mem_append_right _ (List.mem_of_getElem? (i := 125) (by decide +kernel))) (by decide +kernel)
theorem wd_126 : (Cond.code ⟨"TextureBank", "clear", "()V"⟩ prog_1_method_4_code 1 (Option.none : Option FieldType) : Cond) ∈ tbB := tbB_in (List.mem_append_right _ (List.mem_of_getElem? (i := 126) (by decide +kernel))) (by decide +kernel)
theorem wd_127 : (Cond.methodLink "TextureBankLaw" 67 ⟨"TextureBank", "about", "(II)I"⟩ : Cond) ∈ tbB := tbB_in (List.mem_append_right _ (List.mem_of_getElem? (i := 127) (by decide +kernel))) (by decide +kernel)
theorem wd_128 : (Cond.instanceMethod ⟨"TextureBank", "about", "(II)I"⟩ : Cond) ∈ tbB := tbB_in (List.mem_append_right _ (List.mem_of_getElem? (i := 128) (by decide +kernel))) (by decide +kernel)
theorem wd_129 : (Cond.selects "TextureBank" ⟨"TextureBank", "about", "(II)I"⟩ ⟨"TextureBank", "about", "(II)I"⟩ : Cond) ∈ tbB := tbB_in (List.mem_append_right _ (List.mem_of_getElem? (i := 129) (by decide +kernel))) (by decide +kernel)
theorem wd_130 : (Cond.code ⟨"TextureBank", "about", "(II)I"⟩ prog_1_method_9_code 4 (Option.some FieldType.int) : Cond) ∈ tbB := tbB_in (List.mem_append_right _ (List.mem_of_getElem? (i := 130) (by decide +kernel))) (by decide +kernel)
theorem wd_131 : (Cond.methodLink "TextureBank" 48 ⟨"TextureBank", "find", "(I)LTextureBank$Texture;"⟩ : Cond) ∈ tbB := tbB_in (List.mem_append_right _ (List.mem_of_getElem? (i := 131) (by decide +kernel))) (by decide +kernel)
theorem wt_132 : (Cond.privateMethod ⟨"TextureBank", "find", "(I)LTextureBank$Texture;"⟩ : Cond) ∈ lw_tbl := List.mem_append_right _ (List.mem_of_getElem? (i := 132) (by decide +kernel))
theorem wd_133 : (Cond.instanceMethod ⟨"TextureBank", "find", "(I)LTextureBank$Texture;"⟩ : Cond) ∈ tbB := tbB_in (List.mem_append_right _ (List.mem_of_getElem? (i := 133) (by decide +kernel))) (by decide +kernel)
theorem wd_134 : (Cond.code ⟨"TextureBank", "find", "(I)LTextureBank$Texture;"⟩ prog_1_method_11_code 2 (Option.some (FieldType.object "TextureBank$Texture")) : Cond) ∈ tbB := tbB_in (List.mem_append_right _ (List.mem_of_getElem? (i := 134) (by decide +kernel))) (by decide +kernel)
theorem wd_135 : (Cond.methodLink "TextureBankLaw" 72 ⟨"TextureBank", "count", "(I)I"⟩ : Cond) ∈ tbB := tbB_in (List.mem_append_right _ (List.mem_of_getElem? (i := 135) (by decide +kernel))) (by decide +kernel)
theorem wd_136 : (Cond.instanceMethod ⟨"TextureBank", "count", "(I)I"⟩ : Cond) ∈ tbB := tbB_in (List.mem_append_right _ (List.mem_of_getElem? (i := 136) (by decide +kernel))) (by decide +kernel)
theorem wd_137 : (Cond.selects "TextureBank" ⟨"TextureBank", "count", "(I)I"⟩ ⟨"TextureBank", "count", "(I)I"⟩ : Cond) ∈ tbB := tbB_in (List.mem_append_right _ (List.mem_of_getElem? (i := 137) (by decide +kernel))) (by decide +kernel)
theorem wd_138 : (Cond.code ⟨"TextureBank", "count", "(I)I"⟩ prog_1_method_10_code 2 (Option.some FieldType.int) : Cond) ∈ tbB := tbB_in (List.mem_append_right _ (List.mem_of_getElem? (i := 138) (by decide +kernel))) (by decide +kernel)
theorem wd_139 : (Cond.methodLink "TextureBankLaw" 46 ⟨"TextureBankLaw", "level", "(LTextureBank;IJI[J)I"⟩ : Cond) ∈ tbB := tbB_in (List.mem_append_right _ (List.mem_of_getElem? (i := 139) (by decide +kernel))) (by decide +kernel)
theorem wd_140 : (Cond.static ⟨"TextureBankLaw", "level", "(LTextureBank;IJI[J)I"⟩ : Cond) ∈ tbB := tbB_in (List.mem_append_right _ (List.mem_of_getElem? (i := 140) (by decide +kernel))) (by decide +kernel)
theorem wd_141 : (Cond.codeWith ⟨"TextureBankLaw", "level", "(LTextureBank;IJI[J)I"⟩ method_3_code 7 (Option.some FieldType.int) [(0, 13, 16, 13), (0, 13, 20, 15)] : Cond) ∈ tbB := tbB_in (List.mem_append_right _ (List.mem_of_getElem? (i := 141) (by decide +kernel))) (by decide +kernel)
theorem wd_142 : (Cond.classLink "TextureBankLaw" 13 "java/util/NoSuchElementException" : Cond) ∈ tbB := tbB_in (List.mem_append_right _ (List.mem_of_getElem? (i := 142) (by decide +kernel))) (by decide +kernel)
theorem wd_143 : (Cond.classLink "TextureBankLaw" 15 "java/lang/IllegalArgumentException" : Cond) ∈ tbB := tbB_in (List.mem_append_right _ (List.mem_of_getElem? (i := 143) (by decide +kernel))) (by decide +kernel)
theorem wd_144 : (Cond.methodLink "TextureBankLaw" 7 ⟨"TextureBank", "level", "(IJI)I"⟩ : Cond) ∈ tbB := tbB_in (List.mem_append_right _ (List.mem_of_getElem? (i := 144) (by decide +kernel))) (by decide +kernel)
theorem wd_145 : (Cond.instanceMethod ⟨"TextureBank", "level", "(IJI)I"⟩ : Cond) ∈ tbB := tbB_in (List.mem_append_right _ (List.mem_of_getElem? (i := 145) (by decide +kernel))) (by decide +kernel)
theorem wd_146 : (Cond.selects "TextureBank" ⟨"TextureBank", "level", "(IJI)I"⟩ ⟨"TextureBank", "level", "(IJI)I"⟩ : Cond) ∈ tbB := tbB_in (List.mem_append_right _ (List.mem_of_getElem? (i := 146) (by decide +kernel))) (by decide +kernel)
theorem wd_147 : (Cond.code ⟨"TextureBank", "level", "(IJI)I"⟩ prog_1_method_5_code 6 (Option.some FieldType.int) : Cond) ∈ tbB := tbB_in (List.mem_append_right _ (List.mem_of_getElem? (i := 147) (by decide +kernel))) (by decide +kernel)
theorem wd_148 : (Cond.classLink "TextureBank" 52 "java/util/NoSuchElementException" : Cond) ∈ tbB := tbB_in (List.mem_append_right _ (List.mem_of_getElem? (i := 148) (by decide +kernel))) (by decide +kernel)
theorem wd_149 : (Cond.instantiable "java/util/NoSuchElementException" 6 : Cond) ∈ tbB := tbB_in (List.mem_append_right _ (List.mem_of_getElem? (i := 149) (by decide +kernel))) (by decide +kernel)
theorem wt_150 : (Cond.castable "java/util/NoSuchElementException" "java/util/NoSuchElementException" : Cond) ∈ lw_tbl := List.mem_append_right _ (List.mem_of_getElem? (i := 150) (by decide +kernel))
theorem wt_151 : (Cond.declares ⟨"java/lang/RuntimeException", "<init>", "()V"⟩ : Cond) ∈ lw_tbl := List.mem_append_right _ (List.mem_of_getElem? (i := 151) (by decide +kernel))
theorem wt_152 : (Cond.declares ⟨"java/lang/RuntimeException", "<init>", "(Ljava/lang/String;)V"⟩ : Cond) ∈ lw_tbl := List.mem_append_right _ (List.mem_of_getElem? (i := 152) (by decide +kernel))
theorem wt_153 : (Cond.declares ⟨"java/lang/Exception", "<init>", "()V"⟩ : Cond) ∈ lw_tbl := List.mem_append_right _ (List.mem_of_getElem? (i := 153) (by decide +kernel))
theorem wt_154 : (Cond.declares ⟨"java/lang/Exception", "<init>", "(Ljava/lang/String;)V"⟩ : Cond) ∈ lw_tbl := List.mem_append_right _ (List.mem_of_getElem? (i := 154) (by decide +kernel))
theorem wt_155 : (Cond.declares ⟨"java/lang/Throwable", "<init>", "()V"⟩ : Cond) ∈ lw_tbl := List.mem_append_right _ (List.mem_of_getElem? (i := 155) (by decide +kernel))
theorem wt_156 : (Cond.declares ⟨"java/lang/Throwable", "<init>", "(Ljava/lang/String;)V"⟩ : Cond) ∈ lw_tbl := List.mem_append_right _ (List.mem_of_getElem? (i := 156) (by decide +kernel))
theorem wd_157 : (Cond.selects "java/util/NoSuchElementException" ⟨"java/lang/Throwable", "fillInStackTrace", "(I)Ljava/lang/Throwable;"⟩ ⟨"java/lang/Throwable", "fillInStackTrace", "(I)Ljava/lang/Throwable;"⟩ : Cond) ∈ tbB := tbB_in (List.mem_append_right _ (List.mem_of_getElem? (i := 157) (by decide +kernel))) (by decide +kernel)
theorem wd_158 : (Cond.selects "java/util/NoSuchElementException" ⟨"java/lang/Throwable", "fillInStackTrace", "()Ljava/lang/Throwable;"⟩ ⟨"java/lang/Throwable", "fillInStackTrace", "()Ljava/lang/Throwable;"⟩ : Cond) ∈ tbB := tbB_in (List.mem_append_right _ (List.mem_of_getElem? (i := 158) (by decide +kernel))) (by decide +kernel)
theorem wd_159 : (Cond.lays "java/util/NoSuchElementException" "java/lang/Throwable" "cause" "Ljava/lang/Throwable;" : Cond) ∈ tbB := tbB_in (List.mem_append_right _ (List.mem_of_getElem? (i := 159) (by decide +kernel))) (by decide +kernel)
theorem wd_160 : (Cond.lays "java/lang/Throwable" "java/lang/Throwable" "cause" "Ljava/lang/Throwable;" : Cond) ∈ tbB := tbB_in (List.mem_append_right _ (List.mem_of_getElem? (i := 160) (by decide +kernel))) (by decide +kernel)
theorem wd_161 : (Cond.lays "java/util/NoSuchElementException" "java/lang/Throwable" "stackTrace" "[Ljava/lang/StackTraceElement;" : Cond) ∈ tbB := tbB_in (List.mem_append_right _ (List.mem_of_getElem? (i := 161) (by decide +kernel))) (by decide +kernel)
theorem wd_162 : (Cond.lays "java/lang/Throwable" "java/lang/Throwable" "stackTrace" "[Ljava/lang/StackTraceElement;" : Cond) ∈ tbB := tbB_in (List.mem_append_right _ (List.mem_of_getElem? (i := 162) (by decide +kernel))) (by decide +kernel)
theorem wd_163 : (Cond.lays "java/util/NoSuchElementException" "java/lang/Throwable" "suppressedExceptions" "Ljava/util/List;" : Cond) ∈ tbB := tbB_in (List.mem_append_right _ (List.mem_of_getElem? (i := 163) (by decide +kernel))) (by decide +kernel)
theorem wd_164 : (Cond.lays "java/lang/Throwable" "java/lang/Throwable" "suppressedExceptions" "Ljava/util/List;" : Cond) ∈ tbB := tbB_in (List.mem_append_right _ (List.mem_of_getElem? (i := 164) (by decide +kernel))) (by decide +kernel)
theorem wd_165 : (Cond.lays "java/util/NoSuchElementException" "java/lang/Throwable" "detailMessage" "Ljava/lang/String;" : Cond) ∈ tbB := tbB_in (List.mem_append_right _ (List.mem_of_getElem? (i := 165) (by decide +kernel))) (by decide +kernel)
theorem wd_166 : (Cond.lays "java/lang/Throwable" "java/lang/Throwable" "detailMessage" "Ljava/lang/String;" : Cond) ∈ tbB := tbB_in (List.mem_append_right _ (List.mem_of_getElem? (i := 166) (by decide +kernel))) (by decide +kernel)
theorem wd_167 : (Cond.lays "java/util/NoSuchElementException" "java/lang/Throwable" "backtrace" "Ljava/lang/Object;" : Cond) ∈ tbB := tbB_in (List.mem_append_right _ (List.mem_of_getElem? (i := 167) (by decide +kernel))) (by decide +kernel)
theorem wd_168 : (Cond.lays "java/lang/Throwable" "java/lang/Throwable" "backtrace" "Ljava/lang/Object;" : Cond) ∈ tbB := tbB_in (List.mem_append_right _ (List.mem_of_getElem? (i := 168) (by decide +kernel))) (by decide +kernel)
theorem wd_169 : (Cond.fieldLink "java/lang/Throwable" 198 "java/lang/Throwable" "backtrace" "Ljava/lang/Object;" : Cond) ∈ tbB := tbB_in (List.mem_append_right _ (List.mem_of_getElem? (i := 169) (by decide +kernel))) (by decide +kernel)
theorem wd_170 : (Cond.superclass "java/lang/Throwable" "java/lang/Object" : Cond) ∈ tbB := tbB_in (List.mem_append_right _ (List.mem_of_getElem? (i := 170) (by decide +kernel))) (by decide +kernel)
theorem wd_171 : (Cond.instanceMethod ⟨"java/lang/Throwable", "<init>", "()V"⟩ : Cond) ∈ tbB := tbB_in (List.mem_append_right _ (List.mem_of_getElem? (i := 171) (by decide +kernel))) (by decide +kernel)
theorem wd_172 : (Cond.code ⟨"java/lang/Throwable", "<init>", "()V"⟩ prog_12_method_1_code 1 (Option.none : Option FieldType) : Cond) ∈ tbB := tbB_in (List.mem_append_right _ (List.mem_of_getElem? (i := 172) (by decide +kernel))) (by decide +kernel)
theorem wd_173 : (Cond.methodLink "java/lang/Throwable" 1 ⟨"java/lang/Object", "<init>", "()V"⟩ : Cond) ∈ tbB := tbB_in (List.mem_append_right _ (List.mem_of_getElem? (i := 173) (by decide +kernel))) (by decide +kernel)
theorem wd_174 : (Cond.fieldLink "java/lang/Throwable" 13 "java/lang/Throwable" "UNASSIGNED_STACK" "[Ljava/lang/StackTraceElement;" : Cond) ∈ tbB := tbB_in (List.mem_append_right _ (List.mem_of_getElem? (i := 174) (by decide +kernel))) (by decide +kernel)
theorem wt_175 : (Cond.laysStatic "java/lang/Throwable" "UNASSIGNED_STACK" "[Ljava/lang/StackTraceElement;" : Cond) ∈ lw_tbl := List.mem_append_right _ (List.mem_of_getElem? (i := 175) (by decide +kernel))
theorem wd_176 : (Cond.fieldLink "java/lang/Throwable" 20 "java/lang/Throwable" "SUPPRESSED_SENTINEL" "Ljava/util/List;" : Cond) ∈ tbB := tbB_in (List.mem_append_right _ (List.mem_of_getElem? (i := 176) (by decide +kernel))) (by decide +kernel)
theorem wt_177 : (Cond.laysStatic "java/lang/Throwable" "SUPPRESSED_SENTINEL" "Ljava/util/List;" : Cond) ∈ lw_tbl := List.mem_append_right _ (List.mem_of_getElem? (i := 177) (by decide +kernel))
theorem wd_178 : (Cond.methodLink "java/lang/Throwable" 27 ⟨"java/lang/Throwable", "fillInStackTrace", "()Ljava/lang/Throwable;"⟩ : Cond) ∈ tbB := tbB_in (List.mem_append_right _ (List.mem_of_getElem? (i := 178) (by decide +kernel))) (by decide +kernel)
theorem wd_179 : (Cond.instanceMethod ⟨"java/lang/Throwable", "fillInStackTrace", "()Ljava/lang/Throwable;"⟩ : Cond) ∈ tbB := tbB_in (List.mem_append_right _ (List.mem_of_getElem? (i := 179) (by decide +kernel))) (by decide +kernel)
theorem wd_180 : (Cond.sameMethod "java/lang/Throwable" "java/lang/Throwable" "fillInStackTrace" "()Ljava/lang/Throwable;" : Cond) ∈ tbB := tbB_in (List.mem_append_right _ (List.mem_of_getElem? (i := 180) (by decide +kernel))) (by decide +kernel)
theorem wd_181 : (Cond.selects "java/lang/IllegalArgumentException" ⟨"java/lang/Throwable", "fillInStackTrace", "()Ljava/lang/Throwable;"⟩ ⟨"java/lang/Throwable", "fillInStackTrace", "()Ljava/lang/Throwable;"⟩ : Cond) ∈ tbB := tbB_in (List.mem_append_right _ (List.mem_of_getElem? (i := 181) (by decide +kernel))) (by decide +kernel)
theorem wd_182 : (Cond.codeSync ⟨"java/lang/Throwable", "fillInStackTrace", "()Ljava/lang/Throwable;"⟩ prog_12_method_18_code 1 (Option.some (FieldType.object "java/lang/Throwable")) : Cond) ∈ tbB := tbB_in (List.mem_append_right _ (List.mem_of_getElem? (i := 182) (by decide +kernel))) (by decide +kernel)
theorem wd_183 : (Cond.methodLink "java/lang/Throwable" 202 ⟨"java/lang/Throwable", "fillInStackTrace", "(I)Ljava/lang/Throwable;"⟩ : Cond) ∈ tbB := tbB_in (List.mem_append_right _ (List.mem_of_getElem? (i := 183) (by decide +kernel))) (by decide +kernel)
theorem wt_184 : (Cond.privateMethod ⟨"java/lang/Throwable", "fillInStackTrace", "(I)Ljava/lang/Throwable;"⟩ : Cond) ∈ lw_tbl := List.mem_append_right _ (List.mem_of_getElem? (i := 184) (by decide +kernel))
theorem wd_185 : (Cond.instanceMethod ⟨"java/lang/Throwable", "fillInStackTrace", "(I)Ljava/lang/Throwable;"⟩ : Cond) ∈ tbB := tbB_in (List.mem_append_right _ (List.mem_of_getElem? (i := 185) (by decide +kernel))) (by decide +kernel)
theorem wd_186 : (Cond.instantiable "java/lang/Throwable" 6 : Cond) ∈ tbB := tbB_in (List.mem_append_right _ (List.mem_of_getElem? (i := 186) (by decide +kernel))) (by decide +kernel)
theorem wd_187 : (Cond.native ⟨"java/lang/Throwable", "fillInStackTrace", "(I)Ljava/lang/Throwable;"⟩ : Cond) ∈ tbB := tbB_in (List.mem_append_right _ (List.mem_of_getElem? (i := 187) (by decide +kernel))) (by decide +kernel)
theorem wt_188 : (Cond.stringRef "TextureBank" 54 "no such texture" : Cond) ∈ lw_tbl := List.mem_append_right _ (List.mem_of_getElem? (i := 188) (by decide +kernel))
theorem wd_189 : (Cond.methodLink "TextureBank" 56 ⟨"java/util/NoSuchElementException", "<init>", "(Ljava/lang/String;)V"⟩ : Cond) ∈ tbB := tbB_in (List.mem_append_right _ (List.mem_of_getElem? (i := 189) (by decide +kernel))) (by decide +kernel)
theorem wd_190 : (Cond.instanceMethod ⟨"java/util/NoSuchElementException", "<init>", "(Ljava/lang/String;)V"⟩ : Cond) ∈ tbB := tbB_in (List.mem_append_right _ (List.mem_of_getElem? (i := 190) (by decide +kernel))) (by decide +kernel)
theorem wd_191 : (Cond.code ⟨"java/util/NoSuchElementException", "<init>", "(Ljava/lang/String;)V"⟩ prog_13_method_4_code 2 (Option.none : Option FieldType) : Cond) ∈ tbB := tbB_in (List.mem_append_right _ (List.mem_of_getElem? (i := 191) (by decide +kernel))) (by decide +kernel)
theorem wd_192 : (Cond.methodLink "java/util/NoSuchElementException" 13 ⟨"java/lang/RuntimeException", "<init>", "(Ljava/lang/String;)V"⟩ : Cond) ∈ tbB := tbB_in (List.mem_append_right _ (List.mem_of_getElem? (i := 192) (by decide +kernel))) (by decide +kernel)
theorem wd_193 : (Cond.instanceMethod ⟨"java/lang/RuntimeException", "<init>", "(Ljava/lang/String;)V"⟩ : Cond) ∈ tbB := tbB_in (List.mem_append_right _ (List.mem_of_getElem? (i := 193) (by decide +kernel))) (by decide +kernel)
theorem wd_194 : (Cond.code ⟨"java/lang/RuntimeException", "<init>", "(Ljava/lang/String;)V"⟩ prog_9_method_2_code 2 (Option.none : Option FieldType) : Cond) ∈ tbB := tbB_in (List.mem_append_right _ (List.mem_of_getElem? (i := 194) (by decide +kernel))) (by decide +kernel)
theorem wd_195 : (Cond.methodLink "java/lang/RuntimeException" 7 ⟨"java/lang/Exception", "<init>", "(Ljava/lang/String;)V"⟩ : Cond) ∈ tbB := tbB_in (List.mem_append_right _ (List.mem_of_getElem? (i := 195) (by decide +kernel))) (by decide +kernel)
theorem wd_196 : (Cond.instanceMethod ⟨"java/lang/Exception", "<init>", "(Ljava/lang/String;)V"⟩ : Cond) ∈ tbB := tbB_in (List.mem_append_right _ (List.mem_of_getElem? (i := 196) (by decide +kernel))) (by decide +kernel)
theorem wd_197 : (Cond.code ⟨"java/lang/Exception", "<init>", "(Ljava/lang/String;)V"⟩ prog_5_method_2_code 2 (Option.none : Option FieldType) : Cond) ∈ tbB := tbB_in (List.mem_append_right _ (List.mem_of_getElem? (i := 197) (by decide +kernel))) (by decide +kernel)
theorem wd_198 : (Cond.methodLink "java/lang/Exception" 7 ⟨"java/lang/Throwable", "<init>", "(Ljava/lang/String;)V"⟩ : Cond) ∈ tbB := tbB_in (List.mem_append_right _ (List.mem_of_getElem? (i := 198) (by decide +kernel))) (by decide +kernel)
theorem wd_199 : (Cond.instanceMethod ⟨"java/lang/Throwable", "<init>", "(Ljava/lang/String;)V"⟩ : Cond) ∈ tbB := tbB_in (List.mem_append_right _ (List.mem_of_getElem? (i := 199) (by decide +kernel))) (by decide +kernel)
theorem wd_200 : (Cond.code ⟨"java/lang/Throwable", "<init>", "(Ljava/lang/String;)V"⟩ prog_12_method_2_code 2 (Option.none : Option FieldType) : Cond) ∈ tbB := tbB_in (List.mem_append_right _ (List.mem_of_getElem? (i := 200) (by decide +kernel))) (by decide +kernel)
theorem wd_201 : (Cond.fieldLink "java/lang/Throwable" 198 "java/lang/Throwable" "backtrace" "Ljava/lang/Object;" : Cond) ∈ tbB := tbB_in (List.mem_append_right _ (List.mem_of_getElem? (i := 201) (by decide +kernel))) (by decide +kernel)
theorem wd_202 : (Cond.fieldLink "java/lang/Throwable" 31 "java/lang/Throwable" "detailMessage" "Ljava/lang/String;" : Cond) ∈ tbB := tbB_in (List.mem_append_right _ (List.mem_of_getElem? (i := 202) (by decide +kernel))) (by decide +kernel)
theorem wd_203 : (Cond.fieldLink "java/lang/Throwable" 7 "java/lang/Throwable" "cause" "Ljava/lang/Throwable;" : Cond) ∈ tbB := tbB_in (List.mem_append_right _ (List.mem_of_getElem? (i := 203) (by decide +kernel))) (by decide +kernel)
theorem wd_204 : (Cond.fieldLink "java/lang/Throwable" 17 "java/lang/Throwable" "stackTrace" "[Ljava/lang/StackTraceElement;" : Cond) ∈ tbB := tbB_in (List.mem_append_right _ (List.mem_of_getElem? (i := 204) (by decide +kernel))) (by decide +kernel)
theorem wd_205 : (Cond.fieldLink "java/lang/Throwable" 24 "java/lang/Throwable" "suppressedExceptions" "Ljava/util/List;" : Cond) ∈ tbB := tbB_in (List.mem_append_right _ (List.mem_of_getElem? (i := 205) (by decide +kernel))) (by decide +kernel)
theorem wd_206 : (Cond.soleField "java/lang/Throwable" "backtrace" : Cond) ∈ tbB := tbB_in (List.mem_append_right _ (List.mem_of_getElem? (i := 206) (by decide +kernel))) (by decide +kernel)
theorem wd_207 : (Cond.soleField "java/lang/Throwable" "detailMessage" : Cond) ∈ tbB := tbB_in (List.mem_append_right _ (List.mem_of_getElem? (i := 207) (by decide +kernel))) (by decide +kernel)
theorem wd_208 : (Cond.soleField "java/lang/Throwable" "cause" : Cond) ∈ tbB := tbB_in (List.mem_append_right _ (List.mem_of_getElem? (i := 208) (by decide +kernel))) (by decide +kernel)
theorem wd_209 : (Cond.soleField "java/lang/Throwable" "stackTrace" : Cond) ∈ tbB := tbB_in (List.mem_append_right _ (List.mem_of_getElem? (i := 209) (by decide +kernel))) (by decide +kernel)
theorem wd_210 : (Cond.lays "java/util/NoSuchElementException" "java/lang/Throwable" "depth" "I" : Cond) ∈ tbB := tbB_in (List.mem_append_right _ (List.mem_of_getElem? (i := 210) (by decide +kernel))) (by decide +kernel)
theorem wd_211 : (Cond.soleField "java/lang/Throwable" "depth" : Cond) ∈ tbB := tbB_in (List.mem_append_right _ (List.mem_of_getElem? (i := 211) (by decide +kernel))) (by decide +kernel)
theorem wd_212 : (Cond.soleField "java/lang/Throwable" "suppressedExceptions" : Cond) ∈ tbB := tbB_in (List.mem_append_right _ (List.mem_of_getElem? (i := 212) (by decide +kernel))) (by decide +kernel)
theorem wd_213 : (Cond.superclass "java/util/NoSuchElementException" "java/lang/RuntimeException" : Cond) ∈ tbB := tbB_in (List.mem_append_right _ (List.mem_of_getElem? (i := 213) (by decide +kernel))) (by decide +kernel)
theorem wd_214 : (Cond.arrayClass FieldType.byte : Cond) ∈ tbB := tbB_in (List.mem_append_right _ (List.mem_of_getElem? (i := 214) (by decide +kernel))) (by decide +kernel)
theorem wd_215 : (Cond.constantLong "TextureBank" 59 (1099511627776 : Int64) : Cond) ∈ tbB := tbB_in (List.mem_append_right _ (List.mem_of_getElem? (i := 215) (by decide +kernel))) (by decide +kernel)
theorem wd_216 : (Cond.classLink "TextureBank" 61 "java/lang/IllegalArgumentException" : Cond) ∈ tbB := tbB_in (List.mem_append_right _ (List.mem_of_getElem? (i := 216) (by decide +kernel))) (by decide +kernel)
theorem wd_217 : (Cond.instantiable "java/lang/IllegalArgumentException" 6 : Cond) ∈ tbB := tbB_in (List.mem_append_right _ (List.mem_of_getElem? (i := 217) (by decide +kernel))) (by decide +kernel)
theorem wt_218 : (Cond.castable "java/lang/IllegalArgumentException" "java/lang/IllegalArgumentException" : Cond) ∈ lw_tbl := List.mem_append_right _ (List.mem_of_getElem? (i := 218) (by decide +kernel))
theorem wd_219 : (Cond.selects "java/lang/IllegalArgumentException" ⟨"java/lang/Throwable", "fillInStackTrace", "(I)Ljava/lang/Throwable;"⟩ ⟨"java/lang/Throwable", "fillInStackTrace", "(I)Ljava/lang/Throwable;"⟩ : Cond) ∈ tbB := tbB_in (List.mem_append_right _ (List.mem_of_getElem? (i := 219) (by decide +kernel))) (by decide +kernel)
theorem wd_220 : (Cond.lays "java/lang/IllegalArgumentException" "java/lang/Throwable" "cause" "Ljava/lang/Throwable;" : Cond) ∈ tbB := tbB_in (List.mem_append_right _ (List.mem_of_getElem? (i := 220) (by decide +kernel))) (by decide +kernel)
theorem wd_221 : (Cond.lays "java/lang/IllegalArgumentException" "java/lang/Throwable" "stackTrace" "[Ljava/lang/StackTraceElement;" : Cond) ∈ tbB := tbB_in (List.mem_append_right _ (List.mem_of_getElem? (i := 221) (by decide +kernel))) (by decide +kernel)
theorem wd_222 : (Cond.lays "java/lang/IllegalArgumentException" "java/lang/Throwable" "suppressedExceptions" "Ljava/util/List;" : Cond) ∈ tbB := tbB_in (List.mem_append_right _ (List.mem_of_getElem? (i := 222) (by decide +kernel))) (by decide +kernel)
theorem wd_223 : (Cond.lays "java/lang/IllegalArgumentException" "java/lang/Throwable" "detailMessage" "Ljava/lang/String;" : Cond) ∈ tbB := tbB_in (List.mem_append_right _ (List.mem_of_getElem? (i := 223) (by decide +kernel))) (by decide +kernel)
theorem wd_224 : (Cond.lays "java/lang/IllegalArgumentException" "java/lang/Throwable" "backtrace" "Ljava/lang/Object;" : Cond) ∈ tbB := tbB_in (List.mem_append_right _ (List.mem_of_getElem? (i := 224) (by decide +kernel))) (by decide +kernel)
theorem wt_225 : (Cond.stringRef "TextureBank" 63 "spread is not 0 .. 2^40" : Cond) ∈ lw_tbl := List.mem_append_right _ (List.mem_of_getElem? (i := 225) (by decide +kernel))
theorem wd_226 : (Cond.methodLink "TextureBank" 65 ⟨"java/lang/IllegalArgumentException", "<init>", "(Ljava/lang/String;)V"⟩ : Cond) ∈ tbB := tbB_in (List.mem_append_right _ (List.mem_of_getElem? (i := 226) (by decide +kernel))) (by decide +kernel)
theorem wd_227 : (Cond.instanceMethod ⟨"java/lang/IllegalArgumentException", "<init>", "(Ljava/lang/String;)V"⟩ : Cond) ∈ tbB := tbB_in (List.mem_append_right _ (List.mem_of_getElem? (i := 227) (by decide +kernel))) (by decide +kernel)
theorem wd_228 : (Cond.code ⟨"java/lang/IllegalArgumentException", "<init>", "(Ljava/lang/String;)V"⟩ prog_6_method_2_code 2 (Option.none : Option FieldType) : Cond) ∈ tbB := tbB_in (List.mem_append_right _ (List.mem_of_getElem? (i := 228) (by decide +kernel))) (by decide +kernel)
theorem wd_229 : (Cond.methodLink "java/lang/IllegalArgumentException" 7 ⟨"java/lang/RuntimeException", "<init>", "(Ljava/lang/String;)V"⟩ : Cond) ∈ tbB := tbB_in (List.mem_append_right _ (List.mem_of_getElem? (i := 229) (by decide +kernel))) (by decide +kernel)
end
section
theorem wd_230 : (Cond.lays "java/lang/IllegalArgumentException" "java/lang/Throwable" "depth" "I" : Cond) ∈ tbB := tbB_in (List.mem_append_right _ (List.mem_of_getElem? (i := 230) (by decide +kernel))) (by decide +kernel)
theorem wd_231 : (Cond.superclass "java/lang/IllegalArgumentException" "java/lang/RuntimeException" : Cond) ∈ tbB := tbB_in (List.mem_append_right _ (List.mem_of_getElem? (i := 231) (by decide +kernel))) (by decide +kernel)
theorem wd_232 : (Cond.constant "TextureBank" 66 (16777216 : Int32) : Cond) ∈ tbB := tbB_in (List.mem_append_right _ (List.mem_of_getElem? (i := 232) (by decide +kernel))) (by decide +kernel)
theorem wt_233 : (Cond.stringRef "TextureBank" 67 "area is not 1 .. 2^24" : Cond) ∈ lw_tbl := List.mem_append_right _ (List.mem_of_getElem? (i := 233) (by decide +kernel))
theorem wt_234 : (Cond.methodLinkNest "TextureBank" 69 ⟨"TextureBank$Texture", "levelFor", "(JJ)I"⟩ "TextureBank" : Cond) ∈ lw_tbl := List.mem_append_right _ (List.mem_of_getElem? (i := 234) (by decide +kernel))
theorem wt_235 : (Cond.privateMethod ⟨"TextureBank$Texture", "levelFor", "(JJ)I"⟩ : Cond) ∈ lw_tbl := List.mem_append_right _ (List.mem_of_getElem? (i := 235) (by decide +kernel))
theorem wd_236 : (Cond.instanceMethod ⟨"TextureBank$Texture", "levelFor", "(JJ)I"⟩ : Cond) ∈ tbB := tbB_in (List.mem_append_right _ (List.mem_of_getElem? (i := 236) (by decide +kernel))) (by decide +kernel)
theorem wd_237 : (Cond.code ⟨"TextureBank$Texture", "levelFor", "(JJ)I"⟩ prog_2_method_10_code 11 (Option.some FieldType.int) : Cond) ∈ tbB := tbB_in (List.mem_append_right _ (List.mem_of_getElem? (i := 237) (by decide +kernel))) (by decide +kernel)
theorem wd_238 : (Cond.constantLong "TextureBank$Texture" 68 (16777216 : Int64) : Cond) ∈ tbB := tbB_in (List.mem_append_right _ (List.mem_of_getElem? (i := 238) (by decide +kernel))) (by decide +kernel)
theorem wd_239 : (Cond.methodLink "TextureBankLaw" 56 ⟨"TextureBankLaw", "lookUp", "(LTextureBank;IIII[J)I"⟩ : Cond) ∈ tbB := tbB_in (List.mem_append_right _ (List.mem_of_getElem? (i := 239) (by decide +kernel))) (by decide +kernel)
theorem wd_240 : (Cond.static ⟨"TextureBankLaw", "lookUp", "(LTextureBank;IIII[J)I"⟩ : Cond) ∈ tbB := tbB_in (List.mem_append_right _ (List.mem_of_getElem? (i := 240) (by decide +kernel))) (by decide +kernel)
theorem wd_241 : (Cond.codeWith ⟨"TextureBankLaw", "lookUp", "(LTextureBank;IIII[J)I"⟩ method_4_code 7 (Option.some FieldType.int) [(0, 14, 17, 13), (0, 14, 21, 15)] : Cond) ∈ tbB := tbB_in (List.mem_append_right _ (List.mem_of_getElem? (i := 241) (by decide +kernel))) (by decide +kernel)
theorem wd_242 : (Cond.methodLink "TextureBankLaw" 17 ⟨"TextureBank", "lookUp", "(IIII)I"⟩ : Cond) ∈ tbB := tbB_in (List.mem_append_right _ (List.mem_of_getElem? (i := 242) (by decide +kernel))) (by decide +kernel)
theorem wd_243 : (Cond.instanceMethod ⟨"TextureBank", "lookUp", "(IIII)I"⟩ : Cond) ∈ tbB := tbB_in (List.mem_append_right _ (List.mem_of_getElem? (i := 243) (by decide +kernel))) (by decide +kernel)
theorem wd_244 : (Cond.selects "TextureBank" ⟨"TextureBank", "lookUp", "(IIII)I"⟩ ⟨"TextureBank", "lookUp", "(IIII)I"⟩ : Cond) ∈ tbB := tbB_in (List.mem_append_right _ (List.mem_of_getElem? (i := 244) (by decide +kernel))) (by decide +kernel)
theorem wd_245 : (Cond.code ⟨"TextureBank", "lookUp", "(IIII)I"⟩ prog_1_method_6_code 6 (Option.some FieldType.int) : Cond) ∈ tbB := tbB_in (List.mem_append_right _ (List.mem_of_getElem? (i := 245) (by decide +kernel))) (by decide +kernel)
theorem wt_246 : (Cond.methodLinkNest "TextureBank" 73 ⟨"TextureBank$Texture", "hasLevel", "(I)Z"⟩ "TextureBank" : Cond) ∈ lw_tbl := List.mem_append_right _ (List.mem_of_getElem? (i := 246) (by decide +kernel))
theorem wt_247 : (Cond.privateMethod ⟨"TextureBank$Texture", "hasLevel", "(I)Z"⟩ : Cond) ∈ lw_tbl := List.mem_append_right _ (List.mem_of_getElem? (i := 247) (by decide +kernel))
theorem wd_248 : (Cond.instanceMethod ⟨"TextureBank$Texture", "hasLevel", "(I)Z"⟩ : Cond) ∈ tbB := tbB_in (List.mem_append_right _ (List.mem_of_getElem? (i := 248) (by decide +kernel))) (by decide +kernel)
theorem wd_249 : (Cond.code ⟨"TextureBank$Texture", "hasLevel", "(I)Z"⟩ prog_2_method_7_code 2 (Option.some FieldType.boolean) : Cond) ∈ tbB := tbB_in (List.mem_append_right _ (List.mem_of_getElem? (i := 249) (by decide +kernel))) (by decide +kernel)
theorem wt_250 : (Cond.stringRef "TextureBank" 76 "no such texture or level" : Cond) ∈ lw_tbl := List.mem_append_right _ (List.mem_of_getElem? (i := 250) (by decide +kernel))
theorem wd_251 : (Cond.methodLink "TextureBank" 78 ⟨"TextureBank", "isPlace", "(I)Z"⟩ : Cond) ∈ tbB := tbB_in (List.mem_append_right _ (List.mem_of_getElem? (i := 251) (by decide +kernel))) (by decide +kernel)
theorem wd_252 : (Cond.static ⟨"TextureBank", "isPlace", "(I)Z"⟩ : Cond) ∈ tbB := tbB_in (List.mem_append_right _ (List.mem_of_getElem? (i := 252) (by decide +kernel))) (by decide +kernel)
theorem wd_253 : (Cond.code ⟨"TextureBank", "isPlace", "(I)Z"⟩ prog_1_method_17_code 1 (Option.some FieldType.boolean) : Cond) ∈ tbB := tbB_in (List.mem_append_right _ (List.mem_of_getElem? (i := 253) (by decide +kernel))) (by decide +kernel)
theorem wd_254 : (Cond.constant "TextureBank" 127 (-16777216 : Int32) : Cond) ∈ tbB := tbB_in (List.mem_append_right _ (List.mem_of_getElem? (i := 254) (by decide +kernel))) (by decide +kernel)
theorem wt_255 : (Cond.stringRef "TextureBank" 81 "a place is not -16777216 .. 16777216" : Cond) ∈ lw_tbl := List.mem_append_right _ (List.mem_of_getElem? (i := 255) (by decide +kernel))
theorem wt_256 : (Cond.methodLinkNest "TextureBank" 83 ⟨"TextureBank$Texture", "sideOf", "(I)I"⟩ "TextureBank" : Cond) ∈ lw_tbl := List.mem_append_right _ (List.mem_of_getElem? (i := 256) (by decide +kernel))
theorem wt_257 : (Cond.privateMethod ⟨"TextureBank$Texture", "sideOf", "(I)I"⟩ : Cond) ∈ lw_tbl := List.mem_append_right _ (List.mem_of_getElem? (i := 257) (by decide +kernel))
theorem wd_258 : (Cond.instanceMethod ⟨"TextureBank$Texture", "sideOf", "(I)I"⟩ : Cond) ∈ tbB := tbB_in (List.mem_append_right _ (List.mem_of_getElem? (i := 258) (by decide +kernel))) (by decide +kernel)
theorem wd_259 : (Cond.code ⟨"TextureBank$Texture", "sideOf", "(I)I"⟩ prog_2_method_8_code 2 (Option.some FieldType.int) : Cond) ∈ tbB := tbB_in (List.mem_append_right _ (List.mem_of_getElem? (i := 259) (by decide +kernel))) (by decide +kernel)
theorem wt_260 : (Cond.methodLinkNest "TextureBank" 87 ⟨"TextureBank$Texture", "colourAt", "(IJJ)I"⟩ "TextureBank" : Cond) ∈ lw_tbl := List.mem_append_right _ (List.mem_of_getElem? (i := 260) (by decide +kernel))
theorem wt_261 : (Cond.privateMethod ⟨"TextureBank$Texture", "colourAt", "(IJJ)I"⟩ : Cond) ∈ lw_tbl := List.mem_append_right _ (List.mem_of_getElem? (i := 261) (by decide +kernel))
theorem wd_262 : (Cond.instanceMethod ⟨"TextureBank$Texture", "colourAt", "(IJJ)I"⟩ : Cond) ∈ tbB := tbB_in (List.mem_append_right _ (List.mem_of_getElem? (i := 262) (by decide +kernel))) (by decide +kernel)
theorem wd_263 : (Cond.code ⟨"TextureBank$Texture", "colourAt", "(IJJ)I"⟩ prog_2_method_11_code 10 (Option.some FieldType.int) : Cond) ∈ tbB := tbB_in (List.mem_append_right _ (List.mem_of_getElem? (i := 263) (by decide +kernel))) (by decide +kernel)
theorem wd_264 : (Cond.constantLong "TextureBank$Texture" 70 (32768 : Int64) : Cond) ∈ tbB := tbB_in (List.mem_append_right _ (List.mem_of_getElem? (i := 264) (by decide +kernel))) (by decide +kernel)
theorem wd_265 : (Cond.methodLink "TextureBank$Texture" 72 ⟨"TextureBank$Texture", "softColour", "(IJJ)I"⟩ : Cond) ∈ tbB := tbB_in (List.mem_append_right _ (List.mem_of_getElem? (i := 265) (by decide +kernel))) (by decide +kernel)
theorem wt_266 : (Cond.privateMethod ⟨"TextureBank$Texture", "softColour", "(IJJ)I"⟩ : Cond) ∈ lw_tbl := List.mem_append_right _ (List.mem_of_getElem? (i := 266) (by decide +kernel))
theorem wd_267 : (Cond.instanceMethod ⟨"TextureBank$Texture", "softColour", "(IJJ)I"⟩ : Cond) ∈ tbB := tbB_in (List.mem_append_right _ (List.mem_of_getElem? (i := 267) (by decide +kernel))) (by decide +kernel)
theorem wd_268 : (Cond.code ⟨"TextureBank$Texture", "softColour", "(IJJ)I"⟩ prog_2_method_12_code 25 (Option.some FieldType.int) : Cond) ∈ tbB := tbB_in (List.mem_append_right _ (List.mem_of_getElem? (i := 268) (by decide +kernel))) (by decide +kernel)
theorem wd_269 : (Cond.constantLong "TextureBank$Texture" 76 (65536 : Int64) : Cond) ∈ tbB := tbB_in (List.mem_append_right _ (List.mem_of_getElem? (i := 269) (by decide +kernel))) (by decide +kernel)
theorem wd_270 : (Cond.constantLong "TextureBank$Texture" 82 (256 : Int64) : Cond) ∈ tbB := tbB_in (List.mem_append_right _ (List.mem_of_getElem? (i := 270) (by decide +kernel))) (by decide +kernel)
theorem wd_271 : (Cond.methodLink "TextureBank$Texture" 78 ⟨"TextureBank$Texture", "wrapped", "(JI)I"⟩ : Cond) ∈ tbB := tbB_in (List.mem_append_right _ (List.mem_of_getElem? (i := 271) (by decide +kernel))) (by decide +kernel)
theorem wt_272 : (Cond.privateMethod ⟨"TextureBank$Texture", "wrapped", "(JI)I"⟩ : Cond) ∈ lw_tbl := List.mem_append_right _ (List.mem_of_getElem? (i := 272) (by decide +kernel))
theorem wd_273 : (Cond.instanceMethod ⟨"TextureBank$Texture", "wrapped", "(JI)I"⟩ : Cond) ∈ tbB := tbB_in (List.mem_append_right _ (List.mem_of_getElem? (i := 273) (by decide +kernel))) (by decide +kernel)
theorem wd_274 : (Cond.code ⟨"TextureBank$Texture", "wrapped", "(JI)I"⟩ prog_2_method_15_code 5 (Option.some FieldType.int) : Cond) ∈ tbB := tbB_in (List.mem_append_right _ (List.mem_of_getElem? (i := 274) (by decide +kernel))) (by decide +kernel)
theorem wd_275 : (Cond.methodLink "TextureBank$Texture" 92 ⟨"java/lang/Math", "min", "(JJ)J"⟩ : Cond) ∈ tbB := tbB_in (List.mem_append_right _ (List.mem_of_getElem? (i := 275) (by decide +kernel))) (by decide +kernel)
theorem wd_276 : (Cond.static ⟨"java/lang/Math", "min", "(JJ)J"⟩ : Cond) ∈ tbB := tbB_in (List.mem_append_right _ (List.mem_of_getElem? (i := 276) (by decide +kernel))) (by decide +kernel)
theorem wd_277 : (Cond.code ⟨"java/lang/Math", "min", "(JJ)J"⟩ prog_8_method_70_code 4 (Option.some FieldType.long) : Cond) ∈ tbB := tbB_in (List.mem_append_right _ (List.mem_of_getElem? (i := 277) (by decide +kernel))) (by decide +kernel)
theorem wd_278 : (Cond.methodLink "TextureBank$Texture" 95 ⟨"java/lang/Math", "max", "(JJ)J"⟩ : Cond) ∈ tbB := tbB_in (List.mem_append_right _ (List.mem_of_getElem? (i := 278) (by decide +kernel))) (by decide +kernel)
theorem wd_279 : (Cond.static ⟨"java/lang/Math", "max", "(JJ)J"⟩ : Cond) ∈ tbB := tbB_in (List.mem_append_right _ (List.mem_of_getElem? (i := 279) (by decide +kernel))) (by decide +kernel)
theorem wd_280 : (Cond.code ⟨"java/lang/Math", "max", "(JJ)J"⟩ prog_8_method_66_code 4 (Option.some FieldType.long) : Cond) ∈ tbB := tbB_in (List.mem_append_right _ (List.mem_of_getElem? (i := 280) (by decide +kernel))) (by decide +kernel)
theorem wd_281 : (Cond.methodLink "TextureBank$Texture" 84 ⟨"TextureBank$Texture", "mixed", "(IIJI)J"⟩ : Cond) ∈ tbB := tbB_in (List.mem_append_right _ (List.mem_of_getElem? (i := 281) (by decide +kernel))) (by decide +kernel)
theorem wd_282 : (Cond.static ⟨"TextureBank$Texture", "mixed", "(IIJI)J"⟩ : Cond) ∈ tbB := tbB_in (List.mem_append_right _ (List.mem_of_getElem? (i := 282) (by decide +kernel))) (by decide +kernel)
theorem wd_283 : (Cond.code ⟨"TextureBank$Texture", "mixed", "(IIJI)J"⟩ prog_2_method_13_code 5 (Option.some FieldType.long) : Cond) ∈ tbB := tbB_in (List.mem_append_right _ (List.mem_of_getElem? (i := 283) (by decide +kernel))) (by decide +kernel)
theorem wd_284 : (Cond.methodLink "TextureBank$Texture" 88 ⟨"TextureBank$Texture", "softNumber", "(JJJ)I"⟩ : Cond) ∈ tbB := tbB_in (List.mem_append_right _ (List.mem_of_getElem? (i := 284) (by decide +kernel))) (by decide +kernel)
theorem wd_285 : (Cond.static ⟨"TextureBank$Texture", "softNumber", "(JJJ)I"⟩ : Cond) ∈ tbB := tbB_in (List.mem_append_right _ (List.mem_of_getElem? (i := 285) (by decide +kernel))) (by decide +kernel)
theorem wd_286 : (Cond.code ⟨"TextureBank$Texture", "softNumber", "(JJJ)I"⟩ prog_2_method_14_code 6 (Option.some FieldType.int) : Cond) ∈ tbB := tbB_in (List.mem_append_right _ (List.mem_of_getElem? (i := 286) (by decide +kernel))) (by decide +kernel)
theorem wd_287 : (Cond.methodLink "TextureBankLaw" 60 ⟨"TextureBankLaw", "texel", "(LTextureBank;IIII[J)I"⟩ : Cond) ∈ tbB := tbB_in (List.mem_append_right _ (List.mem_of_getElem? (i := 287) (by decide +kernel))) (by decide +kernel)
theorem wd_288 : (Cond.static ⟨"TextureBankLaw", "texel", "(LTextureBank;IIII[J)I"⟩ : Cond) ∈ tbB := tbB_in (List.mem_append_right _ (List.mem_of_getElem? (i := 288) (by decide +kernel))) (by decide +kernel)
theorem wd_289 : (Cond.codeWith ⟨"TextureBankLaw", "texel", "(LTextureBank;IIII[J)I"⟩ method_5_code 7 (Option.some FieldType.int) [(0, 14, 17, 13)] : Cond) ∈ tbB := tbB_in (List.mem_append_right _ (List.mem_of_getElem? (i := 289) (by decide +kernel))) (by decide +kernel)
theorem wd_290 : (Cond.methodLink "TextureBankLaw" 21 ⟨"TextureBank", "texel", "(IIII)I"⟩ : Cond) ∈ tbB := tbB_in (List.mem_append_right _ (List.mem_of_getElem? (i := 290) (by decide +kernel))) (by decide +kernel)
theorem wd_291 : (Cond.instanceMethod ⟨"TextureBank", "texel", "(IIII)I"⟩ : Cond) ∈ tbB := tbB_in (List.mem_append_right _ (List.mem_of_getElem? (i := 291) (by decide +kernel))) (by decide +kernel)
theorem wd_292 : (Cond.selects "TextureBank" ⟨"TextureBank", "texel", "(IIII)I"⟩ ⟨"TextureBank", "texel", "(IIII)I"⟩ : Cond) ∈ tbB := tbB_in (List.mem_append_right _ (List.mem_of_getElem? (i := 292) (by decide +kernel))) (by decide +kernel)
theorem wd_293 : (Cond.code ⟨"TextureBank", "texel", "(IIII)I"⟩ prog_1_method_7_code 7 (Option.some FieldType.int) : Cond) ∈ tbB := tbB_in (List.mem_append_right _ (List.mem_of_getElem? (i := 293) (by decide +kernel))) (by decide +kernel)
theorem wt_294 : (Cond.methodLinkNest "TextureBank" 91 ⟨"TextureBank$Texture", "colourIn", "(III)I"⟩ "TextureBank" : Cond) ∈ lw_tbl := List.mem_append_right _ (List.mem_of_getElem? (i := 294) (by decide +kernel))
theorem wt_295 : (Cond.stringRef "TextureBank" 94 "no such texel" : Cond) ∈ lw_tbl := List.mem_append_right _ (List.mem_of_getElem? (i := 295) (by decide +kernel))
theorem wd_296 : (Cond.methodLink "TextureBankLaw" 63 ⟨"TextureBankLaw", "lit", "(LTextureBank;III[J)I"⟩ : Cond) ∈ tbB := tbB_in (List.mem_append_right _ (List.mem_of_getElem? (i := 296) (by decide +kernel))) (by decide +kernel)
theorem wd_297 : (Cond.static ⟨"TextureBankLaw", "lit", "(LTextureBank;III[J)I"⟩ : Cond) ∈ tbB := tbB_in (List.mem_append_right _ (List.mem_of_getElem? (i := 297) (by decide +kernel))) (by decide +kernel)
theorem wd_298 : (Cond.codeWith ⟨"TextureBankLaw", "lit", "(LTextureBank;III[J)I"⟩ method_6_code 6 (Option.some FieldType.int) [(0, 12, 15, 15)] : Cond) ∈ tbB := tbB_in (List.mem_append_right _ (List.mem_of_getElem? (i := 298) (by decide +kernel))) (by decide +kernel)
theorem wd_299 : (Cond.methodLink "TextureBankLaw" 24 ⟨"TextureBank", "lit", "(III)I"⟩ : Cond) ∈ tbB := tbB_in (List.mem_append_right _ (List.mem_of_getElem? (i := 299) (by decide +kernel))) (by decide +kernel)
theorem wd_300 : (Cond.instanceMethod ⟨"TextureBank", "lit", "(III)I"⟩ : Cond) ∈ tbB := tbB_in (List.mem_append_right _ (List.mem_of_getElem? (i := 300) (by decide +kernel))) (by decide +kernel)
theorem wd_301 : (Cond.selects "TextureBank" ⟨"TextureBank", "lit", "(III)I"⟩ ⟨"TextureBank", "lit", "(III)I"⟩ : Cond) ∈ tbB := tbB_in (List.mem_append_right _ (List.mem_of_getElem? (i := 301) (by decide +kernel))) (by decide +kernel)
theorem wd_302 : (Cond.code ⟨"TextureBank", "lit", "(III)I"⟩ prog_1_method_8_code 4 (Option.some FieldType.int) : Cond) ∈ tbB := tbB_in (List.mem_append_right _ (List.mem_of_getElem? (i := 302) (by decide +kernel))) (by decide +kernel)
theorem wd_303 : (Cond.methodLink "TextureBank" 96 ⟨"TextureBank", "isColour", "(I)Z"⟩ : Cond) ∈ tbB := tbB_in (List.mem_append_right _ (List.mem_of_getElem? (i := 303) (by decide +kernel))) (by decide +kernel)
theorem wd_304 : (Cond.static ⟨"TextureBank", "isColour", "(I)Z"⟩ : Cond) ∈ tbB := tbB_in (List.mem_append_right _ (List.mem_of_getElem? (i := 304) (by decide +kernel))) (by decide +kernel)
theorem wd_305 : (Cond.code ⟨"TextureBank", "isColour", "(I)Z"⟩ prog_1_method_13_code 1 (Option.some FieldType.boolean) : Cond) ∈ tbB := tbB_in (List.mem_append_right _ (List.mem_of_getElem? (i := 305) (by decide +kernel))) (by decide +kernel)
theorem wd_306 : (Cond.constant "TextureBank" 121 (16777215 : Int32) : Cond) ∈ tbB := tbB_in (List.mem_append_right _ (List.mem_of_getElem? (i := 306) (by decide +kernel))) (by decide +kernel)
theorem wt_307 : (Cond.stringRef "TextureBank" 99 "no colour" : Cond) ∈ lw_tbl := List.mem_append_right _ (List.mem_of_getElem? (i := 307) (by decide +kernel))
theorem wd_308 : (Cond.constantLong "TextureBank" 101 (65536 : Int64) : Cond) ∈ tbB := tbB_in (List.mem_append_right _ (List.mem_of_getElem? (i := 308) (by decide +kernel))) (by decide +kernel)
theorem wt_309 : (Cond.stringRef "TextureBank" 103 "light is not 0 .. 65536" : Cond) ∈ lw_tbl := List.mem_append_right _ (List.mem_of_getElem? (i := 309) (by decide +kernel))
theorem wd_310 : (Cond.methodLink "TextureBank" 105 ⟨"TextureBank", "litNumber", "(IIII)I"⟩ : Cond) ∈ tbB := tbB_in (List.mem_append_right _ (List.mem_of_getElem? (i := 310) (by decide +kernel))) (by decide +kernel)
theorem wd_311 : (Cond.static ⟨"TextureBank", "litNumber", "(IIII)I"⟩ : Cond) ∈ tbB := tbB_in (List.mem_append_right _ (List.mem_of_getElem? (i := 311) (by decide +kernel))) (by decide +kernel)
theorem wd_312 : (Cond.code ⟨"TextureBank", "litNumber", "(IIII)I"⟩ prog_1_method_20_code 6 (Option.some FieldType.int) : Cond) ∈ tbB := tbB_in (List.mem_append_right _ (List.mem_of_getElem? (i := 312) (by decide +kernel))) (by decide +kernel)
theorem wd_313 : (Cond.methodLink "TextureBank" 128 ⟨"TextureBank", "numberOf", "(II)J"⟩ : Cond) ∈ tbB := tbB_in (List.mem_append_right _ (List.mem_of_getElem? (i := 313) (by decide +kernel))) (by decide +kernel)
theorem wd_314 : (Cond.constantLong "TextureBank" 132 (255 : Int64) : Cond) ∈ tbB := tbB_in (List.mem_append_right _ (List.mem_of_getElem? (i := 314) (by decide +kernel))) (by decide +kernel)
theorem wd_315 : (Cond.methodLink "TextureBank" 134 ⟨"java/lang/Math", "floorDiv", "(JJ)J"⟩ : Cond) ∈ tbB := tbB_in (List.mem_append_right _ (List.mem_of_getElem? (i := 315) (by decide +kernel))) (by decide +kernel)
theorem wd_316 : (Cond.classLink "TextureBankLaw" 29 "TextureBankModel" : Cond) ∈ tbB := tbB_in (List.mem_append_right _ (List.mem_of_getElem? (i := 316) (by decide +kernel))) (by decide +kernel)
theorem wd_317 : (Cond.instantiable "TextureBankModel" 10 : Cond) ∈ tbB := tbB_in (List.mem_append_right _ (List.mem_of_getElem? (i := 317) (by decide +kernel))) (by decide +kernel)
theorem wd_318 : (Cond.methodLink "TextureBankLaw" 31 ⟨"TextureBankModel", "<init>", "()V"⟩ : Cond) ∈ tbB := tbB_in (List.mem_append_right _ (List.mem_of_getElem? (i := 318) (by decide +kernel))) (by decide +kernel)
theorem wd_319 : (Cond.instanceMethod ⟨"TextureBankModel", "<init>", "()V"⟩ : Cond) ∈ tbB := tbB_in (List.mem_append_right _ (List.mem_of_getElem? (i := 319) (by decide +kernel))) (by decide +kernel)
theorem wd_320 : (Cond.code ⟨"TextureBankModel", "<init>", "()V"⟩ prog_4_method_1_code 1 (Option.none : Option FieldType) : Cond) ∈ tbB := tbB_in (List.mem_append_right _ (List.mem_of_getElem? (i := 320) (by decide +kernel))) (by decide +kernel)
theorem wd_321 : (Cond.methodLink "TextureBankModel" 1 ⟨"java/lang/Object", "<init>", "()V"⟩ : Cond) ∈ tbB := tbB_in (List.mem_append_right _ (List.mem_of_getElem? (i := 321) (by decide +kernel))) (by decide +kernel)
theorem wd_322 : (Cond.fieldLink "TextureBankModel" 28 "TextureBankModel" "thrown" "I" : Cond) ∈ tbB := tbB_in (List.mem_append_right _ (List.mem_of_getElem? (i := 322) (by decide +kernel))) (by decide +kernel)
theorem wd_323 : (Cond.fieldLink "TextureBankModel" 40 "TextureBankModel" "many" "I" : Cond) ∈ tbB := tbB_in (List.mem_append_right _ (List.mem_of_getElem? (i := 323) (by decide +kernel))) (by decide +kernel)
theorem wd_324 : (Cond.fieldLink "TextureBankModel" 7 "TextureBankModel" "sides" "[I" : Cond) ∈ tbB := tbB_in (List.mem_append_right _ (List.mem_of_getElem? (i := 324) (by decide +kernel))) (by decide +kernel)
theorem wd_325 : (Cond.fieldLink "TextureBankModel" 13 "TextureBankModel" "wraps" "[I" : Cond) ∈ tbB := tbB_in (List.mem_append_right _ (List.mem_of_getElem? (i := 325) (by decide +kernel))) (by decide +kernel)
theorem wd_326 : (Cond.fieldLink "TextureBankModel" 16 "TextureBankModel" "softs" "[I" : Cond) ∈ tbB := tbB_in (List.mem_append_right _ (List.mem_of_getElem? (i := 326) (by decide +kernel))) (by decide +kernel)
theorem wd_327 : (Cond.fieldLink "TextureBankModel" 19 "TextureBankModel" "texels" "[I" : Cond) ∈ tbB := tbB_in (List.mem_append_right _ (List.mem_of_getElem? (i := 327) (by decide +kernel))) (by decide +kernel)
theorem wd_328 : (Cond.fieldLink "TextureBankModel" 36 "TextureBankModel" "size" "I" : Cond) ∈ tbB := tbB_in (List.mem_append_right _ (List.mem_of_getElem? (i := 328) (by decide +kernel))) (by decide +kernel)
theorem wd_329 : (Cond.fieldLink "TextureBankModel" 22 "TextureBankModel" "text" "[I" : Cond) ∈ tbB := tbB_in (List.mem_append_right _ (List.mem_of_getElem? (i := 329) (by decide +kernel))) (by decide +kernel)
theorem wd_330 : (Cond.fieldLink "TextureBankModel" 25 "TextureBankModel" "made" "[I" : Cond) ∈ tbB := tbB_in (List.mem_append_right _ (List.mem_of_getElem? (i := 330) (by decide +kernel))) (by decide +kernel)
theorem wd_331 : (Cond.fieldLink "TextureBankModel" 43 "TextureBankModel" "side" "I" : Cond) ∈ tbB := tbB_in (List.mem_append_right _ (List.mem_of_getElem? (i := 331) (by decide +kernel))) (by decide +kernel)
theorem wd_332 : (Cond.lays "TextureBankModel" "TextureBankModel" "thrown" "I" : Cond) ∈ tbB := tbB_in (List.mem_append_right _ (List.mem_of_getElem? (i := 332) (by decide +kernel))) (by decide +kernel)
theorem wd_333 : (Cond.soleField "TextureBankModel" "thrown" : Cond) ∈ tbB := tbB_in (List.mem_append_right _ (List.mem_of_getElem? (i := 333) (by decide +kernel))) (by decide +kernel)
theorem wd_334 : (Cond.lays "TextureBankModel" "TextureBankModel" "many" "I" : Cond) ∈ tbB := tbB_in (List.mem_append_right _ (List.mem_of_getElem? (i := 334) (by decide +kernel))) (by decide +kernel)
theorem wd_335 : (Cond.soleField "TextureBankModel" "many" : Cond) ∈ tbB := tbB_in (List.mem_append_right _ (List.mem_of_getElem? (i := 335) (by decide +kernel))) (by decide +kernel)
theorem wd_336 : (Cond.laysFinal "TextureBankModel" "TextureBankModel" "sides" "[I" : Cond) ∈ tbB := tbB_in (List.mem_append_right _ (List.mem_of_getElem? (i := 336) (by decide +kernel))) (by decide +kernel)
theorem wd_337 : (Cond.soleField "TextureBankModel" "sides" : Cond) ∈ tbB := tbB_in (List.mem_append_right _ (List.mem_of_getElem? (i := 337) (by decide +kernel))) (by decide +kernel)
theorem wd_338 : (Cond.laysFinal "TextureBankModel" "TextureBankModel" "wraps" "[I" : Cond) ∈ tbB := tbB_in (List.mem_append_right _ (List.mem_of_getElem? (i := 338) (by decide +kernel))) (by decide +kernel)
theorem wd_339 : (Cond.soleField "TextureBankModel" "wraps" : Cond) ∈ tbB := tbB_in (List.mem_append_right _ (List.mem_of_getElem? (i := 339) (by decide +kernel))) (by decide +kernel)
theorem wd_340 : (Cond.laysFinal "TextureBankModel" "TextureBankModel" "softs" "[I" : Cond) ∈ tbB := tbB_in (List.mem_append_right _ (List.mem_of_getElem? (i := 340) (by decide +kernel))) (by decide +kernel)
theorem wd_341 : (Cond.soleField "TextureBankModel" "softs" : Cond) ∈ tbB := tbB_in (List.mem_append_right _ (List.mem_of_getElem? (i := 341) (by decide +kernel))) (by decide +kernel)
theorem wd_342 : (Cond.laysFinal "TextureBankModel" "TextureBankModel" "texels" "[I" : Cond) ∈ tbB := tbB_in (List.mem_append_right _ (List.mem_of_getElem? (i := 342) (by decide +kernel))) (by decide +kernel)
theorem wd_343 : (Cond.soleField "TextureBankModel" "texels" : Cond) ∈ tbB := tbB_in (List.mem_append_right _ (List.mem_of_getElem? (i := 343) (by decide +kernel))) (by decide +kernel)
theorem wd_344 : (Cond.lays "TextureBankModel" "TextureBankModel" "size" "I" : Cond) ∈ tbB := tbB_in (List.mem_append_right _ (List.mem_of_getElem? (i := 344) (by decide +kernel))) (by decide +kernel)
theorem wd_345 : (Cond.soleField "TextureBankModel" "size" : Cond) ∈ tbB := tbB_in (List.mem_append_right _ (List.mem_of_getElem? (i := 345) (by decide +kernel))) (by decide +kernel)
theorem wd_346 : (Cond.laysFinal "TextureBankModel" "TextureBankModel" "text" "[I" : Cond) ∈ tbB := tbB_in (List.mem_append_right _ (List.mem_of_getElem? (i := 346) (by decide +kernel))) (by decide +kernel)
theorem wd_347 : (Cond.soleField "TextureBankModel" "text" : Cond) ∈ tbB := tbB_in (List.mem_append_right _ (List.mem_of_getElem? (i := 347) (by decide +kernel))) (by decide +kernel)
theorem wd_348 : (Cond.laysFinal "TextureBankModel" "TextureBankModel" "made" "[I" : Cond) ∈ tbB := tbB_in (List.mem_append_right _ (List.mem_of_getElem? (i := 348) (by decide +kernel))) (by decide +kernel)
theorem wd_349 : (Cond.soleField "TextureBankModel" "made" : Cond) ∈ tbB := tbB_in (List.mem_append_right _ (List.mem_of_getElem? (i := 349) (by decide +kernel))) (by decide +kernel)
theorem wd_350 : (Cond.lays "TextureBankModel" "TextureBankModel" "side" "I" : Cond) ∈ tbB := tbB_in (List.mem_append_right _ (List.mem_of_getElem? (i := 350) (by decide +kernel))) (by decide +kernel)
theorem wd_351 : (Cond.soleField "TextureBankModel" "side" : Cond) ∈ tbB := tbB_in (List.mem_append_right _ (List.mem_of_getElem? (i := 351) (by decide +kernel))) (by decide +kernel)
theorem wd_352 : (Cond.superclass "TextureBankModel" "java/lang/Object" : Cond) ∈ tbB := tbB_in (List.mem_append_right _ (List.mem_of_getElem? (i := 352) (by decide +kernel))) (by decide +kernel)
theorem wd_353 : (Cond.methodLink "TextureBankLaw" 52 ⟨"TextureBankModel", "thrown", "()I"⟩ : Cond) ∈ tbB := tbB_in (List.mem_append_right _ (List.mem_of_getElem? (i := 353) (by decide +kernel))) (by decide +kernel)
theorem wd_354 : (Cond.instanceMethod ⟨"TextureBankModel", "thrown", "()I"⟩ : Cond) ∈ tbB := tbB_in (List.mem_append_right _ (List.mem_of_getElem? (i := 354) (by decide +kernel))) (by decide +kernel)
theorem wd_355 : (Cond.selects "TextureBankModel" ⟨"TextureBankModel", "thrown", "()I"⟩ ⟨"TextureBankModel", "thrown", "()I"⟩ : Cond) ∈ tbB := tbB_in (List.mem_append_right _ (List.mem_of_getElem? (i := 355) (by decide +kernel))) (by decide +kernel)
theorem wd_356 : (Cond.code ⟨"TextureBankModel", "thrown", "()I"⟩ prog_4_method_2_code 1 (Option.some FieldType.int) : Cond) ∈ tbB := tbB_in (List.mem_append_right _ (List.mem_of_getElem? (i := 356) (by decide +kernel))) (by decide +kernel)
theorem wd_357 : (Cond.methodLink "TextureBankLaw" 35 ⟨"TextureBankModel", "put", "(III)I"⟩ : Cond) ∈ tbB := tbB_in (List.mem_append_right _ (List.mem_of_getElem? (i := 357) (by decide +kernel))) (by decide +kernel)
theorem wd_358 : (Cond.instanceMethod ⟨"TextureBankModel", "put", "(III)I"⟩ : Cond) ∈ tbB := tbB_in (List.mem_append_right _ (List.mem_of_getElem? (i := 358) (by decide +kernel))) (by decide +kernel)
theorem wd_359 : (Cond.selects "TextureBankModel" ⟨"TextureBankModel", "put", "(III)I"⟩ ⟨"TextureBankModel", "put", "(III)I"⟩ : Cond) ∈ tbB := tbB_in (List.mem_append_right _ (List.mem_of_getElem? (i := 359) (by decide +kernel))) (by decide +kernel)
theorem wd_360 : (Cond.code ⟨"TextureBankModel", "put", "(III)I"⟩ prog_4_method_4_code 4 (Option.some FieldType.int) : Cond) ∈ tbB := tbB_in (List.mem_append_right _ (List.mem_of_getElem? (i := 360) (by decide +kernel))) (by decide +kernel)
theorem wd_361 : (Cond.methodLink "TextureBankModel" 32 ⟨"TextureBankModel", "isNumber", "(I)Z"⟩ : Cond) ∈ tbB := tbB_in (List.mem_append_right _ (List.mem_of_getElem? (i := 361) (by decide +kernel))) (by decide +kernel)
theorem wd_362 : (Cond.static ⟨"TextureBankModel", "isNumber", "(I)Z"⟩ : Cond) ∈ tbB := tbB_in (List.mem_append_right _ (List.mem_of_getElem? (i := 362) (by decide +kernel))) (by decide +kernel)
theorem wd_363 : (Cond.code ⟨"TextureBankModel", "isNumber", "(I)Z"⟩ prog_4_method_3_code 1 (Option.some FieldType.boolean) : Cond) ∈ tbB := tbB_in (List.mem_append_right _ (List.mem_of_getElem? (i := 363) (by decide +kernel))) (by decide +kernel)
theorem wd_364 : (Cond.constant "TextureBankModel" 39 (65536 : Int32) : Cond) ∈ tbB := tbB_in (List.mem_append_right _ (List.mem_of_getElem? (i := 364) (by decide +kernel))) (by decide +kernel)
theorem wd_365 : (Cond.methodLink "TextureBankLaw" 39 ⟨"TextureBankModel", "add", "(III)I"⟩ : Cond) ∈ tbB := tbB_in (List.mem_append_right _ (List.mem_of_getElem? (i := 365) (by decide +kernel))) (by decide +kernel)
theorem wd_366 : (Cond.instanceMethod ⟨"TextureBankModel", "add", "(III)I"⟩ : Cond) ∈ tbB := tbB_in (List.mem_append_right _ (List.mem_of_getElem? (i := 366) (by decide +kernel))) (by decide +kernel)
theorem wd_367 : (Cond.selects "TextureBankModel" ⟨"TextureBankModel", "add", "(III)I"⟩ ⟨"TextureBankModel", "add", "(III)I"⟩ : Cond) ∈ tbB := tbB_in (List.mem_append_right _ (List.mem_of_getElem? (i := 367) (by decide +kernel))) (by decide +kernel)
theorem wd_368 : (Cond.code ⟨"TextureBankModel", "add", "(III)I"⟩ prog_4_method_5_code 7 (Option.some FieldType.int) : Cond) ∈ tbB := tbB_in (List.mem_append_right _ (List.mem_of_getElem? (i := 368) (by decide +kernel))) (by decide +kernel)
theorem wd_369 : (Cond.methodLink "TextureBankLaw" 43 ⟨"TextureBankModel", "clear", "()V"⟩ : Cond) ∈ tbB := tbB_in (List.mem_append_right _ (List.mem_of_getElem? (i := 369) (by decide +kernel))) (by decide +kernel)
theorem wd_370 : (Cond.instanceMethod ⟨"TextureBankModel", "clear", "()V"⟩ : Cond) ∈ tbB := tbB_in (List.mem_append_right _ (List.mem_of_getElem? (i := 370) (by decide +kernel))) (by decide +kernel)
theorem wd_371 : (Cond.selects "TextureBankModel" ⟨"TextureBankModel", "clear", "()V"⟩ ⟨"TextureBankModel", "clear", "()V"⟩ : Cond) ∈ tbB := tbB_in (List.mem_append_right _ (List.mem_of_getElem? (i := 371) (by decide +kernel))) (by decide +kernel)
theorem wd_372 : (Cond.code ⟨"TextureBankModel", "clear", "()V"⟩ prog_4_method_6_code 1 (Option.none : Option FieldType) : Cond) ∈ tbB := tbB_in (List.mem_append_right _ (List.mem_of_getElem? (i := 372) (by decide +kernel))) (by decide +kernel)
theorem wd_373 : (Cond.methodLink "TextureBankLaw" 51 ⟨"TextureBankModel", "level", "(IJI)I"⟩ : Cond) ∈ tbB := tbB_in (List.mem_append_right _ (List.mem_of_getElem? (i := 373) (by decide +kernel))) (by decide +kernel)
theorem wd_374 : (Cond.instanceMethod ⟨"TextureBankModel", "level", "(IJI)I"⟩ : Cond) ∈ tbB := tbB_in (List.mem_append_right _ (List.mem_of_getElem? (i := 374) (by decide +kernel))) (by decide +kernel)
theorem wd_375 : (Cond.selects "TextureBankModel" ⟨"TextureBankModel", "level", "(IJI)I"⟩ ⟨"TextureBankModel", "level", "(IJI)I"⟩ : Cond) ∈ tbB := tbB_in (List.mem_append_right _ (List.mem_of_getElem? (i := 375) (by decide +kernel))) (by decide +kernel)
theorem wd_376 : (Cond.code ⟨"TextureBankModel", "level", "(IJI)I"⟩ prog_4_method_12_code 10 (Option.some FieldType.int) : Cond) ∈ tbB := tbB_in (List.mem_append_right _ (List.mem_of_getElem? (i := 376) (by decide +kernel))) (by decide +kernel)
theorem wd_377 : (Cond.methodLink "TextureBankModel" 53 ⟨"TextureBankModel", "isThere", "(I)Z"⟩ : Cond) ∈ tbB := tbB_in (List.mem_append_right _ (List.mem_of_getElem? (i := 377) (by decide +kernel))) (by decide +kernel)
theorem wt_378 : (Cond.privateMethod ⟨"TextureBankModel", "isThere", "(I)Z"⟩ : Cond) ∈ lw_tbl := List.mem_append_right _ (List.mem_of_getElem? (i := 378) (by decide +kernel))
theorem wd_379 : (Cond.instanceMethod ⟨"TextureBankModel", "isThere", "(I)Z"⟩ : Cond) ∈ tbB := tbB_in (List.mem_append_right _ (List.mem_of_getElem? (i := 379) (by decide +kernel))) (by decide +kernel)
theorem wd_380 : (Cond.code ⟨"TextureBankModel", "isThere", "(I)Z"⟩ prog_4_method_7_code 2 (Option.some FieldType.boolean) : Cond) ∈ tbB := tbB_in (List.mem_append_right _ (List.mem_of_getElem? (i := 380) (by decide +kernel))) (by decide +kernel)
theorem wd_381 : (Cond.constantLong "TextureBankModel" 56 (1099511627776 : Int64) : Cond) ∈ tbB := tbB_in (List.mem_append_right _ (List.mem_of_getElem? (i := 381) (by decide +kernel))) (by decide +kernel)
theorem wd_382 : (Cond.constant "TextureBankModel" 58 (16777216 : Int32) : Cond) ∈ tbB := tbB_in (List.mem_append_right _ (List.mem_of_getElem? (i := 382) (by decide +kernel))) (by decide +kernel)
theorem wd_383 : (Cond.constantLong "TextureBankModel" 59 (16777216 : Int64) : Cond) ∈ tbB := tbB_in (List.mem_append_right _ (List.mem_of_getElem? (i := 383) (by decide +kernel))) (by decide +kernel)
theorem wd_384 : (Cond.methodLink "TextureBankModel" 61 ⟨"TextureBankModel", "last", "(I)I"⟩ : Cond) ∈ tbB := tbB_in (List.mem_append_right _ (List.mem_of_getElem? (i := 384) (by decide +kernel))) (by decide +kernel)
theorem wt_385 : (Cond.privateMethod ⟨"TextureBankModel", "last", "(I)I"⟩ : Cond) ∈ lw_tbl := List.mem_append_right _ (List.mem_of_getElem? (i := 385) (by decide +kernel))
theorem wd_386 : (Cond.instanceMethod ⟨"TextureBankModel", "last", "(I)I"⟩ : Cond) ∈ tbB := tbB_in (List.mem_append_right _ (List.mem_of_getElem? (i := 386) (by decide +kernel))) (by decide +kernel)
theorem wd_387 : (Cond.code ⟨"TextureBankModel", "last", "(I)I"⟩ prog_4_method_8_code 4 (Option.some FieldType.int) : Cond) ∈ tbB := tbB_in (List.mem_append_right _ (List.mem_of_getElem? (i := 387) (by decide +kernel))) (by decide +kernel)
theorem wd_388 : (Cond.constantLong "TextureBankModel" 65 (4 : Int64) : Cond) ∈ tbB := tbB_in (List.mem_append_right _ (List.mem_of_getElem? (i := 388) (by decide +kernel))) (by decide +kernel)
theorem wd_389 : (Cond.methodLink "TextureBankLaw" 59 ⟨"TextureBankModel", "lookUp", "(IIII)I"⟩ : Cond) ∈ tbB := tbB_in (List.mem_append_right _ (List.mem_of_getElem? (i := 389) (by decide +kernel))) (by decide +kernel)
theorem wd_390 : (Cond.instanceMethod ⟨"TextureBankModel", "lookUp", "(IIII)I"⟩ : Cond) ∈ tbB := tbB_in (List.mem_append_right _ (List.mem_of_getElem? (i := 390) (by decide +kernel))) (by decide +kernel)
theorem wd_391 : (Cond.selects "TextureBankModel" ⟨"TextureBankModel", "lookUp", "(IIII)I"⟩ ⟨"TextureBankModel", "lookUp", "(IIII)I"⟩ : Cond) ∈ tbB := tbB_in (List.mem_append_right _ (List.mem_of_getElem? (i := 391) (by decide +kernel))) (by decide +kernel)
theorem wd_392 : (Cond.code ⟨"TextureBankModel", "lookUp", "(IIII)I"⟩ prog_4_method_17_code 12 (Option.some FieldType.int) : Cond) ∈ tbB := tbB_in (List.mem_append_right _ (List.mem_of_getElem? (i := 392) (by decide +kernel))) (by decide +kernel)
theorem wd_393 : (Cond.methodLink "TextureBankModel" 82 ⟨"TextureBankModel", "isPlace", "(I)Z"⟩ : Cond) ∈ tbB := tbB_in (List.mem_append_right _ (List.mem_of_getElem? (i := 393) (by decide +kernel))) (by decide +kernel)
theorem wd_394 : (Cond.static ⟨"TextureBankModel", "isPlace", "(I)Z"⟩ : Cond) ∈ tbB := tbB_in (List.mem_append_right _ (List.mem_of_getElem? (i := 394) (by decide +kernel))) (by decide +kernel)
theorem wd_395 : (Cond.code ⟨"TextureBankModel", "isPlace", "(I)Z"⟩ prog_4_method_16_code 1 (Option.some FieldType.boolean) : Cond) ∈ tbB := tbB_in (List.mem_append_right _ (List.mem_of_getElem? (i := 395) (by decide +kernel))) (by decide +kernel)
theorem wd_396 : (Cond.constant "TextureBankModel" 81 (-16777216 : Int32) : Cond) ∈ tbB := tbB_in (List.mem_append_right _ (List.mem_of_getElem? (i := 396) (by decide +kernel))) (by decide +kernel)
theorem wd_397 : (Cond.methodLink "TextureBankModel" 85 ⟨"TextureBankModel", "makes", "(II)V"⟩ : Cond) ∈ tbB := tbB_in (List.mem_append_right _ (List.mem_of_getElem? (i := 397) (by decide +kernel))) (by decide +kernel)
theorem wt_398 : (Cond.privateMethod ⟨"TextureBankModel", "makes", "(II)V"⟩ : Cond) ∈ lw_tbl := List.mem_append_right _ (List.mem_of_getElem? (i := 398) (by decide +kernel))
theorem wd_399 : (Cond.instanceMethod ⟨"TextureBankModel", "makes", "(II)V"⟩ : Cond) ∈ tbB := tbB_in (List.mem_append_right _ (List.mem_of_getElem? (i := 399) (by decide +kernel))) (by decide +kernel)
theorem wd_400 : (Cond.code ⟨"TextureBankModel", "makes", "(II)V"⟩ prog_4_method_11_code 4 (Option.none : Option FieldType) : Cond) ∈ tbB := tbB_in (List.mem_append_right _ (List.mem_of_getElem? (i := 400) (by decide +kernel))) (by decide +kernel)
theorem wd_401 : (Cond.methodLink "TextureBankModel" 50 ⟨"TextureBankModel", "halve", "()V"⟩ : Cond) ∈ tbB := tbB_in (List.mem_append_right _ (List.mem_of_getElem? (i := 401) (by decide +kernel))) (by decide +kernel)
theorem wt_402 : (Cond.privateMethod ⟨"TextureBankModel", "halve", "()V"⟩ : Cond) ∈ lw_tbl := List.mem_append_right _ (List.mem_of_getElem? (i := 402) (by decide +kernel))
theorem wd_403 : (Cond.instanceMethod ⟨"TextureBankModel", "halve", "()V"⟩ : Cond) ∈ tbB := tbB_in (List.mem_append_right _ (List.mem_of_getElem? (i := 403) (by decide +kernel))) (by decide +kernel)
theorem wd_404 : (Cond.code ⟨"TextureBankModel", "halve", "()V"⟩ prog_4_method_10_code 8 (Option.none : Option FieldType) : Cond) ∈ tbB := tbB_in (List.mem_append_right _ (List.mem_of_getElem? (i := 404) (by decide +kernel))) (by decide +kernel)
theorem wd_405 : (Cond.methodLink "TextureBankModel" 46 ⟨"TextureBankModel", "part", "(II)I"⟩ : Cond) ∈ tbB := tbB_in (List.mem_append_right _ (List.mem_of_getElem? (i := 405) (by decide +kernel))) (by decide +kernel)
theorem wd_406 : (Cond.static ⟨"TextureBankModel", "part", "(II)I"⟩ : Cond) ∈ tbB := tbB_in (List.mem_append_right _ (List.mem_of_getElem? (i := 406) (by decide +kernel))) (by decide +kernel)
theorem wd_407 : (Cond.code ⟨"TextureBankModel", "part", "(II)I"⟩ prog_4_method_9_code 2 (Option.some FieldType.int) : Cond) ∈ tbB := tbB_in (List.mem_append_right _ (List.mem_of_getElem? (i := 407) (by decide +kernel))) (by decide +kernel)
theorem wd_408 : (Cond.constantLong "TextureBankModel" 89 (32768 : Int64) : Cond) ∈ tbB := tbB_in (List.mem_append_right _ (List.mem_of_getElem? (i := 408) (by decide +kernel))) (by decide +kernel)
theorem wd_409 : (Cond.methodLink "TextureBankModel" 91 ⟨"TextureBankModel", "soft", "(IJJ)I"⟩ : Cond) ∈ tbB := tbB_in (List.mem_append_right _ (List.mem_of_getElem? (i := 409) (by decide +kernel))) (by decide +kernel)
theorem wt_410 : (Cond.privateMethod ⟨"TextureBankModel", "soft", "(IJJ)I"⟩ : Cond) ∈ lw_tbl := List.mem_append_right _ (List.mem_of_getElem? (i := 410) (by decide +kernel))
theorem wd_411 : (Cond.instanceMethod ⟨"TextureBankModel", "soft", "(IJJ)I"⟩ : Cond) ∈ tbB := tbB_in (List.mem_append_right _ (List.mem_of_getElem? (i := 411) (by decide +kernel))) (by decide +kernel)
theorem wd_412 : (Cond.code ⟨"TextureBankModel", "soft", "(IJJ)I"⟩ prog_4_method_15_code 21 (Option.some FieldType.int) : Cond) ∈ tbB := tbB_in (List.mem_append_right _ (List.mem_of_getElem? (i := 412) (by decide +kernel))) (by decide +kernel)
theorem wd_413 : (Cond.constantLong "TextureBankModel" 73 (65536 : Int64) : Cond) ∈ tbB := tbB_in (List.mem_append_right _ (List.mem_of_getElem? (i := 413) (by decide +kernel))) (by decide +kernel)
theorem wd_414 : (Cond.methodLink "TextureBankModel" 67 ⟨"TextureBankModel", "div", "(JJ)J"⟩ : Cond) ∈ tbB := tbB_in (List.mem_append_right _ (List.mem_of_getElem? (i := 414) (by decide +kernel))) (by decide +kernel)
theorem wd_415 : (Cond.static ⟨"TextureBankModel", "div", "(JJ)J"⟩ : Cond) ∈ tbB := tbB_in (List.mem_append_right _ (List.mem_of_getElem? (i := 415) (by decide +kernel))) (by decide +kernel)
theorem wd_416 : (Cond.code ⟨"TextureBankModel", "div", "(JJ)J"⟩ prog_4_method_13_code 6 (Option.some FieldType.long) : Cond) ∈ tbB := tbB_in (List.mem_append_right _ (List.mem_of_getElem? (i := 416) (by decide +kernel))) (by decide +kernel)
theorem wd_417 : (Cond.constantLong "TextureBankModel" 75 (256 : Int64) : Cond) ∈ tbB := tbB_in (List.mem_append_right _ (List.mem_of_getElem? (i := 417) (by decide +kernel))) (by decide +kernel)
theorem wd_418 : (Cond.methodLink "TextureBankModel" 77 ⟨"TextureBankModel", "into", "(IJ)I"⟩ : Cond) ∈ tbB := tbB_in (List.mem_append_right _ (List.mem_of_getElem? (i := 418) (by decide +kernel))) (by decide +kernel)
theorem wt_419 : (Cond.privateMethod ⟨"TextureBankModel", "into", "(IJ)I"⟩ : Cond) ∈ lw_tbl := List.mem_append_right _ (List.mem_of_getElem? (i := 419) (by decide +kernel))
theorem wd_420 : (Cond.instanceMethod ⟨"TextureBankModel", "into", "(IJ)I"⟩ : Cond) ∈ tbB := tbB_in (List.mem_append_right _ (List.mem_of_getElem? (i := 420) (by decide +kernel))) (by decide +kernel)
theorem wd_421 : (Cond.code ⟨"TextureBankModel", "into", "(IJ)I"⟩ prog_4_method_14_code 8 (Option.some FieldType.int) : Cond) ∈ tbB := tbB_in (List.mem_append_right _ (List.mem_of_getElem? (i := 421) (by decide +kernel))) (by decide +kernel)
theorem wd_422 : (Cond.constantLong "TextureBankModel" 71 (2 : Int64) : Cond) ∈ tbB := tbB_in (List.mem_append_right _ (List.mem_of_getElem? (i := 422) (by decide +kernel))) (by decide +kernel)
theorem wd_423 : (Cond.methodLink "TextureBankLaw" 62 ⟨"TextureBankModel", "texel", "(IIII)I"⟩ : Cond) ∈ tbB := tbB_in (List.mem_append_right _ (List.mem_of_getElem? (i := 423) (by decide +kernel))) (by decide +kernel)
theorem wd_424 : (Cond.instanceMethod ⟨"TextureBankModel", "texel", "(IIII)I"⟩ : Cond) ∈ tbB := tbB_in (List.mem_append_right _ (List.mem_of_getElem? (i := 424) (by decide +kernel))) (by decide +kernel)
theorem wd_425 : (Cond.selects "TextureBankModel" ⟨"TextureBankModel", "texel", "(IIII)I"⟩ ⟨"TextureBankModel", "texel", "(IIII)I"⟩ : Cond) ∈ tbB := tbB_in (List.mem_append_right _ (List.mem_of_getElem? (i := 425) (by decide +kernel))) (by decide +kernel)
theorem wd_426 : (Cond.code ⟨"TextureBankModel", "texel", "(IIII)I"⟩ prog_4_method_18_code 5 (Option.some FieldType.int) : Cond) ∈ tbB := tbB_in (List.mem_append_right _ (List.mem_of_getElem? (i := 426) (by decide +kernel))) (by decide +kernel)
theorem wd_427 : (Cond.methodLink "TextureBankLaw" 66 ⟨"TextureBankModel", "lit", "(III)I"⟩ : Cond) ∈ tbB := tbB_in (List.mem_append_right _ (List.mem_of_getElem? (i := 427) (by decide +kernel))) (by decide +kernel)
theorem wd_428 : (Cond.instanceMethod ⟨"TextureBankModel", "lit", "(III)I"⟩ : Cond) ∈ tbB := tbB_in (List.mem_append_right _ (List.mem_of_getElem? (i := 428) (by decide +kernel))) (by decide +kernel)
theorem wd_429 : (Cond.selects "TextureBankModel" ⟨"TextureBankModel", "lit", "(III)I"⟩ ⟨"TextureBankModel", "lit", "(III)I"⟩ : Cond) ∈ tbB := tbB_in (List.mem_append_right _ (List.mem_of_getElem? (i := 429) (by decide +kernel))) (by decide +kernel)
theorem wd_430 : (Cond.code ⟨"TextureBankModel", "lit", "(III)I"⟩ prog_4_method_19_code 9 (Option.some FieldType.int) : Cond) ∈ tbB := tbB_in (List.mem_append_right _ (List.mem_of_getElem? (i := 430) (by decide +kernel))) (by decide +kernel)
theorem wd_431 : (Cond.methodLink "TextureBankLaw" 71 ⟨"TextureBankModel", "about", "(II)I"⟩ : Cond) ∈ tbB := tbB_in (List.mem_append_right _ (List.mem_of_getElem? (i := 431) (by decide +kernel))) (by decide +kernel)
theorem wd_432 : (Cond.instanceMethod ⟨"TextureBankModel", "about", "(II)I"⟩ : Cond) ∈ tbB := tbB_in (List.mem_append_right _ (List.mem_of_getElem? (i := 432) (by decide +kernel))) (by decide +kernel)
theorem wd_433 : (Cond.selects "TextureBankModel" ⟨"TextureBankModel", "about", "(II)I"⟩ ⟨"TextureBankModel", "about", "(II)I"⟩ : Cond) ∈ tbB := tbB_in (List.mem_append_right _ (List.mem_of_getElem? (i := 433) (by decide +kernel))) (by decide +kernel)
theorem wd_434 : (Cond.code ⟨"TextureBankModel", "about", "(II)I"⟩ prog_4_method_20_code 3 (Option.some FieldType.int) : Cond) ∈ tbB := tbB_in (List.mem_append_right _ (List.mem_of_getElem? (i := 434) (by decide +kernel))) (by decide +kernel)
theorem wd_435 : (Cond.methodLink "TextureBankLaw" 76 ⟨"TextureBankModel", "count", "(I)I"⟩ : Cond) ∈ tbB := tbB_in (List.mem_append_right _ (List.mem_of_getElem? (i := 435) (by decide +kernel))) (by decide +kernel)
theorem wd_436 : (Cond.instanceMethod ⟨"TextureBankModel", "count", "(I)I"⟩ : Cond) ∈ tbB := tbB_in (List.mem_append_right _ (List.mem_of_getElem? (i := 436) (by decide +kernel))) (by decide +kernel)
theorem wd_437 : (Cond.selects "TextureBankModel" ⟨"TextureBankModel", "count", "(I)I"⟩ ⟨"TextureBankModel", "count", "(I)I"⟩ : Cond) ∈ tbB := tbB_in (List.mem_append_right _ (List.mem_of_getElem? (i := 437) (by decide +kernel))) (by decide +kernel)
theorem wd_438 : (Cond.code ⟨"TextureBankModel", "count", "(I)I"⟩ prog_4_method_21_code 2 (Option.some FieldType.int) : Cond) ∈ tbB := tbB_in (List.mem_append_right _ (List.mem_of_getElem? (i := 438) (by decide +kernel))) (by decide +kernel)
theorem wd_439 : (Cond.constantLong "TextureBankLaw" 44 (4294967295 : Int64) : Cond) ∈ tbB := tbB_in (List.mem_append_right _ (List.mem_of_getElem? (i := 439) (by decide +kernel))) (by decide +kernel)
theorem wd_440 : (Cond.arrayClass FieldType.long : Cond) ∈ tbB := tbB_in (List.mem_append_right _ (List.mem_of_getElem? (i := 440) (by decide +kernel))) (by decide +kernel)
theorem wd_441 : (Cond.sameMethod "java/lang/Throwable" "java/lang/Throwable" "fillInStackTrace" "(I)Ljava/lang/Throwable;" : Cond) ∈ tbB := tbB_in (List.mem_append_right _ (List.mem_of_getElem? (i := 441) (by decide +kernel))) (by decide +kernel)
theorem ws_0 : (Cond.selects "TextureBank$Texture" ⟨"TextureBank$Texture", "fill", "([IIII)V"⟩ ⟨"TextureBank$Texture", "fill", "([IIII)V"⟩ : Cond) ∈ tbB := tbB_in (List.mem_append_left _ (List.mem_of_getElem? (i := 0) (by decide +kernel))) (by decide +kernel)
theorem ws_1 : (Cond.selects "TextureBank$Texture" ⟨"TextureBank$Texture", "fillFromDouble", "(I)V"⟩ ⟨"TextureBank$Texture", "fillFromDouble", "(I)V"⟩ : Cond) ∈ tbB := tbB_in (List.mem_append_left _ (List.mem_of_getElem? (i := 1) (by decide +kernel))) (by decide +kernel)
theorem ws_2 : (Cond.selects "TextureBank$Texture" ⟨"TextureBank$Texture", "meanOfFour", "(III)I"⟩ ⟨"TextureBank$Texture", "meanOfFour", "(III)I"⟩ : Cond) ∈ tbB := tbB_in (List.mem_append_left _ (List.mem_of_getElem? (i := 2) (by decide +kernel))) (by decide +kernel)
theorem ws_3 : (Cond.selects "TextureBank$Texture" ⟨"TextureBank$Texture", "colourIn", "(III)I"⟩ ⟨"TextureBank$Texture", "colourIn", "(III)I"⟩ : Cond) ∈ tbB := tbB_in (List.mem_append_left _ (List.mem_of_getElem? (i := 3) (by decide +kernel))) (by decide +kernel)
theorem ws_4 : (Cond.selects "TextureBank" ⟨"TextureBank", "find", "(I)LTextureBank$Texture;"⟩ ⟨"TextureBank", "find", "(I)LTextureBank$Texture;"⟩ : Cond) ∈ tbB := tbB_in (List.mem_append_left _ (List.mem_of_getElem? (i := 4) (by decide +kernel))) (by decide +kernel)
theorem ws_5 : (Cond.selects "java/lang/Throwable" ⟨"java/lang/Throwable", "fillInStackTrace", "(I)Ljava/lang/Throwable;"⟩ ⟨"java/lang/Throwable", "fillInStackTrace", "(I)Ljava/lang/Throwable;"⟩ : Cond) ∈ tbB := tbB_in (List.mem_append_left _ (List.mem_of_getElem? (i := 5) (by decide +kernel))) (by decide +kernel)
theorem ws_6 : (Cond.selects "TextureBank$Texture" ⟨"TextureBank$Texture", "levelFor", "(JJ)I"⟩ ⟨"TextureBank$Texture", "levelFor", "(JJ)I"⟩ : Cond) ∈ tbB := tbB_in (List.mem_append_left _ (List.mem_of_getElem? (i := 6) (by decide +kernel))) (by decide +kernel)
theorem ws_7 : (Cond.selects "TextureBank$Texture" ⟨"TextureBank$Texture", "hasLevel", "(I)Z"⟩ ⟨"TextureBank$Texture", "hasLevel", "(I)Z"⟩ : Cond) ∈ tbB := tbB_in (List.mem_append_left _ (List.mem_of_getElem? (i := 7) (by decide +kernel))) (by decide +kernel)
theorem ws_8 : (Cond.selects "TextureBank$Texture" ⟨"TextureBank$Texture", "sideOf", "(I)I"⟩ ⟨"TextureBank$Texture", "sideOf", "(I)I"⟩ : Cond) ∈ tbB := tbB_in (List.mem_append_left _ (List.mem_of_getElem? (i := 8) (by decide +kernel))) (by decide +kernel)
theorem ws_9 : (Cond.selects "TextureBank$Texture" ⟨"TextureBank$Texture", "colourAt", "(IJJ)I"⟩ ⟨"TextureBank$Texture", "colourAt", "(IJJ)I"⟩ : Cond) ∈ tbB := tbB_in (List.mem_append_left _ (List.mem_of_getElem? (i := 9) (by decide +kernel))) (by decide +kernel)
theorem ws_10 : (Cond.selects "TextureBank$Texture" ⟨"TextureBank$Texture", "softColour", "(IJJ)I"⟩ ⟨"TextureBank$Texture", "softColour", "(IJJ)I"⟩ : Cond) ∈ tbB := tbB_in (List.mem_append_left _ (List.mem_of_getElem? (i := 10) (by decide +kernel))) (by decide +kernel)
theorem ws_11 : (Cond.selects "TextureBank$Texture" ⟨"TextureBank$Texture", "wrapped", "(JI)I"⟩ ⟨"TextureBank$Texture", "wrapped", "(JI)I"⟩ : Cond) ∈ tbB := tbB_in (List.mem_append_left _ (List.mem_of_getElem? (i := 11) (by decide +kernel))) (by decide +kernel)
theorem ws_12 : (Cond.selects "TextureBankModel" ⟨"TextureBankModel", "isThere", "(I)Z"⟩ ⟨"TextureBankModel", "isThere", "(I)Z"⟩ : Cond) ∈ tbB := tbB_in (List.mem_append_left _ (List.mem_of_getElem? (i := 12) (by decide +kernel))) (by decide +kernel)
theorem ws_13 : (Cond.selects "TextureBankModel" ⟨"TextureBankModel", "last", "(I)I"⟩ ⟨"TextureBankModel", "last", "(I)I"⟩ : Cond) ∈ tbB := tbB_in (List.mem_append_left _ (List.mem_of_getElem? (i := 13) (by decide +kernel))) (by decide +kernel)
theorem ws_14 : (Cond.selects "TextureBankModel" ⟨"TextureBankModel", "makes", "(II)V"⟩ ⟨"TextureBankModel", "makes", "(II)V"⟩ : Cond) ∈ tbB := tbB_in (List.mem_append_left _ (List.mem_of_getElem? (i := 14) (by decide +kernel))) (by decide +kernel)
theorem ws_15 : (Cond.selects "TextureBankModel" ⟨"TextureBankModel", "halve", "()V"⟩ ⟨"TextureBankModel", "halve", "()V"⟩ : Cond) ∈ tbB := tbB_in (List.mem_append_left _ (List.mem_of_getElem? (i := 15) (by decide +kernel))) (by decide +kernel)
theorem ws_16 : (Cond.selects "TextureBankModel" ⟨"TextureBankModel", "soft", "(IJJ)I"⟩ ⟨"TextureBankModel", "soft", "(IJJ)I"⟩ : Cond) ∈ tbB := tbB_in (List.mem_append_left _ (List.mem_of_getElem? (i := 16) (by decide +kernel))) (by decide +kernel)
theorem ws_17 : (Cond.selects "TextureBankModel" ⟨"TextureBankModel", "into", "(IJ)I"⟩ ⟨"TextureBankModel", "into", "(IJ)I"⟩ : Cond) ∈ tbB := tbB_in (List.mem_append_left _ (List.mem_of_getElem? (i := 17) (by decide +kernel))) (by decide +kernel)
end
section
theorem dB_init_0 : decode cB_init 0 = .ok (.aload_n 0, 1) := by decide +kernel
theorem dB_init_1 : decode cB_init 1 = .ok (.invokespecial 3, 3) := by decide +kernel
theorem dB_init_4 : decode cB_init 4 = .ok (.aload_n 0, 1) := by decide +kernel
theorem dB_init_5 : decode cB_init 5 = .ok (.sipush 1024, 3) := by decide +kernel
theorem dB_init_8 : decode cB_init 8 = .ok (.newarray .int, 2) := by decide +kernel
theorem dB_init_10 : decode cB_init 10 = .ok (.putfield 9, 3) := by decide +kernel
theorem dB_init_13 : decode cB_init 13 = .ok (.aload_n 0, 1) := by decide +kernel
theorem dB_init_14 : decode cB_init 14 = .ok (.iconst 0, 1) := by decide +kernel
theorem dB_init_15 : decode cB_init 15 = .ok (.putfield 13, 3) := by decide +kernel
theorem dB_init_18 : decode cB_init 18 = .ok (.aload_n 0, 1) := by decide +kernel
theorem dB_init_19 : decode cB_init 19 = .ok (.bipush 8, 2) := by decide +kernel
theorem dB_init_21 : decode cB_init 21 = .ok (.anewarray 17, 3) := by decide +kernel
theorem dB_init_24 : decode cB_init 24 = .ok (.putfield 19, 3) := by decide +kernel
theorem dB_init_27 : decode cB_init 27 = .ok (.iconst 0, 1) := by decide +kernel
theorem dB_init_28 : decode cB_init 28 = .ok (.istore_n 1, 1) := by decide +kernel
theorem dB_init_29 : decode cB_init 29 = .ok (.iload_n 1, 1) := by decide +kernel
theorem dB_init_30 : decode cB_init 30 = .ok (.bipush 8, 2) := by decide +kernel
theorem dB_init_32 : decode cB_init 32 = .ok (.if_icmp .ge 22, 3) := by decide +kernel
theorem dB_init_35 : decode cB_init 35 = .ok (.aload_n 0, 1) := by decide +kernel
theorem dB_init_36 : decode cB_init 36 = .ok (.getfield 19, 3) := by decide +kernel
theorem dB_init_39 : decode cB_init 39 = .ok (.iload_n 1, 1) := by decide +kernel
theorem dB_init_40 : decode cB_init 40 = .ok (.new 17, 3) := by decide +kernel
theorem dB_init_43 : decode cB_init 43 = .ok (.dup, 1) := by decide +kernel
theorem dB_init_44 : decode cB_init 44 = .ok (.invokespecial 23, 3) := by decide +kernel
theorem dB_init_47 : decode cB_init 47 = .ok (.aastore, 1) := by decide +kernel
theorem dB_init_48 : decode cB_init 48 = .ok (.iinc 1 1, 3) := by decide +kernel
theorem dB_init_51 : decode cB_init 51 = .ok (.goto (-22), 3) := by decide +kernel
theorem dB_init_54 : decode cB_init 54 = .ok (.aload_n 0, 1) := by decide +kernel
theorem dB_init_55 : decode cB_init 55 = .ok (.iconst 0, 1) := by decide +kernel
theorem dB_init_56 : decode cB_init 56 = .ok (.putfield 24, 3) := by decide +kernel
theorem dB_init_59 : decode cB_init 59 = .ok (.return_, 1) := by decide +kernel
theorem dB_put_0 : decode cB_put 0 = .ok (.iload_n 1, 1) := by decide +kernel
theorem dB_put_1 : decode cB_put 1 = .ok (.invokestatic 27, 3) := by decide +kernel
theorem dB_put_4 : decode cB_put 4 = .ok (.ifCond .eq 27, 3) := by decide +kernel
theorem dB_put_7 : decode cB_put 7 = .ok (.iload_n 2, 1) := by decide +kernel
theorem dB_put_8 : decode cB_put 8 = .ok (.invokestatic 27, 3) := by decide +kernel
theorem dB_put_11 : decode cB_put 11 = .ok (.ifCond .eq 20, 3) := by decide +kernel
theorem dB_put_14 : decode cB_put 14 = .ok (.iload_n 3, 1) := by decide +kernel
theorem dB_put_15 : decode cB_put 15 = .ok (.invokestatic 27, 3) := by decide +kernel
theorem dB_put_18 : decode cB_put 18 = .ok (.ifCond .eq 13, 3) := by decide +kernel
theorem dB_put_21 : decode cB_put 21 = .ok (.aload_n 0, 1) := by decide +kernel
theorem dB_put_22 : decode cB_put 22 = .ok (.getfield 13, 3) := by decide +kernel
theorem dB_put_25 : decode cB_put 25 = .ok (.sipush 1024, 3) := by decide +kernel
theorem dB_put_28 : decode cB_put 28 = .ok (.if_icmp .lt 5, 3) := by decide +kernel
theorem dB_put_31 : decode cB_put 31 = .ok (.iconst (-1), 1) := by decide +kernel
theorem dB_put_32 : decode cB_put 32 = .ok (.ireturn, 1) := by decide +kernel
theorem dB_put_33 : decode cB_put 33 = .ok (.aload_n 0, 1) := by decide +kernel
theorem dB_put_34 : decode cB_put 34 = .ok (.getfield 9, 3) := by decide +kernel
theorem dB_put_37 : decode cB_put 37 = .ok (.aload_n 0, 1) := by decide +kernel
theorem dB_put_38 : decode cB_put 38 = .ok (.getfield 13, 3) := by decide +kernel
theorem dB_put_41 : decode cB_put 41 = .ok (.iload_n 1, 1) := by decide +kernel
theorem dB_put_42 : decode cB_put 42 = .ok (.iload_n 2, 1) := by decide +kernel
theorem dB_put_43 : decode cB_put 43 = .ok (.iload_n 3, 1) := by decide +kernel
theorem dB_put_44 : decode cB_put 44 = .ok (.invokestatic 31, 3) := by decide +kernel
theorem dB_put_47 : decode cB_put 47 = .ok (.iastore, 1) := by decide +kernel
theorem dB_put_48 : decode cB_put 48 = .ok (.aload_n 0, 1) := by decide +kernel
theorem dB_put_49 : decode cB_put 49 = .ok (.dup, 1) := by decide +kernel
theorem dB_put_50 : decode cB_put 50 = .ok (.getfield 13, 3) := by decide +kernel
theorem dB_put_53 : decode cB_put 53 = .ok (.iconst 1, 1) := by decide +kernel
theorem dB_put_54 : decode cB_put 54 = .ok (.iadd, 1) := by decide +kernel
theorem dB_put_55 : decode cB_put 55 = .ok (.putfield 13, 3) := by decide +kernel
theorem dB_put_58 : decode cB_put 58 = .ok (.aload_n 0, 1) := by decide +kernel
theorem dB_put_59 : decode cB_put 59 = .ok (.getfield 13, 3) := by decide +kernel
theorem dB_put_62 : decode cB_put 62 = .ok (.ireturn, 1) := by decide +kernel
theorem dB_isNumber_0 : decode cB_isNumber 0 = .ok (.iload_n 0, 1) := by decide +kernel
theorem dB_isNumber_1 : decode cB_isNumber 1 = .ok (.ifCond .lt 14, 3) := by decide +kernel
theorem dB_isNumber_4 : decode cB_isNumber 4 = .ok (.iload_n 0, 1) := by decide +kernel
theorem dB_isNumber_5 : decode cB_isNumber 5 = .ok (.sipush 255, 3) := by decide +kernel
theorem dB_isNumber_8 : decode cB_isNumber 8 = .ok (.if_icmp .gt 7, 3) := by decide +kernel
theorem dB_isNumber_11 : decode cB_isNumber 11 = .ok (.iconst 1, 1) := by decide +kernel
theorem dB_isNumber_12 : decode cB_isNumber 12 = .ok (.goto 4, 3) := by decide +kernel
theorem dB_isNumber_15 : decode cB_isNumber 15 = .ok (.iconst 0, 1) := by decide +kernel
theorem dB_isNumber_16 : decode cB_isNumber 16 = .ok (.ireturn, 1) := by decide +kernel
theorem dB_colourOf_0 : decode cB_colourOf 0 = .ok (.iload_n 0, 1) := by decide +kernel
theorem dB_colourOf_1 : decode cB_colourOf 1 = .ok (.bipush 16, 2) := by decide +kernel
theorem dB_colourOf_3 : decode cB_colourOf 3 = .ok (.ishl, 1) := by decide +kernel
theorem dB_colourOf_4 : decode cB_colourOf 4 = .ok (.iload_n 1, 1) := by decide +kernel
theorem dB_colourOf_5 : decode cB_colourOf 5 = .ok (.bipush 8, 2) := by decide +kernel
theorem dB_colourOf_7 : decode cB_colourOf 7 = .ok (.ishl, 1) := by decide +kernel
theorem dB_colourOf_8 : decode cB_colourOf 8 = .ok (.iadd, 1) := by decide +kernel
theorem dB_colourOf_9 : decode cB_colourOf 9 = .ok (.iload_n 2, 1) := by decide +kernel
theorem dB_colourOf_10 : decode cB_colourOf 10 = .ok (.iconst 0, 1) := by decide +kernel
theorem dB_colourOf_11 : decode cB_colourOf 11 = .ok (.ishl, 1) := by decide +kernel
theorem dB_colourOf_12 : decode cB_colourOf 12 = .ok (.iadd, 1) := by decide +kernel
theorem dB_colourOf_13 : decode cB_colourOf 13 = .ok (.ireturn, 1) := by decide +kernel
theorem dB_add_0 : decode cB_add 0 = .ok (.aload_n 0, 1) := by decide +kernel
theorem dB_add_1 : decode cB_add 1 = .ok (.getfield 13, 3) := by decide +kernel
theorem dB_add_4 : decode cB_add 4 = .ok (.istore 4, 2) := by decide +kernel
theorem dB_add_6 : decode cB_add 6 = .ok (.aload_n 0, 1) := by decide +kernel
theorem dB_add_7 : decode cB_add 7 = .ok (.iconst 0, 1) := by decide +kernel
theorem dB_add_8 : decode cB_add 8 = .ok (.putfield 13, 3) := by decide +kernel
theorem dB_add_11 : decode cB_add 11 = .ok (.aload_n 0, 1) := by decide +kernel
theorem dB_add_12 : decode cB_add 12 = .ok (.getfield 24, 3) := by decide +kernel
theorem dB_add_15 : decode cB_add 15 = .ok (.bipush 8, 2) := by decide +kernel
theorem dB_add_17 : decode cB_add 17 = .ok (.if_icmp .ge 24, 3) := by decide +kernel
theorem dB_add_20 : decode cB_add 20 = .ok (.iload_n 1, 1) := by decide +kernel
theorem dB_add_21 : decode cB_add 21 = .ok (.invokestatic 35, 3) := by decide +kernel
theorem dB_add_24 : decode cB_add 24 = .ok (.ifCond .eq 17, 3) := by decide +kernel
theorem dB_add_27 : decode cB_add 27 = .ok (.iload_n 2, 1) := by decide +kernel
theorem dB_add_28 : decode cB_add 28 = .ok (.invokestatic 38, 3) := by decide +kernel
theorem dB_add_31 : decode cB_add 31 = .ok (.ifCond .eq 10, 3) := by decide +kernel
theorem dB_add_34 : decode cB_add 34 = .ok (.iload_n 3, 1) := by decide +kernel
theorem dB_add_35 : decode cB_add 35 = .ok (.invokestatic 41, 3) := by decide +kernel
theorem dB_add_38 : decode cB_add 38 = .ok (.ifCond .ne 5, 3) := by decide +kernel
theorem dB_add_41 : decode cB_add 41 = .ok (.iconst (-1), 1) := by decide +kernel
theorem dB_add_42 : decode cB_add 42 = .ok (.ireturn, 1) := by decide +kernel
theorem dB_add_43 : decode cB_add 43 = .ok (.iload 4, 2) := by decide +kernel
theorem dB_add_45 : decode cB_add 45 = .ok (.iload_n 1, 1) := by decide +kernel
theorem dB_add_46 : decode cB_add 46 = .ok (.iload_n 1, 1) := by decide +kernel
theorem dB_add_47 : decode cB_add 47 = .ok (.imul, 1) := by decide +kernel
theorem dB_add_48 : decode cB_add 48 = .ok (.if_icmp .eq 5, 3) := by decide +kernel
theorem dB_add_51 : decode cB_add 51 = .ok (.iconst (-1), 1) := by decide +kernel
theorem dB_add_52 : decode cB_add 52 = .ok (.ireturn, 1) := by decide +kernel
theorem dB_add_53 : decode cB_add 53 = .ok (.aload_n 0, 1) := by decide +kernel
theorem dB_add_54 : decode cB_add 54 = .ok (.getfield 24, 3) := by decide +kernel
theorem dB_add_57 : decode cB_add 57 = .ok (.istore 5, 2) := by decide +kernel
theorem dB_add_59 : decode cB_add 59 = .ok (.aload_n 0, 1) := by decide +kernel
theorem dB_add_60 : decode cB_add 60 = .ok (.getfield 19, 3) := by decide +kernel
theorem dB_add_63 : decode cB_add 63 = .ok (.iload 5, 2) := by decide +kernel
theorem dB_add_65 : decode cB_add 65 = .ok (.aaload, 1) := by decide +kernel
theorem dB_add_66 : decode cB_add 66 = .ok (.aload_n 0, 1) := by decide +kernel
theorem dB_add_67 : decode cB_add 67 = .ok (.getfield 9, 3) := by decide +kernel
theorem dB_add_70 : decode cB_add 70 = .ok (.iload_n 1, 1) := by decide +kernel
theorem dB_add_71 : decode cB_add 71 = .ok (.iload_n 2, 1) := by decide +kernel
theorem dB_add_72 : decode cB_add 72 = .ok (.iload_n 3, 1) := by decide +kernel
theorem dB_add_73 : decode cB_add 73 = .ok (.invokevirtual 44, 3) := by decide +kernel
theorem dB_add_76 : decode cB_add 76 = .ok (.aload_n 0, 1) := by decide +kernel
theorem dB_add_77 : decode cB_add 77 = .ok (.dup, 1) := by decide +kernel
theorem dB_add_78 : decode cB_add 78 = .ok (.getfield 24, 3) := by decide +kernel
theorem dB_add_81 : decode cB_add 81 = .ok (.iconst 1, 1) := by decide +kernel
theorem dB_add_82 : decode cB_add 82 = .ok (.iadd, 1) := by decide +kernel
theorem dB_add_83 : decode cB_add 83 = .ok (.putfield 24, 3) := by decide +kernel
theorem dB_add_86 : decode cB_add 86 = .ok (.iload 5, 2) := by decide +kernel
theorem dB_add_88 : decode cB_add 88 = .ok (.ireturn, 1) := by decide +kernel
theorem dB_isSide_0 : decode cB_isSide 0 = .ok (.iload_n 0, 1) := by decide +kernel
theorem dB_isSide_1 : decode cB_isSide 1 = .ok (.iconst 1, 1) := by decide +kernel
theorem dB_isSide_2 : decode cB_isSide 2 = .ok (.if_icmp .lt 21, 3) := by decide +kernel
theorem dB_isSide_5 : decode cB_isSide 5 = .ok (.iload_n 0, 1) := by decide +kernel
theorem dB_isSide_6 : decode cB_isSide 6 = .ok (.bipush 32, 2) := by decide +kernel
theorem dB_isSide_8 : decode cB_isSide 8 = .ok (.if_icmp .gt 15, 3) := by decide +kernel
theorem dB_isSide_11 : decode cB_isSide 11 = .ok (.iload_n 0, 1) := by decide +kernel
theorem dB_isSide_12 : decode cB_isSide 12 = .ok (.invokestatic 122, 3) := by decide +kernel
theorem dB_isSide_15 : decode cB_isSide 15 = .ok (.iconst 1, 1) := by decide +kernel
theorem dB_isSide_16 : decode cB_isSide 16 = .ok (.if_icmp .ne 7, 3) := by decide +kernel
theorem dB_isSide_19 : decode cB_isSide 19 = .ok (.iconst 1, 1) := by decide +kernel
theorem dB_isSide_20 : decode cB_isSide 20 = .ok (.goto 4, 3) := by decide +kernel
theorem dB_isSide_23 : decode cB_isSide 23 = .ok (.iconst 0, 1) := by decide +kernel
theorem dB_isSide_24 : decode cB_isSide 24 = .ok (.ireturn, 1) := by decide +kernel
theorem dB_isWrap_0 : decode cB_isWrap 0 = .ok (.iload_n 0, 1) := by decide +kernel
theorem dB_isWrap_1 : decode cB_isWrap 1 = .ok (.ifCond .eq 13, 3) := by decide +kernel
theorem dB_isWrap_4 : decode cB_isWrap 4 = .ok (.iload_n 0, 1) := by decide +kernel
theorem dB_isWrap_5 : decode cB_isWrap 5 = .ok (.iconst 1, 1) := by decide +kernel
theorem dB_isWrap_6 : decode cB_isWrap 6 = .ok (.if_icmp .eq 8, 3) := by decide +kernel
theorem dB_isWrap_9 : decode cB_isWrap 9 = .ok (.iload_n 0, 1) := by decide +kernel
theorem dB_isWrap_10 : decode cB_isWrap 10 = .ok (.iconst 2, 1) := by decide +kernel
theorem dB_isWrap_11 : decode cB_isWrap 11 = .ok (.if_icmp .ne 7, 3) := by decide +kernel
theorem dB_isWrap_14 : decode cB_isWrap 14 = .ok (.iconst 1, 1) := by decide +kernel
theorem dB_isWrap_15 : decode cB_isWrap 15 = .ok (.goto 4, 3) := by decide +kernel
theorem dB_isWrap_18 : decode cB_isWrap 18 = .ok (.iconst 0, 1) := by decide +kernel
theorem dB_isWrap_19 : decode cB_isWrap 19 = .ok (.ireturn, 1) := by decide +kernel
theorem dB_isSoft_0 : decode cB_isSoft 0 = .ok (.iload_n 0, 1) := by decide +kernel
theorem dB_isSoft_1 : decode cB_isSoft 1 = .ok (.ifCond .eq 8, 3) := by decide +kernel
theorem dB_isSoft_4 : decode cB_isSoft 4 = .ok (.iload_n 0, 1) := by decide +kernel
theorem dB_isSoft_5 : decode cB_isSoft 5 = .ok (.iconst 1, 1) := by decide +kernel
theorem dB_isSoft_6 : decode cB_isSoft 6 = .ok (.if_icmp .ne 7, 3) := by decide +kernel
theorem dB_isSoft_9 : decode cB_isSoft 9 = .ok (.iconst 1, 1) := by decide +kernel
theorem dB_isSoft_10 : decode cB_isSoft 10 = .ok (.goto 4, 3) := by decide +kernel
theorem dB_isSoft_13 : decode cB_isSoft 13 = .ok (.iconst 0, 1) := by decide +kernel
theorem dB_isSoft_14 : decode cB_isSoft 14 = .ok (.ireturn, 1) := by decide +kernel
theorem dB_numberOf_0 : decode cB_numberOf 0 = .ok (.iload_n 0, 1) := by decide +kernel
theorem dB_numberOf_1 : decode cB_numberOf 1 = .ok (.iload_n 1, 1) := by decide +kernel
theorem dB_numberOf_2 : decode cB_numberOf 2 = .ok (.ishr, 1) := by decide +kernel
theorem dB_numberOf_3 : decode cB_numberOf 3 = .ok (.sipush 255, 3) := by decide +kernel
theorem dB_numberOf_6 : decode cB_numberOf 6 = .ok (.iand, 1) := by decide +kernel
theorem dB_numberOf_7 : decode cB_numberOf 7 = .ok (.i2l, 1) := by decide +kernel
theorem dB_numberOf_8 : decode cB_numberOf 8 = .ok (.lreturn, 1) := by decide +kernel
theorem dB_clear_0 : decode cB_clear 0 = .ok (.aload_n 0, 1) := by decide +kernel
theorem dB_clear_1 : decode cB_clear 1 = .ok (.iconst 0, 1) := by decide +kernel
theorem dB_clear_2 : decode cB_clear 2 = .ok (.putfield 24, 3) := by decide +kernel
theorem dB_clear_5 : decode cB_clear 5 = .ok (.return_, 1) := by decide +kernel
theorem dB_about_0 : decode cB_about 0 = .ok (.aload_n 0, 1) := by decide +kernel
theorem dB_about_1 : decode cB_about 1 = .ok (.iload_n 1, 1) := by decide +kernel
theorem dB_about_2 : decode cB_about 2 = .ok (.invokevirtual 48, 3) := by decide +kernel
theorem dB_about_5 : decode cB_about 5 = .ok (.astore_n 3, 1) := by decide +kernel
theorem dB_about_6 : decode cB_about 6 = .ok (.aload_n 3, 1) := by decide +kernel
theorem dB_about_7 : decode cB_about 7 = .ok (.ifnonnull 5, 3) := by decide +kernel
theorem dB_about_10 : decode cB_about 10 = .ok (.iconst (-1), 1) := by decide +kernel
theorem dB_about_11 : decode cB_about 11 = .ok (.ireturn, 1) := by decide +kernel
theorem dB_about_12 : decode cB_about 12 = .ok (.iload_n 2, 1) := by decide +kernel
theorem dB_about_13 : decode cB_about 13 = .ok (.tableswitch 51 0 3 #[31, 36, 41, 46], 31) := by decide +kernel
theorem dB_about_44 : decode cB_about 44 = .ok (.aload_n 3, 1) := by decide +kernel
theorem dB_about_45 : decode cB_about 45 = .ok (.getfield 109, 3) := by decide +kernel
theorem dB_about_48 : decode cB_about 48 = .ok (.ireturn, 1) := by decide +kernel
theorem dB_about_49 : decode cB_about 49 = .ok (.aload_n 3, 1) := by decide +kernel
theorem dB_about_50 : decode cB_about 50 = .ok (.getfield 112, 3) := by decide +kernel
theorem dB_about_53 : decode cB_about 53 = .ok (.ireturn, 1) := by decide +kernel
theorem dB_about_54 : decode cB_about 54 = .ok (.aload_n 3, 1) := by decide +kernel
theorem dB_about_55 : decode cB_about 55 = .ok (.getfield 115, 3) := by decide +kernel
theorem dB_about_58 : decode cB_about 58 = .ok (.ireturn, 1) := by decide +kernel
theorem dB_about_59 : decode cB_about 59 = .ok (.aload_n 3, 1) := by decide +kernel
theorem dB_about_60 : decode cB_about 60 = .ok (.getfield 118, 3) := by decide +kernel
theorem dB_about_63 : decode cB_about 63 = .ok (.ireturn, 1) := by decide +kernel
theorem dB_about_64 : decode cB_about 64 = .ok (.iconst (-1), 1) := by decide +kernel
theorem dB_about_65 : decode cB_about 65 = .ok (.ireturn, 1) := by decide +kernel
theorem dB_find_0 : decode cB_find 0 = .ok (.iload_n 1, 1) := by decide +kernel
theorem dB_find_1 : decode cB_find 1 = .ok (.ifCond .lt 11, 3) := by decide +kernel
theorem dB_find_4 : decode cB_find 4 = .ok (.iload_n 1, 1) := by decide +kernel
theorem dB_find_5 : decode cB_find 5 = .ok (.aload_n 0, 1) := by decide +kernel
theorem dB_find_6 : decode cB_find 6 = .ok (.getfield 24, 3) := by decide +kernel
theorem dB_find_9 : decode cB_find 9 = .ok (.if_icmp .lt 5, 3) := by decide +kernel
theorem dB_find_12 : decode cB_find 12 = .ok (.aconst_null, 1) := by decide +kernel
theorem dB_find_13 : decode cB_find 13 = .ok (.areturn, 1) := by decide +kernel
theorem dB_find_14 : decode cB_find 14 = .ok (.aload_n 0, 1) := by decide +kernel
theorem dB_find_15 : decode cB_find 15 = .ok (.getfield 19, 3) := by decide +kernel
theorem dB_find_18 : decode cB_find 18 = .ok (.iload_n 1, 1) := by decide +kernel
theorem dB_find_19 : decode cB_find 19 = .ok (.aaload, 1) := by decide +kernel
theorem dB_find_20 : decode cB_find 20 = .ok (.areturn, 1) := by decide +kernel
theorem dB_count_0 : decode cB_count 0 = .ok (.iload_n 1, 1) := by decide +kernel
theorem dB_count_1 : decode cB_count 1 = .ok (.lookupswitch 37 #[(0, 27), (1, 32)], 27) := by decide +kernel
theorem dB_count_28 : decode cB_count 28 = .ok (.aload_n 0, 1) := by decide +kernel
theorem dB_count_29 : decode cB_count 29 = .ok (.getfield 24, 3) := by decide +kernel
theorem dB_count_32 : decode cB_count 32 = .ok (.ireturn, 1) := by decide +kernel
theorem dB_count_33 : decode cB_count 33 = .ok (.aload_n 0, 1) := by decide +kernel
theorem dB_count_34 : decode cB_count 34 = .ok (.getfield 13, 3) := by decide +kernel
theorem dB_count_37 : decode cB_count 37 = .ok (.ireturn, 1) := by decide +kernel
theorem dB_count_38 : decode cB_count 38 = .ok (.iconst (-1), 1) := by decide +kernel
theorem dB_count_39 : decode cB_count 39 = .ok (.ireturn, 1) := by decide +kernel
theorem dB_level_0 : decode cB_level 0 = .ok (.aload_n 0, 1) := by decide +kernel
theorem dB_level_1 : decode cB_level 1 = .ok (.iload_n 1, 1) := by decide +kernel
theorem dB_level_2 : decode cB_level 2 = .ok (.invokevirtual 48, 3) := by decide +kernel
theorem dB_level_5 : decode cB_level 5 = .ok (.astore 5, 2) := by decide +kernel
theorem dB_level_7 : decode cB_level 7 = .ok (.aload 5, 2) := by decide +kernel
theorem dB_level_9 : decode cB_level 9 = .ok (.ifnonnull 13, 3) := by decide +kernel
theorem dB_level_12 : decode cB_level 12 = .ok (.new 52, 3) := by decide +kernel
theorem dB_level_15 : decode cB_level 15 = .ok (.dup, 1) := by decide +kernel
theorem dB_level_16 : decode cB_level 16 = .ok (.ldc 54, 2) := by decide +kernel
theorem dB_level_18 : decode cB_level 18 = .ok (.invokespecial 56, 3) := by decide +kernel
theorem dB_level_21 : decode cB_level 21 = .ok (.athrow, 1) := by decide +kernel
theorem dB_level_22 : decode cB_level 22 = .ok (.lload_n 2, 1) := by decide +kernel
theorem dB_level_23 : decode cB_level 23 = .ok (.lconst 0, 1) := by decide +kernel
theorem dB_level_24 : decode cB_level 24 = .ok (.lcmp, 1) := by decide +kernel
theorem dB_level_25 : decode cB_level 25 = .ok (.ifCond .lt 11, 3) := by decide +kernel
theorem dB_level_28 : decode cB_level 28 = .ok (.lload_n 2, 1) := by decide +kernel
theorem dB_level_29 : decode cB_level 29 = .ok (.ldc2_w 59, 3) := by decide +kernel
theorem dB_level_32 : decode cB_level 32 = .ok (.lcmp, 1) := by decide +kernel
theorem dB_level_33 : decode cB_level 33 = .ok (.ifCond .le 13, 3) := by decide +kernel
theorem dB_level_36 : decode cB_level 36 = .ok (.new 61, 3) := by decide +kernel
theorem dB_level_39 : decode cB_level 39 = .ok (.dup, 1) := by decide +kernel
theorem dB_level_40 : decode cB_level 40 = .ok (.ldc 63, 2) := by decide +kernel
theorem dB_level_42 : decode cB_level 42 = .ok (.invokespecial 65, 3) := by decide +kernel
theorem dB_level_45 : decode cB_level 45 = .ok (.athrow, 1) := by decide +kernel
theorem dB_level_46 : decode cB_level 46 = .ok (.iload 4, 2) := by decide +kernel
theorem dB_level_48 : decode cB_level 48 = .ok (.iconst 1, 1) := by decide +kernel
theorem dB_level_49 : decode cB_level 49 = .ok (.if_icmp .lt 10, 3) := by decide +kernel
theorem dB_level_52 : decode cB_level 52 = .ok (.iload 4, 2) := by decide +kernel
theorem dB_level_54 : decode cB_level 54 = .ok (.ldc 66, 2) := by decide +kernel
theorem dB_level_56 : decode cB_level 56 = .ok (.if_icmp .le 13, 3) := by decide +kernel
theorem dB_level_59 : decode cB_level 59 = .ok (.new 61, 3) := by decide +kernel
theorem dB_level_62 : decode cB_level 62 = .ok (.dup, 1) := by decide +kernel
theorem dB_level_63 : decode cB_level 63 = .ok (.ldc 67, 2) := by decide +kernel
theorem dB_level_65 : decode cB_level 65 = .ok (.invokespecial 65, 3) := by decide +kernel
theorem dB_level_68 : decode cB_level 68 = .ok (.athrow, 1) := by decide +kernel
theorem dB_level_69 : decode cB_level 69 = .ok (.aload 5, 2) := by decide +kernel
theorem dB_level_71 : decode cB_level 71 = .ok (.lload_n 2, 1) := by decide +kernel
theorem dB_level_72 : decode cB_level 72 = .ok (.iload 4, 2) := by decide +kernel
theorem dB_level_74 : decode cB_level 74 = .ok (.i2l, 1) := by decide +kernel
theorem dB_level_75 : decode cB_level 75 = .ok (.invokevirtual 69, 3) := by decide +kernel
theorem dB_level_78 : decode cB_level 78 = .ok (.ireturn, 1) := by decide +kernel
theorem dB_lookUp_0 : decode cB_lookUp 0 = .ok (.aload_n 0, 1) := by decide +kernel
theorem dB_lookUp_1 : decode cB_lookUp 1 = .ok (.iload_n 1, 1) := by decide +kernel
theorem dB_lookUp_2 : decode cB_lookUp 2 = .ok (.invokevirtual 48, 3) := by decide +kernel
theorem dB_lookUp_5 : decode cB_lookUp 5 = .ok (.astore 5, 2) := by decide +kernel
theorem dB_lookUp_7 : decode cB_lookUp 7 = .ok (.aload 5, 2) := by decide +kernel
theorem dB_lookUp_9 : decode cB_lookUp 9 = .ok (.ifnull 12, 3) := by decide +kernel
theorem dB_lookUp_12 : decode cB_lookUp 12 = .ok (.aload 5, 2) := by decide +kernel
theorem dB_lookUp_14 : decode cB_lookUp 14 = .ok (.iload_n 2, 1) := by decide +kernel
theorem dB_lookUp_15 : decode cB_lookUp 15 = .ok (.invokevirtual 73, 3) := by decide +kernel
theorem dB_lookUp_18 : decode cB_lookUp 18 = .ok (.ifCond .ne 13, 3) := by decide +kernel
theorem dB_lookUp_21 : decode cB_lookUp 21 = .ok (.new 52, 3) := by decide +kernel
theorem dB_lookUp_24 : decode cB_lookUp 24 = .ok (.dup, 1) := by decide +kernel
theorem dB_lookUp_25 : decode cB_lookUp 25 = .ok (.ldc 76, 2) := by decide +kernel
theorem dB_lookUp_27 : decode cB_lookUp 27 = .ok (.invokespecial 56, 3) := by decide +kernel
theorem dB_lookUp_30 : decode cB_lookUp 30 = .ok (.athrow, 1) := by decide +kernel
theorem dB_lookUp_31 : decode cB_lookUp 31 = .ok (.iload_n 3, 1) := by decide +kernel
theorem dB_lookUp_32 : decode cB_lookUp 32 = .ok (.invokestatic 78, 3) := by decide +kernel
theorem dB_lookUp_35 : decode cB_lookUp 35 = .ok (.ifCond .eq 11, 3) := by decide +kernel
theorem dB_lookUp_38 : decode cB_lookUp 38 = .ok (.iload 4, 2) := by decide +kernel
theorem dB_lookUp_40 : decode cB_lookUp 40 = .ok (.invokestatic 78, 3) := by decide +kernel
theorem dB_lookUp_43 : decode cB_lookUp 43 = .ok (.ifCond .ne 13, 3) := by decide +kernel
theorem dB_lookUp_46 : decode cB_lookUp 46 = .ok (.new 61, 3) := by decide +kernel
theorem dB_lookUp_49 : decode cB_lookUp 49 = .ok (.dup, 1) := by decide +kernel
theorem dB_lookUp_50 : decode cB_lookUp 50 = .ok (.ldc 81, 2) := by decide +kernel
theorem dB_lookUp_52 : decode cB_lookUp 52 = .ok (.invokespecial 65, 3) := by decide +kernel
theorem dB_lookUp_55 : decode cB_lookUp 55 = .ok (.athrow, 1) := by decide +kernel
theorem dB_lookUp_56 : decode cB_lookUp 56 = .ok (.aload 5, 2) := by decide +kernel
theorem dB_lookUp_58 : decode cB_lookUp 58 = .ok (.aload 5, 2) := by decide +kernel
theorem dB_lookUp_60 : decode cB_lookUp 60 = .ok (.iload_n 2, 1) := by decide +kernel
theorem dB_lookUp_61 : decode cB_lookUp 61 = .ok (.invokevirtual 83, 3) := by decide +kernel
theorem dB_lookUp_64 : decode cB_lookUp 64 = .ok (.iload_n 3, 1) := by decide +kernel
theorem dB_lookUp_65 : decode cB_lookUp 65 = .ok (.i2l, 1) := by decide +kernel
theorem dB_lookUp_66 : decode cB_lookUp 66 = .ok (.iload 4, 2) := by decide +kernel
theorem dB_lookUp_68 : decode cB_lookUp 68 = .ok (.i2l, 1) := by decide +kernel
theorem dB_lookUp_69 : decode cB_lookUp 69 = .ok (.invokevirtual 87, 3) := by decide +kernel
theorem dB_lookUp_72 : decode cB_lookUp 72 = .ok (.ireturn, 1) := by decide +kernel
theorem dB_isPlace_0 : decode cB_isPlace 0 = .ok (.iload_n 0, 1) := by decide +kernel
theorem dB_isPlace_1 : decode cB_isPlace 1 = .ok (.ldc 127, 2) := by decide +kernel
theorem dB_isPlace_3 : decode cB_isPlace 3 = .ok (.if_icmp .lt 13, 3) := by decide +kernel
theorem dB_isPlace_6 : decode cB_isPlace 6 = .ok (.iload_n 0, 1) := by decide +kernel
theorem dB_isPlace_7 : decode cB_isPlace 7 = .ok (.ldc 66, 2) := by decide +kernel
theorem dB_isPlace_9 : decode cB_isPlace 9 = .ok (.if_icmp .gt 7, 3) := by decide +kernel
theorem dB_isPlace_12 : decode cB_isPlace 12 = .ok (.iconst 1, 1) := by decide +kernel
theorem dB_isPlace_13 : decode cB_isPlace 13 = .ok (.goto 4, 3) := by decide +kernel
theorem dB_isPlace_16 : decode cB_isPlace 16 = .ok (.iconst 0, 1) := by decide +kernel
theorem dB_isPlace_17 : decode cB_isPlace 17 = .ok (.ireturn, 1) := by decide +kernel
theorem dB_texel_0 : decode cB_texel 0 = .ok (.aload_n 0, 1) := by decide +kernel
theorem dB_texel_1 : decode cB_texel 1 = .ok (.iload_n 1, 1) := by decide +kernel
theorem dB_texel_2 : decode cB_texel 2 = .ok (.invokevirtual 48, 3) := by decide +kernel
theorem dB_texel_5 : decode cB_texel 5 = .ok (.astore 5, 2) := by decide +kernel
theorem dB_texel_7 : decode cB_texel 7 = .ok (.aload 5, 2) := by decide +kernel
theorem dB_texel_9 : decode cB_texel 9 = .ok (.ifnull 12, 3) := by decide +kernel
theorem dB_texel_12 : decode cB_texel 12 = .ok (.aload 5, 2) := by decide +kernel
theorem dB_texel_14 : decode cB_texel 14 = .ok (.iload_n 2, 1) := by decide +kernel
theorem dB_texel_15 : decode cB_texel 15 = .ok (.invokevirtual 73, 3) := by decide +kernel
theorem dB_texel_18 : decode cB_texel 18 = .ok (.ifCond .ne 13, 3) := by decide +kernel
theorem dB_texel_21 : decode cB_texel 21 = .ok (.new 52, 3) := by decide +kernel
theorem dB_texel_24 : decode cB_texel 24 = .ok (.dup, 1) := by decide +kernel
theorem dB_texel_25 : decode cB_texel 25 = .ok (.ldc 76, 2) := by decide +kernel
theorem dB_texel_27 : decode cB_texel 27 = .ok (.invokespecial 56, 3) := by decide +kernel
theorem dB_texel_30 : decode cB_texel 30 = .ok (.athrow, 1) := by decide +kernel
theorem dB_texel_31 : decode cB_texel 31 = .ok (.aload 5, 2) := by decide +kernel
theorem dB_texel_33 : decode cB_texel 33 = .ok (.aload 5, 2) := by decide +kernel
theorem dB_texel_35 : decode cB_texel 35 = .ok (.iload_n 2, 1) := by decide +kernel
theorem dB_texel_36 : decode cB_texel 36 = .ok (.invokevirtual 83, 3) := by decide +kernel
theorem dB_texel_39 : decode cB_texel 39 = .ok (.iload_n 3, 1) := by decide +kernel
theorem dB_texel_40 : decode cB_texel 40 = .ok (.iload 4, 2) := by decide +kernel
theorem dB_texel_42 : decode cB_texel 42 = .ok (.invokevirtual 91, 3) := by decide +kernel
theorem dB_texel_45 : decode cB_texel 45 = .ok (.istore 6, 2) := by decide +kernel
theorem dB_texel_47 : decode cB_texel 47 = .ok (.iload 6, 2) := by decide +kernel
theorem dB_texel_49 : decode cB_texel 49 = .ok (.iconst (-1), 1) := by decide +kernel
theorem dB_texel_50 : decode cB_texel 50 = .ok (.if_icmp .ne 13, 3) := by decide +kernel
theorem dB_texel_53 : decode cB_texel 53 = .ok (.new 52, 3) := by decide +kernel
theorem dB_texel_56 : decode cB_texel 56 = .ok (.dup, 1) := by decide +kernel
theorem dB_texel_57 : decode cB_texel 57 = .ok (.ldc 94, 2) := by decide +kernel
theorem dB_texel_59 : decode cB_texel 59 = .ok (.invokespecial 56, 3) := by decide +kernel
theorem dB_texel_62 : decode cB_texel 62 = .ok (.athrow, 1) := by decide +kernel
theorem dB_texel_63 : decode cB_texel 63 = .ok (.iload 6, 2) := by decide +kernel
theorem dB_texel_65 : decode cB_texel 65 = .ok (.ireturn, 1) := by decide +kernel
theorem dB_lit_0 : decode cB_lit 0 = .ok (.iload_n 1, 1) := by decide +kernel
theorem dB_lit_1 : decode cB_lit 1 = .ok (.invokestatic 96, 3) := by decide +kernel
theorem dB_lit_4 : decode cB_lit 4 = .ok (.ifCond .eq 10, 3) := by decide +kernel
theorem dB_lit_7 : decode cB_lit 7 = .ok (.iload_n 2, 1) := by decide +kernel
theorem dB_lit_8 : decode cB_lit 8 = .ok (.invokestatic 96, 3) := by decide +kernel
theorem dB_lit_11 : decode cB_lit 11 = .ok (.ifCond .ne 13, 3) := by decide +kernel
theorem dB_lit_14 : decode cB_lit 14 = .ok (.new 61, 3) := by decide +kernel
theorem dB_lit_17 : decode cB_lit 17 = .ok (.dup, 1) := by decide +kernel
theorem dB_lit_18 : decode cB_lit 18 = .ok (.ldc 99, 2) := by decide +kernel
theorem dB_lit_20 : decode cB_lit 20 = .ok (.invokespecial 65, 3) := by decide +kernel
theorem dB_lit_23 : decode cB_lit 23 = .ok (.athrow, 1) := by decide +kernel
theorem dB_lit_24 : decode cB_lit 24 = .ok (.iload_n 3, 1) := by decide +kernel
theorem dB_lit_25 : decode cB_lit 25 = .ok (.ifCond .lt 12, 3) := by decide +kernel
theorem dB_lit_28 : decode cB_lit 28 = .ok (.iload_n 3, 1) := by decide +kernel
theorem dB_lit_29 : decode cB_lit 29 = .ok (.i2l, 1) := by decide +kernel
theorem dB_lit_30 : decode cB_lit 30 = .ok (.ldc2_w 101, 3) := by decide +kernel
theorem dB_lit_33 : decode cB_lit 33 = .ok (.lcmp, 1) := by decide +kernel
theorem dB_lit_34 : decode cB_lit 34 = .ok (.ifCond .le 13, 3) := by decide +kernel
theorem dB_lit_37 : decode cB_lit 37 = .ok (.new 61, 3) := by decide +kernel
theorem dB_lit_40 : decode cB_lit 40 = .ok (.dup, 1) := by decide +kernel
theorem dB_lit_41 : decode cB_lit 41 = .ok (.ldc 103, 2) := by decide +kernel
theorem dB_lit_43 : decode cB_lit 43 = .ok (.invokespecial 65, 3) := by decide +kernel
theorem dB_lit_46 : decode cB_lit 46 = .ok (.athrow, 1) := by decide +kernel
theorem dB_lit_47 : decode cB_lit 47 = .ok (.iload_n 1, 1) := by decide +kernel
theorem dB_lit_48 : decode cB_lit 48 = .ok (.iload_n 2, 1) := by decide +kernel
theorem dB_lit_49 : decode cB_lit 49 = .ok (.iload_n 3, 1) := by decide +kernel
theorem dB_lit_50 : decode cB_lit 50 = .ok (.bipush 16, 2) := by decide +kernel
theorem dB_lit_52 : decode cB_lit 52 = .ok (.invokestatic 105, 3) := by decide +kernel
theorem dB_lit_55 : decode cB_lit 55 = .ok (.iload_n 1, 1) := by decide +kernel
theorem dB_lit_56 : decode cB_lit 56 = .ok (.iload_n 2, 1) := by decide +kernel
theorem dB_lit_57 : decode cB_lit 57 = .ok (.iload_n 3, 1) := by decide +kernel
theorem dB_lit_58 : decode cB_lit 58 = .ok (.bipush 8, 2) := by decide +kernel
theorem dB_lit_60 : decode cB_lit 60 = .ok (.invokestatic 105, 3) := by decide +kernel
theorem dB_lit_63 : decode cB_lit 63 = .ok (.iload_n 1, 1) := by decide +kernel
theorem dB_lit_64 : decode cB_lit 64 = .ok (.iload_n 2, 1) := by decide +kernel
theorem dB_lit_65 : decode cB_lit 65 = .ok (.iload_n 3, 1) := by decide +kernel
theorem dB_lit_66 : decode cB_lit 66 = .ok (.iconst 0, 1) := by decide +kernel
theorem dB_lit_67 : decode cB_lit 67 = .ok (.invokestatic 105, 3) := by decide +kernel
theorem dB_lit_70 : decode cB_lit 70 = .ok (.invokestatic 31, 3) := by decide +kernel
theorem dB_lit_73 : decode cB_lit 73 = .ok (.ireturn, 1) := by decide +kernel
theorem dB_isColour_0 : decode cB_isColour 0 = .ok (.iload_n 0, 1) := by decide +kernel
theorem dB_isColour_1 : decode cB_isColour 1 = .ok (.ifCond .lt 13, 3) := by decide +kernel
theorem dB_isColour_4 : decode cB_isColour 4 = .ok (.iload_n 0, 1) := by decide +kernel
theorem dB_isColour_5 : decode cB_isColour 5 = .ok (.ldc 121, 2) := by decide +kernel
theorem dB_isColour_7 : decode cB_isColour 7 = .ok (.if_icmp .gt 7, 3) := by decide +kernel
theorem dB_isColour_10 : decode cB_isColour 10 = .ok (.iconst 1, 1) := by decide +kernel
theorem dB_isColour_11 : decode cB_isColour 11 = .ok (.goto 4, 3) := by decide +kernel
theorem dB_isColour_14 : decode cB_isColour 14 = .ok (.iconst 0, 1) := by decide +kernel
theorem dB_isColour_15 : decode cB_isColour 15 = .ok (.ireturn, 1) := by decide +kernel
theorem dB_litNumber_0 : decode cB_litNumber 0 = .ok (.iload_n 0, 1) := by decide +kernel
theorem dB_litNumber_1 : decode cB_litNumber 1 = .ok (.iload_n 3, 1) := by decide +kernel
theorem dB_litNumber_2 : decode cB_litNumber 2 = .ok (.invokestatic 128, 3) := by decide +kernel
theorem dB_litNumber_5 : decode cB_litNumber 5 = .ok (.iload_n 1, 1) := by decide +kernel
theorem dB_litNumber_6 : decode cB_litNumber 6 = .ok (.iload_n 3, 1) := by decide +kernel
theorem dB_litNumber_7 : decode cB_litNumber 7 = .ok (.invokestatic 128, 3) := by decide +kernel
theorem dB_litNumber_10 : decode cB_litNumber 10 = .ok (.lmul, 1) := by decide +kernel
theorem dB_litNumber_11 : decode cB_litNumber 11 = .ok (.ldc2_w 132, 3) := by decide +kernel
theorem dB_litNumber_14 : decode cB_litNumber 14 = .ok (.invokestatic 134, 3) := by decide +kernel
theorem dB_litNumber_17 : decode cB_litNumber 17 = .ok (.lstore 4, 2) := by decide +kernel
theorem dB_litNumber_19 : decode cB_litNumber 19 = .ok (.lload 4, 2) := by decide +kernel
theorem dB_litNumber_21 : decode cB_litNumber 21 = .ok (.iload_n 2, 1) := by decide +kernel
theorem dB_litNumber_22 : decode cB_litNumber 22 = .ok (.i2l, 1) := by decide +kernel
theorem dB_litNumber_23 : decode cB_litNumber 23 = .ok (.lmul, 1) := by decide +kernel
theorem dB_litNumber_24 : decode cB_litNumber 24 = .ok (.ldc2_w 101, 3) := by decide +kernel
theorem dB_litNumber_27 : decode cB_litNumber 27 = .ok (.invokestatic 134, 3) := by decide +kernel
theorem dB_litNumber_30 : decode cB_litNumber 30 = .ok (.l2i, 1) := by decide +kernel
theorem dB_litNumber_31 : decode cB_litNumber 31 = .ok (.ireturn, 1) := by decide +kernel
end
section
theorem dJ_bitCount_0 : decode cJ_bitCount 0 = .ok (.iload_n 0, 1) := by decide +kernel
theorem dJ_bitCount_1 : decode cJ_bitCount 1 = .ok (.iload_n 0, 1) := by decide +kernel
theorem dJ_bitCount_2 : decode cJ_bitCount 2 = .ok (.iconst 1, 1) := by decide +kernel
theorem dJ_bitCount_3 : decode cJ_bitCount 3 = .ok (.iushr, 1) := by decide +kernel
theorem dJ_bitCount_4 : decode cJ_bitCount 4 = .ok (.ldc_w 265, 3) := by decide +kernel
theorem dJ_bitCount_7 : decode cJ_bitCount 7 = .ok (.iand, 1) := by decide +kernel
theorem dJ_bitCount_8 : decode cJ_bitCount 8 = .ok (.isub, 1) := by decide +kernel
theorem dJ_bitCount_9 : decode cJ_bitCount 9 = .ok (.istore_n 0, 1) := by decide +kernel
theorem dJ_bitCount_10 : decode cJ_bitCount 10 = .ok (.iload_n 0, 1) := by decide +kernel
theorem dJ_bitCount_11 : decode cJ_bitCount 11 = .ok (.ldc_w 266, 3) := by decide +kernel
theorem dJ_bitCount_14 : decode cJ_bitCount 14 = .ok (.iand, 1) := by decide +kernel
theorem dJ_bitCount_15 : decode cJ_bitCount 15 = .ok (.iload_n 0, 1) := by decide +kernel
theorem dJ_bitCount_16 : decode cJ_bitCount 16 = .ok (.iconst 2, 1) := by decide +kernel
theorem dJ_bitCount_17 : decode cJ_bitCount 17 = .ok (.iushr, 1) := by decide +kernel
theorem dJ_bitCount_18 : decode cJ_bitCount 18 = .ok (.ldc_w 266, 3) := by decide +kernel
theorem dJ_bitCount_21 : decode cJ_bitCount 21 = .ok (.iand, 1) := by decide +kernel
theorem dJ_bitCount_22 : decode cJ_bitCount 22 = .ok (.iadd, 1) := by decide +kernel
theorem dJ_bitCount_23 : decode cJ_bitCount 23 = .ok (.istore_n 0, 1) := by decide +kernel
theorem dJ_bitCount_24 : decode cJ_bitCount 24 = .ok (.iload_n 0, 1) := by decide +kernel
theorem dJ_bitCount_25 : decode cJ_bitCount 25 = .ok (.iload_n 0, 1) := by decide +kernel
theorem dJ_bitCount_26 : decode cJ_bitCount 26 = .ok (.iconst 4, 1) := by decide +kernel
theorem dJ_bitCount_27 : decode cJ_bitCount 27 = .ok (.iushr, 1) := by decide +kernel
theorem dJ_bitCount_28 : decode cJ_bitCount 28 = .ok (.iadd, 1) := by decide +kernel
theorem dJ_bitCount_29 : decode cJ_bitCount 29 = .ok (.ldc_w 267, 3) := by decide +kernel
theorem dJ_bitCount_32 : decode cJ_bitCount 32 = .ok (.iand, 1) := by decide +kernel
theorem dJ_bitCount_33 : decode cJ_bitCount 33 = .ok (.istore_n 0, 1) := by decide +kernel
theorem dJ_bitCount_34 : decode cJ_bitCount 34 = .ok (.iload_n 0, 1) := by decide +kernel
theorem dJ_bitCount_35 : decode cJ_bitCount 35 = .ok (.iload_n 0, 1) := by decide +kernel
theorem dJ_bitCount_36 : decode cJ_bitCount 36 = .ok (.bipush 8, 2) := by decide +kernel
theorem dJ_bitCount_38 : decode cJ_bitCount 38 = .ok (.iushr, 1) := by decide +kernel
theorem dJ_bitCount_39 : decode cJ_bitCount 39 = .ok (.iadd, 1) := by decide +kernel
theorem dJ_bitCount_40 : decode cJ_bitCount 40 = .ok (.istore_n 0, 1) := by decide +kernel
theorem dJ_bitCount_41 : decode cJ_bitCount 41 = .ok (.iload_n 0, 1) := by decide +kernel
theorem dJ_bitCount_42 : decode cJ_bitCount 42 = .ok (.iload_n 0, 1) := by decide +kernel
theorem dJ_bitCount_43 : decode cJ_bitCount 43 = .ok (.bipush 16, 2) := by decide +kernel
theorem dJ_bitCount_45 : decode cJ_bitCount 45 = .ok (.iushr, 1) := by decide +kernel
theorem dJ_bitCount_46 : decode cJ_bitCount 46 = .ok (.iadd, 1) := by decide +kernel
theorem dJ_bitCount_47 : decode cJ_bitCount 47 = .ok (.istore_n 0, 1) := by decide +kernel
theorem dJ_bitCount_48 : decode cJ_bitCount 48 = .ok (.iload_n 0, 1) := by decide +kernel
theorem dJ_bitCount_49 : decode cJ_bitCount 49 = .ok (.bipush 63, 2) := by decide +kernel
theorem dJ_bitCount_51 : decode cJ_bitCount 51 = .ok (.iand, 1) := by decide +kernel
theorem dJ_bitCount_52 : decode cJ_bitCount 52 = .ok (.ireturn, 1) := by decide +kernel
theorem dJ_floorDiv_0 : decode cJ_floorDiv 0 = .ok (.lload_n 0, 1) := by decide +kernel
theorem dJ_floorDiv_1 : decode cJ_floorDiv 1 = .ok (.lload_n 2, 1) := by decide +kernel
theorem dJ_floorDiv_2 : decode cJ_floorDiv 2 = .ok (.ldiv, 1) := by decide +kernel
theorem dJ_floorDiv_3 : decode cJ_floorDiv 3 = .ok (.lstore 4, 2) := by decide +kernel
theorem dJ_floorDiv_5 : decode cJ_floorDiv 5 = .ok (.lload_n 0, 1) := by decide +kernel
theorem dJ_floorDiv_6 : decode cJ_floorDiv 6 = .ok (.lload_n 2, 1) := by decide +kernel
theorem dJ_floorDiv_7 : decode cJ_floorDiv 7 = .ok (.lxor, 1) := by decide +kernel
theorem dJ_floorDiv_8 : decode cJ_floorDiv 8 = .ok (.lconst 0, 1) := by decide +kernel
theorem dJ_floorDiv_9 : decode cJ_floorDiv 9 = .ok (.lcmp, 1) := by decide +kernel
theorem dJ_floorDiv_10 : decode cJ_floorDiv 10 = .ok (.ifCond .ge 17, 3) := by decide +kernel
theorem dJ_floorDiv_13 : decode cJ_floorDiv 13 = .ok (.lload 4, 2) := by decide +kernel
theorem dJ_floorDiv_15 : decode cJ_floorDiv 15 = .ok (.lload_n 2, 1) := by decide +kernel
theorem dJ_floorDiv_16 : decode cJ_floorDiv 16 = .ok (.lmul, 1) := by decide +kernel
theorem dJ_floorDiv_17 : decode cJ_floorDiv 17 = .ok (.lload_n 0, 1) := by decide +kernel
theorem dJ_floorDiv_18 : decode cJ_floorDiv 18 = .ok (.lcmp, 1) := by decide +kernel
theorem dJ_floorDiv_19 : decode cJ_floorDiv 19 = .ok (.ifCond .eq 8, 3) := by decide +kernel
theorem dJ_floorDiv_22 : decode cJ_floorDiv 22 = .ok (.lload 4, 2) := by decide +kernel
theorem dJ_floorDiv_24 : decode cJ_floorDiv 24 = .ok (.lconst 1, 1) := by decide +kernel
theorem dJ_floorDiv_25 : decode cJ_floorDiv 25 = .ok (.lsub, 1) := by decide +kernel
theorem dJ_floorDiv_26 : decode cJ_floorDiv 26 = .ok (.lreturn, 1) := by decide +kernel
theorem dJ_floorDiv_27 : decode cJ_floorDiv 27 = .ok (.lload 4, 2) := by decide +kernel
theorem dJ_floorDiv_29 : decode cJ_floorDiv 29 = .ok (.lreturn, 1) := by decide +kernel
end
section
theorem dL_level_0 : decode cL_level 0 = .ok (.aload 5, 2) := by decide +kernel
theorem dL_level_2 : decode cL_level 2 = .ok (.iconst 0, 1) := by decide +kernel
theorem dL_level_3 : decode cL_level 3 = .ok (.aload_n 0, 1) := by decide +kernel
theorem dL_level_4 : decode cL_level 4 = .ok (.iload_n 1, 1) := by decide +kernel
theorem dL_level_5 : decode cL_level 5 = .ok (.lload_n 2, 1) := by decide +kernel
theorem dL_level_6 : decode cL_level 6 = .ok (.iload 4, 2) := by decide +kernel
theorem dL_level_8 : decode cL_level 8 = .ok (.invokevirtual 7, 3) := by decide +kernel
theorem dL_level_11 : decode cL_level 11 = .ok (.i2l, 1) := by decide +kernel
theorem dL_level_12 : decode cL_level 12 = .ok (.lastore, 1) := by decide +kernel
theorem dL_level_13 : decode cL_level 13 = .ok (.goto 11, 3) := by decide +kernel
theorem dL_level_16 : decode cL_level 16 = .ok (.astore 6, 2) := by decide +kernel
theorem dL_level_18 : decode cL_level 18 = .ok (.iconst 1, 1) := by decide +kernel
theorem dL_level_19 : decode cL_level 19 = .ok (.ireturn, 1) := by decide +kernel
theorem dL_level_20 : decode cL_level 20 = .ok (.astore 6, 2) := by decide +kernel
theorem dL_level_22 : decode cL_level 22 = .ok (.iconst 2, 1) := by decide +kernel
theorem dL_level_23 : decode cL_level 23 = .ok (.ireturn, 1) := by decide +kernel
theorem dL_level_24 : decode cL_level 24 = .ok (.iconst 0, 1) := by decide +kernel
theorem dL_level_25 : decode cL_level 25 = .ok (.ireturn, 1) := by decide +kernel
theorem dL_lookUp_0 : decode cL_lookUp 0 = .ok (.aload 5, 2) := by decide +kernel
theorem dL_lookUp_2 : decode cL_lookUp 2 = .ok (.iconst 0, 1) := by decide +kernel
theorem dL_lookUp_3 : decode cL_lookUp 3 = .ok (.aload_n 0, 1) := by decide +kernel
theorem dL_lookUp_4 : decode cL_lookUp 4 = .ok (.iload_n 1, 1) := by decide +kernel
theorem dL_lookUp_5 : decode cL_lookUp 5 = .ok (.iload_n 2, 1) := by decide +kernel
theorem dL_lookUp_6 : decode cL_lookUp 6 = .ok (.iload_n 3, 1) := by decide +kernel
theorem dL_lookUp_7 : decode cL_lookUp 7 = .ok (.iload 4, 2) := by decide +kernel
theorem dL_lookUp_9 : decode cL_lookUp 9 = .ok (.invokevirtual 17, 3) := by decide +kernel
theorem dL_lookUp_12 : decode cL_lookUp 12 = .ok (.i2l, 1) := by decide +kernel
theorem dL_lookUp_13 : decode cL_lookUp 13 = .ok (.lastore, 1) := by decide +kernel
theorem dL_lookUp_14 : decode cL_lookUp 14 = .ok (.goto 11, 3) := by decide +kernel
theorem dL_lookUp_17 : decode cL_lookUp 17 = .ok (.astore 6, 2) := by decide +kernel
theorem dL_lookUp_19 : decode cL_lookUp 19 = .ok (.iconst 1, 1) := by decide +kernel
theorem dL_lookUp_20 : decode cL_lookUp 20 = .ok (.ireturn, 1) := by decide +kernel
theorem dL_lookUp_21 : decode cL_lookUp 21 = .ok (.astore 6, 2) := by decide +kernel
theorem dL_lookUp_23 : decode cL_lookUp 23 = .ok (.iconst 2, 1) := by decide +kernel
theorem dL_lookUp_24 : decode cL_lookUp 24 = .ok (.ireturn, 1) := by decide +kernel
theorem dL_lookUp_25 : decode cL_lookUp 25 = .ok (.iconst 0, 1) := by decide +kernel
theorem dL_lookUp_26 : decode cL_lookUp 26 = .ok (.ireturn, 1) := by decide +kernel
theorem dL_texel_0 : decode cL_texel 0 = .ok (.aload 5, 2) := by decide +kernel
theorem dL_texel_2 : decode cL_texel 2 = .ok (.iconst 0, 1) := by decide +kernel
theorem dL_texel_3 : decode cL_texel 3 = .ok (.aload_n 0, 1) := by decide +kernel
theorem dL_texel_4 : decode cL_texel 4 = .ok (.iload_n 1, 1) := by decide +kernel
theorem dL_texel_5 : decode cL_texel 5 = .ok (.iload_n 2, 1) := by decide +kernel
theorem dL_texel_6 : decode cL_texel 6 = .ok (.iload_n 3, 1) := by decide +kernel
theorem dL_texel_7 : decode cL_texel 7 = .ok (.iload 4, 2) := by decide +kernel
theorem dL_texel_9 : decode cL_texel 9 = .ok (.invokevirtual 21, 3) := by decide +kernel
theorem dL_texel_12 : decode cL_texel 12 = .ok (.i2l, 1) := by decide +kernel
theorem dL_texel_13 : decode cL_texel 13 = .ok (.lastore, 1) := by decide +kernel
theorem dL_texel_14 : decode cL_texel 14 = .ok (.goto 7, 3) := by decide +kernel
theorem dL_texel_17 : decode cL_texel 17 = .ok (.astore 6, 2) := by decide +kernel
theorem dL_texel_19 : decode cL_texel 19 = .ok (.iconst 1, 1) := by decide +kernel
theorem dL_texel_20 : decode cL_texel 20 = .ok (.ireturn, 1) := by decide +kernel
theorem dL_texel_21 : decode cL_texel 21 = .ok (.iconst 0, 1) := by decide +kernel
theorem dL_texel_22 : decode cL_texel 22 = .ok (.ireturn, 1) := by decide +kernel
theorem dL_lit_0 : decode cL_lit 0 = .ok (.aload 4, 2) := by decide +kernel
theorem dL_lit_2 : decode cL_lit 2 = .ok (.iconst 0, 1) := by decide +kernel
theorem dL_lit_3 : decode cL_lit 3 = .ok (.aload_n 0, 1) := by decide +kernel
theorem dL_lit_4 : decode cL_lit 4 = .ok (.iload_n 1, 1) := by decide +kernel
theorem dL_lit_5 : decode cL_lit 5 = .ok (.iload_n 2, 1) := by decide +kernel
theorem dL_lit_6 : decode cL_lit 6 = .ok (.iload_n 3, 1) := by decide +kernel
theorem dL_lit_7 : decode cL_lit 7 = .ok (.invokevirtual 24, 3) := by decide +kernel
theorem dL_lit_10 : decode cL_lit 10 = .ok (.i2l, 1) := by decide +kernel
theorem dL_lit_11 : decode cL_lit 11 = .ok (.lastore, 1) := by decide +kernel
theorem dL_lit_12 : decode cL_lit 12 = .ok (.goto 7, 3) := by decide +kernel
theorem dL_lit_15 : decode cL_lit 15 = .ok (.astore 5, 2) := by decide +kernel
theorem dL_lit_17 : decode cL_lit 17 = .ok (.iconst 1, 1) := by decide +kernel
theorem dL_lit_18 : decode cL_lit 18 = .ok (.ireturn, 1) := by decide +kernel
theorem dL_lit_19 : decode cL_lit 19 = .ok (.iconst 0, 1) := by decide +kernel
theorem dL_lit_20 : decode cL_lit 20 = .ok (.ireturn, 1) := by decide +kernel
theorem dL_law_0 : decode cL_law 0 = .ok (.new 8, 3) := by decide +kernel
theorem dL_law_3 : decode cL_law 3 = .ok (.dup, 1) := by decide +kernel
theorem dL_law_4 : decode cL_law 4 = .ok (.invokespecial 28, 3) := by decide +kernel
theorem dL_law_7 : decode cL_law 7 = .ok (.astore_n 1, 1) := by decide +kernel
theorem dL_law_8 : decode cL_law 8 = .ok (.new 29, 3) := by decide +kernel
theorem dL_law_11 : decode cL_law 11 = .ok (.dup, 1) := by decide +kernel
theorem dL_law_12 : decode cL_law 12 = .ok (.invokespecial 31, 3) := by decide +kernel
theorem dL_law_15 : decode cL_law 15 = .ok (.astore_n 2, 1) := by decide +kernel
theorem dL_law_16 : decode cL_law 16 = .ok (.iconst 1, 1) := by decide +kernel
theorem dL_law_17 : decode cL_law 17 = .ok (.newarray .long, 2) := by decide +kernel
theorem dL_law_19 : decode cL_law 19 = .ok (.astore_n 3, 1) := by decide +kernel
theorem dL_law_20 : decode cL_law 20 = .ok (.iconst 0, 1) := by decide +kernel
theorem dL_law_21 : decode cL_law 21 = .ok (.istore 4, 2) := by decide +kernel
theorem dL_law_23 : decode cL_law 23 = .ok (.iload 4, 2) := by decide +kernel
theorem dL_law_25 : decode cL_law 25 = .ok (.aload_n 0, 1) := by decide +kernel
theorem dL_law_26 : decode cL_law 26 = .ok (.arraylength, 1) := by decide +kernel
theorem dL_law_27 : decode cL_law 27 = .ok (.iconst 5, 1) := by decide +kernel
theorem dL_law_28 : decode cL_law 28 = .ok (.isub, 1) := by decide +kernel
theorem dL_law_29 : decode cL_law 29 = .ok (.if_icmp .gt 612, 3) := by decide +kernel
theorem dL_law_32 : decode cL_law 32 = .ok (.aload_n 0, 1) := by decide +kernel
theorem dL_law_33 : decode cL_law 33 = .ok (.iload 4, 2) := by decide +kernel
theorem dL_law_35 : decode cL_law 35 = .ok (.iaload, 1) := by decide +kernel
theorem dL_law_36 : decode cL_law 36 = .ok (.bipush 15, 2) := by decide +kernel
theorem dL_law_38 : decode cL_law 38 = .ok (.iand, 1) := by decide +kernel
theorem dL_law_39 : decode cL_law 39 = .ok (.tableswitch 596 0 8 #[49, 98, 147, 158, 270, 362, 454, 534, 571], 49) := by decide +kernel
theorem dL_law_88 : decode cL_law 88 = .ok (.aload_n 1, 1) := by decide +kernel
theorem dL_law_89 : decode cL_law 89 = .ok (.aload_n 0, 1) := by decide +kernel
theorem dL_law_90 : decode cL_law 90 = .ok (.iload 4, 2) := by decide +kernel
theorem dL_law_92 : decode cL_law 92 = .ok (.iconst 1, 1) := by decide +kernel
theorem dL_law_93 : decode cL_law 93 = .ok (.iadd, 1) := by decide +kernel
theorem dL_law_94 : decode cL_law 94 = .ok (.iaload, 1) := by decide +kernel
theorem dL_law_95 : decode cL_law 95 = .ok (.aload_n 0, 1) := by decide +kernel
theorem dL_law_96 : decode cL_law 96 = .ok (.iload 4, 2) := by decide +kernel
theorem dL_law_98 : decode cL_law 98 = .ok (.iconst 2, 1) := by decide +kernel
theorem dL_law_99 : decode cL_law 99 = .ok (.iadd, 1) := by decide +kernel
theorem dL_law_100 : decode cL_law 100 = .ok (.iaload, 1) := by decide +kernel
theorem dL_law_101 : decode cL_law 101 = .ok (.aload_n 0, 1) := by decide +kernel
theorem dL_law_102 : decode cL_law 102 = .ok (.iload 4, 2) := by decide +kernel
theorem dL_law_104 : decode cL_law 104 = .ok (.iconst 3, 1) := by decide +kernel
theorem dL_law_105 : decode cL_law 105 = .ok (.iadd, 1) := by decide +kernel
theorem dL_law_106 : decode cL_law 106 = .ok (.iaload, 1) := by decide +kernel
theorem dL_law_107 : decode cL_law 107 = .ok (.invokevirtual 32, 3) := by decide +kernel
theorem dL_law_110 : decode cL_law 110 = .ok (.aload_n 2, 1) := by decide +kernel
theorem dL_law_111 : decode cL_law 111 = .ok (.aload_n 0, 1) := by decide +kernel
theorem dL_law_112 : decode cL_law 112 = .ok (.iload 4, 2) := by decide +kernel
theorem dL_law_114 : decode cL_law 114 = .ok (.iconst 1, 1) := by decide +kernel
theorem dL_law_115 : decode cL_law 115 = .ok (.iadd, 1) := by decide +kernel
theorem dL_law_116 : decode cL_law 116 = .ok (.iaload, 1) := by decide +kernel
theorem dL_law_117 : decode cL_law 117 = .ok (.aload_n 0, 1) := by decide +kernel
theorem dL_law_118 : decode cL_law 118 = .ok (.iload 4, 2) := by decide +kernel
theorem dL_law_120 : decode cL_law 120 = .ok (.iconst 2, 1) := by decide +kernel
theorem dL_law_121 : decode cL_law 121 = .ok (.iadd, 1) := by decide +kernel
theorem dL_law_122 : decode cL_law 122 = .ok (.iaload, 1) := by decide +kernel
theorem dL_law_123 : decode cL_law 123 = .ok (.aload_n 0, 1) := by decide +kernel
theorem dL_law_124 : decode cL_law 124 = .ok (.iload 4, 2) := by decide +kernel
theorem dL_law_126 : decode cL_law 126 = .ok (.iconst 3, 1) := by decide +kernel
theorem dL_law_127 : decode cL_law 127 = .ok (.iadd, 1) := by decide +kernel
theorem dL_law_128 : decode cL_law 128 = .ok (.iaload, 1) := by decide +kernel
theorem dL_law_129 : decode cL_law 129 = .ok (.invokevirtual 35, 3) := by decide +kernel
theorem dL_law_132 : decode cL_law 132 = .ok (.if_icmp .eq 503, 3) := by decide +kernel
theorem dL_law_135 : decode cL_law 135 = .ok (.iconst 0, 1) := by decide +kernel
theorem dL_law_136 : decode cL_law 136 = .ok (.ireturn, 1) := by decide +kernel
theorem dL_law_137 : decode cL_law 137 = .ok (.aload_n 1, 1) := by decide +kernel
theorem dL_law_138 : decode cL_law 138 = .ok (.aload_n 0, 1) := by decide +kernel
theorem dL_law_139 : decode cL_law 139 = .ok (.iload 4, 2) := by decide +kernel
theorem dL_law_141 : decode cL_law 141 = .ok (.iconst 1, 1) := by decide +kernel
theorem dL_law_142 : decode cL_law 142 = .ok (.iadd, 1) := by decide +kernel
theorem dL_law_143 : decode cL_law 143 = .ok (.iaload, 1) := by decide +kernel
theorem dL_law_144 : decode cL_law 144 = .ok (.aload_n 0, 1) := by decide +kernel
theorem dL_law_145 : decode cL_law 145 = .ok (.iload 4, 2) := by decide +kernel
theorem dL_law_147 : decode cL_law 147 = .ok (.iconst 2, 1) := by decide +kernel
theorem dL_law_148 : decode cL_law 148 = .ok (.iadd, 1) := by decide +kernel
theorem dL_law_149 : decode cL_law 149 = .ok (.iaload, 1) := by decide +kernel
theorem dL_law_150 : decode cL_law 150 = .ok (.aload_n 0, 1) := by decide +kernel
theorem dL_law_151 : decode cL_law 151 = .ok (.iload 4, 2) := by decide +kernel
theorem dL_law_153 : decode cL_law 153 = .ok (.iconst 3, 1) := by decide +kernel
theorem dL_law_154 : decode cL_law 154 = .ok (.iadd, 1) := by decide +kernel
theorem dL_law_155 : decode cL_law 155 = .ok (.iaload, 1) := by decide +kernel
theorem dL_law_156 : decode cL_law 156 = .ok (.invokevirtual 36, 3) := by decide +kernel
theorem dL_law_159 : decode cL_law 159 = .ok (.aload_n 2, 1) := by decide +kernel
theorem dL_law_160 : decode cL_law 160 = .ok (.aload_n 0, 1) := by decide +kernel
theorem dL_law_161 : decode cL_law 161 = .ok (.iload 4, 2) := by decide +kernel
theorem dL_law_163 : decode cL_law 163 = .ok (.iconst 1, 1) := by decide +kernel
theorem dL_law_164 : decode cL_law 164 = .ok (.iadd, 1) := by decide +kernel
theorem dL_law_165 : decode cL_law 165 = .ok (.iaload, 1) := by decide +kernel
theorem dL_law_166 : decode cL_law 166 = .ok (.aload_n 0, 1) := by decide +kernel
theorem dL_law_167 : decode cL_law 167 = .ok (.iload 4, 2) := by decide +kernel
theorem dL_law_169 : decode cL_law 169 = .ok (.iconst 2, 1) := by decide +kernel
theorem dL_law_170 : decode cL_law 170 = .ok (.iadd, 1) := by decide +kernel
theorem dL_law_171 : decode cL_law 171 = .ok (.iaload, 1) := by decide +kernel
theorem dL_law_172 : decode cL_law 172 = .ok (.aload_n 0, 1) := by decide +kernel
theorem dL_law_173 : decode cL_law 173 = .ok (.iload 4, 2) := by decide +kernel
theorem dL_law_175 : decode cL_law 175 = .ok (.iconst 3, 1) := by decide +kernel
theorem dL_law_176 : decode cL_law 176 = .ok (.iadd, 1) := by decide +kernel
theorem dL_law_177 : decode cL_law 177 = .ok (.iaload, 1) := by decide +kernel
theorem dL_law_178 : decode cL_law 178 = .ok (.invokevirtual 39, 3) := by decide +kernel
theorem dL_law_181 : decode cL_law 181 = .ok (.if_icmp .eq 454, 3) := by decide +kernel
theorem dL_law_184 : decode cL_law 184 = .ok (.iconst 0, 1) := by decide +kernel
theorem dL_law_185 : decode cL_law 185 = .ok (.ireturn, 1) := by decide +kernel
theorem dL_law_186 : decode cL_law 186 = .ok (.aload_n 1, 1) := by decide +kernel
theorem dL_law_187 : decode cL_law 187 = .ok (.invokevirtual 40, 3) := by decide +kernel
theorem dL_law_190 : decode cL_law 190 = .ok (.aload_n 2, 1) := by decide +kernel
theorem dL_law_191 : decode cL_law 191 = .ok (.invokevirtual 43, 3) := by decide +kernel
theorem dL_law_194 : decode cL_law 194 = .ok (.goto 441, 3) := by decide +kernel
theorem dL_law_197 : decode cL_law 197 = .ok (.aload_n 1, 1) := by decide +kernel
theorem dL_law_198 : decode cL_law 198 = .ok (.aload_n 0, 1) := by decide +kernel
theorem dL_law_199 : decode cL_law 199 = .ok (.iload 4, 2) := by decide +kernel
theorem dL_law_201 : decode cL_law 201 = .ok (.iconst 1, 1) := by decide +kernel
theorem dL_law_202 : decode cL_law 202 = .ok (.iadd, 1) := by decide +kernel
theorem dL_law_203 : decode cL_law 203 = .ok (.iaload, 1) := by decide +kernel
theorem dL_law_204 : decode cL_law 204 = .ok (.aload_n 0, 1) := by decide +kernel
theorem dL_law_205 : decode cL_law 205 = .ok (.iload 4, 2) := by decide +kernel
theorem dL_law_207 : decode cL_law 207 = .ok (.iconst 2, 1) := by decide +kernel
theorem dL_law_208 : decode cL_law 208 = .ok (.iadd, 1) := by decide +kernel
theorem dL_law_209 : decode cL_law 209 = .ok (.iaload, 1) := by decide +kernel
theorem dL_law_210 : decode cL_law 210 = .ok (.i2l, 1) := by decide +kernel
theorem dL_law_211 : decode cL_law 211 = .ok (.bipush 32, 2) := by decide +kernel
theorem dL_law_213 : decode cL_law 213 = .ok (.lshl, 1) := by decide +kernel
theorem dL_law_214 : decode cL_law 214 = .ok (.aload_n 0, 1) := by decide +kernel
theorem dL_law_215 : decode cL_law 215 = .ok (.iload 4, 2) := by decide +kernel
theorem dL_law_217 : decode cL_law 217 = .ok (.iconst 3, 1) := by decide +kernel
theorem dL_law_218 : decode cL_law 218 = .ok (.iadd, 1) := by decide +kernel
theorem dL_law_219 : decode cL_law 219 = .ok (.iaload, 1) := by decide +kernel
theorem dL_law_220 : decode cL_law 220 = .ok (.i2l, 1) := by decide +kernel
theorem dL_law_221 : decode cL_law 221 = .ok (.ldc2_w 44, 3) := by decide +kernel
theorem dL_law_224 : decode cL_law 224 = .ok (.land, 1) := by decide +kernel
theorem dL_law_225 : decode cL_law 225 = .ok (.lor, 1) := by decide +kernel
theorem dL_law_226 : decode cL_law 226 = .ok (.aload_n 0, 1) := by decide +kernel
theorem dL_law_227 : decode cL_law 227 = .ok (.iload 4, 2) := by decide +kernel
theorem dL_law_229 : decode cL_law 229 = .ok (.iconst 4, 1) := by decide +kernel
theorem dL_law_230 : decode cL_law 230 = .ok (.iadd, 1) := by decide +kernel
theorem dL_law_231 : decode cL_law 231 = .ok (.iaload, 1) := by decide +kernel
theorem dL_law_232 : decode cL_law 232 = .ok (.aload_n 3, 1) := by decide +kernel
theorem dL_law_233 : decode cL_law 233 = .ok (.invokestatic 46, 3) := by decide +kernel
theorem dL_law_236 : decode cL_law 236 = .ok (.istore 5, 2) := by decide +kernel
theorem dL_law_238 : decode cL_law 238 = .ok (.aload_n 2, 1) := by decide +kernel
theorem dL_law_239 : decode cL_law 239 = .ok (.aload_n 0, 1) := by decide +kernel
theorem dL_law_240 : decode cL_law 240 = .ok (.iload 4, 2) := by decide +kernel
theorem dL_law_242 : decode cL_law 242 = .ok (.iconst 1, 1) := by decide +kernel
theorem dL_law_243 : decode cL_law 243 = .ok (.iadd, 1) := by decide +kernel
theorem dL_law_244 : decode cL_law 244 = .ok (.iaload, 1) := by decide +kernel
theorem dL_law_245 : decode cL_law 245 = .ok (.aload_n 0, 1) := by decide +kernel
theorem dL_law_246 : decode cL_law 246 = .ok (.iload 4, 2) := by decide +kernel
theorem dL_law_248 : decode cL_law 248 = .ok (.iconst 2, 1) := by decide +kernel
theorem dL_law_249 : decode cL_law 249 = .ok (.iadd, 1) := by decide +kernel
theorem dL_law_250 : decode cL_law 250 = .ok (.iaload, 1) := by decide +kernel
theorem dL_law_251 : decode cL_law 251 = .ok (.i2l, 1) := by decide +kernel
theorem dL_law_252 : decode cL_law 252 = .ok (.bipush 32, 2) := by decide +kernel
theorem dL_law_254 : decode cL_law 254 = .ok (.lshl, 1) := by decide +kernel
theorem dL_law_255 : decode cL_law 255 = .ok (.aload_n 0, 1) := by decide +kernel
theorem dL_law_256 : decode cL_law 256 = .ok (.iload 4, 2) := by decide +kernel
theorem dL_law_258 : decode cL_law 258 = .ok (.iconst 3, 1) := by decide +kernel
theorem dL_law_259 : decode cL_law 259 = .ok (.iadd, 1) := by decide +kernel
theorem dL_law_260 : decode cL_law 260 = .ok (.iaload, 1) := by decide +kernel
theorem dL_law_261 : decode cL_law 261 = .ok (.i2l, 1) := by decide +kernel
theorem dL_law_262 : decode cL_law 262 = .ok (.ldc2_w 44, 3) := by decide +kernel
theorem dL_law_265 : decode cL_law 265 = .ok (.land, 1) := by decide +kernel
theorem dL_law_266 : decode cL_law 266 = .ok (.lor, 1) := by decide +kernel
theorem dL_law_267 : decode cL_law 267 = .ok (.aload_n 0, 1) := by decide +kernel
theorem dL_law_268 : decode cL_law 268 = .ok (.iload 4, 2) := by decide +kernel
theorem dL_law_270 : decode cL_law 270 = .ok (.iconst 4, 1) := by decide +kernel
theorem dL_law_271 : decode cL_law 271 = .ok (.iadd, 1) := by decide +kernel
theorem dL_law_272 : decode cL_law 272 = .ok (.iaload, 1) := by decide +kernel
theorem dL_law_273 : decode cL_law 273 = .ok (.invokevirtual 51, 3) := by decide +kernel
theorem dL_law_276 : decode cL_law 276 = .ok (.istore 6, 2) := by decide +kernel
theorem dL_law_278 : decode cL_law 278 = .ok (.aload_n 2, 1) := by decide +kernel
theorem dL_law_279 : decode cL_law 279 = .ok (.invokevirtual 52, 3) := by decide +kernel
theorem dL_law_282 : decode cL_law 282 = .ok (.iload 5, 2) := by decide +kernel
theorem dL_law_284 : decode cL_law 284 = .ok (.if_icmp .eq 5, 3) := by decide +kernel
theorem dL_law_287 : decode cL_law 287 = .ok (.iconst 0, 1) := by decide +kernel
theorem dL_law_288 : decode cL_law 288 = .ok (.ireturn, 1) := by decide +kernel
theorem dL_law_289 : decode cL_law 289 = .ok (.iload 5, 2) := by decide +kernel
theorem dL_law_291 : decode cL_law 291 = .ok (.ifCond .ne 15, 3) := by decide +kernel
theorem dL_law_294 : decode cL_law 294 = .ok (.aload_n 3, 1) := by decide +kernel
theorem dL_law_295 : decode cL_law 295 = .ok (.iconst 0, 1) := by decide +kernel
theorem dL_law_296 : decode cL_law 296 = .ok (.laload, 1) := by decide +kernel
theorem dL_law_297 : decode cL_law 297 = .ok (.iload 6, 2) := by decide +kernel
theorem dL_law_299 : decode cL_law 299 = .ok (.i2l, 1) := by decide +kernel
theorem dL_law_300 : decode cL_law 300 = .ok (.lcmp, 1) := by decide +kernel
theorem dL_law_301 : decode cL_law 301 = .ok (.ifCond .eq 5, 3) := by decide +kernel
theorem dL_law_304 : decode cL_law 304 = .ok (.iconst 0, 1) := by decide +kernel
theorem dL_law_305 : decode cL_law 305 = .ok (.ireturn, 1) := by decide +kernel
theorem dL_law_306 : decode cL_law 306 = .ok (.goto 329, 3) := by decide +kernel
theorem dL_law_309 : decode cL_law 309 = .ok (.aload_n 1, 1) := by decide +kernel
theorem dL_law_310 : decode cL_law 310 = .ok (.aload_n 0, 1) := by decide +kernel
theorem dL_law_311 : decode cL_law 311 = .ok (.iload 4, 2) := by decide +kernel
theorem dL_law_313 : decode cL_law 313 = .ok (.iconst 1, 1) := by decide +kernel
theorem dL_law_314 : decode cL_law 314 = .ok (.iadd, 1) := by decide +kernel
theorem dL_law_315 : decode cL_law 315 = .ok (.iaload, 1) := by decide +kernel
theorem dL_law_316 : decode cL_law 316 = .ok (.aload_n 0, 1) := by decide +kernel
theorem dL_law_317 : decode cL_law 317 = .ok (.iload 4, 2) := by decide +kernel
theorem dL_law_319 : decode cL_law 319 = .ok (.iconst 2, 1) := by decide +kernel
theorem dL_law_320 : decode cL_law 320 = .ok (.iadd, 1) := by decide +kernel
theorem dL_law_321 : decode cL_law 321 = .ok (.iaload, 1) := by decide +kernel
theorem dL_law_322 : decode cL_law 322 = .ok (.aload_n 0, 1) := by decide +kernel
theorem dL_law_323 : decode cL_law 323 = .ok (.iload 4, 2) := by decide +kernel
theorem dL_law_325 : decode cL_law 325 = .ok (.iconst 3, 1) := by decide +kernel
theorem dL_law_326 : decode cL_law 326 = .ok (.iadd, 1) := by decide +kernel
theorem dL_law_327 : decode cL_law 327 = .ok (.iaload, 1) := by decide +kernel
theorem dL_law_328 : decode cL_law 328 = .ok (.aload_n 0, 1) := by decide +kernel
theorem dL_law_329 : decode cL_law 329 = .ok (.iload 4, 2) := by decide +kernel
theorem dL_law_331 : decode cL_law 331 = .ok (.iconst 4, 1) := by decide +kernel
theorem dL_law_332 : decode cL_law 332 = .ok (.iadd, 1) := by decide +kernel
theorem dL_law_333 : decode cL_law 333 = .ok (.iaload, 1) := by decide +kernel
theorem dL_law_334 : decode cL_law 334 = .ok (.aload_n 3, 1) := by decide +kernel
theorem dL_law_335 : decode cL_law 335 = .ok (.invokestatic 56, 3) := by decide +kernel
theorem dL_law_338 : decode cL_law 338 = .ok (.istore 5, 2) := by decide +kernel
theorem dL_law_340 : decode cL_law 340 = .ok (.aload_n 2, 1) := by decide +kernel
theorem dL_law_341 : decode cL_law 341 = .ok (.aload_n 0, 1) := by decide +kernel
theorem dL_law_342 : decode cL_law 342 = .ok (.iload 4, 2) := by decide +kernel
theorem dL_law_344 : decode cL_law 344 = .ok (.iconst 1, 1) := by decide +kernel
theorem dL_law_345 : decode cL_law 345 = .ok (.iadd, 1) := by decide +kernel
theorem dL_law_346 : decode cL_law 346 = .ok (.iaload, 1) := by decide +kernel
theorem dL_law_347 : decode cL_law 347 = .ok (.aload_n 0, 1) := by decide +kernel
theorem dL_law_348 : decode cL_law 348 = .ok (.iload 4, 2) := by decide +kernel
theorem dL_law_350 : decode cL_law 350 = .ok (.iconst 2, 1) := by decide +kernel
theorem dL_law_351 : decode cL_law 351 = .ok (.iadd, 1) := by decide +kernel
theorem dL_law_352 : decode cL_law 352 = .ok (.iaload, 1) := by decide +kernel
theorem dL_law_353 : decode cL_law 353 = .ok (.aload_n 0, 1) := by decide +kernel
theorem dL_law_354 : decode cL_law 354 = .ok (.iload 4, 2) := by decide +kernel
theorem dL_law_356 : decode cL_law 356 = .ok (.iconst 3, 1) := by decide +kernel
theorem dL_law_357 : decode cL_law 357 = .ok (.iadd, 1) := by decide +kernel
theorem dL_law_358 : decode cL_law 358 = .ok (.iaload, 1) := by decide +kernel
theorem dL_law_359 : decode cL_law 359 = .ok (.aload_n 0, 1) := by decide +kernel
theorem dL_law_360 : decode cL_law 360 = .ok (.iload 4, 2) := by decide +kernel
theorem dL_law_362 : decode cL_law 362 = .ok (.iconst 4, 1) := by decide +kernel
theorem dL_law_363 : decode cL_law 363 = .ok (.iadd, 1) := by decide +kernel
theorem dL_law_364 : decode cL_law 364 = .ok (.iaload, 1) := by decide +kernel
theorem dL_law_365 : decode cL_law 365 = .ok (.invokevirtual 59, 3) := by decide +kernel
theorem dL_law_368 : decode cL_law 368 = .ok (.istore 6, 2) := by decide +kernel
theorem dL_law_370 : decode cL_law 370 = .ok (.aload_n 2, 1) := by decide +kernel
theorem dL_law_371 : decode cL_law 371 = .ok (.invokevirtual 52, 3) := by decide +kernel
theorem dL_law_374 : decode cL_law 374 = .ok (.iload 5, 2) := by decide +kernel
theorem dL_law_376 : decode cL_law 376 = .ok (.if_icmp .eq 5, 3) := by decide +kernel
theorem dL_law_379 : decode cL_law 379 = .ok (.iconst 0, 1) := by decide +kernel
theorem dL_law_380 : decode cL_law 380 = .ok (.ireturn, 1) := by decide +kernel
theorem dL_law_381 : decode cL_law 381 = .ok (.iload 5, 2) := by decide +kernel
theorem dL_law_383 : decode cL_law 383 = .ok (.ifCond .ne 15, 3) := by decide +kernel
theorem dL_law_386 : decode cL_law 386 = .ok (.aload_n 3, 1) := by decide +kernel
theorem dL_law_387 : decode cL_law 387 = .ok (.iconst 0, 1) := by decide +kernel
theorem dL_law_388 : decode cL_law 388 = .ok (.laload, 1) := by decide +kernel
theorem dL_law_389 : decode cL_law 389 = .ok (.iload 6, 2) := by decide +kernel
theorem dL_law_391 : decode cL_law 391 = .ok (.i2l, 1) := by decide +kernel
theorem dL_law_392 : decode cL_law 392 = .ok (.lcmp, 1) := by decide +kernel
theorem dL_law_393 : decode cL_law 393 = .ok (.ifCond .eq 5, 3) := by decide +kernel
theorem dL_law_396 : decode cL_law 396 = .ok (.iconst 0, 1) := by decide +kernel
theorem dL_law_397 : decode cL_law 397 = .ok (.ireturn, 1) := by decide +kernel
theorem dL_law_398 : decode cL_law 398 = .ok (.goto 237, 3) := by decide +kernel
theorem dL_law_401 : decode cL_law 401 = .ok (.aload_n 1, 1) := by decide +kernel
theorem dL_law_402 : decode cL_law 402 = .ok (.aload_n 0, 1) := by decide +kernel
theorem dL_law_403 : decode cL_law 403 = .ok (.iload 4, 2) := by decide +kernel
theorem dL_law_405 : decode cL_law 405 = .ok (.iconst 1, 1) := by decide +kernel
theorem dL_law_406 : decode cL_law 406 = .ok (.iadd, 1) := by decide +kernel
theorem dL_law_407 : decode cL_law 407 = .ok (.iaload, 1) := by decide +kernel
theorem dL_law_408 : decode cL_law 408 = .ok (.aload_n 0, 1) := by decide +kernel
theorem dL_law_409 : decode cL_law 409 = .ok (.iload 4, 2) := by decide +kernel
theorem dL_law_411 : decode cL_law 411 = .ok (.iconst 2, 1) := by decide +kernel
theorem dL_law_412 : decode cL_law 412 = .ok (.iadd, 1) := by decide +kernel
theorem dL_law_413 : decode cL_law 413 = .ok (.iaload, 1) := by decide +kernel
theorem dL_law_414 : decode cL_law 414 = .ok (.aload_n 0, 1) := by decide +kernel
theorem dL_law_415 : decode cL_law 415 = .ok (.iload 4, 2) := by decide +kernel
theorem dL_law_417 : decode cL_law 417 = .ok (.iconst 3, 1) := by decide +kernel
theorem dL_law_418 : decode cL_law 418 = .ok (.iadd, 1) := by decide +kernel
theorem dL_law_419 : decode cL_law 419 = .ok (.iaload, 1) := by decide +kernel
theorem dL_law_420 : decode cL_law 420 = .ok (.aload_n 0, 1) := by decide +kernel
theorem dL_law_421 : decode cL_law 421 = .ok (.iload 4, 2) := by decide +kernel
theorem dL_law_423 : decode cL_law 423 = .ok (.iconst 4, 1) := by decide +kernel
theorem dL_law_424 : decode cL_law 424 = .ok (.iadd, 1) := by decide +kernel
theorem dL_law_425 : decode cL_law 425 = .ok (.iaload, 1) := by decide +kernel
theorem dL_law_426 : decode cL_law 426 = .ok (.aload_n 3, 1) := by decide +kernel
theorem dL_law_427 : decode cL_law 427 = .ok (.invokestatic 60, 3) := by decide +kernel
theorem dL_law_430 : decode cL_law 430 = .ok (.istore 5, 2) := by decide +kernel
theorem dL_law_432 : decode cL_law 432 = .ok (.aload_n 2, 1) := by decide +kernel
theorem dL_law_433 : decode cL_law 433 = .ok (.aload_n 0, 1) := by decide +kernel
theorem dL_law_434 : decode cL_law 434 = .ok (.iload 4, 2) := by decide +kernel
theorem dL_law_436 : decode cL_law 436 = .ok (.iconst 1, 1) := by decide +kernel
theorem dL_law_437 : decode cL_law 437 = .ok (.iadd, 1) := by decide +kernel
theorem dL_law_438 : decode cL_law 438 = .ok (.iaload, 1) := by decide +kernel
theorem dL_law_439 : decode cL_law 439 = .ok (.aload_n 0, 1) := by decide +kernel
theorem dL_law_440 : decode cL_law 440 = .ok (.iload 4, 2) := by decide +kernel
theorem dL_law_442 : decode cL_law 442 = .ok (.iconst 2, 1) := by decide +kernel
theorem dL_law_443 : decode cL_law 443 = .ok (.iadd, 1) := by decide +kernel
theorem dL_law_444 : decode cL_law 444 = .ok (.iaload, 1) := by decide +kernel
theorem dL_law_445 : decode cL_law 445 = .ok (.aload_n 0, 1) := by decide +kernel
theorem dL_law_446 : decode cL_law 446 = .ok (.iload 4, 2) := by decide +kernel
theorem dL_law_448 : decode cL_law 448 = .ok (.iconst 3, 1) := by decide +kernel
theorem dL_law_449 : decode cL_law 449 = .ok (.iadd, 1) := by decide +kernel
theorem dL_law_450 : decode cL_law 450 = .ok (.iaload, 1) := by decide +kernel
theorem dL_law_451 : decode cL_law 451 = .ok (.aload_n 0, 1) := by decide +kernel
theorem dL_law_452 : decode cL_law 452 = .ok (.iload 4, 2) := by decide +kernel
theorem dL_law_454 : decode cL_law 454 = .ok (.iconst 4, 1) := by decide +kernel
theorem dL_law_455 : decode cL_law 455 = .ok (.iadd, 1) := by decide +kernel
theorem dL_law_456 : decode cL_law 456 = .ok (.iaload, 1) := by decide +kernel
theorem dL_law_457 : decode cL_law 457 = .ok (.invokevirtual 62, 3) := by decide +kernel
theorem dL_law_460 : decode cL_law 460 = .ok (.istore 6, 2) := by decide +kernel
theorem dL_law_462 : decode cL_law 462 = .ok (.aload_n 2, 1) := by decide +kernel
theorem dL_law_463 : decode cL_law 463 = .ok (.invokevirtual 52, 3) := by decide +kernel
theorem dL_law_466 : decode cL_law 466 = .ok (.iload 5, 2) := by decide +kernel
theorem dL_law_468 : decode cL_law 468 = .ok (.if_icmp .eq 5, 3) := by decide +kernel
theorem dL_law_471 : decode cL_law 471 = .ok (.iconst 0, 1) := by decide +kernel
theorem dL_law_472 : decode cL_law 472 = .ok (.ireturn, 1) := by decide +kernel
theorem dL_law_473 : decode cL_law 473 = .ok (.iload 5, 2) := by decide +kernel
theorem dL_law_475 : decode cL_law 475 = .ok (.ifCond .ne 15, 3) := by decide +kernel
theorem dL_law_478 : decode cL_law 478 = .ok (.aload_n 3, 1) := by decide +kernel
theorem dL_law_479 : decode cL_law 479 = .ok (.iconst 0, 1) := by decide +kernel
theorem dL_law_480 : decode cL_law 480 = .ok (.laload, 1) := by decide +kernel
theorem dL_law_481 : decode cL_law 481 = .ok (.iload 6, 2) := by decide +kernel
theorem dL_law_483 : decode cL_law 483 = .ok (.i2l, 1) := by decide +kernel
theorem dL_law_484 : decode cL_law 484 = .ok (.lcmp, 1) := by decide +kernel
theorem dL_law_485 : decode cL_law 485 = .ok (.ifCond .eq 5, 3) := by decide +kernel
theorem dL_law_488 : decode cL_law 488 = .ok (.iconst 0, 1) := by decide +kernel
theorem dL_law_489 : decode cL_law 489 = .ok (.ireturn, 1) := by decide +kernel
theorem dL_law_490 : decode cL_law 490 = .ok (.goto 145, 3) := by decide +kernel
theorem dL_law_493 : decode cL_law 493 = .ok (.aload_n 1, 1) := by decide +kernel
theorem dL_law_494 : decode cL_law 494 = .ok (.aload_n 0, 1) := by decide +kernel
theorem dL_law_495 : decode cL_law 495 = .ok (.iload 4, 2) := by decide +kernel
theorem dL_law_497 : decode cL_law 497 = .ok (.iconst 1, 1) := by decide +kernel
theorem dL_law_498 : decode cL_law 498 = .ok (.iadd, 1) := by decide +kernel
theorem dL_law_499 : decode cL_law 499 = .ok (.iaload, 1) := by decide +kernel
theorem dL_law_500 : decode cL_law 500 = .ok (.aload_n 0, 1) := by decide +kernel
theorem dL_law_501 : decode cL_law 501 = .ok (.iload 4, 2) := by decide +kernel
theorem dL_law_503 : decode cL_law 503 = .ok (.iconst 2, 1) := by decide +kernel
theorem dL_law_504 : decode cL_law 504 = .ok (.iadd, 1) := by decide +kernel
theorem dL_law_505 : decode cL_law 505 = .ok (.iaload, 1) := by decide +kernel
theorem dL_law_506 : decode cL_law 506 = .ok (.aload_n 0, 1) := by decide +kernel
theorem dL_law_507 : decode cL_law 507 = .ok (.iload 4, 2) := by decide +kernel
theorem dL_law_509 : decode cL_law 509 = .ok (.iconst 3, 1) := by decide +kernel
theorem dL_law_510 : decode cL_law 510 = .ok (.iadd, 1) := by decide +kernel
theorem dL_law_511 : decode cL_law 511 = .ok (.iaload, 1) := by decide +kernel
theorem dL_law_512 : decode cL_law 512 = .ok (.aload_n 3, 1) := by decide +kernel
theorem dL_law_513 : decode cL_law 513 = .ok (.invokestatic 63, 3) := by decide +kernel
theorem dL_law_516 : decode cL_law 516 = .ok (.istore 5, 2) := by decide +kernel
theorem dL_law_518 : decode cL_law 518 = .ok (.aload_n 2, 1) := by decide +kernel
theorem dL_law_519 : decode cL_law 519 = .ok (.aload_n 0, 1) := by decide +kernel
theorem dL_law_520 : decode cL_law 520 = .ok (.iload 4, 2) := by decide +kernel
theorem dL_law_522 : decode cL_law 522 = .ok (.iconst 1, 1) := by decide +kernel
theorem dL_law_523 : decode cL_law 523 = .ok (.iadd, 1) := by decide +kernel
theorem dL_law_524 : decode cL_law 524 = .ok (.iaload, 1) := by decide +kernel
theorem dL_law_525 : decode cL_law 525 = .ok (.aload_n 0, 1) := by decide +kernel
theorem dL_law_526 : decode cL_law 526 = .ok (.iload 4, 2) := by decide +kernel
theorem dL_law_528 : decode cL_law 528 = .ok (.iconst 2, 1) := by decide +kernel
theorem dL_law_529 : decode cL_law 529 = .ok (.iadd, 1) := by decide +kernel
theorem dL_law_530 : decode cL_law 530 = .ok (.iaload, 1) := by decide +kernel
theorem dL_law_531 : decode cL_law 531 = .ok (.aload_n 0, 1) := by decide +kernel
theorem dL_law_532 : decode cL_law 532 = .ok (.iload 4, 2) := by decide +kernel
theorem dL_law_534 : decode cL_law 534 = .ok (.iconst 3, 1) := by decide +kernel
theorem dL_law_535 : decode cL_law 535 = .ok (.iadd, 1) := by decide +kernel
theorem dL_law_536 : decode cL_law 536 = .ok (.iaload, 1) := by decide +kernel
theorem dL_law_537 : decode cL_law 537 = .ok (.invokevirtual 66, 3) := by decide +kernel
theorem dL_law_540 : decode cL_law 540 = .ok (.istore 6, 2) := by decide +kernel
theorem dL_law_542 : decode cL_law 542 = .ok (.aload_n 2, 1) := by decide +kernel
theorem dL_law_543 : decode cL_law 543 = .ok (.invokevirtual 52, 3) := by decide +kernel
theorem dL_law_546 : decode cL_law 546 = .ok (.iload 5, 2) := by decide +kernel
theorem dL_law_548 : decode cL_law 548 = .ok (.if_icmp .eq 5, 3) := by decide +kernel
theorem dL_law_551 : decode cL_law 551 = .ok (.iconst 0, 1) := by decide +kernel
theorem dL_law_552 : decode cL_law 552 = .ok (.ireturn, 1) := by decide +kernel
theorem dL_law_553 : decode cL_law 553 = .ok (.iload 5, 2) := by decide +kernel
theorem dL_law_555 : decode cL_law 555 = .ok (.ifCond .ne 15, 3) := by decide +kernel
theorem dL_law_558 : decode cL_law 558 = .ok (.aload_n 3, 1) := by decide +kernel
theorem dL_law_559 : decode cL_law 559 = .ok (.iconst 0, 1) := by decide +kernel
theorem dL_law_560 : decode cL_law 560 = .ok (.laload, 1) := by decide +kernel
theorem dL_law_561 : decode cL_law 561 = .ok (.iload 6, 2) := by decide +kernel
theorem dL_law_563 : decode cL_law 563 = .ok (.i2l, 1) := by decide +kernel
theorem dL_law_564 : decode cL_law 564 = .ok (.lcmp, 1) := by decide +kernel
theorem dL_law_565 : decode cL_law 565 = .ok (.ifCond .eq 5, 3) := by decide +kernel
theorem dL_law_568 : decode cL_law 568 = .ok (.iconst 0, 1) := by decide +kernel
theorem dL_law_569 : decode cL_law 569 = .ok (.ireturn, 1) := by decide +kernel
theorem dL_law_570 : decode cL_law 570 = .ok (.goto 65, 3) := by decide +kernel
theorem dL_law_573 : decode cL_law 573 = .ok (.aload_n 1, 1) := by decide +kernel
theorem dL_law_574 : decode cL_law 574 = .ok (.aload_n 0, 1) := by decide +kernel
theorem dL_law_575 : decode cL_law 575 = .ok (.iload 4, 2) := by decide +kernel
theorem dL_law_577 : decode cL_law 577 = .ok (.iconst 1, 1) := by decide +kernel
theorem dL_law_578 : decode cL_law 578 = .ok (.iadd, 1) := by decide +kernel
theorem dL_law_579 : decode cL_law 579 = .ok (.iaload, 1) := by decide +kernel
theorem dL_law_580 : decode cL_law 580 = .ok (.aload_n 0, 1) := by decide +kernel
theorem dL_law_581 : decode cL_law 581 = .ok (.iload 4, 2) := by decide +kernel
theorem dL_law_583 : decode cL_law 583 = .ok (.iconst 2, 1) := by decide +kernel
theorem dL_law_584 : decode cL_law 584 = .ok (.iadd, 1) := by decide +kernel
theorem dL_law_585 : decode cL_law 585 = .ok (.iaload, 1) := by decide +kernel
theorem dL_law_586 : decode cL_law 586 = .ok (.invokevirtual 67, 3) := by decide +kernel
theorem dL_law_589 : decode cL_law 589 = .ok (.aload_n 2, 1) := by decide +kernel
theorem dL_law_590 : decode cL_law 590 = .ok (.aload_n 0, 1) := by decide +kernel
theorem dL_law_591 : decode cL_law 591 = .ok (.iload 4, 2) := by decide +kernel
theorem dL_law_593 : decode cL_law 593 = .ok (.iconst 1, 1) := by decide +kernel
theorem dL_law_594 : decode cL_law 594 = .ok (.iadd, 1) := by decide +kernel
theorem dL_law_595 : decode cL_law 595 = .ok (.iaload, 1) := by decide +kernel
theorem dL_law_596 : decode cL_law 596 = .ok (.aload_n 0, 1) := by decide +kernel
theorem dL_law_597 : decode cL_law 597 = .ok (.iload 4, 2) := by decide +kernel
theorem dL_law_599 : decode cL_law 599 = .ok (.iconst 2, 1) := by decide +kernel
theorem dL_law_600 : decode cL_law 600 = .ok (.iadd, 1) := by decide +kernel
theorem dL_law_601 : decode cL_law 601 = .ok (.iaload, 1) := by decide +kernel
theorem dL_law_602 : decode cL_law 602 = .ok (.invokevirtual 71, 3) := by decide +kernel
theorem dL_law_605 : decode cL_law 605 = .ok (.if_icmp .eq 30, 3) := by decide +kernel
theorem dL_law_608 : decode cL_law 608 = .ok (.iconst 0, 1) := by decide +kernel
theorem dL_law_609 : decode cL_law 609 = .ok (.ireturn, 1) := by decide +kernel
theorem dL_law_610 : decode cL_law 610 = .ok (.aload_n 1, 1) := by decide +kernel
theorem dL_law_611 : decode cL_law 611 = .ok (.aload_n 0, 1) := by decide +kernel
theorem dL_law_612 : decode cL_law 612 = .ok (.iload 4, 2) := by decide +kernel
theorem dL_law_614 : decode cL_law 614 = .ok (.iconst 1, 1) := by decide +kernel
theorem dL_law_615 : decode cL_law 615 = .ok (.iadd, 1) := by decide +kernel
theorem dL_law_616 : decode cL_law 616 = .ok (.iaload, 1) := by decide +kernel
theorem dL_law_617 : decode cL_law 617 = .ok (.invokevirtual 72, 3) := by decide +kernel
theorem dL_law_620 : decode cL_law 620 = .ok (.aload_n 2, 1) := by decide +kernel
theorem dL_law_621 : decode cL_law 621 = .ok (.aload_n 0, 1) := by decide +kernel
theorem dL_law_622 : decode cL_law 622 = .ok (.iload 4, 2) := by decide +kernel
theorem dL_law_624 : decode cL_law 624 = .ok (.iconst 1, 1) := by decide +kernel
theorem dL_law_625 : decode cL_law 625 = .ok (.iadd, 1) := by decide +kernel
theorem dL_law_626 : decode cL_law 626 = .ok (.iaload, 1) := by decide +kernel
theorem dL_law_627 : decode cL_law 627 = .ok (.invokevirtual 76, 3) := by decide +kernel
theorem dL_law_630 : decode cL_law 630 = .ok (.if_icmp .eq 5, 3) := by decide +kernel
theorem dL_law_633 : decode cL_law 633 = .ok (.iconst 0, 1) := by decide +kernel
theorem dL_law_634 : decode cL_law 634 = .ok (.ireturn, 1) := by decide +kernel
theorem dL_law_635 : decode cL_law 635 = .ok (.iinc 4 5, 3) := by decide +kernel
theorem dL_law_638 : decode cL_law 638 = .ok (.goto (-615), 3) := by decide +kernel
theorem dL_law_641 : decode cL_law 641 = .ok (.iconst 1, 1) := by decide +kernel
theorem dL_law_642 : decode cL_law 642 = .ok (.ireturn, 1) := by decide +kernel
end
section
theorem dM_init_0 : decode cM_init 0 = .ok (.aload_n 0, 1) := by decide +kernel
theorem dM_init_1 : decode cM_init 1 = .ok (.invokespecial 1, 3) := by decide +kernel
theorem dM_init_4 : decode cM_init 4 = .ok (.aload_n 0, 1) := by decide +kernel
theorem dM_init_5 : decode cM_init 5 = .ok (.bipush 8, 2) := by decide +kernel
theorem dM_init_7 : decode cM_init 7 = .ok (.newarray .int, 2) := by decide +kernel
theorem dM_init_9 : decode cM_init 9 = .ok (.putfield 7, 3) := by decide +kernel
theorem dM_init_12 : decode cM_init 12 = .ok (.aload_n 0, 1) := by decide +kernel
theorem dM_init_13 : decode cM_init 13 = .ok (.bipush 8, 2) := by decide +kernel
theorem dM_init_15 : decode cM_init 15 = .ok (.newarray .int, 2) := by decide +kernel
theorem dM_init_17 : decode cM_init 17 = .ok (.putfield 13, 3) := by decide +kernel
theorem dM_init_20 : decode cM_init 20 = .ok (.aload_n 0, 1) := by decide +kernel
theorem dM_init_21 : decode cM_init 21 = .ok (.bipush 8, 2) := by decide +kernel
theorem dM_init_23 : decode cM_init 23 = .ok (.newarray .int, 2) := by decide +kernel
theorem dM_init_25 : decode cM_init 25 = .ok (.putfield 16, 3) := by decide +kernel
theorem dM_init_28 : decode cM_init 28 = .ok (.aload_n 0, 1) := by decide +kernel
theorem dM_init_29 : decode cM_init 29 = .ok (.sipush 8192, 3) := by decide +kernel
theorem dM_init_32 : decode cM_init 32 = .ok (.newarray .int, 2) := by decide +kernel
theorem dM_init_34 : decode cM_init 34 = .ok (.putfield 19, 3) := by decide +kernel
theorem dM_init_37 : decode cM_init 37 = .ok (.aload_n 0, 1) := by decide +kernel
theorem dM_init_38 : decode cM_init 38 = .ok (.sipush 1024, 3) := by decide +kernel
theorem dM_init_41 : decode cM_init 41 = .ok (.newarray .int, 2) := by decide +kernel
theorem dM_init_43 : decode cM_init 43 = .ok (.putfield 22, 3) := by decide +kernel
theorem dM_init_46 : decode cM_init 46 = .ok (.aload_n 0, 1) := by decide +kernel
theorem dM_init_47 : decode cM_init 47 = .ok (.sipush 1024, 3) := by decide +kernel
theorem dM_init_50 : decode cM_init 50 = .ok (.newarray .int, 2) := by decide +kernel
theorem dM_init_52 : decode cM_init 52 = .ok (.putfield 25, 3) := by decide +kernel
theorem dM_init_55 : decode cM_init 55 = .ok (.return_, 1) := by decide +kernel
theorem dM_thrown_0 : decode cM_thrown 0 = .ok (.aload_n 0, 1) := by decide +kernel
theorem dM_thrown_1 : decode cM_thrown 1 = .ok (.getfield 28, 3) := by decide +kernel
theorem dM_thrown_4 : decode cM_thrown 4 = .ok (.ireturn, 1) := by decide +kernel
theorem dM_isNumber_0 : decode cM_isNumber 0 = .ok (.iload_n 0, 1) := by decide +kernel
theorem dM_isNumber_1 : decode cM_isNumber 1 = .ok (.ifCond .lt 14, 3) := by decide +kernel
theorem dM_isNumber_4 : decode cM_isNumber 4 = .ok (.iload_n 0, 1) := by decide +kernel
theorem dM_isNumber_5 : decode cM_isNumber 5 = .ok (.sipush 256, 3) := by decide +kernel
theorem dM_isNumber_8 : decode cM_isNumber 8 = .ok (.if_icmp .ge 7, 3) := by decide +kernel
theorem dM_isNumber_11 : decode cM_isNumber 11 = .ok (.iconst 1, 1) := by decide +kernel
theorem dM_isNumber_12 : decode cM_isNumber 12 = .ok (.goto 4, 3) := by decide +kernel
theorem dM_isNumber_15 : decode cM_isNumber 15 = .ok (.iconst 0, 1) := by decide +kernel
theorem dM_isNumber_16 : decode cM_isNumber 16 = .ok (.ireturn, 1) := by decide +kernel
theorem dM_put_0 : decode cM_put 0 = .ok (.aload_n 0, 1) := by decide +kernel
theorem dM_put_1 : decode cM_put 1 = .ok (.iconst 0, 1) := by decide +kernel
theorem dM_put_2 : decode cM_put 2 = .ok (.putfield 28, 3) := by decide +kernel
theorem dM_put_5 : decode cM_put 5 = .ok (.iload_n 1, 1) := by decide +kernel
theorem dM_put_6 : decode cM_put 6 = .ok (.invokestatic 32, 3) := by decide +kernel
theorem dM_put_9 : decode cM_put 9 = .ok (.ifCond .eq 27, 3) := by decide +kernel
theorem dM_put_12 : decode cM_put 12 = .ok (.iload_n 2, 1) := by decide +kernel
theorem dM_put_13 : decode cM_put 13 = .ok (.invokestatic 32, 3) := by decide +kernel
theorem dM_put_16 : decode cM_put 16 = .ok (.ifCond .eq 20, 3) := by decide +kernel
theorem dM_put_19 : decode cM_put 19 = .ok (.iload_n 3, 1) := by decide +kernel
theorem dM_put_20 : decode cM_put 20 = .ok (.invokestatic 32, 3) := by decide +kernel
theorem dM_put_23 : decode cM_put 23 = .ok (.ifCond .eq 13, 3) := by decide +kernel
theorem dM_put_26 : decode cM_put 26 = .ok (.aload_n 0, 1) := by decide +kernel
theorem dM_put_27 : decode cM_put 27 = .ok (.getfield 36, 3) := by decide +kernel
theorem dM_put_30 : decode cM_put 30 = .ok (.sipush 1024, 3) := by decide +kernel
theorem dM_put_33 : decode cM_put 33 = .ok (.if_icmp .ne 5, 3) := by decide +kernel
theorem dM_put_36 : decode cM_put 36 = .ok (.iconst (-1), 1) := by decide +kernel
theorem dM_put_37 : decode cM_put 37 = .ok (.ireturn, 1) := by decide +kernel
theorem dM_put_38 : decode cM_put 38 = .ok (.aload_n 0, 1) := by decide +kernel
theorem dM_put_39 : decode cM_put 39 = .ok (.getfield 22, 3) := by decide +kernel
theorem dM_put_42 : decode cM_put 42 = .ok (.aload_n 0, 1) := by decide +kernel
theorem dM_put_43 : decode cM_put 43 = .ok (.getfield 36, 3) := by decide +kernel
theorem dM_put_46 : decode cM_put 46 = .ok (.iload_n 1, 1) := by decide +kernel
theorem dM_put_47 : decode cM_put 47 = .ok (.ldc 39, 2) := by decide +kernel
theorem dM_put_49 : decode cM_put 49 = .ok (.imul, 1) := by decide +kernel
theorem dM_put_50 : decode cM_put 50 = .ok (.iload_n 2, 1) := by decide +kernel
theorem dM_put_51 : decode cM_put 51 = .ok (.sipush 256, 3) := by decide +kernel
theorem dM_put_54 : decode cM_put 54 = .ok (.imul, 1) := by decide +kernel
theorem dM_put_55 : decode cM_put 55 = .ok (.iadd, 1) := by decide +kernel
theorem dM_put_56 : decode cM_put 56 = .ok (.iload_n 3, 1) := by decide +kernel
theorem dM_put_57 : decode cM_put 57 = .ok (.iadd, 1) := by decide +kernel
theorem dM_put_58 : decode cM_put 58 = .ok (.iastore, 1) := by decide +kernel
theorem dM_put_59 : decode cM_put 59 = .ok (.aload_n 0, 1) := by decide +kernel
theorem dM_put_60 : decode cM_put 60 = .ok (.dup, 1) := by decide +kernel
theorem dM_put_61 : decode cM_put 61 = .ok (.getfield 36, 3) := by decide +kernel
theorem dM_put_64 : decode cM_put 64 = .ok (.iconst 1, 1) := by decide +kernel
theorem dM_put_65 : decode cM_put 65 = .ok (.iadd, 1) := by decide +kernel
theorem dM_put_66 : decode cM_put 66 = .ok (.putfield 36, 3) := by decide +kernel
theorem dM_put_69 : decode cM_put 69 = .ok (.aload_n 0, 1) := by decide +kernel
theorem dM_put_70 : decode cM_put 70 = .ok (.getfield 36, 3) := by decide +kernel
theorem dM_put_73 : decode cM_put 73 = .ok (.ireturn, 1) := by decide +kernel
theorem dM_add_0 : decode cM_add 0 = .ok (.aload_n 0, 1) := by decide +kernel
theorem dM_add_1 : decode cM_add 1 = .ok (.iconst 0, 1) := by decide +kernel
theorem dM_add_2 : decode cM_add 2 = .ok (.putfield 28, 3) := by decide +kernel
theorem dM_add_5 : decode cM_add 5 = .ok (.aload_n 0, 1) := by decide +kernel
theorem dM_add_6 : decode cM_add 6 = .ok (.getfield 36, 3) := by decide +kernel
theorem dM_add_9 : decode cM_add 9 = .ok (.istore 4, 2) := by decide +kernel
theorem dM_add_11 : decode cM_add 11 = .ok (.aload_n 0, 1) := by decide +kernel
theorem dM_add_12 : decode cM_add 12 = .ok (.iconst 0, 1) := by decide +kernel
theorem dM_add_13 : decode cM_add 13 = .ok (.putfield 36, 3) := by decide +kernel
theorem dM_add_16 : decode cM_add 16 = .ok (.iload_n 1, 1) := by decide +kernel
theorem dM_add_17 : decode cM_add 17 = .ok (.iconst 1, 1) := by decide +kernel
theorem dM_add_18 : decode cM_add 18 = .ok (.if_icmp .eq 31, 3) := by decide +kernel
theorem dM_add_21 : decode cM_add 21 = .ok (.iload_n 1, 1) := by decide +kernel
theorem dM_add_22 : decode cM_add 22 = .ok (.iconst 2, 1) := by decide +kernel
theorem dM_add_23 : decode cM_add 23 = .ok (.if_icmp .eq 26, 3) := by decide +kernel
theorem dM_add_26 : decode cM_add 26 = .ok (.iload_n 1, 1) := by decide +kernel
theorem dM_add_27 : decode cM_add 27 = .ok (.iconst 4, 1) := by decide +kernel
theorem dM_add_28 : decode cM_add 28 = .ok (.if_icmp .eq 21, 3) := by decide +kernel
theorem dM_add_31 : decode cM_add 31 = .ok (.iload_n 1, 1) := by decide +kernel
theorem dM_add_32 : decode cM_add 32 = .ok (.bipush 8, 2) := by decide +kernel
theorem dM_add_34 : decode cM_add 34 = .ok (.if_icmp .eq 15, 3) := by decide +kernel
theorem dM_add_37 : decode cM_add 37 = .ok (.iload_n 1, 1) := by decide +kernel
theorem dM_add_38 : decode cM_add 38 = .ok (.bipush 16, 2) := by decide +kernel
theorem dM_add_40 : decode cM_add 40 = .ok (.if_icmp .eq 9, 3) := by decide +kernel
theorem dM_add_43 : decode cM_add 43 = .ok (.iload_n 1, 1) := by decide +kernel
theorem dM_add_44 : decode cM_add 44 = .ok (.bipush 32, 2) := by decide +kernel
theorem dM_add_46 : decode cM_add 46 = .ok (.if_icmp .ne 7, 3) := by decide +kernel
theorem dM_add_49 : decode cM_add 49 = .ok (.iconst 1, 1) := by decide +kernel
theorem dM_add_50 : decode cM_add 50 = .ok (.goto 4, 3) := by decide +kernel
theorem dM_add_53 : decode cM_add 53 = .ok (.iconst 0, 1) := by decide +kernel
theorem dM_add_54 : decode cM_add 54 = .ok (.istore 5, 2) := by decide +kernel
theorem dM_add_56 : decode cM_add 56 = .ok (.aload_n 0, 1) := by decide +kernel
theorem dM_add_57 : decode cM_add 57 = .ok (.getfield 40, 3) := by decide +kernel
theorem dM_add_60 : decode cM_add 60 = .ok (.bipush 8, 2) := by decide +kernel
theorem dM_add_62 : decode cM_add 62 = .ok (.if_icmp .eq 34, 3) := by decide +kernel
theorem dM_add_65 : decode cM_add 65 = .ok (.iload 5, 2) := by decide +kernel
theorem dM_add_67 : decode cM_add 67 = .ok (.ifCond .eq 29, 3) := by decide +kernel
theorem dM_add_70 : decode cM_add 70 = .ok (.iload_n 2, 1) := by decide +kernel
theorem dM_add_71 : decode cM_add 71 = .ok (.ifCond .lt 25, 3) := by decide +kernel
theorem dM_add_74 : decode cM_add 74 = .ok (.iload_n 2, 1) := by decide +kernel
theorem dM_add_75 : decode cM_add 75 = .ok (.iconst 2, 1) := by decide +kernel
theorem dM_add_76 : decode cM_add 76 = .ok (.if_icmp .gt 20, 3) := by decide +kernel
theorem dM_add_79 : decode cM_add 79 = .ok (.iload_n 3, 1) := by decide +kernel
theorem dM_add_80 : decode cM_add 80 = .ok (.ifCond .lt 16, 3) := by decide +kernel
theorem dM_add_83 : decode cM_add 83 = .ok (.iload_n 3, 1) := by decide +kernel
theorem dM_add_84 : decode cM_add 84 = .ok (.iconst 1, 1) := by decide +kernel
theorem dM_add_85 : decode cM_add 85 = .ok (.if_icmp .gt 11, 3) := by decide +kernel
theorem dM_add_88 : decode cM_add 88 = .ok (.iload 4, 2) := by decide +kernel
theorem dM_add_90 : decode cM_add 90 = .ok (.iload_n 1, 1) := by decide +kernel
theorem dM_add_91 : decode cM_add 91 = .ok (.iload_n 1, 1) := by decide +kernel
theorem dM_add_92 : decode cM_add 92 = .ok (.imul, 1) := by decide +kernel
theorem dM_add_93 : decode cM_add 93 = .ok (.if_icmp .eq 5, 3) := by decide +kernel
theorem dM_add_96 : decode cM_add 96 = .ok (.iconst (-1), 1) := by decide +kernel
theorem dM_add_97 : decode cM_add 97 = .ok (.ireturn, 1) := by decide +kernel
theorem dM_add_98 : decode cM_add 98 = .ok (.aload_n 0, 1) := by decide +kernel
theorem dM_add_99 : decode cM_add 99 = .ok (.getfield 7, 3) := by decide +kernel
theorem dM_add_102 : decode cM_add 102 = .ok (.aload_n 0, 1) := by decide +kernel
theorem dM_add_103 : decode cM_add 103 = .ok (.getfield 40, 3) := by decide +kernel
theorem dM_add_106 : decode cM_add 106 = .ok (.iload_n 1, 1) := by decide +kernel
theorem dM_add_107 : decode cM_add 107 = .ok (.iastore, 1) := by decide +kernel
theorem dM_add_108 : decode cM_add 108 = .ok (.aload_n 0, 1) := by decide +kernel
theorem dM_add_109 : decode cM_add 109 = .ok (.getfield 13, 3) := by decide +kernel
theorem dM_add_112 : decode cM_add 112 = .ok (.aload_n 0, 1) := by decide +kernel
theorem dM_add_113 : decode cM_add 113 = .ok (.getfield 40, 3) := by decide +kernel
theorem dM_add_116 : decode cM_add 116 = .ok (.iload_n 2, 1) := by decide +kernel
theorem dM_add_117 : decode cM_add 117 = .ok (.iastore, 1) := by decide +kernel
theorem dM_add_118 : decode cM_add 118 = .ok (.aload_n 0, 1) := by decide +kernel
theorem dM_add_119 : decode cM_add 119 = .ok (.getfield 16, 3) := by decide +kernel
theorem dM_add_122 : decode cM_add 122 = .ok (.aload_n 0, 1) := by decide +kernel
theorem dM_add_123 : decode cM_add 123 = .ok (.getfield 40, 3) := by decide +kernel
theorem dM_add_126 : decode cM_add 126 = .ok (.iload_n 3, 1) := by decide +kernel
theorem dM_add_127 : decode cM_add 127 = .ok (.iastore, 1) := by decide +kernel
theorem dM_add_128 : decode cM_add 128 = .ok (.iconst 0, 1) := by decide +kernel
theorem dM_add_129 : decode cM_add 129 = .ok (.istore 6, 2) := by decide +kernel
theorem dM_add_131 : decode cM_add 131 = .ok (.iload 6, 2) := by decide +kernel
theorem dM_add_133 : decode cM_add 133 = .ok (.iload 4, 2) := by decide +kernel
theorem dM_add_135 : decode cM_add 135 = .ok (.if_icmp .ge 32, 3) := by decide +kernel
theorem dM_add_138 : decode cM_add 138 = .ok (.aload_n 0, 1) := by decide +kernel
theorem dM_add_139 : decode cM_add 139 = .ok (.getfield 19, 3) := by decide +kernel
theorem dM_add_142 : decode cM_add 142 = .ok (.sipush 1024, 3) := by decide +kernel
theorem dM_add_145 : decode cM_add 145 = .ok (.aload_n 0, 1) := by decide +kernel
theorem dM_add_146 : decode cM_add 146 = .ok (.getfield 40, 3) := by decide +kernel
theorem dM_add_149 : decode cM_add 149 = .ok (.imul, 1) := by decide +kernel
theorem dM_add_150 : decode cM_add 150 = .ok (.iload 6, 2) := by decide +kernel
theorem dM_add_152 : decode cM_add 152 = .ok (.iadd, 1) := by decide +kernel
theorem dM_add_153 : decode cM_add 153 = .ok (.aload_n 0, 1) := by decide +kernel
theorem dM_add_154 : decode cM_add 154 = .ok (.getfield 22, 3) := by decide +kernel
theorem dM_add_157 : decode cM_add 157 = .ok (.iload 6, 2) := by decide +kernel
theorem dM_add_159 : decode cM_add 159 = .ok (.iaload, 1) := by decide +kernel
theorem dM_add_160 : decode cM_add 160 = .ok (.iastore, 1) := by decide +kernel
theorem dM_add_161 : decode cM_add 161 = .ok (.iinc 6 1, 3) := by decide +kernel
theorem dM_add_164 : decode cM_add 164 = .ok (.goto (-33), 3) := by decide +kernel
theorem dM_add_167 : decode cM_add 167 = .ok (.aload_n 0, 1) := by decide +kernel
theorem dM_add_168 : decode cM_add 168 = .ok (.dup, 1) := by decide +kernel
theorem dM_add_169 : decode cM_add 169 = .ok (.getfield 40, 3) := by decide +kernel
theorem dM_add_172 : decode cM_add 172 = .ok (.iconst 1, 1) := by decide +kernel
theorem dM_add_173 : decode cM_add 173 = .ok (.iadd, 1) := by decide +kernel
theorem dM_add_174 : decode cM_add 174 = .ok (.putfield 40, 3) := by decide +kernel
theorem dM_add_177 : decode cM_add 177 = .ok (.aload_n 0, 1) := by decide +kernel
theorem dM_add_178 : decode cM_add 178 = .ok (.getfield 40, 3) := by decide +kernel
theorem dM_add_181 : decode cM_add 181 = .ok (.iconst 1, 1) := by decide +kernel
theorem dM_add_182 : decode cM_add 182 = .ok (.isub, 1) := by decide +kernel
theorem dM_add_183 : decode cM_add 183 = .ok (.ireturn, 1) := by decide +kernel
theorem dM_clear_0 : decode cM_clear 0 = .ok (.aload_n 0, 1) := by decide +kernel
theorem dM_clear_1 : decode cM_clear 1 = .ok (.iconst 0, 1) := by decide +kernel
theorem dM_clear_2 : decode cM_clear 2 = .ok (.putfield 28, 3) := by decide +kernel
theorem dM_clear_5 : decode cM_clear 5 = .ok (.aload_n 0, 1) := by decide +kernel
theorem dM_clear_6 : decode cM_clear 6 = .ok (.iconst 0, 1) := by decide +kernel
theorem dM_clear_7 : decode cM_clear 7 = .ok (.putfield 40, 3) := by decide +kernel
theorem dM_clear_10 : decode cM_clear 10 = .ok (.return_, 1) := by decide +kernel
theorem dM_isThere_0 : decode cM_isThere 0 = .ok (.iload_n 1, 1) := by decide +kernel
theorem dM_isThere_1 : decode cM_isThere 1 = .ok (.ifCond .lt 15, 3) := by decide +kernel
theorem dM_isThere_4 : decode cM_isThere 4 = .ok (.iload_n 1, 1) := by decide +kernel
theorem dM_isThere_5 : decode cM_isThere 5 = .ok (.aload_n 0, 1) := by decide +kernel
theorem dM_isThere_6 : decode cM_isThere 6 = .ok (.getfield 40, 3) := by decide +kernel
theorem dM_isThere_9 : decode cM_isThere 9 = .ok (.if_icmp .ge 7, 3) := by decide +kernel
theorem dM_isThere_12 : decode cM_isThere 12 = .ok (.iconst 1, 1) := by decide +kernel
theorem dM_isThere_13 : decode cM_isThere 13 = .ok (.goto 4, 3) := by decide +kernel
theorem dM_isThere_16 : decode cM_isThere 16 = .ok (.iconst 0, 1) := by decide +kernel
theorem dM_isThere_17 : decode cM_isThere 17 = .ok (.ireturn, 1) := by decide +kernel
theorem dM_last_0 : decode cM_last 0 = .ok (.iconst 0, 1) := by decide +kernel
theorem dM_last_1 : decode cM_last 1 = .ok (.istore_n 2, 1) := by decide +kernel
theorem dM_last_2 : decode cM_last 2 = .ok (.aload_n 0, 1) := by decide +kernel
theorem dM_last_3 : decode cM_last 3 = .ok (.getfield 7, 3) := by decide +kernel
theorem dM_last_6 : decode cM_last 6 = .ok (.iload_n 1, 1) := by decide +kernel
theorem dM_last_7 : decode cM_last 7 = .ok (.iaload, 1) := by decide +kernel
theorem dM_last_8 : decode cM_last 8 = .ok (.istore_n 3, 1) := by decide +kernel
theorem dM_last_9 : decode cM_last 9 = .ok (.iload_n 3, 1) := by decide +kernel
theorem dM_last_10 : decode cM_last 10 = .ok (.iconst 1, 1) := by decide +kernel
theorem dM_last_11 : decode cM_last 11 = .ok (.if_icmp .le 13, 3) := by decide +kernel
theorem dM_last_14 : decode cM_last 14 = .ok (.iinc 2 1, 3) := by decide +kernel
theorem dM_last_17 : decode cM_last 17 = .ok (.iload_n 3, 1) := by decide +kernel
theorem dM_last_18 : decode cM_last 18 = .ok (.iconst 2, 1) := by decide +kernel
theorem dM_last_19 : decode cM_last 19 = .ok (.idiv, 1) := by decide +kernel
theorem dM_last_20 : decode cM_last 20 = .ok (.istore_n 3, 1) := by decide +kernel
theorem dM_last_21 : decode cM_last 21 = .ok (.goto (-12), 3) := by decide +kernel
theorem dM_last_24 : decode cM_last 24 = .ok (.iload_n 2, 1) := by decide +kernel
theorem dM_last_25 : decode cM_last 25 = .ok (.ireturn, 1) := by decide +kernel
theorem dM_part_0 : decode cM_part 0 = .ok (.iload_n 1, 1) := by decide +kernel
theorem dM_part_1 : decode cM_part 1 = .ok (.ifCond .ne 10, 3) := by decide +kernel
theorem dM_part_4 : decode cM_part 4 = .ok (.iload_n 0, 1) := by decide +kernel
theorem dM_part_5 : decode cM_part 5 = .ok (.ldc 39, 2) := by decide +kernel
theorem dM_part_7 : decode cM_part 7 = .ok (.idiv, 1) := by decide +kernel
theorem dM_part_8 : decode cM_part 8 = .ok (.goto 25, 3) := by decide +kernel
theorem dM_part_11 : decode cM_part 11 = .ok (.iload_n 1, 1) := by decide +kernel
theorem dM_part_12 : decode cM_part 12 = .ok (.iconst 1, 1) := by decide +kernel
theorem dM_part_13 : decode cM_part 13 = .ok (.if_icmp .ne 15, 3) := by decide +kernel
theorem dM_part_16 : decode cM_part 16 = .ok (.iload_n 0, 1) := by decide +kernel
theorem dM_part_17 : decode cM_part 17 = .ok (.sipush 256, 3) := by decide +kernel
theorem dM_part_20 : decode cM_part 20 = .ok (.idiv, 1) := by decide +kernel
theorem dM_part_21 : decode cM_part 21 = .ok (.sipush 256, 3) := by decide +kernel
theorem dM_part_24 : decode cM_part 24 = .ok (.irem, 1) := by decide +kernel
theorem dM_part_25 : decode cM_part 25 = .ok (.goto 8, 3) := by decide +kernel
theorem dM_part_28 : decode cM_part 28 = .ok (.iload_n 0, 1) := by decide +kernel
theorem dM_part_29 : decode cM_part 29 = .ok (.sipush 256, 3) := by decide +kernel
theorem dM_part_32 : decode cM_part 32 = .ok (.irem, 1) := by decide +kernel
theorem dM_part_33 : decode cM_part 33 = .ok (.ireturn, 1) := by decide +kernel
theorem dM_halve_0 : decode cM_halve 0 = .ok (.aload_n 0, 1) := by decide +kernel
theorem dM_halve_1 : decode cM_halve 1 = .ok (.getfield 43, 3) := by decide +kernel
theorem dM_halve_4 : decode cM_halve 4 = .ok (.iconst 2, 1) := by decide +kernel
theorem dM_halve_5 : decode cM_halve 5 = .ok (.idiv, 1) := by decide +kernel
theorem dM_halve_6 : decode cM_halve 6 = .ok (.istore_n 1, 1) := by decide +kernel
theorem dM_halve_7 : decode cM_halve 7 = .ok (.iconst 0, 1) := by decide +kernel
theorem dM_halve_8 : decode cM_halve 8 = .ok (.istore_n 2, 1) := by decide +kernel
theorem dM_halve_9 : decode cM_halve 9 = .ok (.iload_n 2, 1) := by decide +kernel
theorem dM_halve_10 : decode cM_halve 10 = .ok (.iload_n 1, 1) := by decide +kernel
theorem dM_halve_11 : decode cM_halve 11 = .ok (.if_icmp .ge 120, 3) := by decide +kernel
theorem dM_halve_14 : decode cM_halve 14 = .ok (.iconst 0, 1) := by decide +kernel
theorem dM_halve_15 : decode cM_halve 15 = .ok (.istore_n 3, 1) := by decide +kernel
theorem dM_halve_16 : decode cM_halve 16 = .ok (.iload_n 3, 1) := by decide +kernel
theorem dM_halve_17 : decode cM_halve 17 = .ok (.iload_n 1, 1) := by decide +kernel
theorem dM_halve_18 : decode cM_halve 18 = .ok (.if_icmp .ge 107, 3) := by decide +kernel
theorem dM_halve_21 : decode cM_halve 21 = .ok (.iconst 0, 1) := by decide +kernel
theorem dM_halve_22 : decode cM_halve 22 = .ok (.istore 4, 2) := by decide +kernel
theorem dM_halve_24 : decode cM_halve 24 = .ok (.iconst 0, 1) := by decide +kernel
theorem dM_halve_25 : decode cM_halve 25 = .ok (.istore 5, 2) := by decide +kernel
theorem dM_halve_27 : decode cM_halve 27 = .ok (.iload 5, 2) := by decide +kernel
theorem dM_halve_29 : decode cM_halve 29 = .ok (.iconst 3, 1) := by decide +kernel
theorem dM_halve_30 : decode cM_halve 30 = .ok (.if_icmp .ge 77, 3) := by decide +kernel
theorem dM_halve_33 : decode cM_halve 33 = .ok (.iconst 0, 1) := by decide +kernel
theorem dM_halve_34 : decode cM_halve 34 = .ok (.istore 6, 2) := by decide +kernel
theorem dM_halve_36 : decode cM_halve 36 = .ok (.iconst 0, 1) := by decide +kernel
theorem dM_halve_37 : decode cM_halve 37 = .ok (.istore 7, 2) := by decide +kernel
theorem dM_halve_39 : decode cM_halve 39 = .ok (.iload 7, 2) := by decide +kernel
theorem dM_halve_41 : decode cM_halve 41 = .ok (.iconst 4, 1) := by decide +kernel
theorem dM_halve_42 : decode cM_halve 42 = .ok (.if_icmp .ge 46, 3) := by decide +kernel
theorem dM_halve_45 : decode cM_halve 45 = .ok (.iload 6, 2) := by decide +kernel
theorem dM_halve_47 : decode cM_halve 47 = .ok (.aload_n 0, 1) := by decide +kernel
theorem dM_halve_48 : decode cM_halve 48 = .ok (.getfield 25, 3) := by decide +kernel
theorem dM_halve_51 : decode cM_halve 51 = .ok (.iconst 2, 1) := by decide +kernel
theorem dM_halve_52 : decode cM_halve 52 = .ok (.iload_n 2, 1) := by decide +kernel
theorem dM_halve_53 : decode cM_halve 53 = .ok (.imul, 1) := by decide +kernel
theorem dM_halve_54 : decode cM_halve 54 = .ok (.iload 7, 2) := by decide +kernel
theorem dM_halve_56 : decode cM_halve 56 = .ok (.iconst 2, 1) := by decide +kernel
theorem dM_halve_57 : decode cM_halve 57 = .ok (.idiv, 1) := by decide +kernel
theorem dM_halve_58 : decode cM_halve 58 = .ok (.iadd, 1) := by decide +kernel
theorem dM_halve_59 : decode cM_halve 59 = .ok (.aload_n 0, 1) := by decide +kernel
theorem dM_halve_60 : decode cM_halve 60 = .ok (.getfield 43, 3) := by decide +kernel
theorem dM_halve_63 : decode cM_halve 63 = .ok (.imul, 1) := by decide +kernel
theorem dM_halve_64 : decode cM_halve 64 = .ok (.iconst 2, 1) := by decide +kernel
theorem dM_halve_65 : decode cM_halve 65 = .ok (.iload_n 3, 1) := by decide +kernel
theorem dM_halve_66 : decode cM_halve 66 = .ok (.imul, 1) := by decide +kernel
theorem dM_halve_67 : decode cM_halve 67 = .ok (.iadd, 1) := by decide +kernel
theorem dM_halve_68 : decode cM_halve 68 = .ok (.iload 7, 2) := by decide +kernel
theorem dM_halve_70 : decode cM_halve 70 = .ok (.iconst 2, 1) := by decide +kernel
theorem dM_halve_71 : decode cM_halve 71 = .ok (.irem, 1) := by decide +kernel
theorem dM_halve_72 : decode cM_halve 72 = .ok (.iadd, 1) := by decide +kernel
theorem dM_halve_73 : decode cM_halve 73 = .ok (.iaload, 1) := by decide +kernel
theorem dM_halve_74 : decode cM_halve 74 = .ok (.iload 5, 2) := by decide +kernel
theorem dM_halve_76 : decode cM_halve 76 = .ok (.invokestatic 46, 3) := by decide +kernel
theorem dM_halve_79 : decode cM_halve 79 = .ok (.iadd, 1) := by decide +kernel
theorem dM_halve_80 : decode cM_halve 80 = .ok (.istore 6, 2) := by decide +kernel
theorem dM_halve_82 : decode cM_halve 82 = .ok (.iinc 7 1, 3) := by decide +kernel
theorem dM_halve_85 : decode cM_halve 85 = .ok (.goto (-46), 3) := by decide +kernel
theorem dM_halve_88 : decode cM_halve 88 = .ok (.iload 4, 2) := by decide +kernel
theorem dM_halve_90 : decode cM_halve 90 = .ok (.sipush 256, 3) := by decide +kernel
theorem dM_halve_93 : decode cM_halve 93 = .ok (.imul, 1) := by decide +kernel
theorem dM_halve_94 : decode cM_halve 94 = .ok (.iload 6, 2) := by decide +kernel
theorem dM_halve_96 : decode cM_halve 96 = .ok (.iconst 4, 1) := by decide +kernel
theorem dM_halve_97 : decode cM_halve 97 = .ok (.idiv, 1) := by decide +kernel
theorem dM_halve_98 : decode cM_halve 98 = .ok (.iadd, 1) := by decide +kernel
theorem dM_halve_99 : decode cM_halve 99 = .ok (.istore 4, 2) := by decide +kernel
theorem dM_halve_101 : decode cM_halve 101 = .ok (.iinc 5 1, 3) := by decide +kernel
theorem dM_halve_104 : decode cM_halve 104 = .ok (.goto (-77), 3) := by decide +kernel
theorem dM_halve_107 : decode cM_halve 107 = .ok (.aload_n 0, 1) := by decide +kernel
theorem dM_halve_108 : decode cM_halve 108 = .ok (.getfield 25, 3) := by decide +kernel
theorem dM_halve_111 : decode cM_halve 111 = .ok (.iload_n 2, 1) := by decide +kernel
theorem dM_halve_112 : decode cM_halve 112 = .ok (.iload_n 1, 1) := by decide +kernel
theorem dM_halve_113 : decode cM_halve 113 = .ok (.imul, 1) := by decide +kernel
theorem dM_halve_114 : decode cM_halve 114 = .ok (.iload_n 3, 1) := by decide +kernel
theorem dM_halve_115 : decode cM_halve 115 = .ok (.iadd, 1) := by decide +kernel
theorem dM_halve_116 : decode cM_halve 116 = .ok (.iload 4, 2) := by decide +kernel
theorem dM_halve_118 : decode cM_halve 118 = .ok (.iastore, 1) := by decide +kernel
theorem dM_halve_119 : decode cM_halve 119 = .ok (.iinc 3 1, 3) := by decide +kernel
theorem dM_halve_122 : decode cM_halve 122 = .ok (.goto (-106), 3) := by decide +kernel
theorem dM_halve_125 : decode cM_halve 125 = .ok (.iinc 2 1, 3) := by decide +kernel
theorem dM_halve_128 : decode cM_halve 128 = .ok (.goto (-119), 3) := by decide +kernel
theorem dM_halve_131 : decode cM_halve 131 = .ok (.aload_n 0, 1) := by decide +kernel
theorem dM_halve_132 : decode cM_halve 132 = .ok (.iload_n 1, 1) := by decide +kernel
theorem dM_halve_133 : decode cM_halve 133 = .ok (.putfield 43, 3) := by decide +kernel
theorem dM_halve_136 : decode cM_halve 136 = .ok (.return_, 1) := by decide +kernel
theorem dM_makes_0 : decode cM_makes 0 = .ok (.aload_n 0, 1) := by decide +kernel
theorem dM_makes_1 : decode cM_makes 1 = .ok (.aload_n 0, 1) := by decide +kernel
theorem dM_makes_2 : decode cM_makes 2 = .ok (.getfield 7, 3) := by decide +kernel
theorem dM_makes_5 : decode cM_makes 5 = .ok (.iload_n 1, 1) := by decide +kernel
theorem dM_makes_6 : decode cM_makes 6 = .ok (.iaload, 1) := by decide +kernel
theorem dM_makes_7 : decode cM_makes 7 = .ok (.putfield 43, 3) := by decide +kernel
theorem dM_makes_10 : decode cM_makes 10 = .ok (.iconst 0, 1) := by decide +kernel
theorem dM_makes_11 : decode cM_makes 11 = .ok (.istore_n 3, 1) := by decide +kernel
theorem dM_makes_12 : decode cM_makes 12 = .ok (.iload_n 3, 1) := by decide +kernel
theorem dM_makes_13 : decode cM_makes 13 = .ok (.aload_n 0, 1) := by decide +kernel
theorem dM_makes_14 : decode cM_makes 14 = .ok (.getfield 43, 3) := by decide +kernel
theorem dM_makes_17 : decode cM_makes 17 = .ok (.aload_n 0, 1) := by decide +kernel
theorem dM_makes_18 : decode cM_makes 18 = .ok (.getfield 43, 3) := by decide +kernel
theorem dM_makes_21 : decode cM_makes 21 = .ok (.imul, 1) := by decide +kernel
theorem dM_makes_22 : decode cM_makes 22 = .ok (.if_icmp .ge 27, 3) := by decide +kernel
theorem dM_makes_25 : decode cM_makes 25 = .ok (.aload_n 0, 1) := by decide +kernel
theorem dM_makes_26 : decode cM_makes 26 = .ok (.getfield 25, 3) := by decide +kernel
theorem dM_makes_29 : decode cM_makes 29 = .ok (.iload_n 3, 1) := by decide +kernel
theorem dM_makes_30 : decode cM_makes 30 = .ok (.aload_n 0, 1) := by decide +kernel
theorem dM_makes_31 : decode cM_makes 31 = .ok (.getfield 19, 3) := by decide +kernel
theorem dM_makes_34 : decode cM_makes 34 = .ok (.sipush 1024, 3) := by decide +kernel
theorem dM_makes_37 : decode cM_makes 37 = .ok (.iload_n 1, 1) := by decide +kernel
theorem dM_makes_38 : decode cM_makes 38 = .ok (.imul, 1) := by decide +kernel
theorem dM_makes_39 : decode cM_makes 39 = .ok (.iload_n 3, 1) := by decide +kernel
theorem dM_makes_40 : decode cM_makes 40 = .ok (.iadd, 1) := by decide +kernel
theorem dM_makes_41 : decode cM_makes 41 = .ok (.iaload, 1) := by decide +kernel
theorem dM_makes_42 : decode cM_makes 42 = .ok (.iastore, 1) := by decide +kernel
theorem dM_makes_43 : decode cM_makes 43 = .ok (.iinc 3 1, 3) := by decide +kernel
theorem dM_makes_46 : decode cM_makes 46 = .ok (.goto (-34), 3) := by decide +kernel
theorem dM_makes_49 : decode cM_makes 49 = .ok (.iconst 0, 1) := by decide +kernel
theorem dM_makes_50 : decode cM_makes 50 = .ok (.istore_n 3, 1) := by decide +kernel
theorem dM_makes_51 : decode cM_makes 51 = .ok (.iload_n 3, 1) := by decide +kernel
theorem dM_makes_52 : decode cM_makes 52 = .ok (.iload_n 2, 1) := by decide +kernel
theorem dM_makes_53 : decode cM_makes 53 = .ok (.if_icmp .ge 13, 3) := by decide +kernel
theorem dM_makes_56 : decode cM_makes 56 = .ok (.aload_n 0, 1) := by decide +kernel
theorem dM_makes_57 : decode cM_makes 57 = .ok (.invokevirtual 50, 3) := by decide +kernel
theorem dM_makes_60 : decode cM_makes 60 = .ok (.iinc 3 1, 3) := by decide +kernel
theorem dM_makes_63 : decode cM_makes 63 = .ok (.goto (-12), 3) := by decide +kernel
theorem dM_makes_66 : decode cM_makes 66 = .ok (.return_, 1) := by decide +kernel
end
section
theorem dM_level_0 : decode cM_level 0 = .ok (.aload_n 0, 1) := by decide +kernel
theorem dM_level_1 : decode cM_level 1 = .ok (.aload_n 0, 1) := by decide +kernel
theorem dM_level_2 : decode cM_level 2 = .ok (.iload_n 1, 1) := by decide +kernel
theorem dM_level_3 : decode cM_level 3 = .ok (.invokevirtual 53, 3) := by decide +kernel
theorem dM_level_6 : decode cM_level 6 = .ok (.ifCond .ne 7, 3) := by decide +kernel
theorem dM_level_9 : decode cM_level 9 = .ok (.iconst 1, 1) := by decide +kernel
theorem dM_level_10 : decode cM_level 10 = .ok (.goto 35, 3) := by decide +kernel
theorem dM_level_13 : decode cM_level 13 = .ok (.lload_n 2, 1) := by decide +kernel
theorem dM_level_14 : decode cM_level 14 = .ok (.lconst 0, 1) := by decide +kernel
theorem dM_level_15 : decode cM_level 15 = .ok (.lcmp, 1) := by decide +kernel
theorem dM_level_16 : decode cM_level 16 = .ok (.ifCond .lt 24, 3) := by decide +kernel
theorem dM_level_19 : decode cM_level 19 = .ok (.lload_n 2, 1) := by decide +kernel
theorem dM_level_20 : decode cM_level 20 = .ok (.ldc2_w 56, 3) := by decide +kernel
theorem dM_level_23 : decode cM_level 23 = .ok (.lcmp, 1) := by decide +kernel
theorem dM_level_24 : decode cM_level 24 = .ok (.ifCond .gt 16, 3) := by decide +kernel
theorem dM_level_27 : decode cM_level 27 = .ok (.iload 4, 2) := by decide +kernel
theorem dM_level_29 : decode cM_level 29 = .ok (.iconst 1, 1) := by decide +kernel
theorem dM_level_30 : decode cM_level 30 = .ok (.if_icmp .lt 10, 3) := by decide +kernel
theorem dM_level_33 : decode cM_level 33 = .ok (.iload 4, 2) := by decide +kernel
theorem dM_level_35 : decode cM_level 35 = .ok (.ldc 58, 2) := by decide +kernel
theorem dM_level_37 : decode cM_level 37 = .ok (.if_icmp .le 7, 3) := by decide +kernel
theorem dM_level_40 : decode cM_level 40 = .ok (.iconst 2, 1) := by decide +kernel
theorem dM_level_41 : decode cM_level 41 = .ok (.goto 4, 3) := by decide +kernel
theorem dM_level_44 : decode cM_level 44 = .ok (.iconst 0, 1) := by decide +kernel
theorem dM_level_45 : decode cM_level 45 = .ok (.putfield 28, 3) := by decide +kernel
theorem dM_level_48 : decode cM_level 48 = .ok (.aload_n 0, 1) := by decide +kernel
theorem dM_level_49 : decode cM_level 49 = .ok (.getfield 28, 3) := by decide +kernel
theorem dM_level_52 : decode cM_level 52 = .ok (.ifCond .eq 5, 3) := by decide +kernel
theorem dM_level_55 : decode cM_level 55 = .ok (.iconst 0, 1) := by decide +kernel
theorem dM_level_56 : decode cM_level 56 = .ok (.ireturn, 1) := by decide +kernel
theorem dM_level_57 : decode cM_level 57 = .ok (.lload_n 2, 1) := by decide +kernel
theorem dM_level_58 : decode cM_level 58 = .ok (.aload_n 0, 1) := by decide +kernel
theorem dM_level_59 : decode cM_level 59 = .ok (.getfield 7, 3) := by decide +kernel
theorem dM_level_62 : decode cM_level 62 = .ok (.iload_n 1, 1) := by decide +kernel
theorem dM_level_63 : decode cM_level 63 = .ok (.iaload, 1) := by decide +kernel
theorem dM_level_64 : decode cM_level 64 = .ok (.i2l, 1) := by decide +kernel
theorem dM_level_65 : decode cM_level 65 = .ok (.lmul, 1) := by decide +kernel
theorem dM_level_66 : decode cM_level 66 = .ok (.aload_n 0, 1) := by decide +kernel
theorem dM_level_67 : decode cM_level 67 = .ok (.getfield 7, 3) := by decide +kernel
theorem dM_level_70 : decode cM_level 70 = .ok (.iload_n 1, 1) := by decide +kernel
theorem dM_level_71 : decode cM_level 71 = .ok (.iaload, 1) := by decide +kernel
theorem dM_level_72 : decode cM_level 72 = .ok (.i2l, 1) := by decide +kernel
theorem dM_level_73 : decode cM_level 73 = .ok (.lmul, 1) := by decide +kernel
theorem dM_level_74 : decode cM_level 74 = .ok (.lstore 5, 2) := by decide +kernel
theorem dM_level_76 : decode cM_level 76 = .ok (.iload 4, 2) := by decide +kernel
theorem dM_level_78 : decode cM_level 78 = .ok (.i2l, 1) := by decide +kernel
theorem dM_level_79 : decode cM_level 79 = .ok (.ldc2_w 59, 3) := by decide +kernel
theorem dM_level_82 : decode cM_level 82 = .ok (.lmul, 1) := by decide +kernel
theorem dM_level_83 : decode cM_level 83 = .ok (.lstore 7, 2) := by decide +kernel
theorem dM_level_85 : decode cM_level 85 = .ok (.iconst 0, 1) := by decide +kernel
theorem dM_level_86 : decode cM_level 86 = .ok (.istore 9, 2) := by decide +kernel
theorem dM_level_88 : decode cM_level 88 = .ok (.iload 9, 2) := by decide +kernel
theorem dM_level_90 : decode cM_level 90 = .ok (.aload_n 0, 1) := by decide +kernel
theorem dM_level_91 : decode cM_level 91 = .ok (.iload_n 1, 1) := by decide +kernel
theorem dM_level_92 : decode cM_level 92 = .ok (.invokevirtual 61, 3) := by decide +kernel
theorem dM_level_95 : decode cM_level 95 = .ok (.if_icmp .ge 25, 3) := by decide +kernel
theorem dM_level_98 : decode cM_level 98 = .ok (.lload 5, 2) := by decide +kernel
theorem dM_level_100 : decode cM_level 100 = .ok (.lload 7, 2) := by decide +kernel
theorem dM_level_102 : decode cM_level 102 = .ok (.lcmp, 1) := by decide +kernel
theorem dM_level_103 : decode cM_level 103 = .ok (.ifCond .le 17, 3) := by decide +kernel
theorem dM_level_106 : decode cM_level 106 = .ok (.lload 7, 2) := by decide +kernel
theorem dM_level_108 : decode cM_level 108 = .ok (.ldc2_w 65, 3) := by decide +kernel
theorem dM_level_111 : decode cM_level 111 = .ok (.lmul, 1) := by decide +kernel
theorem dM_level_112 : decode cM_level 112 = .ok (.lstore 7, 2) := by decide +kernel
theorem dM_level_114 : decode cM_level 114 = .ok (.iinc 9 1, 3) := by decide +kernel
theorem dM_level_117 : decode cM_level 117 = .ok (.goto (-29), 3) := by decide +kernel
theorem dM_level_120 : decode cM_level 120 = .ok (.iload 9, 2) := by decide +kernel
theorem dM_level_122 : decode cM_level 122 = .ok (.ireturn, 1) := by decide +kernel
theorem dM_div_0 : decode cM_div 0 = .ok (.lload_n 0, 1) := by decide +kernel
theorem dM_div_1 : decode cM_div 1 = .ok (.lload_n 2, 1) := by decide +kernel
theorem dM_div_2 : decode cM_div 2 = .ok (.ldiv, 1) := by decide +kernel
theorem dM_div_3 : decode cM_div 3 = .ok (.lstore 4, 2) := by decide +kernel
theorem dM_div_5 : decode cM_div 5 = .ok (.lload 4, 2) := by decide +kernel
theorem dM_div_7 : decode cM_div 7 = .ok (.lload_n 2, 1) := by decide +kernel
theorem dM_div_8 : decode cM_div 8 = .ok (.lmul, 1) := by decide +kernel
theorem dM_div_9 : decode cM_div 9 = .ok (.lload_n 0, 1) := by decide +kernel
theorem dM_div_10 : decode cM_div 10 = .ok (.lcmp, 1) := by decide +kernel
theorem dM_div_11 : decode cM_div 11 = .ok (.ifCond .le 10, 3) := by decide +kernel
theorem dM_div_14 : decode cM_div 14 = .ok (.lload 4, 2) := by decide +kernel
theorem dM_div_16 : decode cM_div 16 = .ok (.lconst 1, 1) := by decide +kernel
theorem dM_div_17 : decode cM_div 17 = .ok (.lsub, 1) := by decide +kernel
theorem dM_div_18 : decode cM_div 18 = .ok (.goto 5, 3) := by decide +kernel
theorem dM_div_21 : decode cM_div 21 = .ok (.lload 4, 2) := by decide +kernel
theorem dM_div_23 : decode cM_div 23 = .ok (.lreturn, 1) := by decide +kernel
theorem dM_into_0 : decode cM_into 0 = .ok (.aload_n 0, 1) := by decide +kernel
theorem dM_into_1 : decode cM_into 1 = .ok (.getfield 43, 3) := by decide +kernel
theorem dM_into_4 : decode cM_into 4 = .ok (.i2l, 1) := by decide +kernel
theorem dM_into_5 : decode cM_into 5 = .ok (.lstore 4, 2) := by decide +kernel
theorem dM_into_7 : decode cM_into 7 = .ok (.iload_n 1, 1) := by decide +kernel
theorem dM_into_8 : decode cM_into 8 = .ok (.ifCond .ne 16, 3) := by decide +kernel
theorem dM_into_11 : decode cM_into 11 = .ok (.lload_n 2, 1) := by decide +kernel
theorem dM_into_12 : decode cM_into 12 = .ok (.lload 4, 2) := by decide +kernel
theorem dM_into_14 : decode cM_into 14 = .ok (.lload_n 2, 1) := by decide +kernel
theorem dM_into_15 : decode cM_into 15 = .ok (.lload 4, 2) := by decide +kernel
theorem dM_into_17 : decode cM_into 17 = .ok (.invokestatic 67, 3) := by decide +kernel
theorem dM_into_20 : decode cM_into 20 = .ok (.lmul, 1) := by decide +kernel
theorem dM_into_21 : decode cM_into 21 = .ok (.lsub, 1) := by decide +kernel
theorem dM_into_22 : decode cM_into 22 = .ok (.l2i, 1) := by decide +kernel
theorem dM_into_23 : decode cM_into 23 = .ok (.ireturn, 1) := by decide +kernel
theorem dM_into_24 : decode cM_into 24 = .ok (.iload_n 1, 1) := by decide +kernel
theorem dM_into_25 : decode cM_into 25 = .ok (.iconst 1, 1) := by decide +kernel
theorem dM_into_26 : decode cM_into 26 = .ok (.if_icmp .ne 30, 3) := by decide +kernel
theorem dM_into_29 : decode cM_into 29 = .ok (.lload_n 2, 1) := by decide +kernel
theorem dM_into_30 : decode cM_into 30 = .ok (.lconst 0, 1) := by decide +kernel
theorem dM_into_31 : decode cM_into 31 = .ok (.lcmp, 1) := by decide +kernel
theorem dM_into_32 : decode cM_into 32 = .ok (.ifCond .ge 7, 3) := by decide +kernel
theorem dM_into_35 : decode cM_into 35 = .ok (.lconst 0, 1) := by decide +kernel
theorem dM_into_36 : decode cM_into 36 = .ok (.goto 18, 3) := by decide +kernel
theorem dM_into_39 : decode cM_into 39 = .ok (.lload_n 2, 1) := by decide +kernel
theorem dM_into_40 : decode cM_into 40 = .ok (.lload 4, 2) := by decide +kernel
theorem dM_into_42 : decode cM_into 42 = .ok (.lcmp, 1) := by decide +kernel
theorem dM_into_43 : decode cM_into 43 = .ok (.ifCond .lt 10, 3) := by decide +kernel
theorem dM_into_46 : decode cM_into 46 = .ok (.lload 4, 2) := by decide +kernel
theorem dM_into_48 : decode cM_into 48 = .ok (.lconst 1, 1) := by decide +kernel
theorem dM_into_49 : decode cM_into 49 = .ok (.lsub, 1) := by decide +kernel
theorem dM_into_50 : decode cM_into 50 = .ok (.goto 4, 3) := by decide +kernel
theorem dM_into_53 : decode cM_into 53 = .ok (.lload_n 2, 1) := by decide +kernel
theorem dM_into_54 : decode cM_into 54 = .ok (.l2i, 1) := by decide +kernel
theorem dM_into_55 : decode cM_into 55 = .ok (.ireturn, 1) := by decide +kernel
theorem dM_into_56 : decode cM_into 56 = .ok (.lload_n 2, 1) := by decide +kernel
theorem dM_into_57 : decode cM_into 57 = .ok (.ldc2_w 71, 3) := by decide +kernel
theorem dM_into_60 : decode cM_into 60 = .ok (.lload 4, 2) := by decide +kernel
theorem dM_into_62 : decode cM_into 62 = .ok (.lmul, 1) := by decide +kernel
theorem dM_into_63 : decode cM_into 63 = .ok (.lload_n 2, 1) := by decide +kernel
theorem dM_into_64 : decode cM_into 64 = .ok (.ldc2_w 71, 3) := by decide +kernel
theorem dM_into_67 : decode cM_into 67 = .ok (.lload 4, 2) := by decide +kernel
theorem dM_into_69 : decode cM_into 69 = .ok (.lmul, 1) := by decide +kernel
theorem dM_into_70 : decode cM_into 70 = .ok (.invokestatic 67, 3) := by decide +kernel
theorem dM_into_73 : decode cM_into 73 = .ok (.lmul, 1) := by decide +kernel
theorem dM_into_74 : decode cM_into 74 = .ok (.lsub, 1) := by decide +kernel
theorem dM_into_75 : decode cM_into 75 = .ok (.lstore 6, 2) := by decide +kernel
theorem dM_into_77 : decode cM_into 77 = .ok (.lload 6, 2) := by decide +kernel
theorem dM_into_79 : decode cM_into 79 = .ok (.lload 4, 2) := by decide +kernel
theorem dM_into_81 : decode cM_into 81 = .ok (.lcmp, 1) := by decide +kernel
theorem dM_into_82 : decode cM_into 82 = .ok (.ifCond .lt 17, 3) := by decide +kernel
theorem dM_into_85 : decode cM_into 85 = .ok (.ldc2_w 71, 3) := by decide +kernel
theorem dM_into_88 : decode cM_into 88 = .ok (.lload 4, 2) := by decide +kernel
theorem dM_into_90 : decode cM_into 90 = .ok (.lmul, 1) := by decide +kernel
theorem dM_into_91 : decode cM_into 91 = .ok (.lconst 1, 1) := by decide +kernel
theorem dM_into_92 : decode cM_into 92 = .ok (.lsub, 1) := by decide +kernel
theorem dM_into_93 : decode cM_into 93 = .ok (.lload 6, 2) := by decide +kernel
theorem dM_into_95 : decode cM_into 95 = .ok (.lsub, 1) := by decide +kernel
theorem dM_into_96 : decode cM_into 96 = .ok (.goto 5, 3) := by decide +kernel
theorem dM_into_99 : decode cM_into 99 = .ok (.lload 6, 2) := by decide +kernel
theorem dM_into_101 : decode cM_into 101 = .ok (.l2i, 1) := by decide +kernel
theorem dM_into_102 : decode cM_into 102 = .ok (.ireturn, 1) := by decide +kernel
theorem dM_soft_0 : decode cM_soft 0 = .ok (.lload_n 2, 1) := by decide +kernel
theorem dM_soft_1 : decode cM_soft 1 = .ok (.ldc2_w 73, 3) := by decide +kernel
theorem dM_soft_4 : decode cM_soft 4 = .ok (.invokestatic 67, 3) := by decide +kernel
theorem dM_soft_7 : decode cM_soft 7 = .ok (.lstore 6, 2) := by decide +kernel
theorem dM_soft_9 : decode cM_soft 9 = .ok (.lload 4, 2) := by decide +kernel
theorem dM_soft_11 : decode cM_soft 11 = .ok (.ldc2_w 73, 3) := by decide +kernel
theorem dM_soft_14 : decode cM_soft 14 = .ok (.invokestatic 67, 3) := by decide +kernel
theorem dM_soft_17 : decode cM_soft 17 = .ok (.lstore 8, 2) := by decide +kernel
theorem dM_soft_19 : decode cM_soft 19 = .ok (.lload_n 2, 1) := by decide +kernel
theorem dM_soft_20 : decode cM_soft 20 = .ok (.ldc2_w 73, 3) := by decide +kernel
theorem dM_soft_23 : decode cM_soft 23 = .ok (.lload 6, 2) := by decide +kernel
theorem dM_soft_25 : decode cM_soft 25 = .ok (.lmul, 1) := by decide +kernel
theorem dM_soft_26 : decode cM_soft 26 = .ok (.lsub, 1) := by decide +kernel
theorem dM_soft_27 : decode cM_soft 27 = .ok (.ldc2_w 75, 3) := by decide +kernel
theorem dM_soft_30 : decode cM_soft 30 = .ok (.invokestatic 67, 3) := by decide +kernel
theorem dM_soft_33 : decode cM_soft 33 = .ok (.lstore 10, 2) := by decide +kernel
theorem dM_soft_35 : decode cM_soft 35 = .ok (.lload 4, 2) := by decide +kernel
theorem dM_soft_37 : decode cM_soft 37 = .ok (.ldc2_w 73, 3) := by decide +kernel
theorem dM_soft_40 : decode cM_soft 40 = .ok (.lload 8, 2) := by decide +kernel
theorem dM_soft_42 : decode cM_soft 42 = .ok (.lmul, 1) := by decide +kernel
theorem dM_soft_43 : decode cM_soft 43 = .ok (.lsub, 1) := by decide +kernel
theorem dM_soft_44 : decode cM_soft 44 = .ok (.ldc2_w 75, 3) := by decide +kernel
theorem dM_soft_47 : decode cM_soft 47 = .ok (.invokestatic 67, 3) := by decide +kernel
theorem dM_soft_50 : decode cM_soft 50 = .ok (.lstore 12, 2) := by decide +kernel
theorem dM_soft_52 : decode cM_soft 52 = .ok (.iconst 0, 1) := by decide +kernel
theorem dM_soft_53 : decode cM_soft 53 = .ok (.istore 14, 2) := by decide +kernel
theorem dM_soft_55 : decode cM_soft 55 = .ok (.iconst 0, 1) := by decide +kernel
theorem dM_soft_56 : decode cM_soft 56 = .ok (.istore 15, 2) := by decide +kernel
theorem dM_soft_58 : decode cM_soft 58 = .ok (.iload 15, 2) := by decide +kernel
theorem dM_soft_60 : decode cM_soft 60 = .ok (.iconst 3, 1) := by decide +kernel
theorem dM_soft_61 : decode cM_soft 61 = .ok (.if_icmp .ge 137, 3) := by decide +kernel
theorem dM_soft_64 : decode cM_soft 64 = .ok (.lconst 0, 1) := by decide +kernel
theorem dM_soft_65 : decode cM_soft 65 = .ok (.lstore 16, 2) := by decide +kernel
theorem dM_soft_67 : decode cM_soft 67 = .ok (.iconst 0, 1) := by decide +kernel
theorem dM_soft_68 : decode cM_soft 68 = .ok (.istore 18, 2) := by decide +kernel
theorem dM_soft_70 : decode cM_soft 70 = .ok (.iload 18, 2) := by decide +kernel
theorem dM_soft_72 : decode cM_soft 72 = .ok (.iconst 4, 1) := by decide +kernel
theorem dM_soft_73 : decode cM_soft 73 = .ok (.if_icmp .ge 103, 3) := by decide +kernel
theorem dM_soft_76 : decode cM_soft 76 = .ok (.aload_n 0, 1) := by decide +kernel
theorem dM_soft_77 : decode cM_soft 77 = .ok (.iload_n 1, 1) := by decide +kernel
theorem dM_soft_78 : decode cM_soft 78 = .ok (.lload 6, 2) := by decide +kernel
theorem dM_soft_80 : decode cM_soft 80 = .ok (.iload 18, 2) := by decide +kernel
theorem dM_soft_82 : decode cM_soft 82 = .ok (.iconst 2, 1) := by decide +kernel
theorem dM_soft_83 : decode cM_soft 83 = .ok (.irem, 1) := by decide +kernel
theorem dM_soft_84 : decode cM_soft 84 = .ok (.i2l, 1) := by decide +kernel
theorem dM_soft_85 : decode cM_soft 85 = .ok (.ladd, 1) := by decide +kernel
theorem dM_soft_86 : decode cM_soft 86 = .ok (.invokevirtual 77, 3) := by decide +kernel
theorem dM_soft_89 : decode cM_soft 89 = .ok (.istore 19, 2) := by decide +kernel
theorem dM_soft_91 : decode cM_soft 91 = .ok (.aload_n 0, 1) := by decide +kernel
theorem dM_soft_92 : decode cM_soft 92 = .ok (.iload_n 1, 1) := by decide +kernel
theorem dM_soft_93 : decode cM_soft 93 = .ok (.lload 8, 2) := by decide +kernel
theorem dM_soft_95 : decode cM_soft 95 = .ok (.iload 18, 2) := by decide +kernel
theorem dM_soft_97 : decode cM_soft 97 = .ok (.iconst 2, 1) := by decide +kernel
theorem dM_soft_98 : decode cM_soft 98 = .ok (.idiv, 1) := by decide +kernel
theorem dM_soft_99 : decode cM_soft 99 = .ok (.i2l, 1) := by decide +kernel
theorem dM_soft_100 : decode cM_soft 100 = .ok (.ladd, 1) := by decide +kernel
theorem dM_soft_101 : decode cM_soft 101 = .ok (.invokevirtual 77, 3) := by decide +kernel
theorem dM_soft_104 : decode cM_soft 104 = .ok (.istore 20, 2) := by decide +kernel
theorem dM_soft_106 : decode cM_soft 106 = .ok (.lload 16, 2) := by decide +kernel
theorem dM_soft_108 : decode cM_soft 108 = .ok (.aload_n 0, 1) := by decide +kernel
theorem dM_soft_109 : decode cM_soft 109 = .ok (.getfield 25, 3) := by decide +kernel
theorem dM_soft_112 : decode cM_soft 112 = .ok (.iload 20, 2) := by decide +kernel
theorem dM_soft_114 : decode cM_soft 114 = .ok (.aload_n 0, 1) := by decide +kernel
theorem dM_soft_115 : decode cM_soft 115 = .ok (.getfield 43, 3) := by decide +kernel
theorem dM_soft_118 : decode cM_soft 118 = .ok (.imul, 1) := by decide +kernel
theorem dM_soft_119 : decode cM_soft 119 = .ok (.iload 19, 2) := by decide +kernel
theorem dM_soft_121 : decode cM_soft 121 = .ok (.iadd, 1) := by decide +kernel
theorem dM_soft_122 : decode cM_soft 122 = .ok (.iaload, 1) := by decide +kernel
theorem dM_soft_123 : decode cM_soft 123 = .ok (.iload 15, 2) := by decide +kernel
theorem dM_soft_125 : decode cM_soft 125 = .ok (.invokestatic 46, 3) := by decide +kernel
theorem dM_soft_128 : decode cM_soft 128 = .ok (.i2l, 1) := by decide +kernel
theorem dM_soft_129 : decode cM_soft 129 = .ok (.iload 18, 2) := by decide +kernel
theorem dM_soft_131 : decode cM_soft 131 = .ok (.iconst 2, 1) := by decide +kernel
theorem dM_soft_132 : decode cM_soft 132 = .ok (.irem, 1) := by decide +kernel
theorem dM_soft_133 : decode cM_soft 133 = .ok (.ifCond .ne 12, 3) := by decide +kernel
theorem dM_soft_136 : decode cM_soft 136 = .ok (.ldc2_w 75, 3) := by decide +kernel
theorem dM_soft_139 : decode cM_soft 139 = .ok (.lload 10, 2) := by decide +kernel
theorem dM_soft_141 : decode cM_soft 141 = .ok (.lsub, 1) := by decide +kernel
theorem dM_soft_142 : decode cM_soft 142 = .ok (.goto 5, 3) := by decide +kernel
theorem dM_soft_145 : decode cM_soft 145 = .ok (.lload 10, 2) := by decide +kernel
theorem dM_soft_147 : decode cM_soft 147 = .ok (.lmul, 1) := by decide +kernel
theorem dM_soft_148 : decode cM_soft 148 = .ok (.iload 18, 2) := by decide +kernel
theorem dM_soft_150 : decode cM_soft 150 = .ok (.iconst 2, 1) := by decide +kernel
theorem dM_soft_151 : decode cM_soft 151 = .ok (.idiv, 1) := by decide +kernel
theorem dM_soft_152 : decode cM_soft 152 = .ok (.ifCond .ne 12, 3) := by decide +kernel
theorem dM_soft_155 : decode cM_soft 155 = .ok (.ldc2_w 75, 3) := by decide +kernel
theorem dM_soft_158 : decode cM_soft 158 = .ok (.lload 12, 2) := by decide +kernel
theorem dM_soft_160 : decode cM_soft 160 = .ok (.lsub, 1) := by decide +kernel
theorem dM_soft_161 : decode cM_soft 161 = .ok (.goto 5, 3) := by decide +kernel
theorem dM_soft_164 : decode cM_soft 164 = .ok (.lload 12, 2) := by decide +kernel
theorem dM_soft_166 : decode cM_soft 166 = .ok (.lmul, 1) := by decide +kernel
theorem dM_soft_167 : decode cM_soft 167 = .ok (.ladd, 1) := by decide +kernel
theorem dM_soft_168 : decode cM_soft 168 = .ok (.lstore 16, 2) := by decide +kernel
theorem dM_soft_170 : decode cM_soft 170 = .ok (.iinc 18 1, 3) := by decide +kernel
theorem dM_soft_173 : decode cM_soft 173 = .ok (.goto (-103), 3) := by decide +kernel
theorem dM_soft_176 : decode cM_soft 176 = .ok (.iload 14, 2) := by decide +kernel
theorem dM_soft_178 : decode cM_soft 178 = .ok (.sipush 256, 3) := by decide +kernel
theorem dM_soft_181 : decode cM_soft 181 = .ok (.imul, 1) := by decide +kernel
theorem dM_soft_182 : decode cM_soft 182 = .ok (.lload 16, 2) := by decide +kernel
theorem dM_soft_184 : decode cM_soft 184 = .ok (.ldc2_w 73, 3) := by decide +kernel
theorem dM_soft_187 : decode cM_soft 187 = .ok (.ldiv, 1) := by decide +kernel
theorem dM_soft_188 : decode cM_soft 188 = .ok (.l2i, 1) := by decide +kernel
theorem dM_soft_189 : decode cM_soft 189 = .ok (.iadd, 1) := by decide +kernel
theorem dM_soft_190 : decode cM_soft 190 = .ok (.istore 14, 2) := by decide +kernel
theorem dM_soft_192 : decode cM_soft 192 = .ok (.iinc 15 1, 3) := by decide +kernel
theorem dM_soft_195 : decode cM_soft 195 = .ok (.goto (-137), 3) := by decide +kernel
theorem dM_soft_198 : decode cM_soft 198 = .ok (.iload 14, 2) := by decide +kernel
theorem dM_soft_200 : decode cM_soft 200 = .ok (.ireturn, 1) := by decide +kernel
theorem dM_isPlace_0 : decode cM_isPlace 0 = .ok (.iload_n 0, 1) := by decide +kernel
theorem dM_isPlace_1 : decode cM_isPlace 1 = .ok (.ldc 81, 2) := by decide +kernel
theorem dM_isPlace_3 : decode cM_isPlace 3 = .ok (.if_icmp .lt 13, 3) := by decide +kernel
theorem dM_isPlace_6 : decode cM_isPlace 6 = .ok (.iload_n 0, 1) := by decide +kernel
theorem dM_isPlace_7 : decode cM_isPlace 7 = .ok (.ldc 58, 2) := by decide +kernel
theorem dM_isPlace_9 : decode cM_isPlace 9 = .ok (.if_icmp .gt 7, 3) := by decide +kernel
theorem dM_isPlace_12 : decode cM_isPlace 12 = .ok (.iconst 1, 1) := by decide +kernel
theorem dM_isPlace_13 : decode cM_isPlace 13 = .ok (.goto 4, 3) := by decide +kernel
theorem dM_isPlace_16 : decode cM_isPlace 16 = .ok (.iconst 0, 1) := by decide +kernel
theorem dM_isPlace_17 : decode cM_isPlace 17 = .ok (.ireturn, 1) := by decide +kernel
theorem dM_lookUp_0 : decode cM_lookUp 0 = .ok (.aload_n 0, 1) := by decide +kernel
theorem dM_lookUp_1 : decode cM_lookUp 1 = .ok (.aload_n 0, 1) := by decide +kernel
theorem dM_lookUp_2 : decode cM_lookUp 2 = .ok (.iload_n 1, 1) := by decide +kernel
theorem dM_lookUp_3 : decode cM_lookUp 3 = .ok (.invokevirtual 53, 3) := by decide +kernel
theorem dM_lookUp_6 : decode cM_lookUp 6 = .ok (.ifCond .eq 16, 3) := by decide +kernel
theorem dM_lookUp_9 : decode cM_lookUp 9 = .ok (.iload_n 2, 1) := by decide +kernel
theorem dM_lookUp_10 : decode cM_lookUp 10 = .ok (.ifCond .lt 12, 3) := by decide +kernel
theorem dM_lookUp_13 : decode cM_lookUp 13 = .ok (.iload_n 2, 1) := by decide +kernel
theorem dM_lookUp_14 : decode cM_lookUp 14 = .ok (.aload_n 0, 1) := by decide +kernel
theorem dM_lookUp_15 : decode cM_lookUp 15 = .ok (.iload_n 1, 1) := by decide +kernel
theorem dM_lookUp_16 : decode cM_lookUp 16 = .ok (.invokevirtual 61, 3) := by decide +kernel
theorem dM_lookUp_19 : decode cM_lookUp 19 = .ok (.if_icmp .le 7, 3) := by decide +kernel
theorem dM_lookUp_22 : decode cM_lookUp 22 = .ok (.iconst 1, 1) := by decide +kernel
theorem dM_lookUp_23 : decode cM_lookUp 23 = .ok (.goto 23, 3) := by decide +kernel
theorem dM_lookUp_26 : decode cM_lookUp 26 = .ok (.iload_n 3, 1) := by decide +kernel
theorem dM_lookUp_27 : decode cM_lookUp 27 = .ok (.invokestatic 82, 3) := by decide +kernel
theorem dM_lookUp_30 : decode cM_lookUp 30 = .ok (.ifCond .eq 11, 3) := by decide +kernel
theorem dM_lookUp_33 : decode cM_lookUp 33 = .ok (.iload 4, 2) := by decide +kernel
theorem dM_lookUp_35 : decode cM_lookUp 35 = .ok (.invokestatic 82, 3) := by decide +kernel
theorem dM_lookUp_38 : decode cM_lookUp 38 = .ok (.ifCond .ne 7, 3) := by decide +kernel
theorem dM_lookUp_41 : decode cM_lookUp 41 = .ok (.iconst 2, 1) := by decide +kernel
theorem dM_lookUp_42 : decode cM_lookUp 42 = .ok (.goto 4, 3) := by decide +kernel
theorem dM_lookUp_45 : decode cM_lookUp 45 = .ok (.iconst 0, 1) := by decide +kernel
theorem dM_lookUp_46 : decode cM_lookUp 46 = .ok (.putfield 28, 3) := by decide +kernel
theorem dM_lookUp_49 : decode cM_lookUp 49 = .ok (.aload_n 0, 1) := by decide +kernel
theorem dM_lookUp_50 : decode cM_lookUp 50 = .ok (.getfield 28, 3) := by decide +kernel
theorem dM_lookUp_53 : decode cM_lookUp 53 = .ok (.ifCond .eq 5, 3) := by decide +kernel
theorem dM_lookUp_56 : decode cM_lookUp 56 = .ok (.iconst 0, 1) := by decide +kernel
theorem dM_lookUp_57 : decode cM_lookUp 57 = .ok (.ireturn, 1) := by decide +kernel
theorem dM_lookUp_58 : decode cM_lookUp 58 = .ok (.aload_n 0, 1) := by decide +kernel
theorem dM_lookUp_59 : decode cM_lookUp 59 = .ok (.iload_n 1, 1) := by decide +kernel
theorem dM_lookUp_60 : decode cM_lookUp 60 = .ok (.iload_n 2, 1) := by decide +kernel
theorem dM_lookUp_61 : decode cM_lookUp 61 = .ok (.invokevirtual 85, 3) := by decide +kernel
theorem dM_lookUp_64 : decode cM_lookUp 64 = .ok (.iload_n 3, 1) := by decide +kernel
theorem dM_lookUp_65 : decode cM_lookUp 65 = .ok (.i2l, 1) := by decide +kernel
theorem dM_lookUp_66 : decode cM_lookUp 66 = .ok (.aload_n 0, 1) := by decide +kernel
theorem dM_lookUp_67 : decode cM_lookUp 67 = .ok (.getfield 43, 3) := by decide +kernel
theorem dM_lookUp_70 : decode cM_lookUp 70 = .ok (.i2l, 1) := by decide +kernel
theorem dM_lookUp_71 : decode cM_lookUp 71 = .ok (.lmul, 1) := by decide +kernel
theorem dM_lookUp_72 : decode cM_lookUp 72 = .ok (.lstore 5, 2) := by decide +kernel
theorem dM_lookUp_74 : decode cM_lookUp 74 = .ok (.iload 4, 2) := by decide +kernel
theorem dM_lookUp_76 : decode cM_lookUp 76 = .ok (.i2l, 1) := by decide +kernel
theorem dM_lookUp_77 : decode cM_lookUp 77 = .ok (.aload_n 0, 1) := by decide +kernel
theorem dM_lookUp_78 : decode cM_lookUp 78 = .ok (.getfield 43, 3) := by decide +kernel
theorem dM_lookUp_81 : decode cM_lookUp 81 = .ok (.i2l, 1) := by decide +kernel
theorem dM_lookUp_82 : decode cM_lookUp 82 = .ok (.lmul, 1) := by decide +kernel
theorem dM_lookUp_83 : decode cM_lookUp 83 = .ok (.lstore 7, 2) := by decide +kernel
theorem dM_lookUp_85 : decode cM_lookUp 85 = .ok (.aload_n 0, 1) := by decide +kernel
theorem dM_lookUp_86 : decode cM_lookUp 86 = .ok (.getfield 13, 3) := by decide +kernel
theorem dM_lookUp_89 : decode cM_lookUp 89 = .ok (.iload_n 1, 1) := by decide +kernel
theorem dM_lookUp_90 : decode cM_lookUp 90 = .ok (.iaload, 1) := by decide +kernel
theorem dM_lookUp_91 : decode cM_lookUp 91 = .ok (.istore 9, 2) := by decide +kernel
theorem dM_lookUp_93 : decode cM_lookUp 93 = .ok (.aload_n 0, 1) := by decide +kernel
theorem dM_lookUp_94 : decode cM_lookUp 94 = .ok (.getfield 16, 3) := by decide +kernel
theorem dM_lookUp_97 : decode cM_lookUp 97 = .ok (.iload_n 1, 1) := by decide +kernel
theorem dM_lookUp_98 : decode cM_lookUp 98 = .ok (.iaload, 1) := by decide +kernel
theorem dM_lookUp_99 : decode cM_lookUp 99 = .ok (.iconst 1, 1) := by decide +kernel
theorem dM_lookUp_100 : decode cM_lookUp 100 = .ok (.if_icmp .ne 22, 3) := by decide +kernel
theorem dM_lookUp_103 : decode cM_lookUp 103 = .ok (.aload_n 0, 1) := by decide +kernel
theorem dM_lookUp_104 : decode cM_lookUp 104 = .ok (.iload 9, 2) := by decide +kernel
theorem dM_lookUp_106 : decode cM_lookUp 106 = .ok (.lload 5, 2) := by decide +kernel
theorem dM_lookUp_108 : decode cM_lookUp 108 = .ok (.ldc2_w 89, 3) := by decide +kernel
theorem dM_lookUp_111 : decode cM_lookUp 111 = .ok (.lsub, 1) := by decide +kernel
theorem dM_lookUp_112 : decode cM_lookUp 112 = .ok (.lload 7, 2) := by decide +kernel
theorem dM_lookUp_114 : decode cM_lookUp 114 = .ok (.ldc2_w 89, 3) := by decide +kernel
theorem dM_lookUp_117 : decode cM_lookUp 117 = .ok (.lsub, 1) := by decide +kernel
theorem dM_lookUp_118 : decode cM_lookUp 118 = .ok (.invokevirtual 91, 3) := by decide +kernel
theorem dM_lookUp_121 : decode cM_lookUp 121 = .ok (.ireturn, 1) := by decide +kernel
theorem dM_lookUp_122 : decode cM_lookUp 122 = .ok (.aload_n 0, 1) := by decide +kernel
theorem dM_lookUp_123 : decode cM_lookUp 123 = .ok (.iload 9, 2) := by decide +kernel
theorem dM_lookUp_125 : decode cM_lookUp 125 = .ok (.lload 5, 2) := by decide +kernel
theorem dM_lookUp_127 : decode cM_lookUp 127 = .ok (.ldc2_w 73, 3) := by decide +kernel
theorem dM_lookUp_130 : decode cM_lookUp 130 = .ok (.invokestatic 67, 3) := by decide +kernel
theorem dM_lookUp_133 : decode cM_lookUp 133 = .ok (.invokevirtual 77, 3) := by decide +kernel
theorem dM_lookUp_136 : decode cM_lookUp 136 = .ok (.istore 10, 2) := by decide +kernel
theorem dM_lookUp_138 : decode cM_lookUp 138 = .ok (.aload_n 0, 1) := by decide +kernel
theorem dM_lookUp_139 : decode cM_lookUp 139 = .ok (.iload 9, 2) := by decide +kernel
theorem dM_lookUp_141 : decode cM_lookUp 141 = .ok (.lload 7, 2) := by decide +kernel
theorem dM_lookUp_143 : decode cM_lookUp 143 = .ok (.ldc2_w 73, 3) := by decide +kernel
theorem dM_lookUp_146 : decode cM_lookUp 146 = .ok (.invokestatic 67, 3) := by decide +kernel
theorem dM_lookUp_149 : decode cM_lookUp 149 = .ok (.invokevirtual 77, 3) := by decide +kernel
theorem dM_lookUp_152 : decode cM_lookUp 152 = .ok (.istore 11, 2) := by decide +kernel
theorem dM_lookUp_154 : decode cM_lookUp 154 = .ok (.aload_n 0, 1) := by decide +kernel
theorem dM_lookUp_155 : decode cM_lookUp 155 = .ok (.getfield 25, 3) := by decide +kernel
theorem dM_lookUp_158 : decode cM_lookUp 158 = .ok (.iload 11, 2) := by decide +kernel
theorem dM_lookUp_160 : decode cM_lookUp 160 = .ok (.aload_n 0, 1) := by decide +kernel
theorem dM_lookUp_161 : decode cM_lookUp 161 = .ok (.getfield 43, 3) := by decide +kernel
theorem dM_lookUp_164 : decode cM_lookUp 164 = .ok (.imul, 1) := by decide +kernel
theorem dM_lookUp_165 : decode cM_lookUp 165 = .ok (.iload 10, 2) := by decide +kernel
theorem dM_lookUp_167 : decode cM_lookUp 167 = .ok (.iadd, 1) := by decide +kernel
theorem dM_lookUp_168 : decode cM_lookUp 168 = .ok (.iaload, 1) := by decide +kernel
theorem dM_lookUp_169 : decode cM_lookUp 169 = .ok (.ireturn, 1) := by decide +kernel
theorem dM_texel_0 : decode cM_texel 0 = .ok (.aload_n 0, 1) := by decide +kernel
theorem dM_texel_1 : decode cM_texel 1 = .ok (.aload_n 0, 1) := by decide +kernel
theorem dM_texel_2 : decode cM_texel 2 = .ok (.iload_n 1, 1) := by decide +kernel
theorem dM_texel_3 : decode cM_texel 3 = .ok (.invokevirtual 53, 3) := by decide +kernel
theorem dM_texel_6 : decode cM_texel 6 = .ok (.ifCond .eq 16, 3) := by decide +kernel
theorem dM_texel_9 : decode cM_texel 9 = .ok (.iload_n 2, 1) := by decide +kernel
theorem dM_texel_10 : decode cM_texel 10 = .ok (.ifCond .lt 12, 3) := by decide +kernel
theorem dM_texel_13 : decode cM_texel 13 = .ok (.iload_n 2, 1) := by decide +kernel
theorem dM_texel_14 : decode cM_texel 14 = .ok (.aload_n 0, 1) := by decide +kernel
theorem dM_texel_15 : decode cM_texel 15 = .ok (.iload_n 1, 1) := by decide +kernel
theorem dM_texel_16 : decode cM_texel 16 = .ok (.invokevirtual 61, 3) := by decide +kernel
theorem dM_texel_19 : decode cM_texel 19 = .ok (.if_icmp .le 7, 3) := by decide +kernel
theorem dM_texel_22 : decode cM_texel 22 = .ok (.iconst 1, 1) := by decide +kernel
theorem dM_texel_23 : decode cM_texel 23 = .ok (.goto 4, 3) := by decide +kernel
theorem dM_texel_26 : decode cM_texel 26 = .ok (.iconst 0, 1) := by decide +kernel
theorem dM_texel_27 : decode cM_texel 27 = .ok (.putfield 28, 3) := by decide +kernel
theorem dM_texel_30 : decode cM_texel 30 = .ok (.aload_n 0, 1) := by decide +kernel
theorem dM_texel_31 : decode cM_texel 31 = .ok (.getfield 28, 3) := by decide +kernel
theorem dM_texel_34 : decode cM_texel 34 = .ok (.ifCond .eq 5, 3) := by decide +kernel
theorem dM_texel_37 : decode cM_texel 37 = .ok (.iconst 0, 1) := by decide +kernel
theorem dM_texel_38 : decode cM_texel 38 = .ok (.ireturn, 1) := by decide +kernel
theorem dM_texel_39 : decode cM_texel 39 = .ok (.aload_n 0, 1) := by decide +kernel
theorem dM_texel_40 : decode cM_texel 40 = .ok (.iload_n 1, 1) := by decide +kernel
theorem dM_texel_41 : decode cM_texel 41 = .ok (.iload_n 2, 1) := by decide +kernel
theorem dM_texel_42 : decode cM_texel 42 = .ok (.invokevirtual 85, 3) := by decide +kernel
theorem dM_texel_45 : decode cM_texel 45 = .ok (.aload_n 0, 1) := by decide +kernel
theorem dM_texel_46 : decode cM_texel 46 = .ok (.iload_n 3, 1) := by decide +kernel
theorem dM_texel_47 : decode cM_texel 47 = .ok (.ifCond .lt 25, 3) := by decide +kernel
theorem dM_texel_50 : decode cM_texel 50 = .ok (.iload_n 3, 1) := by decide +kernel
theorem dM_texel_51 : decode cM_texel 51 = .ok (.aload_n 0, 1) := by decide +kernel
theorem dM_texel_52 : decode cM_texel 52 = .ok (.getfield 43, 3) := by decide +kernel
theorem dM_texel_55 : decode cM_texel 55 = .ok (.if_icmp .ge 17, 3) := by decide +kernel
theorem dM_texel_58 : decode cM_texel 58 = .ok (.iload 4, 2) := by decide +kernel
theorem dM_texel_60 : decode cM_texel 60 = .ok (.ifCond .lt 12, 3) := by decide +kernel
theorem dM_texel_63 : decode cM_texel 63 = .ok (.iload 4, 2) := by decide +kernel
theorem dM_texel_65 : decode cM_texel 65 = .ok (.aload_n 0, 1) := by decide +kernel
theorem dM_texel_66 : decode cM_texel 66 = .ok (.getfield 43, 3) := by decide +kernel
theorem dM_texel_69 : decode cM_texel 69 = .ok (.if_icmp .lt 7, 3) := by decide +kernel
theorem dM_texel_72 : decode cM_texel 72 = .ok (.iconst 1, 1) := by decide +kernel
theorem dM_texel_73 : decode cM_texel 73 = .ok (.goto 4, 3) := by decide +kernel
theorem dM_texel_76 : decode cM_texel 76 = .ok (.iconst 0, 1) := by decide +kernel
theorem dM_texel_77 : decode cM_texel 77 = .ok (.putfield 28, 3) := by decide +kernel
theorem dM_texel_80 : decode cM_texel 80 = .ok (.aload_n 0, 1) := by decide +kernel
theorem dM_texel_81 : decode cM_texel 81 = .ok (.getfield 28, 3) := by decide +kernel
theorem dM_texel_84 : decode cM_texel 84 = .ok (.iconst 1, 1) := by decide +kernel
theorem dM_texel_85 : decode cM_texel 85 = .ok (.if_icmp .ne 7, 3) := by decide +kernel
theorem dM_texel_88 : decode cM_texel 88 = .ok (.iconst 0, 1) := by decide +kernel
theorem dM_texel_89 : decode cM_texel 89 = .ok (.goto 17, 3) := by decide +kernel
theorem dM_texel_92 : decode cM_texel 92 = .ok (.aload_n 0, 1) := by decide +kernel
theorem dM_texel_93 : decode cM_texel 93 = .ok (.getfield 25, 3) := by decide +kernel
theorem dM_texel_96 : decode cM_texel 96 = .ok (.iload 4, 2) := by decide +kernel
theorem dM_texel_98 : decode cM_texel 98 = .ok (.aload_n 0, 1) := by decide +kernel
theorem dM_texel_99 : decode cM_texel 99 = .ok (.getfield 43, 3) := by decide +kernel
theorem dM_texel_102 : decode cM_texel 102 = .ok (.imul, 1) := by decide +kernel
theorem dM_texel_103 : decode cM_texel 103 = .ok (.iload_n 3, 1) := by decide +kernel
theorem dM_texel_104 : decode cM_texel 104 = .ok (.iadd, 1) := by decide +kernel
theorem dM_texel_105 : decode cM_texel 105 = .ok (.iaload, 1) := by decide +kernel
theorem dM_texel_106 : decode cM_texel 106 = .ok (.ireturn, 1) := by decide +kernel
theorem dM_lit_0 : decode cM_lit 0 = .ok (.iload_n 1, 1) := by decide +kernel
theorem dM_lit_1 : decode cM_lit 1 = .ok (.ifCond .lt 33, 3) := by decide +kernel
theorem dM_lit_4 : decode cM_lit 4 = .ok (.iload_n 1, 1) := by decide +kernel
theorem dM_lit_5 : decode cM_lit 5 = .ok (.ldc 58, 2) := by decide +kernel
theorem dM_lit_7 : decode cM_lit 7 = .ok (.if_icmp .ge 27, 3) := by decide +kernel
theorem dM_lit_10 : decode cM_lit 10 = .ok (.iload_n 2, 1) := by decide +kernel
theorem dM_lit_11 : decode cM_lit 11 = .ok (.ifCond .lt 23, 3) := by decide +kernel
theorem dM_lit_14 : decode cM_lit 14 = .ok (.iload_n 2, 1) := by decide +kernel
theorem dM_lit_15 : decode cM_lit 15 = .ok (.ldc 58, 2) := by decide +kernel
theorem dM_lit_17 : decode cM_lit 17 = .ok (.if_icmp .ge 17, 3) := by decide +kernel
theorem dM_lit_20 : decode cM_lit 20 = .ok (.iload_n 3, 1) := by decide +kernel
theorem dM_lit_21 : decode cM_lit 21 = .ok (.ifCond .lt 13, 3) := by decide +kernel
theorem dM_lit_24 : decode cM_lit 24 = .ok (.iload_n 3, 1) := by decide +kernel
theorem dM_lit_25 : decode cM_lit 25 = .ok (.ldc 39, 2) := by decide +kernel
theorem dM_lit_27 : decode cM_lit 27 = .ok (.if_icmp .gt 7, 3) := by decide +kernel
theorem dM_lit_30 : decode cM_lit 30 = .ok (.iconst 1, 1) := by decide +kernel
theorem dM_lit_31 : decode cM_lit 31 = .ok (.goto 4, 3) := by decide +kernel
theorem dM_lit_34 : decode cM_lit 34 = .ok (.iconst 0, 1) := by decide +kernel
theorem dM_lit_35 : decode cM_lit 35 = .ok (.istore 4, 2) := by decide +kernel
theorem dM_lit_37 : decode cM_lit 37 = .ok (.aload_n 0, 1) := by decide +kernel
theorem dM_lit_38 : decode cM_lit 38 = .ok (.iload 4, 2) := by decide +kernel
theorem dM_lit_40 : decode cM_lit 40 = .ok (.ifCond .eq 7, 3) := by decide +kernel
theorem dM_lit_43 : decode cM_lit 43 = .ok (.iconst 0, 1) := by decide +kernel
theorem dM_lit_44 : decode cM_lit 44 = .ok (.goto 4, 3) := by decide +kernel
theorem dM_lit_47 : decode cM_lit 47 = .ok (.iconst 1, 1) := by decide +kernel
theorem dM_lit_48 : decode cM_lit 48 = .ok (.putfield 28, 3) := by decide +kernel
theorem dM_lit_51 : decode cM_lit 51 = .ok (.iconst 0, 1) := by decide +kernel
theorem dM_lit_52 : decode cM_lit 52 = .ok (.istore 5, 2) := by decide +kernel
theorem dM_lit_54 : decode cM_lit 54 = .ok (.iconst 0, 1) := by decide +kernel
theorem dM_lit_55 : decode cM_lit 55 = .ok (.istore 6, 2) := by decide +kernel
theorem dM_lit_57 : decode cM_lit 57 = .ok (.iload 6, 2) := by decide +kernel
theorem dM_lit_59 : decode cM_lit 59 = .ok (.iconst 3, 1) := by decide +kernel
theorem dM_lit_60 : decode cM_lit 60 = .ok (.if_icmp .ge 53, 3) := by decide +kernel
theorem dM_lit_63 : decode cM_lit 63 = .ok (.iload 4, 2) := by decide +kernel
theorem dM_lit_65 : decode cM_lit 65 = .ok (.ifCond .eq 48, 3) := by decide +kernel
theorem dM_lit_68 : decode cM_lit 68 = .ok (.iload_n 1, 1) := by decide +kernel
theorem dM_lit_69 : decode cM_lit 69 = .ok (.iload 6, 2) := by decide +kernel
theorem dM_lit_71 : decode cM_lit 71 = .ok (.invokestatic 46, 3) := by decide +kernel
theorem dM_lit_74 : decode cM_lit 74 = .ok (.iload_n 2, 1) := by decide +kernel
theorem dM_lit_75 : decode cM_lit 75 = .ok (.iload 6, 2) := by decide +kernel
theorem dM_lit_77 : decode cM_lit 77 = .ok (.invokestatic 46, 3) := by decide +kernel
theorem dM_lit_80 : decode cM_lit 80 = .ok (.imul, 1) := by decide +kernel
theorem dM_lit_81 : decode cM_lit 81 = .ok (.sipush 255, 3) := by decide +kernel
theorem dM_lit_84 : decode cM_lit 84 = .ok (.idiv, 1) := by decide +kernel
theorem dM_lit_85 : decode cM_lit 85 = .ok (.i2l, 1) := by decide +kernel
theorem dM_lit_86 : decode cM_lit 86 = .ok (.lstore 7, 2) := by decide +kernel
theorem dM_lit_88 : decode cM_lit 88 = .ok (.iload 5, 2) := by decide +kernel
theorem dM_lit_90 : decode cM_lit 90 = .ok (.sipush 256, 3) := by decide +kernel
theorem dM_lit_93 : decode cM_lit 93 = .ok (.imul, 1) := by decide +kernel
theorem dM_lit_94 : decode cM_lit 94 = .ok (.lload 7, 2) := by decide +kernel
theorem dM_lit_96 : decode cM_lit 96 = .ok (.iload_n 3, 1) := by decide +kernel
theorem dM_lit_97 : decode cM_lit 97 = .ok (.i2l, 1) := by decide +kernel
theorem dM_lit_98 : decode cM_lit 98 = .ok (.lmul, 1) := by decide +kernel
theorem dM_lit_99 : decode cM_lit 99 = .ok (.ldc2_w 73, 3) := by decide +kernel
theorem dM_lit_102 : decode cM_lit 102 = .ok (.ldiv, 1) := by decide +kernel
theorem dM_lit_103 : decode cM_lit 103 = .ok (.l2i, 1) := by decide +kernel
theorem dM_lit_104 : decode cM_lit 104 = .ok (.iadd, 1) := by decide +kernel
theorem dM_lit_105 : decode cM_lit 105 = .ok (.istore 5, 2) := by decide +kernel
theorem dM_lit_107 : decode cM_lit 107 = .ok (.iinc 6 1, 3) := by decide +kernel
theorem dM_lit_110 : decode cM_lit 110 = .ok (.goto (-53), 3) := by decide +kernel
theorem dM_lit_113 : decode cM_lit 113 = .ok (.iload 5, 2) := by decide +kernel
theorem dM_lit_115 : decode cM_lit 115 = .ok (.ireturn, 1) := by decide +kernel
theorem dM_about_0 : decode cM_about 0 = .ok (.aload_n 0, 1) := by decide +kernel
theorem dM_about_1 : decode cM_about 1 = .ok (.iconst 0, 1) := by decide +kernel
theorem dM_about_2 : decode cM_about 2 = .ok (.putfield 28, 3) := by decide +kernel
theorem dM_about_5 : decode cM_about 5 = .ok (.aload_n 0, 1) := by decide +kernel
theorem dM_about_6 : decode cM_about 6 = .ok (.iload_n 1, 1) := by decide +kernel
theorem dM_about_7 : decode cM_about 7 = .ok (.invokevirtual 53, 3) := by decide +kernel
theorem dM_about_10 : decode cM_about 10 = .ok (.ifCond .ne 5, 3) := by decide +kernel
theorem dM_about_13 : decode cM_about 13 = .ok (.iconst (-1), 1) := by decide +kernel
theorem dM_about_14 : decode cM_about 14 = .ok (.ireturn, 1) := by decide +kernel
theorem dM_about_15 : decode cM_about 15 = .ok (.iload_n 2, 1) := by decide +kernel
theorem dM_about_16 : decode cM_about 16 = .ok (.ifCond .ne 12, 3) := by decide +kernel
theorem dM_about_19 : decode cM_about 19 = .ok (.aload_n 0, 1) := by decide +kernel
theorem dM_about_20 : decode cM_about 20 = .ok (.getfield 7, 3) := by decide +kernel
theorem dM_about_23 : decode cM_about 23 = .ok (.iload_n 1, 1) := by decide +kernel
theorem dM_about_24 : decode cM_about 24 = .ok (.iaload, 1) := by decide +kernel
theorem dM_about_25 : decode cM_about 25 = .ok (.goto 47, 3) := by decide +kernel
theorem dM_about_28 : decode cM_about 28 = .ok (.iload_n 2, 1) := by decide +kernel
theorem dM_about_29 : decode cM_about 29 = .ok (.iconst 1, 1) := by decide +kernel
theorem dM_about_30 : decode cM_about 30 = .ok (.if_icmp .ne 12, 3) := by decide +kernel
theorem dM_about_33 : decode cM_about 33 = .ok (.aload_n 0, 1) := by decide +kernel
theorem dM_about_34 : decode cM_about 34 = .ok (.getfield 13, 3) := by decide +kernel
theorem dM_about_37 : decode cM_about 37 = .ok (.iload_n 1, 1) := by decide +kernel
theorem dM_about_38 : decode cM_about 38 = .ok (.iaload, 1) := by decide +kernel
theorem dM_about_39 : decode cM_about 39 = .ok (.goto 33, 3) := by decide +kernel
theorem dM_about_42 : decode cM_about 42 = .ok (.iload_n 2, 1) := by decide +kernel
theorem dM_about_43 : decode cM_about 43 = .ok (.iconst 2, 1) := by decide +kernel
theorem dM_about_44 : decode cM_about 44 = .ok (.if_icmp .ne 12, 3) := by decide +kernel
theorem dM_about_47 : decode cM_about 47 = .ok (.aload_n 0, 1) := by decide +kernel
theorem dM_about_48 : decode cM_about 48 = .ok (.getfield 16, 3) := by decide +kernel
theorem dM_about_51 : decode cM_about 51 = .ok (.iload_n 1, 1) := by decide +kernel
theorem dM_about_52 : decode cM_about 52 = .ok (.iaload, 1) := by decide +kernel
theorem dM_about_53 : decode cM_about 53 = .ok (.goto 19, 3) := by decide +kernel
theorem dM_about_56 : decode cM_about 56 = .ok (.iload_n 2, 1) := by decide +kernel
theorem dM_about_57 : decode cM_about 57 = .ok (.iconst 3, 1) := by decide +kernel
theorem dM_about_58 : decode cM_about 58 = .ok (.if_icmp .ne 13, 3) := by decide +kernel
theorem dM_about_61 : decode cM_about 61 = .ok (.aload_n 0, 1) := by decide +kernel
theorem dM_about_62 : decode cM_about 62 = .ok (.iload_n 1, 1) := by decide +kernel
theorem dM_about_63 : decode cM_about 63 = .ok (.invokevirtual 61, 3) := by decide +kernel
theorem dM_about_66 : decode cM_about 66 = .ok (.iconst 1, 1) := by decide +kernel
theorem dM_about_67 : decode cM_about 67 = .ok (.iadd, 1) := by decide +kernel
theorem dM_about_68 : decode cM_about 68 = .ok (.goto 4, 3) := by decide +kernel
theorem dM_about_71 : decode cM_about 71 = .ok (.iconst (-1), 1) := by decide +kernel
theorem dM_about_72 : decode cM_about 72 = .ok (.ireturn, 1) := by decide +kernel
theorem dM_count_0 : decode cM_count 0 = .ok (.aload_n 0, 1) := by decide +kernel
theorem dM_count_1 : decode cM_count 1 = .ok (.iconst 0, 1) := by decide +kernel
theorem dM_count_2 : decode cM_count 2 = .ok (.putfield 28, 3) := by decide +kernel
theorem dM_count_5 : decode cM_count 5 = .ok (.iload_n 1, 1) := by decide +kernel
theorem dM_count_6 : decode cM_count 6 = .ok (.ifCond .ne 10, 3) := by decide +kernel
theorem dM_count_9 : decode cM_count 9 = .ok (.aload_n 0, 1) := by decide +kernel
theorem dM_count_10 : decode cM_count 10 = .ok (.getfield 40, 3) := by decide +kernel
theorem dM_count_13 : decode cM_count 13 = .ok (.goto 16, 3) := by decide +kernel
theorem dM_count_16 : decode cM_count 16 = .ok (.iload_n 1, 1) := by decide +kernel
theorem dM_count_17 : decode cM_count 17 = .ok (.iconst 1, 1) := by decide +kernel
theorem dM_count_18 : decode cM_count 18 = .ok (.if_icmp .ne 10, 3) := by decide +kernel
theorem dM_count_21 : decode cM_count 21 = .ok (.aload_n 0, 1) := by decide +kernel
theorem dM_count_22 : decode cM_count 22 = .ok (.getfield 36, 3) := by decide +kernel
theorem dM_count_25 : decode cM_count 25 = .ok (.goto 4, 3) := by decide +kernel
theorem dM_count_28 : decode cM_count 28 = .ok (.iconst (-1), 1) := by decide +kernel
theorem dM_count_29 : decode cM_count 29 = .ok (.ireturn, 1) := by decide +kernel
end
section
theorem dT_init_0 : decode cT_init 0 = .ok (.aload_n 0, 1) := by decide +kernel
theorem dT_init_1 : decode cT_init 1 = .ok (.invokespecial 3, 3) := by decide +kernel
theorem dT_init_4 : decode cT_init 4 = .ok (.aload_n 0, 1) := by decide +kernel
theorem dT_init_5 : decode cT_init 5 = .ok (.sipush 1365, 3) := by decide +kernel
theorem dT_init_8 : decode cT_init 8 = .ok (.newarray .int, 2) := by decide +kernel
theorem dT_init_10 : decode cT_init 10 = .ok (.putfield 9, 3) := by decide +kernel
theorem dT_init_13 : decode cT_init 13 = .ok (.return_, 1) := by decide +kernel
theorem dT_fill_0 : decode cT_fill 0 = .ok (.aload_n 0, 1) := by decide +kernel
theorem dT_fill_1 : decode cT_fill 1 = .ok (.iload_n 2, 1) := by decide +kernel
theorem dT_fill_2 : decode cT_fill 2 = .ok (.putfield 15, 3) := by decide +kernel
theorem dT_fill_5 : decode cT_fill 5 = .ok (.aload_n 0, 1) := by decide +kernel
theorem dT_fill_6 : decode cT_fill 6 = .ok (.iload_n 3, 1) := by decide +kernel
theorem dT_fill_7 : decode cT_fill 7 = .ok (.putfield 19, 3) := by decide +kernel
theorem dT_fill_10 : decode cT_fill 10 = .ok (.aload_n 0, 1) := by decide +kernel
theorem dT_fill_11 : decode cT_fill 11 = .ok (.iload 4, 2) := by decide +kernel
theorem dT_fill_13 : decode cT_fill 13 = .ok (.putfield 22, 3) := by decide +kernel
theorem dT_fill_16 : decode cT_fill 16 = .ok (.aload_n 0, 1) := by decide +kernel
theorem dT_fill_17 : decode cT_fill 17 = .ok (.iconst 1, 1) := by decide +kernel
theorem dT_fill_18 : decode cT_fill 18 = .ok (.putfield 25, 3) := by decide +kernel
theorem dT_fill_21 : decode cT_fill 21 = .ok (.aload_n 1, 1) := by decide +kernel
theorem dT_fill_22 : decode cT_fill 22 = .ok (.iconst 0, 1) := by decide +kernel
theorem dT_fill_23 : decode cT_fill 23 = .ok (.aload_n 0, 1) := by decide +kernel
theorem dT_fill_24 : decode cT_fill 24 = .ok (.getfield 9, 3) := by decide +kernel
theorem dT_fill_27 : decode cT_fill 27 = .ok (.iload_n 2, 1) := by decide +kernel
theorem dT_fill_28 : decode cT_fill 28 = .ok (.invokestatic 28, 3) := by decide +kernel
theorem dT_fill_31 : decode cT_fill 31 = .ok (.iload_n 2, 1) := by decide +kernel
theorem dT_fill_32 : decode cT_fill 32 = .ok (.iload_n 2, 1) := by decide +kernel
theorem dT_fill_33 : decode cT_fill 33 = .ok (.imul, 1) := by decide +kernel
theorem dT_fill_34 : decode cT_fill 34 = .ok (.invokestatic 32, 3) := by decide +kernel
theorem dT_fill_37 : decode cT_fill 37 = .ok (.iload_n 2, 1) := by decide +kernel
theorem dT_fill_38 : decode cT_fill 38 = .ok (.iconst 2, 1) := by decide +kernel
theorem dT_fill_39 : decode cT_fill 39 = .ok (.idiv, 1) := by decide +kernel
theorem dT_fill_40 : decode cT_fill 40 = .ok (.istore 5, 2) := by decide +kernel
theorem dT_fill_42 : decode cT_fill 42 = .ok (.iload 5, 2) := by decide +kernel
theorem dT_fill_44 : decode cT_fill 44 = .ok (.ifCond .le 28, 3) := by decide +kernel
theorem dT_fill_47 : decode cT_fill 47 = .ok (.aload_n 0, 1) := by decide +kernel
theorem dT_fill_48 : decode cT_fill 48 = .ok (.iload 5, 2) := by decide +kernel
theorem dT_fill_50 : decode cT_fill 50 = .ok (.invokevirtual 38, 3) := by decide +kernel
theorem dT_fill_53 : decode cT_fill 53 = .ok (.aload_n 0, 1) := by decide +kernel
theorem dT_fill_54 : decode cT_fill 54 = .ok (.dup, 1) := by decide +kernel
theorem dT_fill_55 : decode cT_fill 55 = .ok (.getfield 25, 3) := by decide +kernel
theorem dT_fill_58 : decode cT_fill 58 = .ok (.iconst 1, 1) := by decide +kernel
theorem dT_fill_59 : decode cT_fill 59 = .ok (.iadd, 1) := by decide +kernel
theorem dT_fill_60 : decode cT_fill 60 = .ok (.putfield 25, 3) := by decide +kernel
theorem dT_fill_63 : decode cT_fill 63 = .ok (.iload 5, 2) := by decide +kernel
theorem dT_fill_65 : decode cT_fill 65 = .ok (.iconst 2, 1) := by decide +kernel
theorem dT_fill_66 : decode cT_fill 66 = .ok (.idiv, 1) := by decide +kernel
theorem dT_fill_67 : decode cT_fill 67 = .ok (.istore 5, 2) := by decide +kernel
theorem dT_fill_69 : decode cT_fill 69 = .ok (.goto (-27), 3) := by decide +kernel
theorem dT_fill_72 : decode cT_fill 72 = .ok (.return_, 1) := by decide +kernel
theorem dT_startOf_0 : decode cT_startOf 0 = .ok (.iload_n 0, 1) := by decide +kernel
theorem dT_startOf_1 : decode cT_startOf 1 = .ok (.iload_n 0, 1) := by decide +kernel
theorem dT_startOf_2 : decode cT_startOf 2 = .ok (.imul, 1) := by decide +kernel
theorem dT_startOf_3 : decode cT_startOf 3 = .ok (.iconst 1, 1) := by decide +kernel
theorem dT_startOf_4 : decode cT_startOf 4 = .ok (.isub, 1) := by decide +kernel
theorem dT_startOf_5 : decode cT_startOf 5 = .ok (.iconst 3, 1) := by decide +kernel
theorem dT_startOf_6 : decode cT_startOf 6 = .ok (.idiv, 1) := by decide +kernel
theorem dT_startOf_7 : decode cT_startOf 7 = .ok (.ireturn, 1) := by decide +kernel
theorem dT_fillFromDouble_0 : decode cT_fillFromDouble 0 = .ok (.iload_n 1, 1) := by decide +kernel
theorem dT_fillFromDouble_1 : decode cT_fillFromDouble 1 = .ok (.invokestatic 28, 3) := by decide +kernel
theorem dT_fillFromDouble_4 : decode cT_fillFromDouble 4 = .ok (.istore_n 2, 1) := by decide +kernel
theorem dT_fillFromDouble_5 : decode cT_fillFromDouble 5 = .ok (.iconst 0, 1) := by decide +kernel
theorem dT_fillFromDouble_6 : decode cT_fillFromDouble 6 = .ok (.istore_n 3, 1) := by decide +kernel
theorem dT_fillFromDouble_7 : decode cT_fillFromDouble 7 = .ok (.iload_n 3, 1) := by decide +kernel
theorem dT_fillFromDouble_8 : decode cT_fillFromDouble 8 = .ok (.iload_n 1, 1) := by decide +kernel
theorem dT_fillFromDouble_9 : decode cT_fillFromDouble 9 = .ok (.if_icmp .ge 51, 3) := by decide +kernel
theorem dT_fillFromDouble_12 : decode cT_fillFromDouble 12 = .ok (.iconst 0, 1) := by decide +kernel
theorem dT_fillFromDouble_13 : decode cT_fillFromDouble 13 = .ok (.istore 4, 2) := by decide +kernel
theorem dT_fillFromDouble_15 : decode cT_fillFromDouble 15 = .ok (.iload 4, 2) := by decide +kernel
theorem dT_fillFromDouble_17 : decode cT_fillFromDouble 17 = .ok (.iload_n 1, 1) := by decide +kernel
theorem dT_fillFromDouble_18 : decode cT_fillFromDouble 18 = .ok (.if_icmp .ge 36, 3) := by decide +kernel
theorem dT_fillFromDouble_21 : decode cT_fillFromDouble 21 = .ok (.aload_n 0, 1) := by decide +kernel
theorem dT_fillFromDouble_22 : decode cT_fillFromDouble 22 = .ok (.getfield 9, 3) := by decide +kernel
theorem dT_fillFromDouble_25 : decode cT_fillFromDouble 25 = .ok (.iload_n 2, 1) := by decide +kernel
theorem dT_fillFromDouble_26 : decode cT_fillFromDouble 26 = .ok (.iload_n 3, 1) := by decide +kernel
theorem dT_fillFromDouble_27 : decode cT_fillFromDouble 27 = .ok (.iload_n 1, 1) := by decide +kernel
theorem dT_fillFromDouble_28 : decode cT_fillFromDouble 28 = .ok (.imul, 1) := by decide +kernel
theorem dT_fillFromDouble_29 : decode cT_fillFromDouble 29 = .ok (.iadd, 1) := by decide +kernel
theorem dT_fillFromDouble_30 : decode cT_fillFromDouble 30 = .ok (.iload 4, 2) := by decide +kernel
theorem dT_fillFromDouble_32 : decode cT_fillFromDouble 32 = .ok (.iadd, 1) := by decide +kernel
theorem dT_fillFromDouble_33 : decode cT_fillFromDouble 33 = .ok (.aload_n 0, 1) := by decide +kernel
theorem dT_fillFromDouble_34 : decode cT_fillFromDouble 34 = .ok (.iconst 2, 1) := by decide +kernel
theorem dT_fillFromDouble_35 : decode cT_fillFromDouble 35 = .ok (.iload_n 1, 1) := by decide +kernel
theorem dT_fillFromDouble_36 : decode cT_fillFromDouble 36 = .ok (.imul, 1) := by decide +kernel
theorem dT_fillFromDouble_37 : decode cT_fillFromDouble 37 = .ok (.iconst 2, 1) := by decide +kernel
theorem dT_fillFromDouble_38 : decode cT_fillFromDouble 38 = .ok (.iload 4, 2) := by decide +kernel
theorem dT_fillFromDouble_40 : decode cT_fillFromDouble 40 = .ok (.imul, 1) := by decide +kernel
theorem dT_fillFromDouble_41 : decode cT_fillFromDouble 41 = .ok (.iconst 2, 1) := by decide +kernel
theorem dT_fillFromDouble_42 : decode cT_fillFromDouble 42 = .ok (.iload_n 3, 1) := by decide +kernel
theorem dT_fillFromDouble_43 : decode cT_fillFromDouble 43 = .ok (.imul, 1) := by decide +kernel
theorem dT_fillFromDouble_44 : decode cT_fillFromDouble 44 = .ok (.invokevirtual 42, 3) := by decide +kernel
theorem dT_fillFromDouble_47 : decode cT_fillFromDouble 47 = .ok (.iastore, 1) := by decide +kernel
theorem dT_fillFromDouble_48 : decode cT_fillFromDouble 48 = .ok (.iinc 4 1, 3) := by decide +kernel
theorem dT_fillFromDouble_51 : decode cT_fillFromDouble 51 = .ok (.goto (-36), 3) := by decide +kernel
theorem dT_fillFromDouble_54 : decode cT_fillFromDouble 54 = .ok (.iinc 3 1, 3) := by decide +kernel
theorem dT_fillFromDouble_57 : decode cT_fillFromDouble 57 = .ok (.goto (-50), 3) := by decide +kernel
theorem dT_fillFromDouble_60 : decode cT_fillFromDouble 60 = .ok (.return_, 1) := by decide +kernel
theorem dT_meanOfFour_0 : decode cT_meanOfFour 0 = .ok (.aload_n 0, 1) := by decide +kernel
theorem dT_meanOfFour_1 : decode cT_meanOfFour 1 = .ok (.iload_n 1, 1) := by decide +kernel
theorem dT_meanOfFour_2 : decode cT_meanOfFour 2 = .ok (.iload_n 2, 1) := by decide +kernel
theorem dT_meanOfFour_3 : decode cT_meanOfFour 3 = .ok (.iload_n 3, 1) := by decide +kernel
theorem dT_meanOfFour_4 : decode cT_meanOfFour 4 = .ok (.invokevirtual 46, 3) := by decide +kernel
theorem dT_meanOfFour_7 : decode cT_meanOfFour 7 = .ok (.istore 4, 2) := by decide +kernel
theorem dT_meanOfFour_9 : decode cT_meanOfFour 9 = .ok (.aload_n 0, 1) := by decide +kernel
theorem dT_meanOfFour_10 : decode cT_meanOfFour 10 = .ok (.iload_n 1, 1) := by decide +kernel
theorem dT_meanOfFour_11 : decode cT_meanOfFour 11 = .ok (.iload_n 2, 1) := by decide +kernel
theorem dT_meanOfFour_12 : decode cT_meanOfFour 12 = .ok (.iconst 1, 1) := by decide +kernel
theorem dT_meanOfFour_13 : decode cT_meanOfFour 13 = .ok (.iadd, 1) := by decide +kernel
theorem dT_meanOfFour_14 : decode cT_meanOfFour 14 = .ok (.iload_n 3, 1) := by decide +kernel
theorem dT_meanOfFour_15 : decode cT_meanOfFour 15 = .ok (.invokevirtual 46, 3) := by decide +kernel
theorem dT_meanOfFour_18 : decode cT_meanOfFour 18 = .ok (.istore 5, 2) := by decide +kernel
theorem dT_meanOfFour_20 : decode cT_meanOfFour 20 = .ok (.aload_n 0, 1) := by decide +kernel
theorem dT_meanOfFour_21 : decode cT_meanOfFour 21 = .ok (.iload_n 1, 1) := by decide +kernel
theorem dT_meanOfFour_22 : decode cT_meanOfFour 22 = .ok (.iload_n 2, 1) := by decide +kernel
theorem dT_meanOfFour_23 : decode cT_meanOfFour 23 = .ok (.iload_n 3, 1) := by decide +kernel
theorem dT_meanOfFour_24 : decode cT_meanOfFour 24 = .ok (.iconst 1, 1) := by decide +kernel
theorem dT_meanOfFour_25 : decode cT_meanOfFour 25 = .ok (.iadd, 1) := by decide +kernel
theorem dT_meanOfFour_26 : decode cT_meanOfFour 26 = .ok (.invokevirtual 46, 3) := by decide +kernel
theorem dT_meanOfFour_29 : decode cT_meanOfFour 29 = .ok (.istore 6, 2) := by decide +kernel
theorem dT_meanOfFour_31 : decode cT_meanOfFour 31 = .ok (.aload_n 0, 1) := by decide +kernel
theorem dT_meanOfFour_32 : decode cT_meanOfFour 32 = .ok (.iload_n 1, 1) := by decide +kernel
theorem dT_meanOfFour_33 : decode cT_meanOfFour 33 = .ok (.iload_n 2, 1) := by decide +kernel
theorem dT_meanOfFour_34 : decode cT_meanOfFour 34 = .ok (.iconst 1, 1) := by decide +kernel
theorem dT_meanOfFour_35 : decode cT_meanOfFour 35 = .ok (.iadd, 1) := by decide +kernel
theorem dT_meanOfFour_36 : decode cT_meanOfFour 36 = .ok (.iload_n 3, 1) := by decide +kernel
theorem dT_meanOfFour_37 : decode cT_meanOfFour 37 = .ok (.iconst 1, 1) := by decide +kernel
theorem dT_meanOfFour_38 : decode cT_meanOfFour 38 = .ok (.iadd, 1) := by decide +kernel
theorem dT_meanOfFour_39 : decode cT_meanOfFour 39 = .ok (.invokevirtual 46, 3) := by decide +kernel
theorem dT_meanOfFour_42 : decode cT_meanOfFour 42 = .ok (.istore 7, 2) := by decide +kernel
theorem dT_meanOfFour_44 : decode cT_meanOfFour 44 = .ok (.iload 4, 2) := by decide +kernel
theorem dT_meanOfFour_46 : decode cT_meanOfFour 46 = .ok (.iload 5, 2) := by decide +kernel
theorem dT_meanOfFour_48 : decode cT_meanOfFour 48 = .ok (.iload 6, 2) := by decide +kernel
theorem dT_meanOfFour_50 : decode cT_meanOfFour 50 = .ok (.iload 7, 2) := by decide +kernel
theorem dT_meanOfFour_52 : decode cT_meanOfFour 52 = .ok (.bipush 16, 2) := by decide +kernel
theorem dT_meanOfFour_54 : decode cT_meanOfFour 54 = .ok (.invokestatic 49, 3) := by decide +kernel
theorem dT_meanOfFour_57 : decode cT_meanOfFour 57 = .ok (.iload 4, 2) := by decide +kernel
theorem dT_meanOfFour_59 : decode cT_meanOfFour 59 = .ok (.iload 5, 2) := by decide +kernel
theorem dT_meanOfFour_61 : decode cT_meanOfFour 61 = .ok (.iload 6, 2) := by decide +kernel
theorem dT_meanOfFour_63 : decode cT_meanOfFour 63 = .ok (.iload 7, 2) := by decide +kernel
theorem dT_meanOfFour_65 : decode cT_meanOfFour 65 = .ok (.bipush 8, 2) := by decide +kernel
theorem dT_meanOfFour_67 : decode cT_meanOfFour 67 = .ok (.invokestatic 49, 3) := by decide +kernel
theorem dT_meanOfFour_70 : decode cT_meanOfFour 70 = .ok (.iload 4, 2) := by decide +kernel
theorem dT_meanOfFour_72 : decode cT_meanOfFour 72 = .ok (.iload 5, 2) := by decide +kernel
theorem dT_meanOfFour_74 : decode cT_meanOfFour 74 = .ok (.iload 6, 2) := by decide +kernel
theorem dT_meanOfFour_76 : decode cT_meanOfFour 76 = .ok (.iload 7, 2) := by decide +kernel
theorem dT_meanOfFour_78 : decode cT_meanOfFour 78 = .ok (.iconst 0, 1) := by decide +kernel
theorem dT_meanOfFour_79 : decode cT_meanOfFour 79 = .ok (.invokestatic 49, 3) := by decide +kernel
theorem dT_meanOfFour_82 : decode cT_meanOfFour 82 = .ok (.invokestatic 53, 3) := by decide +kernel
theorem dT_meanOfFour_85 : decode cT_meanOfFour 85 = .ok (.ireturn, 1) := by decide +kernel
theorem dT_colourIn_0 : decode cT_colourIn 0 = .ok (.iload_n 1, 1) := by decide +kernel
theorem dT_colourIn_1 : decode cT_colourIn 1 = .ok (.bipush 32, 2) := by decide +kernel
theorem dT_colourIn_3 : decode cT_colourIn 3 = .ok (.if_icmp .gt 21, 3) := by decide +kernel
theorem dT_colourIn_6 : decode cT_colourIn 6 = .ok (.iload_n 2, 1) := by decide +kernel
theorem dT_colourIn_7 : decode cT_colourIn 7 = .ok (.ifCond .lt 17, 3) := by decide +kernel
theorem dT_colourIn_10 : decode cT_colourIn 10 = .ok (.iload_n 2, 1) := by decide +kernel
theorem dT_colourIn_11 : decode cT_colourIn 11 = .ok (.iload_n 1, 1) := by decide +kernel
theorem dT_colourIn_12 : decode cT_colourIn 12 = .ok (.if_icmp .ge 12, 3) := by decide +kernel
theorem dT_colourIn_15 : decode cT_colourIn 15 = .ok (.iload_n 3, 1) := by decide +kernel
theorem dT_colourIn_16 : decode cT_colourIn 16 = .ok (.ifCond .lt 8, 3) := by decide +kernel
theorem dT_colourIn_19 : decode cT_colourIn 19 = .ok (.iload_n 3, 1) := by decide +kernel
theorem dT_colourIn_20 : decode cT_colourIn 20 = .ok (.iload_n 1, 1) := by decide +kernel
theorem dT_colourIn_21 : decode cT_colourIn 21 = .ok (.if_icmp .lt 5, 3) := by decide +kernel
theorem dT_colourIn_24 : decode cT_colourIn 24 = .ok (.iconst (-1), 1) := by decide +kernel
theorem dT_colourIn_25 : decode cT_colourIn 25 = .ok (.ireturn, 1) := by decide +kernel
theorem dT_colourIn_26 : decode cT_colourIn 26 = .ok (.aload_n 0, 1) := by decide +kernel
theorem dT_colourIn_27 : decode cT_colourIn 27 = .ok (.getfield 9, 3) := by decide +kernel
theorem dT_colourIn_30 : decode cT_colourIn 30 = .ok (.iload_n 1, 1) := by decide +kernel
theorem dT_colourIn_31 : decode cT_colourIn 31 = .ok (.invokestatic 28, 3) := by decide +kernel
theorem dT_colourIn_34 : decode cT_colourIn 34 = .ok (.iload_n 3, 1) := by decide +kernel
theorem dT_colourIn_35 : decode cT_colourIn 35 = .ok (.iload_n 1, 1) := by decide +kernel
theorem dT_colourIn_36 : decode cT_colourIn 36 = .ok (.imul, 1) := by decide +kernel
theorem dT_colourIn_37 : decode cT_colourIn 37 = .ok (.iadd, 1) := by decide +kernel
theorem dT_colourIn_38 : decode cT_colourIn 38 = .ok (.iload_n 2, 1) := by decide +kernel
theorem dT_colourIn_39 : decode cT_colourIn 39 = .ok (.iadd, 1) := by decide +kernel
theorem dT_colourIn_40 : decode cT_colourIn 40 = .ok (.iaload, 1) := by decide +kernel
theorem dT_colourIn_41 : decode cT_colourIn 41 = .ok (.ireturn, 1) := by decide +kernel
theorem dT_meanNumber_0 : decode cT_meanNumber 0 = .ok (.iload_n 0, 1) := by decide +kernel
theorem dT_meanNumber_1 : decode cT_meanNumber 1 = .ok (.iload 4, 2) := by decide +kernel
theorem dT_meanNumber_3 : decode cT_meanNumber 3 = .ok (.invokestatic 56, 3) := by decide +kernel
theorem dT_meanNumber_6 : decode cT_meanNumber 6 = .ok (.iload_n 1, 1) := by decide +kernel
theorem dT_meanNumber_7 : decode cT_meanNumber 7 = .ok (.iload 4, 2) := by decide +kernel
theorem dT_meanNumber_9 : decode cT_meanNumber 9 = .ok (.invokestatic 56, 3) := by decide +kernel
theorem dT_meanNumber_12 : decode cT_meanNumber 12 = .ok (.ladd, 1) := by decide +kernel
theorem dT_meanNumber_13 : decode cT_meanNumber 13 = .ok (.iload_n 2, 1) := by decide +kernel
theorem dT_meanNumber_14 : decode cT_meanNumber 14 = .ok (.iload 4, 2) := by decide +kernel
theorem dT_meanNumber_16 : decode cT_meanNumber 16 = .ok (.invokestatic 56, 3) := by decide +kernel
theorem dT_meanNumber_19 : decode cT_meanNumber 19 = .ok (.ladd, 1) := by decide +kernel
theorem dT_meanNumber_20 : decode cT_meanNumber 20 = .ok (.iload_n 3, 1) := by decide +kernel
theorem dT_meanNumber_21 : decode cT_meanNumber 21 = .ok (.iload 4, 2) := by decide +kernel
theorem dT_meanNumber_23 : decode cT_meanNumber 23 = .ok (.invokestatic 56, 3) := by decide +kernel
theorem dT_meanNumber_26 : decode cT_meanNumber 26 = .ok (.ladd, 1) := by decide +kernel
theorem dT_meanNumber_27 : decode cT_meanNumber 27 = .ok (.lstore 5, 2) := by decide +kernel
theorem dT_meanNumber_29 : decode cT_meanNumber 29 = .ok (.lload 5, 2) := by decide +kernel
theorem dT_meanNumber_31 : decode cT_meanNumber 31 = .ok (.ldc2_w 60, 3) := by decide +kernel
theorem dT_meanNumber_34 : decode cT_meanNumber 34 = .ok (.invokestatic 62, 3) := by decide +kernel
theorem dT_meanNumber_37 : decode cT_meanNumber 37 = .ok (.l2i, 1) := by decide +kernel
theorem dT_meanNumber_38 : decode cT_meanNumber 38 = .ok (.ireturn, 1) := by decide +kernel
theorem dT_levelFor_0 : decode cT_levelFor 0 = .ok (.lload_n 1, 1) := by decide +kernel
theorem dT_levelFor_1 : decode cT_levelFor 1 = .ok (.aload_n 0, 1) := by decide +kernel
theorem dT_levelFor_2 : decode cT_levelFor 2 = .ok (.getfield 15, 3) := by decide +kernel
theorem dT_levelFor_5 : decode cT_levelFor 5 = .ok (.i2l, 1) := by decide +kernel
theorem dT_levelFor_6 : decode cT_levelFor 6 = .ok (.lmul, 1) := by decide +kernel
theorem dT_levelFor_7 : decode cT_levelFor 7 = .ok (.aload_n 0, 1) := by decide +kernel
theorem dT_levelFor_8 : decode cT_levelFor 8 = .ok (.getfield 15, 3) := by decide +kernel
theorem dT_levelFor_11 : decode cT_levelFor 11 = .ok (.i2l, 1) := by decide +kernel
theorem dT_levelFor_12 : decode cT_levelFor 12 = .ok (.lmul, 1) := by decide +kernel
theorem dT_levelFor_13 : decode cT_levelFor 13 = .ok (.lstore 5, 2) := by decide +kernel
theorem dT_levelFor_15 : decode cT_levelFor 15 = .ok (.lload_n 3, 1) := by decide +kernel
theorem dT_levelFor_16 : decode cT_levelFor 16 = .ok (.ldc2_w 68, 3) := by decide +kernel
theorem dT_levelFor_19 : decode cT_levelFor 19 = .ok (.lmul, 1) := by decide +kernel
theorem dT_levelFor_20 : decode cT_levelFor 20 = .ok (.lstore 7, 2) := by decide +kernel
theorem dT_levelFor_22 : decode cT_levelFor 22 = .ok (.aload_n 0, 1) := by decide +kernel
theorem dT_levelFor_23 : decode cT_levelFor 23 = .ok (.getfield 25, 3) := by decide +kernel
theorem dT_levelFor_26 : decode cT_levelFor 26 = .ok (.iconst 1, 1) := by decide +kernel
theorem dT_levelFor_27 : decode cT_levelFor 27 = .ok (.isub, 1) := by decide +kernel
theorem dT_levelFor_28 : decode cT_levelFor 28 = .ok (.istore 9, 2) := by decide +kernel
theorem dT_levelFor_30 : decode cT_levelFor 30 = .ok (.iconst 0, 1) := by decide +kernel
theorem dT_levelFor_31 : decode cT_levelFor 31 = .ok (.istore 10, 2) := by decide +kernel
theorem dT_levelFor_33 : decode cT_levelFor 33 = .ok (.iload 10, 2) := by decide +kernel
theorem dT_levelFor_35 : decode cT_levelFor 35 = .ok (.iload 9, 2) := by decide +kernel
theorem dT_levelFor_37 : decode cT_levelFor 37 = .ok (.if_icmp .ge 28, 3) := by decide +kernel
theorem dT_levelFor_40 : decode cT_levelFor 40 = .ok (.lload 5, 2) := by decide +kernel
theorem dT_levelFor_42 : decode cT_levelFor 42 = .ok (.lload 7, 2) := by decide +kernel
theorem dT_levelFor_44 : decode cT_levelFor 44 = .ok (.lcmp, 1) := by decide +kernel
theorem dT_levelFor_45 : decode cT_levelFor 45 = .ok (.ifCond .gt 6, 3) := by decide +kernel
theorem dT_levelFor_48 : decode cT_levelFor 48 = .ok (.iload 10, 2) := by decide +kernel
theorem dT_levelFor_50 : decode cT_levelFor 50 = .ok (.ireturn, 1) := by decide +kernel
theorem dT_levelFor_51 : decode cT_levelFor 51 = .ok (.lload 7, 2) := by decide +kernel
theorem dT_levelFor_53 : decode cT_levelFor 53 = .ok (.ldc2_w 60, 3) := by decide +kernel
theorem dT_levelFor_56 : decode cT_levelFor 56 = .ok (.lmul, 1) := by decide +kernel
theorem dT_levelFor_57 : decode cT_levelFor 57 = .ok (.lstore 7, 2) := by decide +kernel
theorem dT_levelFor_59 : decode cT_levelFor 59 = .ok (.iinc 10 1, 3) := by decide +kernel
theorem dT_levelFor_62 : decode cT_levelFor 62 = .ok (.goto (-29), 3) := by decide +kernel
theorem dT_levelFor_65 : decode cT_levelFor 65 = .ok (.iload 9, 2) := by decide +kernel
theorem dT_levelFor_67 : decode cT_levelFor 67 = .ok (.ireturn, 1) := by decide +kernel
theorem dT_hasLevel_0 : decode cT_hasLevel 0 = .ok (.iload_n 1, 1) := by decide +kernel
theorem dT_hasLevel_1 : decode cT_hasLevel 1 = .ok (.ifCond .lt 15, 3) := by decide +kernel
theorem dT_hasLevel_4 : decode cT_hasLevel 4 = .ok (.iload_n 1, 1) := by decide +kernel
theorem dT_hasLevel_5 : decode cT_hasLevel 5 = .ok (.aload_n 0, 1) := by decide +kernel
theorem dT_hasLevel_6 : decode cT_hasLevel 6 = .ok (.getfield 25, 3) := by decide +kernel
theorem dT_hasLevel_9 : decode cT_hasLevel 9 = .ok (.if_icmp .ge 7, 3) := by decide +kernel
theorem dT_hasLevel_12 : decode cT_hasLevel 12 = .ok (.iconst 1, 1) := by decide +kernel
theorem dT_hasLevel_13 : decode cT_hasLevel 13 = .ok (.goto 4, 3) := by decide +kernel
theorem dT_hasLevel_16 : decode cT_hasLevel 16 = .ok (.iconst 0, 1) := by decide +kernel
theorem dT_hasLevel_17 : decode cT_hasLevel 17 = .ok (.ireturn, 1) := by decide +kernel
theorem dT_sideOf_0 : decode cT_sideOf 0 = .ok (.aload_n 0, 1) := by decide +kernel
theorem dT_sideOf_1 : decode cT_sideOf 1 = .ok (.getfield 15, 3) := by decide +kernel
theorem dT_sideOf_4 : decode cT_sideOf 4 = .ok (.iload_n 1, 1) := by decide +kernel
theorem dT_sideOf_5 : decode cT_sideOf 5 = .ok (.ishr, 1) := by decide +kernel
theorem dT_sideOf_6 : decode cT_sideOf 6 = .ok (.ireturn, 1) := by decide +kernel
theorem dT_colourAt_0 : decode cT_colourAt 0 = .ok (.lload_n 2, 1) := by decide +kernel
theorem dT_colourAt_1 : decode cT_colourAt 1 = .ok (.iload_n 1, 1) := by decide +kernel
theorem dT_colourAt_2 : decode cT_colourAt 2 = .ok (.i2l, 1) := by decide +kernel
theorem dT_colourAt_3 : decode cT_colourAt 3 = .ok (.lmul, 1) := by decide +kernel
theorem dT_colourAt_4 : decode cT_colourAt 4 = .ok (.lstore 6, 2) := by decide +kernel
theorem dT_colourAt_6 : decode cT_colourAt 6 = .ok (.lload 4, 2) := by decide +kernel
theorem dT_colourAt_8 : decode cT_colourAt 8 = .ok (.iload_n 1, 1) := by decide +kernel
theorem dT_colourAt_9 : decode cT_colourAt 9 = .ok (.i2l, 1) := by decide +kernel
theorem dT_colourAt_10 : decode cT_colourAt 10 = .ok (.lmul, 1) := by decide +kernel
theorem dT_colourAt_11 : decode cT_colourAt 11 = .ok (.lstore 8, 2) := by decide +kernel
theorem dT_colourAt_13 : decode cT_colourAt 13 = .ok (.aload_n 0, 1) := by decide +kernel
theorem dT_colourAt_14 : decode cT_colourAt 14 = .ok (.getfield 22, 3) := by decide +kernel
theorem dT_colourAt_17 : decode cT_colourAt 17 = .ok (.iconst 1, 1) := by decide +kernel
theorem dT_colourAt_18 : decode cT_colourAt 18 = .ok (.if_icmp .ne 21, 3) := by decide +kernel
theorem dT_colourAt_21 : decode cT_colourAt 21 = .ok (.aload_n 0, 1) := by decide +kernel
theorem dT_colourAt_22 : decode cT_colourAt 22 = .ok (.iload_n 1, 1) := by decide +kernel
theorem dT_colourAt_23 : decode cT_colourAt 23 = .ok (.lload 6, 2) := by decide +kernel
theorem dT_colourAt_25 : decode cT_colourAt 25 = .ok (.ldc2_w 70, 3) := by decide +kernel
theorem dT_colourAt_28 : decode cT_colourAt 28 = .ok (.lsub, 1) := by decide +kernel
theorem dT_colourAt_29 : decode cT_colourAt 29 = .ok (.lload 8, 2) := by decide +kernel
theorem dT_colourAt_31 : decode cT_colourAt 31 = .ok (.ldc2_w 70, 3) := by decide +kernel
theorem dT_colourAt_34 : decode cT_colourAt 34 = .ok (.lsub, 1) := by decide +kernel
theorem dT_colourAt_35 : decode cT_colourAt 35 = .ok (.invokevirtual 72, 3) := by decide +kernel
theorem dT_colourAt_38 : decode cT_colourAt 38 = .ok (.ireturn, 1) := by decide +kernel
theorem dT_colourAt_39 : decode cT_colourAt 39 = .ok (.aload_n 0, 1) := by decide +kernel
theorem dT_colourAt_40 : decode cT_colourAt 40 = .ok (.iload_n 1, 1) := by decide +kernel
theorem dT_colourAt_41 : decode cT_colourAt 41 = .ok (.aload_n 0, 1) := by decide +kernel
theorem dT_colourAt_42 : decode cT_colourAt 42 = .ok (.lload 6, 2) := by decide +kernel
theorem dT_colourAt_44 : decode cT_colourAt 44 = .ok (.ldc2_w 76, 3) := by decide +kernel
theorem dT_colourAt_47 : decode cT_colourAt 47 = .ok (.invokestatic 62, 3) := by decide +kernel
theorem dT_colourAt_50 : decode cT_colourAt 50 = .ok (.iload_n 1, 1) := by decide +kernel
theorem dT_colourAt_51 : decode cT_colourAt 51 = .ok (.invokevirtual 78, 3) := by decide +kernel
theorem dT_colourAt_54 : decode cT_colourAt 54 = .ok (.aload_n 0, 1) := by decide +kernel
theorem dT_colourAt_55 : decode cT_colourAt 55 = .ok (.lload 8, 2) := by decide +kernel
theorem dT_colourAt_57 : decode cT_colourAt 57 = .ok (.ldc2_w 76, 3) := by decide +kernel
theorem dT_colourAt_60 : decode cT_colourAt 60 = .ok (.invokestatic 62, 3) := by decide +kernel
theorem dT_colourAt_63 : decode cT_colourAt 63 = .ok (.iload_n 1, 1) := by decide +kernel
theorem dT_colourAt_64 : decode cT_colourAt 64 = .ok (.invokevirtual 78, 3) := by decide +kernel
theorem dT_colourAt_67 : decode cT_colourAt 67 = .ok (.invokevirtual 46, 3) := by decide +kernel
theorem dT_colourAt_70 : decode cT_colourAt 70 = .ok (.ireturn, 1) := by decide +kernel
theorem dT_softColour_0 : decode cT_softColour 0 = .ok (.lload_n 2, 1) := by decide +kernel
theorem dT_softColour_1 : decode cT_softColour 1 = .ok (.ldc2_w 76, 3) := by decide +kernel
theorem dT_softColour_4 : decode cT_softColour 4 = .ok (.invokestatic 62, 3) := by decide +kernel
theorem dT_softColour_7 : decode cT_softColour 7 = .ok (.lstore 6, 2) := by decide +kernel
theorem dT_softColour_9 : decode cT_softColour 9 = .ok (.lload 4, 2) := by decide +kernel
theorem dT_softColour_11 : decode cT_softColour 11 = .ok (.ldc2_w 76, 3) := by decide +kernel
theorem dT_softColour_14 : decode cT_softColour 14 = .ok (.invokestatic 62, 3) := by decide +kernel
theorem dT_softColour_17 : decode cT_softColour 17 = .ok (.lstore 8, 2) := by decide +kernel
theorem dT_softColour_19 : decode cT_softColour 19 = .ok (.lload_n 2, 1) := by decide +kernel
theorem dT_softColour_20 : decode cT_softColour 20 = .ok (.ldc2_w 76, 3) := by decide +kernel
theorem dT_softColour_23 : decode cT_softColour 23 = .ok (.lload 6, 2) := by decide +kernel
theorem dT_softColour_25 : decode cT_softColour 25 = .ok (.lmul, 1) := by decide +kernel
theorem dT_softColour_26 : decode cT_softColour 26 = .ok (.lsub, 1) := by decide +kernel
theorem dT_softColour_27 : decode cT_softColour 27 = .ok (.ldc2_w 82, 3) := by decide +kernel
theorem dT_softColour_30 : decode cT_softColour 30 = .ok (.invokestatic 62, 3) := by decide +kernel
theorem dT_softColour_33 : decode cT_softColour 33 = .ok (.lstore 10, 2) := by decide +kernel
theorem dT_softColour_35 : decode cT_softColour 35 = .ok (.lload 4, 2) := by decide +kernel
theorem dT_softColour_37 : decode cT_softColour 37 = .ok (.ldc2_w 76, 3) := by decide +kernel
theorem dT_softColour_40 : decode cT_softColour 40 = .ok (.lload 8, 2) := by decide +kernel
theorem dT_softColour_42 : decode cT_softColour 42 = .ok (.lmul, 1) := by decide +kernel
theorem dT_softColour_43 : decode cT_softColour 43 = .ok (.lsub, 1) := by decide +kernel
theorem dT_softColour_44 : decode cT_softColour 44 = .ok (.ldc2_w 82, 3) := by decide +kernel
theorem dT_softColour_47 : decode cT_softColour 47 = .ok (.invokestatic 62, 3) := by decide +kernel
theorem dT_softColour_50 : decode cT_softColour 50 = .ok (.lstore 12, 2) := by decide +kernel
theorem dT_softColour_52 : decode cT_softColour 52 = .ok (.aload_n 0, 1) := by decide +kernel
theorem dT_softColour_53 : decode cT_softColour 53 = .ok (.lload 6, 2) := by decide +kernel
theorem dT_softColour_55 : decode cT_softColour 55 = .ok (.iload_n 1, 1) := by decide +kernel
theorem dT_softColour_56 : decode cT_softColour 56 = .ok (.invokevirtual 78, 3) := by decide +kernel
theorem dT_softColour_59 : decode cT_softColour 59 = .ok (.istore 14, 2) := by decide +kernel
theorem dT_softColour_61 : decode cT_softColour 61 = .ok (.aload_n 0, 1) := by decide +kernel
theorem dT_softColour_62 : decode cT_softColour 62 = .ok (.lload 6, 2) := by decide +kernel
theorem dT_softColour_64 : decode cT_softColour 64 = .ok (.lconst 1, 1) := by decide +kernel
theorem dT_softColour_65 : decode cT_softColour 65 = .ok (.ladd, 1) := by decide +kernel
theorem dT_softColour_66 : decode cT_softColour 66 = .ok (.iload_n 1, 1) := by decide +kernel
theorem dT_softColour_67 : decode cT_softColour 67 = .ok (.invokevirtual 78, 3) := by decide +kernel
theorem dT_softColour_70 : decode cT_softColour 70 = .ok (.istore 15, 2) := by decide +kernel
theorem dT_softColour_72 : decode cT_softColour 72 = .ok (.aload_n 0, 1) := by decide +kernel
theorem dT_softColour_73 : decode cT_softColour 73 = .ok (.lload 8, 2) := by decide +kernel
theorem dT_softColour_75 : decode cT_softColour 75 = .ok (.iload_n 1, 1) := by decide +kernel
theorem dT_softColour_76 : decode cT_softColour 76 = .ok (.invokevirtual 78, 3) := by decide +kernel
theorem dT_softColour_79 : decode cT_softColour 79 = .ok (.istore 16, 2) := by decide +kernel
theorem dT_softColour_81 : decode cT_softColour 81 = .ok (.aload_n 0, 1) := by decide +kernel
theorem dT_softColour_82 : decode cT_softColour 82 = .ok (.lload 8, 2) := by decide +kernel
theorem dT_softColour_84 : decode cT_softColour 84 = .ok (.lconst 1, 1) := by decide +kernel
theorem dT_softColour_85 : decode cT_softColour 85 = .ok (.ladd, 1) := by decide +kernel
theorem dT_softColour_86 : decode cT_softColour 86 = .ok (.iload_n 1, 1) := by decide +kernel
theorem dT_softColour_87 : decode cT_softColour 87 = .ok (.invokevirtual 78, 3) := by decide +kernel
theorem dT_softColour_90 : decode cT_softColour 90 = .ok (.istore 17, 2) := by decide +kernel
theorem dT_softColour_92 : decode cT_softColour 92 = .ok (.aload_n 0, 1) := by decide +kernel
theorem dT_softColour_93 : decode cT_softColour 93 = .ok (.iload_n 1, 1) := by decide +kernel
theorem dT_softColour_94 : decode cT_softColour 94 = .ok (.iload 14, 2) := by decide +kernel
theorem dT_softColour_96 : decode cT_softColour 96 = .ok (.iload 16, 2) := by decide +kernel
theorem dT_softColour_98 : decode cT_softColour 98 = .ok (.invokevirtual 46, 3) := by decide +kernel
theorem dT_softColour_101 : decode cT_softColour 101 = .ok (.istore 18, 2) := by decide +kernel
theorem dT_softColour_103 : decode cT_softColour 103 = .ok (.aload_n 0, 1) := by decide +kernel
theorem dT_softColour_104 : decode cT_softColour 104 = .ok (.iload_n 1, 1) := by decide +kernel
theorem dT_softColour_105 : decode cT_softColour 105 = .ok (.iload 15, 2) := by decide +kernel
theorem dT_softColour_107 : decode cT_softColour 107 = .ok (.iload 16, 2) := by decide +kernel
theorem dT_softColour_109 : decode cT_softColour 109 = .ok (.invokevirtual 46, 3) := by decide +kernel
theorem dT_softColour_112 : decode cT_softColour 112 = .ok (.istore 19, 2) := by decide +kernel
theorem dT_softColour_114 : decode cT_softColour 114 = .ok (.aload_n 0, 1) := by decide +kernel
theorem dT_softColour_115 : decode cT_softColour 115 = .ok (.iload_n 1, 1) := by decide +kernel
theorem dT_softColour_116 : decode cT_softColour 116 = .ok (.iload 14, 2) := by decide +kernel
theorem dT_softColour_118 : decode cT_softColour 118 = .ok (.iload 17, 2) := by decide +kernel
theorem dT_softColour_120 : decode cT_softColour 120 = .ok (.invokevirtual 46, 3) := by decide +kernel
theorem dT_softColour_123 : decode cT_softColour 123 = .ok (.istore 20, 2) := by decide +kernel
theorem dT_softColour_125 : decode cT_softColour 125 = .ok (.aload_n 0, 1) := by decide +kernel
theorem dT_softColour_126 : decode cT_softColour 126 = .ok (.iload_n 1, 1) := by decide +kernel
theorem dT_softColour_127 : decode cT_softColour 127 = .ok (.iload 15, 2) := by decide +kernel
theorem dT_softColour_129 : decode cT_softColour 129 = .ok (.iload 17, 2) := by decide +kernel
theorem dT_softColour_131 : decode cT_softColour 131 = .ok (.invokevirtual 46, 3) := by decide +kernel
theorem dT_softColour_134 : decode cT_softColour 134 = .ok (.istore 21, 2) := by decide +kernel
theorem dT_softColour_136 : decode cT_softColour 136 = .ok (.iload 18, 2) := by decide +kernel
theorem dT_softColour_138 : decode cT_softColour 138 = .ok (.iload 19, 2) := by decide +kernel
theorem dT_softColour_140 : decode cT_softColour 140 = .ok (.lload 10, 2) := by decide +kernel
theorem dT_softColour_142 : decode cT_softColour 142 = .ok (.bipush 16, 2) := by decide +kernel
theorem dT_softColour_144 : decode cT_softColour 144 = .ok (.invokestatic 84, 3) := by decide +kernel
theorem dT_softColour_147 : decode cT_softColour 147 = .ok (.iload 20, 2) := by decide +kernel
theorem dT_softColour_149 : decode cT_softColour 149 = .ok (.iload 21, 2) := by decide +kernel
theorem dT_softColour_151 : decode cT_softColour 151 = .ok (.lload 10, 2) := by decide +kernel
theorem dT_softColour_153 : decode cT_softColour 153 = .ok (.bipush 16, 2) := by decide +kernel
theorem dT_softColour_155 : decode cT_softColour 155 = .ok (.invokestatic 84, 3) := by decide +kernel
theorem dT_softColour_158 : decode cT_softColour 158 = .ok (.lload 12, 2) := by decide +kernel
theorem dT_softColour_160 : decode cT_softColour 160 = .ok (.invokestatic 88, 3) := by decide +kernel
theorem dT_softColour_163 : decode cT_softColour 163 = .ok (.istore 22, 2) := by decide +kernel
theorem dT_softColour_165 : decode cT_softColour 165 = .ok (.iload 18, 2) := by decide +kernel
theorem dT_softColour_167 : decode cT_softColour 167 = .ok (.iload 19, 2) := by decide +kernel
theorem dT_softColour_169 : decode cT_softColour 169 = .ok (.lload 10, 2) := by decide +kernel
theorem dT_softColour_171 : decode cT_softColour 171 = .ok (.bipush 8, 2) := by decide +kernel
theorem dT_softColour_173 : decode cT_softColour 173 = .ok (.invokestatic 84, 3) := by decide +kernel
theorem dT_softColour_176 : decode cT_softColour 176 = .ok (.iload 20, 2) := by decide +kernel
theorem dT_softColour_178 : decode cT_softColour 178 = .ok (.iload 21, 2) := by decide +kernel
theorem dT_softColour_180 : decode cT_softColour 180 = .ok (.lload 10, 2) := by decide +kernel
theorem dT_softColour_182 : decode cT_softColour 182 = .ok (.bipush 8, 2) := by decide +kernel
theorem dT_softColour_184 : decode cT_softColour 184 = .ok (.invokestatic 84, 3) := by decide +kernel
theorem dT_softColour_187 : decode cT_softColour 187 = .ok (.lload 12, 2) := by decide +kernel
theorem dT_softColour_189 : decode cT_softColour 189 = .ok (.invokestatic 88, 3) := by decide +kernel
theorem dT_softColour_192 : decode cT_softColour 192 = .ok (.istore 23, 2) := by decide +kernel
theorem dT_softColour_194 : decode cT_softColour 194 = .ok (.iload 18, 2) := by decide +kernel
theorem dT_softColour_196 : decode cT_softColour 196 = .ok (.iload 19, 2) := by decide +kernel
theorem dT_softColour_198 : decode cT_softColour 198 = .ok (.lload 10, 2) := by decide +kernel
theorem dT_softColour_200 : decode cT_softColour 200 = .ok (.iconst 0, 1) := by decide +kernel
theorem dT_softColour_201 : decode cT_softColour 201 = .ok (.invokestatic 84, 3) := by decide +kernel
theorem dT_softColour_204 : decode cT_softColour 204 = .ok (.iload 20, 2) := by decide +kernel
theorem dT_softColour_206 : decode cT_softColour 206 = .ok (.iload 21, 2) := by decide +kernel
theorem dT_softColour_208 : decode cT_softColour 208 = .ok (.lload 10, 2) := by decide +kernel
theorem dT_softColour_210 : decode cT_softColour 210 = .ok (.iconst 0, 1) := by decide +kernel
theorem dT_softColour_211 : decode cT_softColour 211 = .ok (.invokestatic 84, 3) := by decide +kernel
theorem dT_softColour_214 : decode cT_softColour 214 = .ok (.lload 12, 2) := by decide +kernel
theorem dT_softColour_216 : decode cT_softColour 216 = .ok (.invokestatic 88, 3) := by decide +kernel
theorem dT_softColour_219 : decode cT_softColour 219 = .ok (.istore 24, 2) := by decide +kernel
theorem dT_softColour_221 : decode cT_softColour 221 = .ok (.iload 22, 2) := by decide +kernel
theorem dT_softColour_223 : decode cT_softColour 223 = .ok (.iload 23, 2) := by decide +kernel
theorem dT_softColour_225 : decode cT_softColour 225 = .ok (.iload 24, 2) := by decide +kernel
theorem dT_softColour_227 : decode cT_softColour 227 = .ok (.invokestatic 53, 3) := by decide +kernel
theorem dT_softColour_230 : decode cT_softColour 230 = .ok (.ireturn, 1) := by decide +kernel
theorem dT_wrapped_0 : decode cT_wrapped 0 = .ok (.aload_n 0, 1) := by decide +kernel
theorem dT_wrapped_1 : decode cT_wrapped 1 = .ok (.getfield 19, 3) := by decide +kernel
theorem dT_wrapped_4 : decode cT_wrapped 4 = .ok (.ifCond .ne 11, 3) := by decide +kernel
theorem dT_wrapped_7 : decode cT_wrapped 7 = .ok (.lload_n 1, 1) := by decide +kernel
theorem dT_wrapped_8 : decode cT_wrapped 8 = .ok (.iload_n 3, 1) := by decide +kernel
theorem dT_wrapped_9 : decode cT_wrapped 9 = .ok (.iconst 1, 1) := by decide +kernel
theorem dT_wrapped_10 : decode cT_wrapped 10 = .ok (.isub, 1) := by decide +kernel
theorem dT_wrapped_11 : decode cT_wrapped 11 = .ok (.i2l, 1) := by decide +kernel
theorem dT_wrapped_12 : decode cT_wrapped 12 = .ok (.land, 1) := by decide +kernel
theorem dT_wrapped_13 : decode cT_wrapped 13 = .ok (.l2i, 1) := by decide +kernel
theorem dT_wrapped_14 : decode cT_wrapped 14 = .ok (.ireturn, 1) := by decide +kernel
theorem dT_wrapped_15 : decode cT_wrapped 15 = .ok (.aload_n 0, 1) := by decide +kernel
theorem dT_wrapped_16 : decode cT_wrapped 16 = .ok (.getfield 19, 3) := by decide +kernel
theorem dT_wrapped_19 : decode cT_wrapped 19 = .ok (.iconst 1, 1) := by decide +kernel
theorem dT_wrapped_20 : decode cT_wrapped 20 = .ok (.if_icmp .ne 17, 3) := by decide +kernel
theorem dT_wrapped_23 : decode cT_wrapped 23 = .ok (.lconst 0, 1) := by decide +kernel
theorem dT_wrapped_24 : decode cT_wrapped 24 = .ok (.lload_n 1, 1) := by decide +kernel
theorem dT_wrapped_25 : decode cT_wrapped 25 = .ok (.iload_n 3, 1) := by decide +kernel
theorem dT_wrapped_26 : decode cT_wrapped 26 = .ok (.i2l, 1) := by decide +kernel
theorem dT_wrapped_27 : decode cT_wrapped 27 = .ok (.lconst 1, 1) := by decide +kernel
theorem dT_wrapped_28 : decode cT_wrapped 28 = .ok (.lsub, 1) := by decide +kernel
theorem dT_wrapped_29 : decode cT_wrapped 29 = .ok (.invokestatic 92, 3) := by decide +kernel
theorem dT_wrapped_32 : decode cT_wrapped 32 = .ok (.invokestatic 95, 3) := by decide +kernel
theorem dT_wrapped_35 : decode cT_wrapped 35 = .ok (.l2i, 1) := by decide +kernel
theorem dT_wrapped_36 : decode cT_wrapped 36 = .ok (.ireturn, 1) := by decide +kernel
theorem dT_wrapped_37 : decode cT_wrapped 37 = .ok (.lload_n 1, 1) := by decide +kernel
theorem dT_wrapped_38 : decode cT_wrapped 38 = .ok (.iconst 2, 1) := by decide +kernel
theorem dT_wrapped_39 : decode cT_wrapped 39 = .ok (.iload_n 3, 1) := by decide +kernel
theorem dT_wrapped_40 : decode cT_wrapped 40 = .ok (.imul, 1) := by decide +kernel
theorem dT_wrapped_41 : decode cT_wrapped 41 = .ok (.iconst 1, 1) := by decide +kernel
theorem dT_wrapped_42 : decode cT_wrapped 42 = .ok (.isub, 1) := by decide +kernel
theorem dT_wrapped_43 : decode cT_wrapped 43 = .ok (.i2l, 1) := by decide +kernel
theorem dT_wrapped_44 : decode cT_wrapped 44 = .ok (.land, 1) := by decide +kernel
theorem dT_wrapped_45 : decode cT_wrapped 45 = .ok (.l2i, 1) := by decide +kernel
theorem dT_wrapped_46 : decode cT_wrapped 46 = .ok (.istore 4, 2) := by decide +kernel
theorem dT_wrapped_48 : decode cT_wrapped 48 = .ok (.iload 4, 2) := by decide +kernel
theorem dT_wrapped_50 : decode cT_wrapped 50 = .ok (.iload_n 3, 1) := by decide +kernel
theorem dT_wrapped_51 : decode cT_wrapped 51 = .ok (.if_icmp .lt 14, 3) := by decide +kernel
theorem dT_wrapped_54 : decode cT_wrapped 54 = .ok (.iconst 2, 1) := by decide +kernel
theorem dT_wrapped_55 : decode cT_wrapped 55 = .ok (.iload_n 3, 1) := by decide +kernel
theorem dT_wrapped_56 : decode cT_wrapped 56 = .ok (.imul, 1) := by decide +kernel
theorem dT_wrapped_57 : decode cT_wrapped 57 = .ok (.iconst 1, 1) := by decide +kernel
theorem dT_wrapped_58 : decode cT_wrapped 58 = .ok (.isub, 1) := by decide +kernel
theorem dT_wrapped_59 : decode cT_wrapped 59 = .ok (.iload 4, 2) := by decide +kernel
theorem dT_wrapped_61 : decode cT_wrapped 61 = .ok (.isub, 1) := by decide +kernel
theorem dT_wrapped_62 : decode cT_wrapped 62 = .ok (.goto 5, 3) := by decide +kernel
theorem dT_wrapped_65 : decode cT_wrapped 65 = .ok (.iload 4, 2) := by decide +kernel
theorem dT_wrapped_67 : decode cT_wrapped 67 = .ok (.ireturn, 1) := by decide +kernel
theorem dT_mixed_0 : decode cT_mixed 0 = .ok (.iload_n 0, 1) := by decide +kernel
theorem dT_mixed_1 : decode cT_mixed 1 = .ok (.iload 4, 2) := by decide +kernel
theorem dT_mixed_3 : decode cT_mixed 3 = .ok (.invokestatic 56, 3) := by decide +kernel
theorem dT_mixed_6 : decode cT_mixed 6 = .ok (.ldc2_w 82, 3) := by decide +kernel
theorem dT_mixed_9 : decode cT_mixed 9 = .ok (.lload_n 2, 1) := by decide +kernel
theorem dT_mixed_10 : decode cT_mixed 10 = .ok (.lsub, 1) := by decide +kernel
theorem dT_mixed_11 : decode cT_mixed 11 = .ok (.lmul, 1) := by decide +kernel
theorem dT_mixed_12 : decode cT_mixed 12 = .ok (.iload_n 1, 1) := by decide +kernel
theorem dT_mixed_13 : decode cT_mixed 13 = .ok (.iload 4, 2) := by decide +kernel
theorem dT_mixed_15 : decode cT_mixed 15 = .ok (.invokestatic 56, 3) := by decide +kernel
theorem dT_mixed_18 : decode cT_mixed 18 = .ok (.lload_n 2, 1) := by decide +kernel
theorem dT_mixed_19 : decode cT_mixed 19 = .ok (.lmul, 1) := by decide +kernel
theorem dT_mixed_20 : decode cT_mixed 20 = .ok (.ladd, 1) := by decide +kernel
theorem dT_mixed_21 : decode cT_mixed 21 = .ok (.lreturn, 1) := by decide +kernel
theorem dT_softNumber_0 : decode cT_softNumber 0 = .ok (.lload_n 0, 1) := by decide +kernel
theorem dT_softNumber_1 : decode cT_softNumber 1 = .ok (.ldc2_w 82, 3) := by decide +kernel
theorem dT_softNumber_4 : decode cT_softNumber 4 = .ok (.lload 4, 2) := by decide +kernel
theorem dT_softNumber_6 : decode cT_softNumber 6 = .ok (.lsub, 1) := by decide +kernel
theorem dT_softNumber_7 : decode cT_softNumber 7 = .ok (.lmul, 1) := by decide +kernel
theorem dT_softNumber_8 : decode cT_softNumber 8 = .ok (.lload_n 2, 1) := by decide +kernel
theorem dT_softNumber_9 : decode cT_softNumber 9 = .ok (.lload 4, 2) := by decide +kernel
theorem dT_softNumber_11 : decode cT_softNumber 11 = .ok (.lmul, 1) := by decide +kernel
theorem dT_softNumber_12 : decode cT_softNumber 12 = .ok (.ladd, 1) := by decide +kernel
theorem dT_softNumber_13 : decode cT_softNumber 13 = .ok (.ldc2_w 76, 3) := by decide +kernel
theorem dT_softNumber_16 : decode cT_softNumber 16 = .ok (.invokestatic 62, 3) := by decide +kernel
theorem dT_softNumber_19 : decode cT_softNumber 19 = .ok (.l2i, 1) := by decide +kernel
theorem dT_softNumber_20 : decode cT_softNumber 20 = .ok (.ireturn, 1) := by decide +kernel
end
section
theorem tbI {a b : Int32} (h : a = b) : Outcome.returned (some (Value.int a)) = Outcome.returned (some (Value.int b)) := by rw [h]
theorem tbL {a b : Int64} (h : a = b) : Outcome.returned (some (Value.long a)) = Outcome.returned (some (Value.long b)) := by rw [h]
theorem tbR {a b : Value} (h : a = b) : Outcome.returned (some a) = Outcome.returned (some b) := by rw [h]
theorem run_of {p : Program} {l : Launch} {e : Env} {R : Room} {s : State} {m : MethodId} {args : Array Value} {below : List Frame} {meth : Method} {c : Code} {H : Heap} {locs : List Loc} {cells slots mc ms : Nat} {g : JFrame} {rest : List Value} {Qa : State → Outcome → State → Prop} {free : Addr → Prop}
    (h : va_Run p l e R s m args below meth c H locs cells slots mc ms g rest Qa free) : CallRun p l e R s m args below meth c H locs cells slots mc ms g rest Qa free := by
  intro T hT X
  obtain ⟨v, st0, t, T', L, a1, a2, a3, a4, _, a5, a6⟩ := h T hT X
  exact ⟨v, st0, t, T', L, a1, a2, a3, a4, a5, a6⟩
/-- what a call of a nest mate wants of the tables, and the class of the textures' array -/
def tbCx (U : State) : Prop :=
  va_Nw (.methodLinkNest "TextureBank" 23 ⟨"TextureBank$Texture", "<init>", "()V"⟩ "TextureBank") U ∧
  va_Nw (.fieldLinkNest "TextureBank" 109 "TextureBank$Texture" "side" "I" "TextureBank") U ∧
  va_Nw (.fieldLinkNest "TextureBank" 112 "TextureBank$Texture" "wrap" "I" "TextureBank") U ∧
  va_Nw (.fieldLinkNest "TextureBank" 115 "TextureBank$Texture" "soft" "I" "TextureBank") U ∧
  va_Nw (.fieldLinkNest "TextureBank" 118 "TextureBank$Texture" "levels" "I" "TextureBank") U ∧
  va_Nw (.methodLinkNest "TextureBank" 44 ⟨"TextureBank$Texture", "fill", "([IIII)V"⟩ "TextureBank") U ∧
  va_Nw (.methodLinkNest "TextureBank$Texture" 56 ⟨"TextureBank", "numberOf", "(II)J"⟩ "TextureBank") U ∧
  va_Nw (.methodLinkNest "TextureBank$Texture" 53 ⟨"TextureBank", "colourOf", "(III)I"⟩ "TextureBank") U ∧
  va_Nw (.methodLinkNest "TextureBank" 69 ⟨"TextureBank$Texture", "levelFor", "(JJ)I"⟩ "TextureBank") U ∧
  va_Nw (.methodLinkNest "TextureBank" 73 ⟨"TextureBank$Texture", "hasLevel", "(I)Z"⟩ "TextureBank") U ∧
  va_Nw (.methodLinkNest "TextureBank" 83 ⟨"TextureBank$Texture", "sideOf", "(I)I"⟩ "TextureBank") U ∧
  va_Nw (.methodLinkNest "TextureBank" 87 ⟨"TextureBank$Texture", "colourAt", "(IJJ)I"⟩ "TextureBank") U ∧
  va_Nw (.methodLinkNest "TextureBank" 91 ⟨"TextureBank$Texture", "colourIn", "(III)I"⟩ "TextureBank") U ∧
  va_AO "TextureBank$Texture" U
theorem tbCx.warm {s U : State} (hW : s.WarmedH U.vm) (h : tbCx s) : tbCx U := by
  obtain ⟨h1, h2, h3, h4, h5, h6, h7, h8, h9, h10, h11, h12, h13, h14⟩ := h
  exact ⟨va_Nw.warmM hW h1, va_Nw.warmF hW h2, va_Nw.warmF hW h3, va_Nw.warmF hW h4, va_Nw.warmF hW h5, va_Nw.warmM hW h6, va_Nw.warmM hW h7, va_Nw.warmM hW h8, va_Nw.warmM hW h9, va_Nw.warmM hW h10, va_Nw.warmM hW h11, va_Nw.warmM hW h12, va_Nw.warmM hW h13, va_AO.moved hW.alike h14⟩
theorem tbCx.same {u U : State} (e : u.vm = U.vm) (h : tbCx u) : tbCx U := by
  obtain ⟨h1, h2, h3, h4, h5, h6, h7, h8, h9, h10, h11, h12, h13, h14⟩ := h
  exact ⟨va_Nw.same rfl e h1, va_Nw.same rfl e h2, va_Nw.same rfl e h3, va_Nw.same rfl e h4, va_Nw.same rfl e h5, va_Nw.same rfl e h6, va_Nw.same rfl e h7, va_Nw.same rfl e h8, va_Nw.same rfl e h9, va_Nw.same rfl e h10, va_Nw.same rfl e h11, va_Nw.same rfl e h12, va_Nw.same rfl e h13, va_AO.moved (by rw [e]; exact Vm.Alike.refl _) h14⟩
/-- a reading method's start: its arguments, the tables, its cells -/
def rd_P (av : List Value) (D : va_G) (tys : List (ClassId × FieldType)) (w : va_W) : Array Value → State → Prop := fun v U => v = av.toArray ∧ tbCx U ∧ va_P D tbCl w U.heap ∧ va_K D tbCl tys U
theorem rd_B {av : List Value} {D : va_G} {tys : List (ClassId × FieldType)} {w : va_W} : FrameBlind (rd_P av D tys w) := fun a U g mk q => ⟨q.1, tbCx.same (u := U) rfl q.2.1, q.2.2.1, va_K.moved (u := U) (U := U.calling g mk a) (Vm.Alike.refl U.vm) q.2.2.2⟩
theorem rd_S {s : State} {H : Heap} {av : List Value} {D : va_G} {tys : List (ClassId × FieldType)} {w : va_W} (hC : tbCx s) (hP : va_P D tbCl w H) (hK : va_K D tbCl tys s) : PreS s H (rd_P av D tys w) av := ⟨rd_B, fun U hU hW => ⟨rfl, hC.warm hW, by rw [hU]; exact hP, va_K.moved hW.alike hK⟩⟩
theorem rd_V {s : State} {H : Heap} {C : String} {b : Nat} {As : List Value} {D : va_G} {tys : List (ClassId × FieldType)} {w : va_W} (hC : tbCx s) (hP : va_P D tbCl w H) (hK : va_K D tbCl tys s) (hr : ∃ cellB : Cell, H[b]? = some cellB ∧ cellB.vm.isStatics = false ∧ s.vm.findClass C = some cellB.cls) : PreV s H C b (rd_P (.ref b :: As) D tys w) As := ⟨rd_B, hr, fun U hU hW => ⟨rfl, hC.warm hW, by rw [hU]; exact hP, va_K.moved hW.alike hK⟩⟩
theorem tbP0 {D : va_G} {H : Heap} : va_P D tbCl [] H := fun k q h => by simp at h
theorem inT : ∀ w ∈ u_ws RT FT 5, w ∈ tbB := by decide +kernel
theorem inB : ∀ w ∈ u_ws RB FB 4, w ∈ tbB := by decide +kernel
theorem inM : ∀ w ∈ u_ws RM FM 10, w ∈ tbB := by decide +kernel
end
section
def wB_init : List Cond := .code yB_init cB_init 2 none :: tbB
theorem gwB_init : GoodIn tbB wB_init := tbB_good (List.forall_mem_cons.mpr ⟨wd_16, fun _ h => h⟩) (fun _ h => h)
theorem ydB_init : (yB_init).cls ≠ "java/lang/invoke/MethodHandle" ∧ (yB_init).cls ≠ "java/lang/invoke/VarHandle" ∧ (parseMethodDescriptor (yB_init).desc).map (fun d => d.parameters.length) = some 0 := by decide +kernel
def wT_init : List Cond := .code yT_init cT_init 1 none :: tbB
theorem gwT_init : GoodIn tbB wT_init := tbB_good (List.forall_mem_cons.mpr ⟨wd_25, fun _ h => h⟩) (fun _ h => h)
theorem ydT_init : (yT_init).cls ≠ "java/lang/invoke/MethodHandle" ∧ (yT_init).cls ≠ "java/lang/invoke/VarHandle" ∧ (parseMethodDescriptor (yT_init).desc).map (fun d => d.parameters.length) = some 0 := by decide +kernel
def wB_put : List Cond := .code yB_put cB_put 4 (some .int) :: tbB
theorem gwB_put : GoodIn tbB wB_put := tbB_good (List.forall_mem_cons.mpr ⟨wd_64, fun _ h => h⟩) (fun _ h => h)
theorem ydB_put : (yB_put).cls ≠ "java/lang/invoke/MethodHandle" ∧ (yB_put).cls ≠ "java/lang/invoke/VarHandle" ∧ (parseMethodDescriptor (yB_put).desc).map (fun d => d.parameters.length) = some 3 := by decide +kernel
def wB_isNumber : List Cond := .code yB_isNumber cB_isNumber 1 (some .boolean) :: tbB
theorem gwB_isNumber : GoodIn tbB wB_isNumber := tbB_good (List.forall_mem_cons.mpr ⟨wd_67, fun _ h => h⟩) (fun _ h => h)
theorem ydB_isNumber : (yB_isNumber).cls ≠ "java/lang/invoke/MethodHandle" ∧ (yB_isNumber).cls ≠ "java/lang/invoke/VarHandle" ∧ (parseMethodDescriptor (yB_isNumber).desc).map (fun d => d.parameters.length) = some 1 := by decide +kernel
def wB_colourOf : List Cond := .code yB_colourOf cB_colourOf 3 (some .int) :: tbB
theorem gwB_colourOf : GoodIn tbB wB_colourOf := tbB_good (List.forall_mem_cons.mpr ⟨wd_70, fun _ h => h⟩) (fun _ h => h)
theorem ydB_colourOf : (yB_colourOf).cls ≠ "java/lang/invoke/MethodHandle" ∧ (yB_colourOf).cls ≠ "java/lang/invoke/VarHandle" ∧ (parseMethodDescriptor (yB_colourOf).desc).map (fun d => d.parameters.length) = some 3 := by decide +kernel
def wB_add : List Cond := .code yB_add cB_add 6 (some .int) :: tbB
theorem gwB_add : GoodIn tbB wB_add := tbB_good (List.forall_mem_cons.mpr ⟨wd_74, fun _ h => h⟩) (fun _ h => h)
theorem ydB_add : (yB_add).cls ≠ "java/lang/invoke/MethodHandle" ∧ (yB_add).cls ≠ "java/lang/invoke/VarHandle" ∧ (parseMethodDescriptor (yB_add).desc).map (fun d => d.parameters.length) = some 3 := by decide +kernel
def wB_isSide : List Cond := .code yB_isSide cB_isSide 1 (some .boolean) :: tbB
theorem gwB_isSide : GoodIn tbB wB_isSide := tbB_good (List.forall_mem_cons.mpr ⟨wd_77, fun _ h => h⟩) (fun _ h => h)
theorem ydB_isSide : (yB_isSide).cls ≠ "java/lang/invoke/MethodHandle" ∧ (yB_isSide).cls ≠ "java/lang/invoke/VarHandle" ∧ (parseMethodDescriptor (yB_isSide).desc).map (fun d => d.parameters.length) = some 1 := by decide +kernel
def wJ_bitCount : List Cond := .code yJ_bitCount cJ_bitCount 1 (some .int) :: tbB
theorem gwJ_bitCount : GoodIn tbB wJ_bitCount := tbB_good (List.forall_mem_cons.mpr ⟨wd_80, fun _ h => h⟩) (fun _ h => h)
theorem ydJ_bitCount : (yJ_bitCount).cls ≠ "java/lang/invoke/MethodHandle" ∧ (yJ_bitCount).cls ≠ "java/lang/invoke/VarHandle" ∧ (parseMethodDescriptor (yJ_bitCount).desc).map (fun d => d.parameters.length) = some 1 := by decide +kernel
def wB_isWrap : List Cond := .code yB_isWrap cB_isWrap 1 (some .boolean) :: tbB
theorem gwB_isWrap : GoodIn tbB wB_isWrap := tbB_good (List.forall_mem_cons.mpr ⟨wd_86, fun _ h => h⟩) (fun _ h => h)
theorem ydB_isWrap : (yB_isWrap).cls ≠ "java/lang/invoke/MethodHandle" ∧ (yB_isWrap).cls ≠ "java/lang/invoke/VarHandle" ∧ (parseMethodDescriptor (yB_isWrap).desc).map (fun d => d.parameters.length) = some 1 := by decide +kernel
def wB_isSoft : List Cond := .code yB_isSoft cB_isSoft 1 (some .boolean) :: tbB
theorem gwB_isSoft : GoodIn tbB wB_isSoft := tbB_good (List.forall_mem_cons.mpr ⟨wd_89, fun _ h => h⟩) (fun _ h => h)
theorem ydB_isSoft : (yB_isSoft).cls ≠ "java/lang/invoke/MethodHandle" ∧ (yB_isSoft).cls ≠ "java/lang/invoke/VarHandle" ∧ (parseMethodDescriptor (yB_isSoft).desc).map (fun d => d.parameters.length) = some 1 := by decide +kernel
def wT_fill : List Cond := .code yT_fill cT_fill 6 none :: tbB
theorem gwT_fill : GoodIn tbB wT_fill := tbB_good (List.forall_mem_cons.mpr ⟨wd_93, fun _ h => h⟩) (fun _ h => h)
theorem ydT_fill : (yT_fill).cls ≠ "java/lang/invoke/MethodHandle" ∧ (yT_fill).cls ≠ "java/lang/invoke/VarHandle" ∧ (parseMethodDescriptor (yT_fill).desc).map (fun d => d.parameters.length) = some 4 := by decide +kernel
def wT_startOf : List Cond := .code yT_startOf cT_startOf 1 (some .int) :: tbB
theorem gwT_startOf : GoodIn tbB wT_startOf := tbB_good (List.forall_mem_cons.mpr ⟨wd_96, fun _ h => h⟩) (fun _ h => h)
theorem ydT_startOf : (yT_startOf).cls ≠ "java/lang/invoke/MethodHandle" ∧ (yT_startOf).cls ≠ "java/lang/invoke/VarHandle" ∧ (parseMethodDescriptor (yT_startOf).desc).map (fun d => d.parameters.length) = some 1 := by decide +kernel
def wT_fillFromDouble : List Cond := .code yT_fillFromDouble cT_fillFromDouble 5 none :: tbB
theorem gwT_fillFromDouble : GoodIn tbB wT_fillFromDouble := tbB_good (List.forall_mem_cons.mpr ⟨wd_103, fun _ h => h⟩) (fun _ h => h)
theorem ydT_fillFromDouble : (yT_fillFromDouble).cls ≠ "java/lang/invoke/MethodHandle" ∧ (yT_fillFromDouble).cls ≠ "java/lang/invoke/VarHandle" ∧ (parseMethodDescriptor (yT_fillFromDouble).desc).map (fun d => d.parameters.length) = some 1 := by decide +kernel
def wT_meanOfFour : List Cond := .code yT_meanOfFour cT_meanOfFour 8 (some .int) :: tbB
theorem gwT_meanOfFour : GoodIn tbB wT_meanOfFour := tbB_good (List.forall_mem_cons.mpr ⟨wd_107, fun _ h => h⟩) (fun _ h => h)
theorem ydT_meanOfFour : (yT_meanOfFour).cls ≠ "java/lang/invoke/MethodHandle" ∧ (yT_meanOfFour).cls ≠ "java/lang/invoke/VarHandle" ∧ (parseMethodDescriptor (yT_meanOfFour).desc).map (fun d => d.parameters.length) = some 3 := by decide +kernel
def wT_colourIn : List Cond := .code yT_colourIn cT_colourIn 4 (some .int) :: tbB
theorem gwT_colourIn : GoodIn tbB wT_colourIn := tbB_good (List.forall_mem_cons.mpr ⟨wd_111, fun _ h => h⟩) (fun _ h => h)
theorem ydT_colourIn : (yT_colourIn).cls ≠ "java/lang/invoke/MethodHandle" ∧ (yT_colourIn).cls ≠ "java/lang/invoke/VarHandle" ∧ (parseMethodDescriptor (yT_colourIn).desc).map (fun d => d.parameters.length) = some 3 := by decide +kernel
def wT_meanNumber : List Cond := .code yT_meanNumber cT_meanNumber 7 (some .int) :: tbB
theorem gwT_meanNumber : GoodIn tbB wT_meanNumber := tbB_good (List.forall_mem_cons.mpr ⟨wd_114, fun _ h => h⟩) (fun _ h => h)
theorem ydT_meanNumber : (yT_meanNumber).cls ≠ "java/lang/invoke/MethodHandle" ∧ (yT_meanNumber).cls ≠ "java/lang/invoke/VarHandle" ∧ (parseMethodDescriptor (yT_meanNumber).desc).map (fun d => d.parameters.length) = some 5 := by decide +kernel
def wB_numberOf : List Cond := .code yB_numberOf cB_numberOf 2 (some .long) :: tbB
theorem gwB_numberOf : GoodIn tbB wB_numberOf := tbB_good (List.forall_mem_cons.mpr ⟨wd_117, fun _ h => h⟩) (fun _ h => h)
theorem ydB_numberOf : (yB_numberOf).cls ≠ "java/lang/invoke/MethodHandle" ∧ (yB_numberOf).cls ≠ "java/lang/invoke/VarHandle" ∧ (parseMethodDescriptor (yB_numberOf).desc).map (fun d => d.parameters.length) = some 2 := by decide +kernel
def wJ_floorDiv : List Cond := .code yJ_floorDiv cJ_floorDiv 6 (some .long) :: tbB
theorem gwJ_floorDiv : GoodIn tbB wJ_floorDiv := tbB_good (List.forall_mem_cons.mpr ⟨wd_121, fun _ h => h⟩) (fun _ h => h)
theorem ydJ_floorDiv : (yJ_floorDiv).cls ≠ "java/lang/invoke/MethodHandle" ∧ (yJ_floorDiv).cls ≠ "java/lang/invoke/VarHandle" ∧ (parseMethodDescriptor (yJ_floorDiv).desc).map (fun d => d.parameters.length) = some 2 := by decide +kernel
def wB_clear : List Cond := .code yB_clear cB_clear 1 none :: tbB
theorem gwB_clear : GoodIn tbB wB_clear := tbB_good (List.forall_mem_cons.mpr ⟨wd_126, fun _ h => h⟩) (fun _ h => h)
theorem ydB_clear : (yB_clear).cls ≠ "java/lang/invoke/MethodHandle" ∧ (yB_clear).cls ≠ "java/lang/invoke/VarHandle" ∧ (parseMethodDescriptor (yB_clear).desc).map (fun d => d.parameters.length) = some 0 := by decide +kernel
def wB_about : List Cond := .code yB_about cB_about 4 (some .int) :: tbB
theorem gwB_about : GoodIn tbB wB_about := tbB_good (List.forall_mem_cons.mpr ⟨wd_130, fun _ h => h⟩) (fun _ h => h)
theorem ydB_about : (yB_about).cls ≠ "java/lang/invoke/MethodHandle" ∧ (yB_about).cls ≠ "java/lang/invoke/VarHandle" ∧ (parseMethodDescriptor (yB_about).desc).map (fun d => d.parameters.length) = some 2 := by decide +kernel
def wB_find : List Cond := .code yB_find cB_find 2 (some (.object "TextureBank$Texture")) :: tbB
theorem gwB_find : GoodIn tbB wB_find := tbB_good (List.forall_mem_cons.mpr ⟨wd_134, fun _ h => h⟩) (fun _ h => h)
theorem ydB_find : (yB_find).cls ≠ "java/lang/invoke/MethodHandle" ∧ (yB_find).cls ≠ "java/lang/invoke/VarHandle" ∧ (parseMethodDescriptor (yB_find).desc).map (fun d => d.parameters.length) = some 1 := by decide +kernel
def wB_count : List Cond := .code yB_count cB_count 2 (some .int) :: tbB
theorem gwB_count : GoodIn tbB wB_count := tbB_good (List.forall_mem_cons.mpr ⟨wd_138, fun _ h => h⟩) (fun _ h => h)
theorem ydB_count : (yB_count).cls ≠ "java/lang/invoke/MethodHandle" ∧ (yB_count).cls ≠ "java/lang/invoke/VarHandle" ∧ (parseMethodDescriptor (yB_count).desc).map (fun d => d.parameters.length) = some 1 := by decide +kernel
def wL_level : List Cond := .codeWith yL_level cL_level 7 (some .int) [(0, 13, 16, 13), (0, 13, 20, 15)] :: tbB
theorem gwL_level : GoodIn tbB wL_level := tbB_good (List.forall_mem_cons.mpr ⟨wd_141, fun _ h => h⟩) (fun _ h => h)
theorem ydL_level : (yL_level).cls ≠ "java/lang/invoke/MethodHandle" ∧ (yL_level).cls ≠ "java/lang/invoke/VarHandle" ∧ (parseMethodDescriptor (yL_level).desc).map (fun d => d.parameters.length) = some 5 := by decide +kernel
def wB_level : List Cond := .code yB_level cB_level 6 (some .int) :: tbB
theorem gwB_level : GoodIn tbB wB_level := tbB_good (List.forall_mem_cons.mpr ⟨wd_147, fun _ h => h⟩) (fun _ h => h)
theorem ydB_level : (yB_level).cls ≠ "java/lang/invoke/MethodHandle" ∧ (yB_level).cls ≠ "java/lang/invoke/VarHandle" ∧ (parseMethodDescriptor (yB_level).desc).map (fun d => d.parameters.length) = some 3 := by decide +kernel
def wT_levelFor : List Cond := .code yT_levelFor cT_levelFor 11 (some .int) :: tbB
theorem gwT_levelFor : GoodIn tbB wT_levelFor := tbB_good (List.forall_mem_cons.mpr ⟨wd_237, fun _ h => h⟩) (fun _ h => h)
theorem ydT_levelFor : (yT_levelFor).cls ≠ "java/lang/invoke/MethodHandle" ∧ (yT_levelFor).cls ≠ "java/lang/invoke/VarHandle" ∧ (parseMethodDescriptor (yT_levelFor).desc).map (fun d => d.parameters.length) = some 2 := by decide +kernel
def wL_lookUp : List Cond := .codeWith yL_lookUp cL_lookUp 7 (some .int) [(0, 14, 17, 13), (0, 14, 21, 15)] :: tbB
theorem gwL_lookUp : GoodIn tbB wL_lookUp := tbB_good (List.forall_mem_cons.mpr ⟨wd_241, fun _ h => h⟩) (fun _ h => h)
theorem ydL_lookUp : (yL_lookUp).cls ≠ "java/lang/invoke/MethodHandle" ∧ (yL_lookUp).cls ≠ "java/lang/invoke/VarHandle" ∧ (parseMethodDescriptor (yL_lookUp).desc).map (fun d => d.parameters.length) = some 6 := by decide +kernel
def wB_lookUp : List Cond := .code yB_lookUp cB_lookUp 6 (some .int) :: tbB
theorem gwB_lookUp : GoodIn tbB wB_lookUp := tbB_good (List.forall_mem_cons.mpr ⟨wd_245, fun _ h => h⟩) (fun _ h => h)
theorem ydB_lookUp : (yB_lookUp).cls ≠ "java/lang/invoke/MethodHandle" ∧ (yB_lookUp).cls ≠ "java/lang/invoke/VarHandle" ∧ (parseMethodDescriptor (yB_lookUp).desc).map (fun d => d.parameters.length) = some 4 := by decide +kernel
def wT_hasLevel : List Cond := .code yT_hasLevel cT_hasLevel 2 (some .boolean) :: tbB
theorem gwT_hasLevel : GoodIn tbB wT_hasLevel := tbB_good (List.forall_mem_cons.mpr ⟨wd_249, fun _ h => h⟩) (fun _ h => h)
theorem ydT_hasLevel : (yT_hasLevel).cls ≠ "java/lang/invoke/MethodHandle" ∧ (yT_hasLevel).cls ≠ "java/lang/invoke/VarHandle" ∧ (parseMethodDescriptor (yT_hasLevel).desc).map (fun d => d.parameters.length) = some 1 := by decide +kernel
def wB_isPlace : List Cond := .code yB_isPlace cB_isPlace 1 (some .boolean) :: tbB
theorem gwB_isPlace : GoodIn tbB wB_isPlace := tbB_good (List.forall_mem_cons.mpr ⟨wd_253, fun _ h => h⟩) (fun _ h => h)
theorem ydB_isPlace : (yB_isPlace).cls ≠ "java/lang/invoke/MethodHandle" ∧ (yB_isPlace).cls ≠ "java/lang/invoke/VarHandle" ∧ (parseMethodDescriptor (yB_isPlace).desc).map (fun d => d.parameters.length) = some 1 := by decide +kernel
def wT_sideOf : List Cond := .code yT_sideOf cT_sideOf 2 (some .int) :: tbB
theorem gwT_sideOf : GoodIn tbB wT_sideOf := tbB_good (List.forall_mem_cons.mpr ⟨wd_259, fun _ h => h⟩) (fun _ h => h)
theorem ydT_sideOf : (yT_sideOf).cls ≠ "java/lang/invoke/MethodHandle" ∧ (yT_sideOf).cls ≠ "java/lang/invoke/VarHandle" ∧ (parseMethodDescriptor (yT_sideOf).desc).map (fun d => d.parameters.length) = some 1 := by decide +kernel
def wT_colourAt : List Cond := .code yT_colourAt cT_colourAt 10 (some .int) :: tbB
theorem gwT_colourAt : GoodIn tbB wT_colourAt := tbB_good (List.forall_mem_cons.mpr ⟨wd_263, fun _ h => h⟩) (fun _ h => h)
theorem ydT_colourAt : (yT_colourAt).cls ≠ "java/lang/invoke/MethodHandle" ∧ (yT_colourAt).cls ≠ "java/lang/invoke/VarHandle" ∧ (parseMethodDescriptor (yT_colourAt).desc).map (fun d => d.parameters.length) = some 3 := by decide +kernel
def wT_softColour : List Cond := .code yT_softColour cT_softColour 25 (some .int) :: tbB
theorem gwT_softColour : GoodIn tbB wT_softColour := tbB_good (List.forall_mem_cons.mpr ⟨wd_268, fun _ h => h⟩) (fun _ h => h)
theorem ydT_softColour : (yT_softColour).cls ≠ "java/lang/invoke/MethodHandle" ∧ (yT_softColour).cls ≠ "java/lang/invoke/VarHandle" ∧ (parseMethodDescriptor (yT_softColour).desc).map (fun d => d.parameters.length) = some 3 := by decide +kernel
def wT_wrapped : List Cond := .code yT_wrapped cT_wrapped 5 (some .int) :: tbB
theorem gwT_wrapped : GoodIn tbB wT_wrapped := tbB_good (List.forall_mem_cons.mpr ⟨wd_274, fun _ h => h⟩) (fun _ h => h)
theorem ydT_wrapped : (yT_wrapped).cls ≠ "java/lang/invoke/MethodHandle" ∧ (yT_wrapped).cls ≠ "java/lang/invoke/VarHandle" ∧ (parseMethodDescriptor (yT_wrapped).desc).map (fun d => d.parameters.length) = some 2 := by decide +kernel
def wT_mixed : List Cond := .code yT_mixed cT_mixed 5 (some .long) :: tbB
theorem gwT_mixed : GoodIn tbB wT_mixed := tbB_good (List.forall_mem_cons.mpr ⟨wd_283, fun _ h => h⟩) (fun _ h => h)
theorem ydT_mixed : (yT_mixed).cls ≠ "java/lang/invoke/MethodHandle" ∧ (yT_mixed).cls ≠ "java/lang/invoke/VarHandle" ∧ (parseMethodDescriptor (yT_mixed).desc).map (fun d => d.parameters.length) = some 4 := by decide +kernel
def wT_softNumber : List Cond := .code yT_softNumber cT_softNumber 6 (some .int) :: tbB
theorem gwT_softNumber : GoodIn tbB wT_softNumber := tbB_good (List.forall_mem_cons.mpr ⟨wd_286, fun _ h => h⟩) (fun _ h => h)
theorem ydT_softNumber : (yT_softNumber).cls ≠ "java/lang/invoke/MethodHandle" ∧ (yT_softNumber).cls ≠ "java/lang/invoke/VarHandle" ∧ (parseMethodDescriptor (yT_softNumber).desc).map (fun d => d.parameters.length) = some 3 := by decide +kernel
def wL_texel : List Cond := .codeWith yL_texel cL_texel 7 (some .int) [(0, 14, 17, 13)] :: tbB
theorem gwL_texel : GoodIn tbB wL_texel := tbB_good (List.forall_mem_cons.mpr ⟨wd_289, fun _ h => h⟩) (fun _ h => h)
theorem ydL_texel : (yL_texel).cls ≠ "java/lang/invoke/MethodHandle" ∧ (yL_texel).cls ≠ "java/lang/invoke/VarHandle" ∧ (parseMethodDescriptor (yL_texel).desc).map (fun d => d.parameters.length) = some 6 := by decide +kernel
def wB_texel : List Cond := .code yB_texel cB_texel 7 (some .int) :: tbB
theorem gwB_texel : GoodIn tbB wB_texel := tbB_good (List.forall_mem_cons.mpr ⟨wd_293, fun _ h => h⟩) (fun _ h => h)
theorem ydB_texel : (yB_texel).cls ≠ "java/lang/invoke/MethodHandle" ∧ (yB_texel).cls ≠ "java/lang/invoke/VarHandle" ∧ (parseMethodDescriptor (yB_texel).desc).map (fun d => d.parameters.length) = some 4 := by decide +kernel
def wL_lit : List Cond := .codeWith yL_lit cL_lit 6 (some .int) [(0, 12, 15, 15)] :: tbB
theorem gwL_lit : GoodIn tbB wL_lit := tbB_good (List.forall_mem_cons.mpr ⟨wd_298, fun _ h => h⟩) (fun _ h => h)
theorem ydL_lit : (yL_lit).cls ≠ "java/lang/invoke/MethodHandle" ∧ (yL_lit).cls ≠ "java/lang/invoke/VarHandle" ∧ (parseMethodDescriptor (yL_lit).desc).map (fun d => d.parameters.length) = some 5 := by decide +kernel
def wB_lit : List Cond := .code yB_lit cB_lit 4 (some .int) :: tbB
theorem gwB_lit : GoodIn tbB wB_lit := tbB_good (List.forall_mem_cons.mpr ⟨wd_302, fun _ h => h⟩) (fun _ h => h)
theorem ydB_lit : (yB_lit).cls ≠ "java/lang/invoke/MethodHandle" ∧ (yB_lit).cls ≠ "java/lang/invoke/VarHandle" ∧ (parseMethodDescriptor (yB_lit).desc).map (fun d => d.parameters.length) = some 3 := by decide +kernel
def wB_isColour : List Cond := .code yB_isColour cB_isColour 1 (some .boolean) :: tbB
theorem gwB_isColour : GoodIn tbB wB_isColour := tbB_good (List.forall_mem_cons.mpr ⟨wd_305, fun _ h => h⟩) (fun _ h => h)
theorem ydB_isColour : (yB_isColour).cls ≠ "java/lang/invoke/MethodHandle" ∧ (yB_isColour).cls ≠ "java/lang/invoke/VarHandle" ∧ (parseMethodDescriptor (yB_isColour).desc).map (fun d => d.parameters.length) = some 1 := by decide +kernel
def wB_litNumber : List Cond := .code yB_litNumber cB_litNumber 6 (some .int) :: tbB
theorem gwB_litNumber : GoodIn tbB wB_litNumber := tbB_good (List.forall_mem_cons.mpr ⟨wd_312, fun _ h => h⟩) (fun _ h => h)
theorem ydB_litNumber : (yB_litNumber).cls ≠ "java/lang/invoke/MethodHandle" ∧ (yB_litNumber).cls ≠ "java/lang/invoke/VarHandle" ∧ (parseMethodDescriptor (yB_litNumber).desc).map (fun d => d.parameters.length) = some 4 := by decide +kernel
def wM_init : List Cond := .code yM_init cM_init 1 none :: tbB
theorem gwM_init : GoodIn tbB wM_init := tbB_good (List.forall_mem_cons.mpr ⟨wd_320, fun _ h => h⟩) (fun _ h => h)
theorem ydM_init : (yM_init).cls ≠ "java/lang/invoke/MethodHandle" ∧ (yM_init).cls ≠ "java/lang/invoke/VarHandle" ∧ (parseMethodDescriptor (yM_init).desc).map (fun d => d.parameters.length) = some 0 := by decide +kernel
def wM_thrown : List Cond := .code yM_thrown cM_thrown 1 (some .int) :: tbB
theorem gwM_thrown : GoodIn tbB wM_thrown := tbB_good (List.forall_mem_cons.mpr ⟨wd_356, fun _ h => h⟩) (fun _ h => h)
theorem ydM_thrown : (yM_thrown).cls ≠ "java/lang/invoke/MethodHandle" ∧ (yM_thrown).cls ≠ "java/lang/invoke/VarHandle" ∧ (parseMethodDescriptor (yM_thrown).desc).map (fun d => d.parameters.length) = some 0 := by decide +kernel
def wM_put : List Cond := .code yM_put cM_put 4 (some .int) :: tbB
theorem gwM_put : GoodIn tbB wM_put := tbB_good (List.forall_mem_cons.mpr ⟨wd_360, fun _ h => h⟩) (fun _ h => h)
theorem ydM_put : (yM_put).cls ≠ "java/lang/invoke/MethodHandle" ∧ (yM_put).cls ≠ "java/lang/invoke/VarHandle" ∧ (parseMethodDescriptor (yM_put).desc).map (fun d => d.parameters.length) = some 3 := by decide +kernel
def wM_isNumber : List Cond := .code yM_isNumber cM_isNumber 1 (some .boolean) :: tbB
theorem gwM_isNumber : GoodIn tbB wM_isNumber := tbB_good (List.forall_mem_cons.mpr ⟨wd_363, fun _ h => h⟩) (fun _ h => h)
theorem ydM_isNumber : (yM_isNumber).cls ≠ "java/lang/invoke/MethodHandle" ∧ (yM_isNumber).cls ≠ "java/lang/invoke/VarHandle" ∧ (parseMethodDescriptor (yM_isNumber).desc).map (fun d => d.parameters.length) = some 1 := by decide +kernel
def wM_add : List Cond := .code yM_add cM_add 7 (some .int) :: tbB
theorem gwM_add : GoodIn tbB wM_add := tbB_good (List.forall_mem_cons.mpr ⟨wd_368, fun _ h => h⟩) (fun _ h => h)
theorem ydM_add : (yM_add).cls ≠ "java/lang/invoke/MethodHandle" ∧ (yM_add).cls ≠ "java/lang/invoke/VarHandle" ∧ (parseMethodDescriptor (yM_add).desc).map (fun d => d.parameters.length) = some 3 := by decide +kernel
def wM_clear : List Cond := .code yM_clear cM_clear 1 none :: tbB
theorem gwM_clear : GoodIn tbB wM_clear := tbB_good (List.forall_mem_cons.mpr ⟨wd_372, fun _ h => h⟩) (fun _ h => h)
theorem ydM_clear : (yM_clear).cls ≠ "java/lang/invoke/MethodHandle" ∧ (yM_clear).cls ≠ "java/lang/invoke/VarHandle" ∧ (parseMethodDescriptor (yM_clear).desc).map (fun d => d.parameters.length) = some 0 := by decide +kernel
def wM_level : List Cond := .code yM_level cM_level 10 (some .int) :: tbB
theorem gwM_level : GoodIn tbB wM_level := tbB_good (List.forall_mem_cons.mpr ⟨wd_376, fun _ h => h⟩) (fun _ h => h)
theorem ydM_level : (yM_level).cls ≠ "java/lang/invoke/MethodHandle" ∧ (yM_level).cls ≠ "java/lang/invoke/VarHandle" ∧ (parseMethodDescriptor (yM_level).desc).map (fun d => d.parameters.length) = some 3 := by decide +kernel
def wM_isThere : List Cond := .code yM_isThere cM_isThere 2 (some .boolean) :: tbB
theorem gwM_isThere : GoodIn tbB wM_isThere := tbB_good (List.forall_mem_cons.mpr ⟨wd_380, fun _ h => h⟩) (fun _ h => h)
theorem ydM_isThere : (yM_isThere).cls ≠ "java/lang/invoke/MethodHandle" ∧ (yM_isThere).cls ≠ "java/lang/invoke/VarHandle" ∧ (parseMethodDescriptor (yM_isThere).desc).map (fun d => d.parameters.length) = some 1 := by decide +kernel
def wM_last : List Cond := .code yM_last cM_last 4 (some .int) :: tbB
theorem gwM_last : GoodIn tbB wM_last := tbB_good (List.forall_mem_cons.mpr ⟨wd_387, fun _ h => h⟩) (fun _ h => h)
theorem ydM_last : (yM_last).cls ≠ "java/lang/invoke/MethodHandle" ∧ (yM_last).cls ≠ "java/lang/invoke/VarHandle" ∧ (parseMethodDescriptor (yM_last).desc).map (fun d => d.parameters.length) = some 1 := by decide +kernel
def wM_lookUp : List Cond := .code yM_lookUp cM_lookUp 12 (some .int) :: tbB
theorem gwM_lookUp : GoodIn tbB wM_lookUp := tbB_good (List.forall_mem_cons.mpr ⟨wd_392, fun _ h => h⟩) (fun _ h => h)
theorem ydM_lookUp : (yM_lookUp).cls ≠ "java/lang/invoke/MethodHandle" ∧ (yM_lookUp).cls ≠ "java/lang/invoke/VarHandle" ∧ (parseMethodDescriptor (yM_lookUp).desc).map (fun d => d.parameters.length) = some 4 := by decide +kernel
def wM_isPlace : List Cond := .code yM_isPlace cM_isPlace 1 (some .boolean) :: tbB
theorem gwM_isPlace : GoodIn tbB wM_isPlace := tbB_good (List.forall_mem_cons.mpr ⟨wd_395, fun _ h => h⟩) (fun _ h => h)
theorem ydM_isPlace : (yM_isPlace).cls ≠ "java/lang/invoke/MethodHandle" ∧ (yM_isPlace).cls ≠ "java/lang/invoke/VarHandle" ∧ (parseMethodDescriptor (yM_isPlace).desc).map (fun d => d.parameters.length) = some 1 := by decide +kernel
def wM_makes : List Cond := .code yM_makes cM_makes 4 none :: tbB
theorem gwM_makes : GoodIn tbB wM_makes := tbB_good (List.forall_mem_cons.mpr ⟨wd_400, fun _ h => h⟩) (fun _ h => h)
theorem ydM_makes : (yM_makes).cls ≠ "java/lang/invoke/MethodHandle" ∧ (yM_makes).cls ≠ "java/lang/invoke/VarHandle" ∧ (parseMethodDescriptor (yM_makes).desc).map (fun d => d.parameters.length) = some 2 := by decide +kernel
def wM_halve : List Cond := .code yM_halve cM_halve 8 none :: tbB
theorem gwM_halve : GoodIn tbB wM_halve := tbB_good (List.forall_mem_cons.mpr ⟨wd_404, fun _ h => h⟩) (fun _ h => h)
theorem ydM_halve : (yM_halve).cls ≠ "java/lang/invoke/MethodHandle" ∧ (yM_halve).cls ≠ "java/lang/invoke/VarHandle" ∧ (parseMethodDescriptor (yM_halve).desc).map (fun d => d.parameters.length) = some 0 := by decide +kernel
def wM_part : List Cond := .code yM_part cM_part 2 (some .int) :: tbB
theorem gwM_part : GoodIn tbB wM_part := tbB_good (List.forall_mem_cons.mpr ⟨wd_407, fun _ h => h⟩) (fun _ h => h)
theorem ydM_part : (yM_part).cls ≠ "java/lang/invoke/MethodHandle" ∧ (yM_part).cls ≠ "java/lang/invoke/VarHandle" ∧ (parseMethodDescriptor (yM_part).desc).map (fun d => d.parameters.length) = some 2 := by decide +kernel
def wM_soft : List Cond := .code yM_soft cM_soft 21 (some .int) :: tbB
theorem gwM_soft : GoodIn tbB wM_soft := tbB_good (List.forall_mem_cons.mpr ⟨wd_412, fun _ h => h⟩) (fun _ h => h)
theorem ydM_soft : (yM_soft).cls ≠ "java/lang/invoke/MethodHandle" ∧ (yM_soft).cls ≠ "java/lang/invoke/VarHandle" ∧ (parseMethodDescriptor (yM_soft).desc).map (fun d => d.parameters.length) = some 3 := by decide +kernel
def wM_div : List Cond := .code yM_div cM_div 6 (some .long) :: tbB
theorem gwM_div : GoodIn tbB wM_div := tbB_good (List.forall_mem_cons.mpr ⟨wd_416, fun _ h => h⟩) (fun _ h => h)
theorem ydM_div : (yM_div).cls ≠ "java/lang/invoke/MethodHandle" ∧ (yM_div).cls ≠ "java/lang/invoke/VarHandle" ∧ (parseMethodDescriptor (yM_div).desc).map (fun d => d.parameters.length) = some 2 := by decide +kernel
def wM_into : List Cond := .code yM_into cM_into 8 (some .int) :: tbB
theorem gwM_into : GoodIn tbB wM_into := tbB_good (List.forall_mem_cons.mpr ⟨wd_421, fun _ h => h⟩) (fun _ h => h)
theorem ydM_into : (yM_into).cls ≠ "java/lang/invoke/MethodHandle" ∧ (yM_into).cls ≠ "java/lang/invoke/VarHandle" ∧ (parseMethodDescriptor (yM_into).desc).map (fun d => d.parameters.length) = some 2 := by decide +kernel
def wM_texel : List Cond := .code yM_texel cM_texel 5 (some .int) :: tbB
theorem gwM_texel : GoodIn tbB wM_texel := tbB_good (List.forall_mem_cons.mpr ⟨wd_426, fun _ h => h⟩) (fun _ h => h)
theorem ydM_texel : (yM_texel).cls ≠ "java/lang/invoke/MethodHandle" ∧ (yM_texel).cls ≠ "java/lang/invoke/VarHandle" ∧ (parseMethodDescriptor (yM_texel).desc).map (fun d => d.parameters.length) = some 4 := by decide +kernel
def wM_lit : List Cond := .code yM_lit cM_lit 9 (some .int) :: tbB
theorem gwM_lit : GoodIn tbB wM_lit := tbB_good (List.forall_mem_cons.mpr ⟨wd_430, fun _ h => h⟩) (fun _ h => h)
theorem ydM_lit : (yM_lit).cls ≠ "java/lang/invoke/MethodHandle" ∧ (yM_lit).cls ≠ "java/lang/invoke/VarHandle" ∧ (parseMethodDescriptor (yM_lit).desc).map (fun d => d.parameters.length) = some 3 := by decide +kernel
def wM_about : List Cond := .code yM_about cM_about 3 (some .int) :: tbB
theorem gwM_about : GoodIn tbB wM_about := tbB_good (List.forall_mem_cons.mpr ⟨wd_434, fun _ h => h⟩) (fun _ h => h)
theorem ydM_about : (yM_about).cls ≠ "java/lang/invoke/MethodHandle" ∧ (yM_about).cls ≠ "java/lang/invoke/VarHandle" ∧ (parseMethodDescriptor (yM_about).desc).map (fun d => d.parameters.length) = some 2 := by decide +kernel
def wM_count : List Cond := .code yM_count cM_count 2 (some .int) :: tbB
theorem gwM_count : GoodIn tbB wM_count := tbB_good (List.forall_mem_cons.mpr ⟨wd_438, fun _ h => h⟩) (fun _ h => h)
theorem ydM_count : (yM_count).cls ≠ "java/lang/invoke/MethodHandle" ∧ (yM_count).cls ≠ "java/lang/invoke/VarHandle" ∧ (parseMethodDescriptor (yM_count).desc).map (fun d => d.parameters.length) = some 1 := by decide +kernel
end
section
/-! what the class's small methods answer, as their code goes -/
def tt_isNum (x : Int32) : Int32 := if x < 0 then 0 else if 255 < x then 0 else 1
def tt_isCol (x : Int32) : Int32 := if x < 0 then 0 else if 16777215 < x then 0 else 1
def tt_ush (x n : Int32) : Int32 := (x.toUInt32 >>> (n.toUInt32 &&& Int32.toUInt32 31)).toInt32
def tt_b1 (i : Int32) : Int32 := i - (tt_ush i 1 &&& 1431655765)
def tt_b2 (i : Int32) : Int32 := (i &&& 858993459) + (tt_ush i 2 &&& 858993459)
def tt_b3 (i : Int32) : Int32 := (i + tt_ush i 4) &&& 252645135
def tt_b4 (i : Int32) : Int32 := i + tt_ush i 8
def tt_b5 (i : Int32) : Int32 := i + tt_ush i 16
def tt_bc (i : Int32) : Int32 := tt_b5 (tt_b4 (tt_b3 (tt_b2 (tt_b1 i)))) &&& 63
def tt_isSide (x : Int32) : Int32 := if x < 1 then 0 else if 32 < x then 0 else if tt_bc x = 1 then 1 else 0
def tt_isWrap (x : Int32) : Int32 := if x = 0 then 1 else if x = 1 then 1 else if x = 2 then 1 else 0
def tt_isSoft (x : Int32) : Int32 := if x = 0 then 1 else if x = 1 then 1 else 0
def tt_isPlace (x : Int32) : Int32 := if x < -16777216 then 0 else if 16777216 < x then 0 else 1
def tt_col (r g b : Int32) : Int32 := ((r <<< ((16 : Int32) &&& 31)) + (g <<< ((8 : Int32) &&& 31))) + (b <<< ((0 : Int32) &&& 31))
def tt_num (c sh : Int32) : Int64 := ((c >>> (sh &&& 31)) &&& 255).toInt64
/-- Math.floorDiv of longs -/
def fd_l (x y : Int64) : Int64 := if 0 ≤ x ^^^ y then x / y else if x / y * y = x then x / y else x / y - 1
def tt_litN (c t li sh : Int32) : Int32 := (fd_l (fd_l (tt_num c sh * tt_num t sh) 255 * li.toInt64) 65536).toInt32
def tt_start (s : Int32) : Int32 := (s * s - 1) / 3
def tt_has (lv x : Int32) : Int32 := if x < 0 then 0 else if lv ≤ x then 0 else 1
def tt_at (g : Nat → Int32) (s x y : Int32) : Int32 := if 32 < s then -1 else if x < 0 then -1 else if s ≤ x then -1 else if y < 0 then -1 else if y < s then g ((tt_start s + y * s) + x).toNatClampNeg else -1
theorem tt_idx {s x y : Int32} (h1 : ¬ 32 < s) (h2 : ¬ x < 0) (h3 : ¬ s ≤ x) (h4 : ¬ y < 0) (h5 : y < s) : vp_in ((tt_start s + y * s) + x) 1365 := by
  obtain ⟨a, ha, rfl⟩ := nI_of h2
  obtain ⟨b, hb, rfl⟩ := nI_of h4
  have hs0 : ¬ s < 0 := fun h => h3 (by
    rw [Int32.le_iff_toInt_le]
    rw [Int32.lt_iff_toInt_lt] at h
    have := nI_toInt ha
    have h0 : (0 : Int32).toInt = 0 := rfl
    omega)
  obtain ⟨k, hk, rfl⟩ := nI_of hs0
  have k32 : k ≤ 32 := by
    rcases Nat.lt_or_ge 32 k with q | q
    · exact absurd (show (32 : Int32) < nI k from nI_lt (a := 32) q hk) h1
    · exact q
  have hak : a < k := by
    rcases Nat.lt_or_ge a k with q | q
    · exact q
    · exact absurd (nI_le q ha) h3
  have hbk : b < k := (nI_ltI hb hk).mp h5
  have hkk : k * k ≤ 1024 := Nat.mul_le_mul k32 k32
  have hbk2 : b * k + k ≤ k * k := by
    have : (b + 1) * k ≤ k * k := Nat.mul_le_mul_right k hbk
    rw [Nat.succ_mul] at this
    exact this
  have hk1 : 1 ≤ k * k := Nat.mul_pos (by omega) (by omega)
  have e1 : tt_start (nI k) = nI ((k * k - 1) / 3) := by
    unfold tt_start
    rw [pk_mul, show (1 : Int32) = nI 1 from rfl, pk_sub hk1, show (3 : Int32) = nI 3 from rfl, pk_div (by omega) (by omega) (by omega)]
  rw [e1, pk_mul, nI_add, nI_add]
  exact vp_in_nI (by omega) (by omega)
def tt_mn (c1 c2 c3 c4 sh : Int32) : Int32 := (fd_l (((tt_num c1 sh + tt_num c2 sh) + tt_num c3 sh) + tt_num c4 sh) 4).toInt32
def tt_mean (c1 c2 c3 c4 : Int32) : Int32 := tt_col (tt_mn c1 c2 c3 c4 16) (tt_mn c1 c2 c3 c4 8) (tt_mn c1 c2 c3 c4 0)
def tt_m4 (g : Nat → Int32) (s x y : Int32) : Int32 := tt_mean (tt_at g s x y) (tt_at g s (x + 1) y) (tt_at g s x (y + 1)) (tt_at g s (x + 1) (y + 1))
def tt_mix (c1 c2 : Int32) (g : Int64) (sh : Int32) : Int64 := tt_num c1 sh * (256 - g) + tt_num c2 sh * g
def tt_sn (up lo k : Int64) : Int32 := (fd_l (up * (256 - k) + lo * k) 65536).toInt32
def tt_wrap (w : Int32) (n : Int64) (s : Int32) : Int32 :=
  if w = 0 then (n &&& (s - 1).toInt64).toInt32
  else if w = 1 then (if (if s.toInt64 - 1 < n then s.toInt64 - 1 else n) < 0 then 0 else (if s.toInt64 - 1 < n then s.toInt64 - 1 else n)).toInt32
  else if (n &&& (2 * s - 1).toInt64).toInt32 < s then (n &&& (2 * s - 1).toInt64).toInt32
  else (2 * s - 1) - (n &&& (2 * s - 1).toInt64).toInt32
end
section
def tt_soft2 (c1 c2 c3 c4 : Int32) (g k : Int64) : Int32 := tt_col (tt_sn (tt_mix c1 c2 g 16) (tt_mix c3 c4 g 16) k) (tt_sn (tt_mix c1 c2 g 8) (tt_mix c3 c4 g 8) k) (tt_sn (tt_mix c1 c2 g 0) (tt_mix c3 c4 g 0) k)
def tt_soft (w : Int32) (g : Nat → Int32) (s : Int32) (a b : Int64) : Int32 :=
  tt_soft2 (tt_at g s (tt_wrap w (fd_l a 65536) s) (tt_wrap w (fd_l b 65536) s)) (tt_at g s (tt_wrap w (fd_l a 65536 + 1) s) (tt_wrap w (fd_l b 65536) s)) (tt_at g s (tt_wrap w (fd_l a 65536) s) (tt_wrap w (fd_l b 65536 + 1) s)) (tt_at g s (tt_wrap w (fd_l a 65536 + 1) s) (tt_wrap w (fd_l b 65536 + 1) s)) (fd_l (a - 65536 * fd_l a 65536) 256) (fd_l (b - 65536 * fd_l b 65536) 256)
def tt_cat (w sf : Int32) (g : Nat → Int32) (s : Int32) (u v : Int64) : Int32 :=
  if sf = 1 then tt_soft w g s (u * s.toInt64 - 32768) (v * s.toInt64 - 32768)
  else tt_at g s (tt_wrap w (fd_l (u * s.toInt64) 65536) s) (tt_wrap w (fd_l (v * s.toInt64) 65536) s)
/-- levelFor's loop: at most n rounds -/
def tt_lf (tex : Int64) (last : Int32) : Nat → Int64 → Int32 → Int32
  | 0, _, _ => last
  | n + 1, room, i => if last ≤ i then last else if room < tex then tt_lf tex last n (room * 4) (i + 1) else i
theorem tt_sw3 {x : Int32} (h0 : ¬ x = 0) (h1 : ¬ x = 1) (h2 : ¬ x = 2) (h3 : ¬ x = 3) : x.toInt < 0 ∨ 3 < x.toInt := by
  have a0 := lv_neT (k := 0) (a := 0) h0 rfl
  have a1 := lv_neT (k := 1) (a := 1) h1 rfl
  have a2 := lv_neT (k := 2) (a := 2) h2 rfl
  have a3 := lv_neT (k := 3) (a := 3) h3 rfl
  omega
end
section
/-- a writing method's start: its arguments, the heap's size, the tables, its cells, which are apart -/
def wr_P (av : List Value) (sz : Nat) (D : va_G) (tys : List (ClassId × FieldType)) (w : va_W) : Array Value → State → Prop := fun v U => v = av.toArray ∧ U.heap.size = sz ∧ tbCx U ∧ va_P D tbCl w U.heap ∧ va_K D tbCl tys U ∧ va_D (fun _ => True) w
theorem wr_B {av : List Value} {sz : Nat} {D : va_G} {tys : List (ClassId × FieldType)} {w : va_W} : FrameBlind (wr_P av sz D tys w) := fun a U g mk q => ⟨q.1, q.2.1, tbCx.same (u := U) rfl q.2.2.1, q.2.2.2.1, va_K.moved (u := U) (U := U.calling g mk a) (Vm.Alike.refl U.vm) q.2.2.2.2.1, q.2.2.2.2.2⟩
theorem wr_S {s : State} {H : Heap} {av : List Value} {D : va_G} {tys : List (ClassId × FieldType)} {w : va_W} {A : Nat → Prop} (hC : tbCx s) (hP : va_P D tbCl w H) (hK : va_K D tbCl tys s) (hD : va_D A w) : PreS s H (wr_P av H.size D tys w) av := ⟨wr_B, fun U hU hW => ⟨rfl, by rw [hU], hC.warm hW, by rw [hU]; exact hP, va_K.moved hW.alike hK, hD.weaken (fun _ _ _ _ => trivial)⟩⟩
theorem wr_V {s : State} {H : Heap} {C : String} {b : Nat} {As : List Value} {D : va_G} {tys : List (ClassId × FieldType)} {w : va_W} {A : Nat → Prop} (hC : tbCx s) (hP : va_P D tbCl w H) (hK : va_K D tbCl tys s) (hD : va_D A w) (hr : ∃ cellB : Cell, H[b]? = some cellB ∧ cellB.vm.isStatics = false ∧ s.vm.findClass C = some cellB.cls) : PreV s H C b (wr_P (.ref b :: As) H.size D tys w) As := ⟨wr_B, hr, fun U hU hW => ⟨rfl, by rw [hU], hC.warm hW, by rw [hU]; exact hP, va_K.moved hW.alike hK, hD.weaken (fun _ _ _ _ => trivial)⟩⟩
abbrev wr_Qv (D : va_G) (A : Nat → Prop) (w : va_W) : Array Value → State → Outcome → State → Prop := va_Qv (fun _ : Unit => True) (fun _ t => va_P D tbCl w t.heap) A
abbrev wr_Qi (r : Int32) (D : va_G) (A : Nat → Prop) (w : va_W) : Array Value → State → Outcome → State → Prop := va_Qi (fun (x : Int32) (_ : Unit) => x = r) (fun _ t => va_P D tbCl w t.heap) A
/-- behind a call whose cells are some of the world's, at the same addresses -/
theorem wd_back {A0 : Nat → Prop} {D : va_G} {cl : List vw_C} {ws ws' wc w1 : va_W} {H H1 : Heap} (hP : va_P D cl ws H) (hD : va_D A0 ws) (isC : List Nat) (hC : isC.map (fun i => ws[i]?) = wc.map some)
    (hk : ∀ q : Nat, q < H.size → ¬ va_A wc H.size q → H1[q]? = H[q]?) (hP1 : va_P D cl w1 H1)
    (hw : ∀ (k : Nat) (q : Nat × va_E), ws'[k]? = some q → (∃ i : Nat, w1[i]? = some q) ∨ (k ∉ isC ∧ ws[k]? = some q)) : va_P D cl ws' H1 := by
  intro k q hq
  rcases hw k q hq with ⟨i, hi⟩ | ⟨hn, hk0⟩
  · exact hP1 i q hi
  · have hlt : q.1 < H.size := va_at.lt (hP k q hk0)
    refine va_at.kept (hP k q hk0) (hk q.1 hlt ?_)
    rintro (⟨j, e, hj⟩ | hge)
    · obtain ⟨i, hi, hwi⟩ := va_in_of isC hC hj
      have e1 := hD.1 i k _ _ hwi hk0 rfl
      exact hn (e1 ▸ List.mem_of_getElem? hi)
    · exact absurd hlt (Nat.not_lt.mpr hge)
theorem wd_D {A : Nat → Prop} {ws ws' : va_W} (hD : va_D A ws) (h : ws'.map (fun q => q.1) = ws.map (fun q => q.1)) : va_D A ws' := by
  have key : ∀ (k : Nat) (q : Nat × va_E), ws'[k]? = some q → ∃ q', ws[k]? = some q' ∧ q'.1 = q.1 := by
    intro k q hq
    have h1 : (ws'.map (fun q => q.1))[k]? = some q.1 := by rw [List.getElem?_map, hq]; rfl
    rw [h, List.getElem?_map] at h1
    cases h2 : ws[k]? with
    | none => rw [h2] at h1; simp at h1
    | some q' => rw [h2] at h1; exact ⟨q', rfl, by simpa using h1⟩
  refine ⟨fun i j p q hp hq e => ?_, fun k q hq => ?_⟩
  · obtain ⟨p', hp', ep⟩ := key i p hp
    obtain ⟨q', hq', eq⟩ := key j q hq
    exact hD.1 i j p' q' hp' hq' (by rw [ep, eq, e])
  · obtain ⟨q', hq', eq⟩ := key k q hq
    rw [← eq]
    exact hD.2 k q' hq'
end
section
/-- where the level of side 2^k stands -/
def st4 : Nat → Nat
  | 0 => 0
  | k + 1 => st4 k + 4 ^ k
theorem tt_pw : ∀ k, k ≤ 5 → 2 ^ k ≤ 32 ∧ 1 ≤ 2 ^ k ∧ (2 ^ k * 2 ^ k - 1) / 3 = st4 k ∧ 2 ^ k * 2 ^ k = 4 ^ k ∧ st4 k + 4 ^ k ≤ 1365 := by
  intro k hk
  match k, hk with
  | 0, _ => decide
  | 1, _ => decide
  | 2, _ => decide
  | 3, _ => decide
  | 4, _ => decide
  | 5, _ => decide
  | k + 6, h => exact absurd h (by omega)
theorem tt_startN {k : Nat} (h1 : 1 ≤ k) (h : k ≤ 32) : tt_start (nI k) = nI ((k * k - 1) / 3) := by
  have hkk : k * k ≤ 1024 := Nat.mul_le_mul h h
  have hk1 : 1 ≤ k * k := Nat.mul_pos (by omega) (by omega)
  unfold tt_start
  rw [pk_mul, show (1 : Int32) = nI 1 from rfl, pk_sub hk1, show (3 : Int32) = nI 3 from rfl, pk_div (by omega) (by omega) (by omega)]
theorem tt_start4 {k : Nat} (hk : k ≤ 5) : tt_start (nI (2 ^ k)) = nI (st4 k) := by
  obtain ⟨h1, h2, h3, -, -⟩ := tt_pw k hk
  rw [tt_startN h2 h1, h3]
theorem tt_atN {g : Nat → Int32} {k a b : Nat} (hk : k ≤ 5) (ha : a < 2 ^ k) (hb : b < 2 ^ k) : tt_at g (nI (2 ^ k)) (nI a) (nI b) = g (st4 k + b * 2 ^ k + a) := by
  obtain ⟨h1, h2, h3, h4, h5⟩ := tt_pw k hk
  unfold tt_at
  rw [if_neg (show ¬ (32 : Int32) < nI (2 ^ k) from nI_nlt (a := 32) h1 (by omega)), if_neg (nI_pos (by omega)), if_neg (nI_ge ha (by omega)), if_neg (nI_pos (by omega)), if_pos (nI_lt hb (by omega))]
  rw [tt_start4 hk, pk_mul, nI_add, nI_add]
  have hbk2 : b * 2 ^ k + 2 ^ k ≤ 4 ^ k := by
    have : (b + 1) * 2 ^ k ≤ 2 ^ k * 2 ^ k := Nat.mul_le_mul_right _ hb
    rw [Nat.succ_mul, h4] at this
    exact this
  rw [nI_clamp (by omega)]
def tt_ffv (g : Nat → Int32) (k i : Nat) : Int32 := tt_m4 g (nI (2 * 2 ^ k)) (nI (2 * (i % 2 ^ k))) (nI (2 * (i / 2 ^ k)))
/-- the colours with the first n of the level of side 2^k made out of the next greater one -/
def tt_ffp (g : Nat → Int32) (k n : Nat) : Nat → Int32 := fun i => if st4 k ≤ i ∧ i < st4 k + n then tt_ffv g k (i - st4 k) else g i
theorem tt_ffp0 (g : Nat → Int32) (k : Nat) : tt_ffp g k 0 = g := by
  funext i
  unfold tt_ffp
  rw [if_neg (by omega)]
theorem tt_ffp1 (g : Nat → Int32) (k n : Nat) : upd (tt_ffp g k n) (st4 k + n) (tt_ffv g k n) = tt_ffp g k (n + 1) := by
  funext i
  unfold upd tt_ffp
  by_cases h : i = st4 k + n
  · subst h
    rw [if_pos rfl, if_pos (by omega), Nat.add_sub_cancel_left]
  · rw [if_neg h]
    by_cases h2 : st4 k ≤ i ∧ i < st4 k + n
    · rw [if_pos h2, if_pos (by omega)]
    · rw [if_neg h2, if_neg (by omega)]
theorem tt_ffat (g : Nat → Int32) {k n : Nat} (hk : k ≤ 4) (hn : n ≤ 4 ^ k) (x y : Int32) : tt_at (tt_ffp g k n) (nI (2 * 2 ^ k)) x y = tt_at g (nI (2 * 2 ^ k)) x y := by
  have e2 : 2 * 2 ^ k = 2 ^ (k + 1) := by rw [Nat.pow_succ, Nat.mul_comm]
  rw [e2]
  have hk1 : k + 1 ≤ 5 := by omega
  obtain ⟨h1, h2, h3, h4, h5⟩ := tt_pw (k + 1) hk1
  unfold tt_at
  by_cases c1 : (32 : Int32) < nI (2 ^ (k + 1))
  · rw [if_pos c1, if_pos c1]
  · rw [if_neg c1, if_neg c1]
    by_cases c2 : x < 0
    · rw [if_pos c2, if_pos c2]
    · rw [if_neg c2, if_neg c2]
      by_cases c3 : nI (2 ^ (k + 1)) ≤ x
      · rw [if_pos c3, if_pos c3]
      · rw [if_neg c3, if_neg c3]
        by_cases c4 : y < 0
        · rw [if_pos c4, if_pos c4]
        · rw [if_neg c4, if_neg c4]
          by_cases c5 : y < nI (2 ^ (k + 1))
          · rw [if_pos c5, if_pos c5]
            obtain ⟨a, ha, rfl⟩ := nI_of c2
            obtain ⟨b, hb, rfl⟩ := nI_of c4
            have hbk : b < 2 ^ (k + 1) := (nI_ltI hb (by omega)).mp c5
            have hak : a < 2 ^ (k + 1) := by
              rcases Nat.lt_or_ge a (2 ^ (k + 1)) with q | q
              · exact q
              · exact absurd (nI_le q ha) c3
            rw [tt_start4 hk1, pk_mul, nI_add, nI_add]
            have hbk2 : b * 2 ^ (k + 1) + 2 ^ (k + 1) ≤ 4 ^ (k + 1) := by
              have : (b + 1) * 2 ^ (k + 1) ≤ 2 ^ (k + 1) * 2 ^ (k + 1) := Nat.mul_le_mul_right _ hbk
              rw [Nat.succ_mul, h4] at this
              exact this
            rw [nI_clamp (by omega)]
            unfold tt_ffp
            rw [if_neg (by simp only [st4]; omega)]
          · rw [if_neg c5, if_neg c5]
theorem tt_ffm (g : Nat → Int32) {k n : Nat} (hk : k ≤ 4) (hn : n ≤ 4 ^ k) (x y : Int32) : tt_m4 (tt_ffp g k n) (nI (2 * 2 ^ k)) x y = tt_m4 g (nI (2 * 2 ^ k)) x y := by
  unfold tt_m4
  rw [tt_ffat g hk hn, tt_ffat g hk hn, tt_ffat g hk hn, tt_ffat g hk hn]
theorem tt_ffs (g : Nat → Int32) {k x y : Nat} (hk : k ≤ 4) (hx : x < 2 ^ k) (hy : y < 2 ^ k) : tt_m4 (tt_ffp g k (y * 2 ^ k + x)) (2 * nI (2 ^ k)) (2 * nI x) (2 * nI y) = tt_ffv g k (y * 2 ^ k + x) := by
  obtain ⟨h1, h2, h3, h4, h5⟩ := tt_pw k (by omega)
  have hyk : y * 2 ^ k + 2 ^ k ≤ 4 ^ k := by
    have : (y + 1) * 2 ^ k ≤ 2 ^ k * 2 ^ k := Nat.mul_le_mul_right _ hy
    rw [Nat.succ_mul, h4] at this
    exact this
  rw [show (2 : Int32) = nI 2 from rfl, pk_mul, pk_mul, pk_mul, tt_ffm g hk (by omega)]
  unfold tt_ffv
  have e1 : (y * 2 ^ k + x) % 2 ^ k = x := by rw [Nat.mul_comm, Nat.mul_add_mod, Nat.mod_eq_of_lt hx]
  have e2 : (y * 2 ^ k + x) / 2 ^ k = y := by rw [Nat.mul_comm, Nat.mul_add_div (by omega), Nat.div_eq_of_lt hx, Nat.add_zero]
  rw [e1, e2]
theorem tt_ffi {k x y : Nat} (hk : k ≤ 4) (hx : x < 2 ^ k) (hy : y < 2 ^ k) : (nI (st4 k) + nI y * nI (2 ^ k)) + nI x = nI (st4 k + (y * 2 ^ k + x)) ∧ st4 k + (y * 2 ^ k + x) < 1365 := by
  obtain ⟨h1, h2, h3, h4, h5⟩ := tt_pw k (by omega)
  have hyk : y * 2 ^ k + 2 ^ k ≤ 4 ^ k := by
    have : (y + 1) * 2 ^ k ≤ 2 ^ k * 2 ^ k := Nat.mul_le_mul_right _ hy
    rw [Nat.succ_mul, h4] at this
    exact this
  refine ⟨by rw [pk_mul, nI_add, nI_add, Nat.add_assoc], by omega⟩
/-- the levels below the one of side 2^j made out of it, one after the other -/
def tt_fl (h : Nat → Int32) : Nat → (Nat → Int32)
  | 0 => h
  | i + 1 => tt_fl (tt_ffp h i (4 ^ i)) i
theorem tt_half (i : Nat) : nI (2 ^ (i + 1)) / 2 = nI (2 ^ (i + 1) / 2) ∧ 2 ^ (i + 1) / 2 = 2 ^ i ∨ 31 ≤ i + 1 := by
  rcases Nat.lt_or_ge (i + 1) 31 with h | h
  · left
    have h2 : 2 ^ (i + 1) < 2 ^ 31 := Nat.pow_lt_pow_right (by decide) h
    refine ⟨?_, by rw [Nat.pow_succ]; omega⟩
    rw [show (2 : Int32) = nI 2 from rfl, pk_div h2 (by decide) (by decide)]
  · exact Or.inr h
theorem tt_hv {j : Nat} (h : j ≤ 5) : nI (2 ^ j) / 2 = nI (2 ^ j / 2) := by
  have h2 : 2 ^ j < 2 ^ 31 := Nat.pow_lt_pow_right (by decide) (by omega)
  rw [show (2 : Int32) = nI 2 from rfl, pk_div h2 (by decide) (by decide)]
theorem tt_hs (i : Nat) : 2 ^ (i + 1) / 2 = 2 ^ i := by rw [Nat.pow_succ]; omega
end
section
set_option maxHeartbeats 4000000 in
set_option maxRecDepth 100000 in
theorem kB_isNumber (l : Launch) (x : Int32) : Met l yB_isNumber wB_isNumber (k2_rm 0 0) (fun v _ => v = ([.int x] : List Value).toArray) (k2_QcV (.int (tt_isNum x))) 0 0 (fun _ => False) := by
  refine Met.ofW (cc := cB_isNumber) (maxL := 1) (ret := (some .boolean)) (by decide) rfl ?_
  intro p e s m args below meth c s₁ B hml hv
  obtain rfl := hv
  have hx := B.exec
  have hb := B.bytes
  have hr := B.returns
  have hB : ∀ w ∈ tbB, w.before _ s = true := fun w h => (atoms_spec (ws := wB_isNumber) B.pre) w (List.mem_cons_of_mem _ h)
  have hown : s.vm.findClass "TextureBank" = some m.cls := findClass_of_methodNamed B.named
  have hlocks := B.notSynchronized
  have hl := lv_entry ([.int x]) (n := 1) (Nat.le_of_ble_eq_true rfl)
  rw [lg_entry_eq]
  generalize (lg_sl ([.int x]) ++ List.replicate (1 - (lg_sl ([.int x])).length) Slot.unset).toArray = ls at hl ⊢
  have hl : lv_has ls 1 [(0, .int x)] := hl
  refine lv_iload_n hx hb dB_isNumber_0 rfl (lv_at hl 0 rfl) ?_
  refine lv_if_lt (tgt := 15) hx hb dB_isNumber_1 (by decide) (fun c_1 => ?_) (fun c_1 => ?_)
  · refine lv_iconst (v := 0) hx hb dB_isNumber_15 (by decide) ?_
    exact W.zret hx hb hr rfl (fun t ht _ => ⟨tbI (by unfold tt_isNum; (first | rw [if_pos c_1] | rw [if_neg c_1])), ht⟩) (fun q hq => nomatch hq) dB_isNumber_16
  · refine lv_iload_n hx hb dB_isNumber_4 rfl (lv_at hl 0 rfl) ?_
    refine lv_sipush (v := 255) hx hb dB_isNumber_5 (by decide) ?_
    refine lv_icmp_gt (tgt := 15) hx hb dB_isNumber_8 (by decide) (fun c_2 => ?_) (fun c_2 => ?_)
    · refine lv_iconst (v := 0) hx hb dB_isNumber_15 (by decide) ?_
      exact W.zret hx hb hr rfl (fun t ht _ => ⟨tbI (by unfold tt_isNum; (first | rw [if_pos c_1] | rw [if_neg c_1]); (first | rw [if_pos c_2] | rw [if_neg c_2])), ht⟩) (fun q hq => nomatch hq) dB_isNumber_16
    · refine lv_iconst (v := 1) hx hb dB_isNumber_11 (by decide) ?_
      refine lv_goto (tgt := 16) hx hb dB_isNumber_12 (by decide) ?_
      exact W.zret hx hb hr rfl (fun t ht _ => ⟨tbI (by unfold tt_isNum; (first | rw [if_pos c_1] | rw [if_neg c_1]); (first | rw [if_pos c_2] | rw [if_neg c_2])), ht⟩) (fun q hq => nomatch hq) dB_isNumber_16

set_option maxHeartbeats 4000000 in
set_option maxRecDepth 100000 in
theorem kB_isColour (l : Launch) (x : Int32) : Met l yB_isColour wB_isColour (k2_rm 0 0) (fun v _ => v = ([.int x] : List Value).toArray) (k2_QcV (.int (tt_isCol x))) 0 0 (fun _ => False) := by
  refine Met.ofW (cc := cB_isColour) (maxL := 1) (ret := (some .boolean)) (by decide) rfl ?_
  intro p e s m args below meth c s₁ B hml hv
  obtain rfl := hv
  have hx := B.exec
  have hb := B.bytes
  have hr := B.returns
  have hB : ∀ w ∈ tbB, w.before _ s = true := fun w h => (atoms_spec (ws := wB_isColour) B.pre) w (List.mem_cons_of_mem _ h)
  have hown : s.vm.findClass "TextureBank" = some m.cls := findClass_of_methodNamed B.named
  have hlocks := B.notSynchronized
  have hl := lv_entry ([.int x]) (n := 1) (Nat.le_of_ble_eq_true rfl)
  rw [lg_entry_eq]
  generalize (lg_sl ([.int x]) ++ List.replicate (1 - (lg_sl ([.int x])).length) Slot.unset).toArray = ls at hl ⊢
  have hl : lv_has ls 1 [(0, .int x)] := hl
  refine lv_iload_n hx hb dB_isColour_0 rfl (lv_at hl 0 rfl) ?_
  refine lv_if_lt (tgt := 14) hx hb dB_isColour_1 (by decide) (fun c_1 => ?_) (fun c_1 => ?_)
  · refine lv_iconst (v := 0) hx hb dB_isColour_14 (by decide) ?_
    exact W.zret hx hb hr rfl (fun t ht _ => ⟨tbI (by unfold tt_isCol; (first | rw [if_pos c_1] | rw [if_neg c_1])), ht⟩) (fun q hq => nomatch hq) dB_isColour_15
  · refine lv_iload_n hx hb dB_isColour_4 rfl (lv_at hl 0 rfl) ?_
    refine lv_ldc (v := 16777215) hx hb hown (hB _ wd_306) dB_isColour_5 ?_
    refine lv_icmp_gt (tgt := 14) hx hb dB_isColour_7 (by decide) (fun c_2 => ?_) (fun c_2 => ?_)
    · refine lv_iconst (v := 0) hx hb dB_isColour_14 (by decide) ?_
      exact W.zret hx hb hr rfl (fun t ht _ => ⟨tbI (by unfold tt_isCol; (first | rw [if_pos c_1] | rw [if_neg c_1]); (first | rw [if_pos c_2] | rw [if_neg c_2])), ht⟩) (fun q hq => nomatch hq) dB_isColour_15
    · refine lv_iconst (v := 1) hx hb dB_isColour_10 (by decide) ?_
      refine lv_goto (tgt := 15) hx hb dB_isColour_11 (by decide) ?_
      exact W.zret hx hb hr rfl (fun t ht _ => ⟨tbI (by unfold tt_isCol; (first | rw [if_pos c_1] | rw [if_neg c_1]); (first | rw [if_pos c_2] | rw [if_neg c_2])), ht⟩) (fun q hq => nomatch hq) dB_isColour_15

set_option maxHeartbeats 4000000 in
set_option maxRecDepth 100000 in
theorem kJ_bitCount (l : Launch) (x : Int32) : Met l yJ_bitCount wJ_bitCount (k2_rm 0 0) (fun v _ => v = ([.int x] : List Value).toArray) (k2_QcV (.int (tt_bc x))) 0 0 (fun _ => False) := by
  refine va_MetF (cc := cJ_bitCount) (maxL := 1) (ret := (some .int)) (by decide +kernel) rfl ?_
  intro p e s m args below meth c s₁ B hml hv
  obtain rfl := hv
  have hx := B.exec
  have hb := B.bytes
  have hr := B.returns
  have hB : ∀ w ∈ tbB, w.before _ s = true := fun w h => (atoms_spec (ws := wJ_bitCount) B.pre) w (List.mem_cons_of_mem _ h)
  have hown : s.vm.findClass "java/lang/Integer" = some m.cls := findClass_of_methodNamed B.named
  have hlocks := B.notSynchronized
  have hl := lv_entry ([.int x]) (n := 1) (Nat.le_of_ble_eq_true rfl)
  rw [lg_entry_eq]
  generalize (lg_sl ([.int x]) ++ List.replicate (1 - (lg_sl ([.int x])).length) Slot.unset).toArray = ls at hl ⊢
  have hl : lv_has ls 1 [(0, .int x)] := hl
  refine lv_iload_n hx hb dJ_bitCount_0 rfl (lv_at hl 0 rfl) ?_
  refine lv_iload_n hx hb dJ_bitCount_1 rfl (lv_at hl 0 rfl) ?_
  refine lv_iconst (v := 1) hx hb dJ_bitCount_2 (by decide) ?_
  refine lv_iushr hx hb dJ_bitCount_3 rfl ?_
  refine lv_ldcw (v := 1431655765) hx hb hown (hB _ wd_81) dJ_bitCount_4 ?_
  refine lv_iand hx hb dJ_bitCount_7 ?_
  refine lv_isub hx hb dJ_bitCount_8 ?_
  refine lv_topi (fun b1 eb1 => ?_)
  refine lv_istore_n (lv' := [(0, .int b1)]) hx hb dJ_bitCount_9 rfl hl (by decide) rfl (fun ls hl => ?_)
  refine lv_iload_n hx hb dJ_bitCount_10 rfl (lv_at hl 0 rfl) ?_
  refine lv_ldcw (v := 858993459) hx hb hown (hB _ wd_82) dJ_bitCount_11 ?_
  refine lv_iand hx hb dJ_bitCount_14 ?_
  refine lv_iload_n hx hb dJ_bitCount_15 rfl (lv_at hl 0 rfl) ?_
  refine lv_iconst (v := 2) hx hb dJ_bitCount_16 (by decide) ?_
  refine lv_iushr hx hb dJ_bitCount_17 rfl ?_
  refine lv_ldcw (v := 858993459) hx hb hown (hB _ wd_82) dJ_bitCount_18 ?_
  refine lv_iand hx hb dJ_bitCount_21 ?_
  refine lv_iadd hx hb dJ_bitCount_22 ?_
  refine lv_topi (fun b2 eb2 => ?_)
  refine lv_istore_n (lv' := [(0, .int b2)]) hx hb dJ_bitCount_23 rfl hl (by decide) rfl (fun ls hl => ?_)
  refine lv_iload_n hx hb dJ_bitCount_24 rfl (lv_at hl 0 rfl) ?_
  refine lv_iload_n hx hb dJ_bitCount_25 rfl (lv_at hl 0 rfl) ?_
  refine lv_iconst (v := 4) hx hb dJ_bitCount_26 (by decide) ?_
  refine lv_iushr hx hb dJ_bitCount_27 rfl ?_
  refine lv_iadd hx hb dJ_bitCount_28 ?_
  refine lv_ldcw (v := 252645135) hx hb hown (hB _ wd_83) dJ_bitCount_29 ?_
  refine lv_iand hx hb dJ_bitCount_32 ?_
  refine lv_topi (fun b3 eb3 => ?_)
  refine lv_istore_n (lv' := [(0, .int b3)]) hx hb dJ_bitCount_33 rfl hl (by decide) rfl (fun ls hl => ?_)
  refine lv_iload_n hx hb dJ_bitCount_34 rfl (lv_at hl 0 rfl) ?_
  refine lv_iload_n hx hb dJ_bitCount_35 rfl (lv_at hl 0 rfl) ?_
  refine lv_bipush (v := 8) hx hb dJ_bitCount_36 (by decide) ?_
  refine lv_iushr hx hb dJ_bitCount_38 rfl ?_
  refine lv_iadd hx hb dJ_bitCount_39 ?_
  refine lv_topi (fun b4 eb4 => ?_)
  refine lv_istore_n (lv' := [(0, .int b4)]) hx hb dJ_bitCount_40 rfl hl (by decide) rfl (fun ls hl => ?_)
  refine lv_iload_n hx hb dJ_bitCount_41 rfl (lv_at hl 0 rfl) ?_
  refine lv_iload_n hx hb dJ_bitCount_42 rfl (lv_at hl 0 rfl) ?_
  refine lv_bipush (v := 16) hx hb dJ_bitCount_43 (by decide) ?_
  refine lv_iushr hx hb dJ_bitCount_45 rfl ?_
  refine lv_iadd hx hb dJ_bitCount_46 ?_
  refine lv_topi (fun b5 eb5 => ?_)
  refine lv_istore_n (lv' := [(0, .int b5)]) hx hb dJ_bitCount_47 rfl hl (by decide) rfl (fun ls hl => ?_)
  refine lv_iload_n hx hb dJ_bitCount_48 rfl (lv_at hl 0 rfl) ?_
  refine lv_bipush (v := 63) hx hb dJ_bitCount_49 (by decide) ?_
  refine lv_iand hx hb dJ_bitCount_51 ?_
  exact W.iret hx hb hr (fun t ht _ => ⟨tbI (by subst eb1; subst eb2; subst eb3; subst eb4; subst eb5; rfl), ht⟩) (fun q hq => nomatch hq) dJ_bitCount_52

set_option maxHeartbeats 4000000 in
set_option maxRecDepth 100000 in
theorem kB_isSide (l : Launch) (x : Int32) : Met l yB_isSide wB_isSide (k2_rm 1 20) (fun v _ => v = ([.int x] : List Value).toArray) (k2_QcV (.int (tt_isSide x))) 0 0 (fun _ => False) := by
  refine Met.ofW (cc := cB_isSide) (maxL := 1) (ret := (some .boolean)) (by decide) rfl ?_
  intro p e s m args below meth c s₁ B hml hv
  obtain rfl := hv
  have hx := B.exec
  have hb := B.bytes
  have hr := B.returns
  have hB : ∀ w ∈ tbB, w.before _ s = true := fun w h => (atoms_spec (ws := wB_isSide) B.pre) w (List.mem_cons_of_mem _ h)
  have hown : s.vm.findClass "TextureBank" = some m.cls := findClass_of_methodNamed B.named
  have hlocks := B.notSynchronized
  have hl := lv_entry ([.int x]) (n := 1) (Nat.le_of_ble_eq_true rfl)
  rw [lg_entry_eq]
  generalize (lg_sl ([.int x]) ++ List.replicate (1 - (lg_sl ([.int x])).length) Slot.unset).toArray = ls at hl ⊢
  have hl : lv_has ls 1 [(0, .int x)] := hl
  refine lv_iload_n hx hb dB_isSide_0 rfl (lv_at hl 0 rfl) ?_
  refine lv_iconst (v := 1) hx hb dB_isSide_1 (by decide) ?_
  refine lv_icmp_lt (tgt := 23) hx hb dB_isSide_2 (by decide) (fun c_1 => ?_) (fun c_1 => ?_)
  · refine lv_iconst (v := 0) hx hb dB_isSide_23 (by decide) ?_
    exact W.zret hx hb hr rfl (fun t ht _ => ⟨tbI (by unfold tt_isSide; (first | rw [if_pos c_1] | rw [if_neg c_1])), ht⟩) (fun q hq => nomatch hq) dB_isSide_24
  · refine lv_iload_n hx hb dB_isSide_5 rfl (lv_at hl 0 rfl) ?_
    refine lv_bipush (v := 32) hx hb dB_isSide_6 (by decide) ?_
    refine lv_icmp_gt (tgt := 23) hx hb dB_isSide_8 (by decide) (fun c_2 => ?_) (fun c_2 => ?_)
    · refine lv_iconst (v := 0) hx hb dB_isSide_23 (by decide) ?_
      exact W.zret hx hb hr rfl (fun t ht _ => ⟨tbI (by unfold tt_isSide; (first | rw [if_pos c_1] | rw [if_neg c_1]); (first | rw [if_pos c_2] | rw [if_neg c_2])), ht⟩) (fun q hq => nomatch hq) dB_isSide_24
    · refine lv_iload_n hx hb dB_isSide_11 rfl (lv_at hl 0 rfl) ?_
      refine W.callV (W.runS (As := [.int x]) (rest := []) ⟨hx, hb, hml, hown, hB⟩ (kJ_bitCount l x) ⟨callB_of 1 hB gwJ_bitCount rfl rfl rfl (hB _ wd_4) (hB _ wd_78) ydJ_bitCount ⟨Nat.le_of_ble_eq_true rfl, Nat.le_of_ble_eq_true rfl⟩, hB _ wd_79⟩ (preEq) rfl rfl hl.1 rfl (lv_room (Nat.le_of_ble_eq_true rfl)) dB_isSide_12 ⟨Nat.zero_le _, Nat.zero_le _⟩) ?_
      refine W.eq (g2 := F0 m 15 ls [.int (tt_bc x)]) rfl ?_
      refine lv_iconst (v := 1) hx hb dB_isSide_15 (by decide) ?_
      refine lv_icmp_ne (tgt := 23) hx hb dB_isSide_16 (by decide) (fun c_3 => ?_) (fun c_3 => ?_)
      · refine lv_iconst (v := 0) hx hb dB_isSide_23 (by decide) ?_
        exact W.zret hx hb hr rfl (fun t ht _ => ⟨tbI (by unfold tt_isSide; (first | rw [if_pos c_1] | rw [if_neg c_1]); (first | rw [if_pos c_2] | rw [if_neg c_2]); (first | rw [if_pos c_3] | rw [if_neg c_3])), ht⟩) (fun q hq => nomatch hq) dB_isSide_24
      · refine lv_iconst (v := 1) hx hb dB_isSide_19 (by decide) ?_
        refine lv_goto (tgt := 24) hx hb dB_isSide_20 (by decide) ?_
        exact W.zret hx hb hr rfl (fun t ht _ => ⟨tbI (by unfold tt_isSide; (first | rw [if_pos c_1] | rw [if_neg c_1]); (first | rw [if_pos c_2] | rw [if_neg c_2]); (first | rw [if_pos c_3] | rw [if_neg c_3])), ht⟩) (fun q hq => nomatch hq) dB_isSide_24

set_option maxHeartbeats 4000000 in
set_option maxRecDepth 100000 in
theorem kB_isWrap (l : Launch) (x : Int32) : Met l yB_isWrap wB_isWrap (k2_rm 0 0) (fun v _ => v = ([.int x] : List Value).toArray) (k2_QcV (.int (tt_isWrap x))) 0 0 (fun _ => False) := by
  refine Met.ofW (cc := cB_isWrap) (maxL := 1) (ret := (some .boolean)) (by decide) rfl ?_
  intro p e s m args below meth c s₁ B hml hv
  obtain rfl := hv
  have hx := B.exec
  have hb := B.bytes
  have hr := B.returns
  have hB : ∀ w ∈ tbB, w.before _ s = true := fun w h => (atoms_spec (ws := wB_isWrap) B.pre) w (List.mem_cons_of_mem _ h)
  have hown : s.vm.findClass "TextureBank" = some m.cls := findClass_of_methodNamed B.named
  have hlocks := B.notSynchronized
  have hl := lv_entry ([.int x]) (n := 1) (Nat.le_of_ble_eq_true rfl)
  rw [lg_entry_eq]
  generalize (lg_sl ([.int x]) ++ List.replicate (1 - (lg_sl ([.int x])).length) Slot.unset).toArray = ls at hl ⊢
  have hl : lv_has ls 1 [(0, .int x)] := hl
  refine lv_iload_n hx hb dB_isWrap_0 rfl (lv_at hl 0 rfl) ?_
  refine lv_if_eq (tgt := 14) hx hb dB_isWrap_1 (by decide) (fun c_1 => ?_) (fun c_1 => ?_)
  · refine lv_iconst (v := 1) hx hb dB_isWrap_14 (by decide) ?_
    refine lv_goto (tgt := 19) hx hb dB_isWrap_15 (by decide) ?_
    exact W.zret hx hb hr rfl (fun t ht _ => ⟨tbI (by unfold tt_isWrap; (first | rw [if_pos c_1] | rw [if_neg c_1])), ht⟩) (fun q hq => nomatch hq) dB_isWrap_19
  · refine lv_iload_n hx hb dB_isWrap_4 rfl (lv_at hl 0 rfl) ?_
    refine lv_iconst (v := 1) hx hb dB_isWrap_5 (by decide) ?_
    refine lv_icmp_eq (tgt := 14) hx hb dB_isWrap_6 (by decide) (fun c_2 => ?_) (fun c_2 => ?_)
    · refine lv_iconst (v := 1) hx hb dB_isWrap_14 (by decide) ?_
      refine lv_goto (tgt := 19) hx hb dB_isWrap_15 (by decide) ?_
      exact W.zret hx hb hr rfl (fun t ht _ => ⟨tbI (by unfold tt_isWrap; (first | rw [if_pos c_1] | rw [if_neg c_1]); (first | rw [if_pos c_2] | rw [if_neg c_2])), ht⟩) (fun q hq => nomatch hq) dB_isWrap_19
    · refine lv_iload_n hx hb dB_isWrap_9 rfl (lv_at hl 0 rfl) ?_
      refine lv_iconst (v := 2) hx hb dB_isWrap_10 (by decide) ?_
      refine lv_icmp_ne (tgt := 18) hx hb dB_isWrap_11 (by decide) (fun c_3 => ?_) (fun c_3 => ?_)
      · refine lv_iconst (v := 0) hx hb dB_isWrap_18 (by decide) ?_
        exact W.zret hx hb hr rfl (fun t ht _ => ⟨tbI (by unfold tt_isWrap; (first | rw [if_pos c_1] | rw [if_neg c_1]); (first | rw [if_pos c_2] | rw [if_neg c_2]); (first | rw [if_pos c_3] | rw [if_neg c_3])), ht⟩) (fun q hq => nomatch hq) dB_isWrap_19
      · refine lv_iconst (v := 1) hx hb dB_isWrap_14 (by decide) ?_
        refine lv_goto (tgt := 19) hx hb dB_isWrap_15 (by decide) ?_
        exact W.zret hx hb hr rfl (fun t ht _ => ⟨tbI (by unfold tt_isWrap; (first | rw [if_pos c_1] | rw [if_neg c_1]); (first | rw [if_pos c_2] | rw [if_neg c_2]); (first | rw [if_pos c_3] | rw [if_neg c_3])), ht⟩) (fun q hq => nomatch hq) dB_isWrap_19

set_option maxHeartbeats 4000000 in
set_option maxRecDepth 100000 in
theorem kB_isSoft (l : Launch) (x : Int32) : Met l yB_isSoft wB_isSoft (k2_rm 0 0) (fun v _ => v = ([.int x] : List Value).toArray) (k2_QcV (.int (tt_isSoft x))) 0 0 (fun _ => False) := by
  refine Met.ofW (cc := cB_isSoft) (maxL := 1) (ret := (some .boolean)) (by decide) rfl ?_
  intro p e s m args below meth c s₁ B hml hv
  obtain rfl := hv
  have hx := B.exec
  have hb := B.bytes
  have hr := B.returns
  have hB : ∀ w ∈ tbB, w.before _ s = true := fun w h => (atoms_spec (ws := wB_isSoft) B.pre) w (List.mem_cons_of_mem _ h)
  have hown : s.vm.findClass "TextureBank" = some m.cls := findClass_of_methodNamed B.named
  have hlocks := B.notSynchronized
  have hl := lv_entry ([.int x]) (n := 1) (Nat.le_of_ble_eq_true rfl)
  rw [lg_entry_eq]
  generalize (lg_sl ([.int x]) ++ List.replicate (1 - (lg_sl ([.int x])).length) Slot.unset).toArray = ls at hl ⊢
  have hl : lv_has ls 1 [(0, .int x)] := hl
  refine lv_iload_n hx hb dB_isSoft_0 rfl (lv_at hl 0 rfl) ?_
  refine lv_if_eq (tgt := 9) hx hb dB_isSoft_1 (by decide) (fun c_1 => ?_) (fun c_1 => ?_)
  · refine lv_iconst (v := 1) hx hb dB_isSoft_9 (by decide) ?_
    refine lv_goto (tgt := 14) hx hb dB_isSoft_10 (by decide) ?_
    exact W.zret hx hb hr rfl (fun t ht _ => ⟨tbI (by unfold tt_isSoft; (first | rw [if_pos c_1] | rw [if_neg c_1])), ht⟩) (fun q hq => nomatch hq) dB_isSoft_14
  · refine lv_iload_n hx hb dB_isSoft_4 rfl (lv_at hl 0 rfl) ?_
    refine lv_iconst (v := 1) hx hb dB_isSoft_5 (by decide) ?_
    refine lv_icmp_ne (tgt := 13) hx hb dB_isSoft_6 (by decide) (fun c_2 => ?_) (fun c_2 => ?_)
    · refine lv_iconst (v := 0) hx hb dB_isSoft_13 (by decide) ?_
      exact W.zret hx hb hr rfl (fun t ht _ => ⟨tbI (by unfold tt_isSoft; (first | rw [if_pos c_1] | rw [if_neg c_1]); (first | rw [if_pos c_2] | rw [if_neg c_2])), ht⟩) (fun q hq => nomatch hq) dB_isSoft_14
    · refine lv_iconst (v := 1) hx hb dB_isSoft_9 (by decide) ?_
      refine lv_goto (tgt := 14) hx hb dB_isSoft_10 (by decide) ?_
      exact W.zret hx hb hr rfl (fun t ht _ => ⟨tbI (by unfold tt_isSoft; (first | rw [if_pos c_1] | rw [if_neg c_1]); (first | rw [if_pos c_2] | rw [if_neg c_2])), ht⟩) (fun q hq => nomatch hq) dB_isSoft_14

set_option maxHeartbeats 4000000 in
set_option maxRecDepth 100000 in
theorem kB_isPlace (l : Launch) (x : Int32) : Met l yB_isPlace wB_isPlace (k2_rm 0 0) (fun v _ => v = ([.int x] : List Value).toArray) (k2_QcV (.int (tt_isPlace x))) 0 0 (fun _ => False) := by
  refine Met.ofW (cc := cB_isPlace) (maxL := 1) (ret := (some .boolean)) (by decide) rfl ?_
  intro p e s m args below meth c s₁ B hml hv
  obtain rfl := hv
  have hx := B.exec
  have hb := B.bytes
  have hr := B.returns
  have hB : ∀ w ∈ tbB, w.before _ s = true := fun w h => (atoms_spec (ws := wB_isPlace) B.pre) w (List.mem_cons_of_mem _ h)
  have hown : s.vm.findClass "TextureBank" = some m.cls := findClass_of_methodNamed B.named
  have hlocks := B.notSynchronized
  have hl := lv_entry ([.int x]) (n := 1) (Nat.le_of_ble_eq_true rfl)
  rw [lg_entry_eq]
  generalize (lg_sl ([.int x]) ++ List.replicate (1 - (lg_sl ([.int x])).length) Slot.unset).toArray = ls at hl ⊢
  have hl : lv_has ls 1 [(0, .int x)] := hl
  refine lv_iload_n hx hb dB_isPlace_0 rfl (lv_at hl 0 rfl) ?_
  refine lv_ldc (v := (-16777216)) hx hb hown (hB _ wd_254) dB_isPlace_1 ?_
  refine lv_icmp_lt (tgt := 16) hx hb dB_isPlace_3 (by decide) (fun c_1 => ?_) (fun c_1 => ?_)
  · refine lv_iconst (v := 0) hx hb dB_isPlace_16 (by decide) ?_
    exact W.zret hx hb hr rfl (fun t ht _ => ⟨tbI (by unfold tt_isPlace; (first | rw [if_pos c_1] | rw [if_neg c_1])), ht⟩) (fun q hq => nomatch hq) dB_isPlace_17
  · refine lv_iload_n hx hb dB_isPlace_6 rfl (lv_at hl 0 rfl) ?_
    refine lv_ldc (v := 16777216) hx hb hown (hB _ wd_232) dB_isPlace_7 ?_
    refine lv_icmp_gt (tgt := 16) hx hb dB_isPlace_9 (by decide) (fun c_2 => ?_) (fun c_2 => ?_)
    · refine lv_iconst (v := 0) hx hb dB_isPlace_16 (by decide) ?_
      exact W.zret hx hb hr rfl (fun t ht _ => ⟨tbI (by unfold tt_isPlace; (first | rw [if_pos c_1] | rw [if_neg c_1]); (first | rw [if_pos c_2] | rw [if_neg c_2])), ht⟩) (fun q hq => nomatch hq) dB_isPlace_17
    · refine lv_iconst (v := 1) hx hb dB_isPlace_12 (by decide) ?_
      refine lv_goto (tgt := 17) hx hb dB_isPlace_13 (by decide) ?_
      exact W.zret hx hb hr rfl (fun t ht _ => ⟨tbI (by unfold tt_isPlace; (first | rw [if_pos c_1] | rw [if_neg c_1]); (first | rw [if_pos c_2] | rw [if_neg c_2])), ht⟩) (fun q hq => nomatch hq) dB_isPlace_17

set_option maxHeartbeats 4000000 in
set_option maxRecDepth 100000 in
theorem kB_colourOf (l : Launch) (r : Int32) (gr : Int32) (bl : Int32) : Met l yB_colourOf wB_colourOf (k2_rm 0 0) (fun v _ => v = ([.int r, .int gr, .int bl] : List Value).toArray) (k2_QcV (.int (tt_col r gr bl))) 0 0 (fun _ => False) := by
  refine Met.ofW (cc := cB_colourOf) (maxL := 3) (ret := (some .int)) (by decide) rfl ?_
  intro p e s m args below meth c s₁ B hml hv
  obtain rfl := hv
  have hx := B.exec
  have hb := B.bytes
  have hr := B.returns
  have hB : ∀ w ∈ tbB, w.before _ s = true := fun w h => (atoms_spec (ws := wB_colourOf) B.pre) w (List.mem_cons_of_mem _ h)
  have hown : s.vm.findClass "TextureBank" = some m.cls := findClass_of_methodNamed B.named
  have hlocks := B.notSynchronized
  have hl := lv_entry ([.int r, .int gr, .int bl]) (n := 3) (Nat.le_of_ble_eq_true rfl)
  rw [lg_entry_eq]
  generalize (lg_sl ([.int r, .int gr, .int bl]) ++ List.replicate (3 - (lg_sl ([.int r, .int gr, .int bl])).length) Slot.unset).toArray = ls at hl ⊢
  have hl : lv_has ls 3 [(0, .int r), (1, .int gr), (2, .int bl)] := hl
  refine lv_iload_n hx hb dB_colourOf_0 rfl (lv_at hl 0 rfl) ?_
  refine lv_bipush (v := 16) hx hb dB_colourOf_1 (by decide) ?_
  refine lv_ishl hx hb dB_colourOf_3 ?_
  refine lv_iload_n hx hb dB_colourOf_4 rfl (lv_at hl 1 rfl) ?_
  refine lv_bipush (v := 8) hx hb dB_colourOf_5 (by decide) ?_
  refine lv_ishl hx hb dB_colourOf_7 ?_
  refine lv_iadd hx hb dB_colourOf_8 ?_
  refine lv_iload_n hx hb dB_colourOf_9 rfl (lv_at hl 2 rfl) ?_
  refine lv_iconst (v := 0) hx hb dB_colourOf_10 (by decide) ?_
  refine lv_ishl hx hb dB_colourOf_11 ?_
  refine lv_iadd hx hb dB_colourOf_12 ?_
  exact W.iret hx hb hr (fun t ht _ => ⟨tbI (rfl), ht⟩) (fun q hq => nomatch hq) dB_colourOf_13

set_option maxHeartbeats 4000000 in
set_option maxRecDepth 100000 in
theorem kB_numberOf (l : Launch) (co : Int32) (sh : Int32) : Met l yB_numberOf wB_numberOf (k2_rm 0 0) (fun v _ => v = ([.int co, .int sh] : List Value).toArray) (k2_QcV (.long (tt_num co sh))) 0 0 (fun _ => False) := by
  refine Met.ofW (cc := cB_numberOf) (maxL := 2) (ret := (some .long)) (by decide) rfl ?_
  intro p e s m args below meth c s₁ B hml hv
  obtain rfl := hv
  have hx := B.exec
  have hb := B.bytes
  have hr := B.returns
  have hB : ∀ w ∈ tbB, w.before _ s = true := fun w h => (atoms_spec (ws := wB_numberOf) B.pre) w (List.mem_cons_of_mem _ h)
  have hown : s.vm.findClass "TextureBank" = some m.cls := findClass_of_methodNamed B.named
  have hlocks := B.notSynchronized
  have hl := lv_entry ([.int co, .int sh]) (n := 2) (Nat.le_of_ble_eq_true rfl)
  rw [lg_entry_eq]
  generalize (lg_sl ([.int co, .int sh]) ++ List.replicate (2 - (lg_sl ([.int co, .int sh])).length) Slot.unset).toArray = ls at hl ⊢
  have hl : lv_has ls 2 [(0, .int co), (1, .int sh)] := hl
  refine lv_iload_n hx hb dB_numberOf_0 rfl (lv_at hl 0 rfl) ?_
  refine lv_iload_n hx hb dB_numberOf_1 rfl (lv_at hl 1 rfl) ?_
  refine lv_ishr hx hb dB_numberOf_2 ?_
  refine lv_sipush (v := 255) hx hb dB_numberOf_3 (by decide) ?_
  refine lv_iand hx hb dB_numberOf_6 ?_
  refine lv_i2l hx hb dB_numberOf_7 rfl ?_
  exact W.lret hx hb hr (fun t ht _ => ⟨tbL (rfl), ht⟩) (fun q hq => nomatch hq) dB_numberOf_8

set_option maxHeartbeats 4000000 in
set_option maxRecDepth 100000 in
theorem kJ_floorDiv (l : Launch) (x : Int64) (y : Int64) (hy : ¬ y = 0) : Met l yJ_floorDiv wJ_floorDiv (k2_rm 0 0) (fun v _ => v = ([.long x, .long y] : List Value).toArray) (k2_QcV (.long (fd_l x y))) 0 0 (fun _ => False) := by
  refine va_MetF (cc := cJ_floorDiv) (maxL := 6) (ret := (some .long)) (by decide +kernel) rfl ?_
  intro p e s m args below meth c s₁ B hml hv
  obtain rfl := hv
  have hx := B.exec
  have hb := B.bytes
  have hr := B.returns
  have hB : ∀ w ∈ tbB, w.before _ s = true := fun w h => (atoms_spec (ws := wJ_floorDiv) B.pre) w (List.mem_cons_of_mem _ h)
  have hown : s.vm.findClass "java/lang/Math" = some m.cls := findClass_of_methodNamed B.named
  have hlocks := B.notSynchronized
  have hl := lv_entry ([.long x, .long y]) (n := 6) (Nat.le_of_ble_eq_true rfl)
  rw [lg_entry_eq]
  generalize (lg_sl ([.long x, .long y]) ++ List.replicate (6 - (lg_sl ([.long x, .long y])).length) Slot.unset).toArray = ls at hl ⊢
  have hl : lv_has ls 6 [(0, .long x), (2, .long y)] := hl
  refine lv_lload_n hx hb dJ_floorDiv_0 rfl (lv_at hl 0 rfl) ?_
  refine lv_lload_n hx hb dJ_floorDiv_1 rfl (lv_at hl 1 rfl) ?_
  refine lv_ldiv hx hb dJ_floorDiv_2 hy ?_
  refine lv_lstore (lv' := [(4, .long (x / y)), (0, .long x), (2, .long y)]) hx hb dJ_floorDiv_3 hl (by decide) rfl (fun ls hl => ?_)
  refine lv_lload_n hx hb dJ_floorDiv_5 rfl (lv_at hl 1 rfl) ?_
  refine lv_lload_n hx hb dJ_floorDiv_6 rfl (lv_at hl 2 rfl) ?_
  refine lv_lxor hx hb dJ_floorDiv_7 ?_
  refine lv_lconst (v := 0) hx hb dJ_floorDiv_8 (by decide) ?_
  refine W.lcmp hx hb dJ_floorDiv_9 ?_
  refine lv_if_ge (tgt := 27) hx hb dJ_floorDiv_10 (by decide) (fun c_1 => ?_) (fun c_1 => ?_)
  · refine lv_lload hx hb dJ_floorDiv_27 (lv_at hl 0 rfl) ?_
    exact W.lret hx hb hr (fun t ht _ => ⟨tbL (by unfold fd_l; (first | rw [if_pos ((lg_cmp_ge _ _).mp c_1)] | rw [if_neg ((lg_cmp_ge _ _).mp c_1)])), ht⟩) (fun q hq => nomatch hq) dJ_floorDiv_29
  · refine lv_lload hx hb dJ_floorDiv_13 (lv_at hl 0 rfl) ?_
    refine lv_lload_n hx hb dJ_floorDiv_15 rfl (lv_at hl 2 rfl) ?_
    refine lv_lmul hx hb dJ_floorDiv_16 ?_
    refine lv_lload_n hx hb dJ_floorDiv_17 rfl (lv_at hl 1 rfl) ?_
    refine W.lcmp hx hb dJ_floorDiv_18 ?_
    refine lv_if_eq (tgt := 27) hx hb dJ_floorDiv_19 (by decide) (fun c_2 => ?_) (fun c_2 => ?_)
    · refine lv_lload hx hb dJ_floorDiv_27 (lv_at hl 0 rfl) ?_
      exact W.lret hx hb hr (fun t ht _ => ⟨tbL (by unfold fd_l; (first | rw [if_pos (fun h9 => c_1 ((lg_cmp_ge _ _).mpr h9))] | rw [if_neg (fun h9 => c_1 ((lg_cmp_ge _ _).mpr h9))]); (first | rw [if_pos ((lg_cmp_eq _ _).mp c_2)] | rw [if_neg ((lg_cmp_eq _ _).mp c_2)])), ht⟩) (fun q hq => nomatch hq) dJ_floorDiv_29
    · refine lv_lload hx hb dJ_floorDiv_22 (lv_at hl 0 rfl) ?_
      refine lv_lconst (v := 1) hx hb dJ_floorDiv_24 (by decide) ?_
      refine lv_lsub hx hb dJ_floorDiv_25 ?_
      exact W.lret hx hb hr (fun t ht _ => ⟨tbL (by unfold fd_l; (first | rw [if_pos (fun h9 => c_1 ((lg_cmp_ge _ _).mpr h9))] | rw [if_neg (fun h9 => c_1 ((lg_cmp_ge _ _).mpr h9))]); (first | rw [if_pos (fun h9 => c_2 ((lg_cmp_eq _ _).mpr h9))] | rw [if_neg (fun h9 => c_2 ((lg_cmp_eq _ _).mpr h9))])), ht⟩) (fun q hq => nomatch hq) dJ_floorDiv_26

set_option maxHeartbeats 4000000 in
set_option maxRecDepth 100000 in
theorem kB_litNumber (l : Launch) (co : Int32) (ti : Int32) (li : Int32) (sh : Int32) : Met l yB_litNumber wB_litNumber (k2_rm 1 25) (fun v _ => v = ([.int co, .int ti, .int li, .int sh] : List Value).toArray) (k2_QcV (.int (tt_litN co ti li sh))) 0 0 (fun _ => False) := by
  refine Met.ofW (cc := cB_litNumber) (maxL := 6) (ret := (some .int)) (by decide) rfl ?_
  intro p e s m args below meth c s₁ B hml hv
  obtain rfl := hv
  have hx := B.exec
  have hb := B.bytes
  have hr := B.returns
  have hB : ∀ w ∈ tbB, w.before _ s = true := fun w h => (atoms_spec (ws := wB_litNumber) B.pre) w (List.mem_cons_of_mem _ h)
  have hown : s.vm.findClass "TextureBank" = some m.cls := findClass_of_methodNamed B.named
  have hlocks := B.notSynchronized
  have hl := lv_entry ([.int co, .int ti, .int li, .int sh]) (n := 6) (Nat.le_of_ble_eq_true rfl)
  rw [lg_entry_eq]
  generalize (lg_sl ([.int co, .int ti, .int li, .int sh]) ++ List.replicate (6 - (lg_sl ([.int co, .int ti, .int li, .int sh])).length) Slot.unset).toArray = ls at hl ⊢
  have hl : lv_has ls 6 [(0, .int co), (1, .int ti), (2, .int li), (3, .int sh)] := hl
  refine lv_iload_n hx hb dB_litNumber_0 rfl (lv_at hl 0 rfl) ?_
  refine lv_iload_n hx hb dB_litNumber_1 rfl (lv_at hl 3 rfl) ?_
  refine W.callV (W.runS (As := [.int co, .int sh]) (rest := []) ⟨hx, hb, hml, hown, hB⟩ (kB_numberOf l co sh) ⟨callB_of 2 hB gwB_numberOf rfl rfl rfl (hB _ wd_1) (hB _ wd_313) ydB_numberOf ⟨Nat.le_of_ble_eq_true rfl, Nat.le_of_ble_eq_true rfl⟩, hB _ wd_116⟩ (preEq) rfl rfl hl.1 rfl (lv_room (Nat.le_of_ble_eq_true rfl)) dB_litNumber_2 ⟨Nat.zero_le _, Nat.zero_le _⟩) ?_
  refine W.eq (g2 := F0 m 5 ls [.long (tt_num co sh)]) rfl ?_
  refine lv_iload_n hx hb dB_litNumber_5 rfl (lv_at hl 1 rfl) ?_
  refine lv_iload_n hx hb dB_litNumber_6 rfl (lv_at hl 3 rfl) ?_
  refine W.callV (W.runS (As := [.int ti, .int sh]) (rest := [.long (tt_num co sh)]) ⟨hx, hb, hml, hown, hB⟩ (kB_numberOf l ti sh) ⟨callB_of 2 hB gwB_numberOf rfl rfl rfl (hB _ wd_1) (hB _ wd_313) ydB_numberOf ⟨Nat.le_of_ble_eq_true rfl, Nat.le_of_ble_eq_true rfl⟩, hB _ wd_116⟩ (preEq) rfl rfl hl.1 rfl (lv_room (Nat.le_of_ble_eq_true rfl)) dB_litNumber_7 ⟨Nat.zero_le _, Nat.zero_le _⟩) ?_
  refine W.eq (g2 := F0 m 10 ls [.long (tt_num ti sh), .long (tt_num co sh)]) rfl ?_
  refine lv_lmul hx hb dB_litNumber_10 ?_
  refine lv_ldc2 (v := 255) hx hb hown (hB _ wd_314) dB_litNumber_11 ?_
  refine W.callV (W.runS (As := [.long ((tt_num co sh) * (tt_num ti sh)), .long 255]) (rest := []) ⟨hx, hb, hml, hown, hB⟩ (kJ_floorDiv l ((tt_num co sh) * (tt_num ti sh)) 255 (by decide)) ⟨callB_of 2 hB gwJ_floorDiv rfl rfl rfl (hB _ wd_6) (hB _ wd_315) ydJ_floorDiv ⟨Nat.le_of_ble_eq_true rfl, Nat.le_of_ble_eq_true rfl⟩, hB _ wd_120⟩ (preEq) rfl rfl hl.1 rfl (lv_room (Nat.le_of_ble_eq_true rfl)) dB_litNumber_14 ⟨Nat.zero_le _, Nat.zero_le _⟩) ?_
  refine W.eq (g2 := F0 m 17 ls [.long (fd_l ((tt_num co sh) * (tt_num ti sh)) 255)]) rfl ?_
  refine lv_lstore (lv' := [(4, .long (fd_l ((tt_num co sh) * (tt_num ti sh)) 255)), (0, .int co), (1, .int ti), (2, .int li), (3, .int sh)]) hx hb dB_litNumber_17 hl (by decide) rfl (fun ls hl => ?_)
  refine lv_lload hx hb dB_litNumber_19 (lv_at hl 0 rfl) ?_
  refine lv_iload_n hx hb dB_litNumber_21 rfl (lv_at hl 3 rfl) ?_
  refine lv_i2l hx hb dB_litNumber_22 rfl ?_
  refine lv_lmul hx hb dB_litNumber_23 ?_
  refine lv_ldc2 (v := 65536) hx hb hown (hB _ wd_308) dB_litNumber_24 ?_
  refine W.callV (W.runS (As := [.long ((fd_l ((tt_num co sh) * (tt_num ti sh)) 255) * li.toInt64), .long 65536]) (rest := []) ⟨hx, hb, hml, hown, hB⟩ (kJ_floorDiv l ((fd_l ((tt_num co sh) * (tt_num ti sh)) 255) * li.toInt64) 65536 (by decide)) ⟨callB_of 2 hB gwJ_floorDiv rfl rfl rfl (hB _ wd_6) (hB _ wd_315) ydJ_floorDiv ⟨Nat.le_of_ble_eq_true rfl, Nat.le_of_ble_eq_true rfl⟩, hB _ wd_120⟩ (preEq) rfl rfl hl.1 rfl (lv_room (Nat.le_of_ble_eq_true rfl)) dB_litNumber_27 ⟨Nat.zero_le _, Nat.zero_le _⟩) ?_
  refine W.eq (g2 := F0 m 30 ls [.long (fd_l ((fd_l ((tt_num co sh) * (tt_num ti sh)) 255) * li.toInt64) 65536)]) rfl ?_
  refine lv_l2i hx hb dB_litNumber_30 rfl ?_
  exact W.iret hx hb hr (fun t ht _ => ⟨tbI (rfl), ht⟩) (fun q hq => nomatch hq) dB_litNumber_31
end
section
set_option maxHeartbeats 4000000 in
set_option maxRecDepth 100000 in
theorem kT_startOf (l : Launch) (x : Int32) : Met l yT_startOf wT_startOf (k2_rm 0 0) (fun v _ => v = ([.int x] : List Value).toArray) (k2_QcV (.int (tt_start x))) 0 0 (fun _ => False) := by
  refine Met.ofW (cc := cT_startOf) (maxL := 1) (ret := (some .int)) (by decide) rfl ?_
  intro p e s m args below meth c s₁ B hml hv
  obtain rfl := hv
  have hx := B.exec
  have hb := B.bytes
  have hr := B.returns
  have hB : ∀ w ∈ tbB, w.before _ s = true := fun w h => (atoms_spec (ws := wT_startOf) B.pre) w (List.mem_cons_of_mem _ h)
  have hown : s.vm.findClass "TextureBank$Texture" = some m.cls := findClass_of_methodNamed B.named
  have hlocks := B.notSynchronized
  have hl := lv_entry ([.int x]) (n := 1) (Nat.le_of_ble_eq_true rfl)
  rw [lg_entry_eq]
  generalize (lg_sl ([.int x]) ++ List.replicate (1 - (lg_sl ([.int x])).length) Slot.unset).toArray = ls at hl ⊢
  have hl : lv_has ls 1 [(0, .int x)] := hl
  refine lv_iload_n hx hb dT_startOf_0 rfl (lv_at hl 0 rfl) ?_
  refine lv_iload_n hx hb dT_startOf_1 rfl (lv_at hl 0 rfl) ?_
  refine lv_imul hx hb dT_startOf_2 ?_
  refine lv_iconst (v := 1) hx hb dT_startOf_3 (by decide) ?_
  refine lv_isub hx hb dT_startOf_4 ?_
  refine lv_iconst (v := 3) hx hb dT_startOf_5 (by decide) ?_
  refine lv_idiv hx hb dT_startOf_6 (by decide) ?_
  exact W.iret hx hb hr (fun t ht _ => ⟨tbI (rfl), ht⟩) (fun q hq => nomatch hq) dT_startOf_7

set_option maxHeartbeats 4000000 in
set_option maxRecDepth 100000 in
theorem kT_hasLevel (l : Launch) (D : va_G) (cI : ClassId) (t0 g0 : Nat) (sd wr sf lv : Int32) (g : Nat → Int32) (x : Int32) : Met l yT_hasLevel wT_hasLevel (k2_rm 0 0) (rd_P [.ref t0, .int x] D [(cI, .int)] [(t0, .inr (0, [.ref g0, .int sd, .int wr, .int sf, .int lv])), (g0, .inl (cI, 1365, .inl g))]) (k2_QcV (.int (tt_has lv x))) 0 0 (fun _ => False) := by
  refine Met.ofW (cc := cT_hasLevel) (maxL := 2) (ret := (some .boolean)) (by decide) rfl ?_
  intro p e s m args below meth c s₁ B hml hv
  obtain ⟨rfl, hC, hP, hK⟩ := hv
  have hx := B.exec
  have hb := B.bytes
  have hr := B.returns
  have hB : ∀ w ∈ tbB, w.before _ s = true := fun w h => (atoms_spec (ws := wT_hasLevel) B.pre) w (List.mem_cons_of_mem _ h)
  have hown : s.vm.findClass "TextureBank$Texture" = some m.cls := findClass_of_methodNamed B.named
  have hlocks := B.notSynchronized
  have hl := lv_entry ([.ref t0, .int x]) (n := 2) (Nat.le_of_ble_eq_true rfl)
  rw [lg_entry_eq]
  generalize (lg_sl ([.ref t0, .int x]) ++ List.replicate (2 - (lg_sl ([.ref t0, .int x])).length) Slot.unset).toArray = ls at hl ⊢
  have hl : lv_has ls 2 [(0, .ref t0), (1, .int x)] := hl
  refine lv_iload_n hx hb dT_hasLevel_0 rfl (lv_at hl 1 rfl) ?_
  refine lv_if_lt (tgt := 16) hx hb dT_hasLevel_1 (by decide) (fun c_1 => ?_) (fun c_1 => ?_)
  · refine lv_iconst (v := 0) hx hb dT_hasLevel_16 (by decide) ?_
    exact W.zret hx hb hr rfl (fun t ht _ => ⟨tbI (by unfold tt_has; (first | rw [if_pos c_1] | rw [if_neg c_1])), ht⟩) (fun q hq => nomatch hq) dT_hasLevel_17
  · refine lv_iload_n hx hb dT_hasLevel_4 rfl (lv_at hl 1 rfl) ?_
    refine lv_aload_n hx hb dT_hasLevel_5 rfl (lv_at hl 0 rfl) ?_
    refine va_get (D := D) (ci := 0) (v := .int lv) (C := RT) (T := FT) (N := 5) hx hb hB inT hown hK hP 0 rfl rfl 4 (by decide) (hB _ wd_34) (fun _ h9 => h9) rfl dT_hasLevel_6 ?_
    refine lv_icmp_ge (tgt := 16) hx hb dT_hasLevel_9 (by decide) (fun c_2 => ?_) (fun c_2 => ?_)
    · refine lv_iconst (v := 0) hx hb dT_hasLevel_16 (by decide) ?_
      exact W.zret hx hb hr rfl (fun t ht _ => ⟨tbI (by unfold tt_has; (first | rw [if_pos c_1] | rw [if_neg c_1]); (first | rw [if_pos c_2] | rw [if_neg c_2])), ht⟩) (fun q hq => nomatch hq) dT_hasLevel_17
    · refine lv_iconst (v := 1) hx hb dT_hasLevel_12 (by decide) ?_
      refine lv_goto (tgt := 17) hx hb dT_hasLevel_13 (by decide) ?_
      exact W.zret hx hb hr rfl (fun t ht _ => ⟨tbI (by unfold tt_has; (first | rw [if_pos c_1] | rw [if_neg c_1]); (first | rw [if_pos c_2] | rw [if_neg c_2])), ht⟩) (fun q hq => nomatch hq) dT_hasLevel_17

set_option maxHeartbeats 4000000 in
set_option maxRecDepth 100000 in
theorem kT_sideOf (l : Launch) (D : va_G) (cI : ClassId) (t0 g0 : Nat) (sd wr sf lv : Int32) (g : Nat → Int32) (x : Int32) : Met l yT_sideOf wT_sideOf (k2_rm 0 0) (rd_P [.ref t0, .int x] D [(cI, .int)] [(t0, .inr (0, [.ref g0, .int sd, .int wr, .int sf, .int lv])), (g0, .inl (cI, 1365, .inl g))]) (k2_QcV (.int (sd >>> (x &&& 31)))) 0 0 (fun _ => False) := by
  refine Met.ofW (cc := cT_sideOf) (maxL := 2) (ret := (some .int)) (by decide) rfl ?_
  intro p e s m args below meth c s₁ B hml hv
  obtain ⟨rfl, hC, hP, hK⟩ := hv
  have hx := B.exec
  have hb := B.bytes
  have hr := B.returns
  have hB : ∀ w ∈ tbB, w.before _ s = true := fun w h => (atoms_spec (ws := wT_sideOf) B.pre) w (List.mem_cons_of_mem _ h)
  have hown : s.vm.findClass "TextureBank$Texture" = some m.cls := findClass_of_methodNamed B.named
  have hlocks := B.notSynchronized
  have hl := lv_entry ([.ref t0, .int x]) (n := 2) (Nat.le_of_ble_eq_true rfl)
  rw [lg_entry_eq]
  generalize (lg_sl ([.ref t0, .int x]) ++ List.replicate (2 - (lg_sl ([.ref t0, .int x])).length) Slot.unset).toArray = ls at hl ⊢
  have hl : lv_has ls 2 [(0, .ref t0), (1, .int x)] := hl
  refine lv_aload_n hx hb dT_sideOf_0 rfl (lv_at hl 0 rfl) ?_
  refine va_get (D := D) (ci := 0) (v := .int sd) (C := RT) (T := FT) (N := 5) hx hb hB inT hown hK hP 0 rfl rfl 1 (by decide) (hB _ wd_28) (fun _ h9 => h9) rfl dT_sideOf_1 ?_
  refine lv_iload_n hx hb dT_sideOf_4 rfl (lv_at hl 1 rfl) ?_
  refine lv_ishr hx hb dT_sideOf_5 ?_
  exact W.iret hx hb hr (fun t ht _ => ⟨tbI (rfl), ht⟩) (fun q hq => nomatch hq) dT_sideOf_6

set_option maxHeartbeats 4000000 in
set_option maxRecDepth 100000 in
theorem kT_colourIn (l : Launch) (D : va_G) (cI : ClassId) (t0 g0 : Nat) (sd wr sf lv : Int32) (g : Nat → Int32) (s9 : Int32) (x : Int32) (y : Int32) : Met l yT_colourIn wT_colourIn (k2_rm 1 20) (rd_P [.ref t0, .int s9, .int x, .int y] D [(cI, .int)] [(t0, .inr (0, [.ref g0, .int sd, .int wr, .int sf, .int lv])), (g0, .inl (cI, 1365, .inl g))]) (k2_QcV (.int (tt_at g s9 x y))) 0 0 (fun _ => False) := by
  refine Met.ofW (cc := cT_colourIn) (maxL := 4) (ret := (some .int)) (by decide) rfl ?_
  intro p e s m args below meth c s₁ B hml hv
  obtain ⟨rfl, hC, hP, hK⟩ := hv
  have hx := B.exec
  have hb := B.bytes
  have hr := B.returns
  have hB : ∀ w ∈ tbB, w.before _ s = true := fun w h => (atoms_spec (ws := wT_colourIn) B.pre) w (List.mem_cons_of_mem _ h)
  have hown : s.vm.findClass "TextureBank$Texture" = some m.cls := findClass_of_methodNamed B.named
  have hlocks := B.notSynchronized
  have hl := lv_entry ([.ref t0, .int s9, .int x, .int y]) (n := 4) (Nat.le_of_ble_eq_true rfl)
  rw [lg_entry_eq]
  generalize (lg_sl ([.ref t0, .int s9, .int x, .int y]) ++ List.replicate (4 - (lg_sl ([.ref t0, .int s9, .int x, .int y])).length) Slot.unset).toArray = ls at hl ⊢
  have hl : lv_has ls 4 [(0, .ref t0), (1, .int s9), (2, .int x), (3, .int y)] := hl
  refine lv_iload_n hx hb dT_colourIn_0 rfl (lv_at hl 1 rfl) ?_
  refine lv_bipush (v := 32) hx hb dT_colourIn_1 (by decide) ?_
  refine lv_icmp_gt (tgt := 24) hx hb dT_colourIn_3 (by decide) (fun c_1 => ?_) (fun c_1 => ?_)
  · refine lv_iconst (v := (-1)) hx hb dT_colourIn_24 (by decide) ?_
    exact W.iret hx hb hr (fun t ht _ => ⟨tbI (by unfold tt_at; (first | rw [if_pos c_1] | rw [if_neg c_1])), ht⟩) (fun q hq => nomatch hq) dT_colourIn_25
  · refine lv_iload_n hx hb dT_colourIn_6 rfl (lv_at hl 2 rfl) ?_
    refine lv_if_lt (tgt := 24) hx hb dT_colourIn_7 (by decide) (fun c_2 => ?_) (fun c_2 => ?_)
    · refine lv_iconst (v := (-1)) hx hb dT_colourIn_24 (by decide) ?_
      exact W.iret hx hb hr (fun t ht _ => ⟨tbI (by unfold tt_at; (first | rw [if_pos c_1] | rw [if_neg c_1]); (first | rw [if_pos c_2] | rw [if_neg c_2])), ht⟩) (fun q hq => nomatch hq) dT_colourIn_25
    · refine lv_iload_n hx hb dT_colourIn_10 rfl (lv_at hl 2 rfl) ?_
      refine lv_iload_n hx hb dT_colourIn_11 rfl (lv_at hl 1 rfl) ?_
      refine lv_icmp_ge (tgt := 24) hx hb dT_colourIn_12 (by decide) (fun c_3 => ?_) (fun c_3 => ?_)
      · refine lv_iconst (v := (-1)) hx hb dT_colourIn_24 (by decide) ?_
        exact W.iret hx hb hr (fun t ht _ => ⟨tbI (by unfold tt_at; (first | rw [if_pos c_1] | rw [if_neg c_1]); (first | rw [if_pos c_2] | rw [if_neg c_2]); (first | rw [if_pos c_3] | rw [if_neg c_3])), ht⟩) (fun q hq => nomatch hq) dT_colourIn_25
      · refine lv_iload_n hx hb dT_colourIn_15 rfl (lv_at hl 3 rfl) ?_
        refine lv_if_lt (tgt := 24) hx hb dT_colourIn_16 (by decide) (fun c_4 => ?_) (fun c_4 => ?_)
        · refine lv_iconst (v := (-1)) hx hb dT_colourIn_24 (by decide) ?_
          exact W.iret hx hb hr (fun t ht _ => ⟨tbI (by unfold tt_at; (first | rw [if_pos c_1] | rw [if_neg c_1]); (first | rw [if_pos c_2] | rw [if_neg c_2]); (first | rw [if_pos c_3] | rw [if_neg c_3]); (first | rw [if_pos c_4] | rw [if_neg c_4])), ht⟩) (fun q hq => nomatch hq) dT_colourIn_25
        · refine lv_iload_n hx hb dT_colourIn_19 rfl (lv_at hl 3 rfl) ?_
          refine lv_iload_n hx hb dT_colourIn_20 rfl (lv_at hl 1 rfl) ?_
          refine lv_icmp_lt (tgt := 26) hx hb dT_colourIn_21 (by decide) (fun c_5 => ?_) (fun c_5 => ?_)
          · refine lv_aload_n hx hb dT_colourIn_26 rfl (lv_at hl 0 rfl) ?_
            refine va_get (D := D) (ci := 0) (v := .ref g0) (C := RT) (T := FT) (N := 5) hx hb hB inT hown hK hP 0 rfl rfl 0 (by decide) (hB _ wd_27) (fun _ h9 => h9) rfl dT_colourIn_27 ?_
            refine lv_iload_n hx hb dT_colourIn_30 rfl (lv_at hl 1 rfl) ?_
            refine W.callV (W.runS (As := [.int s9]) (rest := [.ref g0]) ⟨hx, hb, hml, hown, hB⟩ (kT_startOf l s9) ⟨callB_of 1 hB gwT_startOf rfl rfl rfl (hB _ wd_2) (hB _ wd_94) ydT_startOf ⟨Nat.le_of_ble_eq_true rfl, Nat.le_of_ble_eq_true rfl⟩, hB _ wd_95⟩ (preEq) rfl rfl hl.1 rfl (lv_room (Nat.le_of_ble_eq_true rfl)) dT_colourIn_31 ⟨Nat.zero_le _, Nat.zero_le _⟩) ?_
            refine W.eq (g2 := F0 m 34 ls [.int (tt_start s9), .ref g0]) rfl ?_
            refine lv_iload_n hx hb dT_colourIn_34 rfl (lv_at hl 3 rfl) ?_
            refine lv_iload_n hx hb dT_colourIn_35 rfl (lv_at hl 1 rfl) ?_
            refine lv_imul hx hb dT_colourIn_36 ?_
            refine lv_iadd hx hb dT_colourIn_37 ?_
            refine lv_iload_n hx hb dT_colourIn_38 rfl (lv_at hl 2 rfl) ?_
            refine lv_iadd hx hb dT_colourIn_39 ?_
            refine va_iald hx hb hK hP 1 0 (f := g) rfl rfl (i := (((tt_start s9) + (y * s9)) + x)) (tt_idx c_1 c_2 c_3 c_4 c_5) dT_colourIn_40 ?_
            exact W.iret hx hb hr (fun t ht _ => ⟨tbI (by unfold tt_at; (first | rw [if_pos c_1] | rw [if_neg c_1]); (first | rw [if_pos c_2] | rw [if_neg c_2]); (first | rw [if_pos c_3] | rw [if_neg c_3]); (first | rw [if_pos c_4] | rw [if_neg c_4]); (first | rw [if_pos c_5] | rw [if_neg c_5])), ht⟩) (fun q hq => nomatch hq) dT_colourIn_41
          · refine lv_iconst (v := (-1)) hx hb dT_colourIn_24 (by decide) ?_
            exact W.iret hx hb hr (fun t ht _ => ⟨tbI (by unfold tt_at; (first | rw [if_pos c_1] | rw [if_neg c_1]); (first | rw [if_pos c_2] | rw [if_neg c_2]); (first | rw [if_pos c_3] | rw [if_neg c_3]); (first | rw [if_pos c_4] | rw [if_neg c_4]); (first | rw [if_pos c_5] | rw [if_neg c_5])), ht⟩) (fun q hq => nomatch hq) dT_colourIn_25

set_option maxHeartbeats 4000000 in
set_option maxRecDepth 100000 in
theorem kT_meanNumber (l : Launch) (D : va_G) (c1 : Int32) (c2 : Int32) (c3 : Int32) (c4 : Int32) (sh : Int32) : Met l yT_meanNumber wT_meanNumber (k2_rm 1 25) (rd_P [.int c1, .int c2, .int c3, .int c4, .int sh] D [] []) (k2_QcV (.int (tt_mn c1 c2 c3 c4 sh))) 0 0 (fun _ => False) := by
  refine Met.ofW (cc := cT_meanNumber) (maxL := 7) (ret := (some .int)) (by decide) rfl ?_
  intro p e s m args below meth c s₁ B hml hv
  obtain ⟨rfl, hC, hP, hK⟩ := hv
  have hx := B.exec
  have hb := B.bytes
  have hr := B.returns
  have hB : ∀ w ∈ tbB, w.before _ s = true := fun w h => (atoms_spec (ws := wT_meanNumber) B.pre) w (List.mem_cons_of_mem _ h)
  have hown : s.vm.findClass "TextureBank$Texture" = some m.cls := findClass_of_methodNamed B.named
  have hlocks := B.notSynchronized
  have hl := lv_entry ([.int c1, .int c2, .int c3, .int c4, .int sh]) (n := 7) (Nat.le_of_ble_eq_true rfl)
  rw [lg_entry_eq]
  generalize (lg_sl ([.int c1, .int c2, .int c3, .int c4, .int sh]) ++ List.replicate (7 - (lg_sl ([.int c1, .int c2, .int c3, .int c4, .int sh])).length) Slot.unset).toArray = ls at hl ⊢
  have hl : lv_has ls 7 [(0, .int c1), (1, .int c2), (2, .int c3), (3, .int c4), (4, .int sh)] := hl
  refine lv_iload_n hx hb dT_meanNumber_0 rfl (lv_at hl 0 rfl) ?_
  refine lv_iload hx hb dT_meanNumber_1 (lv_at hl 4 rfl) ?_
  refine W.callV (run_of (va_runSN (As := [.int c1, .int sh]) (rest := []) ⟨hx, hb, hml, hown, hB⟩ (kB_numberOf l c1 sh) ⟨va_cnB 2 hB gwB_numberOf rfl rfl rfl (hC.2.2.2.2.2.2.1) (hB _ wd_1) ydB_numberOf ⟨Nat.le_of_ble_eq_true rfl, Nat.le_of_ble_eq_true rfl⟩, hB _ wd_116, trivial⟩ (preEq) rfl rfl hl.1 rfl (lv_room (Nat.le_of_ble_eq_true rfl)) dT_meanNumber_3 ⟨Nat.zero_le _, Nat.zero_le _⟩)) ?_
  refine W.eq (g2 := F0 m 6 ls [.long (tt_num c1 sh)]) rfl ?_
  refine lv_iload_n hx hb dT_meanNumber_6 rfl (lv_at hl 1 rfl) ?_
  refine lv_iload hx hb dT_meanNumber_7 (lv_at hl 4 rfl) ?_
  refine W.callV (run_of (va_runSN (As := [.int c2, .int sh]) (rest := [.long (tt_num c1 sh)]) ⟨hx, hb, hml, hown, hB⟩ (kB_numberOf l c2 sh) ⟨va_cnB 2 hB gwB_numberOf rfl rfl rfl (hC.2.2.2.2.2.2.1) (hB _ wd_1) ydB_numberOf ⟨Nat.le_of_ble_eq_true rfl, Nat.le_of_ble_eq_true rfl⟩, hB _ wd_116, trivial⟩ (preEq) rfl rfl hl.1 rfl (lv_room (Nat.le_of_ble_eq_true rfl)) dT_meanNumber_9 ⟨Nat.zero_le _, Nat.zero_le _⟩)) ?_
  refine W.eq (g2 := F0 m 12 ls [.long (tt_num c2 sh), .long (tt_num c1 sh)]) rfl ?_
  refine lv_ladd hx hb dT_meanNumber_12 ?_
  refine lv_iload_n hx hb dT_meanNumber_13 rfl (lv_at hl 2 rfl) ?_
  refine lv_iload hx hb dT_meanNumber_14 (lv_at hl 4 rfl) ?_
  refine W.callV (run_of (va_runSN (As := [.int c3, .int sh]) (rest := [.long ((tt_num c1 sh) + (tt_num c2 sh))]) ⟨hx, hb, hml, hown, hB⟩ (kB_numberOf l c3 sh) ⟨va_cnB 2 hB gwB_numberOf rfl rfl rfl (hC.2.2.2.2.2.2.1) (hB _ wd_1) ydB_numberOf ⟨Nat.le_of_ble_eq_true rfl, Nat.le_of_ble_eq_true rfl⟩, hB _ wd_116, trivial⟩ (preEq) rfl rfl hl.1 rfl (lv_room (Nat.le_of_ble_eq_true rfl)) dT_meanNumber_16 ⟨Nat.zero_le _, Nat.zero_le _⟩)) ?_
  refine W.eq (g2 := F0 m 19 ls [.long (tt_num c3 sh), .long ((tt_num c1 sh) + (tt_num c2 sh))]) rfl ?_
  refine lv_ladd hx hb dT_meanNumber_19 ?_
  refine lv_iload_n hx hb dT_meanNumber_20 rfl (lv_at hl 3 rfl) ?_
  refine lv_iload hx hb dT_meanNumber_21 (lv_at hl 4 rfl) ?_
  refine W.callV (run_of (va_runSN (As := [.int c4, .int sh]) (rest := [.long (((tt_num c1 sh) + (tt_num c2 sh)) + (tt_num c3 sh))]) ⟨hx, hb, hml, hown, hB⟩ (kB_numberOf l c4 sh) ⟨va_cnB 2 hB gwB_numberOf rfl rfl rfl (hC.2.2.2.2.2.2.1) (hB _ wd_1) ydB_numberOf ⟨Nat.le_of_ble_eq_true rfl, Nat.le_of_ble_eq_true rfl⟩, hB _ wd_116, trivial⟩ (preEq) rfl rfl hl.1 rfl (lv_room (Nat.le_of_ble_eq_true rfl)) dT_meanNumber_23 ⟨Nat.zero_le _, Nat.zero_le _⟩)) ?_
  refine W.eq (g2 := F0 m 26 ls [.long (tt_num c4 sh), .long (((tt_num c1 sh) + (tt_num c2 sh)) + (tt_num c3 sh))]) rfl ?_
  refine lv_ladd hx hb dT_meanNumber_26 ?_
  refine lv_lstore (lv' := [(5, .long ((((tt_num c1 sh) + (tt_num c2 sh)) + (tt_num c3 sh)) + (tt_num c4 sh))), (0, .int c1), (1, .int c2), (2, .int c3), (3, .int c4), (4, .int sh)]) hx hb dT_meanNumber_27 hl (by decide) rfl (fun ls hl => ?_)
  refine lv_lload hx hb dT_meanNumber_29 (lv_at hl 0 rfl) ?_
  refine lv_ldc2 (v := 4) hx hb hown (hB _ wd_118) dT_meanNumber_31 ?_
  refine W.callV (W.runS (As := [.long ((((tt_num c1 sh) + (tt_num c2 sh)) + (tt_num c3 sh)) + (tt_num c4 sh)), .long 4]) (rest := []) ⟨hx, hb, hml, hown, hB⟩ (kJ_floorDiv l ((((tt_num c1 sh) + (tt_num c2 sh)) + (tt_num c3 sh)) + (tt_num c4 sh)) 4 (by decide)) ⟨callB_of 2 hB gwJ_floorDiv rfl rfl rfl (hB _ wd_6) (hB _ wd_119) ydJ_floorDiv ⟨Nat.le_of_ble_eq_true rfl, Nat.le_of_ble_eq_true rfl⟩, hB _ wd_120⟩ (preEq) rfl rfl hl.1 rfl (lv_room (Nat.le_of_ble_eq_true rfl)) dT_meanNumber_34 ⟨Nat.zero_le _, Nat.zero_le _⟩) ?_
  refine W.eq (g2 := F0 m 37 ls [.long (fd_l ((((tt_num c1 sh) + (tt_num c2 sh)) + (tt_num c3 sh)) + (tt_num c4 sh)) 4)]) rfl ?_
  refine lv_l2i hx hb dT_meanNumber_37 rfl ?_
  exact W.iret hx hb hr (fun t ht _ => ⟨tbI (rfl), ht⟩) (fun q hq => nomatch hq) dT_meanNumber_38

set_option maxHeartbeats 4000000 in
set_option maxRecDepth 100000 in
theorem kT_meanOfFour (l : Launch) (D : va_G) (cI : ClassId) (t0 g0 : Nat) (sd wr sf lv : Int32) (g : Nat → Int32) (s9 : Int32) (x : Int32) (y : Int32) : Met l yT_meanOfFour wT_meanOfFour (k2_rm 2 51) (rd_P [.ref t0, .int s9, .int x, .int y] D [(cI, .int)] [(t0, .inr (0, [.ref g0, .int sd, .int wr, .int sf, .int lv])), (g0, .inl (cI, 1365, .inl g))]) (k2_QcV (.int (tt_m4 g s9 x y))) 0 0 (fun _ => False) := by
  refine Met.ofW (cc := cT_meanOfFour) (maxL := 8) (ret := (some .int)) (by decide) rfl ?_
  intro p e s m args below meth c s₁ B hml hv
  obtain ⟨rfl, hC, hP, hK⟩ := hv
  have hx := B.exec
  have hb := B.bytes
  have hr := B.returns
  have hB : ∀ w ∈ tbB, w.before _ s = true := fun w h => (atoms_spec (ws := wT_meanOfFour) B.pre) w (List.mem_cons_of_mem _ h)
  have hown : s.vm.findClass "TextureBank$Texture" = some m.cls := findClass_of_methodNamed B.named
  have hlocks := B.notSynchronized
  have hl := lv_entry ([.ref t0, .int s9, .int x, .int y]) (n := 8) (Nat.le_of_ble_eq_true rfl)
  rw [lg_entry_eq]
  generalize (lg_sl ([.ref t0, .int s9, .int x, .int y]) ++ List.replicate (8 - (lg_sl ([.ref t0, .int s9, .int x, .int y])).length) Slot.unset).toArray = ls at hl ⊢
  have hl : lv_has ls 8 [(0, .ref t0), (1, .int s9), (2, .int x), (3, .int y)] := hl
  refine lv_aload_n hx hb dT_meanOfFour_0 rfl (lv_at hl 0 rfl) ?_
  refine lv_iload_n hx hb dT_meanOfFour_1 rfl (lv_at hl 1 rfl) ?_
  refine lv_iload_n hx hb dT_meanOfFour_2 rfl (lv_at hl 2 rfl) ?_
  refine lv_iload_n hx hb dT_meanOfFour_3 rfl (lv_at hl 3 rfl) ?_
  refine W.callV (W.runV (C := "TextureBank$Texture") (As := [.int s9, .int x, .int y]) (rest := []) ⟨hx, hb, hml, hown, hB⟩ (kT_colourIn l D cI t0 g0 sd wr sf lv g s9 x y) ⟨callB_of 3 hB gwT_colourIn rfl rfl rfl (hB _ wd_2) (hB _ wd_108) ydT_colourIn ⟨Nat.le_of_ble_eq_true rfl, Nat.le_of_ble_eq_true rfl⟩, hB _ wd_110, hB _ ws_3⟩ (rd_V hC (hP.sub [0, 1] rfl) (hK.sub [0] rfl) (va_recv hK hP (ci := 0) (q0 := 0) rfl rfl)) rfl rfl hl.1 rfl (lv_room (Nat.le_of_ble_eq_true rfl)) dT_meanOfFour_4 ⟨Nat.zero_le _, Nat.zero_le _⟩) ?_
  refine W.eq (g2 := F0 m 7 ls [.int (tt_at g s9 x y)]) rfl ?_
  refine lv_topi (fun v1 ev1 => ?_)
  refine lv_istore (lv' := [(4, .int v1), (0, .ref t0), (1, .int s9), (2, .int x), (3, .int y)]) hx hb dT_meanOfFour_7 hl (by decide) rfl (fun ls hl => ?_)
  refine lv_aload_n hx hb dT_meanOfFour_9 rfl (lv_at hl 1 rfl) ?_
  refine lv_iload_n hx hb dT_meanOfFour_10 rfl (lv_at hl 2 rfl) ?_
  refine lv_iload_n hx hb dT_meanOfFour_11 rfl (lv_at hl 3 rfl) ?_
  refine lv_iconst (v := 1) hx hb dT_meanOfFour_12 (by decide) ?_
  refine lv_iadd hx hb dT_meanOfFour_13 ?_
  refine lv_iload_n hx hb dT_meanOfFour_14 rfl (lv_at hl 4 rfl) ?_
  refine W.callV (W.runV (C := "TextureBank$Texture") (As := [.int s9, .int (x + 1), .int y]) (rest := []) ⟨hx, hb, hml, hown, hB⟩ (kT_colourIn l D cI t0 g0 sd wr sf lv g s9 (x + 1) y) ⟨callB_of 3 hB gwT_colourIn rfl rfl rfl (hB _ wd_2) (hB _ wd_108) ydT_colourIn ⟨Nat.le_of_ble_eq_true rfl, Nat.le_of_ble_eq_true rfl⟩, hB _ wd_110, hB _ ws_3⟩ (rd_V hC (hP.sub [0, 1] rfl) (hK.sub [0] rfl) (va_recv hK hP (ci := 0) (q0 := 0) rfl rfl)) rfl rfl hl.1 rfl (lv_room (Nat.le_of_ble_eq_true rfl)) dT_meanOfFour_15 ⟨Nat.zero_le _, Nat.zero_le _⟩) ?_
  refine W.eq (g2 := F0 m 18 ls [.int (tt_at g s9 (x + 1) y)]) rfl ?_
  refine lv_topi (fun v2 ev2 => ?_)
  refine lv_istore (lv' := [(5, .int v2), (4, .int v1), (0, .ref t0), (1, .int s9), (2, .int x), (3, .int y)]) hx hb dT_meanOfFour_18 hl (by decide) rfl (fun ls hl => ?_)
  refine lv_aload_n hx hb dT_meanOfFour_20 rfl (lv_at hl 2 rfl) ?_
  refine lv_iload_n hx hb dT_meanOfFour_21 rfl (lv_at hl 3 rfl) ?_
  refine lv_iload_n hx hb dT_meanOfFour_22 rfl (lv_at hl 4 rfl) ?_
  refine lv_iload_n hx hb dT_meanOfFour_23 rfl (lv_at hl 5 rfl) ?_
  refine lv_iconst (v := 1) hx hb dT_meanOfFour_24 (by decide) ?_
  refine lv_iadd hx hb dT_meanOfFour_25 ?_
  refine W.callV (W.runV (C := "TextureBank$Texture") (As := [.int s9, .int x, .int (y + 1)]) (rest := []) ⟨hx, hb, hml, hown, hB⟩ (kT_colourIn l D cI t0 g0 sd wr sf lv g s9 x (y + 1)) ⟨callB_of 3 hB gwT_colourIn rfl rfl rfl (hB _ wd_2) (hB _ wd_108) ydT_colourIn ⟨Nat.le_of_ble_eq_true rfl, Nat.le_of_ble_eq_true rfl⟩, hB _ wd_110, hB _ ws_3⟩ (rd_V hC (hP.sub [0, 1] rfl) (hK.sub [0] rfl) (va_recv hK hP (ci := 0) (q0 := 0) rfl rfl)) rfl rfl hl.1 rfl (lv_room (Nat.le_of_ble_eq_true rfl)) dT_meanOfFour_26 ⟨Nat.zero_le _, Nat.zero_le _⟩) ?_
  refine W.eq (g2 := F0 m 29 ls [.int (tt_at g s9 x (y + 1))]) rfl ?_
  refine lv_topi (fun v3 ev3 => ?_)
  refine lv_istore (lv' := [(6, .int v3), (5, .int v2), (4, .int v1), (0, .ref t0), (1, .int s9), (2, .int x), (3, .int y)]) hx hb dT_meanOfFour_29 hl (by decide) rfl (fun ls hl => ?_)
  refine lv_aload_n hx hb dT_meanOfFour_31 rfl (lv_at hl 3 rfl) ?_
  refine lv_iload_n hx hb dT_meanOfFour_32 rfl (lv_at hl 4 rfl) ?_
  refine lv_iload_n hx hb dT_meanOfFour_33 rfl (lv_at hl 5 rfl) ?_
  refine lv_iconst (v := 1) hx hb dT_meanOfFour_34 (by decide) ?_
  refine lv_iadd hx hb dT_meanOfFour_35 ?_
  refine lv_iload_n hx hb dT_meanOfFour_36 rfl (lv_at hl 6 rfl) ?_
  refine lv_iconst (v := 1) hx hb dT_meanOfFour_37 (by decide) ?_
  refine lv_iadd hx hb dT_meanOfFour_38 ?_
  refine W.callV (W.runV (C := "TextureBank$Texture") (As := [.int s9, .int (x + 1), .int (y + 1)]) (rest := []) ⟨hx, hb, hml, hown, hB⟩ (kT_colourIn l D cI t0 g0 sd wr sf lv g s9 (x + 1) (y + 1)) ⟨callB_of 3 hB gwT_colourIn rfl rfl rfl (hB _ wd_2) (hB _ wd_108) ydT_colourIn ⟨Nat.le_of_ble_eq_true rfl, Nat.le_of_ble_eq_true rfl⟩, hB _ wd_110, hB _ ws_3⟩ (rd_V hC (hP.sub [0, 1] rfl) (hK.sub [0] rfl) (va_recv hK hP (ci := 0) (q0 := 0) rfl rfl)) rfl rfl hl.1 rfl (lv_room (Nat.le_of_ble_eq_true rfl)) dT_meanOfFour_39 ⟨Nat.zero_le _, Nat.zero_le _⟩) ?_
  refine W.eq (g2 := F0 m 42 ls [.int (tt_at g s9 (x + 1) (y + 1))]) rfl ?_
  refine lv_topi (fun v4 ev4 => ?_)
  refine lv_istore (lv' := [(7, .int v4), (6, .int v3), (5, .int v2), (4, .int v1), (0, .ref t0), (1, .int s9), (2, .int x), (3, .int y)]) hx hb dT_meanOfFour_42 hl (by decide) rfl (fun ls hl => ?_)
  refine lv_iload hx hb dT_meanOfFour_44 (lv_at hl 3 rfl) ?_
  refine lv_iload hx hb dT_meanOfFour_46 (lv_at hl 2 rfl) ?_
  refine lv_iload hx hb dT_meanOfFour_48 (lv_at hl 1 rfl) ?_
  refine lv_iload hx hb dT_meanOfFour_50 (lv_at hl 0 rfl) ?_
  refine lv_bipush (v := 16) hx hb dT_meanOfFour_52 (by decide) ?_
  refine W.callV (W.runS (As := [.int v1, .int v2, .int v3, .int v4, .int 16]) (rest := []) ⟨hx, hb, hml, hown, hB⟩ (kT_meanNumber l D v1 v2 v3 v4 16) ⟨callB_of 5 hB gwT_meanNumber rfl rfl rfl (hB _ wd_2) (hB _ wd_112) ydT_meanNumber ⟨Nat.le_of_ble_eq_true rfl, Nat.le_of_ble_eq_true rfl⟩, hB _ wd_113⟩ (rd_S hC tbP0 (hK.sub [] rfl)) rfl rfl hl.1 rfl (lv_room (Nat.le_of_ble_eq_true rfl)) dT_meanOfFour_54 ⟨Nat.zero_le _, Nat.zero_le _⟩) ?_
  refine W.eq (g2 := F0 m 57 ls [.int (tt_mn v1 v2 v3 v4 16)]) rfl ?_
  refine lv_iload hx hb dT_meanOfFour_57 (lv_at hl 3 rfl) ?_
  refine lv_iload hx hb dT_meanOfFour_59 (lv_at hl 2 rfl) ?_
  refine lv_iload hx hb dT_meanOfFour_61 (lv_at hl 1 rfl) ?_
  refine lv_iload hx hb dT_meanOfFour_63 (lv_at hl 0 rfl) ?_
  refine lv_bipush (v := 8) hx hb dT_meanOfFour_65 (by decide) ?_
  refine W.callV (W.runS (As := [.int v1, .int v2, .int v3, .int v4, .int 8]) (rest := [.int (tt_mn v1 v2 v3 v4 16)]) ⟨hx, hb, hml, hown, hB⟩ (kT_meanNumber l D v1 v2 v3 v4 8) ⟨callB_of 5 hB gwT_meanNumber rfl rfl rfl (hB _ wd_2) (hB _ wd_112) ydT_meanNumber ⟨Nat.le_of_ble_eq_true rfl, Nat.le_of_ble_eq_true rfl⟩, hB _ wd_113⟩ (rd_S hC tbP0 (hK.sub [] rfl)) rfl rfl hl.1 rfl (lv_room (Nat.le_of_ble_eq_true rfl)) dT_meanOfFour_67 ⟨Nat.zero_le _, Nat.zero_le _⟩) ?_
  refine W.eq (g2 := F0 m 70 ls [.int (tt_mn v1 v2 v3 v4 8), .int (tt_mn v1 v2 v3 v4 16)]) rfl ?_
  refine lv_iload hx hb dT_meanOfFour_70 (lv_at hl 3 rfl) ?_
  refine lv_iload hx hb dT_meanOfFour_72 (lv_at hl 2 rfl) ?_
  refine lv_iload hx hb dT_meanOfFour_74 (lv_at hl 1 rfl) ?_
  refine lv_iload hx hb dT_meanOfFour_76 (lv_at hl 0 rfl) ?_
  refine lv_iconst (v := 0) hx hb dT_meanOfFour_78 (by decide) ?_
  refine W.callV (W.runS (As := [.int v1, .int v2, .int v3, .int v4, .int 0]) (rest := [.int (tt_mn v1 v2 v3 v4 8), .int (tt_mn v1 v2 v3 v4 16)]) ⟨hx, hb, hml, hown, hB⟩ (kT_meanNumber l D v1 v2 v3 v4 0) ⟨callB_of 5 hB gwT_meanNumber rfl rfl rfl (hB _ wd_2) (hB _ wd_112) ydT_meanNumber ⟨Nat.le_of_ble_eq_true rfl, Nat.le_of_ble_eq_true rfl⟩, hB _ wd_113⟩ (rd_S hC tbP0 (hK.sub [] rfl)) rfl rfl hl.1 rfl (lv_room (Nat.le_of_ble_eq_true rfl)) dT_meanOfFour_79 ⟨Nat.zero_le _, Nat.zero_le _⟩) ?_
  refine W.eq (g2 := F0 m 82 ls [.int (tt_mn v1 v2 v3 v4 0), .int (tt_mn v1 v2 v3 v4 8), .int (tt_mn v1 v2 v3 v4 16)]) rfl ?_
  refine W.callV (run_of (va_runSN (As := [.int (tt_mn v1 v2 v3 v4 16), .int (tt_mn v1 v2 v3 v4 8), .int (tt_mn v1 v2 v3 v4 0)]) (rest := []) ⟨hx, hb, hml, hown, hB⟩ (kB_colourOf l (tt_mn v1 v2 v3 v4 16) (tt_mn v1 v2 v3 v4 8) (tt_mn v1 v2 v3 v4 0)) ⟨va_cnB 3 hB gwB_colourOf rfl rfl rfl (hC.2.2.2.2.2.2.2.1) (hB _ wd_1) ydB_colourOf ⟨Nat.le_of_ble_eq_true rfl, Nat.le_of_ble_eq_true rfl⟩, hB _ wd_69, trivial⟩ (preEq) rfl rfl hl.1 rfl (lv_room (Nat.le_of_ble_eq_true rfl)) dT_meanOfFour_82 ⟨Nat.zero_le _, Nat.zero_le _⟩)) ?_
  refine W.eq (g2 := F0 m 85 ls [.int (tt_col (tt_mn v1 v2 v3 v4 16) (tt_mn v1 v2 v3 v4 8) (tt_mn v1 v2 v3 v4 0))]) rfl ?_
  exact W.iret hx hb hr (fun t ht _ => ⟨tbI (by subst ev1; subst ev2; subst ev3; subst ev4; rfl), ht⟩) (fun q hq => nomatch hq) dT_meanOfFour_85

set_option maxHeartbeats 4000000 in
set_option maxRecDepth 100000 in
theorem kT_mixed (l : Launch) (D : va_G) (c1 : Int32) (c2 : Int32) (gg : Int64) (sh : Int32) : Met l yT_mixed wT_mixed (k2_rm 1 21) (rd_P [.int c1, .int c2, .long gg, .int sh] D [] []) (k2_QcV (.long (tt_mix c1 c2 gg sh))) 0 0 (fun _ => False) := by
  refine Met.ofW (cc := cT_mixed) (maxL := 5) (ret := (some .long)) (by decide) rfl ?_
  intro p e s m args below meth c s₁ B hml hv
  obtain ⟨rfl, hC, hP, hK⟩ := hv
  have hx := B.exec
  have hb := B.bytes
  have hr := B.returns
  have hB : ∀ w ∈ tbB, w.before _ s = true := fun w h => (atoms_spec (ws := wT_mixed) B.pre) w (List.mem_cons_of_mem _ h)
  have hown : s.vm.findClass "TextureBank$Texture" = some m.cls := findClass_of_methodNamed B.named
  have hlocks := B.notSynchronized
  have hl := lv_entry ([.int c1, .int c2, .long gg, .int sh]) (n := 5) (Nat.le_of_ble_eq_true rfl)
  rw [lg_entry_eq]
  generalize (lg_sl ([.int c1, .int c2, .long gg, .int sh]) ++ List.replicate (5 - (lg_sl ([.int c1, .int c2, .long gg, .int sh])).length) Slot.unset).toArray = ls at hl ⊢
  have hl : lv_has ls 5 [(0, .int c1), (1, .int c2), (2, .long gg), (4, .int sh)] := hl
  refine lv_iload_n hx hb dT_mixed_0 rfl (lv_at hl 0 rfl) ?_
  refine lv_iload hx hb dT_mixed_1 (lv_at hl 3 rfl) ?_
  refine W.callV (run_of (va_runSN (As := [.int c1, .int sh]) (rest := []) ⟨hx, hb, hml, hown, hB⟩ (kB_numberOf l c1 sh) ⟨va_cnB 2 hB gwB_numberOf rfl rfl rfl (hC.2.2.2.2.2.2.1) (hB _ wd_1) ydB_numberOf ⟨Nat.le_of_ble_eq_true rfl, Nat.le_of_ble_eq_true rfl⟩, hB _ wd_116, trivial⟩ (preEq) rfl rfl hl.1 rfl (lv_room (Nat.le_of_ble_eq_true rfl)) dT_mixed_3 ⟨Nat.zero_le _, Nat.zero_le _⟩)) ?_
  refine W.eq (g2 := F0 m 6 ls [.long (tt_num c1 sh)]) rfl ?_
  refine lv_ldc2 (v := 256) hx hb hown (hB _ wd_270) dT_mixed_6 ?_
  refine lv_lload_n hx hb dT_mixed_9 rfl (lv_at hl 2 rfl) ?_
  refine lv_lsub hx hb dT_mixed_10 ?_
  refine lv_lmul hx hb dT_mixed_11 ?_
  refine lv_iload_n hx hb dT_mixed_12 rfl (lv_at hl 1 rfl) ?_
  refine lv_iload hx hb dT_mixed_13 (lv_at hl 3 rfl) ?_
  refine W.callV (run_of (va_runSN (As := [.int c2, .int sh]) (rest := [.long ((tt_num c1 sh) * (256 - gg))]) ⟨hx, hb, hml, hown, hB⟩ (kB_numberOf l c2 sh) ⟨va_cnB 2 hB gwB_numberOf rfl rfl rfl (hC.2.2.2.2.2.2.1) (hB _ wd_1) ydB_numberOf ⟨Nat.le_of_ble_eq_true rfl, Nat.le_of_ble_eq_true rfl⟩, hB _ wd_116, trivial⟩ (preEq) rfl rfl hl.1 rfl (lv_room (Nat.le_of_ble_eq_true rfl)) dT_mixed_15 ⟨Nat.zero_le _, Nat.zero_le _⟩)) ?_
  refine W.eq (g2 := F0 m 18 ls [.long (tt_num c2 sh), .long ((tt_num c1 sh) * (256 - gg))]) rfl ?_
  refine lv_lload_n hx hb dT_mixed_18 rfl (lv_at hl 2 rfl) ?_
  refine lv_lmul hx hb dT_mixed_19 ?_
  refine lv_ladd hx hb dT_mixed_20 ?_
  exact W.lret hx hb hr (fun t ht _ => ⟨tbL (rfl), ht⟩) (fun q hq => nomatch hq) dT_mixed_21

set_option maxHeartbeats 4000000 in
set_option maxRecDepth 100000 in
theorem kT_softNumber (l : Launch) (up : Int64) (lo : Int64) (kk : Int64) : Met l yT_softNumber wT_softNumber (k2_rm 1 25) (fun v _ => v = ([.long up, .long lo, .long kk] : List Value).toArray) (k2_QcV (.int (tt_sn up lo kk))) 0 0 (fun _ => False) := by
  refine Met.ofW (cc := cT_softNumber) (maxL := 6) (ret := (some .int)) (by decide) rfl ?_
  intro p e s m args below meth c s₁ B hml hv
  obtain rfl := hv
  have hx := B.exec
  have hb := B.bytes
  have hr := B.returns
  have hB : ∀ w ∈ tbB, w.before _ s = true := fun w h => (atoms_spec (ws := wT_softNumber) B.pre) w (List.mem_cons_of_mem _ h)
  have hown : s.vm.findClass "TextureBank$Texture" = some m.cls := findClass_of_methodNamed B.named
  have hlocks := B.notSynchronized
  have hl := lv_entry ([.long up, .long lo, .long kk]) (n := 6) (Nat.le_of_ble_eq_true rfl)
  rw [lg_entry_eq]
  generalize (lg_sl ([.long up, .long lo, .long kk]) ++ List.replicate (6 - (lg_sl ([.long up, .long lo, .long kk])).length) Slot.unset).toArray = ls at hl ⊢
  have hl : lv_has ls 6 [(0, .long up), (2, .long lo), (4, .long kk)] := hl
  refine lv_lload_n hx hb dT_softNumber_0 rfl (lv_at hl 0 rfl) ?_
  refine lv_ldc2 (v := 256) hx hb hown (hB _ wd_270) dT_softNumber_1 ?_
  refine lv_lload hx hb dT_softNumber_4 (lv_at hl 2 rfl) ?_
  refine lv_lsub hx hb dT_softNumber_6 ?_
  refine lv_lmul hx hb dT_softNumber_7 ?_
  refine lv_lload_n hx hb dT_softNumber_8 rfl (lv_at hl 1 rfl) ?_
  refine lv_lload hx hb dT_softNumber_9 (lv_at hl 2 rfl) ?_
  refine lv_lmul hx hb dT_softNumber_11 ?_
  refine lv_ladd hx hb dT_softNumber_12 ?_
  refine lv_ldc2 (v := 65536) hx hb hown (hB _ wd_269) dT_softNumber_13 ?_
  refine W.callV (W.runS (As := [.long ((up * (256 - kk)) + (lo * kk)), .long 65536]) (rest := []) ⟨hx, hb, hml, hown, hB⟩ (kJ_floorDiv l ((up * (256 - kk)) + (lo * kk)) 65536 (by decide)) ⟨callB_of 2 hB gwJ_floorDiv rfl rfl rfl (hB _ wd_6) (hB _ wd_119) ydJ_floorDiv ⟨Nat.le_of_ble_eq_true rfl, Nat.le_of_ble_eq_true rfl⟩, hB _ wd_120⟩ (preEq) rfl rfl hl.1 rfl (lv_room (Nat.le_of_ble_eq_true rfl)) dT_softNumber_16 ⟨Nat.zero_le _, Nat.zero_le _⟩) ?_
  refine W.eq (g2 := F0 m 19 ls [.long (fd_l ((up * (256 - kk)) + (lo * kk)) 65536)]) rfl ?_
  refine lv_l2i hx hb dT_softNumber_19 rfl ?_
  exact W.iret hx hb hr (fun t ht _ => ⟨tbI (rfl), ht⟩) (fun q hq => nomatch hq) dT_softNumber_20

set_option maxHeartbeats 4000000 in
set_option maxRecDepth 100000 in
theorem kT_wrapped (l : Launch) (D : va_G) (cI : ClassId) (t0 g0 : Nat) (sd wr sf lv : Int32) (g : Nat → Int32) (n : Int64) (s9 : Int32) : Met l yT_wrapped wT_wrapped (k2_rm 1 34) (rd_P [.ref t0, .long n, .int s9] D [(cI, .int)] [(t0, .inr (0, [.ref g0, .int sd, .int wr, .int sf, .int lv])), (g0, .inl (cI, 1365, .inl g))]) (k2_QcV (.int (tt_wrap wr n s9))) 0 0 (fun _ => False) := by
  refine Met.ofW (cc := cT_wrapped) (maxL := 5) (ret := (some .int)) (by decide) rfl ?_
  intro p e s m args below meth c s₁ B hml hv
  obtain ⟨rfl, hC, hP, hK⟩ := hv
  have hx := B.exec
  have hb := B.bytes
  have hr := B.returns
  have hB : ∀ w ∈ tbB, w.before _ s = true := fun w h => (atoms_spec (ws := wT_wrapped) B.pre) w (List.mem_cons_of_mem _ h)
  have hown : s.vm.findClass "TextureBank$Texture" = some m.cls := findClass_of_methodNamed B.named
  have hlocks := B.notSynchronized
  have hl := lv_entry ([.ref t0, .long n, .int s9]) (n := 5) (Nat.le_of_ble_eq_true rfl)
  rw [lg_entry_eq]
  generalize (lg_sl ([.ref t0, .long n, .int s9]) ++ List.replicate (5 - (lg_sl ([.ref t0, .long n, .int s9])).length) Slot.unset).toArray = ls at hl ⊢
  have hl : lv_has ls 5 [(0, .ref t0), (1, .long n), (3, .int s9)] := hl
  refine lv_aload_n hx hb dT_wrapped_0 rfl (lv_at hl 0 rfl) ?_
  refine va_get (D := D) (ci := 0) (v := .int wr) (C := RT) (T := FT) (N := 5) hx hb hB inT hown hK hP 0 rfl rfl 2 (by decide) (hB _ wd_30) (fun _ h9 => h9) rfl dT_wrapped_1 ?_
  refine lv_if_ne (tgt := 15) hx hb dT_wrapped_4 (by decide) (fun c_1 => ?_) (fun c_1 => ?_)
  · refine lv_aload_n hx hb dT_wrapped_15 rfl (lv_at hl 0 rfl) ?_
    refine va_get (D := D) (ci := 0) (v := .int wr) (C := RT) (T := FT) (N := 5) hx hb hB inT hown hK hP 0 rfl rfl 2 (by decide) (hB _ wd_30) (fun _ h9 => h9) rfl dT_wrapped_16 ?_
    refine lv_iconst (v := 1) hx hb dT_wrapped_19 (by decide) ?_
    refine lv_icmp_ne (tgt := 37) hx hb dT_wrapped_20 (by decide) (fun c_2 => ?_) (fun c_2 => ?_)
    · refine lv_lload_n hx hb dT_wrapped_37 rfl (lv_at hl 1 rfl) ?_
      refine lv_iconst (v := 2) hx hb dT_wrapped_38 (by decide) ?_
      refine lv_iload_n hx hb dT_wrapped_39 rfl (lv_at hl 2 rfl) ?_
      refine lv_imul hx hb dT_wrapped_40 ?_
      refine lv_iconst (v := 1) hx hb dT_wrapped_41 (by decide) ?_
      refine lv_isub hx hb dT_wrapped_42 ?_
      refine lv_i2l hx hb dT_wrapped_43 rfl ?_
      refine lv_land hx hb dT_wrapped_44 ?_
      refine lv_l2i hx hb dT_wrapped_45 rfl ?_
      refine lv_istore (lv' := [(4, .int ((n &&& (((2 * s9) - 1).toInt64)).toInt32)), (0, .ref t0), (1, .long n), (3, .int s9)]) hx hb dT_wrapped_46 hl (by decide) rfl (fun ls hl => ?_)
      refine lv_iload hx hb dT_wrapped_48 (lv_at hl 0 rfl) ?_
      refine lv_iload_n hx hb dT_wrapped_50 rfl (lv_at hl 3 rfl) ?_
      refine lv_icmp_lt (tgt := 65) hx hb dT_wrapped_51 (by decide) (fun c_3 => ?_) (fun c_3 => ?_)
      · refine lv_iload hx hb dT_wrapped_65 (lv_at hl 0 rfl) ?_
        exact W.iret hx hb hr (fun t ht _ => ⟨tbI (by unfold tt_wrap; (first | rw [if_pos c_1] | rw [if_neg c_1]); (first | rw [if_pos c_2] | rw [if_neg c_2]); (first | rw [if_pos c_3] | rw [if_neg c_3])), ht⟩) (fun q hq => nomatch hq) dT_wrapped_67
      · refine lv_iconst (v := 2) hx hb dT_wrapped_54 (by decide) ?_
        refine lv_iload_n hx hb dT_wrapped_55 rfl (lv_at hl 3 rfl) ?_
        refine lv_imul hx hb dT_wrapped_56 ?_
        refine lv_iconst (v := 1) hx hb dT_wrapped_57 (by decide) ?_
        refine lv_isub hx hb dT_wrapped_58 ?_
        refine lv_iload hx hb dT_wrapped_59 (lv_at hl 0 rfl) ?_
        refine lv_isub hx hb dT_wrapped_61 ?_
        refine lv_goto (tgt := 67) hx hb dT_wrapped_62 (by decide) ?_
        exact W.iret hx hb hr (fun t ht _ => ⟨tbI (by unfold tt_wrap; (first | rw [if_pos c_1] | rw [if_neg c_1]); (first | rw [if_pos c_2] | rw [if_neg c_2]); (first | rw [if_pos c_3] | rw [if_neg c_3])), ht⟩) (fun q hq => nomatch hq) dT_wrapped_67
    · refine lv_lconst (v := 0) hx hb dT_wrapped_23 (by decide) ?_
      refine lv_lload_n hx hb dT_wrapped_24 rfl (lv_at hl 1 rfl) ?_
      refine lv_iload_n hx hb dT_wrapped_25 rfl (lv_at hl 2 rfl) ?_
      refine lv_i2l hx hb dT_wrapped_26 rfl ?_
      refine lv_lconst (v := 1) hx hb dT_wrapped_27 (by decide) ?_
      refine lv_lsub hx hb dT_wrapped_28 ?_
      refine va_mmin_long hx hb (by rw [hml]; exact hl.1.symm) hown (hB _ wd_275) (hB _ wd_276) (hB _ wd_6) (hB _ wd_277) (Nat.le_of_ble_eq_true rfl) (Nat.le_of_ble_eq_true rfl) (Nat.zero_le _) (Nat.zero_le _) dT_wrapped_29 ?_
      refine va_mmax_long hx hb (by rw [hml]; exact hl.1.symm) hown (hB _ wd_278) (hB _ wd_279) (hB _ wd_6) (hB _ wd_280) (Nat.le_of_ble_eq_true rfl) (Nat.le_of_ble_eq_true rfl) (Nat.zero_le _) (Nat.zero_le _) dT_wrapped_32 ?_
      refine lv_l2i hx hb dT_wrapped_35 rfl ?_
      exact W.iret hx hb hr (fun t ht _ => ⟨tbI (by unfold tt_wrap; (first | rw [if_pos c_1] | rw [if_neg c_1]); (first | rw [if_pos c_2] | rw [if_neg c_2])), ht⟩) (fun q hq => nomatch hq) dT_wrapped_36
  · refine lv_lload_n hx hb dT_wrapped_7 rfl (lv_at hl 1 rfl) ?_
    refine lv_iload_n hx hb dT_wrapped_8 rfl (lv_at hl 2 rfl) ?_
    refine lv_iconst (v := 1) hx hb dT_wrapped_9 (by decide) ?_
    refine lv_isub hx hb dT_wrapped_10 ?_
    refine lv_i2l hx hb dT_wrapped_11 rfl ?_
    refine lv_land hx hb dT_wrapped_12 ?_
    refine lv_l2i hx hb dT_wrapped_13 rfl ?_
    exact W.iret hx hb hr (fun t ht _ => ⟨tbI (by unfold tt_wrap; (first | rw [if_pos c_1] | rw [if_neg c_1])), ht⟩) (fun q hq => nomatch hq) dT_wrapped_14
end
section
set_option maxHeartbeats 4000000 in
set_option maxRecDepth 100000 in
theorem kT_softColour (l : Launch) (D : va_G) (cI : ClassId) (t0 g0 : Nat) (sd wr sf lv : Int32) (g : Nat → Int32) (s9 : Int32) (a : Int64) (b : Int64) : Met l yT_softColour wT_softColour (k2_rm 2 58) (rd_P [.ref t0, .int s9, .long a, .long b] D [(cI, .int)] [(t0, .inr (0, [.ref g0, .int sd, .int wr, .int sf, .int lv])), (g0, .inl (cI, 1365, .inl g))]) (k2_QcV (.int (tt_soft wr g s9 a b))) 0 0 (fun _ => False) := by
  refine Met.ofW (cc := cT_softColour) (maxL := 25) (ret := (some .int)) (by decide) rfl ?_
  intro p e s m args below meth c s₁ B hml hv
  obtain ⟨rfl, hC, hP, hK⟩ := hv
  have hx := B.exec
  have hb := B.bytes
  have hr := B.returns
  have hB : ∀ w ∈ tbB, w.before _ s = true := fun w h => (atoms_spec (ws := wT_softColour) B.pre) w (List.mem_cons_of_mem _ h)
  have hown : s.vm.findClass "TextureBank$Texture" = some m.cls := findClass_of_methodNamed B.named
  have hlocks := B.notSynchronized
  have hl := lv_entry ([.ref t0, .int s9, .long a, .long b]) (n := 25) (Nat.le_of_ble_eq_true rfl)
  rw [lg_entry_eq]
  generalize (lg_sl ([.ref t0, .int s9, .long a, .long b]) ++ List.replicate (25 - (lg_sl ([.ref t0, .int s9, .long a, .long b])).length) Slot.unset).toArray = ls at hl ⊢
  have hl : lv_has ls 25 [(0, .ref t0), (1, .int s9), (2, .long a), (4, .long b)] := hl
  refine lv_lload_n hx hb dT_softColour_0 rfl (lv_at hl 2 rfl) ?_
  refine lv_ldc2 (v := 65536) hx hb hown (hB _ wd_269) dT_softColour_1 ?_
  refine W.callV (W.runS (As := [.long a, .long 65536]) (rest := []) ⟨hx, hb, hml, hown, hB⟩ (kJ_floorDiv l a 65536 (by decide)) ⟨callB_of 2 hB gwJ_floorDiv rfl rfl rfl (hB _ wd_6) (hB _ wd_119) ydJ_floorDiv ⟨Nat.le_of_ble_eq_true rfl, Nat.le_of_ble_eq_true rfl⟩, hB _ wd_120⟩ (preEq) rfl rfl hl.1 rfl (lv_room (Nat.le_of_ble_eq_true rfl)) dT_softColour_4 ⟨Nat.zero_le _, Nat.zero_le _⟩) ?_
  refine W.eq (g2 := F0 m 7 ls [.long (fd_l a 65536)]) rfl ?_
  refine lv_topl (fun v1 ev1 => ?_)
  refine lv_lstore (lv' := [(6, .long v1), (0, .ref t0), (1, .int s9), (2, .long a), (4, .long b)]) hx hb dT_softColour_7 hl (by decide) rfl (fun ls hl => ?_)
  refine lv_lload hx hb dT_softColour_9 (lv_at hl 4 rfl) ?_
  refine lv_ldc2 (v := 65536) hx hb hown (hB _ wd_269) dT_softColour_11 ?_
  refine W.callV (W.runS (As := [.long b, .long 65536]) (rest := []) ⟨hx, hb, hml, hown, hB⟩ (kJ_floorDiv l b 65536 (by decide)) ⟨callB_of 2 hB gwJ_floorDiv rfl rfl rfl (hB _ wd_6) (hB _ wd_119) ydJ_floorDiv ⟨Nat.le_of_ble_eq_true rfl, Nat.le_of_ble_eq_true rfl⟩, hB _ wd_120⟩ (preEq) rfl rfl hl.1 rfl (lv_room (Nat.le_of_ble_eq_true rfl)) dT_softColour_14 ⟨Nat.zero_le _, Nat.zero_le _⟩) ?_
  refine W.eq (g2 := F0 m 17 ls [.long (fd_l b 65536)]) rfl ?_
  refine lv_topl (fun v2 ev2 => ?_)
  refine lv_lstore (lv' := [(8, .long v2), (6, .long v1), (0, .ref t0), (1, .int s9), (2, .long a), (4, .long b)]) hx hb dT_softColour_17 hl (by decide) rfl (fun ls hl => ?_)
  refine lv_lload_n hx hb dT_softColour_19 rfl (lv_at hl 4 rfl) ?_
  refine lv_ldc2 (v := 65536) hx hb hown (hB _ wd_269) dT_softColour_20 ?_
  refine lv_lload hx hb dT_softColour_23 (lv_at hl 1 rfl) ?_
  refine lv_lmul hx hb dT_softColour_25 ?_
  refine lv_lsub hx hb dT_softColour_26 ?_
  refine lv_ldc2 (v := 256) hx hb hown (hB _ wd_270) dT_softColour_27 ?_
  refine W.callV (W.runS (As := [.long (a - (65536 * v1)), .long 256]) (rest := []) ⟨hx, hb, hml, hown, hB⟩ (kJ_floorDiv l (a - (65536 * v1)) 256 (by decide)) ⟨callB_of 2 hB gwJ_floorDiv rfl rfl rfl (hB _ wd_6) (hB _ wd_119) ydJ_floorDiv ⟨Nat.le_of_ble_eq_true rfl, Nat.le_of_ble_eq_true rfl⟩, hB _ wd_120⟩ (preEq) rfl rfl hl.1 rfl (lv_room (Nat.le_of_ble_eq_true rfl)) dT_softColour_30 ⟨Nat.zero_le _, Nat.zero_le _⟩) ?_
  refine W.eq (g2 := F0 m 33 ls [.long (fd_l (a - (65536 * v1)) 256)]) rfl ?_
  refine lv_topl (fun v3 ev3 => ?_)
  refine lv_lstore (lv' := [(10, .long v3), (8, .long v2), (6, .long v1), (0, .ref t0), (1, .int s9), (2, .long a), (4, .long b)]) hx hb dT_softColour_33 hl (by decide) rfl (fun ls hl => ?_)
  refine lv_lload hx hb dT_softColour_35 (lv_at hl 6 rfl) ?_
  refine lv_ldc2 (v := 65536) hx hb hown (hB _ wd_269) dT_softColour_37 ?_
  refine lv_lload hx hb dT_softColour_40 (lv_at hl 1 rfl) ?_
  refine lv_lmul hx hb dT_softColour_42 ?_
  refine lv_lsub hx hb dT_softColour_43 ?_
  refine lv_ldc2 (v := 256) hx hb hown (hB _ wd_270) dT_softColour_44 ?_
  refine W.callV (W.runS (As := [.long (b - (65536 * v2)), .long 256]) (rest := []) ⟨hx, hb, hml, hown, hB⟩ (kJ_floorDiv l (b - (65536 * v2)) 256 (by decide)) ⟨callB_of 2 hB gwJ_floorDiv rfl rfl rfl (hB _ wd_6) (hB _ wd_119) ydJ_floorDiv ⟨Nat.le_of_ble_eq_true rfl, Nat.le_of_ble_eq_true rfl⟩, hB _ wd_120⟩ (preEq) rfl rfl hl.1 rfl (lv_room (Nat.le_of_ble_eq_true rfl)) dT_softColour_47 ⟨Nat.zero_le _, Nat.zero_le _⟩) ?_
  refine W.eq (g2 := F0 m 50 ls [.long (fd_l (b - (65536 * v2)) 256)]) rfl ?_
  refine lv_topl (fun v4 ev4 => ?_)
  refine lv_lstore (lv' := [(12, .long v4), (10, .long v3), (8, .long v2), (6, .long v1), (0, .ref t0), (1, .int s9), (2, .long a), (4, .long b)]) hx hb dT_softColour_50 hl (by decide) rfl (fun ls hl => ?_)
  refine lv_aload_n hx hb dT_softColour_52 rfl (lv_at hl 4 rfl) ?_
  refine lv_lload hx hb dT_softColour_53 (lv_at hl 3 rfl) ?_
  refine lv_iload_n hx hb dT_softColour_55 rfl (lv_at hl 5 rfl) ?_
  refine W.callV (W.runV (C := "TextureBank$Texture") (As := [.long v1, .int s9]) (rest := []) ⟨hx, hb, hml, hown, hB⟩ (kT_wrapped l D cI t0 g0 sd wr sf lv g v1 s9) ⟨callB_of 2 hB gwT_wrapped rfl rfl rfl (hB _ wd_2) (hB _ wd_271) ydT_wrapped ⟨Nat.le_of_ble_eq_true rfl, Nat.le_of_ble_eq_true rfl⟩, hB _ wd_273, hB _ ws_11⟩ (rd_V hC (hP.sub [0, 1] rfl) (hK.sub [0] rfl) (va_recv hK hP (ci := 0) (q0 := 0) rfl rfl)) rfl rfl hl.1 rfl (lv_room (Nat.le_of_ble_eq_true rfl)) dT_softColour_56 ⟨Nat.zero_le _, Nat.zero_le _⟩) ?_
  refine W.eq (g2 := F0 m 59 ls [.int (tt_wrap wr v1 s9)]) rfl ?_
  refine lv_topi (fun v5 ev5 => ?_)
  refine lv_istore (lv' := [(14, .int v5), (12, .long v4), (10, .long v3), (8, .long v2), (6, .long v1), (0, .ref t0), (1, .int s9), (2, .long a), (4, .long b)]) hx hb dT_softColour_59 hl (by decide) rfl (fun ls hl => ?_)
  refine lv_aload_n hx hb dT_softColour_61 rfl (lv_at hl 5 rfl) ?_
  refine lv_lload hx hb dT_softColour_62 (lv_at hl 4 rfl) ?_
  refine lv_lconst (v := 1) hx hb dT_softColour_64 (by decide) ?_
  refine lv_ladd hx hb dT_softColour_65 ?_
  refine lv_iload_n hx hb dT_softColour_66 rfl (lv_at hl 6 rfl) ?_
  refine W.callV (W.runV (C := "TextureBank$Texture") (As := [.long (v1 + 1), .int s9]) (rest := []) ⟨hx, hb, hml, hown, hB⟩ (kT_wrapped l D cI t0 g0 sd wr sf lv g (v1 + 1) s9) ⟨callB_of 2 hB gwT_wrapped rfl rfl rfl (hB _ wd_2) (hB _ wd_271) ydT_wrapped ⟨Nat.le_of_ble_eq_true rfl, Nat.le_of_ble_eq_true rfl⟩, hB _ wd_273, hB _ ws_11⟩ (rd_V hC (hP.sub [0, 1] rfl) (hK.sub [0] rfl) (va_recv hK hP (ci := 0) (q0 := 0) rfl rfl)) rfl rfl hl.1 rfl (lv_room (Nat.le_of_ble_eq_true rfl)) dT_softColour_67 ⟨Nat.zero_le _, Nat.zero_le _⟩) ?_
  refine W.eq (g2 := F0 m 70 ls [.int (tt_wrap wr (v1 + 1) s9)]) rfl ?_
  refine lv_topi (fun v6 ev6 => ?_)
  refine lv_istore (lv' := [(15, .int v6), (14, .int v5), (12, .long v4), (10, .long v3), (8, .long v2), (6, .long v1), (0, .ref t0), (1, .int s9), (2, .long a), (4, .long b)]) hx hb dT_softColour_70 hl (by decide) rfl (fun ls hl => ?_)
  refine lv_aload_n hx hb dT_softColour_72 rfl (lv_at hl 6 rfl) ?_
  refine lv_lload hx hb dT_softColour_73 (lv_at hl 4 rfl) ?_
  refine lv_iload_n hx hb dT_softColour_75 rfl (lv_at hl 7 rfl) ?_
  refine W.callV (W.runV (C := "TextureBank$Texture") (As := [.long v2, .int s9]) (rest := []) ⟨hx, hb, hml, hown, hB⟩ (kT_wrapped l D cI t0 g0 sd wr sf lv g v2 s9) ⟨callB_of 2 hB gwT_wrapped rfl rfl rfl (hB _ wd_2) (hB _ wd_271) ydT_wrapped ⟨Nat.le_of_ble_eq_true rfl, Nat.le_of_ble_eq_true rfl⟩, hB _ wd_273, hB _ ws_11⟩ (rd_V hC (hP.sub [0, 1] rfl) (hK.sub [0] rfl) (va_recv hK hP (ci := 0) (q0 := 0) rfl rfl)) rfl rfl hl.1 rfl (lv_room (Nat.le_of_ble_eq_true rfl)) dT_softColour_76 ⟨Nat.zero_le _, Nat.zero_le _⟩) ?_
  refine W.eq (g2 := F0 m 79 ls [.int (tt_wrap wr v2 s9)]) rfl ?_
  refine lv_topi (fun v7 ev7 => ?_)
  refine lv_istore (lv' := [(16, .int v7), (15, .int v6), (14, .int v5), (12, .long v4), (10, .long v3), (8, .long v2), (6, .long v1), (0, .ref t0), (1, .int s9), (2, .long a), (4, .long b)]) hx hb dT_softColour_79 hl (by decide) rfl (fun ls hl => ?_)
  refine lv_aload_n hx hb dT_softColour_81 rfl (lv_at hl 7 rfl) ?_
  refine lv_lload hx hb dT_softColour_82 (lv_at hl 5 rfl) ?_
  refine lv_lconst (v := 1) hx hb dT_softColour_84 (by decide) ?_
  refine lv_ladd hx hb dT_softColour_85 ?_
  refine lv_iload_n hx hb dT_softColour_86 rfl (lv_at hl 8 rfl) ?_
  refine W.callV (W.runV (C := "TextureBank$Texture") (As := [.long (v2 + 1), .int s9]) (rest := []) ⟨hx, hb, hml, hown, hB⟩ (kT_wrapped l D cI t0 g0 sd wr sf lv g (v2 + 1) s9) ⟨callB_of 2 hB gwT_wrapped rfl rfl rfl (hB _ wd_2) (hB _ wd_271) ydT_wrapped ⟨Nat.le_of_ble_eq_true rfl, Nat.le_of_ble_eq_true rfl⟩, hB _ wd_273, hB _ ws_11⟩ (rd_V hC (hP.sub [0, 1] rfl) (hK.sub [0] rfl) (va_recv hK hP (ci := 0) (q0 := 0) rfl rfl)) rfl rfl hl.1 rfl (lv_room (Nat.le_of_ble_eq_true rfl)) dT_softColour_87 ⟨Nat.zero_le _, Nat.zero_le _⟩) ?_
  refine W.eq (g2 := F0 m 90 ls [.int (tt_wrap wr (v2 + 1) s9)]) rfl ?_
  refine lv_topi (fun v8 ev8 => ?_)
  refine lv_istore (lv' := [(17, .int v8), (16, .int v7), (15, .int v6), (14, .int v5), (12, .long v4), (10, .long v3), (8, .long v2), (6, .long v1), (0, .ref t0), (1, .int s9), (2, .long a), (4, .long b)]) hx hb dT_softColour_90 hl (by decide) rfl (fun ls hl => ?_)
  refine lv_aload_n hx hb dT_softColour_92 rfl (lv_at hl 8 rfl) ?_
  refine lv_iload_n hx hb dT_softColour_93 rfl (lv_at hl 9 rfl) ?_
  refine lv_iload hx hb dT_softColour_94 (lv_at hl 3 rfl) ?_
  refine lv_iload hx hb dT_softColour_96 (lv_at hl 1 rfl) ?_
  refine W.callV (W.runV (C := "TextureBank$Texture") (As := [.int s9, .int v5, .int v7]) (rest := []) ⟨hx, hb, hml, hown, hB⟩ (kT_colourIn l D cI t0 g0 sd wr sf lv g s9 v5 v7) ⟨callB_of 3 hB gwT_colourIn rfl rfl rfl (hB _ wd_2) (hB _ wd_108) ydT_colourIn ⟨Nat.le_of_ble_eq_true rfl, Nat.le_of_ble_eq_true rfl⟩, hB _ wd_110, hB _ ws_3⟩ (rd_V hC (hP.sub [0, 1] rfl) (hK.sub [0] rfl) (va_recv hK hP (ci := 0) (q0 := 0) rfl rfl)) rfl rfl hl.1 rfl (lv_room (Nat.le_of_ble_eq_true rfl)) dT_softColour_98 ⟨Nat.zero_le _, Nat.zero_le _⟩) ?_
  refine W.eq (g2 := F0 m 101 ls [.int (tt_at g s9 v5 v7)]) rfl ?_
  refine lv_topi (fun v9 ev9 => ?_)
  refine lv_istore (lv' := [(18, .int v9), (17, .int v8), (16, .int v7), (15, .int v6), (14, .int v5), (12, .long v4), (10, .long v3), (8, .long v2), (6, .long v1), (0, .ref t0), (1, .int s9), (2, .long a), (4, .long b)]) hx hb dT_softColour_101 hl (by decide) rfl (fun ls hl => ?_)
  refine lv_aload_n hx hb dT_softColour_103 rfl (lv_at hl 9 rfl) ?_
  refine lv_iload_n hx hb dT_softColour_104 rfl (lv_at hl 10 rfl) ?_
  refine lv_iload hx hb dT_softColour_105 (lv_at hl 3 rfl) ?_
  refine lv_iload hx hb dT_softColour_107 (lv_at hl 2 rfl) ?_
  refine W.callV (W.runV (C := "TextureBank$Texture") (As := [.int s9, .int v6, .int v7]) (rest := []) ⟨hx, hb, hml, hown, hB⟩ (kT_colourIn l D cI t0 g0 sd wr sf lv g s9 v6 v7) ⟨callB_of 3 hB gwT_colourIn rfl rfl rfl (hB _ wd_2) (hB _ wd_108) ydT_colourIn ⟨Nat.le_of_ble_eq_true rfl, Nat.le_of_ble_eq_true rfl⟩, hB _ wd_110, hB _ ws_3⟩ (rd_V hC (hP.sub [0, 1] rfl) (hK.sub [0] rfl) (va_recv hK hP (ci := 0) (q0 := 0) rfl rfl)) rfl rfl hl.1 rfl (lv_room (Nat.le_of_ble_eq_true rfl)) dT_softColour_109 ⟨Nat.zero_le _, Nat.zero_le _⟩) ?_
  refine W.eq (g2 := F0 m 112 ls [.int (tt_at g s9 v6 v7)]) rfl ?_
  refine lv_topi (fun v10 ev10 => ?_)
  refine lv_istore (lv' := [(19, .int v10), (18, .int v9), (17, .int v8), (16, .int v7), (15, .int v6), (14, .int v5), (12, .long v4), (10, .long v3), (8, .long v2), (6, .long v1), (0, .ref t0), (1, .int s9), (2, .long a), (4, .long b)]) hx hb dT_softColour_112 hl (by decide) rfl (fun ls hl => ?_)
  refine lv_aload_n hx hb dT_softColour_114 rfl (lv_at hl 10 rfl) ?_
  refine lv_iload_n hx hb dT_softColour_115 rfl (lv_at hl 11 rfl) ?_
  refine lv_iload hx hb dT_softColour_116 (lv_at hl 5 rfl) ?_
  refine lv_iload hx hb dT_softColour_118 (lv_at hl 2 rfl) ?_
  refine W.callV (W.runV (C := "TextureBank$Texture") (As := [.int s9, .int v5, .int v8]) (rest := []) ⟨hx, hb, hml, hown, hB⟩ (kT_colourIn l D cI t0 g0 sd wr sf lv g s9 v5 v8) ⟨callB_of 3 hB gwT_colourIn rfl rfl rfl (hB _ wd_2) (hB _ wd_108) ydT_colourIn ⟨Nat.le_of_ble_eq_true rfl, Nat.le_of_ble_eq_true rfl⟩, hB _ wd_110, hB _ ws_3⟩ (rd_V hC (hP.sub [0, 1] rfl) (hK.sub [0] rfl) (va_recv hK hP (ci := 0) (q0 := 0) rfl rfl)) rfl rfl hl.1 rfl (lv_room (Nat.le_of_ble_eq_true rfl)) dT_softColour_120 ⟨Nat.zero_le _, Nat.zero_le _⟩) ?_
  refine W.eq (g2 := F0 m 123 ls [.int (tt_at g s9 v5 v8)]) rfl ?_
  refine lv_topi (fun v11 ev11 => ?_)
  refine lv_istore (lv' := [(20, .int v11), (19, .int v10), (18, .int v9), (17, .int v8), (16, .int v7), (15, .int v6), (14, .int v5), (12, .long v4), (10, .long v3), (8, .long v2), (6, .long v1), (0, .ref t0), (1, .int s9), (2, .long a), (4, .long b)]) hx hb dT_softColour_123 hl (by decide) rfl (fun ls hl => ?_)
  refine lv_aload_n hx hb dT_softColour_125 rfl (lv_at hl 11 rfl) ?_
  refine lv_iload_n hx hb dT_softColour_126 rfl (lv_at hl 12 rfl) ?_
  refine lv_iload hx hb dT_softColour_127 (lv_at hl 5 rfl) ?_
  refine lv_iload hx hb dT_softColour_129 (lv_at hl 3 rfl) ?_
  refine W.callV (W.runV (C := "TextureBank$Texture") (As := [.int s9, .int v6, .int v8]) (rest := []) ⟨hx, hb, hml, hown, hB⟩ (kT_colourIn l D cI t0 g0 sd wr sf lv g s9 v6 v8) ⟨callB_of 3 hB gwT_colourIn rfl rfl rfl (hB _ wd_2) (hB _ wd_108) ydT_colourIn ⟨Nat.le_of_ble_eq_true rfl, Nat.le_of_ble_eq_true rfl⟩, hB _ wd_110, hB _ ws_3⟩ (rd_V hC (hP.sub [0, 1] rfl) (hK.sub [0] rfl) (va_recv hK hP (ci := 0) (q0 := 0) rfl rfl)) rfl rfl hl.1 rfl (lv_room (Nat.le_of_ble_eq_true rfl)) dT_softColour_131 ⟨Nat.zero_le _, Nat.zero_le _⟩) ?_
  refine W.eq (g2 := F0 m 134 ls [.int (tt_at g s9 v6 v8)]) rfl ?_
  refine lv_topi (fun v12 ev12 => ?_)
  refine lv_istore (lv' := [(21, .int v12), (20, .int v11), (19, .int v10), (18, .int v9), (17, .int v8), (16, .int v7), (15, .int v6), (14, .int v5), (12, .long v4), (10, .long v3), (8, .long v2), (6, .long v1), (0, .ref t0), (1, .int s9), (2, .long a), (4, .long b)]) hx hb dT_softColour_134 hl (by decide) rfl (fun ls hl => ?_)
  refine lv_iload hx hb dT_softColour_136 (lv_at hl 3 rfl) ?_
  refine lv_iload hx hb dT_softColour_138 (lv_at hl 2 rfl) ?_
  refine lv_lload hx hb dT_softColour_140 (lv_at hl 9 rfl) ?_
  refine lv_bipush (v := 16) hx hb dT_softColour_142 (by decide) ?_
  refine W.callV (W.runS (As := [.int v9, .int v10, .long v3, .int 16]) (rest := []) ⟨hx, hb, hml, hown, hB⟩ (kT_mixed l D v9 v10 v3 16) ⟨callB_of 4 hB gwT_mixed rfl rfl rfl (hB _ wd_2) (hB _ wd_281) ydT_mixed ⟨Nat.le_of_ble_eq_true rfl, Nat.le_of_ble_eq_true rfl⟩, hB _ wd_282⟩ (rd_S hC tbP0 (hK.sub [] rfl)) rfl rfl hl.1 rfl (lv_room (Nat.le_of_ble_eq_true rfl)) dT_softColour_144 ⟨Nat.zero_le _, Nat.zero_le _⟩) ?_
  refine W.eq (g2 := F0 m 147 ls [.long (tt_mix v9 v10 v3 16)]) rfl ?_
  refine lv_iload hx hb dT_softColour_147 (lv_at hl 1 rfl) ?_
  refine lv_iload hx hb dT_softColour_149 (lv_at hl 0 rfl) ?_
  refine lv_lload hx hb dT_softColour_151 (lv_at hl 9 rfl) ?_
  refine lv_bipush (v := 16) hx hb dT_softColour_153 (by decide) ?_
  refine W.callV (W.runS (As := [.int v11, .int v12, .long v3, .int 16]) (rest := [.long (tt_mix v9 v10 v3 16)]) ⟨hx, hb, hml, hown, hB⟩ (kT_mixed l D v11 v12 v3 16) ⟨callB_of 4 hB gwT_mixed rfl rfl rfl (hB _ wd_2) (hB _ wd_281) ydT_mixed ⟨Nat.le_of_ble_eq_true rfl, Nat.le_of_ble_eq_true rfl⟩, hB _ wd_282⟩ (rd_S hC tbP0 (hK.sub [] rfl)) rfl rfl hl.1 rfl (lv_room (Nat.le_of_ble_eq_true rfl)) dT_softColour_155 ⟨Nat.zero_le _, Nat.zero_le _⟩) ?_
  refine W.eq (g2 := F0 m 158 ls [.long (tt_mix v11 v12 v3 16), .long (tt_mix v9 v10 v3 16)]) rfl ?_
  refine lv_lload hx hb dT_softColour_158 (lv_at hl 8 rfl) ?_
  refine W.callV (W.runS (As := [.long (tt_mix v9 v10 v3 16), .long (tt_mix v11 v12 v3 16), .long v4]) (rest := []) ⟨hx, hb, hml, hown, hB⟩ (kT_softNumber l (tt_mix v9 v10 v3 16) (tt_mix v11 v12 v3 16) v4) ⟨callB_of 3 hB gwT_softNumber rfl rfl rfl (hB _ wd_2) (hB _ wd_284) ydT_softNumber ⟨Nat.le_of_ble_eq_true rfl, Nat.le_of_ble_eq_true rfl⟩, hB _ wd_285⟩ (preEq) rfl rfl hl.1 rfl (lv_room (Nat.le_of_ble_eq_true rfl)) dT_softColour_160 ⟨Nat.zero_le _, Nat.zero_le _⟩) ?_
  refine W.eq (g2 := F0 m 163 ls [.int (tt_sn (tt_mix v9 v10 v3 16) (tt_mix v11 v12 v3 16) v4)]) rfl ?_
  refine lv_topi (fun v13 ev13 => ?_)
  refine lv_istore (lv' := [(22, .int v13), (21, .int v12), (20, .int v11), (19, .int v10), (18, .int v9), (17, .int v8), (16, .int v7), (15, .int v6), (14, .int v5), (12, .long v4), (10, .long v3), (8, .long v2), (6, .long v1), (0, .ref t0), (1, .int s9), (2, .long a), (4, .long b)]) hx hb dT_softColour_163 hl (by decide) rfl (fun ls hl => ?_)
  refine lv_iload hx hb dT_softColour_165 (lv_at hl 4 rfl) ?_
  refine lv_iload hx hb dT_softColour_167 (lv_at hl 3 rfl) ?_
  refine lv_lload hx hb dT_softColour_169 (lv_at hl 10 rfl) ?_
  refine lv_bipush (v := 8) hx hb dT_softColour_171 (by decide) ?_
  refine W.callV (W.runS (As := [.int v9, .int v10, .long v3, .int 8]) (rest := []) ⟨hx, hb, hml, hown, hB⟩ (kT_mixed l D v9 v10 v3 8) ⟨callB_of 4 hB gwT_mixed rfl rfl rfl (hB _ wd_2) (hB _ wd_281) ydT_mixed ⟨Nat.le_of_ble_eq_true rfl, Nat.le_of_ble_eq_true rfl⟩, hB _ wd_282⟩ (rd_S hC tbP0 (hK.sub [] rfl)) rfl rfl hl.1 rfl (lv_room (Nat.le_of_ble_eq_true rfl)) dT_softColour_173 ⟨Nat.zero_le _, Nat.zero_le _⟩) ?_
  refine W.eq (g2 := F0 m 176 ls [.long (tt_mix v9 v10 v3 8)]) rfl ?_
  refine lv_iload hx hb dT_softColour_176 (lv_at hl 2 rfl) ?_
  refine lv_iload hx hb dT_softColour_178 (lv_at hl 1 rfl) ?_
  refine lv_lload hx hb dT_softColour_180 (lv_at hl 10 rfl) ?_
  refine lv_bipush (v := 8) hx hb dT_softColour_182 (by decide) ?_
  refine W.callV (W.runS (As := [.int v11, .int v12, .long v3, .int 8]) (rest := [.long (tt_mix v9 v10 v3 8)]) ⟨hx, hb, hml, hown, hB⟩ (kT_mixed l D v11 v12 v3 8) ⟨callB_of 4 hB gwT_mixed rfl rfl rfl (hB _ wd_2) (hB _ wd_281) ydT_mixed ⟨Nat.le_of_ble_eq_true rfl, Nat.le_of_ble_eq_true rfl⟩, hB _ wd_282⟩ (rd_S hC tbP0 (hK.sub [] rfl)) rfl rfl hl.1 rfl (lv_room (Nat.le_of_ble_eq_true rfl)) dT_softColour_184 ⟨Nat.zero_le _, Nat.zero_le _⟩) ?_
  refine W.eq (g2 := F0 m 187 ls [.long (tt_mix v11 v12 v3 8), .long (tt_mix v9 v10 v3 8)]) rfl ?_
  refine lv_lload hx hb dT_softColour_187 (lv_at hl 9 rfl) ?_
  refine W.callV (W.runS (As := [.long (tt_mix v9 v10 v3 8), .long (tt_mix v11 v12 v3 8), .long v4]) (rest := []) ⟨hx, hb, hml, hown, hB⟩ (kT_softNumber l (tt_mix v9 v10 v3 8) (tt_mix v11 v12 v3 8) v4) ⟨callB_of 3 hB gwT_softNumber rfl rfl rfl (hB _ wd_2) (hB _ wd_284) ydT_softNumber ⟨Nat.le_of_ble_eq_true rfl, Nat.le_of_ble_eq_true rfl⟩, hB _ wd_285⟩ (preEq) rfl rfl hl.1 rfl (lv_room (Nat.le_of_ble_eq_true rfl)) dT_softColour_189 ⟨Nat.zero_le _, Nat.zero_le _⟩) ?_
  refine W.eq (g2 := F0 m 192 ls [.int (tt_sn (tt_mix v9 v10 v3 8) (tt_mix v11 v12 v3 8) v4)]) rfl ?_
  refine lv_topi (fun v14 ev14 => ?_)
  refine lv_istore (lv' := [(23, .int v14), (22, .int v13), (21, .int v12), (20, .int v11), (19, .int v10), (18, .int v9), (17, .int v8), (16, .int v7), (15, .int v6), (14, .int v5), (12, .long v4), (10, .long v3), (8, .long v2), (6, .long v1), (0, .ref t0), (1, .int s9), (2, .long a), (4, .long b)]) hx hb dT_softColour_192 hl (by decide) rfl (fun ls hl => ?_)
  refine lv_iload hx hb dT_softColour_194 (lv_at hl 5 rfl) ?_
  refine lv_iload hx hb dT_softColour_196 (lv_at hl 4 rfl) ?_
  refine lv_lload hx hb dT_softColour_198 (lv_at hl 11 rfl) ?_
  refine lv_iconst (v := 0) hx hb dT_softColour_200 (by decide) ?_
  refine W.callV (W.runS (As := [.int v9, .int v10, .long v3, .int 0]) (rest := []) ⟨hx, hb, hml, hown, hB⟩ (kT_mixed l D v9 v10 v3 0) ⟨callB_of 4 hB gwT_mixed rfl rfl rfl (hB _ wd_2) (hB _ wd_281) ydT_mixed ⟨Nat.le_of_ble_eq_true rfl, Nat.le_of_ble_eq_true rfl⟩, hB _ wd_282⟩ (rd_S hC tbP0 (hK.sub [] rfl)) rfl rfl hl.1 rfl (lv_room (Nat.le_of_ble_eq_true rfl)) dT_softColour_201 ⟨Nat.zero_le _, Nat.zero_le _⟩) ?_
  refine W.eq (g2 := F0 m 204 ls [.long (tt_mix v9 v10 v3 0)]) rfl ?_
  refine lv_iload hx hb dT_softColour_204 (lv_at hl 3 rfl) ?_
  refine lv_iload hx hb dT_softColour_206 (lv_at hl 2 rfl) ?_
  refine lv_lload hx hb dT_softColour_208 (lv_at hl 11 rfl) ?_
  refine lv_iconst (v := 0) hx hb dT_softColour_210 (by decide) ?_
  refine W.callV (W.runS (As := [.int v11, .int v12, .long v3, .int 0]) (rest := [.long (tt_mix v9 v10 v3 0)]) ⟨hx, hb, hml, hown, hB⟩ (kT_mixed l D v11 v12 v3 0) ⟨callB_of 4 hB gwT_mixed rfl rfl rfl (hB _ wd_2) (hB _ wd_281) ydT_mixed ⟨Nat.le_of_ble_eq_true rfl, Nat.le_of_ble_eq_true rfl⟩, hB _ wd_282⟩ (rd_S hC tbP0 (hK.sub [] rfl)) rfl rfl hl.1 rfl (lv_room (Nat.le_of_ble_eq_true rfl)) dT_softColour_211 ⟨Nat.zero_le _, Nat.zero_le _⟩) ?_
  refine W.eq (g2 := F0 m 214 ls [.long (tt_mix v11 v12 v3 0), .long (tt_mix v9 v10 v3 0)]) rfl ?_
  refine lv_lload hx hb dT_softColour_214 (lv_at hl 10 rfl) ?_
  refine W.callV (W.runS (As := [.long (tt_mix v9 v10 v3 0), .long (tt_mix v11 v12 v3 0), .long v4]) (rest := []) ⟨hx, hb, hml, hown, hB⟩ (kT_softNumber l (tt_mix v9 v10 v3 0) (tt_mix v11 v12 v3 0) v4) ⟨callB_of 3 hB gwT_softNumber rfl rfl rfl (hB _ wd_2) (hB _ wd_284) ydT_softNumber ⟨Nat.le_of_ble_eq_true rfl, Nat.le_of_ble_eq_true rfl⟩, hB _ wd_285⟩ (preEq) rfl rfl hl.1 rfl (lv_room (Nat.le_of_ble_eq_true rfl)) dT_softColour_216 ⟨Nat.zero_le _, Nat.zero_le _⟩) ?_
  refine W.eq (g2 := F0 m 219 ls [.int (tt_sn (tt_mix v9 v10 v3 0) (tt_mix v11 v12 v3 0) v4)]) rfl ?_
  refine lv_topi (fun v15 ev15 => ?_)
  refine lv_istore (lv' := [(24, .int v15), (23, .int v14), (22, .int v13), (21, .int v12), (20, .int v11), (19, .int v10), (18, .int v9), (17, .int v8), (16, .int v7), (15, .int v6), (14, .int v5), (12, .long v4), (10, .long v3), (8, .long v2), (6, .long v1), (0, .ref t0), (1, .int s9), (2, .long a), (4, .long b)]) hx hb dT_softColour_219 hl (by decide) rfl (fun ls hl => ?_)
  refine lv_iload hx hb dT_softColour_221 (lv_at hl 2 rfl) ?_
  refine lv_iload hx hb dT_softColour_223 (lv_at hl 1 rfl) ?_
  refine lv_iload hx hb dT_softColour_225 (lv_at hl 0 rfl) ?_
  refine W.callV (run_of (va_runSN (As := [.int v13, .int v14, .int v15]) (rest := []) ⟨hx, hb, hml, hown, hB⟩ (kB_colourOf l v13 v14 v15) ⟨va_cnB 3 hB gwB_colourOf rfl rfl rfl (hC.2.2.2.2.2.2.2.1) (hB _ wd_1) ydB_colourOf ⟨Nat.le_of_ble_eq_true rfl, Nat.le_of_ble_eq_true rfl⟩, hB _ wd_69, trivial⟩ (preEq) rfl rfl hl.1 rfl (lv_room (Nat.le_of_ble_eq_true rfl)) dT_softColour_227 ⟨Nat.zero_le _, Nat.zero_le _⟩)) ?_
  refine W.eq (g2 := F0 m 230 ls [.int (tt_col v13 v14 v15)]) rfl ?_
  exact W.iret hx hb hr (fun t ht _ => ⟨tbI (by subst ev1; subst ev2; subst ev3; subst ev4; subst ev5; subst ev6; subst ev7; subst ev8; subst ev9; subst ev10; subst ev11; subst ev12; subst ev13; subst ev14; subst ev15; rfl), ht⟩) (fun q hq => nomatch hq) dT_softColour_230

set_option maxHeartbeats 4000000 in
set_option maxRecDepth 100000 in
theorem kT_colourAt (l : Launch) (D : va_G) (cI : ClassId) (t0 g0 : Nat) (sd wr sf lv : Int32) (g : Nat → Int32) (s9 : Int32) (u : Int64) (v : Int64) : Met l yT_colourAt wT_colourAt (k2_rm 3 102) (rd_P [.ref t0, .int s9, .long u, .long v] D [(cI, .int)] [(t0, .inr (0, [.ref g0, .int sd, .int wr, .int sf, .int lv])), (g0, .inl (cI, 1365, .inl g))]) (k2_QcV (.int (tt_cat wr sf g s9 u v))) 0 0 (fun _ => False) := by
  refine Met.ofW (cc := cT_colourAt) (maxL := 10) (ret := (some .int)) (by decide) rfl ?_
  intro p e s m args below meth c s₁ B hml hv
  obtain ⟨rfl, hC, hP, hK⟩ := hv
  have hx := B.exec
  have hb := B.bytes
  have hr := B.returns
  have hB : ∀ w ∈ tbB, w.before _ s = true := fun w h => (atoms_spec (ws := wT_colourAt) B.pre) w (List.mem_cons_of_mem _ h)
  have hown : s.vm.findClass "TextureBank$Texture" = some m.cls := findClass_of_methodNamed B.named
  have hlocks := B.notSynchronized
  have hl := lv_entry ([.ref t0, .int s9, .long u, .long v]) (n := 10) (Nat.le_of_ble_eq_true rfl)
  rw [lg_entry_eq]
  generalize (lg_sl ([.ref t0, .int s9, .long u, .long v]) ++ List.replicate (10 - (lg_sl ([.ref t0, .int s9, .long u, .long v])).length) Slot.unset).toArray = ls at hl ⊢
  have hl : lv_has ls 10 [(0, .ref t0), (1, .int s9), (2, .long u), (4, .long v)] := hl
  refine lv_lload_n hx hb dT_colourAt_0 rfl (lv_at hl 2 rfl) ?_
  refine lv_iload_n hx hb dT_colourAt_1 rfl (lv_at hl 1 rfl) ?_
  refine lv_i2l hx hb dT_colourAt_2 rfl ?_
  refine lv_lmul hx hb dT_colourAt_3 ?_
  refine lv_lstore (lv' := [(6, .long (u * s9.toInt64)), (0, .ref t0), (1, .int s9), (2, .long u), (4, .long v)]) hx hb dT_colourAt_4 hl (by decide) rfl (fun ls hl => ?_)
  refine lv_lload hx hb dT_colourAt_6 (lv_at hl 4 rfl) ?_
  refine lv_iload_n hx hb dT_colourAt_8 rfl (lv_at hl 2 rfl) ?_
  refine lv_i2l hx hb dT_colourAt_9 rfl ?_
  refine lv_lmul hx hb dT_colourAt_10 ?_
  refine lv_lstore (lv' := [(8, .long (v * s9.toInt64)), (6, .long (u * s9.toInt64)), (0, .ref t0), (1, .int s9), (2, .long u), (4, .long v)]) hx hb dT_colourAt_11 hl (by decide) rfl (fun ls hl => ?_)
  refine lv_aload_n hx hb dT_colourAt_13 rfl (lv_at hl 2 rfl) ?_
  refine va_get (D := D) (ci := 0) (v := .int sf) (C := RT) (T := FT) (N := 5) hx hb hB inT hown hK hP 0 rfl rfl 3 (by decide) (hB _ wd_32) (fun _ h9 => h9) rfl dT_colourAt_14 ?_
  refine lv_iconst (v := 1) hx hb dT_colourAt_17 (by decide) ?_
  refine lv_icmp_ne (tgt := 39) hx hb dT_colourAt_18 (by decide) (fun c_1 => ?_) (fun c_1 => ?_)
  · refine lv_aload_n hx hb dT_colourAt_39 rfl (lv_at hl 2 rfl) ?_
    refine lv_iload_n hx hb dT_colourAt_40 rfl (lv_at hl 3 rfl) ?_
    refine lv_aload_n hx hb dT_colourAt_41 rfl (lv_at hl 2 rfl) ?_
    refine lv_lload hx hb dT_colourAt_42 (lv_at hl 1 rfl) ?_
    refine lv_ldc2 (v := 65536) hx hb hown (hB _ wd_269) dT_colourAt_44 ?_
    refine W.callV (W.runS (As := [.long (u * s9.toInt64), .long 65536]) (rest := [.ref t0, .int s9, .ref t0]) ⟨hx, hb, hml, hown, hB⟩ (kJ_floorDiv l (u * s9.toInt64) 65536 (by decide)) ⟨callB_of 2 hB gwJ_floorDiv rfl rfl rfl (hB _ wd_6) (hB _ wd_119) ydJ_floorDiv ⟨Nat.le_of_ble_eq_true rfl, Nat.le_of_ble_eq_true rfl⟩, hB _ wd_120⟩ (preEq) rfl rfl hl.1 rfl (lv_room (Nat.le_of_ble_eq_true rfl)) dT_colourAt_47 ⟨Nat.zero_le _, Nat.zero_le _⟩) ?_
    refine W.eq (g2 := F0 m 50 ls [.long (fd_l (u * s9.toInt64) 65536), .ref t0, .int s9, .ref t0]) rfl ?_
    refine lv_iload_n hx hb dT_colourAt_50 rfl (lv_at hl 3 rfl) ?_
    refine W.callV (W.runV (C := "TextureBank$Texture") (As := [.long (fd_l (u * s9.toInt64) 65536), .int s9]) (rest := [.int s9, .ref t0]) ⟨hx, hb, hml, hown, hB⟩ (kT_wrapped l D cI t0 g0 sd wr sf lv g (fd_l (u * s9.toInt64) 65536) s9) ⟨callB_of 2 hB gwT_wrapped rfl rfl rfl (hB _ wd_2) (hB _ wd_271) ydT_wrapped ⟨Nat.le_of_ble_eq_true rfl, Nat.le_of_ble_eq_true rfl⟩, hB _ wd_273, hB _ ws_11⟩ (rd_V hC (hP.sub [0, 1] rfl) (hK.sub [0] rfl) (va_recv hK hP (ci := 0) (q0 := 0) rfl rfl)) rfl rfl hl.1 rfl (lv_room (Nat.le_of_ble_eq_true rfl)) dT_colourAt_51 ⟨Nat.zero_le _, Nat.zero_le _⟩) ?_
    refine W.eq (g2 := F0 m 54 ls [.int (tt_wrap wr (fd_l (u * s9.toInt64) 65536) s9), .int s9, .ref t0]) rfl ?_
    refine lv_aload_n hx hb dT_colourAt_54 rfl (lv_at hl 2 rfl) ?_
    refine lv_lload hx hb dT_colourAt_55 (lv_at hl 0 rfl) ?_
    refine lv_ldc2 (v := 65536) hx hb hown (hB _ wd_269) dT_colourAt_57 ?_
    refine W.callV (W.runS (As := [.long (v * s9.toInt64), .long 65536]) (rest := [.ref t0, .int (tt_wrap wr (fd_l (u * s9.toInt64) 65536) s9), .int s9, .ref t0]) ⟨hx, hb, hml, hown, hB⟩ (kJ_floorDiv l (v * s9.toInt64) 65536 (by decide)) ⟨callB_of 2 hB gwJ_floorDiv rfl rfl rfl (hB _ wd_6) (hB _ wd_119) ydJ_floorDiv ⟨Nat.le_of_ble_eq_true rfl, Nat.le_of_ble_eq_true rfl⟩, hB _ wd_120⟩ (preEq) rfl rfl hl.1 rfl (lv_room (Nat.le_of_ble_eq_true rfl)) dT_colourAt_60 ⟨Nat.zero_le _, Nat.zero_le _⟩) ?_
    refine W.eq (g2 := F0 m 63 ls [.long (fd_l (v * s9.toInt64) 65536), .ref t0, .int (tt_wrap wr (fd_l (u * s9.toInt64) 65536) s9), .int s9, .ref t0]) rfl ?_
    refine lv_iload_n hx hb dT_colourAt_63 rfl (lv_at hl 3 rfl) ?_
    refine W.callV (W.runV (C := "TextureBank$Texture") (As := [.long (fd_l (v * s9.toInt64) 65536), .int s9]) (rest := [.int (tt_wrap wr (fd_l (u * s9.toInt64) 65536) s9), .int s9, .ref t0]) ⟨hx, hb, hml, hown, hB⟩ (kT_wrapped l D cI t0 g0 sd wr sf lv g (fd_l (v * s9.toInt64) 65536) s9) ⟨callB_of 2 hB gwT_wrapped rfl rfl rfl (hB _ wd_2) (hB _ wd_271) ydT_wrapped ⟨Nat.le_of_ble_eq_true rfl, Nat.le_of_ble_eq_true rfl⟩, hB _ wd_273, hB _ ws_11⟩ (rd_V hC (hP.sub [0, 1] rfl) (hK.sub [0] rfl) (va_recv hK hP (ci := 0) (q0 := 0) rfl rfl)) rfl rfl hl.1 rfl (lv_room (Nat.le_of_ble_eq_true rfl)) dT_colourAt_64 ⟨Nat.zero_le _, Nat.zero_le _⟩) ?_
    refine W.eq (g2 := F0 m 67 ls [.int (tt_wrap wr (fd_l (v * s9.toInt64) 65536) s9), .int (tt_wrap wr (fd_l (u * s9.toInt64) 65536) s9), .int s9, .ref t0]) rfl ?_
    refine W.callV (W.runV (C := "TextureBank$Texture") (As := [.int s9, .int (tt_wrap wr (fd_l (u * s9.toInt64) 65536) s9), .int (tt_wrap wr (fd_l (v * s9.toInt64) 65536) s9)]) (rest := []) ⟨hx, hb, hml, hown, hB⟩ (kT_colourIn l D cI t0 g0 sd wr sf lv g s9 (tt_wrap wr (fd_l (u * s9.toInt64) 65536) s9) (tt_wrap wr (fd_l (v * s9.toInt64) 65536) s9)) ⟨callB_of 3 hB gwT_colourIn rfl rfl rfl (hB _ wd_2) (hB _ wd_108) ydT_colourIn ⟨Nat.le_of_ble_eq_true rfl, Nat.le_of_ble_eq_true rfl⟩, hB _ wd_110, hB _ ws_3⟩ (rd_V hC (hP.sub [0, 1] rfl) (hK.sub [0] rfl) (va_recv hK hP (ci := 0) (q0 := 0) rfl rfl)) rfl rfl hl.1 rfl (lv_room (Nat.le_of_ble_eq_true rfl)) dT_colourAt_67 ⟨Nat.zero_le _, Nat.zero_le _⟩) ?_
    refine W.eq (g2 := F0 m 70 ls [.int (tt_at g s9 (tt_wrap wr (fd_l (u * s9.toInt64) 65536) s9) (tt_wrap wr (fd_l (v * s9.toInt64) 65536) s9))]) rfl ?_
    exact W.iret hx hb hr (fun t ht _ => ⟨tbI (by unfold tt_cat; (first | rw [if_pos c_1] | rw [if_neg c_1])), ht⟩) (fun q hq => nomatch hq) dT_colourAt_70
  · refine lv_aload_n hx hb dT_colourAt_21 rfl (lv_at hl 2 rfl) ?_
    refine lv_iload_n hx hb dT_colourAt_22 rfl (lv_at hl 3 rfl) ?_
    refine lv_lload hx hb dT_colourAt_23 (lv_at hl 1 rfl) ?_
    refine lv_ldc2 (v := 32768) hx hb hown (hB _ wd_264) dT_colourAt_25 ?_
    refine lv_lsub hx hb dT_colourAt_28 ?_
    refine lv_lload hx hb dT_colourAt_29 (lv_at hl 0 rfl) ?_
    refine lv_ldc2 (v := 32768) hx hb hown (hB _ wd_264) dT_colourAt_31 ?_
    refine lv_lsub hx hb dT_colourAt_34 ?_
    refine W.callV (W.runV (C := "TextureBank$Texture") (As := [.int s9, .long ((u * s9.toInt64) - 32768), .long ((v * s9.toInt64) - 32768)]) (rest := []) ⟨hx, hb, hml, hown, hB⟩ (kT_softColour l D cI t0 g0 sd wr sf lv g s9 ((u * s9.toInt64) - 32768) ((v * s9.toInt64) - 32768)) ⟨callB_of 3 hB gwT_softColour rfl rfl rfl (hB _ wd_2) (hB _ wd_265) ydT_softColour ⟨Nat.le_of_ble_eq_true rfl, Nat.le_of_ble_eq_true rfl⟩, hB _ wd_267, hB _ ws_10⟩ (rd_V hC (hP.sub [0, 1] rfl) (hK.sub [0] rfl) (va_recv hK hP (ci := 0) (q0 := 0) rfl rfl)) rfl rfl hl.1 rfl (lv_room (Nat.le_of_ble_eq_true rfl)) dT_colourAt_35 ⟨Nat.zero_le _, Nat.zero_le _⟩) ?_
    refine W.eq (g2 := F0 m 38 ls [.int (tt_soft wr g s9 ((u * s9.toInt64) - 32768) ((v * s9.toInt64) - 32768))]) rfl ?_
    exact W.iret hx hb hr (fun t ht _ => ⟨tbI (by unfold tt_cat; (first | rw [if_pos c_1] | rw [if_neg c_1])), ht⟩) (fun q hq => nomatch hq) dT_colourAt_38

set_option maxHeartbeats 4000000 in
set_option maxRecDepth 100000 in
theorem kT_levelFor (l : Launch) (D : va_G) (cI : ClassId) (t0 g0 : Nat) (sd wr sf : Int32) (kk : Nat) (hkk : kk ≤ 6) (g : Nat → Int32) (sp ar : Int64) : Met l yT_levelFor wT_levelFor (k2_rm 0 0) (rd_P [.ref t0, .long sp, .long ar] D [(cI, .int)] [(t0, .inr (0, [.ref g0, .int sd, .int wr, .int sf, .int (nI (kk + 1))])), (g0, .inl (cI, 1365, .inl g))]) (k2_QcV (.int (tt_lf ((sp * sd.toInt64) * sd.toInt64) (nI kk) 8 (ar * 16777216) 0))) 0 0 (fun _ => False) := by
  refine Met.ofW (cc := cT_levelFor) (maxL := 11) (ret := (some .int)) (by decide) rfl ?_
  intro p e s m args below meth c s₁ B hml hv
  obtain ⟨rfl, hC, hP, hK⟩ := hv
  have hx := B.exec
  have hb := B.bytes
  have hr := B.returns
  have hB : ∀ w ∈ tbB, w.before _ s = true := fun w h => (atoms_spec (ws := wT_levelFor) B.pre) w (List.mem_cons_of_mem _ h)
  have hown : s.vm.findClass "TextureBank$Texture" = some m.cls := findClass_of_methodNamed B.named
  have hlocks := B.notSynchronized
  have hl := lv_entry ([.ref t0, .long sp, .long ar]) (n := 11) (Nat.le_of_ble_eq_true rfl)
  rw [lg_entry_eq]
  generalize (lg_sl ([.ref t0, .long sp, .long ar]) ++ List.replicate (11 - (lg_sl ([.ref t0, .long sp, .long ar])).length) Slot.unset).toArray = ls at hl ⊢
  have hl : lv_has ls 11 [(0, .ref t0), (1, .long sp), (3, .long ar)] := hl
  have loop : ∀ tx : Int64, tx = (sp * sd.toInt64) * sd.toInt64 → ∀ (n j : Nat) (rm : Int64), j ≤ kk → kk + 1 ≤ j + n → tt_lf tx (nI kk) n rm (nI j) = tt_lf ((sp * sd.toInt64) * sd.toInt64) (nI kk) 8 (ar * 16777216) 0 → ∀ ls : Array Slot, lv_has ls 11 [(10, .int (nI j)), (9, .int (nI kk)), (7, .long rm), (5, .long tx), (0, .ref t0), (1, .long sp), (3, .long ar)] → W p l e (headSpec wT_levelFor (k2_rm 0 0)).room s m (#[.ref t0, .long sp, .long ar] : Array Value) below meth c s.heap [] 0 0 (MQ below (k2_QcV (.int (tt_lf ((sp * sd.toInt64) * sd.toInt64) (nI kk) 8 (ar * 16777216) 0))) (#[.ref t0, .long sp, .long ar] : Array Value) s 0 0 (fun _ => False)) (F0 m 33 ls []) := by
    intro tx htx n
    induction n with
    | zero => intro j rm h1 h2; exact absurd h2 (by omega)
    | succ n ih =>
      intro j rm hj hn he ls hl
      unfold tt_lf at he
      refine lv_iload hx hb dT_levelFor_33 (lv_at hl 0 rfl) ?_
      refine lv_iload hx hb dT_levelFor_35 (lv_at hl 1 rfl) ?_
      refine lv_icmp_ge (tgt := 65) hx hb dT_levelFor_37 (by decide) (fun c_1 => ?_) (fun c_1 => ?_)
      · refine lv_iload hx hb dT_levelFor_65 (lv_at hl 1 rfl) ?_
        rw [if_pos c_1] at he
        exact W.iret hx hb hr (fun t ht _ => ⟨tbI he, ht⟩) (fun q hq => nomatch hq) dT_levelFor_67
      · have hjk : j < kk := by
          rcases Nat.lt_or_ge j kk with q | q
          · exact q
          · exact absurd (nI_le q (by omega)) c_1
        refine lv_lload hx hb dT_levelFor_40 (lv_at hl 3 rfl) ?_
        refine lv_lload hx hb dT_levelFor_42 (lv_at hl 2 rfl) ?_
        refine W.lcmp hx hb dT_levelFor_44 ?_
        refine lv_if_gt (tgt := 51) hx hb dT_levelFor_45 (by decide) (fun c_2 => ?_) (fun c_2 => ?_)
        · refine lv_lload hx hb dT_levelFor_51 (lv_at hl 2 rfl) ?_
          refine lv_ldc2 (v := 4) hx hb hown (hB _ wd_118) dT_levelFor_53 ?_
          refine lv_lmul hx hb dT_levelFor_56 ?_
          refine lv_lstore (lv' := [(7, .long (rm * 4)), (10, .int (nI j)), (9, .int (nI kk)), (5, .long tx), (0, .ref t0), (1, .long sp), (3, .long ar)]) hx hb dT_levelFor_57 hl (by decide) rfl (fun ls hl => ?_)
          obtain ⟨i_3, ei_3⟩ : ∃ z9 : Int32, z9 = (nI j) + 1 := ⟨_, rfl⟩
          refine lv_iinc (v := i_3) (lv' := [(10, .int i_3), (7, .long (rm * 4)), (9, .int (nI kk)), (5, .long tx), (0, .ref t0), (1, .long sp), (3, .long ar)]) hx hb dT_levelFor_59 hl (k := 1) rfl (by rw [ei_3]; rfl) (by decide) rfl (fun ls hl => ?_)
          refine lv_goto (tgt := 33) hx hb dT_levelFor_62 (by decide) ?_
          rw [if_neg c_1, if_pos ((lg_cmp_gt _ _).mp c_2)] at he
          exact ih (j + 1) (rm * 4) (by omega) (by omega) (by rw [← nI_1]; exact he) ls (by have hl := lv_sub hl [0, 2, 1, 3, 4, 5, 6] rfl; rw [ei_3, nI_1] at hl; exact hl)
        · refine lv_iload hx hb dT_levelFor_48 (lv_at hl 0 rfl) ?_
          rw [if_neg c_1, if_neg (fun h9 => c_2 ((lg_cmp_gt _ _).mpr h9))] at he
          exact W.iret hx hb hr (fun t ht _ => ⟨tbI he, ht⟩) (fun q hq => nomatch hq) dT_levelFor_50
  refine lv_lload_n hx hb dT_levelFor_0 rfl (lv_at hl 1 rfl) ?_
  refine lv_aload_n hx hb dT_levelFor_1 rfl (lv_at hl 0 rfl) ?_
  refine va_get (D := D) (ci := 0) (v := .int sd) (C := RT) (T := FT) (N := 5) hx hb hB inT hown hK hP 0 rfl rfl 1 (by decide) (hB _ wd_28) (fun _ h9 => h9) rfl dT_levelFor_2 ?_
  refine lv_i2l hx hb dT_levelFor_5 rfl ?_
  refine lv_lmul hx hb dT_levelFor_6 ?_
  refine lv_aload_n hx hb dT_levelFor_7 rfl (lv_at hl 0 rfl) ?_
  refine va_get (D := D) (ci := 0) (v := .int sd) (C := RT) (T := FT) (N := 5) hx hb hB inT hown hK hP 0 rfl rfl 1 (by decide) (hB _ wd_28) (fun _ h9 => h9) rfl dT_levelFor_8 ?_
  refine lv_i2l hx hb dT_levelFor_11 rfl ?_
  refine lv_lmul hx hb dT_levelFor_12 ?_
  refine lv_topl (fun tx etx => ?_)
  refine lv_lstore (lv' := [(5, .long tx), (0, .ref t0), (1, .long sp), (3, .long ar)]) hx hb dT_levelFor_13 hl (by decide) rfl (fun ls hl => ?_)
  refine lv_lload_n hx hb dT_levelFor_15 rfl (lv_at hl 3 rfl) ?_
  refine lv_ldc2 (v := 16777216) hx hb hown (hB _ wd_238) dT_levelFor_16 ?_
  refine lv_lmul hx hb dT_levelFor_19 ?_
  refine lv_lstore (lv' := [(7, .long (ar * 16777216)), (5, .long tx), (0, .ref t0), (1, .long sp), (3, .long ar)]) hx hb dT_levelFor_20 hl (by decide) rfl (fun ls hl => ?_)
  refine lv_aload_n hx hb dT_levelFor_22 rfl (lv_at hl 2 rfl) ?_
  refine va_get (D := D) (ci := 0) (v := .int (nI (kk + 1))) (C := RT) (T := FT) (N := 5) hx hb hB inT hown hK hP 0 rfl rfl 4 (by decide) (hB _ wd_34) (fun _ h9 => h9) rfl dT_levelFor_23 ?_
  refine lv_iconst (v := 1) hx hb dT_levelFor_26 (by decide) ?_
  refine lv_isub hx hb dT_levelFor_27 ?_
  refine W.eq (g2 := F0 m 28 ls [.int (nI kk)]) (by rw [show (nI (kk + 1) - 1 : Int32) = nI kk from nI_pred kk]) ?_
  refine lv_istore (lv' := [(9, .int (nI kk)), (7, .long (ar * 16777216)), (5, .long tx), (0, .ref t0), (1, .long sp), (3, .long ar)]) hx hb dT_levelFor_28 hl (by decide) rfl (fun ls hl => ?_)
  refine lv_iconst (v := 0) hx hb dT_levelFor_30 (by decide) ?_
  refine lv_istore (lv' := [(10, .int 0), (9, .int (nI kk)), (7, .long (ar * 16777216)), (5, .long tx), (0, .ref t0), (1, .long sp), (3, .long ar)]) hx hb dT_levelFor_31 hl (by decide) rfl (fun ls hl => ?_)
  exact loop tx etx 8 0 _ (Nat.zero_le _) (by omega) (by rw [etx]; rfl) ls (lv_sub hl [0, 1, 2, 3, 4, 5, 6] rfl)
end
section
set_option maxHeartbeats 4000000 in
set_option maxRecDepth 100000 in
theorem kT_fillFromDouble (l : Launch) (D : va_G) (sz : Nat) (cI : ClassId) (t0 g0 : Nat) (sd wr sf lv : Int32) (g : Nat → Int32) (k : Nat) (hk : k ≤ 4) : Met l yT_fillFromDouble wT_fillFromDouble (k2_rm 3 78) (wr_P [.ref t0, .int (nI (2 ^ k))] sz D [(cI, .int)] [(t0, .inr (0, [.ref g0, .int sd, .int wr, .int sf, .int lv])), (g0, .inl (cI, 1365, .inl (g)))]) (wr_Qv D (va_A [(t0, .inr (0, [.ref g0, .int sd, .int wr, .int sf, .int lv])), (g0, .inl (cI, 1365, .inl (g)))] sz) [(t0, .inr (0, [.ref g0, .int sd, .int wr, .int sf, .int lv])), (g0, .inl (cI, 1365, .inl (tt_ffp g k (4 ^ k))))]) 0 0 (va_A [(t0, .inr (0, [.ref g0, .int sd, .int wr, .int sf, .int lv])), (g0, .inl (cI, 1365, .inl (g)))] sz) := by
  refine Met.ofW (cc := cT_fillFromDouble) (maxL := 5) (ret := none) (by decide) rfl ?_
  intro p e s m args below meth c s₁ B hml hv
  obtain ⟨rfl, hsz, hC, hP, hK, hD0⟩ := hv
  have hx := B.exec
  have hb := B.bytes
  have hr := B.returns
  have hB : ∀ w ∈ tbB, w.before _ s = true := fun w h => (atoms_spec (ws := wT_fillFromDouble) B.pre) w (List.mem_cons_of_mem _ h)
  have hown : s.vm.findClass "TextureBank$Texture" = some m.cls := findClass_of_methodNamed B.named
  have hlocks := B.notSynchronized
  subst hsz
  have hD := hD0.self (sz := s.heap.size)
  generalize hAe : va_A [(t0, .inr (0, [.ref g0, .int sd, .int wr, .int sf, .int lv])), (g0, .inl (cI, 1365, .inl (g)))] s.heap.size = A at hD ⊢
  have hA : ∀ q : Nat, s.heap.size ≤ q → A q := fun q h => by rw [← hAe]; exact Or.inr h
  have hS : va_S A s.heap s.heap [] := va_S.rf
  have hl := lv_entry ([.ref t0, .int (nI (2 ^ k))]) (n := 5) (Nat.le_of_ble_eq_true rfl)
  rw [lg_entry_eq]
  generalize (lg_sl ([.ref t0, .int (nI (2 ^ k))]) ++ List.replicate (5 - (lg_sl ([.ref t0, .int (nI (2 ^ k))])).length) Slot.unset).toArray = ls at hl ⊢
  have hl : lv_has ls 5 [(0, .ref t0), (1, .int (nI (2 ^ k)))] := hl
  obtain ⟨hp1, hp2, hp3, hp4, hp5⟩ := tt_pw k (by omega)
  have loop : ∀ (ny y : Nat) (H : Heap) (locs : List Loc), y ≤ 2 ^ k → 2 ^ k + 1 ≤ y + ny → va_P D tbCl [(t0, .inr (0, [.ref g0, .int sd, .int wr, .int sf, .int lv])), (g0, .inl (cI, 1365, .inl (tt_ffp g k (y * 2 ^ k))))] H → va_D A [(t0, .inr (0, [.ref g0, .int sd, .int wr, .int sf, .int lv])), (g0, .inl (cI, 1365, .inl (tt_ffp g k (y * 2 ^ k))))] → va_S A s.heap H locs → ∀ ls : Array Slot, lv_has ls 5 [(3, .int (nI y)), (2, .int (nI (st4 k))), (0, .ref t0), (1, .int (nI (2 ^ k)))] → W p l e (headSpec wT_fillFromDouble (k2_rm 3 78)).room s m (#[.ref t0, .int (nI (2 ^ k))] : Array Value) below meth c H locs 0 0 (MQ below (wr_Qv D A [(t0, .inr (0, [.ref g0, .int sd, .int wr, .int sf, .int lv])), (g0, .inl (cI, 1365, .inl (tt_ffp g k (4 ^ k))))]) (#[.ref t0, .int (nI (2 ^ k))] : Array Value) s 0 0 A) (F0 m 7 ls []) := by
    intro ny
    induction ny with
    | zero => intro y H locs h1 h2; exact absurd h2 (by omega)
    | succ ny ihy =>
      intro y H locs hyy hny hP hD hS ls hl
      refine lv_iload_n hx hb dT_fillFromDouble_7 rfl (lv_at hl 0 rfl) ?_
      refine lv_iload_n hx hb dT_fillFromDouble_8 rfl (lv_at hl 3 rfl) ?_
      refine lv_icmp_ge (tgt := 60) hx hb dT_fillFromDouble_9 (by decide) (fun c_1 => ?_) (fun c_1 => ?_)
      · have hye : y = 2 ^ k := by
          rcases Nat.lt_or_ge y (2 ^ k) with q | q
          · exact absurd c_1 (nI_ge q (by omega))
          · omega
        rw [show y * 2 ^ k = 4 ^ k by rw [hye, hp4]] at hP
        exact W.vret hx hb hr (fun t ht hW => ⟨⟨(), rfl, trivial, (by have h9 := hP; rw [← ht] at h9; exact h9)⟩, hS.F ht⟩) hS.2.2 dT_fillFromDouble_60
      · have hyl : y < 2 ^ k := by
          rcases Nat.lt_or_ge y (2 ^ k) with q | q
          · exact q
          · exact absurd (nI_le q (by omega)) c_1
        have inner : ∀ (nx x : Nat) (H : Heap) (locs : List Loc), x ≤ 2 ^ k → 2 ^ k + 1 ≤ x + nx → va_P D tbCl [(t0, .inr (0, [.ref g0, .int sd, .int wr, .int sf, .int lv])), (g0, .inl (cI, 1365, .inl (tt_ffp g k (y * 2 ^ k + x))))] H → va_D A [(t0, .inr (0, [.ref g0, .int sd, .int wr, .int sf, .int lv])), (g0, .inl (cI, 1365, .inl (tt_ffp g k (y * 2 ^ k + x))))] → va_S A s.heap H locs → ∀ ls : Array Slot, lv_has ls 5 [(4, .int (nI x)), (3, .int (nI y)), (2, .int (nI (st4 k))), (0, .ref t0), (1, .int (nI (2 ^ k)))] → W p l e (headSpec wT_fillFromDouble (k2_rm 3 78)).room s m (#[.ref t0, .int (nI (2 ^ k))] : Array Value) below meth c H locs 0 0 (MQ below (wr_Qv D A [(t0, .inr (0, [.ref g0, .int sd, .int wr, .int sf, .int lv])), (g0, .inl (cI, 1365, .inl (tt_ffp g k (4 ^ k))))]) (#[.ref t0, .int (nI (2 ^ k))] : Array Value) s 0 0 A) (F0 m 15 ls []) := by
          intro nx
          induction nx with
          | zero => intro x H locs h1 h2; exact absurd h2 (by omega)
          | succ nx ihx =>
            intro x H locs hxx hnx hP hD hS ls hl
            refine lv_iload hx hb dT_fillFromDouble_15 (lv_at hl 0 rfl) ?_
            refine lv_iload_n hx hb dT_fillFromDouble_17 rfl (lv_at hl 4 rfl) ?_
            refine lv_icmp_ge (tgt := 54) hx hb dT_fillFromDouble_18 (by decide) (fun c_1 => ?_) (fun c_1 => ?_)
            · obtain ⟨i_2, ei_2⟩ : ∃ z9 : Int32, z9 = (nI y) + 1 := ⟨_, rfl⟩
              refine lv_iinc (v := i_2) (lv' := [(3, .int i_2), (4, .int (nI x)), (2, .int (nI (st4 k))), (0, .ref t0), (1, .int (nI (2 ^ k)))]) hx hb dT_fillFromDouble_54 hl (k := 1) rfl (by rw [ei_2]; rfl) (by decide) rfl (fun ls hl => ?_)
              refine lv_goto (tgt := 7) hx hb dT_fillFromDouble_57 (by decide) ?_
              have hxe : x = 2 ^ k := by
                rcases Nat.lt_or_ge x (2 ^ k) with q | q
                · exact absurd c_1 (nI_ge q (by omega))
                · omega
              have e9 : y * 2 ^ k + x = (y + 1) * 2 ^ k := by rw [hxe, Nat.succ_mul]
              rw [e9] at hP hD
              exact ihy (y + 1) H locs (by omega) (by omega) hP hD hS ls (by have hl := lv_sub hl [0, 2, 3, 4] rfl; rw [ei_2, nI_1] at hl; exact hl)
            · have hxlt : x < 2 ^ k := by
                rcases Nat.lt_or_ge x (2 ^ k) with q | q
                · exact q
                · exact absurd (nI_le q (by omega)) c_1
              refine lv_aload_n hx hb dT_fillFromDouble_21 rfl (lv_at hl 3 rfl) ?_
              refine va_get (D := D) (ci := 0) (v := .ref g0) (C := RT) (T := FT) (N := 5) hx hb hB inT hown hK hP 0 rfl rfl 0 (by decide) (hB _ wd_27) (fun _ h9 => h9) rfl dT_fillFromDouble_22 ?_
              refine lv_iload_n hx hb dT_fillFromDouble_25 rfl (lv_at hl 2 rfl) ?_
              refine lv_iload_n hx hb dT_fillFromDouble_26 rfl (lv_at hl 1 rfl) ?_
              refine lv_iload_n hx hb dT_fillFromDouble_27 rfl (lv_at hl 4 rfl) ?_
              refine lv_imul hx hb dT_fillFromDouble_28 ?_
              refine lv_iadd hx hb dT_fillFromDouble_29 ?_
              refine lv_iload hx hb dT_fillFromDouble_30 (lv_at hl 0 rfl) ?_
              refine lv_iadd hx hb dT_fillFromDouble_32 ?_
              refine lv_aload_n hx hb dT_fillFromDouble_33 rfl (lv_at hl 3 rfl) ?_
              refine lv_iconst (v := 2) hx hb dT_fillFromDouble_34 (by decide) ?_
              refine lv_iload_n hx hb dT_fillFromDouble_35 rfl (lv_at hl 4 rfl) ?_
              refine lv_imul hx hb dT_fillFromDouble_36 ?_
              refine lv_iconst (v := 2) hx hb dT_fillFromDouble_37 (by decide) ?_
              refine lv_iload hx hb dT_fillFromDouble_38 (lv_at hl 0 rfl) ?_
              refine lv_imul hx hb dT_fillFromDouble_40 ?_
              refine lv_iconst (v := 2) hx hb dT_fillFromDouble_41 (by decide) ?_
              refine lv_iload_n hx hb dT_fillFromDouble_42 rfl (lv_at hl 1 rfl) ?_
              refine lv_imul hx hb dT_fillFromDouble_43 ?_
              refine W.callV (W.runV (C := "TextureBank$Texture") (As := [.int (2 * (nI (2 ^ k))), .int (2 * (nI x)), .int (2 * (nI y))]) (rest := [.int (((nI (st4 k)) + ((nI y) * (nI (2 ^ k)))) + (nI x)), .ref g0]) ⟨hx, hb, hml, hown, hB⟩ (kT_meanOfFour l D cI t0 g0 sd wr sf lv (tt_ffp g k (y * 2 ^ k + x)) (2 * (nI (2 ^ k))) (2 * (nI x)) (2 * (nI y))) ⟨callB_of 3 hB gwT_meanOfFour rfl rfl rfl (hB _ wd_2) (hB _ wd_104) ydT_meanOfFour ⟨Nat.le_of_ble_eq_true rfl, Nat.le_of_ble_eq_true rfl⟩, hB _ wd_106, hB _ ws_2⟩ (rd_V hC (hP.sub [0, 1] rfl) (hK.sub [0] rfl) (va_recv hK hP (ci := 0) (q0 := 0) rfl rfl)) rfl rfl hl.1 rfl (lv_room (Nat.le_of_ble_eq_true rfl)) dT_fillFromDouble_44 ⟨Nat.zero_le _, Nat.zero_le _⟩) ?_
              refine W.eq (g2 := F0 m 47 ls [.int (tt_m4 (tt_ffp g k (y * 2 ^ k + x)) (2 * (nI (2 ^ k))) (2 * (nI x)) (2 * (nI y))), .int (((nI (st4 k)) + ((nI y) * (nI (2 ^ k)))) + (nI x)), .ref g0]) rfl ?_
              refine lv_topi (fun vv evv => ?_)
              rw [tt_ffs g hk hxlt hyl] at evv
              refine va_iast hx hb hK hP hD hS 1 0 rfl rfl (by rw [(tt_ffi hk hxlt hyl).1]; exact vp_in_nI (tt_ffi hk hxlt hyl).2 (by omega)) dT_fillFromDouble_47 (fun H locs hP hD hS => ?_)
              have hP : va_P D tbCl [(t0, .inr (0, [.ref g0, .int sd, .int wr, .int sf, .int lv])), (g0, .inl (cI, 1365, .inl (tt_ffp g k (y * 2 ^ k + x + 1))))] H := by
                have hP9 := hP
                rw [(tt_ffi hk hxlt hyl).1, nI_clamp (by have := (tt_ffi hk hxlt hyl).2; omega), evv] at hP9
                have hP9 : va_P D tbCl [(t0, .inr (0, [.ref g0, .int sd, .int wr, .int sf, .int lv])), (g0, .inl (cI, 1365, .inl (upd (tt_ffp g k (y * 2 ^ k + x)) (st4 k + (y * 2 ^ k + x)) (tt_ffv g k (y * 2 ^ k + x)))))] H := hP9
                rw [tt_ffp1] at hP9
                exact hP9
              have hD : va_D A [(t0, .inr (0, [.ref g0, .int sd, .int wr, .int sf, .int lv])), (g0, .inl (cI, 1365, .inl (tt_ffp g k (y * 2 ^ k + x + 1))))] := wd_D hD rfl
              obtain ⟨i_3, ei_3⟩ : ∃ z9 : Int32, z9 = (nI x) + 1 := ⟨_, rfl⟩
              refine lv_iinc (v := i_3) (lv' := [(4, .int i_3), (3, .int (nI y)), (2, .int (nI (st4 k))), (0, .ref t0), (1, .int (nI (2 ^ k)))]) hx hb dT_fillFromDouble_48 hl (k := 0) rfl (by rw [ei_3]; rfl) (by decide) rfl (fun ls hl => ?_)
              refine lv_goto (tgt := 15) hx hb dT_fillFromDouble_51 (by decide) ?_
              have e9 : y * 2 ^ k + x + 1 = y * 2 ^ k + (x + 1) := by omega
              rw [e9] at hP hD
              exact ihx (x + 1) H locs (by omega) (by omega) hP hD hS ls (by have hl := lv_sub hl [0, 1, 2, 3, 4] rfl; rw [ei_3, nI_1] at hl; exact hl)
        refine lv_iconst (v := 0) hx hb dT_fillFromDouble_12 (by decide) ?_
        refine lv_istore (lv' := [(4, .int 0), (3, .int (nI y)), (2, .int (nI (st4 k))), (0, .ref t0), (1, .int (nI (2 ^ k)))]) hx hb dT_fillFromDouble_13 hl (by decide) rfl (fun ls hl => ?_)
        exact inner (2 ^ k + 1) 0 H locs (Nat.zero_le _) (by omega) hP hD hS ls (lv_sub hl [0, 1, 2, 3, 4] rfl)
  refine lv_iload_n hx hb dT_fillFromDouble_0 rfl (lv_at hl 1 rfl) ?_
  refine W.callV (W.runS (As := [.int (nI (2 ^ k))]) (rest := []) ⟨hx, hb, hml, hown, hB⟩ (kT_startOf l (nI (2 ^ k))) ⟨callB_of 1 hB gwT_startOf rfl rfl rfl (hB _ wd_2) (hB _ wd_94) ydT_startOf ⟨Nat.le_of_ble_eq_true rfl, Nat.le_of_ble_eq_true rfl⟩, hB _ wd_95⟩ (preEq) rfl rfl hl.1 rfl (lv_room (Nat.le_of_ble_eq_true rfl)) dT_fillFromDouble_1 ⟨Nat.zero_le _, Nat.zero_le _⟩) ?_
  refine W.eq (g2 := F0 m 4 ls [.int (tt_start (nI (2 ^ k)))]) rfl ?_
  refine lv_istore_n (lv' := [(2, .int (tt_start (nI (2 ^ k)))), (0, .ref t0), (1, .int (nI (2 ^ k)))]) hx hb dT_fillFromDouble_4 rfl hl (by decide) rfl (fun ls hl => ?_)
  refine lv_iconst (v := 0) hx hb dT_fillFromDouble_5 (by decide) ?_
  refine lv_istore_n (lv' := [(3, .int 0), (2, .int (tt_start (nI (2 ^ k)))), (0, .ref t0), (1, .int (nI (2 ^ k)))]) hx hb dT_fillFromDouble_6 rfl hl (by decide) rfl (fun ls hl => ?_)
  have e0 : tt_ffp g k (0 * 2 ^ k) = g := by rw [Nat.zero_mul]; exact tt_ffp0 g k
  exact loop (2 ^ k + 1) 0 s.heap [] (Nat.zero_le _) (by omega) (by rw [e0]; exact hP) (by rw [e0]; exact hD) hS ls (by have hl := lv_sub hl [0, 1, 2, 3] rfl; rw [tt_start4 (by omega)] at hl; exact hl)
end
section
set_option maxHeartbeats 4000000 in
set_option maxRecDepth 100000 in
theorem kT_fill (l : Launch) (D : va_G) (sz : Nat) (cI : ClassId) (t0 g0 x0 : Nat) (sd wr sf lv : Int32) (g f : Nat → Int32) (nw ns : Int32) (k : Nat) (hk : k ≤ 5) : Met l yT_fill wT_fill (k2_rm 4 102) (wr_P [.ref t0, .ref x0, .int (nI (2 ^ k)), .int nw, .int ns] sz D [(cI, .int)] [(t0, .inr (0, [.ref g0, .int sd, .int wr, .int sf, .int lv])), (g0, .inl (cI, 1365, .inl g)), (x0, .inl (cI, 1024, .inl f))]) (wr_Qv D (va_A [(t0, .inr (0, [.ref g0, .int sd, .int wr, .int sf, .int lv])), (g0, .inl (cI, 1365, .inl g)), (x0, .inl (cI, 1024, .inl f))] sz) [(t0, .inr (0, [.ref g0, .int (nI (2 ^ k)), .int nw, .int ns, .int (nI (k + 1))])), (g0, .inl (cI, 1365, .inl (tt_fl (va_cpy f g 0 (st4 k) (4 ^ k)) k))), (x0, .inl (cI, 1024, .inl f))]) 0 0 (va_A [(t0, .inr (0, [.ref g0, .int sd, .int wr, .int sf, .int lv])), (g0, .inl (cI, 1365, .inl g)), (x0, .inl (cI, 1024, .inl f))] sz) := by
  refine Met.ofW (cc := cT_fill) (maxL := 6) (ret := none) (by decide) rfl ?_
  intro p e s m args below meth c s₁ B hml hv
  obtain ⟨rfl, hsz, hC, hP, hK, hD0⟩ := hv
  have hx := B.exec
  have hb := B.bytes
  have hr := B.returns
  have hB : ∀ w ∈ tbB, w.before _ s = true := fun w h => (atoms_spec (ws := wT_fill) B.pre) w (List.mem_cons_of_mem _ h)
  have hown : s.vm.findClass "TextureBank$Texture" = some m.cls := findClass_of_methodNamed B.named
  have hlocks := B.notSynchronized
  subst hsz
  have hD := hD0.self (sz := s.heap.size)
  generalize hAe : va_A [(t0, .inr (0, [.ref g0, .int sd, .int wr, .int sf, .int lv])), (g0, .inl (cI, 1365, .inl g)), (x0, .inl (cI, 1024, .inl f))] s.heap.size = A at hD ⊢
  have hA : ∀ q : Nat, s.heap.size ≤ q → A q := fun q h => by rw [← hAe]; exact Or.inr h
  have hS : va_S A s.heap s.heap [] := va_S.rf
  have hl := lv_entry ([.ref t0, .ref x0, .int (nI (2 ^ k)), .int nw, .int ns]) (n := 6) (Nat.le_of_ble_eq_true rfl)
  rw [lg_entry_eq]
  generalize (lg_sl ([.ref t0, .ref x0, .int (nI (2 ^ k)), .int nw, .int ns]) ++ List.replicate (6 - (lg_sl ([.ref t0, .ref x0, .int (nI (2 ^ k)), .int nw, .int ns])).length) Slot.unset).toArray = ls at hl ⊢
  have hl : lv_has ls 6 [(0, .ref t0), (1, .ref x0), (2, .int (nI (2 ^ k))), (3, .int nw), (4, .int ns)] := hl
  obtain ⟨hp1, hp2, hp3, hp4, hp5⟩ := tt_pw k hk
  have hp6 : 4 ^ k ≤ 1024 := by rw [← hp4]; exact Nat.mul_le_mul hp1 hp1
  have loop : ∀ (j : Nat) (h : Nat → Int32) (H : Heap) (locs : List Loc), j ≤ k → tt_fl h j = tt_fl (va_cpy f g 0 (st4 k) (4 ^ k)) k → va_P D tbCl [(t0, .inr (0, [.ref g0, .int (nI (2 ^ k)), .int nw, .int ns, .int (nI (k + 1 - j))])), (g0, .inl (cI, 1365, .inl (h))), (x0, .inl (cI, 1024, .inl f))] H → va_D A [(t0, .inr (0, [.ref g0, .int (nI (2 ^ k)), .int nw, .int ns, .int (nI (k + 1 - j))])), (g0, .inl (cI, 1365, .inl (h))), (x0, .inl (cI, 1024, .inl f))] → va_S A s.heap H locs → ∀ ls : Array Slot, lv_has ls 6 [(5, .int (nI (2 ^ j / 2))), (0, .ref t0), (1, .ref x0), (2, .int (nI (2 ^ k))), (3, .int nw), (4, .int ns)] → W p l e (headSpec wT_fill (k2_rm 4 102)).room s m (#[.ref t0, .ref x0, .int (nI (2 ^ k)), .int nw, .int ns] : Array Value) below meth c H locs 0 0 (MQ below (wr_Qv D A [(t0, .inr (0, [.ref g0, .int (nI (2 ^ k)), .int nw, .int ns, .int (nI (k + 1))])), (g0, .inl (cI, 1365, .inl (tt_fl (va_cpy f g 0 (st4 k) (4 ^ k)) k))), (x0, .inl (cI, 1024, .inl f))]) (#[.ref t0, .ref x0, .int (nI (2 ^ k)), .int nw, .int ns] : Array Value) s 0 0 A) (F0 m 42 ls []) := by
    intro j
    induction j with
    | zero =>
      intro h H locs hj he hP hD hS ls hl
      have he : h = tt_fl (va_cpy f g 0 (st4 k) (4 ^ k)) k := he
      refine lv_iload hx hb dT_fill_42 (lv_at hl 0 rfl) ?_
      refine lv_if_le (tgt := 72) hx hb dT_fill_44 (by decide) (fun c_1 => ?_) (fun c_1 => ?_)
      · have hP : va_P D tbCl [(t0, .inr (0, [.ref g0, .int (nI (2 ^ k)), .int nw, .int ns, .int (nI (k + 1))])), (g0, .inl (cI, 1365, .inl (tt_fl (va_cpy f g 0 (st4 k) (4 ^ k)) k))), (x0, .inl (cI, 1024, .inl f))] H := by rw [← he]; exact hP
        exact W.vret hx hb hr (fun t ht hW => ⟨⟨(), rfl, trivial, (by have h9 := hP; rw [← ht] at h9; exact h9)⟩, hS.F ht⟩) hS.2.2 dT_fill_72
      · exact absurd (show nI (2 ^ 0 / 2) ≤ 0 by decide) c_1
    | succ i ih =>
      intro h H locs hj he hP hD hS ls hl
      have he : tt_fl (tt_ffp h i (4 ^ i)) i = tt_fl (va_cpy f g 0 (st4 k) (4 ^ k)) k := he
      refine lv_iload hx hb dT_fill_42 (lv_at hl 0 rfl) ?_
      refine lv_if_le (tgt := 72) hx hb dT_fill_44 (by decide) (fun c_1 => ?_) (fun c_1 => ?_)
      · exact absurd c_1 (by rw [tt_hs]; exact nI_nle (Nat.pos_of_ne_zero (by have := (tt_pw i (by omega)).2.1; omega)) (by have := (tt_pw i (by omega)).1; omega))
      · refine lv_aload_n hx hb dT_fill_47 rfl (lv_at hl 1 rfl) ?_
        refine lv_iload hx hb dT_fill_48 (lv_at hl 0 rfl) ?_
        refine W.eq (g2 := F0 m 50 ls [.int (nI (2 ^ i)), .ref t0]) (by rw [tt_hs]) ?_
        have hFc := va_free (wc := [(t0, .inr (0, [.ref g0, .int (nI (2 ^ k)), .int nw, .int ns, .int (nI (k + 1 - (i + 1)))])), (g0, .inl (cI, 1365, .inl (h)))]) hD hS hA [0, 1] rfl
        refine va_callv (va_runV (C := "TextureBank$Texture") (As := [.int (nI (2 ^ i))]) (rest := []) ⟨hx, hb, hml, hown, hB⟩ (kT_fillFromDouble l D H.size cI t0 g0 (nI (2 ^ k)) nw ns (nI (k + 1 - (i + 1))) h i (by omega)) ⟨callB_of 1 hB gwT_fillFromDouble rfl rfl rfl (hB _ wd_2) (hB _ wd_100) ydT_fillFromDouble ⟨Nat.le_of_ble_eq_true rfl, Nat.le_of_ble_eq_true rfl⟩, hB _ wd_102, hB _ ws_1⟩ (wr_V hC (hP.sub [0, 1] rfl) (hK.sub [0] rfl) (hD.sub [0, 1] (by decide) rfl) (va_recv hK hP (ci := 0) (q0 := 0) rfl rfl)) rfl rfl hl.1 rfl (lv_room (Nat.le_of_ble_eq_true rfl)) dT_fill_50 ⟨Nat.zero_le _, Nat.zero_le _⟩) hS (fun q _ h => hFc q h) hFc (fun u t H1 locs ht hvm hw hB1 hz1 hk1 hS => ?_)
        have hP1 : va_P D tbCl [(t0, .inr (0, [.ref g0, .int (nI (2 ^ k)), .int nw, .int ns, .int (nI (k + 1 - (i + 1)))])), (g0, .inl (cI, 1365, .inl (tt_ffp h i (4 ^ i))))] H1 := by have h9 := hB1; rw [← ht]; exact h9
        have hP : va_P D tbCl [(t0, .inr (0, [.ref g0, .int (nI (2 ^ k)), .int nw, .int ns, .int (nI (k + 1 - (i + 1)))])), (g0, .inl (cI, 1365, .inl (tt_ffp h i (4 ^ i)))), (x0, .inl (cI, 1024, .inl f))] H1 := wd_back hP hD [0, 1] rfl hk1 hP1 (by intro k q hq; match k, hq with | 0, hq => exact Or.inl ⟨0, hq⟩ | 1, hq => exact Or.inl ⟨1, hq⟩ | 2, hq => exact Or.inr ⟨by decide, hq⟩ | k + 3, hq => simp at hq)
        have hD : va_D A [(t0, .inr (0, [.ref g0, .int (nI (2 ^ k)), .int nw, .int ns, .int (nI (k + 1 - (i + 1)))])), (g0, .inl (cI, 1365, .inl (tt_ffp h i (4 ^ i)))), (x0, .inl (cI, 1024, .inl f))] := wd_D hD rfl
        generalize H1 = H at hP hS ⊢
        refine W.eq (g2 := F0 m 53 ls []) rfl ?_
        refine lv_aload_n hx hb dT_fill_53 rfl (lv_at hl 1 rfl) ?_
        refine lv_dup hx hb dT_fill_54 rfl ?_
        refine va_get (D := D) (ci := 0) (v := .int (nI (k + 1 - (i + 1)))) (C := RT) (T := FT) (N := 5) hx hb hB inT hown hK hP 0 rfl rfl 4 (by decide) (hB _ wd_34) (fun _ h9 => h9) rfl dT_fill_55 ?_
        refine lv_iconst (v := 1) hx hb dT_fill_58 (by decide) ?_
        refine lv_iadd hx hb dT_fill_59 ?_
        refine va_put (D := D) (ci := 0) (v := .int ((nI (k + 1 - (i + 1))) + 1)) (ty := .int) (C := RT) (T := FT) (N := 5) hx hb hB inT tyT tyT_ok nmT hown hK hP hD hS 0 rfl rfl 4 (by decide) (hB _ wd_34) (fun _ h9 => h9) rfl (by decide +kernel) rfl rfl (Nat.le_of_ble_eq_true rfl) dT_fill_60 (fun H locs hP hD hS => ?_)
        have hP : va_P D tbCl [(t0, .inr (0, [.ref g0, .int (nI (2 ^ k)), .int nw, .int ns, .int ((nI (k + 1 - (i + 1))) + 1)])), (g0, .inl (cI, 1365, .inl (tt_ffp h i (4 ^ i)))), (x0, .inl (cI, 1024, .inl f))] H := hP
        have hD : va_D A [(t0, .inr (0, [.ref g0, .int (nI (2 ^ k)), .int nw, .int ns, .int ((nI (k + 1 - (i + 1))) + 1)])), (g0, .inl (cI, 1365, .inl (tt_ffp h i (4 ^ i)))), (x0, .inl (cI, 1024, .inl f))] := hD
        refine lv_iload hx hb dT_fill_63 (lv_at hl 0 rfl) ?_
        refine lv_iconst (v := 2) hx hb dT_fill_65 (by decide) ?_
        refine lv_idiv hx hb dT_fill_66 (by decide) ?_
        refine lv_istore (lv' := [(5, .int ((nI (2 ^ (i + 1) / 2)) / 2)), (0, .ref t0), (1, .ref x0), (2, .int (nI (2 ^ k))), (3, .int nw), (4, .int ns)]) hx hb dT_fill_67 hl (by decide) rfl (fun ls hl => ?_)
        refine lv_goto (tgt := 42) hx hb dT_fill_69 (by decide) ?_
        exact ih (tt_ffp h i (4 ^ i)) H locs (by omega) he (by have h9 := hP; rw [show k + 1 - i = (k + 1 - (i + 1)) + 1 by omega, ← nI_1]; exact h9) (wd_D hD rfl) hS ls (by have hl := lv_sub hl [0, 1, 2, 3, 4, 5] rfl; rw [tt_hs, tt_hv (by omega)] at hl; exact hl)
  refine lv_aload_n hx hb dT_fill_0 rfl (lv_at hl 0 rfl) ?_
  refine lv_iload_n hx hb dT_fill_1 rfl (lv_at hl 2 rfl) ?_
  refine va_put (D := D) (ci := 0) (v := .int (nI (2 ^ k))) (ty := .int) (C := RT) (T := FT) (N := 5) hx hb hB inT tyT tyT_ok nmT hown hK hP hD hS 0 rfl rfl 1 (by decide) (hB _ wd_28) (fun _ h9 => h9) rfl (by decide +kernel) rfl rfl (Nat.le_of_ble_eq_true rfl) dT_fill_2 (fun H locs hP hD hS => ?_)
  have hP : va_P D tbCl [(t0, .inr (0, [.ref g0, .int (nI (2 ^ k)), .int wr, .int sf, .int lv])), (g0, .inl (cI, 1365, .inl g)), (x0, .inl (cI, 1024, .inl f))] H := hP
  have hD : va_D A [(t0, .inr (0, [.ref g0, .int (nI (2 ^ k)), .int wr, .int sf, .int lv])), (g0, .inl (cI, 1365, .inl g)), (x0, .inl (cI, 1024, .inl f))] := hD
  refine lv_aload_n hx hb dT_fill_5 rfl (lv_at hl 0 rfl) ?_
  refine lv_iload_n hx hb dT_fill_6 rfl (lv_at hl 3 rfl) ?_
  refine va_put (D := D) (ci := 0) (v := .int nw) (ty := .int) (C := RT) (T := FT) (N := 5) hx hb hB inT tyT tyT_ok nmT hown hK hP hD hS 0 rfl rfl 2 (by decide) (hB _ wd_30) (fun _ h9 => h9) rfl (by decide +kernel) rfl rfl (Nat.le_of_ble_eq_true rfl) dT_fill_7 (fun H locs hP hD hS => ?_)
  have hP : va_P D tbCl [(t0, .inr (0, [.ref g0, .int (nI (2 ^ k)), .int nw, .int sf, .int lv])), (g0, .inl (cI, 1365, .inl g)), (x0, .inl (cI, 1024, .inl f))] H := hP
  have hD : va_D A [(t0, .inr (0, [.ref g0, .int (nI (2 ^ k)), .int nw, .int sf, .int lv])), (g0, .inl (cI, 1365, .inl g)), (x0, .inl (cI, 1024, .inl f))] := hD
  refine lv_aload_n hx hb dT_fill_10 rfl (lv_at hl 0 rfl) ?_
  refine lv_iload hx hb dT_fill_11 (lv_at hl 4 rfl) ?_
  refine va_put (D := D) (ci := 0) (v := .int ns) (ty := .int) (C := RT) (T := FT) (N := 5) hx hb hB inT tyT tyT_ok nmT hown hK hP hD hS 0 rfl rfl 3 (by decide) (hB _ wd_32) (fun _ h9 => h9) rfl (by decide +kernel) rfl rfl (Nat.le_of_ble_eq_true rfl) dT_fill_13 (fun H locs hP hD hS => ?_)
  have hP : va_P D tbCl [(t0, .inr (0, [.ref g0, .int (nI (2 ^ k)), .int nw, .int ns, .int lv])), (g0, .inl (cI, 1365, .inl g)), (x0, .inl (cI, 1024, .inl f))] H := hP
  have hD : va_D A [(t0, .inr (0, [.ref g0, .int (nI (2 ^ k)), .int nw, .int ns, .int lv])), (g0, .inl (cI, 1365, .inl g)), (x0, .inl (cI, 1024, .inl f))] := hD
  refine lv_aload_n hx hb dT_fill_16 rfl (lv_at hl 0 rfl) ?_
  refine lv_iconst (v := 1) hx hb dT_fill_17 (by decide) ?_
  refine va_put (D := D) (ci := 0) (v := .int 1) (ty := .int) (C := RT) (T := FT) (N := 5) hx hb hB inT tyT tyT_ok nmT hown hK hP hD hS 0 rfl rfl 4 (by decide) (hB _ wd_34) (fun _ h9 => h9) rfl (by decide +kernel) rfl rfl (Nat.le_of_ble_eq_true rfl) dT_fill_18 (fun H locs hP hD hS => ?_)
  have hP : va_P D tbCl [(t0, .inr (0, [.ref g0, .int (nI (2 ^ k)), .int nw, .int ns, .int 1])), (g0, .inl (cI, 1365, .inl g)), (x0, .inl (cI, 1024, .inl f))] H := hP
  have hD : va_D A [(t0, .inr (0, [.ref g0, .int (nI (2 ^ k)), .int nw, .int ns, .int 1])), (g0, .inl (cI, 1365, .inl g)), (x0, .inl (cI, 1024, .inl f))] := hD
  refine lv_aload_n hx hb dT_fill_21 rfl (lv_at hl 1 rfl) ?_
  refine lv_iconst (v := 0) hx hb dT_fill_22 (by decide) ?_
  refine lv_aload_n hx hb dT_fill_23 rfl (lv_at hl 0 rfl) ?_
  refine va_get (D := D) (ci := 0) (v := .ref g0) (C := RT) (T := FT) (N := 5) hx hb hB inT hown hK hP 0 rfl rfl 0 (by decide) (hB _ wd_27) (fun _ h9 => h9) rfl dT_fill_24 ?_
  refine lv_iload_n hx hb dT_fill_27 rfl (lv_at hl 2 rfl) ?_
  refine W.callV (W.runS (As := [.int (nI (2 ^ k))]) (rest := [.ref g0, .int 0, .ref x0]) ⟨hx, hb, hml, hown, hB⟩ (kT_startOf l (nI (2 ^ k))) ⟨callB_of 1 hB gwT_startOf rfl rfl rfl (hB _ wd_2) (hB _ wd_94) ydT_startOf ⟨Nat.le_of_ble_eq_true rfl, Nat.le_of_ble_eq_true rfl⟩, hB _ wd_95⟩ (preEq) rfl rfl hl.1 rfl (lv_room (Nat.le_of_ble_eq_true rfl)) dT_fill_28 ⟨Nat.zero_le _, Nat.zero_le _⟩) ?_
  refine W.eq (g2 := F0 m 31 ls [.int (tt_start (nI (2 ^ k))), .ref g0, .int 0, .ref x0]) rfl ?_
  refine lv_iload_n hx hb dT_fill_31 rfl (lv_at hl 2 rfl) ?_
  refine lv_iload_n hx hb dT_fill_32 rfl (lv_at hl 2 rfl) ?_
  refine lv_imul hx hb dT_fill_33 ?_
  refine W.eq (g2 := F0 m 34 ls [.int (nI (4 ^ k)), .int (nI (st4 k)), .ref g0, .int 0, .ref x0]) (by rw [tt_start4 hk, pk_mul, hp4]) ?_
  refine va_copyi hx hb (by rw [hml]; exact hl.1.symm) hown (hB _ wd_97) (hB _ wd_99) (hB _ wd_98) (hB _ wd_5) hK hP hD hS 2 1 0 0 rfl rfl rfl rfl rfl (by decide) (nI_pos (by omega)) (nI_pos (by omega)) (by rw [nI_clamp (by omega)]; show 0 + _ ≤ _; omega) (by rw [nI_clamp (by omega), nI_clamp (by omega)]; omega) (fun _ _ => rfl) (Nat.le_of_ble_eq_true rfl) (Nat.le_of_ble_eq_true rfl) dT_fill_34 (fun H locs hP hD hS => ?_)
  have hP : va_P D tbCl [(t0, .inr (0, [.ref g0, .int (nI (2 ^ k)), .int nw, .int ns, .int 1])), (g0, .inl (cI, 1365, .inl (va_cpy f g 0 (st4 k) (4 ^ k)))), (x0, .inl (cI, 1024, .inl f))] H := by
    have hP9 := hP
    rw [nI_clamp (by omega), nI_clamp (by omega)] at hP9
    exact hP9
  have hD : va_D A [(t0, .inr (0, [.ref g0, .int (nI (2 ^ k)), .int nw, .int ns, .int 1])), (g0, .inl (cI, 1365, .inl (va_cpy f g 0 (st4 k) (4 ^ k)))), (x0, .inl (cI, 1024, .inl f))] := wd_D hD rfl
  refine lv_iload_n hx hb dT_fill_37 rfl (lv_at hl 2 rfl) ?_
  refine lv_iconst (v := 2) hx hb dT_fill_38 (by decide) ?_
  refine lv_idiv hx hb dT_fill_39 (by decide) ?_
  refine lv_istore (lv' := [(5, .int ((nI (2 ^ k)) / 2)), (0, .ref t0), (1, .ref x0), (2, .int (nI (2 ^ k))), (3, .int nw), (4, .int ns)]) hx hb dT_fill_40 hl (by decide) rfl (fun ls hl => ?_)
  exact loop k (va_cpy f g 0 (st4 k) (4 ^ k)) H locs (Nat.le_refl k) rfl (by have h9 := hP; rw [show (k + 1 - k) = 1 by omega]; exact h9) (wd_D hD rfl) hS ls (by have hl := lv_sub hl [0, 1, 2, 3, 4, 5] rfl; rw [tt_hv hk] at hl; exact hl)
end
section
def tb_count (n c w : Int32) : Int32 := if w = 0 then c else if w = 1 then n else -1
def tb_about (sd wr sf lv w : Int32) : Int32 := if w = 0 then sd else if w = 1 then wr else if w = 2 then sf else if w = 3 then lv else -1
set_option maxHeartbeats 4000000 in
set_option maxRecDepth 100000 in
theorem kB_find_none (l : Launch) (D : va_G) (cI cT : ClassId) (x0 tx ta : Nat) (n c9 : Int32) (t9 : Int32) (hno : t9 < 0 ∨ c9 ≤ t9) : Met l yB_find wB_find (k2_rm 0 0) (rd_P [.ref x0, .int t9] D [(cI, .int), (cT, .object "TextureBank$Texture")] [(x0, .inr (1, [.ref tx, .int n, .ref ta, .int c9]))]) (k2_QcV (.null)) 0 0 (fun _ => False) := by
  refine Met.ofW (cc := cB_find) (maxL := 2) (ret := (some (.object "TextureBank$Texture"))) (by decide) rfl ?_
  intro p e s m args below meth c s₁ B hml hv
  obtain ⟨rfl, hC, hP, hK⟩ := hv
  have hx := B.exec
  have hb := B.bytes
  have hr := B.returns
  have hB : ∀ w ∈ tbB, w.before _ s = true := fun w h => (atoms_spec (ws := wB_find) B.pre) w (List.mem_cons_of_mem _ h)
  have hown : s.vm.findClass "TextureBank" = some m.cls := findClass_of_methodNamed B.named
  have hlocks := B.notSynchronized
  have hl := lv_entry ([.ref x0, .int t9]) (n := 2) (Nat.le_of_ble_eq_true rfl)
  rw [lg_entry_eq]
  generalize (lg_sl ([.ref x0, .int t9]) ++ List.replicate (2 - (lg_sl ([.ref x0, .int t9])).length) Slot.unset).toArray = ls at hl ⊢
  have hl : lv_has ls 2 [(0, .ref x0), (1, .int t9)] := hl
  refine lv_iload_n hx hb dB_find_0 rfl (lv_at hl 1 rfl) ?_
  refine lv_if_lt (tgt := 12) hx hb dB_find_1 (by decide) (fun c_1 => ?_) (fun c_1 => ?_)
  · refine lv_null hx hb dB_find_12 ?_
    exact W.aret hx hb hr (Or.inl ⟨_, rfl⟩) (Or.inl rfl) (fun t ht _ => ⟨tbR (rfl), ht⟩) (fun q hq => nomatch hq) dB_find_13
  · refine lv_iload_n hx hb dB_find_4 rfl (lv_at hl 1 rfl) ?_
    refine lv_aload_n hx hb dB_find_5 rfl (lv_at hl 0 rfl) ?_
    refine va_get (D := D) (ci := 1) (v := .int c9) (C := RB) (T := FB) (N := 4) hx hb hB inB hown hK hP 0 rfl rfl 3 (by decide) (hB _ wd_51) (fun _ h9 => h9) rfl dB_find_6 ?_
    refine lv_icmp_lt (tgt := 14) hx hb dB_find_9 (by decide) (fun c_2 => ?_) (fun c_2 => ?_)
    · exact absurd c_2 (fun h9 => hno.elim c_1 (k2_nlt · h9))
    · refine lv_null hx hb dB_find_12 ?_
      exact W.aret hx hb hr (Or.inl ⟨_, rfl⟩) (Or.inl rfl) (fun t ht _ => ⟨tbR (rfl), ht⟩) (fun q hq => nomatch hq) dB_find_13

set_option maxHeartbeats 4000000 in
set_option maxRecDepth 100000 in
theorem kB_find_some (l : Launch) (D : va_G) (cI cT : ClassId) (x0 tx ta : Nat) (n : Int32) (cN : Nat) (tq : Nat → Nat) (j : Nat) (hcN : cN ≤ 8) (hj : j < cN) : Met l yB_find wB_find (k2_rm 0 0) (rd_P [.ref x0, .int (nI j)] D [(cI, .int), (cT, .object "TextureBank$Texture")] [(x0, .inr (1, [.ref tx, .int n, .ref ta, .int (nI cN)])), (ta, .inl (cT, 8, .inr (.inr (.inr (.inr (fun j => some (tq j)))))))]) (k2_QcV (.ref (tq j))) 0 0 (fun _ => False) := by
  refine Met.ofW (cc := cB_find) (maxL := 2) (ret := (some (.object "TextureBank$Texture"))) (by decide) rfl ?_
  intro p e s m args below meth c s₁ B hml hv
  obtain ⟨rfl, hC, hP, hK⟩ := hv
  have hx := B.exec
  have hb := B.bytes
  have hr := B.returns
  have hB : ∀ w ∈ tbB, w.before _ s = true := fun w h => (atoms_spec (ws := wB_find) B.pre) w (List.mem_cons_of_mem _ h)
  have hown : s.vm.findClass "TextureBank" = some m.cls := findClass_of_methodNamed B.named
  have hlocks := B.notSynchronized
  have hl := lv_entry ([.ref x0, .int (nI j)]) (n := 2) (Nat.le_of_ble_eq_true rfl)
  rw [lg_entry_eq]
  generalize (lg_sl ([.ref x0, .int (nI j)]) ++ List.replicate (2 - (lg_sl ([.ref x0, .int (nI j)])).length) Slot.unset).toArray = ls at hl ⊢
  have hl : lv_has ls 2 [(0, .ref x0), (1, .int (nI j))] := hl
  refine lv_iload_n hx hb dB_find_0 rfl (lv_at hl 1 rfl) ?_
  refine lv_if_lt (tgt := 12) hx hb dB_find_1 (by decide) (fun c_1 => ?_) (fun c_1 => ?_)
  · exact absurd c_1 (nI_pos (by omega))
  · refine lv_iload_n hx hb dB_find_4 rfl (lv_at hl 1 rfl) ?_
    refine lv_aload_n hx hb dB_find_5 rfl (lv_at hl 0 rfl) ?_
    refine va_get (D := D) (ci := 1) (v := .int (nI cN)) (C := RB) (T := FB) (N := 4) hx hb hB inB hown hK hP 0 rfl rfl 3 (by decide) (hB _ wd_51) (fun _ h9 => h9) rfl dB_find_6 ?_
    refine lv_icmp_lt (tgt := 14) hx hb dB_find_9 (by decide) (fun c_2 => ?_) (fun c_2 => ?_)
    · refine lv_aload_n hx hb dB_find_14 rfl (lv_at hl 0 rfl) ?_
      refine va_get (D := D) (ci := 1) (v := .ref ta) (C := RB) (T := FB) (N := 4) hx hb hB inB hown hK hP 0 rfl rfl 2 (by decide) (hB _ wd_50) (fun _ h9 => h9) rfl dB_find_15 ?_
      refine lv_iload_n hx hb dB_find_18 rfl (lv_at hl 1 rfl) ?_
      refine va_aldq hx hb hK hP 1 1 (f := fun j => some (tq j)) rfl rfl (i := (nI j)) (vp_in_nI (by omega) (by omega)) dB_find_19 ?_
      refine W.eq (g2 := F0 m 20 ls [.ref (tq j)]) (by show F0 m _ ls (va_rf (some (tq (nI j).toNatClampNeg)) :: _) = _; rw [nI_clamp (by omega)]; rfl) ?_
      exact W.aret hx hb hr (Or.inl ⟨_, rfl⟩) (Or.inr ⟨_, rfl⟩) (fun t ht _ => ⟨tbR (rfl), ht⟩) (fun q hq => nomatch hq) dB_find_20
    · exact absurd (nI_lt hj (by omega)) c_2

set_option maxHeartbeats 4000000 in
set_option maxRecDepth 100000 in
theorem kB_count (l : Launch) (D : va_G) (cI cT : ClassId) (x0 tx ta : Nat) (n c9 w9 : Int32) : Met l yB_count wB_count (k2_rm 0 0) (rd_P [.ref x0, .int w9] D [(cI, .int), (cT, .object "TextureBank$Texture")] [(x0, .inr (1, [.ref tx, .int n, .ref ta, .int c9]))]) (k2_QcV (.int (tb_count n c9 w9))) 0 0 (fun _ => False) := by
  refine Met.ofW (cc := cB_count) (maxL := 2) (ret := (some .int)) (by decide) rfl ?_
  intro p e s m args below meth c s₁ B hml hv
  obtain ⟨rfl, hC, hP, hK⟩ := hv
  have hx := B.exec
  have hb := B.bytes
  have hr := B.returns
  have hB : ∀ w ∈ tbB, w.before _ s = true := fun w h => (atoms_spec (ws := wB_count) B.pre) w (List.mem_cons_of_mem _ h)
  have hown : s.vm.findClass "TextureBank" = some m.cls := findClass_of_methodNamed B.named
  have hlocks := B.notSynchronized
  have hl := lv_entry ([.ref x0, .int w9]) (n := 2) (Nat.le_of_ble_eq_true rfl)
  rw [lg_entry_eq]
  generalize (lg_sl ([.ref x0, .int w9]) ++ List.replicate (2 - (lg_sl ([.ref x0, .int w9])).length) Slot.unset).toArray = ls at hl ⊢
  have hl : lv_has ls 2 [(0, .ref x0), (1, .int w9)] := hl
  refine lv_iload_n hx hb dB_count_0 rfl (lv_at hl 1 rfl) ?_
  by_cases c_1 : w9 = 0
  · refine lv_lookup (tgt := 28) (off := 27) hx hb dB_count_1 (by decide) (by rw [c_1]; first | done | rfl) (by decide) ?_
    refine lv_aload_n hx hb dB_count_28 rfl (lv_at hl 0 rfl) ?_
    refine va_get (D := D) (ci := 1) (v := .int c9) (C := RB) (T := FB) (N := 4) hx hb hB inB hown hK hP 0 rfl rfl 3 (by decide) (hB _ wd_51) (fun _ h9 => h9) rfl dB_count_29 ?_
    exact W.iret hx hb hr (fun t ht _ => ⟨tbI (by unfold tb_count; (first | rw [if_pos c_1] | rw [if_neg c_1])), ht⟩) (fun q hq => nomatch hq) dB_count_32
  · by_cases c_2 : w9 = 1
    · refine lv_lookup (tgt := 33) (off := 32) hx hb dB_count_1 (by decide) (by rw [c_2]; first | done | rfl) (by decide) ?_
      refine lv_aload_n hx hb dB_count_33 rfl (lv_at hl 0 rfl) ?_
      refine va_get (D := D) (ci := 1) (v := .int n) (C := RB) (T := FB) (N := 4) hx hb hB inB hown hK hP 0 rfl rfl 1 (by decide) (hB _ wd_49) (fun _ h9 => h9) rfl dB_count_34 ?_
      exact W.iret hx hb hr (fun t ht _ => ⟨tbI (by unfold tb_count; (first | rw [if_pos c_1] | rw [if_neg c_1]); (first | rw [if_pos c_2] | rw [if_neg c_2])), ht⟩) (fun q hq => nomatch hq) dB_count_37
    · refine lv_lookup (tgt := 38) (off := 37) hx hb dB_count_1 (by decide) (by show Op.lookupswitch.offset [(0, 27), (1, 32)] 37 w9.toInt = 37; rw [lv_osw (k := 0) (a := 0) c_1 rfl, lv_osw (k := 1) (a := 1) c_2 rfl]; first | done | rfl) (by decide) ?_
      refine lv_iconst (v := (-1)) hx hb dB_count_38 (by decide) ?_
      exact W.iret hx hb hr (fun t ht _ => ⟨tbI (by unfold tb_count; (first | rw [if_pos c_1] | rw [if_neg c_1]); (first | rw [if_pos c_2] | rw [if_neg c_2])), ht⟩) (fun q hq => nomatch hq) dB_count_39

set_option maxHeartbeats 4000000 in
set_option maxRecDepth 100000 in
theorem kB_about_none (l : Launch) (D : va_G) (cI cT : ClassId) (x0 tx ta : Nat) (n c9 : Int32) (t9 w9 : Int32) (hno : t9 < 0 ∨ c9 ≤ t9) : Met l yB_about wB_about (k2_rm 1 21) (rd_P [.ref x0, .int t9, .int w9] D [(cI, .int), (cT, .object "TextureBank$Texture")] [(x0, .inr (1, [.ref tx, .int n, .ref ta, .int c9]))]) (k2_QcV (.int (-1))) 0 0 (fun _ => False) := by
  refine Met.ofW (cc := cB_about) (maxL := 4) (ret := (some .int)) (by decide) rfl ?_
  intro p e s m args below meth c s₁ B hml hv
  obtain ⟨rfl, hC, hP, hK⟩ := hv
  have hx := B.exec
  have hb := B.bytes
  have hr := B.returns
  have hB : ∀ w ∈ tbB, w.before _ s = true := fun w h => (atoms_spec (ws := wB_about) B.pre) w (List.mem_cons_of_mem _ h)
  have hown : s.vm.findClass "TextureBank" = some m.cls := findClass_of_methodNamed B.named
  have hlocks := B.notSynchronized
  have hl := lv_entry ([.ref x0, .int t9, .int w9]) (n := 4) (Nat.le_of_ble_eq_true rfl)
  rw [lg_entry_eq]
  generalize (lg_sl ([.ref x0, .int t9, .int w9]) ++ List.replicate (4 - (lg_sl ([.ref x0, .int t9, .int w9])).length) Slot.unset).toArray = ls at hl ⊢
  have hl : lv_has ls 4 [(0, .ref x0), (1, .int t9), (2, .int w9)] := hl
  refine lv_aload_n hx hb dB_about_0 rfl (lv_at hl 0 rfl) ?_
  refine lv_iload_n hx hb dB_about_1 rfl (lv_at hl 1 rfl) ?_
  refine W.callV (W.runV (C := "TextureBank") (As := [.int t9]) (rest := []) ⟨hx, hb, hml, hown, hB⟩ (kB_find_none l D cI cT x0 tx ta n c9 t9 hno) ⟨callB_of 1 hB gwB_find rfl rfl rfl (hB _ wd_1) (hB _ wd_131) ydB_find ⟨Nat.le_of_ble_eq_true rfl, Nat.le_of_ble_eq_true rfl⟩, hB _ wd_133, hB _ ws_4⟩ (rd_V hC (hP.sub [0] rfl) (hK.sub [0, 1] rfl) (va_recv hK hP (ci := 1) (q0 := 0) rfl rfl)) rfl rfl hl.1 rfl (lv_room (Nat.le_of_ble_eq_true rfl)) dB_about_2 ⟨Nat.zero_le _, Nat.zero_le _⟩) ?_
  refine W.eq (g2 := F0 m 5 ls [.null]) rfl ?_
  refine lv_astore_nN (lv' := [(3, .null), (0, .ref x0), (1, .int t9), (2, .int w9)]) hx hb dB_about_5 rfl hl (by decide) rfl (fun ls hl => ?_)
  refine lv_aload_nN hx hb dB_about_6 rfl (lv_at hl 0 rfl) ?_
  refine lv_ifnonnullN hx hb dB_about_7 ?_
  refine lv_iconst (v := (-1)) hx hb dB_about_10 (by decide) ?_
  exact W.iret hx hb hr (fun t ht _ => ⟨tbI (rfl), ht⟩) (fun q hq => nomatch hq) dB_about_11

set_option maxHeartbeats 4000000 in
set_option maxRecDepth 100000 in
theorem kB_about_some (l : Launch) (D : va_G) (cI cT : ClassId) (x0 tx ta : Nat) (n : Int32) (cN : Nat) (tq cq : Nat → Nat) (j : Nat) (hcN : cN ≤ 8) (hj : j < cN) (sd wr sf lv : Int32) (w9 : Int32) : Met l yB_about wB_about (k2_rm 1 21) (rd_P [.ref x0, .int (nI j), .int w9] D [(cI, .int), (cT, .object "TextureBank$Texture")] [(x0, .inr (1, [.ref tx, .int n, .ref ta, .int (nI cN)])), (ta, .inl (cT, 8, .inr (.inr (.inr (.inr (fun j => some (tq j))))))), (tq j, .inr (0, [.ref (cq j), .int sd, .int wr, .int sf, .int lv]))]) (k2_QcV (.int (tb_about sd wr sf lv w9))) 0 0 (fun _ => False) := by
  refine Met.ofW (cc := cB_about) (maxL := 4) (ret := (some .int)) (by decide) rfl ?_
  intro p e s m args below meth c s₁ B hml hv
  obtain ⟨rfl, hC, hP, hK⟩ := hv
  have hx := B.exec
  have hb := B.bytes
  have hr := B.returns
  have hB : ∀ w ∈ tbB, w.before _ s = true := fun w h => (atoms_spec (ws := wB_about) B.pre) w (List.mem_cons_of_mem _ h)
  have hown : s.vm.findClass "TextureBank" = some m.cls := findClass_of_methodNamed B.named
  have hlocks := B.notSynchronized
  have hl := lv_entry ([.ref x0, .int (nI j), .int w9]) (n := 4) (Nat.le_of_ble_eq_true rfl)
  rw [lg_entry_eq]
  generalize (lg_sl ([.ref x0, .int (nI j), .int w9]) ++ List.replicate (4 - (lg_sl ([.ref x0, .int (nI j), .int w9])).length) Slot.unset).toArray = ls at hl ⊢
  have hl : lv_has ls 4 [(0, .ref x0), (1, .int (nI j)), (2, .int w9)] := hl
  refine lv_aload_n hx hb dB_about_0 rfl (lv_at hl 0 rfl) ?_
  refine lv_iload_n hx hb dB_about_1 rfl (lv_at hl 1 rfl) ?_
  refine W.callV (W.runV (C := "TextureBank") (As := [.int (nI j)]) (rest := []) ⟨hx, hb, hml, hown, hB⟩ (kB_find_some l D cI cT x0 tx ta n cN tq j hcN hj) ⟨callB_of 1 hB gwB_find rfl rfl rfl (hB _ wd_1) (hB _ wd_131) ydB_find ⟨Nat.le_of_ble_eq_true rfl, Nat.le_of_ble_eq_true rfl⟩, hB _ wd_133, hB _ ws_4⟩ (rd_V hC (hP.sub [0, 1] rfl) (hK.sub [0, 1] rfl) (va_recv hK hP (ci := 1) (q0 := 0) rfl rfl)) rfl rfl hl.1 rfl (lv_room (Nat.le_of_ble_eq_true rfl)) dB_about_2 ⟨Nat.zero_le _, Nat.zero_le _⟩) ?_
  refine W.eq (g2 := F0 m 5 ls [.ref (tq j)]) rfl ?_
  refine lv_astore_n (lv' := [(3, .ref (tq j)), (0, .ref x0), (1, .int (nI j)), (2, .int w9)]) hx hb dB_about_5 rfl hl (by decide) rfl (fun ls hl => ?_)
  refine lv_aload_n hx hb dB_about_6 rfl (lv_at hl 0 rfl) ?_
  refine lv_ifnonnull (tgt := 12) hx hb dB_about_7 (by decide) ?_
  refine lv_iload_n hx hb dB_about_12 rfl (lv_at hl 3 rfl) ?_
  by_cases c_1 : w9 = 0
  · refine lv_tableIn (tgt := 44) hx hb dB_about_13 (by rw [c_1]; decide) (by rw [c_1]; decide) (by rw [c_1]; rfl) (by decide) ?_
    refine lv_aload_n hx hb dB_about_44 rfl (lv_at hl 0 rfl) ?_
    refine va_getN (D := D) (ci := 0) (v := .int sd) (C := RT) (T := FT) (N := 5) hx hb hB inT hown hK hP 2 rfl rfl 1 (by decide) (va_Nw.use rfl (hC.2.1)) (fun _ h9 => h9) rfl dB_about_45 ?_
    exact W.iret hx hb hr (fun t ht _ => ⟨tbI (by unfold tb_about; (first | rw [if_pos c_1] | rw [if_neg c_1])), ht⟩) (fun q hq => nomatch hq) dB_about_48
  · by_cases c_2 : w9 = 1
    · refine lv_tableIn (tgt := 49) hx hb dB_about_13 (by rw [c_2]; decide) (by rw [c_2]; decide) (by rw [c_2]; rfl) (by decide) ?_
      refine lv_aload_n hx hb dB_about_49 rfl (lv_at hl 0 rfl) ?_
      refine va_getN (D := D) (ci := 0) (v := .int wr) (C := RT) (T := FT) (N := 5) hx hb hB inT hown hK hP 2 rfl rfl 2 (by decide) (va_Nw.use rfl (hC.2.2.1)) (fun _ h9 => h9) rfl dB_about_50 ?_
      exact W.iret hx hb hr (fun t ht _ => ⟨tbI (by unfold tb_about; (first | rw [if_pos c_1] | rw [if_neg c_1]); (first | rw [if_pos c_2] | rw [if_neg c_2])), ht⟩) (fun q hq => nomatch hq) dB_about_53
    · by_cases c_3 : w9 = 2
      · refine lv_tableIn (tgt := 54) hx hb dB_about_13 (by rw [c_3]; decide) (by rw [c_3]; decide) (by rw [c_3]; rfl) (by decide) ?_
        refine lv_aload_n hx hb dB_about_54 rfl (lv_at hl 0 rfl) ?_
        refine va_getN (D := D) (ci := 0) (v := .int sf) (C := RT) (T := FT) (N := 5) hx hb hB inT hown hK hP 2 rfl rfl 3 (by decide) (va_Nw.use rfl (hC.2.2.2.1)) (fun _ h9 => h9) rfl dB_about_55 ?_
        exact W.iret hx hb hr (fun t ht _ => ⟨tbI (by unfold tb_about; (first | rw [if_pos c_1] | rw [if_neg c_1]); (first | rw [if_pos c_2] | rw [if_neg c_2]); (first | rw [if_pos c_3] | rw [if_neg c_3])), ht⟩) (fun q hq => nomatch hq) dB_about_58
      · by_cases c_4 : w9 = 3
        · refine lv_tableIn (tgt := 59) hx hb dB_about_13 (by rw [c_4]; decide) (by rw [c_4]; decide) (by rw [c_4]; rfl) (by decide) ?_
          refine lv_aload_n hx hb dB_about_59 rfl (lv_at hl 0 rfl) ?_
          refine va_getN (D := D) (ci := 0) (v := .int lv) (C := RT) (T := FT) (N := 5) hx hb hB inT hown hK hP 2 rfl rfl 4 (by decide) (va_Nw.use rfl (hC.2.2.2.2.1)) (fun _ h9 => h9) rfl dB_about_60 ?_
          exact W.iret hx hb hr (fun t ht _ => ⟨tbI (by unfold tb_about; (first | rw [if_pos c_1] | rw [if_neg c_1]); (first | rw [if_pos c_2] | rw [if_neg c_2]); (first | rw [if_pos c_3] | rw [if_neg c_3]); (first | rw [if_pos c_4] | rw [if_neg c_4])), ht⟩) (fun q hq => nomatch hq) dB_about_63
        · refine lv_tableOut (tgt := 64) hx hb dB_about_13 (tt_sw3 c_1 c_2 c_3 c_4) (by decide) ?_
          refine lv_iconst (v := (-1)) hx hb dB_about_64 (by decide) ?_
          exact W.iret hx hb hr (fun t ht _ => ⟨tbI (by unfold tb_about; (first | rw [if_pos c_1] | rw [if_neg c_1]); (first | rw [if_pos c_2] | rw [if_neg c_2]); (first | rw [if_pos c_3] | rw [if_neg c_3]); (first | rw [if_pos c_4] | rw [if_neg c_4])), ht⟩) (fun q hq => nomatch hq) dB_about_65

set_option maxHeartbeats 4000000 in
set_option maxRecDepth 100000 in
theorem kB_put_no (l : Launch) (D : va_G) (cI cT : ClassId) (x0 tx ta : Nat) (n c9 : Int32) (r9 g9 b9 : Int32) (hno : tt_isNum r9 = 0 ∨ tt_isNum g9 = 0 ∨ tt_isNum b9 = 0 ∨ 1024 ≤ n) : Met l yB_put wB_put (k2_rm 1 20) (rd_P [.ref x0, .int r9, .int g9, .int b9] D [(cI, .int), (cT, .object "TextureBank$Texture")] [(x0, .inr (1, [.ref tx, .int n, .ref ta, .int c9]))]) (k2_QcV (.int (-1))) 0 0 (fun _ => False) := by
  refine Met.ofW (cc := cB_put) (maxL := 4) (ret := (some .int)) (by decide) rfl ?_
  intro p e s m args below meth c s₁ B hml hv
  obtain ⟨rfl, hC, hP, hK⟩ := hv
  have hx := B.exec
  have hb := B.bytes
  have hr := B.returns
  have hB : ∀ w ∈ tbB, w.before _ s = true := fun w h => (atoms_spec (ws := wB_put) B.pre) w (List.mem_cons_of_mem _ h)
  have hown : s.vm.findClass "TextureBank" = some m.cls := findClass_of_methodNamed B.named
  have hlocks := B.notSynchronized
  have hl := lv_entry ([.ref x0, .int r9, .int g9, .int b9]) (n := 4) (Nat.le_of_ble_eq_true rfl)
  rw [lg_entry_eq]
  generalize (lg_sl ([.ref x0, .int r9, .int g9, .int b9]) ++ List.replicate (4 - (lg_sl ([.ref x0, .int r9, .int g9, .int b9])).length) Slot.unset).toArray = ls at hl ⊢
  have hl : lv_has ls 4 [(0, .ref x0), (1, .int r9), (2, .int g9), (3, .int b9)] := hl
  refine lv_iload_n hx hb dB_put_0 rfl (lv_at hl 1 rfl) ?_
  refine W.callV (W.runS (As := [.int r9]) (rest := []) ⟨hx, hb, hml, hown, hB⟩ (kB_isNumber l r9) ⟨callB_of 1 hB gwB_isNumber rfl rfl rfl (hB _ wd_1) (hB _ wd_65) ydB_isNumber ⟨Nat.le_of_ble_eq_true rfl, Nat.le_of_ble_eq_true rfl⟩, hB _ wd_66⟩ (preEq) rfl rfl hl.1 rfl (lv_room (Nat.le_of_ble_eq_true rfl)) dB_put_1 ⟨Nat.zero_le _, Nat.zero_le _⟩) ?_
  refine W.eq (g2 := F0 m 4 ls [.int (tt_isNum r9)]) rfl ?_
  refine lv_if_eq (tgt := 31) hx hb dB_put_4 (by decide) (fun c_1 => ?_) (fun c_1 => ?_)
  · refine lv_iconst (v := (-1)) hx hb dB_put_31 (by decide) ?_
    exact W.iret hx hb hr (fun t ht _ => ⟨tbI (rfl), ht⟩) (fun q hq => nomatch hq) dB_put_32
  · refine lv_iload_n hx hb dB_put_7 rfl (lv_at hl 2 rfl) ?_
    refine W.callV (W.runS (As := [.int g9]) (rest := []) ⟨hx, hb, hml, hown, hB⟩ (kB_isNumber l g9) ⟨callB_of 1 hB gwB_isNumber rfl rfl rfl (hB _ wd_1) (hB _ wd_65) ydB_isNumber ⟨Nat.le_of_ble_eq_true rfl, Nat.le_of_ble_eq_true rfl⟩, hB _ wd_66⟩ (preEq) rfl rfl hl.1 rfl (lv_room (Nat.le_of_ble_eq_true rfl)) dB_put_8 ⟨Nat.zero_le _, Nat.zero_le _⟩) ?_
    refine W.eq (g2 := F0 m 11 ls [.int (tt_isNum g9)]) rfl ?_
    refine lv_if_eq (tgt := 31) hx hb dB_put_11 (by decide) (fun c_2 => ?_) (fun c_2 => ?_)
    · refine lv_iconst (v := (-1)) hx hb dB_put_31 (by decide) ?_
      exact W.iret hx hb hr (fun t ht _ => ⟨tbI (rfl), ht⟩) (fun q hq => nomatch hq) dB_put_32
    · refine lv_iload_n hx hb dB_put_14 rfl (lv_at hl 3 rfl) ?_
      refine W.callV (W.runS (As := [.int b9]) (rest := []) ⟨hx, hb, hml, hown, hB⟩ (kB_isNumber l b9) ⟨callB_of 1 hB gwB_isNumber rfl rfl rfl (hB _ wd_1) (hB _ wd_65) ydB_isNumber ⟨Nat.le_of_ble_eq_true rfl, Nat.le_of_ble_eq_true rfl⟩, hB _ wd_66⟩ (preEq) rfl rfl hl.1 rfl (lv_room (Nat.le_of_ble_eq_true rfl)) dB_put_15 ⟨Nat.zero_le _, Nat.zero_le _⟩) ?_
      refine W.eq (g2 := F0 m 18 ls [.int (tt_isNum b9)]) rfl ?_
      refine lv_if_eq (tgt := 31) hx hb dB_put_18 (by decide) (fun c_3 => ?_) (fun c_3 => ?_)
      · refine lv_iconst (v := (-1)) hx hb dB_put_31 (by decide) ?_
        exact W.iret hx hb hr (fun t ht _ => ⟨tbI (rfl), ht⟩) (fun q hq => nomatch hq) dB_put_32
      · refine lv_aload_n hx hb dB_put_21 rfl (lv_at hl 0 rfl) ?_
        refine va_get (D := D) (ci := 1) (v := .int n) (C := RB) (T := FB) (N := 4) hx hb hB inB hown hK hP 0 rfl rfl 1 (by decide) (hB _ wd_49) (fun _ h9 => h9) rfl dB_put_22 ?_
        refine lv_sipush (v := 1024) hx hb dB_put_25 (by decide) ?_
        refine lv_icmp_lt (tgt := 33) hx hb dB_put_28 (by decide) (fun c_4 => ?_) (fun c_4 => ?_)
        · exact absurd (hno.elim (fun h => absurd h c_1) (fun h => h.elim (fun h => absurd h c_2) (fun h => h.elim (fun h => absurd h c_3) id))) (k2_nle c_4)
        · refine lv_iconst (v := (-1)) hx hb dB_put_31 (by decide) ?_
          exact W.iret hx hb hr (fun t ht _ => ⟨tbI (rfl), ht⟩) (fun q hq => nomatch hq) dB_put_32

set_option maxHeartbeats 4000000 in
set_option maxRecDepth 100000 in
theorem kB_put_ok (l : Launch) (D : va_G) (sz : Nat) (cI cT : ClassId) (x0 tx ta : Nat) (n : Nat) (hn : n < 1024) (c9 : Int32) (f : Nat → Int32) (r9 g9 b9 : Int32) (h1 : ¬ tt_isNum r9 = 0) (h2 : ¬ tt_isNum g9 = 0) (h3 : ¬ tt_isNum b9 = 0) : Met l yB_put wB_put (k2_rm 1 22) (wr_P [.ref x0, .int r9, .int g9, .int b9] sz D [(cI, .int), (cT, .object "TextureBank$Texture")] [(x0, .inr (1, [.ref tx, .int (nI n), .ref ta, .int c9])), (tx, .inl (cI, 1024, .inl f))]) (wr_Qi (nI (n + 1)) D (va_A [(x0, .inr (1, [.ref tx, .int (nI n), .ref ta, .int c9])), (tx, .inl (cI, 1024, .inl f))] sz) [(x0, .inr (1, [.ref tx, .int (nI (n + 1)), .ref ta, .int c9])), (tx, .inl (cI, 1024, .inl (upd f n (tt_col r9 g9 b9))))]) 0 0 (va_A [(x0, .inr (1, [.ref tx, .int (nI n), .ref ta, .int c9])), (tx, .inl (cI, 1024, .inl f))] sz) := by
  refine Met.ofW (cc := cB_put) (maxL := 4) (ret := (some .int)) (by decide) rfl ?_
  intro p e s m args below meth c s₁ B hml hv
  obtain ⟨rfl, hsz, hC, hP, hK, hD0⟩ := hv
  have hx := B.exec
  have hb := B.bytes
  have hr := B.returns
  have hB : ∀ w ∈ tbB, w.before _ s = true := fun w h => (atoms_spec (ws := wB_put) B.pre) w (List.mem_cons_of_mem _ h)
  have hown : s.vm.findClass "TextureBank" = some m.cls := findClass_of_methodNamed B.named
  have hlocks := B.notSynchronized
  subst hsz
  have hD := hD0.self (sz := s.heap.size)
  generalize hAe : va_A [(x0, .inr (1, [.ref tx, .int (nI n), .ref ta, .int c9])), (tx, .inl (cI, 1024, .inl f))] s.heap.size = A at hD ⊢
  have hA : ∀ q : Nat, s.heap.size ≤ q → A q := fun q h => by rw [← hAe]; exact Or.inr h
  have hS : va_S A s.heap s.heap [] := va_S.rf
  have hl := lv_entry ([.ref x0, .int r9, .int g9, .int b9]) (n := 4) (Nat.le_of_ble_eq_true rfl)
  rw [lg_entry_eq]
  generalize (lg_sl ([.ref x0, .int r9, .int g9, .int b9]) ++ List.replicate (4 - (lg_sl ([.ref x0, .int r9, .int g9, .int b9])).length) Slot.unset).toArray = ls at hl ⊢
  have hl : lv_has ls 4 [(0, .ref x0), (1, .int r9), (2, .int g9), (3, .int b9)] := hl
  refine lv_iload_n hx hb dB_put_0 rfl (lv_at hl 1 rfl) ?_
  refine W.callV (W.runS (As := [.int r9]) (rest := []) ⟨hx, hb, hml, hown, hB⟩ (kB_isNumber l r9) ⟨callB_of 1 hB gwB_isNumber rfl rfl rfl (hB _ wd_1) (hB _ wd_65) ydB_isNumber ⟨Nat.le_of_ble_eq_true rfl, Nat.le_of_ble_eq_true rfl⟩, hB _ wd_66⟩ (preEq) rfl rfl hl.1 rfl (lv_room (Nat.le_of_ble_eq_true rfl)) dB_put_1 ⟨Nat.zero_le _, Nat.zero_le _⟩) ?_
  refine W.eq (g2 := F0 m 4 ls [.int (tt_isNum r9)]) rfl ?_
  refine lv_if_eq (tgt := 31) hx hb dB_put_4 (by decide) (fun c_1 => ?_) (fun c_1 => ?_)
  · exact absurd c_1 h1
  · refine lv_iload_n hx hb dB_put_7 rfl (lv_at hl 2 rfl) ?_
    refine W.callV (W.runS (As := [.int g9]) (rest := []) ⟨hx, hb, hml, hown, hB⟩ (kB_isNumber l g9) ⟨callB_of 1 hB gwB_isNumber rfl rfl rfl (hB _ wd_1) (hB _ wd_65) ydB_isNumber ⟨Nat.le_of_ble_eq_true rfl, Nat.le_of_ble_eq_true rfl⟩, hB _ wd_66⟩ (preEq) rfl rfl hl.1 rfl (lv_room (Nat.le_of_ble_eq_true rfl)) dB_put_8 ⟨Nat.zero_le _, Nat.zero_le _⟩) ?_
    refine W.eq (g2 := F0 m 11 ls [.int (tt_isNum g9)]) rfl ?_
    refine lv_if_eq (tgt := 31) hx hb dB_put_11 (by decide) (fun c_2 => ?_) (fun c_2 => ?_)
    · exact absurd c_2 h2
    · refine lv_iload_n hx hb dB_put_14 rfl (lv_at hl 3 rfl) ?_
      refine W.callV (W.runS (As := [.int b9]) (rest := []) ⟨hx, hb, hml, hown, hB⟩ (kB_isNumber l b9) ⟨callB_of 1 hB gwB_isNumber rfl rfl rfl (hB _ wd_1) (hB _ wd_65) ydB_isNumber ⟨Nat.le_of_ble_eq_true rfl, Nat.le_of_ble_eq_true rfl⟩, hB _ wd_66⟩ (preEq) rfl rfl hl.1 rfl (lv_room (Nat.le_of_ble_eq_true rfl)) dB_put_15 ⟨Nat.zero_le _, Nat.zero_le _⟩) ?_
      refine W.eq (g2 := F0 m 18 ls [.int (tt_isNum b9)]) rfl ?_
      refine lv_if_eq (tgt := 31) hx hb dB_put_18 (by decide) (fun c_3 => ?_) (fun c_3 => ?_)
      · exact absurd c_3 h3
      · refine lv_aload_n hx hb dB_put_21 rfl (lv_at hl 0 rfl) ?_
        refine va_get (D := D) (ci := 1) (v := .int (nI n)) (C := RB) (T := FB) (N := 4) hx hb hB inB hown hK hP 0 rfl rfl 1 (by decide) (hB _ wd_49) (fun _ h9 => h9) rfl dB_put_22 ?_
        refine lv_sipush (v := 1024) hx hb dB_put_25 (by decide) ?_
        refine lv_icmp_lt (tgt := 33) hx hb dB_put_28 (by decide) (fun c_4 => ?_) (fun c_4 => ?_)
        · refine lv_aload_n hx hb dB_put_33 rfl (lv_at hl 0 rfl) ?_
          refine va_get (D := D) (ci := 1) (v := .ref tx) (C := RB) (T := FB) (N := 4) hx hb hB inB hown hK hP 0 rfl rfl 0 (by decide) (hB _ wd_48) (fun _ h9 => h9) rfl dB_put_34 ?_
          refine lv_aload_n hx hb dB_put_37 rfl (lv_at hl 0 rfl) ?_
          refine va_get (D := D) (ci := 1) (v := .int (nI n)) (C := RB) (T := FB) (N := 4) hx hb hB inB hown hK hP 0 rfl rfl 1 (by decide) (hB _ wd_49) (fun _ h9 => h9) rfl dB_put_38 ?_
          refine lv_iload_n hx hb dB_put_41 rfl (lv_at hl 1 rfl) ?_
          refine lv_iload_n hx hb dB_put_42 rfl (lv_at hl 2 rfl) ?_
          refine lv_iload_n hx hb dB_put_43 rfl (lv_at hl 3 rfl) ?_
          refine W.callV (W.runS (As := [.int r9, .int g9, .int b9]) (rest := [.int (nI n), .ref tx]) ⟨hx, hb, hml, hown, hB⟩ (kB_colourOf l r9 g9 b9) ⟨callB_of 3 hB gwB_colourOf rfl rfl rfl (hB _ wd_1) (hB _ wd_68) ydB_colourOf ⟨Nat.le_of_ble_eq_true rfl, Nat.le_of_ble_eq_true rfl⟩, hB _ wd_69⟩ (preEq) rfl rfl hl.1 rfl (lv_room (Nat.le_of_ble_eq_true rfl)) dB_put_44 ⟨Nat.zero_le _, Nat.zero_le _⟩) ?_
          refine W.eq (g2 := F0 m 47 ls [.int (tt_col r9 g9 b9), .int (nI n), .ref tx]) rfl ?_
          refine va_iast hx hb hK hP hD hS 1 0 rfl rfl (vp_in_nI hn (by omega)) dB_put_47 (fun H locs hP hD hS => ?_)
          have hP : va_P D tbCl [(x0, .inr (1, [.ref tx, .int (nI n), .ref ta, .int c9])), (tx, .inl (cI, 1024, .inl (upd f n (tt_col r9 g9 b9))))] H := by have hP9 := hP; rw [nI_clamp (by omega)] at hP9; exact hP9
          have hD : va_D A [(x0, .inr (1, [.ref tx, .int (nI n), .ref ta, .int c9])), (tx, .inl (cI, 1024, .inl (upd f n (tt_col r9 g9 b9))))] := wd_D hD rfl
          refine lv_aload_n hx hb dB_put_48 rfl (lv_at hl 0 rfl) ?_
          refine lv_dup hx hb dB_put_49 rfl ?_
          refine va_get (D := D) (ci := 1) (v := .int (nI n)) (C := RB) (T := FB) (N := 4) hx hb hB inB hown hK hP 0 rfl rfl 1 (by decide) (hB _ wd_49) (fun _ h9 => h9) rfl dB_put_50 ?_
          refine lv_iconst (v := 1) hx hb dB_put_53 (by decide) ?_
          refine lv_iadd hx hb dB_put_54 ?_
          refine W.eq (g2 := F0 m 55 ls [.int (nI (n + 1)), .ref x0]) (by rw [nI_1]) ?_
          refine va_put (D := D) (ci := 1) (v := .int (nI (n + 1))) (ty := .int) (C := RB) (T := FB) (N := 4) hx hb hB inB tyB tyB_ok nmB hown hK hP hD hS 0 rfl rfl 1 (by decide) (hB _ wd_49) (fun _ h9 => h9) rfl (by decide +kernel) rfl rfl (Nat.le_of_ble_eq_true rfl) dB_put_55 (fun H locs hP hD hS => ?_)
          have hP : va_P D tbCl [(x0, .inr (1, [.ref tx, .int (nI (n + 1)), .ref ta, .int c9])), (tx, .inl (cI, 1024, .inl (upd f n (tt_col r9 g9 b9))))] H := hP
          have hD : va_D A [(x0, .inr (1, [.ref tx, .int (nI (n + 1)), .ref ta, .int c9])), (tx, .inl (cI, 1024, .inl (upd f n (tt_col r9 g9 b9))))] := hD
          refine lv_aload_n hx hb dB_put_58 rfl (lv_at hl 0 rfl) ?_
          refine va_get (D := D) (ci := 1) (v := .int (nI (n + 1))) (C := RB) (T := FB) (N := 4) hx hb hB inB hown hK hP 0 rfl rfl 1 (by decide) (hB _ wd_49) (fun _ h9 => h9) rfl dB_put_59 ?_
          exact W.iret hx hb hr (fun t ht hW => ⟨⟨_, (), rfl, rfl, (by have h9 : va_P D tbCl [(x0, .inr (1, [.ref tx, .int (nI (n + 1)), .ref ta, .int c9])), (tx, .inl (cI, 1024, .inl (upd f n (tt_col r9 g9 b9))))] H := hP; rw [← ht] at h9; exact h9)⟩, hS.F ht⟩) hS.2.2 dB_put_62
        · exact absurd (show nI n < 1024 from nI_lt (b := 1024) hn (by omega)) c_4

set_option maxHeartbeats 4000000 in
set_option maxRecDepth 100000 in
theorem kB_clear (l : Launch) (D : va_G) (sz : Nat) (cI cT : ClassId) (x0 tx ta : Nat) (n c9 : Int32) : Met l yB_clear wB_clear (k2_rm 0 0) (wr_P [.ref x0] sz D [(cI, .int), (cT, .object "TextureBank$Texture")] [(x0, .inr (1, [.ref tx, .int n, .ref ta, .int c9]))]) (wr_Qv D (va_A [(x0, .inr (1, [.ref tx, .int n, .ref ta, .int c9]))] sz) [(x0, .inr (1, [.ref tx, .int n, .ref ta, .int 0]))]) 0 0 (va_A [(x0, .inr (1, [.ref tx, .int n, .ref ta, .int c9]))] sz) := by
  refine Met.ofW (cc := cB_clear) (maxL := 1) (ret := none) (by decide) rfl ?_
  intro p e s m args below meth c s₁ B hml hv
  obtain ⟨rfl, hsz, hC, hP, hK, hD0⟩ := hv
  have hx := B.exec
  have hb := B.bytes
  have hr := B.returns
  have hB : ∀ w ∈ tbB, w.before _ s = true := fun w h => (atoms_spec (ws := wB_clear) B.pre) w (List.mem_cons_of_mem _ h)
  have hown : s.vm.findClass "TextureBank" = some m.cls := findClass_of_methodNamed B.named
  have hlocks := B.notSynchronized
  subst hsz
  have hD := hD0.self (sz := s.heap.size)
  generalize hAe : va_A [(x0, .inr (1, [.ref tx, .int n, .ref ta, .int c9]))] s.heap.size = A at hD ⊢
  have hA : ∀ q : Nat, s.heap.size ≤ q → A q := fun q h => by rw [← hAe]; exact Or.inr h
  have hS : va_S A s.heap s.heap [] := va_S.rf
  have hl := lv_entry ([.ref x0]) (n := 1) (Nat.le_of_ble_eq_true rfl)
  rw [lg_entry_eq]
  generalize (lg_sl ([.ref x0]) ++ List.replicate (1 - (lg_sl ([.ref x0])).length) Slot.unset).toArray = ls at hl ⊢
  have hl : lv_has ls 1 [(0, .ref x0)] := hl
  refine lv_aload_n hx hb dB_clear_0 rfl (lv_at hl 0 rfl) ?_
  refine lv_iconst (v := 0) hx hb dB_clear_1 (by decide) ?_
  refine va_put (D := D) (ci := 1) (v := .int 0) (ty := .int) (C := RB) (T := FB) (N := 4) hx hb hB inB tyB tyB_ok nmB hown hK hP hD hS 0 rfl rfl 3 (by decide) (hB _ wd_51) (fun _ h9 => h9) rfl (by decide +kernel) rfl rfl (Nat.le_of_ble_eq_true rfl) dB_clear_2 (fun H locs hP hD hS => ?_)
  have hP : va_P D tbCl [(x0, .inr (1, [.ref tx, .int n, .ref ta, .int 0]))] H := hP
  have hD : va_D A [(x0, .inr (1, [.ref tx, .int n, .ref ta, .int 0]))] := hD
  exact W.vret hx hb hr (fun t ht hW => ⟨⟨(), rfl, trivial, (by have h9 := hP; rw [← ht] at h9; exact h9)⟩, hS.F ht⟩) hS.2.2 dB_clear_5

set_option maxHeartbeats 4000000 in
set_option maxRecDepth 100000 in
theorem kB_add_no (l : Launch) (D : va_G) (sz : Nat) (cI cT : ClassId) (x0 tx ta : Nat) (n c9 : Int32) (s9 w9 f9 : Int32) (hno : 8 ≤ c9 ∨ tt_isSide s9 = 0 ∨ tt_isWrap w9 = 0 ∨ tt_isSoft f9 = 0 ∨ ¬ n = s9 * s9) : Met l yB_add wB_add (k2_rm 2 40) (wr_P [.ref x0, .int s9, .int w9, .int f9] sz D [(cI, .int), (cT, .object "TextureBank$Texture")] [(x0, .inr (1, [.ref tx, .int n, .ref ta, .int c9]))]) (wr_Qi (-1) D (va_A [(x0, .inr (1, [.ref tx, .int n, .ref ta, .int c9]))] sz) [(x0, .inr (1, [.ref tx, .int 0, .ref ta, .int c9]))]) 0 0 (va_A [(x0, .inr (1, [.ref tx, .int n, .ref ta, .int c9]))] sz) := by
  refine Met.ofW (cc := cB_add) (maxL := 6) (ret := (some .int)) (by decide) rfl ?_
  intro p e s m args below meth c s₁ B hml hv
  obtain ⟨rfl, hsz, hC, hP, hK, hD0⟩ := hv
  have hx := B.exec
  have hb := B.bytes
  have hr := B.returns
  have hB : ∀ w ∈ tbB, w.before _ s = true := fun w h => (atoms_spec (ws := wB_add) B.pre) w (List.mem_cons_of_mem _ h)
  have hown : s.vm.findClass "TextureBank" = some m.cls := findClass_of_methodNamed B.named
  have hlocks := B.notSynchronized
  subst hsz
  have hD := hD0.self (sz := s.heap.size)
  generalize hAe : va_A [(x0, .inr (1, [.ref tx, .int n, .ref ta, .int c9]))] s.heap.size = A at hD ⊢
  have hA : ∀ q : Nat, s.heap.size ≤ q → A q := fun q h => by rw [← hAe]; exact Or.inr h
  have hS : va_S A s.heap s.heap [] := va_S.rf
  have hl := lv_entry ([.ref x0, .int s9, .int w9, .int f9]) (n := 6) (Nat.le_of_ble_eq_true rfl)
  rw [lg_entry_eq]
  generalize (lg_sl ([.ref x0, .int s9, .int w9, .int f9]) ++ List.replicate (6 - (lg_sl ([.ref x0, .int s9, .int w9, .int f9])).length) Slot.unset).toArray = ls at hl ⊢
  have hl : lv_has ls 6 [(0, .ref x0), (1, .int s9), (2, .int w9), (3, .int f9)] := hl
  refine lv_aload_n hx hb dB_add_0 rfl (lv_at hl 0 rfl) ?_
  refine va_get (D := D) (ci := 1) (v := .int n) (C := RB) (T := FB) (N := 4) hx hb hB inB hown hK hP 0 rfl rfl 1 (by decide) (hB _ wd_49) (fun _ h9 => h9) rfl dB_add_1 ?_
  refine lv_istore (lv' := [(4, .int n), (0, .ref x0), (1, .int s9), (2, .int w9), (3, .int f9)]) hx hb dB_add_4 hl (by decide) rfl (fun ls hl => ?_)
  refine lv_aload_n hx hb dB_add_6 rfl (lv_at hl 1 rfl) ?_
  refine lv_iconst (v := 0) hx hb dB_add_7 (by decide) ?_
  refine va_put (D := D) (ci := 1) (v := .int 0) (ty := .int) (C := RB) (T := FB) (N := 4) hx hb hB inB tyB tyB_ok nmB hown hK hP hD hS 0 rfl rfl 1 (by decide) (hB _ wd_49) (fun _ h9 => h9) rfl (by decide +kernel) rfl rfl (Nat.le_of_ble_eq_true rfl) dB_add_8 (fun H locs hP hD hS => ?_)
  have hP : va_P D tbCl [(x0, .inr (1, [.ref tx, .int 0, .ref ta, .int c9]))] H := hP
  have hD : va_D A [(x0, .inr (1, [.ref tx, .int 0, .ref ta, .int c9]))] := hD
  refine lv_aload_n hx hb dB_add_11 rfl (lv_at hl 1 rfl) ?_
  refine va_get (D := D) (ci := 1) (v := .int c9) (C := RB) (T := FB) (N := 4) hx hb hB inB hown hK hP 0 rfl rfl 3 (by decide) (hB _ wd_51) (fun _ h9 => h9) rfl dB_add_12 ?_
  refine lv_bipush (v := 8) hx hb dB_add_15 (by decide) ?_
  refine lv_icmp_ge (tgt := 41) hx hb dB_add_17 (by decide) (fun c_1 => ?_) (fun c_1 => ?_)
  · refine lv_iconst (v := (-1)) hx hb dB_add_41 (by decide) ?_
    exact W.iret hx hb hr (fun t ht hW => ⟨⟨_, (), rfl, rfl, (by have h9 : va_P D tbCl [(x0, .inr (1, [.ref tx, .int 0, .ref ta, .int c9]))] H := hP; rw [← ht] at h9; exact h9)⟩, hS.F ht⟩) hS.2.2 dB_add_42
  · refine lv_iload_n hx hb dB_add_20 rfl (lv_at hl 2 rfl) ?_
    refine W.callV (W.runS (As := [.int s9]) (rest := []) ⟨hx, hb, hml, hown, hB⟩ (kB_isSide l s9) ⟨callB_of 1 hB gwB_isSide rfl rfl rfl (hB _ wd_1) (hB _ wd_75) ydB_isSide ⟨Nat.le_of_ble_eq_true rfl, Nat.le_of_ble_eq_true rfl⟩, hB _ wd_76⟩ (preEq) rfl rfl hl.1 rfl (lv_room (Nat.le_of_ble_eq_true rfl)) dB_add_21 ⟨Nat.zero_le _, Nat.zero_le _⟩) ?_
    refine W.eq (g2 := F0 m 24 ls [.int (tt_isSide s9)]) rfl ?_
    refine lv_if_eq (tgt := 41) hx hb dB_add_24 (by decide) (fun c_2 => ?_) (fun c_2 => ?_)
    · refine lv_iconst (v := (-1)) hx hb dB_add_41 (by decide) ?_
      exact W.iret hx hb hr (fun t ht hW => ⟨⟨_, (), rfl, rfl, (by have h9 : va_P D tbCl [(x0, .inr (1, [.ref tx, .int 0, .ref ta, .int c9]))] H := hP; rw [← ht] at h9; exact h9)⟩, hS.F ht⟩) hS.2.2 dB_add_42
    · refine lv_iload_n hx hb dB_add_27 rfl (lv_at hl 3 rfl) ?_
      refine W.callV (W.runS (As := [.int w9]) (rest := []) ⟨hx, hb, hml, hown, hB⟩ (kB_isWrap l w9) ⟨callB_of 1 hB gwB_isWrap rfl rfl rfl (hB _ wd_1) (hB _ wd_84) ydB_isWrap ⟨Nat.le_of_ble_eq_true rfl, Nat.le_of_ble_eq_true rfl⟩, hB _ wd_85⟩ (preEq) rfl rfl hl.1 rfl (lv_room (Nat.le_of_ble_eq_true rfl)) dB_add_28 ⟨Nat.zero_le _, Nat.zero_le _⟩) ?_
      refine W.eq (g2 := F0 m 31 ls [.int (tt_isWrap w9)]) rfl ?_
      refine lv_if_eq (tgt := 41) hx hb dB_add_31 (by decide) (fun c_3 => ?_) (fun c_3 => ?_)
      · refine lv_iconst (v := (-1)) hx hb dB_add_41 (by decide) ?_
        exact W.iret hx hb hr (fun t ht hW => ⟨⟨_, (), rfl, rfl, (by have h9 : va_P D tbCl [(x0, .inr (1, [.ref tx, .int 0, .ref ta, .int c9]))] H := hP; rw [← ht] at h9; exact h9)⟩, hS.F ht⟩) hS.2.2 dB_add_42
      · refine lv_iload_n hx hb dB_add_34 rfl (lv_at hl 4 rfl) ?_
        refine W.callV (W.runS (As := [.int f9]) (rest := []) ⟨hx, hb, hml, hown, hB⟩ (kB_isSoft l f9) ⟨callB_of 1 hB gwB_isSoft rfl rfl rfl (hB _ wd_1) (hB _ wd_87) ydB_isSoft ⟨Nat.le_of_ble_eq_true rfl, Nat.le_of_ble_eq_true rfl⟩, hB _ wd_88⟩ (preEq) rfl rfl hl.1 rfl (lv_room (Nat.le_of_ble_eq_true rfl)) dB_add_35 ⟨Nat.zero_le _, Nat.zero_le _⟩) ?_
        refine W.eq (g2 := F0 m 38 ls [.int (tt_isSoft f9)]) rfl ?_
        refine lv_if_ne (tgt := 43) hx hb dB_add_38 (by decide) (fun c_4 => ?_) (fun c_4 => ?_)
        · refine lv_iload hx hb dB_add_43 (lv_at hl 0 rfl) ?_
          refine lv_iload_n hx hb dB_add_45 rfl (lv_at hl 2 rfl) ?_
          refine lv_iload_n hx hb dB_add_46 rfl (lv_at hl 2 rfl) ?_
          refine lv_imul hx hb dB_add_47 ?_
          refine lv_icmp_eq (tgt := 53) hx hb dB_add_48 (by decide) (fun c_5 => ?_) (fun c_5 => ?_)
          · exact absurd (hno.elim (fun h => absurd h c_1) (fun h => h.elim (fun h => absurd h c_2) (fun h => h.elim (fun h => absurd h c_3) (fun h => h.elim (fun h => absurd h c_4) id)))) (not_not_intro c_5)
          · refine lv_iconst (v := (-1)) hx hb dB_add_51 (by decide) ?_
            exact W.iret hx hb hr (fun t ht hW => ⟨⟨_, (), rfl, rfl, (by have h9 : va_P D tbCl [(x0, .inr (1, [.ref tx, .int 0, .ref ta, .int c9]))] H := hP; rw [← ht] at h9; exact h9)⟩, hS.F ht⟩) hS.2.2 dB_add_52
        · refine lv_iconst (v := (-1)) hx hb dB_add_41 (by decide) ?_
          exact W.iret hx hb hr (fun t ht hW => ⟨⟨_, (), rfl, rfl, (by have h9 : va_P D tbCl [(x0, .inr (1, [.ref tx, .int 0, .ref ta, .int c9]))] H := hP; rw [← ht] at h9; exact h9)⟩, hS.F ht⟩) hS.2.2 dB_add_42

set_option maxHeartbeats 4000000 in
set_option maxRecDepth 100000 in
theorem kB_add_ok (l : Launch) (D : va_G) (sz : Nat) (cI cT : ClassId) (x0 tx ta : Nat) (f g : Nat → Int32) (tq cq : Nat → Nat) (j : Nat) (hj : j < 8) (sd wr sf lv : Int32) (k : Nat) (hk : k ≤ 5) (w9 f9 : Int32) (hs : ¬ tt_isSide (nI (2 ^ k)) = 0) (hw9 : ¬ tt_isWrap w9 = 0) (hf9 : ¬ tt_isSoft f9 = 0) : Met l yB_add wB_add (k2_rm 5 127) (wr_P [.ref x0, .int (nI (2 ^ k)), .int w9, .int f9] sz D [(cI, .int), (cT, .object "TextureBank$Texture")] [(x0, .inr (1, [.ref tx, .int (nI (2 ^ k * 2 ^ k)), .ref ta, .int (nI j)])), (tx, .inl (cI, 1024, .inl f)), (ta, .inl (cT, 8, .inr (.inr (.inr (.inr (fun j => some (tq j))))))), (tq j, .inr (0, [.ref (cq j), .int sd, .int wr, .int sf, .int lv])), (cq j, .inl (cI, 1365, .inl g))]) (wr_Qi (nI j) D (va_A [(x0, .inr (1, [.ref tx, .int (nI (2 ^ k * 2 ^ k)), .ref ta, .int (nI j)])), (tx, .inl (cI, 1024, .inl f)), (ta, .inl (cT, 8, .inr (.inr (.inr (.inr (fun j => some (tq j))))))), (tq j, .inr (0, [.ref (cq j), .int sd, .int wr, .int sf, .int lv])), (cq j, .inl (cI, 1365, .inl g))] sz) [(x0, .inr (1, [.ref tx, .int 0, .ref ta, .int (nI (j + 1))])), (tx, .inl (cI, 1024, .inl f)), (ta, .inl (cT, 8, .inr (.inr (.inr (.inr (fun j => some (tq j))))))), (tq j, .inr (0, [.ref (cq j), .int (nI (2 ^ k)), .int w9, .int f9, .int (nI (k + 1))])), (cq j, .inl (cI, 1365, .inl (tt_fl (va_cpy f g 0 (st4 k) (4 ^ k)) k)))]) 0 0 (va_A [(x0, .inr (1, [.ref tx, .int (nI (2 ^ k * 2 ^ k)), .ref ta, .int (nI j)])), (tx, .inl (cI, 1024, .inl f)), (ta, .inl (cT, 8, .inr (.inr (.inr (.inr (fun j => some (tq j))))))), (tq j, .inr (0, [.ref (cq j), .int sd, .int wr, .int sf, .int lv])), (cq j, .inl (cI, 1365, .inl g))] sz) := by
  refine Met.ofW (cc := cB_add) (maxL := 6) (ret := (some .int)) (by decide) rfl ?_
  intro p e s m args below meth c s₁ B hml hv
  obtain ⟨rfl, hsz, hC, hP, hK, hD0⟩ := hv
  have hx := B.exec
  have hb := B.bytes
  have hr := B.returns
  have hB : ∀ w ∈ tbB, w.before _ s = true := fun w h => (atoms_spec (ws := wB_add) B.pre) w (List.mem_cons_of_mem _ h)
  have hown : s.vm.findClass "TextureBank" = some m.cls := findClass_of_methodNamed B.named
  have hlocks := B.notSynchronized
  subst hsz
  have hD := hD0.self (sz := s.heap.size)
  generalize hAe : va_A [(x0, .inr (1, [.ref tx, .int (nI (2 ^ k * 2 ^ k)), .ref ta, .int (nI j)])), (tx, .inl (cI, 1024, .inl f)), (ta, .inl (cT, 8, .inr (.inr (.inr (.inr (fun j => some (tq j))))))), (tq j, .inr (0, [.ref (cq j), .int sd, .int wr, .int sf, .int lv])), (cq j, .inl (cI, 1365, .inl g))] s.heap.size = A at hD ⊢
  have hA : ∀ q : Nat, s.heap.size ≤ q → A q := fun q h => by rw [← hAe]; exact Or.inr h
  have hS : va_S A s.heap s.heap [] := va_S.rf
  have hl := lv_entry ([.ref x0, .int (nI (2 ^ k)), .int w9, .int f9]) (n := 6) (Nat.le_of_ble_eq_true rfl)
  rw [lg_entry_eq]
  generalize (lg_sl ([.ref x0, .int (nI (2 ^ k)), .int w9, .int f9]) ++ List.replicate (6 - (lg_sl ([.ref x0, .int (nI (2 ^ k)), .int w9, .int f9])).length) Slot.unset).toArray = ls at hl ⊢
  have hl : lv_has ls 6 [(0, .ref x0), (1, .int (nI (2 ^ k))), (2, .int w9), (3, .int f9)] := hl
  refine lv_aload_n hx hb dB_add_0 rfl (lv_at hl 0 rfl) ?_
  refine va_get (D := D) (ci := 1) (v := .int (nI (2 ^ k * 2 ^ k))) (C := RB) (T := FB) (N := 4) hx hb hB inB hown hK hP 0 rfl rfl 1 (by decide) (hB _ wd_49) (fun _ h9 => h9) rfl dB_add_1 ?_
  refine lv_istore (lv' := [(4, .int (nI (2 ^ k * 2 ^ k))), (0, .ref x0), (1, .int (nI (2 ^ k))), (2, .int w9), (3, .int f9)]) hx hb dB_add_4 hl (by decide) rfl (fun ls hl => ?_)
  refine lv_aload_n hx hb dB_add_6 rfl (lv_at hl 1 rfl) ?_
  refine lv_iconst (v := 0) hx hb dB_add_7 (by decide) ?_
  refine va_put (D := D) (ci := 1) (v := .int 0) (ty := .int) (C := RB) (T := FB) (N := 4) hx hb hB inB tyB tyB_ok nmB hown hK hP hD hS 0 rfl rfl 1 (by decide) (hB _ wd_49) (fun _ h9 => h9) rfl (by decide +kernel) rfl rfl (Nat.le_of_ble_eq_true rfl) dB_add_8 (fun H locs hP hD hS => ?_)
  have hP : va_P D tbCl [(x0, .inr (1, [.ref tx, .int 0, .ref ta, .int (nI j)])), (tx, .inl (cI, 1024, .inl f)), (ta, .inl (cT, 8, .inr (.inr (.inr (.inr (fun j => some (tq j))))))), (tq j, .inr (0, [.ref (cq j), .int sd, .int wr, .int sf, .int lv])), (cq j, .inl (cI, 1365, .inl g))] H := hP
  have hD : va_D A [(x0, .inr (1, [.ref tx, .int 0, .ref ta, .int (nI j)])), (tx, .inl (cI, 1024, .inl f)), (ta, .inl (cT, 8, .inr (.inr (.inr (.inr (fun j => some (tq j))))))), (tq j, .inr (0, [.ref (cq j), .int sd, .int wr, .int sf, .int lv])), (cq j, .inl (cI, 1365, .inl g))] := hD
  refine lv_aload_n hx hb dB_add_11 rfl (lv_at hl 1 rfl) ?_
  refine va_get (D := D) (ci := 1) (v := .int (nI j)) (C := RB) (T := FB) (N := 4) hx hb hB inB hown hK hP 0 rfl rfl 3 (by decide) (hB _ wd_51) (fun _ h9 => h9) rfl dB_add_12 ?_
  refine lv_bipush (v := 8) hx hb dB_add_15 (by decide) ?_
  refine lv_icmp_ge (tgt := 41) hx hb dB_add_17 (by decide) (fun c_1 => ?_) (fun c_1 => ?_)
  · exact absurd c_1 (show ¬ (8 : Int32) ≤ nI j from nI_ge (b := 8) hj (by omega))
  · refine lv_iload_n hx hb dB_add_20 rfl (lv_at hl 2 rfl) ?_
    refine W.callV (W.runS (As := [.int (nI (2 ^ k))]) (rest := []) ⟨hx, hb, hml, hown, hB⟩ (kB_isSide l (nI (2 ^ k))) ⟨callB_of 1 hB gwB_isSide rfl rfl rfl (hB _ wd_1) (hB _ wd_75) ydB_isSide ⟨Nat.le_of_ble_eq_true rfl, Nat.le_of_ble_eq_true rfl⟩, hB _ wd_76⟩ (preEq) rfl rfl hl.1 rfl (lv_room (Nat.le_of_ble_eq_true rfl)) dB_add_21 ⟨Nat.zero_le _, Nat.zero_le _⟩) ?_
    refine W.eq (g2 := F0 m 24 ls [.int (tt_isSide (nI (2 ^ k)))]) rfl ?_
    refine lv_if_eq (tgt := 41) hx hb dB_add_24 (by decide) (fun c_2 => ?_) (fun c_2 => ?_)
    · exact absurd c_2 hs
    · refine lv_iload_n hx hb dB_add_27 rfl (lv_at hl 3 rfl) ?_
      refine W.callV (W.runS (As := [.int w9]) (rest := []) ⟨hx, hb, hml, hown, hB⟩ (kB_isWrap l w9) ⟨callB_of 1 hB gwB_isWrap rfl rfl rfl (hB _ wd_1) (hB _ wd_84) ydB_isWrap ⟨Nat.le_of_ble_eq_true rfl, Nat.le_of_ble_eq_true rfl⟩, hB _ wd_85⟩ (preEq) rfl rfl hl.1 rfl (lv_room (Nat.le_of_ble_eq_true rfl)) dB_add_28 ⟨Nat.zero_le _, Nat.zero_le _⟩) ?_
      refine W.eq (g2 := F0 m 31 ls [.int (tt_isWrap w9)]) rfl ?_
      refine lv_if_eq (tgt := 41) hx hb dB_add_31 (by decide) (fun c_3 => ?_) (fun c_3 => ?_)
      · exact absurd c_3 hw9
      · refine lv_iload_n hx hb dB_add_34 rfl (lv_at hl 4 rfl) ?_
        refine W.callV (W.runS (As := [.int f9]) (rest := []) ⟨hx, hb, hml, hown, hB⟩ (kB_isSoft l f9) ⟨callB_of 1 hB gwB_isSoft rfl rfl rfl (hB _ wd_1) (hB _ wd_87) ydB_isSoft ⟨Nat.le_of_ble_eq_true rfl, Nat.le_of_ble_eq_true rfl⟩, hB _ wd_88⟩ (preEq) rfl rfl hl.1 rfl (lv_room (Nat.le_of_ble_eq_true rfl)) dB_add_35 ⟨Nat.zero_le _, Nat.zero_le _⟩) ?_
        refine W.eq (g2 := F0 m 38 ls [.int (tt_isSoft f9)]) rfl ?_
        refine lv_if_ne (tgt := 43) hx hb dB_add_38 (by decide) (fun c_4 => ?_) (fun c_4 => ?_)
        · refine lv_iload hx hb dB_add_43 (lv_at hl 0 rfl) ?_
          refine lv_iload_n hx hb dB_add_45 rfl (lv_at hl 2 rfl) ?_
          refine lv_iload_n hx hb dB_add_46 rfl (lv_at hl 2 rfl) ?_
          refine lv_imul hx hb dB_add_47 ?_
          refine lv_icmp_eq (tgt := 53) hx hb dB_add_48 (by decide) (fun c_5 => ?_) (fun c_5 => ?_)
          · refine lv_aload_n hx hb dB_add_53 rfl (lv_at hl 1 rfl) ?_
            refine va_get (D := D) (ci := 1) (v := .int (nI j)) (C := RB) (T := FB) (N := 4) hx hb hB inB hown hK hP 0 rfl rfl 3 (by decide) (hB _ wd_51) (fun _ h9 => h9) rfl dB_add_54 ?_
            refine lv_istore (lv' := [(5, .int (nI j)), (4, .int (nI (2 ^ k * 2 ^ k))), (0, .ref x0), (1, .int (nI (2 ^ k))), (2, .int w9), (3, .int f9)]) hx hb dB_add_57 hl (by decide) rfl (fun ls hl => ?_)
            refine lv_aload_n hx hb dB_add_59 rfl (lv_at hl 2 rfl) ?_
            refine va_get (D := D) (ci := 1) (v := .ref ta) (C := RB) (T := FB) (N := 4) hx hb hB inB hown hK hP 0 rfl rfl 2 (by decide) (hB _ wd_50) (fun _ h9 => h9) rfl dB_add_60 ?_
            refine lv_iload hx hb dB_add_63 (lv_at hl 0 rfl) ?_
            refine va_aldq hx hb hK hP 2 1 (f := fun j => some (tq j)) rfl rfl (i := (nI j)) (vp_in_nI (by omega) (by omega)) dB_add_65 ?_
            refine W.eq (g2 := F0 m 66 ls [.ref (tq j)]) (by show F0 m _ ls (va_rf (some (tq (nI j).toNatClampNeg)) :: _) = _; rw [nI_clamp (by omega)]; rfl) ?_
            refine lv_aload_n hx hb dB_add_66 rfl (lv_at hl 2 rfl) ?_
            refine va_get (D := D) (ci := 1) (v := .ref tx) (C := RB) (T := FB) (N := 4) hx hb hB inB hown hK hP 0 rfl rfl 0 (by decide) (hB _ wd_48) (fun _ h9 => h9) rfl dB_add_67 ?_
            refine lv_iload_n hx hb dB_add_70 rfl (lv_at hl 3 rfl) ?_
            refine lv_iload_n hx hb dB_add_71 rfl (lv_at hl 4 rfl) ?_
            refine lv_iload_n hx hb dB_add_72 rfl (lv_at hl 5 rfl) ?_
            have hFc := va_free (wc := [(tq j, .inr (0, [.ref (cq j), .int sd, .int wr, .int sf, .int lv])), (cq j, .inl (cI, 1365, .inl g)), (tx, .inl (cI, 1024, .inl f))]) hD hS hA [3, 4, 1] rfl
            refine va_callv (va_runVN (C := "TextureBank$Texture") (As := [.ref tx, .int (nI (2 ^ k)), .int w9, .int f9]) (rest := []) ⟨hx, hb, hml, hown, hB⟩ (kT_fill l D H.size cI (tq j) (cq j) tx sd wr sf lv g f w9 f9 k hk) ⟨va_cnB 4 hB gwT_fill rfl rfl rfl (hC.2.2.2.2.2.1) (hB _ wd_2) ydT_fill ⟨Nat.le_of_ble_eq_true rfl, Nat.le_of_ble_eq_true rfl⟩, hB _ wd_92, hB _ ws_0⟩ (wr_V hC (hP.sub [3, 4, 1] rfl) (hK.sub [0] rfl) (hD.sub [3, 4, 1] (by decide) rfl) (va_recv hK hP (ci := 0) (q0 := 3) rfl rfl)) rfl rfl hl.1 rfl (lv_room (Nat.le_of_ble_eq_true rfl)) dB_add_73 ⟨Nat.zero_le _, Nat.zero_le _⟩) hS (fun q _ h => hFc q h) hFc (fun u t H1 locs ht hvm hw hB1 hz1 hk1 hS => ?_)
            have hP1 : va_P D tbCl [(tq j, .inr (0, [.ref (cq j), .int (nI (2 ^ k)), .int w9, .int f9, .int (nI (k + 1))])), (cq j, .inl (cI, 1365, .inl (tt_fl (va_cpy f g 0 (st4 k) (4 ^ k)) k))), (tx, .inl (cI, 1024, .inl f))] H1 := by have h9 := hB1; rw [← ht]; exact h9
            have hP : va_P D tbCl [(x0, .inr (1, [.ref tx, .int 0, .ref ta, .int (nI j)])), (tx, .inl (cI, 1024, .inl f)), (ta, .inl (cT, 8, .inr (.inr (.inr (.inr (fun j => some (tq j))))))), (tq j, .inr (0, [.ref (cq j), .int (nI (2 ^ k)), .int w9, .int f9, .int (nI (k + 1))])), (cq j, .inl (cI, 1365, .inl (tt_fl (va_cpy f g 0 (st4 k) (4 ^ k)) k)))] H1 := wd_back hP hD [3, 4, 1] rfl hk1 hP1 (by intro k q hq; match k, hq with | 0, hq => exact Or.inr ⟨by decide, hq⟩ | 1, hq => exact Or.inl ⟨2, hq⟩ | 2, hq => exact Or.inr ⟨by decide, hq⟩ | 3, hq => exact Or.inl ⟨0, hq⟩ | 4, hq => exact Or.inl ⟨1, hq⟩ | k + 5, hq => simp at hq)
            have hD : va_D A [(x0, .inr (1, [.ref tx, .int 0, .ref ta, .int (nI j)])), (tx, .inl (cI, 1024, .inl f)), (ta, .inl (cT, 8, .inr (.inr (.inr (.inr (fun j => some (tq j))))))), (tq j, .inr (0, [.ref (cq j), .int (nI (2 ^ k)), .int w9, .int f9, .int (nI (k + 1))])), (cq j, .inl (cI, 1365, .inl (tt_fl (va_cpy f g 0 (st4 k) (4 ^ k)) k)))] := wd_D hD rfl
            generalize H1 = H at hP hS ⊢
            refine W.eq (g2 := F0 m 76 ls []) rfl ?_
            refine lv_aload_n hx hb dB_add_76 rfl (lv_at hl 2 rfl) ?_
            refine lv_dup hx hb dB_add_77 rfl ?_
            refine va_get (D := D) (ci := 1) (v := .int (nI j)) (C := RB) (T := FB) (N := 4) hx hb hB inB hown hK hP 0 rfl rfl 3 (by decide) (hB _ wd_51) (fun _ h9 => h9) rfl dB_add_78 ?_
            refine lv_iconst (v := 1) hx hb dB_add_81 (by decide) ?_
            refine lv_iadd hx hb dB_add_82 ?_
            refine W.eq (g2 := F0 m 83 ls [.int (nI (j + 1)), .ref x0]) (by rw [nI_1]) ?_
            refine va_put (D := D) (ci := 1) (v := .int (nI (j + 1))) (ty := .int) (C := RB) (T := FB) (N := 4) hx hb hB inB tyB tyB_ok nmB hown hK hP hD hS 0 rfl rfl 3 (by decide) (hB _ wd_51) (fun _ h9 => h9) rfl (by decide +kernel) rfl rfl (Nat.le_of_ble_eq_true rfl) dB_add_83 (fun H locs hP hD hS => ?_)
            have hP : va_P D tbCl [(x0, .inr (1, [.ref tx, .int 0, .ref ta, .int (nI (j + 1))])), (tx, .inl (cI, 1024, .inl f)), (ta, .inl (cT, 8, .inr (.inr (.inr (.inr (fun j => some (tq j))))))), (tq j, .inr (0, [.ref (cq j), .int (nI (2 ^ k)), .int w9, .int f9, .int (nI (k + 1))])), (cq j, .inl (cI, 1365, .inl (tt_fl (va_cpy f g 0 (st4 k) (4 ^ k)) k)))] H := hP
            have hD : va_D A [(x0, .inr (1, [.ref tx, .int 0, .ref ta, .int (nI (j + 1))])), (tx, .inl (cI, 1024, .inl f)), (ta, .inl (cT, 8, .inr (.inr (.inr (.inr (fun j => some (tq j))))))), (tq j, .inr (0, [.ref (cq j), .int (nI (2 ^ k)), .int w9, .int f9, .int (nI (k + 1))])), (cq j, .inl (cI, 1365, .inl (tt_fl (va_cpy f g 0 (st4 k) (4 ^ k)) k)))] := hD
            refine lv_iload hx hb dB_add_86 (lv_at hl 0 rfl) ?_
            exact W.iret hx hb hr (fun t ht hW => ⟨⟨_, (), rfl, rfl, (by have h9 : va_P D tbCl [(x0, .inr (1, [.ref tx, .int 0, .ref ta, .int (nI (j + 1))])), (tx, .inl (cI, 1024, .inl f)), (ta, .inl (cT, 8, .inr (.inr (.inr (.inr (fun j => some (tq j))))))), (tq j, .inr (0, [.ref (cq j), .int (nI (2 ^ k)), .int w9, .int f9, .int (nI (k + 1))])), (cq j, .inl (cI, 1365, .inl (tt_fl (va_cpy f g 0 (st4 k) (4 ^ k)) k)))] H := hP; rw [← ht] at h9; exact h9)⟩, hS.F ht⟩) hS.2.2 dB_add_88
          · exact absurd (pk_mul _ _).symm c_5
        · exact absurd c_4 hf9
end
section
/-- one texture's two cells -/
def tbT (tq cq : Nat → Nat) (cI : ClassId) (S Wr O Lv : Nat → Int32) (G : Nat → Nat → Int32) (j : Nat) : va_W := [(tq j, .inr (0, [.ref (cq j), .int (S j), .int (Wr j), .int (O j), .int (Lv j)])), (cq j, .inl (cI, 1365, .inl (G j)))]
/-- the cells of a bank -/
def tbW (x tx ta : Nat) (tq cq : Nat → Nat) (cI cT : ClassId) (n c : Int32) (f : Nat → Int32) (S Wr O Lv : Nat → Int32) (G : Nat → Nat → Int32) : va_W :=
  (x, .inr (1, [.ref tx, .int n, .ref ta, .int c])) :: (tx, .inl (cI, 1024, .inl f)) :: (ta, .inl (cT, 8, .inr (.inr (.inr (.inr (fun j => some (tq j))))))) ::
  (tbT tq cq cI S Wr O Lv G 0 ++ (tbT tq cq cI S Wr O Lv G 1 ++ (tbT tq cq cI S Wr O Lv G 2 ++ (tbT tq cq cI S Wr O Lv G 3 ++ (tbT tq cq cI S Wr O Lv G 4 ++ (tbT tq cq cI S Wr O Lv G 5 ++ (tbT tq cq cI S Wr O Lv G 6 ++ tbT tq cq cI S Wr O Lv G 7)))))))
theorem tb_arr {cT : ClassId} {N : Nat} {F G : Nat → Option Nat} (h : ∀ j, j < N → F j = G j) : vp_cell cT (N, .inr (.inr (.inr (.inr F)))) = vp_cell cT (N, .inr (.inr (.inr (.inr G)))) := by
  rw [vp_cell_q, vp_cell_q]
  unfold arrV
  congr 1
  congr 1
  funext j
  show va_rf (F j.val) = va_rf (G j.val)
  rw [h j.val j.isLt]
theorem tb_canon {D : va_G} {H : Heap} {a b : Nat × va_E} {ta : Nat} {cT : ClassId} {F G : Nat → Option Nat} {r : va_W} (h : ∀ j, j < 8 → F j = G j) (hP : va_P D tbCl (a :: b :: (ta, .inl (cT, 8, .inr (.inr (.inr (.inr F))))) :: r) H) : va_P D tbCl (a :: b :: (ta, .inl (cT, 8, .inr (.inr (.inr (.inr G))))) :: r) H := by
  intro k q hq
  match k, hq with
  | 0, hq => exact hP 0 q hq
  | 1, hq => exact hP 1 q hq
  | 2, hq =>
    have e : (ta, (Sum.inl (cT, 8, Sum.inr (Sum.inr (Sum.inr (Sum.inr G)))) : va_E)) = q := Option.some.inj hq
    subst e
    have h2 := hP 2 _ rfl
    show H[ta]? = some _
    rw [← tb_arr h]
    exact h2
  | k + 3, hq => exact hP (k + 3) q hq
set_option maxHeartbeats 4000000 in
set_option maxRecDepth 100000 in
theorem kT_init (l : Launch) (D : va_G) (sz : Nat) (cI : ClassId) (t0 : Nat) : Met l yT_init wT_init ({ frames := 1, cells := 1, slots := 1365, locals := 20 }) (wr_P [.ref t0] sz D [(cI, .int)] [(t0, .inr (0, [.null, .int 0, .int 0, .int 0, .int 0]))]) (va_Qv (fun _ : Unit => True) (fun _ t => ∃ q0 : Nat, va_P D tbCl [(t0, .inr (0, [.ref q0, .int 0, .int 0, .int 0, .int 0])), (q0, .inl (cI, 1365, .inl (fun _ => 0)))] t.heap ∧ va_D (va_A [(t0, .inr (0, [.null, .int 0, .int 0, .int 0, .int 0]))] sz) [(t0, .inr (0, [.ref q0, .int 0, .int 0, .int 0, .int 0])), (q0, .inl (cI, 1365, .inl (fun _ => 0)))]) (va_A [(t0, .inr (0, [.null, .int 0, .int 0, .int 0, .int 0]))] sz)) 1 1365 (va_A [(t0, .inr (0, [.null, .int 0, .int 0, .int 0, .int 0]))] sz) := by
  refine Met.ofW (cc := cT_init) (maxL := 1) (ret := none) (by decide) rfl ?_
  intro p e s m args below meth c s₁ B hml hv
  obtain ⟨rfl, hsz, hC, hP, hK, hD0⟩ := hv
  have hin : meth.name = "<init>" := (name_of_methodNamed B.named B.method).1
  have hx := B.exec
  have hb := B.bytes
  have hr := B.returns
  have hB : ∀ w ∈ tbB, w.before _ s = true := fun w h => (atoms_spec (ws := wT_init) B.pre) w (List.mem_cons_of_mem _ h)
  have hown : s.vm.findClass "TextureBank$Texture" = some m.cls := findClass_of_methodNamed B.named
  have hlocks := B.notSynchronized
  subst hsz
  have hD := hD0.self (sz := s.heap.size)
  generalize hAe : va_A [(t0, .inr (0, [.null, .int 0, .int 0, .int 0, .int 0]))] s.heap.size = A at hD ⊢
  have hA : ∀ q : Nat, s.heap.size ≤ q → A q := fun q h => by rw [← hAe]; exact Or.inr h
  have hS : va_S A s.heap s.heap [] := va_S.rf
  have hl := lv_entry ([.ref t0]) (n := 1) (Nat.le_of_ble_eq_true rfl)
  rw [lg_entry_eq]
  generalize (lg_sl ([.ref t0]) ++ List.replicate (1 - (lg_sl ([.ref t0])).length) Slot.unset).toArray = ls at hl ⊢
  have hl : lv_has ls 1 [(0, .ref t0)] := hl
  refine lv_aload_n hx hb dT_init_0 rfl (lv_at hl 0 rfl) ?_
  refine W.objInit hx hb hown (hB _ wd_26) (hB _ wd_18) (hB _ wd_19) rfl (by rw [hml]; exact hl.1) rfl dT_init_1 (Nat.le_of_ble_eq_true rfl) (Nat.le_of_ble_eq_true rfl) ?_
  refine W.eq (g2 := F0 m 4 ls []) rfl ?_
  refine lv_aload_n hx hb dT_init_4 rfl (lv_at hl 0 rfl) ?_
  refine lv_sipush (v := 1365) hx hb dT_init_5 (by decide) ?_
  refine va_newa (atype := .int) (a0 := (1365, .inl (fun _ => 0))) (N' := 1365) (ty := .int) hx hb (hB _ wd_47) rfl hK hP hD hS hA (fun cA => rfl) (by decide) rfl (by decide) (Nat.le_of_ble_eq_true rfl) (Nat.le_of_ble_eq_true rfl) dT_init_8 (fun q0 cA9 H hK9 hP hD hS => ?_)
  obtain rfl : cI = cA9 := Option.some.inj ((show s.vm.findClass ("[" ++ (FieldType.int).toString) = some cI from (hK.2 0 _ rfl).2).symm.trans (show s.vm.findClass ("[" ++ (FieldType.int).toString) = some cA9 from (hK9.2 1 _ rfl).2))
  have hP : va_P D tbCl [(t0, .inr (0, [.null, .int 0, .int 0, .int 0, .int 0])), (q0, .inl (cI, 1365, .inl (fun _ => 0)))] H := hP
  have hD : va_D A [(t0, .inr (0, [.null, .int 0, .int 0, .int 0, .int 0])), (q0, .inl (cI, 1365, .inl (fun _ => 0)))] := hD
  refine va_putF (D := D) (ci := 0) (v := .ref q0) (ty := .array .int) (C := RT) (T := FT) (N := 5) hx hb hB inT tyT tyT_ok nmT hown hK hP hD hS 0 rfl rfl 0 (by decide) (hB _ wd_27) (fun _ h9 => h9) rfl hin rfl (by decide +kernel) rfl rfl (Nat.le_of_ble_eq_true rfl) dT_init_10 (fun H locs hP hD hS => ?_)
  have hP : va_P D tbCl [(t0, .inr (0, [.ref q0, .int 0, .int 0, .int 0, .int 0])), (q0, .inl (cI, 1365, .inl (fun _ => 0)))] H := hP
  have hD : va_D A [(t0, .inr (0, [.ref q0, .int 0, .int 0, .int 0, .int 0])), (q0, .inl (cI, 1365, .inl (fun _ => 0)))] := hD
  exact W.vret hx hb hr (fun t ht hW => ⟨⟨(), rfl, trivial, q0, (by have h9 : va_P D tbCl [(t0, .inr (0, [.ref q0, .int 0, .int 0, .int 0, .int 0])), (q0, .inl (cI, 1365, .inl (fun _ => 0)))] H := hP; rw [← ht] at h9; exact h9), hD⟩, hS.F ht⟩) hS.2.2 dT_init_13

set_option maxHeartbeats 16000000 in
set_option maxRecDepth 100000 in
theorem kB_init (l : Launch) (D : va_G) (sz : Nat) (x0 : Nat) : Met l yB_init wB_init ({ frames := 2, cells := 18, slots := 11992, locals := 40 }) (wr_P [.ref x0] sz D [] [(x0, .inr (1, [.null, .int 0, .null, .int 0]))]) (va_Qv (fun _ : Unit => True) (fun _ t => ∃ (tx ta : Nat) (tq cq : Nat → Nat) (cI cT : ClassId), va_P D tbCl (tbW x0 tx ta tq cq cI cT 0 0 (fun _ => 0) (fun _ => 0) (fun _ => 0) (fun _ => 0) (fun _ => 0) (fun _ _ => 0)) t.heap ∧ va_K D tbCl [(cI, .int), (cT, .object "TextureBank$Texture")] t ∧ va_D (va_A [(x0, .inr (1, [.null, .int 0, .null, .int 0]))] sz) (tbW x0 tx ta tq cq cI cT 0 0 (fun _ => 0) (fun _ => 0) (fun _ => 0) (fun _ => 0) (fun _ => 0) (fun _ _ => 0))) (va_A [(x0, .inr (1, [.null, .int 0, .null, .int 0]))] sz)) 18 11992 (va_A [(x0, .inr (1, [.null, .int 0, .null, .int 0]))] sz) := by
  refine Met.ofW (cc := cB_init) (maxL := 2) (ret := none) (by decide) rfl ?_
  intro p e s m args below meth c s₁ B hml hv
  obtain ⟨rfl, hsz, hC, hP, hK, hD0⟩ := hv
  have hin : meth.name = "<init>" := (name_of_methodNamed B.named B.method).1
  have hx := B.exec
  have hb := B.bytes
  have hr := B.returns
  have hB : ∀ w ∈ tbB, w.before _ s = true := fun w h => (atoms_spec (ws := wB_init) B.pre) w (List.mem_cons_of_mem _ h)
  have hown : s.vm.findClass "TextureBank" = some m.cls := findClass_of_methodNamed B.named
  have hlocks := B.notSynchronized
  subst hsz
  have hD := hD0.self (sz := s.heap.size)
  generalize hAe : va_A [(x0, .inr (1, [.null, .int 0, .null, .int 0]))] s.heap.size = A at hD ⊢
  have hA : ∀ q : Nat, s.heap.size ≤ q → A q := fun q h => by rw [← hAe]; exact Or.inr h
  have hS : va_S A s.heap s.heap [] := va_S.rf
  have hl := lv_entry ([.ref x0]) (n := 2) (Nat.le_of_ble_eq_true rfl)
  rw [lg_entry_eq]
  generalize (lg_sl ([.ref x0]) ++ List.replicate (2 - (lg_sl ([.ref x0])).length) Slot.unset).toArray = ls at hl ⊢
  have hl : lv_has ls 2 [(0, .ref x0)] := hl
  refine lv_aload_n hx hb dB_init_0 rfl (lv_at hl 0 rfl) ?_
  refine W.objInit hx hb hown (hB _ wd_17) (hB _ wd_18) (hB _ wd_19) rfl (by rw [hml]; exact hl.1) rfl dB_init_1 (Nat.le_of_ble_eq_true rfl) (Nat.le_of_ble_eq_true rfl) ?_
  refine W.eq (g2 := F0 m 4 ls []) rfl ?_
  refine lv_aload_n hx hb dB_init_4 rfl (lv_at hl 0 rfl) ?_
  refine lv_sipush (v := 1024) hx hb dB_init_5 (by decide) ?_
  refine va_newa (atype := .int) (a0 := (1024, .inl (fun _ => 0))) (N' := 1024) (ty := .int) hx hb (hB _ wd_47) rfl hK hP hD hS hA (fun cA => rfl) (by decide) rfl (by decide) (Nat.le_of_ble_eq_true rfl) (Nat.le_of_ble_eq_true rfl) dB_init_8 (fun tx cI H hK hP hD hS => ?_)
  have hK : va_K D tbCl [(cI, .int)] s := hK
  have hP : va_P D tbCl [(x0, .inr (1, [.null, .int 0, .null, .int 0])), (tx, .inl (cI, 1024, .inl (fun _ => 0)))] H := hP
  have hD : va_D A [(x0, .inr (1, [.null, .int 0, .null, .int 0])), (tx, .inl (cI, 1024, .inl (fun _ => 0)))] := hD
  refine W.widen (k := 1) (n := 1024) (by omega) (by omega) ?_
  refine va_putF (D := D) (ci := 1) (v := .ref tx) (ty := .array .int) (C := RB) (T := FB) (N := 4) hx hb hB inB tyB tyB_ok nmB hown hK hP hD hS 0 rfl rfl 0 (by decide) (hB _ wd_48) (fun _ h9 => h9) rfl hin rfl (by decide +kernel) rfl rfl (Nat.le_of_ble_eq_true rfl) dB_init_10 (fun H locs hP hD hS => ?_)
  have hP : va_P D tbCl [(x0, .inr (1, [.ref tx, .int 0, .null, .int 0])), (tx, .inl (cI, 1024, .inl (fun _ => 0)))] H := hP
  have hD : va_D A [(x0, .inr (1, [.ref tx, .int 0, .null, .int 0])), (tx, .inl (cI, 1024, .inl (fun _ => 0)))] := hD
  refine lv_aload_n hx hb dB_init_13 rfl (lv_at hl 0 rfl) ?_
  refine lv_iconst (v := 0) hx hb dB_init_14 (by decide) ?_
  refine va_put (D := D) (ci := 1) (v := .int 0) (ty := .int) (C := RB) (T := FB) (N := 4) hx hb hB inB tyB tyB_ok nmB hown hK hP hD hS 0 rfl rfl 1 (by decide) (hB _ wd_49) (fun _ h9 => h9) rfl (by decide +kernel) rfl rfl (Nat.le_of_ble_eq_true rfl) dB_init_15 (fun H locs hP hD hS => ?_)
  have hP : va_P D tbCl [(x0, .inr (1, [.ref tx, .int 0, .null, .int 0])), (tx, .inl (cI, 1024, .inl (fun _ => 0)))] H := hP
  have hD : va_D A [(x0, .inr (1, [.ref tx, .int 0, .null, .int 0])), (tx, .inl (cI, 1024, .inl (fun _ => 0)))] := hD
  refine lv_aload_n hx hb dB_init_18 rfl (lv_at hl 0 rfl) ?_
  refine lv_bipush (v := 8) hx hb dB_init_19 (by decide) ?_
  refine va_newq hx hb hown (hB _ wd_20) hC.2.2.2.2.2.2.2.2.2.2.2.2.2 hK hP hD hS hA (by decide) (N' := 8) rfl (by decide) (Nat.le_of_ble_eq_true rfl) (Nat.le_of_ble_eq_true rfl) dB_init_21 (fun ta cT H hK hP hD hS => ?_)
  have hK : va_K D tbCl [(cI, .int), (cT, .object "TextureBank$Texture")] s := hK
  have hP : va_P D tbCl [(x0, .inr (1, [.ref tx, .int 0, .null, .int 0])), (tx, .inl (cI, 1024, .inl (fun _ => 0))), (ta, .inl (cT, 8, .inr (.inr (.inr (.inr (fun _ => none))))))] H := hP
  have hD : va_D A [(x0, .inr (1, [.ref tx, .int 0, .null, .int 0])), (tx, .inl (cI, 1024, .inl (fun _ => 0))), (ta, .inl (cT, 8, .inr (.inr (.inr (.inr (fun _ => none))))))] := hD
  refine W.widen (k := 2) (n := 1032) (by omega) (by omega) ?_
  refine va_putF (D := D) (ci := 1) (v := .ref ta) (ty := .array (.object "TextureBank$Texture")) (C := RB) (T := FB) (N := 4) hx hb hB inB tyB tyB_ok nmB hown hK hP hD hS 0 rfl rfl 2 (by decide) (hB _ wd_50) (fun _ h9 => h9) rfl hin rfl (by decide +kernel) rfl rfl (Nat.le_of_ble_eq_true rfl) dB_init_24 (fun H locs hP hD hS => ?_)
  have hP : va_P D tbCl [(x0, .inr (1, [.ref tx, .int 0, .ref ta, .int 0])), (tx, .inl (cI, 1024, .inl (fun _ => 0))), (ta, .inl (cT, 8, .inr (.inr (.inr (.inr (fun _ => none))))))] H := hP
  have hD : va_D A [(x0, .inr (1, [.ref tx, .int 0, .ref ta, .int 0])), (tx, .inl (cI, 1024, .inl (fun _ => 0))), (ta, .inl (cT, 8, .inr (.inr (.inr (.inr (fun _ => none))))))] := hD
  refine lv_iconst (v := 0) hx hb dB_init_27 (by decide) ?_
  refine lv_istore_n (lv' := [(1, .int 0), (0, .ref x0)]) hx hb dB_init_28 rfl hl (by decide) rfl (fun ls hl => ?_)
  refine lv_iload_n hx hb dB_init_29 rfl (lv_at hl 0 rfl) ?_
  refine lv_bipush (v := 8) hx hb dB_init_30 (by decide) ?_
  refine lv_icmp_ge (tgt := 54) hx hb dB_init_32 (by decide) (fun c_1 => absurd c_1 (by decide)) (fun c_1 => ?_)
  refine lv_aload_n hx hb dB_init_35 rfl (lv_at hl 1 rfl) ?_
  refine va_get (D := D) (ci := 1) (v := .ref ta) (C := RB) (T := FB) (N := 4) hx hb hB inB hown hK hP 0 rfl rfl 2 (by decide) (hB _ wd_50) (fun _ h9 => h9) rfl dB_init_36 ?_
  refine lv_iload_n hx hb dB_init_39 rfl (lv_at hl 0 rfl) ?_
  refine va_new (ci := 0) (fs := [.null, .int 0, .int 0, .int 0, .int 0]) (C := RT) (T := FT) (N := 5) hx hb hB inT tyT tyT_ok hown (hB _ wd_20) (hB _ wd_22) (hB _ wd_2) hK hP hD hS hA rfl (fun j hj => by rcases (show j = 0 ∨ j = 1 ∨ j = 2 ∨ j = 3 ∨ j = 4 by omega) with rfl | rfl | rfl | rfl | rfl <;> rfl) (Nat.le_of_ble_eq_true rfl) (Nat.le_of_ble_eq_true rfl) dB_init_40 (fun t0 H hP hD hS => ?_)
  have hP : va_P D tbCl [(x0, .inr (1, [.ref tx, .int 0, .ref ta, .int 0])), (tx, .inl (cI, 1024, .inl (fun _ => 0))), (ta, .inl (cT, 8, .inr (.inr (.inr (.inr (fun _ => none)))))), (t0, .inr (0, [.null, .int 0, .int 0, .int 0, .int 0]))] H := hP
  have hD : va_D A [(x0, .inr (1, [.ref tx, .int 0, .ref ta, .int 0])), (tx, .inl (cI, 1024, .inl (fun _ => 0))), (ta, .inl (cT, 8, .inr (.inr (.inr (.inr (fun _ => none)))))), (t0, .inr (0, [.null, .int 0, .int 0, .int 0, .int 0]))] := hD
  refine W.widen (k := 3) (n := 1037) (by omega) (by omega) ?_
  refine lv_dup hx hb dB_init_43 rfl ?_
  have hFc := va_free (wc := [(t0, .inr (0, [.null, .int 0, .int 0, .int 0, .int 0]))]) hD hS hA [3] rfl
  refine va_callv (va_runIN (As := []) (rest := [.ref t0, .int 0, .ref ta]) ⟨hx, hb, hml, hown, hB⟩ (kT_init l D H.size cI t0) ⟨va_cnB 0 hB gwT_init rfl rfl rfl (hC.1) (hB _ wd_2) ydT_init ⟨Nat.le_of_ble_eq_true rfl, Nat.le_of_ble_eq_true rfl⟩, rfl, hB _ wd_24⟩ (wr_S hC (hP.sub [3] rfl) (hK.sub [0] rfl) (hD.sub [3] (by decide) rfl)) rfl rfl hl.1 rfl (lv_room (Nat.le_of_ble_eq_true rfl)) dB_init_44 ⟨Nat.le_of_ble_eq_true rfl, Nat.le_of_ble_eq_true rfl⟩) hS (fun q _ h => hFc q h) hFc (fun u t H1 locs ht hvm hw hB1 hz1 hk1 hS => ?_)
  obtain ⟨g0, hP1, hD1⟩ := hB1
  rw [ht] at hP1
  obtain ⟨hP, hD⟩ := va_join (wr := [(x0, .inr (1, [.ref tx, .int 0, .ref ta, .int 0])), (tx, .inl (cI, 1024, .inl (fun _ => 0))), (ta, .inl (cT, 8, .inr (.inr (.inr (.inr (fun _ => none))))))]) (w1 := [(t0, .inr (0, [.ref g0, .int 0, .int 0, .int 0, .int 0])), (g0, .inl (cI, 1365, .inl (fun _ => 0)))]) hP hD [3] [0, 1, 2] rfl rfl (by decide) (by decide) hk1 hFc hP1 hD1
  generalize H1 = H at hP hS ⊢
  have hP : va_P D tbCl [(x0, .inr (1, [.ref tx, .int 0, .ref ta, .int 0])), (tx, .inl (cI, 1024, .inl (fun _ => 0))), (ta, .inl (cT, 8, .inr (.inr (.inr (.inr (fun _ => none)))))), (t0, .inr (0, [.ref g0, .int 0, .int 0, .int 0, .int 0])), (g0, .inl (cI, 1365, .inl (fun _ => 0)))] H := hP
  have hD : va_D A [(x0, .inr (1, [.ref tx, .int 0, .ref ta, .int 0])), (tx, .inl (cI, 1024, .inl (fun _ => 0))), (ta, .inl (cT, 8, .inr (.inr (.inr (.inr (fun _ => none)))))), (t0, .inr (0, [.ref g0, .int 0, .int 0, .int 0, .int 0])), (g0, .inl (cI, 1365, .inl (fun _ => 0)))] := hD
  refine W.widen (k := 4) (n := 2402) (by omega) (by omega) ?_
  refine va_astq hx hb hK hP hD hS 2 1 3 0 rfl rfl rfl rfl (i := 0) (vp_in_nI (n := 0) (N := 8) (by decide) (by decide)) dB_init_47 (fun H locs hP hD hS => ?_)
  have hP : va_P D tbCl [(x0, .inr (1, [.ref tx, .int 0, .ref ta, .int 0])), (tx, .inl (cI, 1024, .inl (fun _ => 0))), (ta, .inl (cT, 8, .inr (.inr (.inr (.inr (va_up (fun _ => none) 0 (some t0))))))), (t0, .inr (0, [.ref g0, .int 0, .int 0, .int 0, .int 0])), (g0, .inl (cI, 1365, .inl (fun _ => 0)))] H := hP
  have hD : va_D A [(x0, .inr (1, [.ref tx, .int 0, .ref ta, .int 0])), (tx, .inl (cI, 1024, .inl (fun _ => 0))), (ta, .inl (cT, 8, .inr (.inr (.inr (.inr (va_up (fun _ => none) 0 (some t0))))))), (t0, .inr (0, [.ref g0, .int 0, .int 0, .int 0, .int 0])), (g0, .inl (cI, 1365, .inl (fun _ => 0)))] := wd_D hD rfl
  refine lv_iinc (v := 1) (lv' := [(1, .int 1), (0, .ref x0)]) hx hb dB_init_48 hl (k := 0) rfl (by decide) (by decide) rfl (fun ls hl => ?_)
  refine lv_goto (tgt := 29) hx hb dB_init_51 (by decide) ?_
  refine lv_iload_n hx hb dB_init_29 rfl (lv_at hl 0 rfl) ?_
  refine lv_bipush (v := 8) hx hb dB_init_30 (by decide) ?_
  refine lv_icmp_ge (tgt := 54) hx hb dB_init_32 (by decide) (fun c_2 => absurd c_2 (by decide)) (fun c_2 => ?_)
  refine lv_aload_n hx hb dB_init_35 rfl (lv_at hl 1 rfl) ?_
  refine va_get (D := D) (ci := 1) (v := .ref ta) (C := RB) (T := FB) (N := 4) hx hb hB inB hown hK hP 0 rfl rfl 2 (by decide) (hB _ wd_50) (fun _ h9 => h9) rfl dB_init_36 ?_
  refine lv_iload_n hx hb dB_init_39 rfl (lv_at hl 0 rfl) ?_
  refine va_new (ci := 0) (fs := [.null, .int 0, .int 0, .int 0, .int 0]) (C := RT) (T := FT) (N := 5) hx hb hB inT tyT tyT_ok hown (hB _ wd_20) (hB _ wd_22) (hB _ wd_2) hK hP hD hS hA rfl (fun j hj => by rcases (show j = 0 ∨ j = 1 ∨ j = 2 ∨ j = 3 ∨ j = 4 by omega) with rfl | rfl | rfl | rfl | rfl <;> rfl) (Nat.le_of_ble_eq_true rfl) (Nat.le_of_ble_eq_true rfl) dB_init_40 (fun t1 H hP hD hS => ?_)
  have hP : va_P D tbCl [(x0, .inr (1, [.ref tx, .int 0, .ref ta, .int 0])), (tx, .inl (cI, 1024, .inl (fun _ => 0))), (ta, .inl (cT, 8, .inr (.inr (.inr (.inr (va_up (fun _ => none) 0 (some t0))))))), (t0, .inr (0, [.ref g0, .int 0, .int 0, .int 0, .int 0])), (g0, .inl (cI, 1365, .inl (fun _ => 0))), (t1, .inr (0, [.null, .int 0, .int 0, .int 0, .int 0]))] H := hP
  have hD : va_D A [(x0, .inr (1, [.ref tx, .int 0, .ref ta, .int 0])), (tx, .inl (cI, 1024, .inl (fun _ => 0))), (ta, .inl (cT, 8, .inr (.inr (.inr (.inr (va_up (fun _ => none) 0 (some t0))))))), (t0, .inr (0, [.ref g0, .int 0, .int 0, .int 0, .int 0])), (g0, .inl (cI, 1365, .inl (fun _ => 0))), (t1, .inr (0, [.null, .int 0, .int 0, .int 0, .int 0]))] := hD
  refine W.widen (k := 5) (n := 2407) (by omega) (by omega) ?_
  refine lv_dup hx hb dB_init_43 rfl ?_
  have hFc := va_free (wc := [(t1, .inr (0, [.null, .int 0, .int 0, .int 0, .int 0]))]) hD hS hA [5] rfl
  refine va_callv (va_runIN (As := []) (rest := [.ref t1, .int 1, .ref ta]) ⟨hx, hb, hml, hown, hB⟩ (kT_init l D H.size cI t1) ⟨va_cnB 0 hB gwT_init rfl rfl rfl (hC.1) (hB _ wd_2) ydT_init ⟨Nat.le_of_ble_eq_true rfl, Nat.le_of_ble_eq_true rfl⟩, rfl, hB _ wd_24⟩ (wr_S hC (hP.sub [5] rfl) (hK.sub [0] rfl) (hD.sub [5] (by decide) rfl)) rfl rfl hl.1 rfl (lv_room (Nat.le_of_ble_eq_true rfl)) dB_init_44 ⟨Nat.le_of_ble_eq_true rfl, Nat.le_of_ble_eq_true rfl⟩) hS (fun q _ h => hFc q h) hFc (fun u t H1 locs ht hvm hw hB1 hz1 hk1 hS => ?_)
  obtain ⟨g1, hP1, hD1⟩ := hB1
  rw [ht] at hP1
  obtain ⟨hP, hD⟩ := va_join (wr := [(x0, .inr (1, [.ref tx, .int 0, .ref ta, .int 0])), (tx, .inl (cI, 1024, .inl (fun _ => 0))), (ta, .inl (cT, 8, .inr (.inr (.inr (.inr (va_up (fun _ => none) 0 (some t0))))))), (t0, .inr (0, [.ref g0, .int 0, .int 0, .int 0, .int 0])), (g0, .inl (cI, 1365, .inl (fun _ => 0)))]) (w1 := [(t1, .inr (0, [.ref g1, .int 0, .int 0, .int 0, .int 0])), (g1, .inl (cI, 1365, .inl (fun _ => 0)))]) hP hD [5] [0, 1, 2, 3, 4] rfl rfl (by decide) (by decide) hk1 hFc hP1 hD1
  generalize H1 = H at hP hS ⊢
  have hP : va_P D tbCl [(x0, .inr (1, [.ref tx, .int 0, .ref ta, .int 0])), (tx, .inl (cI, 1024, .inl (fun _ => 0))), (ta, .inl (cT, 8, .inr (.inr (.inr (.inr (va_up (fun _ => none) 0 (some t0))))))), (t0, .inr (0, [.ref g0, .int 0, .int 0, .int 0, .int 0])), (g0, .inl (cI, 1365, .inl (fun _ => 0))), (t1, .inr (0, [.ref g1, .int 0, .int 0, .int 0, .int 0])), (g1, .inl (cI, 1365, .inl (fun _ => 0)))] H := hP
  have hD : va_D A [(x0, .inr (1, [.ref tx, .int 0, .ref ta, .int 0])), (tx, .inl (cI, 1024, .inl (fun _ => 0))), (ta, .inl (cT, 8, .inr (.inr (.inr (.inr (va_up (fun _ => none) 0 (some t0))))))), (t0, .inr (0, [.ref g0, .int 0, .int 0, .int 0, .int 0])), (g0, .inl (cI, 1365, .inl (fun _ => 0))), (t1, .inr (0, [.ref g1, .int 0, .int 0, .int 0, .int 0])), (g1, .inl (cI, 1365, .inl (fun _ => 0)))] := hD
  refine W.widen (k := 6) (n := 3772) (by omega) (by omega) ?_
  refine va_astq hx hb hK hP hD hS 2 1 5 0 rfl rfl rfl rfl (i := 1) (vp_in_nI (n := 1) (N := 8) (by decide) (by decide)) dB_init_47 (fun H locs hP hD hS => ?_)
  have hP : va_P D tbCl [(x0, .inr (1, [.ref tx, .int 0, .ref ta, .int 0])), (tx, .inl (cI, 1024, .inl (fun _ => 0))), (ta, .inl (cT, 8, .inr (.inr (.inr (.inr (va_up (va_up (fun _ => none) 0 (some t0)) 1 (some t1))))))), (t0, .inr (0, [.ref g0, .int 0, .int 0, .int 0, .int 0])), (g0, .inl (cI, 1365, .inl (fun _ => 0))), (t1, .inr (0, [.ref g1, .int 0, .int 0, .int 0, .int 0])), (g1, .inl (cI, 1365, .inl (fun _ => 0)))] H := hP
  have hD : va_D A [(x0, .inr (1, [.ref tx, .int 0, .ref ta, .int 0])), (tx, .inl (cI, 1024, .inl (fun _ => 0))), (ta, .inl (cT, 8, .inr (.inr (.inr (.inr (va_up (va_up (fun _ => none) 0 (some t0)) 1 (some t1))))))), (t0, .inr (0, [.ref g0, .int 0, .int 0, .int 0, .int 0])), (g0, .inl (cI, 1365, .inl (fun _ => 0))), (t1, .inr (0, [.ref g1, .int 0, .int 0, .int 0, .int 0])), (g1, .inl (cI, 1365, .inl (fun _ => 0)))] := wd_D hD rfl
  refine lv_iinc (v := 2) (lv' := [(1, .int 2), (0, .ref x0)]) hx hb dB_init_48 hl (k := 0) rfl (by decide) (by decide) rfl (fun ls hl => ?_)
  refine lv_goto (tgt := 29) hx hb dB_init_51 (by decide) ?_
  refine lv_iload_n hx hb dB_init_29 rfl (lv_at hl 0 rfl) ?_
  refine lv_bipush (v := 8) hx hb dB_init_30 (by decide) ?_
  refine lv_icmp_ge (tgt := 54) hx hb dB_init_32 (by decide) (fun c_3 => absurd c_3 (by decide)) (fun c_3 => ?_)
  refine lv_aload_n hx hb dB_init_35 rfl (lv_at hl 1 rfl) ?_
  refine va_get (D := D) (ci := 1) (v := .ref ta) (C := RB) (T := FB) (N := 4) hx hb hB inB hown hK hP 0 rfl rfl 2 (by decide) (hB _ wd_50) (fun _ h9 => h9) rfl dB_init_36 ?_
  refine lv_iload_n hx hb dB_init_39 rfl (lv_at hl 0 rfl) ?_
  refine va_new (ci := 0) (fs := [.null, .int 0, .int 0, .int 0, .int 0]) (C := RT) (T := FT) (N := 5) hx hb hB inT tyT tyT_ok hown (hB _ wd_20) (hB _ wd_22) (hB _ wd_2) hK hP hD hS hA rfl (fun j hj => by rcases (show j = 0 ∨ j = 1 ∨ j = 2 ∨ j = 3 ∨ j = 4 by omega) with rfl | rfl | rfl | rfl | rfl <;> rfl) (Nat.le_of_ble_eq_true rfl) (Nat.le_of_ble_eq_true rfl) dB_init_40 (fun t2 H hP hD hS => ?_)
  have hP : va_P D tbCl [(x0, .inr (1, [.ref tx, .int 0, .ref ta, .int 0])), (tx, .inl (cI, 1024, .inl (fun _ => 0))), (ta, .inl (cT, 8, .inr (.inr (.inr (.inr (va_up (va_up (fun _ => none) 0 (some t0)) 1 (some t1))))))), (t0, .inr (0, [.ref g0, .int 0, .int 0, .int 0, .int 0])), (g0, .inl (cI, 1365, .inl (fun _ => 0))), (t1, .inr (0, [.ref g1, .int 0, .int 0, .int 0, .int 0])), (g1, .inl (cI, 1365, .inl (fun _ => 0))), (t2, .inr (0, [.null, .int 0, .int 0, .int 0, .int 0]))] H := hP
  have hD : va_D A [(x0, .inr (1, [.ref tx, .int 0, .ref ta, .int 0])), (tx, .inl (cI, 1024, .inl (fun _ => 0))), (ta, .inl (cT, 8, .inr (.inr (.inr (.inr (va_up (va_up (fun _ => none) 0 (some t0)) 1 (some t1))))))), (t0, .inr (0, [.ref g0, .int 0, .int 0, .int 0, .int 0])), (g0, .inl (cI, 1365, .inl (fun _ => 0))), (t1, .inr (0, [.ref g1, .int 0, .int 0, .int 0, .int 0])), (g1, .inl (cI, 1365, .inl (fun _ => 0))), (t2, .inr (0, [.null, .int 0, .int 0, .int 0, .int 0]))] := hD
  refine W.widen (k := 7) (n := 3777) (by omega) (by omega) ?_
  refine lv_dup hx hb dB_init_43 rfl ?_
  have hFc := va_free (wc := [(t2, .inr (0, [.null, .int 0, .int 0, .int 0, .int 0]))]) hD hS hA [7] rfl
  refine va_callv (va_runIN (As := []) (rest := [.ref t2, .int 2, .ref ta]) ⟨hx, hb, hml, hown, hB⟩ (kT_init l D H.size cI t2) ⟨va_cnB 0 hB gwT_init rfl rfl rfl (hC.1) (hB _ wd_2) ydT_init ⟨Nat.le_of_ble_eq_true rfl, Nat.le_of_ble_eq_true rfl⟩, rfl, hB _ wd_24⟩ (wr_S hC (hP.sub [7] rfl) (hK.sub [0] rfl) (hD.sub [7] (by decide) rfl)) rfl rfl hl.1 rfl (lv_room (Nat.le_of_ble_eq_true rfl)) dB_init_44 ⟨Nat.le_of_ble_eq_true rfl, Nat.le_of_ble_eq_true rfl⟩) hS (fun q _ h => hFc q h) hFc (fun u t H1 locs ht hvm hw hB1 hz1 hk1 hS => ?_)
  obtain ⟨g2, hP1, hD1⟩ := hB1
  rw [ht] at hP1
  obtain ⟨hP, hD⟩ := va_join (wr := [(x0, .inr (1, [.ref tx, .int 0, .ref ta, .int 0])), (tx, .inl (cI, 1024, .inl (fun _ => 0))), (ta, .inl (cT, 8, .inr (.inr (.inr (.inr (va_up (va_up (fun _ => none) 0 (some t0)) 1 (some t1))))))), (t0, .inr (0, [.ref g0, .int 0, .int 0, .int 0, .int 0])), (g0, .inl (cI, 1365, .inl (fun _ => 0))), (t1, .inr (0, [.ref g1, .int 0, .int 0, .int 0, .int 0])), (g1, .inl (cI, 1365, .inl (fun _ => 0)))]) (w1 := [(t2, .inr (0, [.ref g2, .int 0, .int 0, .int 0, .int 0])), (g2, .inl (cI, 1365, .inl (fun _ => 0)))]) hP hD [7] [0, 1, 2, 3, 4, 5, 6] rfl rfl (by decide) (by decide) hk1 hFc hP1 hD1
  generalize H1 = H at hP hS ⊢
  have hP : va_P D tbCl [(x0, .inr (1, [.ref tx, .int 0, .ref ta, .int 0])), (tx, .inl (cI, 1024, .inl (fun _ => 0))), (ta, .inl (cT, 8, .inr (.inr (.inr (.inr (va_up (va_up (fun _ => none) 0 (some t0)) 1 (some t1))))))), (t0, .inr (0, [.ref g0, .int 0, .int 0, .int 0, .int 0])), (g0, .inl (cI, 1365, .inl (fun _ => 0))), (t1, .inr (0, [.ref g1, .int 0, .int 0, .int 0, .int 0])), (g1, .inl (cI, 1365, .inl (fun _ => 0))), (t2, .inr (0, [.ref g2, .int 0, .int 0, .int 0, .int 0])), (g2, .inl (cI, 1365, .inl (fun _ => 0)))] H := hP
  have hD : va_D A [(x0, .inr (1, [.ref tx, .int 0, .ref ta, .int 0])), (tx, .inl (cI, 1024, .inl (fun _ => 0))), (ta, .inl (cT, 8, .inr (.inr (.inr (.inr (va_up (va_up (fun _ => none) 0 (some t0)) 1 (some t1))))))), (t0, .inr (0, [.ref g0, .int 0, .int 0, .int 0, .int 0])), (g0, .inl (cI, 1365, .inl (fun _ => 0))), (t1, .inr (0, [.ref g1, .int 0, .int 0, .int 0, .int 0])), (g1, .inl (cI, 1365, .inl (fun _ => 0))), (t2, .inr (0, [.ref g2, .int 0, .int 0, .int 0, .int 0])), (g2, .inl (cI, 1365, .inl (fun _ => 0)))] := hD
  refine W.widen (k := 8) (n := 5142) (by omega) (by omega) ?_
  refine va_astq hx hb hK hP hD hS 2 1 7 0 rfl rfl rfl rfl (i := 2) (vp_in_nI (n := 2) (N := 8) (by decide) (by decide)) dB_init_47 (fun H locs hP hD hS => ?_)
  have hP : va_P D tbCl [(x0, .inr (1, [.ref tx, .int 0, .ref ta, .int 0])), (tx, .inl (cI, 1024, .inl (fun _ => 0))), (ta, .inl (cT, 8, .inr (.inr (.inr (.inr (va_up (va_up (va_up (fun _ => none) 0 (some t0)) 1 (some t1)) 2 (some t2))))))), (t0, .inr (0, [.ref g0, .int 0, .int 0, .int 0, .int 0])), (g0, .inl (cI, 1365, .inl (fun _ => 0))), (t1, .inr (0, [.ref g1, .int 0, .int 0, .int 0, .int 0])), (g1, .inl (cI, 1365, .inl (fun _ => 0))), (t2, .inr (0, [.ref g2, .int 0, .int 0, .int 0, .int 0])), (g2, .inl (cI, 1365, .inl (fun _ => 0)))] H := hP
  have hD : va_D A [(x0, .inr (1, [.ref tx, .int 0, .ref ta, .int 0])), (tx, .inl (cI, 1024, .inl (fun _ => 0))), (ta, .inl (cT, 8, .inr (.inr (.inr (.inr (va_up (va_up (va_up (fun _ => none) 0 (some t0)) 1 (some t1)) 2 (some t2))))))), (t0, .inr (0, [.ref g0, .int 0, .int 0, .int 0, .int 0])), (g0, .inl (cI, 1365, .inl (fun _ => 0))), (t1, .inr (0, [.ref g1, .int 0, .int 0, .int 0, .int 0])), (g1, .inl (cI, 1365, .inl (fun _ => 0))), (t2, .inr (0, [.ref g2, .int 0, .int 0, .int 0, .int 0])), (g2, .inl (cI, 1365, .inl (fun _ => 0)))] := wd_D hD rfl
  refine lv_iinc (v := 3) (lv' := [(1, .int 3), (0, .ref x0)]) hx hb dB_init_48 hl (k := 0) rfl (by decide) (by decide) rfl (fun ls hl => ?_)
  refine lv_goto (tgt := 29) hx hb dB_init_51 (by decide) ?_
  refine lv_iload_n hx hb dB_init_29 rfl (lv_at hl 0 rfl) ?_
  refine lv_bipush (v := 8) hx hb dB_init_30 (by decide) ?_
  refine lv_icmp_ge (tgt := 54) hx hb dB_init_32 (by decide) (fun c_4 => absurd c_4 (by decide)) (fun c_4 => ?_)
  refine lv_aload_n hx hb dB_init_35 rfl (lv_at hl 1 rfl) ?_
  refine va_get (D := D) (ci := 1) (v := .ref ta) (C := RB) (T := FB) (N := 4) hx hb hB inB hown hK hP 0 rfl rfl 2 (by decide) (hB _ wd_50) (fun _ h9 => h9) rfl dB_init_36 ?_
  refine lv_iload_n hx hb dB_init_39 rfl (lv_at hl 0 rfl) ?_
  refine va_new (ci := 0) (fs := [.null, .int 0, .int 0, .int 0, .int 0]) (C := RT) (T := FT) (N := 5) hx hb hB inT tyT tyT_ok hown (hB _ wd_20) (hB _ wd_22) (hB _ wd_2) hK hP hD hS hA rfl (fun j hj => by rcases (show j = 0 ∨ j = 1 ∨ j = 2 ∨ j = 3 ∨ j = 4 by omega) with rfl | rfl | rfl | rfl | rfl <;> rfl) (Nat.le_of_ble_eq_true rfl) (Nat.le_of_ble_eq_true rfl) dB_init_40 (fun t3 H hP hD hS => ?_)
  have hP : va_P D tbCl [(x0, .inr (1, [.ref tx, .int 0, .ref ta, .int 0])), (tx, .inl (cI, 1024, .inl (fun _ => 0))), (ta, .inl (cT, 8, .inr (.inr (.inr (.inr (va_up (va_up (va_up (fun _ => none) 0 (some t0)) 1 (some t1)) 2 (some t2))))))), (t0, .inr (0, [.ref g0, .int 0, .int 0, .int 0, .int 0])), (g0, .inl (cI, 1365, .inl (fun _ => 0))), (t1, .inr (0, [.ref g1, .int 0, .int 0, .int 0, .int 0])), (g1, .inl (cI, 1365, .inl (fun _ => 0))), (t2, .inr (0, [.ref g2, .int 0, .int 0, .int 0, .int 0])), (g2, .inl (cI, 1365, .inl (fun _ => 0))), (t3, .inr (0, [.null, .int 0, .int 0, .int 0, .int 0]))] H := hP
  have hD : va_D A [(x0, .inr (1, [.ref tx, .int 0, .ref ta, .int 0])), (tx, .inl (cI, 1024, .inl (fun _ => 0))), (ta, .inl (cT, 8, .inr (.inr (.inr (.inr (va_up (va_up (va_up (fun _ => none) 0 (some t0)) 1 (some t1)) 2 (some t2))))))), (t0, .inr (0, [.ref g0, .int 0, .int 0, .int 0, .int 0])), (g0, .inl (cI, 1365, .inl (fun _ => 0))), (t1, .inr (0, [.ref g1, .int 0, .int 0, .int 0, .int 0])), (g1, .inl (cI, 1365, .inl (fun _ => 0))), (t2, .inr (0, [.ref g2, .int 0, .int 0, .int 0, .int 0])), (g2, .inl (cI, 1365, .inl (fun _ => 0))), (t3, .inr (0, [.null, .int 0, .int 0, .int 0, .int 0]))] := hD
  refine W.widen (k := 9) (n := 5147) (by omega) (by omega) ?_
  refine lv_dup hx hb dB_init_43 rfl ?_
  have hFc := va_free (wc := [(t3, .inr (0, [.null, .int 0, .int 0, .int 0, .int 0]))]) hD hS hA [9] rfl
  refine va_callv (va_runIN (As := []) (rest := [.ref t3, .int 3, .ref ta]) ⟨hx, hb, hml, hown, hB⟩ (kT_init l D H.size cI t3) ⟨va_cnB 0 hB gwT_init rfl rfl rfl (hC.1) (hB _ wd_2) ydT_init ⟨Nat.le_of_ble_eq_true rfl, Nat.le_of_ble_eq_true rfl⟩, rfl, hB _ wd_24⟩ (wr_S hC (hP.sub [9] rfl) (hK.sub [0] rfl) (hD.sub [9] (by decide) rfl)) rfl rfl hl.1 rfl (lv_room (Nat.le_of_ble_eq_true rfl)) dB_init_44 ⟨Nat.le_of_ble_eq_true rfl, Nat.le_of_ble_eq_true rfl⟩) hS (fun q _ h => hFc q h) hFc (fun u t H1 locs ht hvm hw hB1 hz1 hk1 hS => ?_)
  obtain ⟨g3, hP1, hD1⟩ := hB1
  rw [ht] at hP1
  obtain ⟨hP, hD⟩ := va_join (wr := [(x0, .inr (1, [.ref tx, .int 0, .ref ta, .int 0])), (tx, .inl (cI, 1024, .inl (fun _ => 0))), (ta, .inl (cT, 8, .inr (.inr (.inr (.inr (va_up (va_up (va_up (fun _ => none) 0 (some t0)) 1 (some t1)) 2 (some t2))))))), (t0, .inr (0, [.ref g0, .int 0, .int 0, .int 0, .int 0])), (g0, .inl (cI, 1365, .inl (fun _ => 0))), (t1, .inr (0, [.ref g1, .int 0, .int 0, .int 0, .int 0])), (g1, .inl (cI, 1365, .inl (fun _ => 0))), (t2, .inr (0, [.ref g2, .int 0, .int 0, .int 0, .int 0])), (g2, .inl (cI, 1365, .inl (fun _ => 0)))]) (w1 := [(t3, .inr (0, [.ref g3, .int 0, .int 0, .int 0, .int 0])), (g3, .inl (cI, 1365, .inl (fun _ => 0)))]) hP hD [9] [0, 1, 2, 3, 4, 5, 6, 7, 8] rfl rfl (by decide) (by decide) hk1 hFc hP1 hD1
  generalize H1 = H at hP hS ⊢
  have hP : va_P D tbCl [(x0, .inr (1, [.ref tx, .int 0, .ref ta, .int 0])), (tx, .inl (cI, 1024, .inl (fun _ => 0))), (ta, .inl (cT, 8, .inr (.inr (.inr (.inr (va_up (va_up (va_up (fun _ => none) 0 (some t0)) 1 (some t1)) 2 (some t2))))))), (t0, .inr (0, [.ref g0, .int 0, .int 0, .int 0, .int 0])), (g0, .inl (cI, 1365, .inl (fun _ => 0))), (t1, .inr (0, [.ref g1, .int 0, .int 0, .int 0, .int 0])), (g1, .inl (cI, 1365, .inl (fun _ => 0))), (t2, .inr (0, [.ref g2, .int 0, .int 0, .int 0, .int 0])), (g2, .inl (cI, 1365, .inl (fun _ => 0))), (t3, .inr (0, [.ref g3, .int 0, .int 0, .int 0, .int 0])), (g3, .inl (cI, 1365, .inl (fun _ => 0)))] H := hP
  have hD : va_D A [(x0, .inr (1, [.ref tx, .int 0, .ref ta, .int 0])), (tx, .inl (cI, 1024, .inl (fun _ => 0))), (ta, .inl (cT, 8, .inr (.inr (.inr (.inr (va_up (va_up (va_up (fun _ => none) 0 (some t0)) 1 (some t1)) 2 (some t2))))))), (t0, .inr (0, [.ref g0, .int 0, .int 0, .int 0, .int 0])), (g0, .inl (cI, 1365, .inl (fun _ => 0))), (t1, .inr (0, [.ref g1, .int 0, .int 0, .int 0, .int 0])), (g1, .inl (cI, 1365, .inl (fun _ => 0))), (t2, .inr (0, [.ref g2, .int 0, .int 0, .int 0, .int 0])), (g2, .inl (cI, 1365, .inl (fun _ => 0))), (t3, .inr (0, [.ref g3, .int 0, .int 0, .int 0, .int 0])), (g3, .inl (cI, 1365, .inl (fun _ => 0)))] := hD
  refine W.widen (k := 10) (n := 6512) (by omega) (by omega) ?_
  refine va_astq hx hb hK hP hD hS 2 1 9 0 rfl rfl rfl rfl (i := 3) (vp_in_nI (n := 3) (N := 8) (by decide) (by decide)) dB_init_47 (fun H locs hP hD hS => ?_)
  have hP : va_P D tbCl [(x0, .inr (1, [.ref tx, .int 0, .ref ta, .int 0])), (tx, .inl (cI, 1024, .inl (fun _ => 0))), (ta, .inl (cT, 8, .inr (.inr (.inr (.inr (va_up (va_up (va_up (va_up (fun _ => none) 0 (some t0)) 1 (some t1)) 2 (some t2)) 3 (some t3))))))), (t0, .inr (0, [.ref g0, .int 0, .int 0, .int 0, .int 0])), (g0, .inl (cI, 1365, .inl (fun _ => 0))), (t1, .inr (0, [.ref g1, .int 0, .int 0, .int 0, .int 0])), (g1, .inl (cI, 1365, .inl (fun _ => 0))), (t2, .inr (0, [.ref g2, .int 0, .int 0, .int 0, .int 0])), (g2, .inl (cI, 1365, .inl (fun _ => 0))), (t3, .inr (0, [.ref g3, .int 0, .int 0, .int 0, .int 0])), (g3, .inl (cI, 1365, .inl (fun _ => 0)))] H := hP
  have hD : va_D A [(x0, .inr (1, [.ref tx, .int 0, .ref ta, .int 0])), (tx, .inl (cI, 1024, .inl (fun _ => 0))), (ta, .inl (cT, 8, .inr (.inr (.inr (.inr (va_up (va_up (va_up (va_up (fun _ => none) 0 (some t0)) 1 (some t1)) 2 (some t2)) 3 (some t3))))))), (t0, .inr (0, [.ref g0, .int 0, .int 0, .int 0, .int 0])), (g0, .inl (cI, 1365, .inl (fun _ => 0))), (t1, .inr (0, [.ref g1, .int 0, .int 0, .int 0, .int 0])), (g1, .inl (cI, 1365, .inl (fun _ => 0))), (t2, .inr (0, [.ref g2, .int 0, .int 0, .int 0, .int 0])), (g2, .inl (cI, 1365, .inl (fun _ => 0))), (t3, .inr (0, [.ref g3, .int 0, .int 0, .int 0, .int 0])), (g3, .inl (cI, 1365, .inl (fun _ => 0)))] := wd_D hD rfl
  refine lv_iinc (v := 4) (lv' := [(1, .int 4), (0, .ref x0)]) hx hb dB_init_48 hl (k := 0) rfl (by decide) (by decide) rfl (fun ls hl => ?_)
  refine lv_goto (tgt := 29) hx hb dB_init_51 (by decide) ?_
  refine lv_iload_n hx hb dB_init_29 rfl (lv_at hl 0 rfl) ?_
  refine lv_bipush (v := 8) hx hb dB_init_30 (by decide) ?_
  refine lv_icmp_ge (tgt := 54) hx hb dB_init_32 (by decide) (fun c_5 => absurd c_5 (by decide)) (fun c_5 => ?_)
  refine lv_aload_n hx hb dB_init_35 rfl (lv_at hl 1 rfl) ?_
  refine va_get (D := D) (ci := 1) (v := .ref ta) (C := RB) (T := FB) (N := 4) hx hb hB inB hown hK hP 0 rfl rfl 2 (by decide) (hB _ wd_50) (fun _ h9 => h9) rfl dB_init_36 ?_
  refine lv_iload_n hx hb dB_init_39 rfl (lv_at hl 0 rfl) ?_
  refine va_new (ci := 0) (fs := [.null, .int 0, .int 0, .int 0, .int 0]) (C := RT) (T := FT) (N := 5) hx hb hB inT tyT tyT_ok hown (hB _ wd_20) (hB _ wd_22) (hB _ wd_2) hK hP hD hS hA rfl (fun j hj => by rcases (show j = 0 ∨ j = 1 ∨ j = 2 ∨ j = 3 ∨ j = 4 by omega) with rfl | rfl | rfl | rfl | rfl <;> rfl) (Nat.le_of_ble_eq_true rfl) (Nat.le_of_ble_eq_true rfl) dB_init_40 (fun t4 H hP hD hS => ?_)
  have hP : va_P D tbCl [(x0, .inr (1, [.ref tx, .int 0, .ref ta, .int 0])), (tx, .inl (cI, 1024, .inl (fun _ => 0))), (ta, .inl (cT, 8, .inr (.inr (.inr (.inr (va_up (va_up (va_up (va_up (fun _ => none) 0 (some t0)) 1 (some t1)) 2 (some t2)) 3 (some t3))))))), (t0, .inr (0, [.ref g0, .int 0, .int 0, .int 0, .int 0])), (g0, .inl (cI, 1365, .inl (fun _ => 0))), (t1, .inr (0, [.ref g1, .int 0, .int 0, .int 0, .int 0])), (g1, .inl (cI, 1365, .inl (fun _ => 0))), (t2, .inr (0, [.ref g2, .int 0, .int 0, .int 0, .int 0])), (g2, .inl (cI, 1365, .inl (fun _ => 0))), (t3, .inr (0, [.ref g3, .int 0, .int 0, .int 0, .int 0])), (g3, .inl (cI, 1365, .inl (fun _ => 0))), (t4, .inr (0, [.null, .int 0, .int 0, .int 0, .int 0]))] H := hP
  have hD : va_D A [(x0, .inr (1, [.ref tx, .int 0, .ref ta, .int 0])), (tx, .inl (cI, 1024, .inl (fun _ => 0))), (ta, .inl (cT, 8, .inr (.inr (.inr (.inr (va_up (va_up (va_up (va_up (fun _ => none) 0 (some t0)) 1 (some t1)) 2 (some t2)) 3 (some t3))))))), (t0, .inr (0, [.ref g0, .int 0, .int 0, .int 0, .int 0])), (g0, .inl (cI, 1365, .inl (fun _ => 0))), (t1, .inr (0, [.ref g1, .int 0, .int 0, .int 0, .int 0])), (g1, .inl (cI, 1365, .inl (fun _ => 0))), (t2, .inr (0, [.ref g2, .int 0, .int 0, .int 0, .int 0])), (g2, .inl (cI, 1365, .inl (fun _ => 0))), (t3, .inr (0, [.ref g3, .int 0, .int 0, .int 0, .int 0])), (g3, .inl (cI, 1365, .inl (fun _ => 0))), (t4, .inr (0, [.null, .int 0, .int 0, .int 0, .int 0]))] := hD
  refine W.widen (k := 11) (n := 6517) (by omega) (by omega) ?_
  refine lv_dup hx hb dB_init_43 rfl ?_
  have hFc := va_free (wc := [(t4, .inr (0, [.null, .int 0, .int 0, .int 0, .int 0]))]) hD hS hA [11] rfl
  refine va_callv (va_runIN (As := []) (rest := [.ref t4, .int 4, .ref ta]) ⟨hx, hb, hml, hown, hB⟩ (kT_init l D H.size cI t4) ⟨va_cnB 0 hB gwT_init rfl rfl rfl (hC.1) (hB _ wd_2) ydT_init ⟨Nat.le_of_ble_eq_true rfl, Nat.le_of_ble_eq_true rfl⟩, rfl, hB _ wd_24⟩ (wr_S hC (hP.sub [11] rfl) (hK.sub [0] rfl) (hD.sub [11] (by decide) rfl)) rfl rfl hl.1 rfl (lv_room (Nat.le_of_ble_eq_true rfl)) dB_init_44 ⟨Nat.le_of_ble_eq_true rfl, Nat.le_of_ble_eq_true rfl⟩) hS (fun q _ h => hFc q h) hFc (fun u t H1 locs ht hvm hw hB1 hz1 hk1 hS => ?_)
  obtain ⟨g4, hP1, hD1⟩ := hB1
  rw [ht] at hP1
  obtain ⟨hP, hD⟩ := va_join (wr := [(x0, .inr (1, [.ref tx, .int 0, .ref ta, .int 0])), (tx, .inl (cI, 1024, .inl (fun _ => 0))), (ta, .inl (cT, 8, .inr (.inr (.inr (.inr (va_up (va_up (va_up (va_up (fun _ => none) 0 (some t0)) 1 (some t1)) 2 (some t2)) 3 (some t3))))))), (t0, .inr (0, [.ref g0, .int 0, .int 0, .int 0, .int 0])), (g0, .inl (cI, 1365, .inl (fun _ => 0))), (t1, .inr (0, [.ref g1, .int 0, .int 0, .int 0, .int 0])), (g1, .inl (cI, 1365, .inl (fun _ => 0))), (t2, .inr (0, [.ref g2, .int 0, .int 0, .int 0, .int 0])), (g2, .inl (cI, 1365, .inl (fun _ => 0))), (t3, .inr (0, [.ref g3, .int 0, .int 0, .int 0, .int 0])), (g3, .inl (cI, 1365, .inl (fun _ => 0)))]) (w1 := [(t4, .inr (0, [.ref g4, .int 0, .int 0, .int 0, .int 0])), (g4, .inl (cI, 1365, .inl (fun _ => 0)))]) hP hD [11] [0, 1, 2, 3, 4, 5, 6, 7, 8, 9, 10] rfl rfl (by decide) (by decide) hk1 hFc hP1 hD1
  generalize H1 = H at hP hS ⊢
  have hP : va_P D tbCl [(x0, .inr (1, [.ref tx, .int 0, .ref ta, .int 0])), (tx, .inl (cI, 1024, .inl (fun _ => 0))), (ta, .inl (cT, 8, .inr (.inr (.inr (.inr (va_up (va_up (va_up (va_up (fun _ => none) 0 (some t0)) 1 (some t1)) 2 (some t2)) 3 (some t3))))))), (t0, .inr (0, [.ref g0, .int 0, .int 0, .int 0, .int 0])), (g0, .inl (cI, 1365, .inl (fun _ => 0))), (t1, .inr (0, [.ref g1, .int 0, .int 0, .int 0, .int 0])), (g1, .inl (cI, 1365, .inl (fun _ => 0))), (t2, .inr (0, [.ref g2, .int 0, .int 0, .int 0, .int 0])), (g2, .inl (cI, 1365, .inl (fun _ => 0))), (t3, .inr (0, [.ref g3, .int 0, .int 0, .int 0, .int 0])), (g3, .inl (cI, 1365, .inl (fun _ => 0))), (t4, .inr (0, [.ref g4, .int 0, .int 0, .int 0, .int 0])), (g4, .inl (cI, 1365, .inl (fun _ => 0)))] H := hP
  have hD : va_D A [(x0, .inr (1, [.ref tx, .int 0, .ref ta, .int 0])), (tx, .inl (cI, 1024, .inl (fun _ => 0))), (ta, .inl (cT, 8, .inr (.inr (.inr (.inr (va_up (va_up (va_up (va_up (fun _ => none) 0 (some t0)) 1 (some t1)) 2 (some t2)) 3 (some t3))))))), (t0, .inr (0, [.ref g0, .int 0, .int 0, .int 0, .int 0])), (g0, .inl (cI, 1365, .inl (fun _ => 0))), (t1, .inr (0, [.ref g1, .int 0, .int 0, .int 0, .int 0])), (g1, .inl (cI, 1365, .inl (fun _ => 0))), (t2, .inr (0, [.ref g2, .int 0, .int 0, .int 0, .int 0])), (g2, .inl (cI, 1365, .inl (fun _ => 0))), (t3, .inr (0, [.ref g3, .int 0, .int 0, .int 0, .int 0])), (g3, .inl (cI, 1365, .inl (fun _ => 0))), (t4, .inr (0, [.ref g4, .int 0, .int 0, .int 0, .int 0])), (g4, .inl (cI, 1365, .inl (fun _ => 0)))] := hD
  refine W.widen (k := 12) (n := 7882) (by omega) (by omega) ?_
  refine va_astq hx hb hK hP hD hS 2 1 11 0 rfl rfl rfl rfl (i := 4) (vp_in_nI (n := 4) (N := 8) (by decide) (by decide)) dB_init_47 (fun H locs hP hD hS => ?_)
  have hP : va_P D tbCl [(x0, .inr (1, [.ref tx, .int 0, .ref ta, .int 0])), (tx, .inl (cI, 1024, .inl (fun _ => 0))), (ta, .inl (cT, 8, .inr (.inr (.inr (.inr (va_up (va_up (va_up (va_up (va_up (fun _ => none) 0 (some t0)) 1 (some t1)) 2 (some t2)) 3 (some t3)) 4 (some t4))))))), (t0, .inr (0, [.ref g0, .int 0, .int 0, .int 0, .int 0])), (g0, .inl (cI, 1365, .inl (fun _ => 0))), (t1, .inr (0, [.ref g1, .int 0, .int 0, .int 0, .int 0])), (g1, .inl (cI, 1365, .inl (fun _ => 0))), (t2, .inr (0, [.ref g2, .int 0, .int 0, .int 0, .int 0])), (g2, .inl (cI, 1365, .inl (fun _ => 0))), (t3, .inr (0, [.ref g3, .int 0, .int 0, .int 0, .int 0])), (g3, .inl (cI, 1365, .inl (fun _ => 0))), (t4, .inr (0, [.ref g4, .int 0, .int 0, .int 0, .int 0])), (g4, .inl (cI, 1365, .inl (fun _ => 0)))] H := hP
  have hD : va_D A [(x0, .inr (1, [.ref tx, .int 0, .ref ta, .int 0])), (tx, .inl (cI, 1024, .inl (fun _ => 0))), (ta, .inl (cT, 8, .inr (.inr (.inr (.inr (va_up (va_up (va_up (va_up (va_up (fun _ => none) 0 (some t0)) 1 (some t1)) 2 (some t2)) 3 (some t3)) 4 (some t4))))))), (t0, .inr (0, [.ref g0, .int 0, .int 0, .int 0, .int 0])), (g0, .inl (cI, 1365, .inl (fun _ => 0))), (t1, .inr (0, [.ref g1, .int 0, .int 0, .int 0, .int 0])), (g1, .inl (cI, 1365, .inl (fun _ => 0))), (t2, .inr (0, [.ref g2, .int 0, .int 0, .int 0, .int 0])), (g2, .inl (cI, 1365, .inl (fun _ => 0))), (t3, .inr (0, [.ref g3, .int 0, .int 0, .int 0, .int 0])), (g3, .inl (cI, 1365, .inl (fun _ => 0))), (t4, .inr (0, [.ref g4, .int 0, .int 0, .int 0, .int 0])), (g4, .inl (cI, 1365, .inl (fun _ => 0)))] := wd_D hD rfl
  refine lv_iinc (v := 5) (lv' := [(1, .int 5), (0, .ref x0)]) hx hb dB_init_48 hl (k := 0) rfl (by decide) (by decide) rfl (fun ls hl => ?_)
  refine lv_goto (tgt := 29) hx hb dB_init_51 (by decide) ?_
  refine lv_iload_n hx hb dB_init_29 rfl (lv_at hl 0 rfl) ?_
  refine lv_bipush (v := 8) hx hb dB_init_30 (by decide) ?_
  refine lv_icmp_ge (tgt := 54) hx hb dB_init_32 (by decide) (fun c_6 => absurd c_6 (by decide)) (fun c_6 => ?_)
  refine lv_aload_n hx hb dB_init_35 rfl (lv_at hl 1 rfl) ?_
  refine va_get (D := D) (ci := 1) (v := .ref ta) (C := RB) (T := FB) (N := 4) hx hb hB inB hown hK hP 0 rfl rfl 2 (by decide) (hB _ wd_50) (fun _ h9 => h9) rfl dB_init_36 ?_
  refine lv_iload_n hx hb dB_init_39 rfl (lv_at hl 0 rfl) ?_
  refine va_new (ci := 0) (fs := [.null, .int 0, .int 0, .int 0, .int 0]) (C := RT) (T := FT) (N := 5) hx hb hB inT tyT tyT_ok hown (hB _ wd_20) (hB _ wd_22) (hB _ wd_2) hK hP hD hS hA rfl (fun j hj => by rcases (show j = 0 ∨ j = 1 ∨ j = 2 ∨ j = 3 ∨ j = 4 by omega) with rfl | rfl | rfl | rfl | rfl <;> rfl) (Nat.le_of_ble_eq_true rfl) (Nat.le_of_ble_eq_true rfl) dB_init_40 (fun t5 H hP hD hS => ?_)
  have hP : va_P D tbCl [(x0, .inr (1, [.ref tx, .int 0, .ref ta, .int 0])), (tx, .inl (cI, 1024, .inl (fun _ => 0))), (ta, .inl (cT, 8, .inr (.inr (.inr (.inr (va_up (va_up (va_up (va_up (va_up (fun _ => none) 0 (some t0)) 1 (some t1)) 2 (some t2)) 3 (some t3)) 4 (some t4))))))), (t0, .inr (0, [.ref g0, .int 0, .int 0, .int 0, .int 0])), (g0, .inl (cI, 1365, .inl (fun _ => 0))), (t1, .inr (0, [.ref g1, .int 0, .int 0, .int 0, .int 0])), (g1, .inl (cI, 1365, .inl (fun _ => 0))), (t2, .inr (0, [.ref g2, .int 0, .int 0, .int 0, .int 0])), (g2, .inl (cI, 1365, .inl (fun _ => 0))), (t3, .inr (0, [.ref g3, .int 0, .int 0, .int 0, .int 0])), (g3, .inl (cI, 1365, .inl (fun _ => 0))), (t4, .inr (0, [.ref g4, .int 0, .int 0, .int 0, .int 0])), (g4, .inl (cI, 1365, .inl (fun _ => 0))), (t5, .inr (0, [.null, .int 0, .int 0, .int 0, .int 0]))] H := hP
  have hD : va_D A [(x0, .inr (1, [.ref tx, .int 0, .ref ta, .int 0])), (tx, .inl (cI, 1024, .inl (fun _ => 0))), (ta, .inl (cT, 8, .inr (.inr (.inr (.inr (va_up (va_up (va_up (va_up (va_up (fun _ => none) 0 (some t0)) 1 (some t1)) 2 (some t2)) 3 (some t3)) 4 (some t4))))))), (t0, .inr (0, [.ref g0, .int 0, .int 0, .int 0, .int 0])), (g0, .inl (cI, 1365, .inl (fun _ => 0))), (t1, .inr (0, [.ref g1, .int 0, .int 0, .int 0, .int 0])), (g1, .inl (cI, 1365, .inl (fun _ => 0))), (t2, .inr (0, [.ref g2, .int 0, .int 0, .int 0, .int 0])), (g2, .inl (cI, 1365, .inl (fun _ => 0))), (t3, .inr (0, [.ref g3, .int 0, .int 0, .int 0, .int 0])), (g3, .inl (cI, 1365, .inl (fun _ => 0))), (t4, .inr (0, [.ref g4, .int 0, .int 0, .int 0, .int 0])), (g4, .inl (cI, 1365, .inl (fun _ => 0))), (t5, .inr (0, [.null, .int 0, .int 0, .int 0, .int 0]))] := hD
  refine W.widen (k := 13) (n := 7887) (by omega) (by omega) ?_
  refine lv_dup hx hb dB_init_43 rfl ?_
  have hFc := va_free (wc := [(t5, .inr (0, [.null, .int 0, .int 0, .int 0, .int 0]))]) hD hS hA [13] rfl
  refine va_callv (va_runIN (As := []) (rest := [.ref t5, .int 5, .ref ta]) ⟨hx, hb, hml, hown, hB⟩ (kT_init l D H.size cI t5) ⟨va_cnB 0 hB gwT_init rfl rfl rfl (hC.1) (hB _ wd_2) ydT_init ⟨Nat.le_of_ble_eq_true rfl, Nat.le_of_ble_eq_true rfl⟩, rfl, hB _ wd_24⟩ (wr_S hC (hP.sub [13] rfl) (hK.sub [0] rfl) (hD.sub [13] (by decide) rfl)) rfl rfl hl.1 rfl (lv_room (Nat.le_of_ble_eq_true rfl)) dB_init_44 ⟨Nat.le_of_ble_eq_true rfl, Nat.le_of_ble_eq_true rfl⟩) hS (fun q _ h => hFc q h) hFc (fun u t H1 locs ht hvm hw hB1 hz1 hk1 hS => ?_)
  obtain ⟨g5, hP1, hD1⟩ := hB1
  rw [ht] at hP1
  obtain ⟨hP, hD⟩ := va_join (wr := [(x0, .inr (1, [.ref tx, .int 0, .ref ta, .int 0])), (tx, .inl (cI, 1024, .inl (fun _ => 0))), (ta, .inl (cT, 8, .inr (.inr (.inr (.inr (va_up (va_up (va_up (va_up (va_up (fun _ => none) 0 (some t0)) 1 (some t1)) 2 (some t2)) 3 (some t3)) 4 (some t4))))))), (t0, .inr (0, [.ref g0, .int 0, .int 0, .int 0, .int 0])), (g0, .inl (cI, 1365, .inl (fun _ => 0))), (t1, .inr (0, [.ref g1, .int 0, .int 0, .int 0, .int 0])), (g1, .inl (cI, 1365, .inl (fun _ => 0))), (t2, .inr (0, [.ref g2, .int 0, .int 0, .int 0, .int 0])), (g2, .inl (cI, 1365, .inl (fun _ => 0))), (t3, .inr (0, [.ref g3, .int 0, .int 0, .int 0, .int 0])), (g3, .inl (cI, 1365, .inl (fun _ => 0))), (t4, .inr (0, [.ref g4, .int 0, .int 0, .int 0, .int 0])), (g4, .inl (cI, 1365, .inl (fun _ => 0)))]) (w1 := [(t5, .inr (0, [.ref g5, .int 0, .int 0, .int 0, .int 0])), (g5, .inl (cI, 1365, .inl (fun _ => 0)))]) hP hD [13] [0, 1, 2, 3, 4, 5, 6, 7, 8, 9, 10, 11, 12] rfl rfl (by decide) (by decide) hk1 hFc hP1 hD1
  generalize H1 = H at hP hS ⊢
  have hP : va_P D tbCl [(x0, .inr (1, [.ref tx, .int 0, .ref ta, .int 0])), (tx, .inl (cI, 1024, .inl (fun _ => 0))), (ta, .inl (cT, 8, .inr (.inr (.inr (.inr (va_up (va_up (va_up (va_up (va_up (fun _ => none) 0 (some t0)) 1 (some t1)) 2 (some t2)) 3 (some t3)) 4 (some t4))))))), (t0, .inr (0, [.ref g0, .int 0, .int 0, .int 0, .int 0])), (g0, .inl (cI, 1365, .inl (fun _ => 0))), (t1, .inr (0, [.ref g1, .int 0, .int 0, .int 0, .int 0])), (g1, .inl (cI, 1365, .inl (fun _ => 0))), (t2, .inr (0, [.ref g2, .int 0, .int 0, .int 0, .int 0])), (g2, .inl (cI, 1365, .inl (fun _ => 0))), (t3, .inr (0, [.ref g3, .int 0, .int 0, .int 0, .int 0])), (g3, .inl (cI, 1365, .inl (fun _ => 0))), (t4, .inr (0, [.ref g4, .int 0, .int 0, .int 0, .int 0])), (g4, .inl (cI, 1365, .inl (fun _ => 0))), (t5, .inr (0, [.ref g5, .int 0, .int 0, .int 0, .int 0])), (g5, .inl (cI, 1365, .inl (fun _ => 0)))] H := hP
  have hD : va_D A [(x0, .inr (1, [.ref tx, .int 0, .ref ta, .int 0])), (tx, .inl (cI, 1024, .inl (fun _ => 0))), (ta, .inl (cT, 8, .inr (.inr (.inr (.inr (va_up (va_up (va_up (va_up (va_up (fun _ => none) 0 (some t0)) 1 (some t1)) 2 (some t2)) 3 (some t3)) 4 (some t4))))))), (t0, .inr (0, [.ref g0, .int 0, .int 0, .int 0, .int 0])), (g0, .inl (cI, 1365, .inl (fun _ => 0))), (t1, .inr (0, [.ref g1, .int 0, .int 0, .int 0, .int 0])), (g1, .inl (cI, 1365, .inl (fun _ => 0))), (t2, .inr (0, [.ref g2, .int 0, .int 0, .int 0, .int 0])), (g2, .inl (cI, 1365, .inl (fun _ => 0))), (t3, .inr (0, [.ref g3, .int 0, .int 0, .int 0, .int 0])), (g3, .inl (cI, 1365, .inl (fun _ => 0))), (t4, .inr (0, [.ref g4, .int 0, .int 0, .int 0, .int 0])), (g4, .inl (cI, 1365, .inl (fun _ => 0))), (t5, .inr (0, [.ref g5, .int 0, .int 0, .int 0, .int 0])), (g5, .inl (cI, 1365, .inl (fun _ => 0)))] := hD
  refine W.widen (k := 14) (n := 9252) (by omega) (by omega) ?_
  refine va_astq hx hb hK hP hD hS 2 1 13 0 rfl rfl rfl rfl (i := 5) (vp_in_nI (n := 5) (N := 8) (by decide) (by decide)) dB_init_47 (fun H locs hP hD hS => ?_)
  have hP : va_P D tbCl [(x0, .inr (1, [.ref tx, .int 0, .ref ta, .int 0])), (tx, .inl (cI, 1024, .inl (fun _ => 0))), (ta, .inl (cT, 8, .inr (.inr (.inr (.inr (va_up (va_up (va_up (va_up (va_up (va_up (fun _ => none) 0 (some t0)) 1 (some t1)) 2 (some t2)) 3 (some t3)) 4 (some t4)) 5 (some t5))))))), (t0, .inr (0, [.ref g0, .int 0, .int 0, .int 0, .int 0])), (g0, .inl (cI, 1365, .inl (fun _ => 0))), (t1, .inr (0, [.ref g1, .int 0, .int 0, .int 0, .int 0])), (g1, .inl (cI, 1365, .inl (fun _ => 0))), (t2, .inr (0, [.ref g2, .int 0, .int 0, .int 0, .int 0])), (g2, .inl (cI, 1365, .inl (fun _ => 0))), (t3, .inr (0, [.ref g3, .int 0, .int 0, .int 0, .int 0])), (g3, .inl (cI, 1365, .inl (fun _ => 0))), (t4, .inr (0, [.ref g4, .int 0, .int 0, .int 0, .int 0])), (g4, .inl (cI, 1365, .inl (fun _ => 0))), (t5, .inr (0, [.ref g5, .int 0, .int 0, .int 0, .int 0])), (g5, .inl (cI, 1365, .inl (fun _ => 0)))] H := hP
  have hD : va_D A [(x0, .inr (1, [.ref tx, .int 0, .ref ta, .int 0])), (tx, .inl (cI, 1024, .inl (fun _ => 0))), (ta, .inl (cT, 8, .inr (.inr (.inr (.inr (va_up (va_up (va_up (va_up (va_up (va_up (fun _ => none) 0 (some t0)) 1 (some t1)) 2 (some t2)) 3 (some t3)) 4 (some t4)) 5 (some t5))))))), (t0, .inr (0, [.ref g0, .int 0, .int 0, .int 0, .int 0])), (g0, .inl (cI, 1365, .inl (fun _ => 0))), (t1, .inr (0, [.ref g1, .int 0, .int 0, .int 0, .int 0])), (g1, .inl (cI, 1365, .inl (fun _ => 0))), (t2, .inr (0, [.ref g2, .int 0, .int 0, .int 0, .int 0])), (g2, .inl (cI, 1365, .inl (fun _ => 0))), (t3, .inr (0, [.ref g3, .int 0, .int 0, .int 0, .int 0])), (g3, .inl (cI, 1365, .inl (fun _ => 0))), (t4, .inr (0, [.ref g4, .int 0, .int 0, .int 0, .int 0])), (g4, .inl (cI, 1365, .inl (fun _ => 0))), (t5, .inr (0, [.ref g5, .int 0, .int 0, .int 0, .int 0])), (g5, .inl (cI, 1365, .inl (fun _ => 0)))] := wd_D hD rfl
  refine lv_iinc (v := 6) (lv' := [(1, .int 6), (0, .ref x0)]) hx hb dB_init_48 hl (k := 0) rfl (by decide) (by decide) rfl (fun ls hl => ?_)
  refine lv_goto (tgt := 29) hx hb dB_init_51 (by decide) ?_
  refine lv_iload_n hx hb dB_init_29 rfl (lv_at hl 0 rfl) ?_
  refine lv_bipush (v := 8) hx hb dB_init_30 (by decide) ?_
  refine lv_icmp_ge (tgt := 54) hx hb dB_init_32 (by decide) (fun c_7 => absurd c_7 (by decide)) (fun c_7 => ?_)
  refine lv_aload_n hx hb dB_init_35 rfl (lv_at hl 1 rfl) ?_
  refine va_get (D := D) (ci := 1) (v := .ref ta) (C := RB) (T := FB) (N := 4) hx hb hB inB hown hK hP 0 rfl rfl 2 (by decide) (hB _ wd_50) (fun _ h9 => h9) rfl dB_init_36 ?_
  refine lv_iload_n hx hb dB_init_39 rfl (lv_at hl 0 rfl) ?_
  refine va_new (ci := 0) (fs := [.null, .int 0, .int 0, .int 0, .int 0]) (C := RT) (T := FT) (N := 5) hx hb hB inT tyT tyT_ok hown (hB _ wd_20) (hB _ wd_22) (hB _ wd_2) hK hP hD hS hA rfl (fun j hj => by rcases (show j = 0 ∨ j = 1 ∨ j = 2 ∨ j = 3 ∨ j = 4 by omega) with rfl | rfl | rfl | rfl | rfl <;> rfl) (Nat.le_of_ble_eq_true rfl) (Nat.le_of_ble_eq_true rfl) dB_init_40 (fun t6 H hP hD hS => ?_)
  have hP : va_P D tbCl [(x0, .inr (1, [.ref tx, .int 0, .ref ta, .int 0])), (tx, .inl (cI, 1024, .inl (fun _ => 0))), (ta, .inl (cT, 8, .inr (.inr (.inr (.inr (va_up (va_up (va_up (va_up (va_up (va_up (fun _ => none) 0 (some t0)) 1 (some t1)) 2 (some t2)) 3 (some t3)) 4 (some t4)) 5 (some t5))))))), (t0, .inr (0, [.ref g0, .int 0, .int 0, .int 0, .int 0])), (g0, .inl (cI, 1365, .inl (fun _ => 0))), (t1, .inr (0, [.ref g1, .int 0, .int 0, .int 0, .int 0])), (g1, .inl (cI, 1365, .inl (fun _ => 0))), (t2, .inr (0, [.ref g2, .int 0, .int 0, .int 0, .int 0])), (g2, .inl (cI, 1365, .inl (fun _ => 0))), (t3, .inr (0, [.ref g3, .int 0, .int 0, .int 0, .int 0])), (g3, .inl (cI, 1365, .inl (fun _ => 0))), (t4, .inr (0, [.ref g4, .int 0, .int 0, .int 0, .int 0])), (g4, .inl (cI, 1365, .inl (fun _ => 0))), (t5, .inr (0, [.ref g5, .int 0, .int 0, .int 0, .int 0])), (g5, .inl (cI, 1365, .inl (fun _ => 0))), (t6, .inr (0, [.null, .int 0, .int 0, .int 0, .int 0]))] H := hP
  have hD : va_D A [(x0, .inr (1, [.ref tx, .int 0, .ref ta, .int 0])), (tx, .inl (cI, 1024, .inl (fun _ => 0))), (ta, .inl (cT, 8, .inr (.inr (.inr (.inr (va_up (va_up (va_up (va_up (va_up (va_up (fun _ => none) 0 (some t0)) 1 (some t1)) 2 (some t2)) 3 (some t3)) 4 (some t4)) 5 (some t5))))))), (t0, .inr (0, [.ref g0, .int 0, .int 0, .int 0, .int 0])), (g0, .inl (cI, 1365, .inl (fun _ => 0))), (t1, .inr (0, [.ref g1, .int 0, .int 0, .int 0, .int 0])), (g1, .inl (cI, 1365, .inl (fun _ => 0))), (t2, .inr (0, [.ref g2, .int 0, .int 0, .int 0, .int 0])), (g2, .inl (cI, 1365, .inl (fun _ => 0))), (t3, .inr (0, [.ref g3, .int 0, .int 0, .int 0, .int 0])), (g3, .inl (cI, 1365, .inl (fun _ => 0))), (t4, .inr (0, [.ref g4, .int 0, .int 0, .int 0, .int 0])), (g4, .inl (cI, 1365, .inl (fun _ => 0))), (t5, .inr (0, [.ref g5, .int 0, .int 0, .int 0, .int 0])), (g5, .inl (cI, 1365, .inl (fun _ => 0))), (t6, .inr (0, [.null, .int 0, .int 0, .int 0, .int 0]))] := hD
  refine W.widen (k := 15) (n := 9257) (by omega) (by omega) ?_
  refine lv_dup hx hb dB_init_43 rfl ?_
  have hFc := va_free (wc := [(t6, .inr (0, [.null, .int 0, .int 0, .int 0, .int 0]))]) hD hS hA [15] rfl
  refine va_callv (va_runIN (As := []) (rest := [.ref t6, .int 6, .ref ta]) ⟨hx, hb, hml, hown, hB⟩ (kT_init l D H.size cI t6) ⟨va_cnB 0 hB gwT_init rfl rfl rfl (hC.1) (hB _ wd_2) ydT_init ⟨Nat.le_of_ble_eq_true rfl, Nat.le_of_ble_eq_true rfl⟩, rfl, hB _ wd_24⟩ (wr_S hC (hP.sub [15] rfl) (hK.sub [0] rfl) (hD.sub [15] (by decide) rfl)) rfl rfl hl.1 rfl (lv_room (Nat.le_of_ble_eq_true rfl)) dB_init_44 ⟨Nat.le_of_ble_eq_true rfl, Nat.le_of_ble_eq_true rfl⟩) hS (fun q _ h => hFc q h) hFc (fun u t H1 locs ht hvm hw hB1 hz1 hk1 hS => ?_)
  obtain ⟨g6, hP1, hD1⟩ := hB1
  rw [ht] at hP1
  obtain ⟨hP, hD⟩ := va_join (wr := [(x0, .inr (1, [.ref tx, .int 0, .ref ta, .int 0])), (tx, .inl (cI, 1024, .inl (fun _ => 0))), (ta, .inl (cT, 8, .inr (.inr (.inr (.inr (va_up (va_up (va_up (va_up (va_up (va_up (fun _ => none) 0 (some t0)) 1 (some t1)) 2 (some t2)) 3 (some t3)) 4 (some t4)) 5 (some t5))))))), (t0, .inr (0, [.ref g0, .int 0, .int 0, .int 0, .int 0])), (g0, .inl (cI, 1365, .inl (fun _ => 0))), (t1, .inr (0, [.ref g1, .int 0, .int 0, .int 0, .int 0])), (g1, .inl (cI, 1365, .inl (fun _ => 0))), (t2, .inr (0, [.ref g2, .int 0, .int 0, .int 0, .int 0])), (g2, .inl (cI, 1365, .inl (fun _ => 0))), (t3, .inr (0, [.ref g3, .int 0, .int 0, .int 0, .int 0])), (g3, .inl (cI, 1365, .inl (fun _ => 0))), (t4, .inr (0, [.ref g4, .int 0, .int 0, .int 0, .int 0])), (g4, .inl (cI, 1365, .inl (fun _ => 0))), (t5, .inr (0, [.ref g5, .int 0, .int 0, .int 0, .int 0])), (g5, .inl (cI, 1365, .inl (fun _ => 0)))]) (w1 := [(t6, .inr (0, [.ref g6, .int 0, .int 0, .int 0, .int 0])), (g6, .inl (cI, 1365, .inl (fun _ => 0)))]) hP hD [15] [0, 1, 2, 3, 4, 5, 6, 7, 8, 9, 10, 11, 12, 13, 14] rfl rfl (by decide) (by decide) hk1 hFc hP1 hD1
  generalize H1 = H at hP hS ⊢
  have hP : va_P D tbCl [(x0, .inr (1, [.ref tx, .int 0, .ref ta, .int 0])), (tx, .inl (cI, 1024, .inl (fun _ => 0))), (ta, .inl (cT, 8, .inr (.inr (.inr (.inr (va_up (va_up (va_up (va_up (va_up (va_up (fun _ => none) 0 (some t0)) 1 (some t1)) 2 (some t2)) 3 (some t3)) 4 (some t4)) 5 (some t5))))))), (t0, .inr (0, [.ref g0, .int 0, .int 0, .int 0, .int 0])), (g0, .inl (cI, 1365, .inl (fun _ => 0))), (t1, .inr (0, [.ref g1, .int 0, .int 0, .int 0, .int 0])), (g1, .inl (cI, 1365, .inl (fun _ => 0))), (t2, .inr (0, [.ref g2, .int 0, .int 0, .int 0, .int 0])), (g2, .inl (cI, 1365, .inl (fun _ => 0))), (t3, .inr (0, [.ref g3, .int 0, .int 0, .int 0, .int 0])), (g3, .inl (cI, 1365, .inl (fun _ => 0))), (t4, .inr (0, [.ref g4, .int 0, .int 0, .int 0, .int 0])), (g4, .inl (cI, 1365, .inl (fun _ => 0))), (t5, .inr (0, [.ref g5, .int 0, .int 0, .int 0, .int 0])), (g5, .inl (cI, 1365, .inl (fun _ => 0))), (t6, .inr (0, [.ref g6, .int 0, .int 0, .int 0, .int 0])), (g6, .inl (cI, 1365, .inl (fun _ => 0)))] H := hP
  have hD : va_D A [(x0, .inr (1, [.ref tx, .int 0, .ref ta, .int 0])), (tx, .inl (cI, 1024, .inl (fun _ => 0))), (ta, .inl (cT, 8, .inr (.inr (.inr (.inr (va_up (va_up (va_up (va_up (va_up (va_up (fun _ => none) 0 (some t0)) 1 (some t1)) 2 (some t2)) 3 (some t3)) 4 (some t4)) 5 (some t5))))))), (t0, .inr (0, [.ref g0, .int 0, .int 0, .int 0, .int 0])), (g0, .inl (cI, 1365, .inl (fun _ => 0))), (t1, .inr (0, [.ref g1, .int 0, .int 0, .int 0, .int 0])), (g1, .inl (cI, 1365, .inl (fun _ => 0))), (t2, .inr (0, [.ref g2, .int 0, .int 0, .int 0, .int 0])), (g2, .inl (cI, 1365, .inl (fun _ => 0))), (t3, .inr (0, [.ref g3, .int 0, .int 0, .int 0, .int 0])), (g3, .inl (cI, 1365, .inl (fun _ => 0))), (t4, .inr (0, [.ref g4, .int 0, .int 0, .int 0, .int 0])), (g4, .inl (cI, 1365, .inl (fun _ => 0))), (t5, .inr (0, [.ref g5, .int 0, .int 0, .int 0, .int 0])), (g5, .inl (cI, 1365, .inl (fun _ => 0))), (t6, .inr (0, [.ref g6, .int 0, .int 0, .int 0, .int 0])), (g6, .inl (cI, 1365, .inl (fun _ => 0)))] := hD
  refine W.widen (k := 16) (n := 10622) (by omega) (by omega) ?_
  refine va_astq hx hb hK hP hD hS 2 1 15 0 rfl rfl rfl rfl (i := 6) (vp_in_nI (n := 6) (N := 8) (by decide) (by decide)) dB_init_47 (fun H locs hP hD hS => ?_)
  have hP : va_P D tbCl [(x0, .inr (1, [.ref tx, .int 0, .ref ta, .int 0])), (tx, .inl (cI, 1024, .inl (fun _ => 0))), (ta, .inl (cT, 8, .inr (.inr (.inr (.inr (va_up (va_up (va_up (va_up (va_up (va_up (va_up (fun _ => none) 0 (some t0)) 1 (some t1)) 2 (some t2)) 3 (some t3)) 4 (some t4)) 5 (some t5)) 6 (some t6))))))), (t0, .inr (0, [.ref g0, .int 0, .int 0, .int 0, .int 0])), (g0, .inl (cI, 1365, .inl (fun _ => 0))), (t1, .inr (0, [.ref g1, .int 0, .int 0, .int 0, .int 0])), (g1, .inl (cI, 1365, .inl (fun _ => 0))), (t2, .inr (0, [.ref g2, .int 0, .int 0, .int 0, .int 0])), (g2, .inl (cI, 1365, .inl (fun _ => 0))), (t3, .inr (0, [.ref g3, .int 0, .int 0, .int 0, .int 0])), (g3, .inl (cI, 1365, .inl (fun _ => 0))), (t4, .inr (0, [.ref g4, .int 0, .int 0, .int 0, .int 0])), (g4, .inl (cI, 1365, .inl (fun _ => 0))), (t5, .inr (0, [.ref g5, .int 0, .int 0, .int 0, .int 0])), (g5, .inl (cI, 1365, .inl (fun _ => 0))), (t6, .inr (0, [.ref g6, .int 0, .int 0, .int 0, .int 0])), (g6, .inl (cI, 1365, .inl (fun _ => 0)))] H := hP
  have hD : va_D A [(x0, .inr (1, [.ref tx, .int 0, .ref ta, .int 0])), (tx, .inl (cI, 1024, .inl (fun _ => 0))), (ta, .inl (cT, 8, .inr (.inr (.inr (.inr (va_up (va_up (va_up (va_up (va_up (va_up (va_up (fun _ => none) 0 (some t0)) 1 (some t1)) 2 (some t2)) 3 (some t3)) 4 (some t4)) 5 (some t5)) 6 (some t6))))))), (t0, .inr (0, [.ref g0, .int 0, .int 0, .int 0, .int 0])), (g0, .inl (cI, 1365, .inl (fun _ => 0))), (t1, .inr (0, [.ref g1, .int 0, .int 0, .int 0, .int 0])), (g1, .inl (cI, 1365, .inl (fun _ => 0))), (t2, .inr (0, [.ref g2, .int 0, .int 0, .int 0, .int 0])), (g2, .inl (cI, 1365, .inl (fun _ => 0))), (t3, .inr (0, [.ref g3, .int 0, .int 0, .int 0, .int 0])), (g3, .inl (cI, 1365, .inl (fun _ => 0))), (t4, .inr (0, [.ref g4, .int 0, .int 0, .int 0, .int 0])), (g4, .inl (cI, 1365, .inl (fun _ => 0))), (t5, .inr (0, [.ref g5, .int 0, .int 0, .int 0, .int 0])), (g5, .inl (cI, 1365, .inl (fun _ => 0))), (t6, .inr (0, [.ref g6, .int 0, .int 0, .int 0, .int 0])), (g6, .inl (cI, 1365, .inl (fun _ => 0)))] := wd_D hD rfl
  refine lv_iinc (v := 7) (lv' := [(1, .int 7), (0, .ref x0)]) hx hb dB_init_48 hl (k := 0) rfl (by decide) (by decide) rfl (fun ls hl => ?_)
  refine lv_goto (tgt := 29) hx hb dB_init_51 (by decide) ?_
  refine lv_iload_n hx hb dB_init_29 rfl (lv_at hl 0 rfl) ?_
  refine lv_bipush (v := 8) hx hb dB_init_30 (by decide) ?_
  refine lv_icmp_ge (tgt := 54) hx hb dB_init_32 (by decide) (fun c_8 => absurd c_8 (by decide)) (fun c_8 => ?_)
  refine lv_aload_n hx hb dB_init_35 rfl (lv_at hl 1 rfl) ?_
  refine va_get (D := D) (ci := 1) (v := .ref ta) (C := RB) (T := FB) (N := 4) hx hb hB inB hown hK hP 0 rfl rfl 2 (by decide) (hB _ wd_50) (fun _ h9 => h9) rfl dB_init_36 ?_
  refine lv_iload_n hx hb dB_init_39 rfl (lv_at hl 0 rfl) ?_
  refine va_new (ci := 0) (fs := [.null, .int 0, .int 0, .int 0, .int 0]) (C := RT) (T := FT) (N := 5) hx hb hB inT tyT tyT_ok hown (hB _ wd_20) (hB _ wd_22) (hB _ wd_2) hK hP hD hS hA rfl (fun j hj => by rcases (show j = 0 ∨ j = 1 ∨ j = 2 ∨ j = 3 ∨ j = 4 by omega) with rfl | rfl | rfl | rfl | rfl <;> rfl) (Nat.le_of_ble_eq_true rfl) (Nat.le_of_ble_eq_true rfl) dB_init_40 (fun t7 H hP hD hS => ?_)
  have hP : va_P D tbCl [(x0, .inr (1, [.ref tx, .int 0, .ref ta, .int 0])), (tx, .inl (cI, 1024, .inl (fun _ => 0))), (ta, .inl (cT, 8, .inr (.inr (.inr (.inr (va_up (va_up (va_up (va_up (va_up (va_up (va_up (fun _ => none) 0 (some t0)) 1 (some t1)) 2 (some t2)) 3 (some t3)) 4 (some t4)) 5 (some t5)) 6 (some t6))))))), (t0, .inr (0, [.ref g0, .int 0, .int 0, .int 0, .int 0])), (g0, .inl (cI, 1365, .inl (fun _ => 0))), (t1, .inr (0, [.ref g1, .int 0, .int 0, .int 0, .int 0])), (g1, .inl (cI, 1365, .inl (fun _ => 0))), (t2, .inr (0, [.ref g2, .int 0, .int 0, .int 0, .int 0])), (g2, .inl (cI, 1365, .inl (fun _ => 0))), (t3, .inr (0, [.ref g3, .int 0, .int 0, .int 0, .int 0])), (g3, .inl (cI, 1365, .inl (fun _ => 0))), (t4, .inr (0, [.ref g4, .int 0, .int 0, .int 0, .int 0])), (g4, .inl (cI, 1365, .inl (fun _ => 0))), (t5, .inr (0, [.ref g5, .int 0, .int 0, .int 0, .int 0])), (g5, .inl (cI, 1365, .inl (fun _ => 0))), (t6, .inr (0, [.ref g6, .int 0, .int 0, .int 0, .int 0])), (g6, .inl (cI, 1365, .inl (fun _ => 0))), (t7, .inr (0, [.null, .int 0, .int 0, .int 0, .int 0]))] H := hP
  have hD : va_D A [(x0, .inr (1, [.ref tx, .int 0, .ref ta, .int 0])), (tx, .inl (cI, 1024, .inl (fun _ => 0))), (ta, .inl (cT, 8, .inr (.inr (.inr (.inr (va_up (va_up (va_up (va_up (va_up (va_up (va_up (fun _ => none) 0 (some t0)) 1 (some t1)) 2 (some t2)) 3 (some t3)) 4 (some t4)) 5 (some t5)) 6 (some t6))))))), (t0, .inr (0, [.ref g0, .int 0, .int 0, .int 0, .int 0])), (g0, .inl (cI, 1365, .inl (fun _ => 0))), (t1, .inr (0, [.ref g1, .int 0, .int 0, .int 0, .int 0])), (g1, .inl (cI, 1365, .inl (fun _ => 0))), (t2, .inr (0, [.ref g2, .int 0, .int 0, .int 0, .int 0])), (g2, .inl (cI, 1365, .inl (fun _ => 0))), (t3, .inr (0, [.ref g3, .int 0, .int 0, .int 0, .int 0])), (g3, .inl (cI, 1365, .inl (fun _ => 0))), (t4, .inr (0, [.ref g4, .int 0, .int 0, .int 0, .int 0])), (g4, .inl (cI, 1365, .inl (fun _ => 0))), (t5, .inr (0, [.ref g5, .int 0, .int 0, .int 0, .int 0])), (g5, .inl (cI, 1365, .inl (fun _ => 0))), (t6, .inr (0, [.ref g6, .int 0, .int 0, .int 0, .int 0])), (g6, .inl (cI, 1365, .inl (fun _ => 0))), (t7, .inr (0, [.null, .int 0, .int 0, .int 0, .int 0]))] := hD
  refine W.widen (k := 17) (n := 10627) (by omega) (by omega) ?_
  refine lv_dup hx hb dB_init_43 rfl ?_
  have hFc := va_free (wc := [(t7, .inr (0, [.null, .int 0, .int 0, .int 0, .int 0]))]) hD hS hA [17] rfl
  refine va_callv (va_runIN (As := []) (rest := [.ref t7, .int 7, .ref ta]) ⟨hx, hb, hml, hown, hB⟩ (kT_init l D H.size cI t7) ⟨va_cnB 0 hB gwT_init rfl rfl rfl (hC.1) (hB _ wd_2) ydT_init ⟨Nat.le_of_ble_eq_true rfl, Nat.le_of_ble_eq_true rfl⟩, rfl, hB _ wd_24⟩ (wr_S hC (hP.sub [17] rfl) (hK.sub [0] rfl) (hD.sub [17] (by decide) rfl)) rfl rfl hl.1 rfl (lv_room (Nat.le_of_ble_eq_true rfl)) dB_init_44 ⟨Nat.le_of_ble_eq_true rfl, Nat.le_of_ble_eq_true rfl⟩) hS (fun q _ h => hFc q h) hFc (fun u t H1 locs ht hvm hw hB1 hz1 hk1 hS => ?_)
  obtain ⟨g7, hP1, hD1⟩ := hB1
  rw [ht] at hP1
  obtain ⟨hP, hD⟩ := va_join (wr := [(x0, .inr (1, [.ref tx, .int 0, .ref ta, .int 0])), (tx, .inl (cI, 1024, .inl (fun _ => 0))), (ta, .inl (cT, 8, .inr (.inr (.inr (.inr (va_up (va_up (va_up (va_up (va_up (va_up (va_up (fun _ => none) 0 (some t0)) 1 (some t1)) 2 (some t2)) 3 (some t3)) 4 (some t4)) 5 (some t5)) 6 (some t6))))))), (t0, .inr (0, [.ref g0, .int 0, .int 0, .int 0, .int 0])), (g0, .inl (cI, 1365, .inl (fun _ => 0))), (t1, .inr (0, [.ref g1, .int 0, .int 0, .int 0, .int 0])), (g1, .inl (cI, 1365, .inl (fun _ => 0))), (t2, .inr (0, [.ref g2, .int 0, .int 0, .int 0, .int 0])), (g2, .inl (cI, 1365, .inl (fun _ => 0))), (t3, .inr (0, [.ref g3, .int 0, .int 0, .int 0, .int 0])), (g3, .inl (cI, 1365, .inl (fun _ => 0))), (t4, .inr (0, [.ref g4, .int 0, .int 0, .int 0, .int 0])), (g4, .inl (cI, 1365, .inl (fun _ => 0))), (t5, .inr (0, [.ref g5, .int 0, .int 0, .int 0, .int 0])), (g5, .inl (cI, 1365, .inl (fun _ => 0))), (t6, .inr (0, [.ref g6, .int 0, .int 0, .int 0, .int 0])), (g6, .inl (cI, 1365, .inl (fun _ => 0)))]) (w1 := [(t7, .inr (0, [.ref g7, .int 0, .int 0, .int 0, .int 0])), (g7, .inl (cI, 1365, .inl (fun _ => 0)))]) hP hD [17] [0, 1, 2, 3, 4, 5, 6, 7, 8, 9, 10, 11, 12, 13, 14, 15, 16] rfl rfl (by decide) (by decide) hk1 hFc hP1 hD1
  generalize H1 = H at hP hS ⊢
  have hP : va_P D tbCl [(x0, .inr (1, [.ref tx, .int 0, .ref ta, .int 0])), (tx, .inl (cI, 1024, .inl (fun _ => 0))), (ta, .inl (cT, 8, .inr (.inr (.inr (.inr (va_up (va_up (va_up (va_up (va_up (va_up (va_up (fun _ => none) 0 (some t0)) 1 (some t1)) 2 (some t2)) 3 (some t3)) 4 (some t4)) 5 (some t5)) 6 (some t6))))))), (t0, .inr (0, [.ref g0, .int 0, .int 0, .int 0, .int 0])), (g0, .inl (cI, 1365, .inl (fun _ => 0))), (t1, .inr (0, [.ref g1, .int 0, .int 0, .int 0, .int 0])), (g1, .inl (cI, 1365, .inl (fun _ => 0))), (t2, .inr (0, [.ref g2, .int 0, .int 0, .int 0, .int 0])), (g2, .inl (cI, 1365, .inl (fun _ => 0))), (t3, .inr (0, [.ref g3, .int 0, .int 0, .int 0, .int 0])), (g3, .inl (cI, 1365, .inl (fun _ => 0))), (t4, .inr (0, [.ref g4, .int 0, .int 0, .int 0, .int 0])), (g4, .inl (cI, 1365, .inl (fun _ => 0))), (t5, .inr (0, [.ref g5, .int 0, .int 0, .int 0, .int 0])), (g5, .inl (cI, 1365, .inl (fun _ => 0))), (t6, .inr (0, [.ref g6, .int 0, .int 0, .int 0, .int 0])), (g6, .inl (cI, 1365, .inl (fun _ => 0))), (t7, .inr (0, [.ref g7, .int 0, .int 0, .int 0, .int 0])), (g7, .inl (cI, 1365, .inl (fun _ => 0)))] H := hP
  have hD : va_D A [(x0, .inr (1, [.ref tx, .int 0, .ref ta, .int 0])), (tx, .inl (cI, 1024, .inl (fun _ => 0))), (ta, .inl (cT, 8, .inr (.inr (.inr (.inr (va_up (va_up (va_up (va_up (va_up (va_up (va_up (fun _ => none) 0 (some t0)) 1 (some t1)) 2 (some t2)) 3 (some t3)) 4 (some t4)) 5 (some t5)) 6 (some t6))))))), (t0, .inr (0, [.ref g0, .int 0, .int 0, .int 0, .int 0])), (g0, .inl (cI, 1365, .inl (fun _ => 0))), (t1, .inr (0, [.ref g1, .int 0, .int 0, .int 0, .int 0])), (g1, .inl (cI, 1365, .inl (fun _ => 0))), (t2, .inr (0, [.ref g2, .int 0, .int 0, .int 0, .int 0])), (g2, .inl (cI, 1365, .inl (fun _ => 0))), (t3, .inr (0, [.ref g3, .int 0, .int 0, .int 0, .int 0])), (g3, .inl (cI, 1365, .inl (fun _ => 0))), (t4, .inr (0, [.ref g4, .int 0, .int 0, .int 0, .int 0])), (g4, .inl (cI, 1365, .inl (fun _ => 0))), (t5, .inr (0, [.ref g5, .int 0, .int 0, .int 0, .int 0])), (g5, .inl (cI, 1365, .inl (fun _ => 0))), (t6, .inr (0, [.ref g6, .int 0, .int 0, .int 0, .int 0])), (g6, .inl (cI, 1365, .inl (fun _ => 0))), (t7, .inr (0, [.ref g7, .int 0, .int 0, .int 0, .int 0])), (g7, .inl (cI, 1365, .inl (fun _ => 0)))] := hD
  refine W.widen (k := 18) (n := 11992) (by omega) (by omega) ?_
  refine va_astq hx hb hK hP hD hS 2 1 17 0 rfl rfl rfl rfl (i := 7) (vp_in_nI (n := 7) (N := 8) (by decide) (by decide)) dB_init_47 (fun H locs hP hD hS => ?_)
  have hP : va_P D tbCl [(x0, .inr (1, [.ref tx, .int 0, .ref ta, .int 0])), (tx, .inl (cI, 1024, .inl (fun _ => 0))), (ta, .inl (cT, 8, .inr (.inr (.inr (.inr (va_up (va_up (va_up (va_up (va_up (va_up (va_up (va_up (fun _ => none) 0 (some t0)) 1 (some t1)) 2 (some t2)) 3 (some t3)) 4 (some t4)) 5 (some t5)) 6 (some t6)) 7 (some t7))))))), (t0, .inr (0, [.ref g0, .int 0, .int 0, .int 0, .int 0])), (g0, .inl (cI, 1365, .inl (fun _ => 0))), (t1, .inr (0, [.ref g1, .int 0, .int 0, .int 0, .int 0])), (g1, .inl (cI, 1365, .inl (fun _ => 0))), (t2, .inr (0, [.ref g2, .int 0, .int 0, .int 0, .int 0])), (g2, .inl (cI, 1365, .inl (fun _ => 0))), (t3, .inr (0, [.ref g3, .int 0, .int 0, .int 0, .int 0])), (g3, .inl (cI, 1365, .inl (fun _ => 0))), (t4, .inr (0, [.ref g4, .int 0, .int 0, .int 0, .int 0])), (g4, .inl (cI, 1365, .inl (fun _ => 0))), (t5, .inr (0, [.ref g5, .int 0, .int 0, .int 0, .int 0])), (g5, .inl (cI, 1365, .inl (fun _ => 0))), (t6, .inr (0, [.ref g6, .int 0, .int 0, .int 0, .int 0])), (g6, .inl (cI, 1365, .inl (fun _ => 0))), (t7, .inr (0, [.ref g7, .int 0, .int 0, .int 0, .int 0])), (g7, .inl (cI, 1365, .inl (fun _ => 0)))] H := hP
  have hD : va_D A [(x0, .inr (1, [.ref tx, .int 0, .ref ta, .int 0])), (tx, .inl (cI, 1024, .inl (fun _ => 0))), (ta, .inl (cT, 8, .inr (.inr (.inr (.inr (va_up (va_up (va_up (va_up (va_up (va_up (va_up (va_up (fun _ => none) 0 (some t0)) 1 (some t1)) 2 (some t2)) 3 (some t3)) 4 (some t4)) 5 (some t5)) 6 (some t6)) 7 (some t7))))))), (t0, .inr (0, [.ref g0, .int 0, .int 0, .int 0, .int 0])), (g0, .inl (cI, 1365, .inl (fun _ => 0))), (t1, .inr (0, [.ref g1, .int 0, .int 0, .int 0, .int 0])), (g1, .inl (cI, 1365, .inl (fun _ => 0))), (t2, .inr (0, [.ref g2, .int 0, .int 0, .int 0, .int 0])), (g2, .inl (cI, 1365, .inl (fun _ => 0))), (t3, .inr (0, [.ref g3, .int 0, .int 0, .int 0, .int 0])), (g3, .inl (cI, 1365, .inl (fun _ => 0))), (t4, .inr (0, [.ref g4, .int 0, .int 0, .int 0, .int 0])), (g4, .inl (cI, 1365, .inl (fun _ => 0))), (t5, .inr (0, [.ref g5, .int 0, .int 0, .int 0, .int 0])), (g5, .inl (cI, 1365, .inl (fun _ => 0))), (t6, .inr (0, [.ref g6, .int 0, .int 0, .int 0, .int 0])), (g6, .inl (cI, 1365, .inl (fun _ => 0))), (t7, .inr (0, [.ref g7, .int 0, .int 0, .int 0, .int 0])), (g7, .inl (cI, 1365, .inl (fun _ => 0)))] := wd_D hD rfl
  refine lv_iinc (v := 8) (lv' := [(1, .int 8), (0, .ref x0)]) hx hb dB_init_48 hl (k := 0) rfl (by decide) (by decide) rfl (fun ls hl => ?_)
  refine lv_goto (tgt := 29) hx hb dB_init_51 (by decide) ?_
  refine lv_iload_n hx hb dB_init_29 rfl (lv_at hl 0 rfl) ?_
  refine lv_bipush (v := 8) hx hb dB_init_30 (by decide) ?_
  refine lv_icmp_ge (tgt := 54) hx hb dB_init_32 (by decide) (fun c_9 => ?_) (fun c_9 => absurd c_9 (by decide))
  refine lv_aload_n hx hb dB_init_54 rfl (lv_at hl 1 rfl) ?_
  refine lv_iconst (v := 0) hx hb dB_init_55 (by decide) ?_
  refine va_put (D := D) (ci := 1) (v := .int 0) (ty := .int) (C := RB) (T := FB) (N := 4) hx hb hB inB tyB tyB_ok nmB hown hK hP hD hS 0 rfl rfl 3 (by decide) (hB _ wd_51) (fun _ h9 => h9) rfl (by decide +kernel) rfl rfl (Nat.le_of_ble_eq_true rfl) dB_init_56 (fun H locs hP hD hS => ?_)
  have hP : va_P D tbCl [(x0, .inr (1, [.ref tx, .int 0, .ref ta, .int 0])), (tx, .inl (cI, 1024, .inl (fun _ => 0))), (ta, .inl (cT, 8, .inr (.inr (.inr (.inr (va_up (va_up (va_up (va_up (va_up (va_up (va_up (va_up (fun _ => none) 0 (some t0)) 1 (some t1)) 2 (some t2)) 3 (some t3)) 4 (some t4)) 5 (some t5)) 6 (some t6)) 7 (some t7))))))), (t0, .inr (0, [.ref g0, .int 0, .int 0, .int 0, .int 0])), (g0, .inl (cI, 1365, .inl (fun _ => 0))), (t1, .inr (0, [.ref g1, .int 0, .int 0, .int 0, .int 0])), (g1, .inl (cI, 1365, .inl (fun _ => 0))), (t2, .inr (0, [.ref g2, .int 0, .int 0, .int 0, .int 0])), (g2, .inl (cI, 1365, .inl (fun _ => 0))), (t3, .inr (0, [.ref g3, .int 0, .int 0, .int 0, .int 0])), (g3, .inl (cI, 1365, .inl (fun _ => 0))), (t4, .inr (0, [.ref g4, .int 0, .int 0, .int 0, .int 0])), (g4, .inl (cI, 1365, .inl (fun _ => 0))), (t5, .inr (0, [.ref g5, .int 0, .int 0, .int 0, .int 0])), (g5, .inl (cI, 1365, .inl (fun _ => 0))), (t6, .inr (0, [.ref g6, .int 0, .int 0, .int 0, .int 0])), (g6, .inl (cI, 1365, .inl (fun _ => 0))), (t7, .inr (0, [.ref g7, .int 0, .int 0, .int 0, .int 0])), (g7, .inl (cI, 1365, .inl (fun _ => 0)))] H := hP
  have hD : va_D A [(x0, .inr (1, [.ref tx, .int 0, .ref ta, .int 0])), (tx, .inl (cI, 1024, .inl (fun _ => 0))), (ta, .inl (cT, 8, .inr (.inr (.inr (.inr (va_up (va_up (va_up (va_up (va_up (va_up (va_up (va_up (fun _ => none) 0 (some t0)) 1 (some t1)) 2 (some t2)) 3 (some t3)) 4 (some t4)) 5 (some t5)) 6 (some t6)) 7 (some t7))))))), (t0, .inr (0, [.ref g0, .int 0, .int 0, .int 0, .int 0])), (g0, .inl (cI, 1365, .inl (fun _ => 0))), (t1, .inr (0, [.ref g1, .int 0, .int 0, .int 0, .int 0])), (g1, .inl (cI, 1365, .inl (fun _ => 0))), (t2, .inr (0, [.ref g2, .int 0, .int 0, .int 0, .int 0])), (g2, .inl (cI, 1365, .inl (fun _ => 0))), (t3, .inr (0, [.ref g3, .int 0, .int 0, .int 0, .int 0])), (g3, .inl (cI, 1365, .inl (fun _ => 0))), (t4, .inr (0, [.ref g4, .int 0, .int 0, .int 0, .int 0])), (g4, .inl (cI, 1365, .inl (fun _ => 0))), (t5, .inr (0, [.ref g5, .int 0, .int 0, .int 0, .int 0])), (g5, .inl (cI, 1365, .inl (fun _ => 0))), (t6, .inr (0, [.ref g6, .int 0, .int 0, .int 0, .int 0])), (g6, .inl (cI, 1365, .inl (fun _ => 0))), (t7, .inr (0, [.ref g7, .int 0, .int 0, .int 0, .int 0])), (g7, .inl (cI, 1365, .inl (fun _ => 0)))] := hD
  have hP : va_P D tbCl (tbW x0 tx ta (fun j => [t0, t1, t2, t3, t4, t5, t6, t7].getD j 0) (fun j => [g0, g1, g2, g3, g4, g5, g6, g7].getD j 0) cI cT 0 0 (fun _ => 0) (fun _ => 0) (fun _ => 0) (fun _ => 0) (fun _ => 0) (fun _ _ => 0)) H := tb_canon (fun j hj => by match j, hj with | 0, _ => rfl | 1, _ => rfl | 2, _ => rfl | 3, _ => rfl | 4, _ => rfl | 5, _ => rfl | 6, _ => rfl | 7, _ => rfl | j + 8, h => exact absurd h (by omega)) hP
  have hD : va_D A (tbW x0 tx ta (fun j => [t0, t1, t2, t3, t4, t5, t6, t7].getD j 0) (fun j => [g0, g1, g2, g3, g4, g5, g6, g7].getD j 0) cI cT 0 0 (fun _ => 0) (fun _ => 0) (fun _ => 0) (fun _ => 0) (fun _ => 0) (fun _ _ => 0)) := wd_D hD rfl
  exact W.vret hx hb hr (fun t ht hW => ⟨⟨(), rfl, trivial, tx, ta, fun j => [t0, t1, t2, t3, t4, t5, t6, t7].getD j 0, fun j => [g0, g1, g2, g3, g4, g5, g6, g7].getD j 0, cI, cT, (by rw [← ht] at hP; exact hP), va_K.moved hW.alike hK, hD⟩, hS.F ht⟩) hS.2.2 dB_init_59
end
section
/-! ===== BEGIN words of one list among another's, by their places ===== -/
theorem goodIn_r {big : List Cond} (ws : List Cond) (ps : List Nat) (hp : ws = ps.filterMap (fun i => big[i]?)) (h : ws.all goodWord = true) : GoodIn big ws := by
  intro w hw
  have h1 := List.all_eq_true.mp h w hw
  rw [hp] at hw
  obtain ⟨i, -, hi⟩ := List.mem_filterMap.mp hw
  have hm : w ∈ big := by first | exact List.mem_of_getElem? hi | exact List.getElem?_mem hi
  exact ⟨hm, good_of_word h1⟩
theorem goodIn_app {big a b : List Cond} (ha : GoodIn big a) (hb : GoodIn big b) : GoodIn big (a ++ b) := fun w h => (List.mem_append.mp h).elim (ha w) (hb w)
theorem goodIn_ca {big a b : List Cond} {c : Cond} (ha : GoodIn big (c :: a)) (hb : GoodIn big b) : GoodIn big (c :: (a ++ b)) := fun w h => (List.mem_cons.mp h).elim (fun e => ha w (List.mem_cons.mpr (Or.inl e))) (fun h => (List.mem_append.mp h).elim (fun h => ha w (List.mem_cons.mpr (Or.inr h))) (hb w))
theorem goodIn_sub {big ws : List Cond} (hm : ∀ w ∈ ws, w ∈ big) (h : ws.all goodWord = true) : GoodIn big ws := fun w hw => ⟨hm w hw, good_of_word (List.all_eq_true.mp h w hw)⟩
/-! ===== END ===== -/

/-! ===== BEGIN exceptions that leave a method, and their catching by the caller (launches without stack traces) ===== -/
section VXA
/-! The laws vx_back, vx_callV, vx_callS, vx_callSW, vx_throw0, vx_throwS follow proofs of the library, with one case more: JvmDerived/Free/Laws.lean (Back.of_free), Shelf42/LK1.lean (callV, callS), Shelf/KitTraced.lean (throwNew0V, throwNewS). -/
/-- where a method has thrown q: the class by its name, the cell, what was written, the world -/
def vx_T (XC : String → State → State → Prop) (st : State) (q : Addr) (t : State) (mc ms : Nat) (free : Addr → Prop) : Prop :=
  ∃ (E : String) (ce : Cell) (L : List Loc), XC E st t ∧ t.heap[q]? = some ce ∧ ce.vm = .none ∧ st.vm.findClass E = some ce.cls ∧ st.WarmedH t.vm ∧ st.sameButNew ({ t with vm := st.vm } : State) L mc ms ∧ ∀ z ∈ L, free z.base
def vx_Q (Qc : Array Value → State → Outcome → State → Prop) (XC : String → State → State → Prop) (mc ms : Nat) (free : Addr → Prop) : Array Value → State → Outcome → State → Prop := fun a st o t =>
  (Qc a st o t ∧ ∃ L, FrameEnd st o t L mc ms ∧ ∀ q ∈ L, free q.base) ∨ ∃ q, o = .threw q ∧ vx_T XC st q t mc ms free
/-- a callee that returns or throws -/
def vx_Met (l : Launch) (y : MethodName) (ws : List Cond) (rm : Room) (Pc : Array Value → State → Prop) (Qc : Array Value → State → Outcome → State → Prop) (XC : String → State → State → Prop) (mc ms : Nat) (free : Addr → Prop) : Prop :=
  MetFree l y (headSpec ws rm) Pc (fun _ _ _ _ _ => True) (vx_Q Qc XC mc ms free)
def vx_Post (XC : String → State → State → Prop) (mc ms : Nat) (free : Addr → Prop) : Pt → Array Value → Addr → Pt → Prop := fun A a q B =>
  ∃ (g : JFrame) (mk : MethodId) (t : State) (L : List Loc) (E : String) (ce : Cell), B.U.heap = t.heap ∧ B.U.vm = t.vm ∧ XC E (A.U.calling g mk a) t ∧ t.heap[q]? = some ce ∧ ce.vm = .none ∧ A.U.vm.findClass E = some ce.cls ∧ B.locs = A.locs ++ L ∧ (∀ z ∈ L, free z.base) ∧ B.cells = A.cells + mc ∧ B.slots = A.slots + ms
def vx_Back (l : Launch) (R : Room) (p : Program) (e : Env) (below : List Frame) (s : State) (sargs : Array Value) (y : MethodName) (len W9 : Nat)
    (Pre : Pt → Array Value → Prop) (Post : Pt → Array Value → Option Value → Pt → Prop) (PostX : Pt → Array Value → Addr → Pt → Prop) : Prop :=
  ∀ (m : MethodId) (meth : Method) (c : Code) (A : Pt) (g : JFrame) (ig : Instr) (mk : MethodId) (a : Array Value),
    Stand p l e R s m sargs below meth c A.U A.locs A.cells A.slots → g.method = m → g.locals.size = c.maxLocals → decode c.code g.pc = .ok (ig, len) →
    2 * g.monitorRoom + (g.stack.map fun v => v.category).sum ≤ W9 → A.U.methodNamed? y = some mk → Pre A a →
    (∃ (v : Option Value) (B : Pt), Stand p l e R s m sargs below meth c B.U B.locs B.cells B.slots ∧ Post A a v B ∧
      Steps p.tables e below (doInvoke e (A.U.setTop g) [] mk a).1 (B.U.setTop { g with pc := g.pc + len, stack := v.toList ++ g.stack })) ∨
    (∃ (q : Addr) (B : Pt), Stand p l e R s m sargs below meth c B.U B.locs B.cells B.slots ∧ PostX A a q B ∧
      Steps p.tables e below (doInvoke e (A.U.setTop g) [] mk a).1 ((B.U.setTop g).pushFrame (.throwing q)))
section Payer
variable {l : Launch} {R : Room} {p : Program} {e : Env} {below : List Frame} {s : State} {sargs : Array Value} {y : MethodName} {len W9 : Nat}
theorem vx_back {ws : List Cond} {rm : Room} {Pc : Array Value → State → Prop} {Qc : Array Value → State → Outcome → State → Prop} {XC : String → State → State → Prop} {mc ms : Nat} {free : Addr → Prop} {bytes : ByteArray} {maxL : Nat} {ret : Option FieldType}
    (hM : vx_Met l y ws rm Pc Qc XC mc ms free) (hblind : FrameBlind Pc) (hrc : rm.cells = mc) (hrs : rm.slots = ms)
    (hframes : rm.frames + 1 ≤ R.frames) (hlocals : W9 + (maxL + 11) + rm.locals ≤ R.locals)
    (hws : ∀ w ∈ ws, ∀ a' U, s.WarmedH U.vm → w.before a' U = true) (hcode : Cond.code y bytes maxL ret ∈ ws) (hinit : ∀ a' U, s.WarmedH U.vm → (Cond.initialized y.cls).before a' U = true) :
    vx_Back l R p e below s sargs y len W9 (PreOf R mc ms Pc) (PostOf Qc mc ms free) (vx_Post XC mc ms free) := by
  intro m meth c A g ig mk a X hg hsize hdg hW hn hp
  have h1 : (headSpec ws rm).pre.before a A.U = true := atoms_intro fun w hw => hws w hw _ _ X.warmed
  have h2 : (Cond.code y bytes maxL ret).before a A.U = true := hws _ hcode _ _ X.warmed
  have h3 : (Cond.initialized y.cls).before a A.U = true := hinit _ _ X.warmed
  have h4 : A.cells + (headSpec ws rm).room.cells ≤ R.cells := by rw [show (headSpec ws rm).room.cells = mc from hrc]; exact hp.1
  have h5 : A.slots + (headSpec ws rm).room.slots ≤ R.slots := by rw [show (headSpec ws rm).room.slots = ms from hrs]; exact hp.2.1
  have hPc : Pc a (A.U.calling g mk a) := hblind _ _ _ _ hp.2.2
  obtain ⟨U, Ls, c0, s0⟩ := A
  dsimp only [Pt.U, Pt.locs, Pt.cells, Pt.slots] at h1 h2 h3 h4 h5 X hn hPc ⊢
  obtain ⟨methY, cY, hmY, hcY, -, hlY, -, -, -, -⟩ := Cond.code_spec hn h2
  obtain ⟨kY, hkY, -⟩ := className_of_methodNamed hn
  have hinitY : kY.init = .initialized := Cond.initialized_spec (findClass_of_methodNamed hn) hkY h3
  have h : At U g.method c below := by rw [hg]; exact X.here
  have hlocals9 : W9 + (maxL + 11) + (headSpec ws rm).room.locals ≤ R.locals := hlocals
  have happ : (headSpec ws rm).appliesLoose y e.platform (U.calling g mk a) = true :=
    Spec.appliesLoose_calling (g := g) h hdg hn hkY hinitY
      (X.room_calling (g := g) (R' := (headSpec ws rm).room) hsize hmY hcY hframes (by rw [hlY]; omega) h4 h5) h1
  obtain ⟨mid, hmid⟩ := h.above
  have hfr : (U.setTop g).frames = (.java g :: mid) ++ below := by rw [State.frames_setTop' g h.top, hmid]; rfl
  obtain ⟨o, s₂, hsteps, -, hend, hq⟩ := Steps.callFree hM p X.admits X.cas X.clock (acts := []) hfr happ hPc trivial
  have hq' : vx_Q Qc XC mc ms free a (U.calling g mk a) o s₂ := hq
  rw [State.frames_setTop' g h.top] at hend
  obtain ⟨g₀, hg0⟩ := Option.isSome_iff_exists.mp h.top
  obtain ⟨r, hr⟩ := State.topJava?_eq_some.mp hg0
  have hr' : (({ U with heap := s₂.heap, slotsUsed := s₂.slotsUsed } : State).setVm s₂.vm).frames = .java g₀ :: r := hr
  rcases hq' with ⟨hqc, L, hfe, hL⟩ | ⟨q, rfl, E, ce, L, hx, hce, hcv, hcl, hW₂, hsm, hL⟩
  · obtain ⟨⟨v, rfl⟩, hW₂, e2, q2, q3, q4, q5, q6⟩ := id hfe
    have e3 : s₂ = ({ (U.calling g mk a).setFrames s₂.frames with heap := s₂.heap, slotsUsed := s₂.slotsUsed } : State).setVm s₂.vm := by
      have : s₂ = ({ s₂ with vm := (U.calling g mk a).vm } : State).setVm s₂.vm := rfl
      rw [e2] at this
      exact this
    obtain ⟨c₂, i₂, len₂, hc₂, hd₂, hf₂⟩ := hend
    have hW' : U.WarmedH s₂.vm := hW₂
    have hcc : c₂ = c := by
      have h1 : s₂.code? g.method = U.code? g.method := by
        rw [State.code?_eq, State.code?_eq, hW'.alike.method?]
      exact Option.some.inj (hc₂.symm.trans (h1.trans h.code))
    subst hcc
    have hlen : len₂ = len := by rw [hdg] at hd₂; cases hd₂; rfl
    subst hlen
    have hs₂ : s₂ = (({ U with heap := s₂.heap, slotsUsed := s₂.slotsUsed } : State).setVm s₂.vm).setTop { g with pc := g.pc + len₂, stack := v.toList ++ g.stack } := by
      refine e3.trans ?_
      rw [hf₂, State.calling_eq h.top, State.setFrames_setFrames, State.setTop_of_frames _ hr', hr]
      rfl
    have hsame : U.sameButNew ({ U with heap := s₂.heap, slotsUsed := s₂.slotsUsed } : State) L mc ms := by
      refine ⟨?_, q2, q3, q4, q5, q6⟩
      obtain ⟨t, ht, -⟩ := State.frames_cons hr
      show ({ U with heap := s₂.heap, slotsUsed := s₂.slotsUsed } : State) = { U.setFrames U.frames with heap := s₂.heap, slotsUsed := s₂.slotsUsed }
      rw [State.setFrames_self ht]
    subst hg
    refine Or.inl ⟨v, ⟨(({ U with heap := s₂.heap, slotsUsed := s₂.slotsUsed } : State).setVm s₂.vm), Ls ++ L, c0 + mc, s0 + ms⟩,
      ⟨X.admits, X.cas, X.clock, X.frames, X.room, X.hears, X.method, X.code, (X.here.setHeapUsed s₂.heap s₂.slotsUsed).setVm hW'.alike, X.tail, State.WarmedH.trans X.warmed hW', X.limits, X.bytes, X.same.trans (hsame.setVm s.vm)⟩,
      ⟨g, mk, s₂, L, rfl, rfl, hqc, rfl, hL, rfl, rfl⟩, ?_⟩
    show Steps p.tables e below _ ((({ U with heap := s₂.heap, slotsUsed := s₂.slotsUsed } : State).setVm s₂.vm).setTop { g with pc := g.pc + len₂, stack := v.toList ++ g.stack })
    rw [← hs₂]
    exact hsteps
  · obtain ⟨e2, q2, q3, q4, q5, q6⟩ := id hsm
    have e3 : s₂ = ({ (U.calling g mk a).setFrames s₂.frames with heap := s₂.heap, slotsUsed := s₂.slotsUsed } : State).setVm s₂.vm := by
      have : s₂ = ({ s₂ with vm := (U.calling g mk a).vm } : State).setVm s₂.vm := rfl
      rw [e2] at this
      exact this
    have hf₂ : s₂.frames = .throwing q :: .java g :: U.frames.tail := hend
    have hW' : U.WarmedH s₂.vm := hW₂
    have hs₂ : s₂ = ((({ U with heap := s₂.heap, slotsUsed := s₂.slotsUsed } : State).setVm s₂.vm).setTop g).pushFrame (.throwing q) := by
      refine e3.trans ?_
      rw [hf₂, State.calling_eq h.top, State.setFrames_setFrames, State.pushFrame, State.frames_setTop _ hr', State.setTop_of_frames _ hr', State.setFrames_setFrames, hr]
      rfl
    have hsame : U.sameButNew ({ U with heap := s₂.heap, slotsUsed := s₂.slotsUsed } : State) L mc ms := by
      refine ⟨?_, q2, q3, q4, q5, q6⟩
      obtain ⟨t, ht, -⟩ := State.frames_cons hr
      show ({ U with heap := s₂.heap, slotsUsed := s₂.slotsUsed } : State) = { U.setFrames U.frames with heap := s₂.heap, slotsUsed := s₂.slotsUsed }
      rw [State.setFrames_self ht]
    subst hg
    refine Or.inr ⟨q, ⟨(({ U with heap := s₂.heap, slotsUsed := s₂.slotsUsed } : State).setVm s₂.vm), Ls ++ L, c0 + mc, s0 + ms⟩,
      ⟨X.admits, X.cas, X.clock, X.frames, X.room, X.hears, X.method, X.code, (X.here.setHeapUsed s₂.heap s₂.slotsUsed).setVm hW'.alike, X.tail, State.WarmedH.trans X.warmed hW', X.limits, X.bytes, X.same.trans (hsame.setVm s.vm)⟩,
      ⟨g, mk, s₂, L, E, ce, rfl, rfl, hx, hce, hcv, hcl, rfl, hL, rfl, rfl⟩, ?_⟩
    show Steps p.tables e below _ (((({ U with heap := s₂.heap, slotsUsed := s₂.slotsUsed } : State).setVm s₂.vm).setTop g).pushFrame (.throwing q))
    rw [← hs₂]
    exact hsteps
end Payer
section Calls
variable {p : Program} {l : Launch} {e : Env} {R : Room} {s : State} {m : MethodId} {args : Array Value} {below : List Frame} {meth : Method} {c : Code} {T : State} {locs : List Loc} {cells slots : Nat}
theorem vx_callV (X : Stand p l e R s m args below meth c T locs cells slots) (hexec : p.tables.exec = Jvm.exec) {own C : String} {index : Nat} {y : MethodName} {bytes : ByteArray} {maxL : Nat} {ret : Option FieldType}
    (hown : s.vm.findClass own = some m.cls) (hlink : (Cond.methodLink own index y).before args s = true) (hinst : (Cond.instanceMethod y).before args s = true) (hsel : (Cond.selects C y y).before args s = true)
    (hcode : (Cond.code y bytes maxL ret).before args s = true) (hy : y.cls ≠ "java/lang/invoke/MethodHandle" ∧ y.cls ≠ "java/lang/invoke/VarHandle")
    {W9 : Nat} {Pre : Pt → Array Value → Prop} {Post : Pt → Array Value → Option Value → Pt → Prop} {PostX : Pt → Array Value → Addr → Pt → Prop} (hK : vx_Back l R p e below s args y 3 W9 Pre Post PostX)
    {b : Addr} {cellB : Cell} (hcell : T.heap[b]? = some cellB) (hobj : cellB.vm.isStatics = false) (hcls : s.vm.findClass C = some cellB.cls)
    {g : JFrame} (hg : g.method = m) (hsize : g.locals.size = c.maxLocals) {argsL rest : List Value} (hlen : ∀ sig, parseMethodDescriptor y.desc = some sig → argsL.length = sig.parameters.length)
    (hstack : g.stack = argsL.reverse ++ .ref b :: rest) (hW : 2 * g.monitorRoom + (rest.map fun v => v.category).sum ≤ W9) (hdg : decode c.code g.pc = .ok (.invokevirtual index, 3))
    (hpre : ∀ vm₁, s.WarmedH vm₁ → Pre ⟨T.setVm vm₁, locs, cells, slots⟩ (Value.ref b :: argsL).toArray) :
    (∃ (v : Option Value) (vm₁ : Vm) (B : Pt), s.WarmedH vm₁ ∧ Stand p l e R s m args below meth c B.U B.locs B.cells B.slots ∧ Post ⟨T.setVm vm₁, locs, cells, slots⟩ (Value.ref b :: argsL).toArray v B ∧
      ∀ target, Steps p.tables e below (B.U.setTop { g with pc := g.pc + 3, stack := v.toList ++ rest }) target → Steps p.tables e below (T.setTop g) target) ∨
    (∃ (q : Addr) (vm₁ : Vm) (B : Pt), s.WarmedH vm₁ ∧ Stand p l e R s m args below meth c B.U B.locs B.cells B.slots ∧ PostX ⟨T.setVm vm₁, locs, cells, slots⟩ (Value.ref b :: argsL).toArray q B ∧
      Steps p.tables e below (T.setTop g) ((B.U.setTop { g with stack := rest }).pushFrame (.throwing q))) := by
  obtain ⟨mk, methM, hnamed, hmethM, hstM, habM⟩ := Cond.instanceMethod_spec hinst
  obtain ⟨methM', cM, hmethM', -, -, -, -, -, -, hsigM⟩ := Cond.code_spec hnamed hcode
  cases hmethM.symm.trans hmethM'
  obtain ⟨c2, r2, m2, q1, q2, q3, q4, kP, hkP, hkPi⟩ := Cond.selects_spec hsel
  cases hcls.symm.trans q1
  cases (State.methodFound?_of_named hnamed hy).symm.trans q2
  cases hnamed.symm.trans q3
  have hselP : selectMethod e.platform s.vm cellB.cls mk = .method mk := by rw [Launch.admits_selectMethod X.admits]; exact q4
  obtain ⟨vm₁, X₁, hstep₁⟩ := X.invokevirtual hexec hown hlink hnamed hmethM hstM hkP hkPi hy (a := b) (cell := cellB) hcell
    (fun z h => by rw [h] at hobj; cases hobj) hselP hmethM habM hkP hkPi (g := g) hg (argsL := argsL) (rest := rest) (hlen _ hsigM) hstack hdg
  rcases hK m meth c ⟨T.setVm vm₁, locs, cells, slots⟩ { g with stack := rest } (.invokevirtual index) mk (Value.ref b :: argsL).toArray X₁ hg hsize hdg hW (X₁.named hnamed) (hpre vm₁ X₁.warmed) with ⟨v, B, X', hpost, hsteps⟩ | ⟨q, B, X', hpost, hsteps⟩
  · exact Or.inl ⟨v, vm₁, B, X₁.warmed, X', hpost, fun target h => hstep₁ _ fun acts => by rw [doInvoke_state]; exact hsteps.trans h⟩
  · exact Or.inr ⟨q, vm₁, B, X₁.warmed, X', hpost, hstep₁ _ fun acts => by rw [doInvoke_state]; exact hsteps⟩
theorem vx_callS (X : Stand p l e R s m args below meth c T locs cells slots) (hexec : p.tables.exec = Jvm.exec) {own : String} {index : Nat} {y : MethodName} {bytes : ByteArray} {maxL : Nat} {ret : Option FieldType}
    (hown : s.vm.findClass own = some m.cls) (hlink : (Cond.methodLink own index y).before args s = true) (hstat : (Cond.static y).before args s = true) (hinit : (Cond.initialized y.cls).before args s = true)
    (hcode : (Cond.code y bytes maxL ret).before args s = true) (hy : y.cls ≠ "java/lang/invoke/MethodHandle" ∧ y.cls ≠ "java/lang/invoke/VarHandle")
    {W9 : Nat} {Pre : Pt → Array Value → Prop} {Post : Pt → Array Value → Option Value → Pt → Prop} {PostX : Pt → Array Value → Addr → Pt → Prop} (hK : vx_Back l R p e below s args y 3 W9 Pre Post PostX)
    {g : JFrame} (hg : g.method = m) (hsize : g.locals.size = c.maxLocals) {argsL rest : List Value} (hlen : ∀ sig, parseMethodDescriptor y.desc = some sig → argsL.length = sig.parameters.length)
    (hstack : g.stack = argsL.reverse ++ rest) (hW : 2 * g.monitorRoom + (rest.map fun v => v.category).sum ≤ W9) (hdg : decode c.code g.pc = .ok (.invokestatic index, 3))
    (hpre : ∀ vm₁, s.WarmedH vm₁ → Pre ⟨T.setVm vm₁, locs, cells, slots⟩ argsL.toArray) :
    (∃ (v : Option Value) (vm₁ : Vm) (B : Pt), s.WarmedH vm₁ ∧ Stand p l e R s m args below meth c B.U B.locs B.cells B.slots ∧ Post ⟨T.setVm vm₁, locs, cells, slots⟩ argsL.toArray v B ∧
      ∀ target, Steps p.tables e below (B.U.setTop { g with pc := g.pc + 3, stack := v.toList ++ rest }) target → Steps p.tables e below (T.setTop g) target) ∨
    (∃ (q : Addr) (vm₁ : Vm) (B : Pt), s.WarmedH vm₁ ∧ Stand p l e R s m args below meth c B.U B.locs B.cells B.slots ∧ PostX ⟨T.setVm vm₁, locs, cells, slots⟩ argsL.toArray q B ∧
      Steps p.tables e below (T.setTop g) ((B.U.setTop { g with stack := rest }).pushFrame (.throwing q))) := by
  obtain ⟨mk, hnamed⟩ := Cond.code_named hcode
  obtain ⟨methM, cM, hmethM, -, -, -, -, -, -, hsigM⟩ := Cond.code_spec hnamed hcode
  have hstatic : methM.isStatic = true := Cond.static_spec hnamed hmethM hstat
  obtain ⟨kP, hkP, -⟩ := className_of_methodNamed hnamed
  have hinitP : kP.init = .initialized := Cond.initialized_spec (findClass_of_methodNamed hnamed) hkP hinit
  obtain ⟨vm₁, X₁, hstep₁⟩ := X.invokestatic hexec hown hlink hnamed hmethM hstatic hkP hinitP hy (g := g) hg (argsL := argsL) (rest := rest) (hlen _ hsigM) hstack hdg
  rcases hK m meth c ⟨T.setVm vm₁, locs, cells, slots⟩ { g with stack := rest } (.invokestatic index) mk argsL.toArray X₁ hg hsize hdg hW (X₁.named hnamed) (hpre vm₁ X₁.warmed) with ⟨v, B, X', hpost, hsteps⟩ | ⟨q, B, X', hpost, hsteps⟩
  · exact Or.inl ⟨v, vm₁, B, X₁.warmed, X', hpost, fun target h => hstep₁ _ fun acts => by rw [doInvoke_state]; exact hsteps.trans h⟩
  · exact Or.inr ⟨q, vm₁, B, X₁.warmed, X', hpost, hstep₁ _ fun acts => by rw [doInvoke_state]; exact hsteps⟩
end Calls
theorem vx_cls {s : State} {T : State} {vm₁ : Vm} {E : String} {k : ClassId} (hW : s.WarmedH vm₁) (h : (T.setVm vm₁).vm.findClass E = some k) : s.vm.findClass E = some k := by
  have h1 : vm₁.findClass E = some k := h
  rw [hW.alike.findClass] at h1
  exact h1
/-- the method's frame g, with q thrown over it -/
def vx_W (p : Program) (l : Launch) (e : Env) (R : Room) (s : State) (m : MethodId) (args : Array Value) (below : List Frame) (meth : Method) (c : Code) (H : Heap) (locs : List Loc) (cells slots : Nat) (Q : State → Prop) (g : JFrame) (q : Addr) : Prop :=
  ∀ T : State, T.heap = H → Stand p l e R s m args below meth c T locs cells slots → ∃ t, Steps p.tables e below ((T.setTop g).pushFrame (.throwing q)) t ∧ Q t
def vx_Run (p : Program) (l : Launch) (e : Env) (R : Room) (s : State) (m : MethodId) (args : Array Value) (below : List Frame) (meth : Method) (c : Code) (H : Heap) (locs : List Loc) (cells slots mc ms : Nat) (g : JFrame) (rest : List Value) (Qa : State → Outcome → State → Prop) (XC : String → State → State → Prop) (free : Addr → Prop) : Prop :=
  ∀ T : State, T.heap = H → Stand p l e R s m args below meth c T locs cells slots →
    (∃ (v : Option Value) (st₀ t T' : State) (L : List Loc), st₀.heap = H ∧ Stand p l e R s m args below meth c T' (locs ++ L) (cells + mc) (slots + ms) ∧ (∀ q ∈ L, free q.base) ∧ T'.heap = t.heap ∧ T'.vm = t.vm ∧ Qa st₀ (.returned v) t ∧
      Goes p e below T g T' { g with pc := g.pc + 3, stack := v.toList ++ rest }) ∨
    (∃ (q : Addr) (st₀ t T' : State) (L : List Loc) (E : String) (ce : Cell), st₀.heap = H ∧ Stand p l e R s m args below meth c T' (locs ++ L) (cells + mc) (slots + ms) ∧ (∀ z ∈ L, free z.base) ∧ T'.heap = t.heap ∧ T'.vm = t.vm ∧ XC E st₀ t ∧ t.heap[q]? = some ce ∧ ce.vm = .none ∧ s.vm.findClass E = some ce.cls ∧
      Steps p.tables e below (T.setTop g) ((T'.setTop { g with stack := rest }).pushFrame (.throwing q)))
def vx_X {S : Type} (px : S → Prop) (B : String → S → State → Prop) (A : Nat → Prop) : String → State → State → Prop := fun E st t => ∃ u : S, px u ∧ B E u t ∧ va_F A st t
section Runs
variable {p : Program} {l : Launch} {e : Env} {R : Room} {s : State} {m : MethodId} {args : Array Value} {below : List Frame} {meth : Method} {c : Code} {H : Heap} {locs : List Loc} {cells slots : Nat}
variable {y : MethodName} {bytes cc : ByteArray} {maxL nL mc ms n index : Nat} {ret : Option FieldType} {ws : List Cond} {rm : Room} {Pc : Array Value → State → Prop} {Qc : Array Value → State → Outcome → State → Prop} {XC : String → State → State → Prop} {free : Addr → Prop} {Ts : List Cond} {own C : String} {b : Addr} {As rest : List Value} {g : JFrame}
theorem vx_callBack (cb : CallB R s args own index y bytes maxL ret ws rm mc ms n) (hM : vx_Met l y ws rm Pc Qc XC mc ms free) (hbl : FrameBlind Pc) : vx_Back l R p e below s args y 3 8 (PreOf R mc ms Pc) (PostOf Qc mc ms free) (vx_Post XC mc ms free) := by
  obtain ⟨hrc, hrs, hfr, hlo, hws, hcw, -, hini, -⟩ := cb
  exact vx_back (bytes := bytes) (maxL := maxL) (ret := ret) hM hbl hrc hrs hfr hlo hws hcw (fun a' U hW => word_at hW (Or.inl (by first | rfl | simp [Cond.onTables, Cond.keeps, Cond.steady])) hini)
theorem vx_runV (S : CallFix p m c cc nL s args Ts own) (hM : vx_Met l y ws rm Pc Qc XC mc ms free) (cw : CallW R s args own C index y bytes maxL ret ws rm mc ms n) (hp : PreV s H C b Pc As)
    (hg : g.method = m) (hn : As.length = n) (hsize : g.locals.size = nL) (hstack : g.stack = As.reverse ++ .ref b :: rest) (hW : 2 * g.monitorRoom + (rest.map fun v => v.category).sum ≤ 8) (hdg : decode cc g.pc = .ok (.invokevirtual index, 3)) (hf : cells + mc ≤ R.cells ∧ slots + ms ≤ R.slots) :
    vx_Run p l e R s m args below meth c H locs cells slots mc ms g rest (Qc (Value.ref b :: As).toArray) XC free := by
  have hK : vx_Back l R p e below s args y 3 8 (PreOf R mc ms Pc) (PostOf Qc mc ms free) (vx_Post XC mc ms free) := vx_callBack cw.1 hM hp.1
  obtain ⟨⟨-, -, -, -, -, -, hcode, -, hy, hlen, hl⟩, hin, hse⟩ := cw
  obtain ⟨hx, hb, hml, ho, -⟩ := S
  obtain ⟨-, ⟨cellB, hcB, hoB, hclB⟩, hPc⟩ := hp
  intro T hT X
  rcases vx_callV X hx (C := C) (bytes := bytes) (maxL := maxL) (ret := ret) ho hl hin hse hcode hy hK (by rw [hT]; exact hcB) hoB hclB hg (hsize.trans hml.symm) (argsL := As) (rest := rest) (fun sig h => hn.trans (hlen sig h)) hstack hW (by rw [hb]; exact hdg)
    (fun vm₁ hW₁ => ⟨hf.1, hf.2, hPc (T.setVm vm₁) hT hW₁⟩) with ⟨v, vm₁, ⟨U', l2, c2, s2⟩, hW₁, X', ⟨g', mk, t, L, e1, e2, hq, h1, hL, h2, h3⟩, st⟩ | ⟨q, vm₁, ⟨U', l2, c2, s2⟩, hW₁, X', ⟨g', mk, t, L, E, ce, e1, e2, hq, hce, hcv, hcl, h1, hL, h2, h3⟩, st⟩
  · dsimp only [Pt.U, Pt.locs, Pt.cells, Pt.slots] at X' e1 e2 h1 h2 h3 st
    subst h1; subst h2; subst h3
    exact Or.inl ⟨v, (T.setVm vm₁).calling g' mk (Value.ref b :: As).toArray, t, U', L, hT, X', hL, e1, e2, hq, st⟩
  · dsimp only [Pt.U, Pt.locs, Pt.cells, Pt.slots] at X' e1 e2 h1 h2 h3 st hcl
    subst h1; subst h2; subst h3
    exact Or.inr ⟨q, (T.setVm vm₁).calling g' mk (Value.ref b :: As).toArray, t, U', L, E, ce, hT, X', hL, e1, e2, hq, hce, hcv, vx_cls hW₁ hcl, st⟩
theorem vx_runS (S : CallFix p m c cc nL s args Ts own) (hM : vx_Met l y ws rm Pc Qc XC mc ms free) (cw : CallB R s args own index y bytes maxL ret ws rm mc ms n ∧ (Cond.static y).before args s = true) (hp : PreS s H Pc As)
    (hg : g.method = m) (hn : As.length = n) (hsize : g.locals.size = nL) (hstack : g.stack = As.reverse ++ rest) (hW : 2 * g.monitorRoom + (rest.map fun v => v.category).sum ≤ 8) (hdg : decode cc g.pc = .ok (.invokestatic index, 3)) (hf : cells + mc ≤ R.cells ∧ slots + ms ≤ R.slots) :
    vx_Run p l e R s m args below meth c H locs cells slots mc ms g rest (Qc As.toArray) XC free := by
  have hK : vx_Back l R p e below s args y 3 8 (PreOf R mc ms Pc) (PostOf Qc mc ms free) (vx_Post XC mc ms free) := vx_callBack cw.1 hM hp.1
  obtain ⟨⟨-, -, -, -, -, -, hcode, hini, hy, hlen, hl⟩, hstt⟩ := cw
  obtain ⟨hx, hb, hml, ho, -⟩ := S
  intro T hT X
  rcases vx_callS X hx (bytes := bytes) (maxL := maxL) (ret := ret) ho hl hstt hini hcode hy hK hg (hsize.trans hml.symm) (argsL := As) (rest := rest) (fun sig h => hn.trans (hlen sig h)) hstack hW (by rw [hb]; exact hdg)
    (fun vm₁ hW₁ => ⟨hf.1, hf.2, hp.2 (T.setVm vm₁) hT hW₁⟩) with ⟨v, vm₁, ⟨U', l2, c2, s2⟩, hW₁, X', ⟨g', mk, t, L, e1, e2, hq, h1, hL, h2, h3⟩, st⟩ | ⟨q, vm₁, ⟨U', l2, c2, s2⟩, hW₁, X', ⟨g', mk, t, L, E, ce, e1, e2, hq, hce, hcv, hcl, h1, hL, h2, h3⟩, st⟩
  · dsimp only [Pt.U, Pt.locs, Pt.cells, Pt.slots] at X' e1 e2 h1 h2 h3 st
    subst h1; subst h2; subst h3
    exact Or.inl ⟨v, (T.setVm vm₁).calling g' mk As.toArray, t, U', L, hT, X', hL, e1, e2, hq, st⟩
  · dsimp only [Pt.U, Pt.locs, Pt.cells, Pt.slots] at X' e1 e2 h1 h2 h3 st hcl
    subst h1; subst h2; subst h3
    exact Or.inr ⟨q, (T.setVm vm₁).calling g' mk As.toArray, t, U', L, E, ce, hT, X', hL, e1, e2, hq, hce, hcv, vx_cls hW₁ hcl, st⟩
end Runs
section Rows
variable {p : Program} {l : Launch} {e : Env} {R : Room} {s : State} {m : MethodId} {args : Array Value} {below : List Frame} {meth : Method} {c : Code} {H : Heap} {locs : List Loc} {cells slots : Nat} {Q : State → Prop}
variable {mc ms : Nat} {free : Addr → Prop} {A0 A1 : Nat → Prop} {H0 : Heap} {a : Array Value} {pc : Nat} {ls : Array Slot} {st0 rest : List Value}
theorem vx_keep {st₀ t T' : State} {L : List Loc} (h0 : st₀.heap = H) (e1 : T'.heap = t.heap) (hS : va_S A0 H0 H locs) (hA : ∀ q, q < H.size → A1 q → A0 q) (hf : ∀ q, free q → A0 q) (hL : ∀ q ∈ L, free q.base) (hF : va_F A1 st₀ t) :
    H.size ≤ T'.heap.size ∧ (∀ q : Nat, q < H.size → ¬ A1 q → T'.heap[q]? = H[q]?) ∧ va_S A0 H0 T'.heap (locs ++ L) := by
  obtain ⟨hz, hk⟩ := hF
  rw [h0] at hz hk
  exact ⟨by rw [e1]; exact hz, fun q h1 h2 => by rw [e1]; exact hk q h1 h2,
    ⟨Nat.le_trans hS.1 (by rw [e1]; exact hz), fun q h1 h2 => by rw [e1, hk q (Nat.lt_of_lt_of_le h1 hS.1) (fun z => h2 (hA q (Nat.lt_of_lt_of_le h1 hS.1) z))]; exact hS.2.1 q h1 h2, fun q hq => by
      rcases List.mem_append.mp hq with h | h
      · exact hS.2.2 q h
      · exact hf _ (hL q h)⟩⟩
theorem vx_calli {S SX : Type} {post : Int32 → S → Prop} {px : SX → Prop} {B : S → State → Prop} {BX : String → SX → State → Prop} {AX : Nat → Prop} (hr : vx_Run p l e R s m args below meth c H locs cells slots mc ms (F0 m pc ls st0) rest (va_Qi post B A1 a) (vx_X px BX AX) free) (hS : va_S A0 H0 H locs) (hA : ∀ q, q < H.size → A1 q → A0 q) (hf : ∀ q, free q → A0 q) (hAX : ∀ q, q < H.size → AX q → A0 q)
    (kx : ∀ (E : String) (ce : Cell) (q9 : Addr) (u : SX) (t : State) (H1 : Heap) (locs1 : List Loc), t.heap = H1 → s.vm.Alike t.vm → px u → BX E u t → H.size ≤ H1.size → (∀ q : Nat, q < H.size → ¬ AX q → H1[q]? = H[q]?) → va_S A0 H0 H1 locs1 → H1[q9]? = some ce → ce.vm = .none → s.vm.findClass E = some ce.cls → vx_W p l e R s m args below meth c H1 locs1 (cells + mc) (slots + ms) Q (F0 m pc ls rest) q9)
    (kk : ∀ (r : Int32) (u : S) (t : State) (H1 : Heap) (locs1 : List Loc), t.heap = H1 → s.vm.Alike t.vm → post r u → B u t → H.size ≤ H1.size → (∀ q : Nat, q < H.size → ¬ A1 q → H1[q]? = H[q]?) → va_S A0 H0 H1 locs1 → W p l e R s m args below meth c H1 locs1 (cells + mc) (slots + ms) Q (F0 m (pc + 3) ls (.int r :: rest))) : W p l e R s m args below meth c H locs cells slots Q (F0 m pc ls st0) := by
  intro T hT X
  rcases hr T hT X with ⟨v, st₀, t, T', L, h0, X', hL, e1, e2, ⟨⟨r, u, hv, hp, hb⟩, hF⟩, st⟩ | ⟨q, st₀, t, T', L, E, ce, h0, X', hL, e1, e2, ⟨u, hp, hb, hF⟩, hce, hcv, hcl, st⟩
  · cases hv
    obtain ⟨k1, k2, k3⟩ := vx_keep h0 e1 hS hA hf hL hF
    obtain ⟨t2, a1, b1⟩ := kk r u t T'.heap (locs ++ L) e1.symm (by rw [← e2]; exact X'.warmed.alike) hp hb k1 k2 k3 T' rfl X'
    exact ⟨t2, st t2 a1, b1⟩
  · obtain ⟨k1, k2, k3⟩ := vx_keep h0 e1 hS hAX hf hL hF
    obtain ⟨t2, a1, b1⟩ := kx E ce q u t T'.heap (locs ++ L) e1.symm (by rw [← e2]; exact X'.warmed.alike) hp hb k1 k2 k3 (by rw [e1]; exact hce) hcv hcl T' rfl X'
    exact ⟨t2, st.trans a1, b1⟩
theorem vx_calll {S SX : Type} {post : Int64 → S → Prop} {px : SX → Prop} {B : S → State → Prop} {BX : String → SX → State → Prop} {AX : Nat → Prop} (hr : vx_Run p l e R s m args below meth c H locs cells slots mc ms (F0 m pc ls st0) rest (va_Ql post B A1 a) (vx_X px BX AX) free) (hS : va_S A0 H0 H locs) (hA : ∀ q, q < H.size → A1 q → A0 q) (hf : ∀ q, free q → A0 q) (hAX : ∀ q, q < H.size → AX q → A0 q)
    (kx : ∀ (E : String) (ce : Cell) (q9 : Addr) (u : SX) (t : State) (H1 : Heap) (locs1 : List Loc), t.heap = H1 → s.vm.Alike t.vm → px u → BX E u t → H.size ≤ H1.size → (∀ q : Nat, q < H.size → ¬ AX q → H1[q]? = H[q]?) → va_S A0 H0 H1 locs1 → H1[q9]? = some ce → ce.vm = .none → s.vm.findClass E = some ce.cls → vx_W p l e R s m args below meth c H1 locs1 (cells + mc) (slots + ms) Q (F0 m pc ls rest) q9)
    (kk : ∀ (r : Int64) (u : S) (t : State) (H1 : Heap) (locs1 : List Loc), t.heap = H1 → s.vm.Alike t.vm → post r u → B u t → H.size ≤ H1.size → (∀ q : Nat, q < H.size → ¬ A1 q → H1[q]? = H[q]?) → va_S A0 H0 H1 locs1 → W p l e R s m args below meth c H1 locs1 (cells + mc) (slots + ms) Q (F0 m (pc + 3) ls (.long r :: rest))) : W p l e R s m args below meth c H locs cells slots Q (F0 m pc ls st0) := by
  intro T hT X
  rcases hr T hT X with ⟨v, st₀, t, T', L, h0, X', hL, e1, e2, ⟨⟨r, u, hv, hp, hb⟩, hF⟩, st⟩ | ⟨q, st₀, t, T', L, E, ce, h0, X', hL, e1, e2, ⟨u, hp, hb, hF⟩, hce, hcv, hcl, st⟩
  · cases hv
    obtain ⟨k1, k2, k3⟩ := vx_keep h0 e1 hS hA hf hL hF
    obtain ⟨t2, a1, b1⟩ := kk r u t T'.heap (locs ++ L) e1.symm (by rw [← e2]; exact X'.warmed.alike) hp hb k1 k2 k3 T' rfl X'
    exact ⟨t2, st t2 a1, b1⟩
  · obtain ⟨k1, k2, k3⟩ := vx_keep h0 e1 hS hAX hf hL hF
    obtain ⟨t2, a1, b1⟩ := kx E ce q u t T'.heap (locs ++ L) e1.symm (by rw [← e2]; exact X'.warmed.alike) hp hb k1 k2 k3 (by rw [e1]; exact hce) hcv hcl T' rfl X'
    exact ⟨t2, st.trans a1, b1⟩
theorem vx_callf {S SX : Type} {post : UInt32 → S → Prop} {px : SX → Prop} {B : S → State → Prop} {BX : String → SX → State → Prop} {AX : Nat → Prop} (hr : vx_Run p l e R s m args below meth c H locs cells slots mc ms (F0 m pc ls st0) rest (va_Qf post B A1 a) (vx_X px BX AX) free) (hS : va_S A0 H0 H locs) (hA : ∀ q, q < H.size → A1 q → A0 q) (hf : ∀ q, free q → A0 q) (hAX : ∀ q, q < H.size → AX q → A0 q)
    (kx : ∀ (E : String) (ce : Cell) (q9 : Addr) (u : SX) (t : State) (H1 : Heap) (locs1 : List Loc), t.heap = H1 → s.vm.Alike t.vm → px u → BX E u t → H.size ≤ H1.size → (∀ q : Nat, q < H.size → ¬ AX q → H1[q]? = H[q]?) → va_S A0 H0 H1 locs1 → H1[q9]? = some ce → ce.vm = .none → s.vm.findClass E = some ce.cls → vx_W p l e R s m args below meth c H1 locs1 (cells + mc) (slots + ms) Q (F0 m pc ls rest) q9)
    (kk : ∀ (r : UInt32) (u : S) (t : State) (H1 : Heap) (locs1 : List Loc), t.heap = H1 → s.vm.Alike t.vm → post r u → B u t → H.size ≤ H1.size → (∀ q : Nat, q < H.size → ¬ A1 q → H1[q]? = H[q]?) → va_S A0 H0 H1 locs1 → W p l e R s m args below meth c H1 locs1 (cells + mc) (slots + ms) Q (F0 m (pc + 3) ls (.float r :: rest))) : W p l e R s m args below meth c H locs cells slots Q (F0 m pc ls st0) := by
  intro T hT X
  rcases hr T hT X with ⟨v, st₀, t, T', L, h0, X', hL, e1, e2, ⟨⟨r, u, hv, hp, hb⟩, hF⟩, st⟩ | ⟨q, st₀, t, T', L, E, ce, h0, X', hL, e1, e2, ⟨u, hp, hb, hF⟩, hce, hcv, hcl, st⟩
  · cases hv
    obtain ⟨k1, k2, k3⟩ := vx_keep h0 e1 hS hA hf hL hF
    obtain ⟨t2, a1, b1⟩ := kk r u t T'.heap (locs ++ L) e1.symm (by rw [← e2]; exact X'.warmed.alike) hp hb k1 k2 k3 T' rfl X'
    exact ⟨t2, st t2 a1, b1⟩
  · obtain ⟨k1, k2, k3⟩ := vx_keep h0 e1 hS hAX hf hL hF
    obtain ⟨t2, a1, b1⟩ := kx E ce q u t T'.heap (locs ++ L) e1.symm (by rw [← e2]; exact X'.warmed.alike) hp hb k1 k2 k3 (by rw [e1]; exact hce) hcv hcl T' rfl X'
    exact ⟨t2, st.trans a1, b1⟩
theorem vx_calld {S SX : Type} {post : UInt64 → S → Prop} {px : SX → Prop} {B : S → State → Prop} {BX : String → SX → State → Prop} {AX : Nat → Prop} (hr : vx_Run p l e R s m args below meth c H locs cells slots mc ms (F0 m pc ls st0) rest (va_Qd post B A1 a) (vx_X px BX AX) free) (hS : va_S A0 H0 H locs) (hA : ∀ q, q < H.size → A1 q → A0 q) (hf : ∀ q, free q → A0 q) (hAX : ∀ q, q < H.size → AX q → A0 q)
    (kx : ∀ (E : String) (ce : Cell) (q9 : Addr) (u : SX) (t : State) (H1 : Heap) (locs1 : List Loc), t.heap = H1 → s.vm.Alike t.vm → px u → BX E u t → H.size ≤ H1.size → (∀ q : Nat, q < H.size → ¬ AX q → H1[q]? = H[q]?) → va_S A0 H0 H1 locs1 → H1[q9]? = some ce → ce.vm = .none → s.vm.findClass E = some ce.cls → vx_W p l e R s m args below meth c H1 locs1 (cells + mc) (slots + ms) Q (F0 m pc ls rest) q9)
    (kk : ∀ (r : UInt64) (u : S) (t : State) (H1 : Heap) (locs1 : List Loc), t.heap = H1 → s.vm.Alike t.vm → post r u → B u t → H.size ≤ H1.size → (∀ q : Nat, q < H.size → ¬ A1 q → H1[q]? = H[q]?) → va_S A0 H0 H1 locs1 → W p l e R s m args below meth c H1 locs1 (cells + mc) (slots + ms) Q (F0 m (pc + 3) ls (.double r :: rest))) : W p l e R s m args below meth c H locs cells slots Q (F0 m pc ls st0) := by
  intro T hT X
  rcases hr T hT X with ⟨v, st₀, t, T', L, h0, X', hL, e1, e2, ⟨⟨r, u, hv, hp, hb⟩, hF⟩, st⟩ | ⟨q, st₀, t, T', L, E, ce, h0, X', hL, e1, e2, ⟨u, hp, hb, hF⟩, hce, hcv, hcl, st⟩
  · cases hv
    obtain ⟨k1, k2, k3⟩ := vx_keep h0 e1 hS hA hf hL hF
    obtain ⟨t2, a1, b1⟩ := kk r u t T'.heap (locs ++ L) e1.symm (by rw [← e2]; exact X'.warmed.alike) hp hb k1 k2 k3 T' rfl X'
    exact ⟨t2, st t2 a1, b1⟩
  · obtain ⟨k1, k2, k3⟩ := vx_keep h0 e1 hS hAX hf hL hF
    obtain ⟨t2, a1, b1⟩ := kx E ce q u t T'.heap (locs ++ L) e1.symm (by rw [← e2]; exact X'.warmed.alike) hp hb k1 k2 k3 (by rw [e1]; exact hce) hcv hcl T' rfl X'
    exact ⟨t2, st.trans a1, b1⟩
theorem vx_callv {S SX : Type} {post : S → Prop} {px : SX → Prop} {B : S → State → Prop} {BX : String → SX → State → Prop} {AX : Nat → Prop} (hr : vx_Run p l e R s m args below meth c H locs cells slots mc ms (F0 m pc ls st0) rest (va_Qv post B A1 a) (vx_X px BX AX) free) (hS : va_S A0 H0 H locs) (hA : ∀ q, q < H.size → A1 q → A0 q) (hf : ∀ q, free q → A0 q) (hAX : ∀ q, q < H.size → AX q → A0 q)
    (kx : ∀ (E : String) (ce : Cell) (q9 : Addr) (u : SX) (t : State) (H1 : Heap) (locs1 : List Loc), t.heap = H1 → s.vm.Alike t.vm → px u → BX E u t → H.size ≤ H1.size → (∀ q : Nat, q < H.size → ¬ AX q → H1[q]? = H[q]?) → va_S A0 H0 H1 locs1 → H1[q9]? = some ce → ce.vm = .none → s.vm.findClass E = some ce.cls → vx_W p l e R s m args below meth c H1 locs1 (cells + mc) (slots + ms) Q (F0 m pc ls rest) q9)
    (kk : ∀ (u : S) (t : State) (H1 : Heap) (locs1 : List Loc), t.heap = H1 → s.vm.Alike t.vm → post u → B u t → H.size ≤ H1.size → (∀ q : Nat, q < H.size → ¬ A1 q → H1[q]? = H[q]?) → va_S A0 H0 H1 locs1 → W p l e R s m args below meth c H1 locs1 (cells + mc) (slots + ms) Q (F0 m (pc + 3) ls (rest))) : W p l e R s m args below meth c H locs cells slots Q (F0 m pc ls st0) := by
  intro T hT X
  rcases hr T hT X with ⟨v, st₀, t, T', L, h0, X', hL, e1, e2, ⟨⟨u, hv, hp, hb⟩, hF⟩, st⟩ | ⟨q, st₀, t, T', L, E, ce, h0, X', hL, e1, e2, ⟨u, hp, hb, hF⟩, hce, hcv, hcl, st⟩
  · cases hv
    obtain ⟨k1, k2, k3⟩ := vx_keep h0 e1 hS hA hf hL hF
    obtain ⟨t2, a1, b1⟩ := kk u t T'.heap (locs ++ L) e1.symm (by rw [← e2]; exact X'.warmed.alike) hp hb k1 k2 k3 T' rfl X'
    exact ⟨t2, st t2 a1, b1⟩
  · obtain ⟨k1, k2, k3⟩ := vx_keep h0 e1 hS hAX hf hL hF
    obtain ⟨t2, a1, b1⟩ := kx E ce q u t T'.heap (locs ++ L) e1.symm (by rw [← e2]; exact X'.warmed.alike) hp hb k1 k2 k3 (by rw [e1]; exact hce) hcv hcl T' rfl X'
    exact ⟨t2, st.trans a1, b1⟩
/-- caught by the row x of this method's table; the rows ahead don't take it -/
theorem vx_catch {own name : String} {E : String} {ce : Cell} {q : Addr} (hown : s.vm.findClass own = some m.cls) (pre : List ExceptionTableEntry) (x : ExceptionTableEntry) (suf : List ExceptionTableEntry) (hsplit : c.exceptionTable.toList = pre ++ x :: suf)
    (hpass : ∀ z ∈ pre, covers z pc = false ∨ (z.catchType ≠ 0 ∧ ∃ nm : String, (Cond.classLink own z.catchType nm).before args s = true ∧ va_Nc E nm s)) (hx : covers x pc = true) (h0 : x.catchType ≠ 0)
    (hlink : (Cond.classLink own x.catchType name).before args s = true) (hcast : (Cond.castable E name).before args s = true) (hcell : H[q]? = some ce) (hv : ce.vm = .none) (hcl : s.vm.findClass E = some ce.cls)
    (kk : W p l e R s m args below meth c H locs cells slots Q (F0 m x.handlerPc ls [.ref q])) : vx_W p l e R s m args below meth c H locs cells slots Q (F0 m pc ls rest) q := by
  intro T hT X
  have hpl : e.platform.magicAccessors = ({} : Platform).magicAccessors := by rw [X.admits.platform]
  obtain ⟨c3, c4, hc3, hc4, hasg⟩ := Cond.castable_spec hcast
  cases Option.some.inj (hc3.symm.trans hcl)
  obtain ⟨c5, hc5, hcl5⟩ := Cond.classLink_spec hown hlink e.platform hpl
  cases Option.some.inj (hc4.symm.trans hc5)
  obtain ⟨vm', X', st⟩ := X.thenCaughtThrough q (g := F0 m pc ls rest) rfl (Steps.refl _) (by rw [hT]; exact hcell) (by rw [hv]; rfl) (by obtain ⟨k9, h9, -⟩ := Vm.findClass_spec hcl; exact ⟨k9, h9⟩) pre x suf hsplit
    (fun z hz => by
      rcases hpass z hz with h | ⟨hz0, nm, hl1, hn1⟩
      · exact Or.inl h
      · obtain ⟨c6, hc6, hcl6⟩ := Cond.classLink_spec hown hl1 e.platform hpl
        obtain ⟨a8, b8, h1, h2, h3⟩ := hn1
        cases Option.some.inj (h1.symm.trans hcl)
        cases Option.some.inj (h2.symm.trans hc6)
        exact Or.inr ⟨hz0, _, hcl6, h3⟩) hx (Or.inr ⟨h0, c4, hcl5, hasg⟩)
  obtain ⟨t, a1, b1⟩ := kk (T.setVm vm') hT X'
  exact ⟨t, st.trans a1, b1⟩
end Rows
section Ends
variable {p : Program} {l : Launch} {e : Env} {R : Room} {s : State} {m : MethodId} {args : Array Value} {below : List Frame} {meth : Method} {c : Code} {H : Heap} {locs : List Loc} {cells slots : Nat} {Q : State → Prop}
variable {mc ms : Nat} {free : Addr → Prop} {A0 A1 : Nat → Prop} {H0 : Heap} {a : Array Value} {ls : Array Slot} {st0 rest : List Value}
variable {Qc : Array Value → State → Outcome → State → Prop} {XC : String → State → State → Prop}
/-- what a body that may throw owes at its end -/
def vx_MQ (below : List Frame) (Qc : Array Value → State → Outcome → State → Prop) (XC : String → State → State → Prop) (a : Array Value) (s : State) (mc ms : Nat) (free : Addr → Prop) : State → Prop := fun t =>
  ∃ o, t.status = .running ∧ Ended t below o ∧ vx_Q Qc XC mc ms free a s o t
theorem vx_ret {g : JFrame} {mc ms : Nat} (k : W p l e R s m args below meth c H locs cells slots (MQ below Qc args s mc ms free) g) : W p l e R s m args below meth c H locs cells slots (vx_MQ below Qc XC args s mc ms free) g := by
  intro T hT X
  obtain ⟨t, a1, o, b1, b2, b3, b4⟩ := k T hT X
  exact ⟨t, a1, o, b1, b2, Or.inl ⟨b3, b4⟩⟩
/-- not caught here: it goes on to the caller -/
theorem vx_widen {g : JFrame} {q : Addr} {k n : Nat} (h1 : cells ≤ k) (h2 : slots ≤ n) (kk : vx_W p l e R s m args below meth c H locs k n Q g q) : vx_W p l e R s m args below meth c H locs cells slots Q g q := fun T hT X => kk T hT (stand_widen X h1 h2)
theorem vx_out {pc : Nat} {E : String} {ce : Cell} {q : Addr} {mc ms : Nat} (hout : ∀ x ∈ c.exceptionTable.toList, covers x pc = false) (hlocks : meth.locks = false) (hcell : H[q]? = some ce) (hv : ce.vm = .none) (hcl : s.vm.findClass E = some ce.cls)
    (hx : ∀ t : State, t.heap = H → s.vm.Alike t.vm → XC E s t) (hf : ∀ z ∈ locs, free z.base) (hc : cells ≤ mc) (hs : slots ≤ ms) :
    vx_W p l e R s m args below meth c H locs cells slots (vx_MQ below Qc XC args s mc ms free) (F0 m pc ls rest) q := by
  intro T hT X
  obtain ⟨st1, hrun, hend, hW, hsm⟩ := X.leaveThrown q (g := F0 m pc ls rest) rfl rfl rfl hout hlocks
  have hcell9 : (T.setFrames (.throwing q :: below)).heap[q]? = some ce := by
    show T.heap[q]? = some ce
    rw [hT]; exact hcell
  exact ⟨_, st1, .threw q, hrun, hend, Or.inr ⟨q, rfl, E, ce, locs, hx _ hT hW.alike, hcell9, hv, hcl, hW, hsm.mono hc hs, hf⟩⟩
theorem vx_frame {U : State} {k n : Nat} (h : s.sameButNew ({ U with vm := s.vm } : State) locs k n) : s.heap.size ≤ U.heap.size ∧ ∀ q : Nat, q < s.heap.size → (∀ z ∈ locs, z.base ≠ q) → U.heap[q]? = s.heap[q]? := by
  obtain ⟨-, h2, -, -, -, h6⟩ := h
  refine ⟨h2, fun q hq hz => ?_⟩
  obtain ⟨c9, e1, e2, e3, e4⟩ := h6 q _ (Array.getElem?_eq_getElem hq)
  have hs : c9.slots = (s.heap[q]).slots := Array.ext_getElem? fun i => e4 i fun hm => hz _ hm rfl
  have h9 : c9 = s.heap[q] := by
    rw [hs] at e2
    exact e2
  have e5 : U.heap[q]? = some c9 := e1
  rw [e5, h9, Array.getElem?_eq_getElem hq]
/-- the words of a throw but the four that speak of the heap -/
def vx_no (w : Cond) : Bool := decide (w ≠ .isRef (.static Bundle.tN "UNASSIGNED_STACK" Bundle.steD)) && decide (w ≠ .isRef (.static Bundle.tN "SUPPRESSED_SENTINEL" Bundle.listD)) && decide (w ≠ .laysStatic Bundle.tN "UNASSIGNED_STACK" Bundle.steD) && decide (w ≠ .laysStatic Bundle.tN "SUPPRESSED_SENTINEL" Bundle.listD)
def vx_at0 (own : String) (ic : Nat) (X : String) (names : List String) : List Cond := (Bundle.ownAtoms0 own ic X names).filter vx_no
def vx_atS (own : String) (ic : Nat) (X : String) (names : List String) : List Cond := (Bundle.ownAtoms own ic X names).filter vx_no
/-- a word that the tables alone decide, or a good one -/
def vx_ot (w : Cond) : Bool := w.onTables || goodWord w
theorem vx_ot_at {args a' : Array Value} {s U : State} {w : Cond} (hW : s.WarmedH U.vm) (hvm : s.vm = U.vm) (hg : vx_ot w = true) (h : w.before args s = true) : w.before a' U = true := by
  simp only [vx_ot, Bool.or_eq_true] at hg
  rcases hg with hg | hg
  · exact va_tabs hg hvm h
  · exact word_at hW (good_of_word hg) h
/-- a list's words: the good ones out of the method's own list, the others by premises of their own -/
theorem vx_hat {args : Array Value} {s : State} {L B : List Cond} (h1 : ∀ w ∈ L.filter goodWord, w.before args s = true) (h2 : ∀ w ∈ L.filter (fun w => !goodWord w), w ∈ B) (h3 : ∀ w ∈ B, w.before args s = true) : ∀ w ∈ L, w.before args s = true := by
  intro w hw
  by_cases g : goodWord w = true
  · exact h1 w (List.mem_filter.mpr ⟨hw, g⟩)
  · refine h3 w (h2 w (List.mem_filter.mpr ⟨hw, ?_⟩))
    show (!goodWord w) = true
    cases hgw : goodWord w
    · rfl
    · exact absurd hgw g
theorem vx_c {args : Array Value} {s : State} {w : Cond} {B : List Cond} (h : w.before args s = true) (t : ∀ w ∈ B, w.before args s = true) : ∀ w' ∈ w :: B, w'.before args s = true := fun w' h' => (List.mem_cons.mp h').elim (fun e => by rw [e]; exact h) (t w')
theorem vx_n {args : Array Value} {s : State} : ∀ w ∈ ([] : List Cond), w.before args s = true := fun _ h => nomatch h
theorem vx_own {args : Array Value} {s : State} {L : List Cond} (h1 : ∀ w ∈ L.filter vx_no, w.before args s = true)
    (hU : (Cond.isRef (.static Bundle.tN "UNASSIGNED_STACK" Bundle.steD)).before args s = true) (hN : (Cond.isRef (.static Bundle.tN "SUPPRESSED_SENTINEL" Bundle.listD)).before args s = true)
    (lU : (Cond.laysStatic Bundle.tN "UNASSIGNED_STACK" Bundle.steD).before args s = true) (lN : (Cond.laysStatic Bundle.tN "SUPPRESSED_SENTINEL" Bundle.listD).before args s = true) : ∀ w ∈ L, w.before args s = true := by
  intro w hw
  by_cases e1 : w = .isRef (.static Bundle.tN "UNASSIGNED_STACK" Bundle.steD)
  · rw [e1]; exact hU
  · by_cases e2 : w = .isRef (.static Bundle.tN "SUPPRESSED_SENTINEL" Bundle.listD)
    · rw [e2]; exact hN
    · by_cases e3 : w = .laysStatic Bundle.tN "UNASSIGNED_STACK" Bundle.steD
      · rw [e3]; exact lU
      · by_cases e4 : w = .laysStatic Bundle.tN "SUPPRESSED_SENTINEL" Bundle.listD
        · rw [e4]; exact lN
        · exact h1 w (List.mem_filter.mpr ⟨hw, by unfold vx_no; rw [decide_eq_true e1, decide_eq_true e2, decide_eq_true e3, decide_eq_true e4]; rfl⟩)
/-- where a static field lies, its class's statics cell in H -/
def vx_L (C n d : String) (A : Nat → Prop) (U : State) (H : Heap) : Prop := ∃ (c : ClassId) (k : Class) (i : Nat) (f : Field) (a : Nat) (cell : Cell), U.vm.findClass C = some c ∧ U.fieldFound? C n d = some (c, k, i, f) ∧ f.isStatic = true ∧ k.statics = some a ∧ H[a]? = some cell ∧ cell.vm.isStatics = true ∧ cell.cls = c ∧ f.slot < cell.slots.size ∧ k.staticTypes[f.slot]? = some f.type ∧ ¬ A a
theorem vx_L.moved {C n d : String} {A : Nat → Prop} {u U : State} {H : Heap} (hvm : u.vm.Alike U.vm) (h : vx_L C n d A u H) : vx_L C n d A U H := by
  obtain ⟨c, k, i, f, a, cell, h1, h2, h3, h4, h5, h6, h7, h8, h9, h10⟩ := h
  obtain ⟨k', hi', he⟩ := State.fieldFound?_setVm hvm h2
  exact ⟨c, k', i, f, a, cell, by rw [hvm.findClass]; exact h1, hi', h3, by rw [he]; exact h4, h5, h6, h7, h8, by rw [he]; exact h9, h10⟩
theorem vx_L.kept {C n d : String} {A : Nat → Prop} {U : State} {H H1 : Heap} (h : vx_L C n d A U H) (hq : ∀ a : Nat, a < H.size → ¬ A a → H1[a]? = H[a]?) : vx_L C n d A U H1 := by
  obtain ⟨c, k, i, f, a, cell, h1, h2, h3, h4, h5, h6, h7, h8, h9, h10⟩ := h
  exact ⟨c, k, i, f, a, cell, h1, h2, h3, h4, by rw [hq a (Array.getElem?_eq_some_iff.mp h5).1 h10]; exact h5, h6, h7, h8, h9, h10⟩
theorem vx_L.narrow {C n d : String} {A B : Nat → Prop} {U : State} {H : Heap} (h : vx_L C n d A U H) (hAB : ∀ q, B q → A q) : vx_L C n d B U H := by
  obtain ⟨c, k, i, f, a, cell, h1, h2, h3, h4, h5, h6, h7, h8, h9, h10⟩ := h
  exact ⟨c, k, i, f, a, cell, h1, h2, h3, h4, h5, h6, h7, h8, h9, fun z => h10 (hAB _ z)⟩
theorem vx_L.word {C n d : String} {A : Nat → Prop} {s : State} {args : Array Value} (h : vx_L C n d A s s.heap) : (Cond.laysStatic C n d).before args s = true := by
  obtain ⟨c, k, i, f, a, cell, h1, h2, h3, h4, h5, h6, h7, h8, h9, -⟩ := h
  show (Cond.laysStatic C n d).holds args s none s [] = true
  exact Cond.laysStatic_of h1 h2 h3 h4 h5 h6 h7 h8 h9
/-- .. and what it holds: null or some reference -/
def vx_Zq (C n d : String) (A : Nat → Prop) (U : State) (H : Heap) : Prop := va_Zq C n d A U H ∧ vx_L C n d A U H
theorem vx_Zq.moved {C n d : String} {A : Nat → Prop} {u U : State} {H : Heap} (hvm : u.vm.Alike U.vm) (h : vx_Zq C n d A u H) : vx_Zq C n d A U H := ⟨va_Zq.moved hvm h.1, vx_L.moved hvm h.2⟩
theorem vx_Zq.kept {C n d : String} {A : Nat → Prop} {U : State} {H H1 : Heap} (h : vx_Zq C n d A U H) (hq : ∀ a : Nat, a < H.size → ¬ A a → H1[a]? = H[a]?) : vx_Zq C n d A U H1 := ⟨va_Zq.kept h.1 hq, vx_L.kept h.2 hq⟩
theorem vx_Zq.narrow {C n d : String} {A B : Nat → Prop} {U : State} {H : Heap} (h : vx_Zq C n d A U H) (hAB : ∀ q, B q → A q) : vx_Zq C n d B U H := ⟨va_Zq.narrow h.1 hAB, vx_L.narrow h.2 hAB⟩
theorem vx_Zqof {args : Array Value} {s : State} {C n d : String} {A : Nat → Prop} (hl : (Cond.laysStatic C n d).before args s = true) (hini : (Cond.initialized C).before args s = true) (h : (Cond.isRef (.static C n d)).before args s = true) (hA : ∀ a : Nat, a < s.heap.size → ¬ A a) : vx_Zq C n d A s s.heap := by
  refine ⟨va_Zqof hl hini h hA, ?_⟩
  obtain ⟨c, k, i, f, a, cell, h1, h2, h3, h4, h5, h6, h7, h8, h9⟩ := Cond.laysStatic_spec hl
  exact ⟨c, k, i, f, a, cell, h1, h2, h3, h4, h5, h6, h7, h8, h9, hA a (Array.getElem?_eq_some_iff.mp h5).1⟩
theorem vx_isRef {C n d : String} {v : Value} {A : Nat → Prop} {s : State} {args : Array Value} (h : va_Z C n d v A s s.heap) (hv : v.isRef = true) : (Cond.isRef (.static C n d)).before args s = true := by
  obtain ⟨cf, kf, fi, f, a, cell, h1, h2, h3, h4, h5, h6, h7, -⟩ := h
  have he : (Term.static C n d).eval args s none [] s = some v := by
    simp [Term.eval, State.fieldNamed?, h1, h2, h4, h5, h6, h7]
  simp only [Cond.before, Cond.holds, Cond.value, he]
  cases v <;> simp_all [Value.isRef]
theorem vx_isRefq {C n d : String} {A : Nat → Prop} {s : State} {args : Array Value} (h : va_Zq C n d A s s.heap) : (Cond.isRef (.static C n d)).before args s = true := by
  rcases h with h | ⟨t, h⟩
  · exact vx_isRef h rfl
  · exact vx_isRef h rfl
/-- the same frame, seen from here: as if the method were called anew in this heap -/
theorem vx_rebase {T : State} (X : Stand p l e R s m args below meth c T locs cells slots) {R' : Room} (hf : R'.frames ≤ R.frames) (hl : R'.locals ≤ R.locals) (hc : cells + R'.cells ≤ R.cells) (hs : slots + R'.slots ≤ R.slots) :
    Stand p l e R' ((T.setVm s.vm).setFrames (.invoking m args :: below)) m args below meth c T [] 0 0 := by
  have htop : (T.setVm s.vm).topJava?.isSome := X.here.top
  have hF : ((T.setVm s.vm).setFrames (.invoking m args :: below)).frames = .invoking m args :: below := State.frames_setFrames _ (State.cur_lt_of_top htop)
  obtain ⟨g₀, hg0⟩ := Option.isSome_iff_exists.mp htop
  obtain ⟨r, hr⟩ := State.topJava?_eq_some.mp hg0
  have hl9 : e.platform.stackLimits (T.setVm s.vm).me = e.platform.stackLimits s.me := X.limits
  have hb9 : (T.setVm s.vm).me.stackBytes = s.me.stackBytes := X.bytes
  refine ⟨X.admits, X.cas, X.clock, hF, ?_, X.hears, X.method, X.code, X.here, X.tail, X.warmed, ?_, ?_, ?_⟩
  · have h := X.room
    have hU : ((T.setVm s.vm).setFrames (.invoking m args :: below)).localsInUse = s.localsInUse := by
      rw [State.localsInUse_invoking hF (meth := meth) (c := c) X.method X.code, State.localsInUse_invoking X.frames X.method X.code]
    simp only [State.hasRoom, Bool.and_eq_true, decide_eq_true_eq] at h ⊢
    obtain ⟨⟨⟨⟨h1, h2, h3, h4, h5, h6⟩, h7⟩, h8⟩, h9⟩ := h
    rw [X.frames, List.length_cons] at h2 h3
    have q1 := X.heapSize
    have q2 := X.used
    simp only [hF, hU, List.length_cons, State.stackLimits_setFrames, State.stackBytes_setFrames, hl9, hb9]
    refine ⟨⟨⟨⟨by omega, by omega, by omega, by omega, by omega, h6⟩, ?_⟩, ?_⟩, X.book⟩
    · show T.heap.size + R'.cells ≤ e.platform.maxCells
      omega
    · show T.slotsUsed + R'.slots ≤ e.platform.maxSlots
      omega
  · rw [State.stackLimits_setFrames]; rfl
  · rw [State.stackBytes_setFrames]; rfl
  · refine ⟨?_, Nat.le_refl _, Nat.le_refl _, ?_, ?_, fun a c9 h9 => ⟨c9, h9, rfl, rfl, fun _ _ => rfl⟩⟩
    · obtain ⟨t, ht, -⟩ := State.frames_cons hr
      show T.setVm s.vm = { ((T.setVm s.vm).setFrames (.invoking m args :: below)).setFrames (T.setVm s.vm).frames with heap := T.heap, slotsUsed := T.slotsUsed }
      rw [State.setFrames_setFrames, State.setFrames_self ht]
      rfl
    · show T.slotsUsed = T.slotsUsed + ((T.heap.toList.drop T.heap.size).map (·.slots.size)).sum
      rw [List.drop_eq_nil_of_le (Nat.le_of_eq Array.length_toList)]
      rfl
    · show ((T.heap.toList.drop T.heap.size).map (·.slots.size)).sum ≤ 0
      rw [List.drop_eq_nil_of_le (Nat.le_of_eq Array.length_toList)]
      exact Nat.le_refl _
/-- 'throw new E()': new; dup; invokespecial; athrow -/
theorem vx_throw0 {cc : ByteArray} {pc : Nat} (hexec : p.tables.exec = Jvm.exec) (hb : c.code = cc) (hl : l.stackTraces = false) {own cls : String} {names : List String} {ik ic mc ms : Nat} {A : Nat → Prop}
    (hown : s.vm.findClass own = some m.cls) (hcls : Bundle.fit cls = true) (hnames : ∀ n ∈ names, Bundle.fit n = true)
    (hk : (Cond.classLink own ik cls).before args s = true) (hini : (Cond.initialized cls).before args s = true) (hat : ∀ w ∈ vx_at0 own ic cls names, w.before args s = true)
    (hgood : ∀ w ∈ Cond.classLink own ik cls :: Cond.initialized cls :: vx_at0 own ic cls names, vx_ot w = true)
    (hU : vx_Zq Bundle.tN "UNASSIGNED_STACK" Bundle.steD A s s.heap) (hN : vx_Zq Bundle.tN "SUPPRESSED_SENTINEL" Bundle.listD A s s.heap) (hS : va_S A s.heap H locs) (hsize : ls.size = c.maxLocals)
    (d0 : decode cc pc = .ok (.new ik, 3)) (d3 : decode cc (pc + 3) = .ok (.dup, 1)) (d4 : decode cc (pc + 4) = .ok (.invokespecial ic, 3)) (d7 : decode cc (pc + 7) = .ok (.athrow, 1))
    (hout : ∀ x ∈ c.exceptionTable.toList, covers x (pc + 7) = false)
    (hRframes : names.length + 3 < R.frames) (hRlocals : (rest.map fun v => v.category).sum + (13 * (names.length + 1) + 42) ≤ R.locals) (hRcells : cells + 1 ≤ R.cells) (hRslots : slots + 6 ≤ R.slots) (hlocks : meth.locks = false)
    (hx : ∀ t : State, s.vm.Alike t.vm → H.size ≤ t.heap.size → (∀ q : Nat, q < H.size → t.heap[q]? = H[q]?) → XC cls s t)
    (hf : ∀ z ∈ locs, free z.base) (hc : cells + 1 ≤ mc) (hs : slots + 6 ≤ ms) :
    W p l e R s m args below meth c H locs cells slots (vx_MQ below Qc XC args s mc ms free) (F0 m pc ls rest) := by
  intro T hT X
  have htr : e.platform.stackTraces = false := (show e.platform.stackTraces = l.stackTraces by rw [X.admits.platform]).trans hl
  have Y := vx_rebase X (R' := { frames := R.frames, locals := R.locals, cells := 1, slots := 6 }) (Nat.le_refl _) (Nat.le_refl _) hRcells hRslots
  obtain ⟨s', hA⟩ : ∃ z, z = (T.setVm s.vm).setFrames (.invoking m args :: below) := ⟨_, rfl⟩
  rw [← hA] at Y
  have hvm : s'.vm = s.vm := by rw [hA]; rfl
  have hhp : s'.heap = H := by rw [hA]; exact hT
  have hW0 : s.WarmedH s'.vm := by rw [hvm]; exact State.WarmedH.refl s
  have hat' : ∀ w ∈ vx_at0 own ic cls names, w.before args s' = true := fun w hw => vx_ot_at hW0 hvm.symm (hgood w (List.mem_cons_of_mem _ (List.mem_cons_of_mem _ hw))) (hat w hw)
  have hk' : (Cond.classLink own ik cls).before args s' = true := vx_ot_at hW0 hvm.symm (hgood _ List.mem_cons_self) hk
  have hini' : (Cond.initialized cls).before args s' = true := vx_ot_at hW0 hvm.symm (hgood _ (List.mem_cons_of_mem _ List.mem_cons_self)) hini
  have hU' : vx_Zq Bundle.tN "UNASSIGNED_STACK" Bundle.steD A s' s'.heap := by rw [hhp]; exact vx_Zq.moved hW0.alike (hU.kept hS.2.1)
  have hN' : vx_Zq Bundle.tN "SUPPRESSED_SENTINEL" Bundle.listD A s' s'.heap := by rw [hhp]; exact vx_Zq.moved hW0.alike (hN.kept hS.2.1)
  have h : ∀ w ∈ Bundle.ownAtoms0 own ic cls names, w.before args s' = true := vx_own hat' (vx_isRefq hU'.1) (vx_isRefq hN'.1) hU'.2.word hN'.2.word
  have hown' : s'.vm.findClass own = some m.cls := by rw [hvm]; exact hown
  have hins : (Cond.instantiable cls 6).before args s' = true := h _ (by simp [Bundle.ownAtoms0])
  obtain ⟨vm₁, cX, kX, hfX, hkX, -, -, X₁, st1⟩ := Y.newCold hexec (own := own) (C := cls) (index := ik) (n := 6) hown' hk' hins hini'
    (g := F0 m pc ls rest) rfl (by rw [hb]; exact d0) (Nat.le_refl _) (Nat.le_refl _)
  generalize hT1 : (T.setVm vm₁).pushCell { cls := cX, slots := kX.instanceTypes.map defaultValue, vm := .none } = T1 at X₁ st1
  have hcat : (Value.ref T.heap.size).category = 1 := rfl
  have hcellA : T1.heap[T.heap.size]? = some (freshCell cX kX) := by rw [← hT1]; exact State.heap_pushCell_size _ _
  have d3' : decode c.code (pc + 3) = .ok (.dup, 1) := by rw [hb]; exact d3
  obtain ⟨U, hsteps, hrun, hend, hW, hsame, ce, hce, hO⟩ := X₁.ctorThrow0 hexec htr (own := own) (cls := cls) (names := names) (ic := ic) hown' hcls hnames h (fun x hx => nomatch hx) hfX hkX hcellA (by rw [hhp, hT]; exact Nat.le_refl _)
    (g := { method := m, pc := pc + 4, locals := ls, stack := .ref T.heap.size :: .ref T.heap.size :: rest, locked := none }) rfl hsize rfl rfl (rest := rest) rfl
    (by rw [hb]; exact d4) (by rw [hb]; exact d7) hout hRframes (by simp only [List.map_cons, List.sum_cons, hcat]; omega) hlocks
  obtain ⟨f1, f2⟩ := vx_frame hsame
  rw [hhp] at f1 f2
  have hWs : s.WarmedH U.vm := State.WarmedH.trans hW0 hW
  have hcl : s.vm.findClass cls = some ce.cls := by
    have h9 := hO.cls
    rw [hvm] at h9
    exact h9
  have hall : s.sameButNew ({ U with vm := s.vm } : State) locs mc ms := by
    subst hA
    obtain ⟨e1, e2⟩ := hsame
    rw [State.setFrames_setFrames] at e1
    have h2 : (T.setVm s.vm).sameButNew ({ U with vm := s.vm } : State) [] (0 + 1) (0 + 6) := ⟨e1, e2⟩
    have h3 := X.same.trans h2
    rw [List.append_nil] at h3
    exact h3.mono hc hs
  refine ⟨U, ?_, .threw T.heap.size, hrun, hend, Or.inr ⟨T.heap.size, rfl, cls, ce, locs, hx U hWs.alike f1 (fun q hq => f2 q hq (fun z hz => nomatch hz)), hce, hO.vm, hcl, hWs, hall, hf⟩⟩
  refine st1 _ ?_
  show Steps p.tables e below (T1.setTop { method := m, pc := pc + 3, locals := ls, stack := .ref T.heap.size :: rest, locked := none }) _
  jvm_step X₁.here [X₁.here.top, hexec, d3', Value.category]
  exact hsteps
/-- 'throw new E("text")': new; dup; ldc; invokespecial; athrow -/
theorem vx_throwS {cc : ByteArray} {pc : Nat} (hexec : p.tables.exec = Jvm.exec) (hb : c.code = cc) (hl : l.stackTraces = false) {own cls text : String} {names : List String} {ik is ic mc ms sa : Nat} {A : Nat → Prop}
    (hown : s.vm.findClass own = some m.cls) (hcls : Bundle.fit cls = true) (hnames : ∀ n ∈ names, Bundle.fit n = true)
    (hk : (Cond.classLink own ik cls).before args s = true) (hini : (Cond.initialized cls).before args s = true) (hstr : vk_R own is text sa s) (hat : ∀ w ∈ vx_atS own ic cls names, w.before args s = true)
    (hgood : ∀ w ∈ Cond.classLink own ik cls :: Cond.initialized cls :: vx_atS own ic cls names, vx_ot w = true)
    (hU : vx_Zq Bundle.tN "UNASSIGNED_STACK" Bundle.steD A s s.heap) (hN : vx_Zq Bundle.tN "SUPPRESSED_SENTINEL" Bundle.listD A s s.heap) (hS : va_S A s.heap H locs) (hsize : ls.size = c.maxLocals)
    (d0 : decode cc pc = .ok (.new ik, 3)) (d3 : decode cc (pc + 3) = .ok (.dup, 1)) (d4 : decode cc (pc + 4) = .ok (.ldc is, 2)) (d6 : decode cc (pc + 6) = .ok (.invokespecial ic, 3)) (d9 : decode cc (pc + 9) = .ok (.athrow, 1))
    (hout : ∀ x ∈ c.exceptionTable.toList, covers x (pc + 9) = false)
    (hRframes : names.length + 3 < R.frames) (hRlocals : (rest.map fun v => v.category).sum + (13 * (names.length + 1) + 43) ≤ R.locals) (hRcells : cells + 1 ≤ R.cells) (hRslots : slots + 6 ≤ R.slots) (hlocks : meth.locks = false)
    (hx : ∀ t : State, s.vm.Alike t.vm → H.size ≤ t.heap.size → (∀ q : Nat, q < H.size → t.heap[q]? = H[q]?) → XC cls s t)
    (hf : ∀ z ∈ locs, free z.base) (hc : cells + 1 ≤ mc) (hs : slots + 6 ≤ ms) :
    W p l e R s m args below meth c H locs cells slots (vx_MQ below Qc XC args s mc ms free) (F0 m pc ls rest) := by
  intro T hT X
  have htr : e.platform.stackTraces = false := (show e.platform.stackTraces = l.stackTraces by rw [X.admits.platform]).trans hl
  have Y := vx_rebase X (R' := { frames := R.frames, locals := R.locals, cells := 1, slots := 6 }) (Nat.le_refl _) (Nat.le_refl _) hRcells hRslots
  obtain ⟨s', hA⟩ : ∃ z, z = (T.setVm s.vm).setFrames (.invoking m args :: below) := ⟨_, rfl⟩
  rw [← hA] at Y
  have hvm : s'.vm = s.vm := by rw [hA]; rfl
  have hhp : s'.heap = H := by rw [hA]; exact hT
  have hW0 : s.WarmedH s'.vm := by rw [hvm]; exact State.WarmedH.refl s
  have hat' : ∀ w ∈ vx_atS own ic cls names, w.before args s' = true := fun w hw => vx_ot_at hW0 hvm.symm (hgood w (List.mem_cons_of_mem _ (List.mem_cons_of_mem _ hw))) (hat w hw)
  have hk' : (Cond.classLink own ik cls).before args s' = true := vx_ot_at hW0 hvm.symm (hgood _ List.mem_cons_self) hk
  have hini' : (Cond.initialized cls).before args s' = true := vx_ot_at hW0 hvm.symm (hgood _ (List.mem_cons_of_mem _ List.mem_cons_self)) hini
  have hU' : vx_Zq Bundle.tN "UNASSIGNED_STACK" Bundle.steD A s' s'.heap := by rw [hhp]; exact vx_Zq.moved hW0.alike (hU.kept hS.2.1)
  have hN' : vx_Zq Bundle.tN "SUPPRESSED_SENTINEL" Bundle.listD A s' s'.heap := by rw [hhp]; exact vx_Zq.moved hW0.alike (hN.kept hS.2.1)
  have h : ∀ w ∈ Bundle.ownAtoms own ic cls names, w.before args s' = true := vx_own hat' (vx_isRefq hU'.1) (vx_isRefq hN'.1) hU'.2.word hN'.2.word
  have hown' : s'.vm.findClass own = some m.cls := by rw [hvm]; exact hown
  have hins : (Cond.instantiable cls 6).before args s' = true := h _ (by simp [Bundle.ownAtoms])
  obtain ⟨vm₁, cX, kX, hfX, hkX, -, -, X₁, st1⟩ := Y.newCold hexec (own := own) (C := cls) (index := ik) (n := 6) hown' hk' hins hini'
    (g := F0 m pc ls rest) rfl (by rw [hb]; exact d0) (Nat.le_refl _) (Nat.le_refl _)
  generalize hT1 : (T.setVm vm₁).pushCell { cls := cX, slots := kX.instanceTypes.map defaultValue, vm := .none } = T1 at X₁ st1
  have hcat : (Value.ref T.heap.size).category = 1 := rfl
  have hcellA : T1.heap[T.heap.size]? = some (freshCell cX kX) := by rw [← hT1]; exact State.heap_pushCell_size _ _
  have d3' : decode c.code (pc + 3) = .ok (.dup, 1) := by rw [hb]; exact d3
  have d4' : decode c.code (pc + 4) = .ok (.ldc is, 2) := by rw [hb]; exact d4
  have hstr' : vk_R own is text sa s' := vk_R.warm hW0 hstr
  obtain ⟨U, hsteps, hrun, hend, hW, hsame, ce, hce, hO⟩ := X₁.ctorThrowS hexec htr (own := own) (cls := cls) (names := names) (ic := ic) hown' hcls hnames h (fun x hx => nomatch hx) hfX hkX hcellA (by rw [hhp, hT]; exact Nat.le_refl _) (msg := .ref sa) rfl
    (g := { method := m, pc := pc + 6, locals := ls, stack := .ref sa :: .ref T.heap.size :: .ref T.heap.size :: rest, locked := none }) rfl hsize rfl rfl (rest := rest) rfl
    (by rw [hb]; exact d6) (by rw [hb]; exact d9) hout hRframes (by simp only [List.map_cons, List.sum_cons, hcat]; omega) hlocks
  obtain ⟨f1, f2⟩ := vx_frame hsame
  rw [hhp] at f1 f2
  have hWs : s.WarmedH U.vm := State.WarmedH.trans hW0 hW
  have hcl : s.vm.findClass cls = some ce.cls := by
    have h9 := hO.cls
    rw [hvm] at h9
    exact h9
  have hall : s.sameButNew ({ U with vm := s.vm } : State) locs mc ms := by
    subst hA
    obtain ⟨e1, e2⟩ := hsame
    rw [State.setFrames_setFrames] at e1
    have h2 : (T.setVm s.vm).sameButNew ({ U with vm := s.vm } : State) [] (0 + 1) (0 + 6) := ⟨e1, e2⟩
    have h3 := X.same.trans h2
    rw [List.append_nil] at h3
    exact h3.mono hc hs
  refine ⟨U, ?_, .threw T.heap.size, hrun, hend, Or.inr ⟨T.heap.size, rfl, cls, ce, locs, hx U hWs.alike f1 (fun q hq => f2 q hq (fun z hz => nomatch hz)), hce, hO.vm, hcl, hWs, hall, hf⟩⟩
  refine st1 _ ?_
  show Steps p.tables e below (T1.setTop { method := m, pc := pc + 3, locals := ls, stack := .ref T.heap.size :: rest, locked := none }) _
  jvm_step X₁.here [X₁.here.top, hexec, d3', Value.category]
  exact X₁.ldcString hexec (own := own) (text := text) (index := is) (a := sa) hown' hstr'.1 hstr'.2
    (g := { method := m, pc := pc + 4, locals := ls, stack := .ref T.heap.size :: .ref T.heap.size :: rest, locked := none }) rfl d4' _ hsteps
/-- 'throw new E("text")', the text by a wide index -/
theorem vx_throwSW {cc : ByteArray} {pc : Nat} (hexec : p.tables.exec = Jvm.exec) (hb : c.code = cc) (hl : l.stackTraces = false) {own cls text : String} {names : List String} {ik is ic mc ms sa : Nat} {A : Nat → Prop}
    (hown : s.vm.findClass own = some m.cls) (hcls : Bundle.fit cls = true) (hnames : ∀ n ∈ names, Bundle.fit n = true)
    (hk : (Cond.classLink own ik cls).before args s = true) (hini : (Cond.initialized cls).before args s = true) (hstr : vk_R own is text sa s) (hat : ∀ w ∈ vx_atS own ic cls names, w.before args s = true)
    (hgood : ∀ w ∈ Cond.classLink own ik cls :: Cond.initialized cls :: vx_atS own ic cls names, vx_ot w = true)
    (hU : vx_Zq Bundle.tN "UNASSIGNED_STACK" Bundle.steD A s s.heap) (hN : vx_Zq Bundle.tN "SUPPRESSED_SENTINEL" Bundle.listD A s s.heap) (hS : va_S A s.heap H locs) (hsize : ls.size = c.maxLocals)
    (d0 : decode cc pc = .ok (.new ik, 3)) (d3 : decode cc (pc + 3) = .ok (.dup, 1)) (d4 : decode cc (pc + 4) = .ok (.ldc_w is, 3)) (d7 : decode cc (pc + 7) = .ok (.invokespecial ic, 3)) (d10 : decode cc (pc + 10) = .ok (.athrow, 1))
    (hout : ∀ x ∈ c.exceptionTable.toList, covers x (pc + 10) = false)
    (hRframes : names.length + 3 < R.frames) (hRlocals : (rest.map fun v => v.category).sum + (13 * (names.length + 1) + 43) ≤ R.locals) (hRcells : cells + 1 ≤ R.cells) (hRslots : slots + 6 ≤ R.slots) (hlocks : meth.locks = false)
    (hx : ∀ t : State, s.vm.Alike t.vm → H.size ≤ t.heap.size → (∀ q : Nat, q < H.size → t.heap[q]? = H[q]?) → XC cls s t)
    (hf : ∀ z ∈ locs, free z.base) (hc : cells + 1 ≤ mc) (hs : slots + 6 ≤ ms) :
    W p l e R s m args below meth c H locs cells slots (vx_MQ below Qc XC args s mc ms free) (F0 m pc ls rest) := by
  intro T hT X
  have htr : e.platform.stackTraces = false := (show e.platform.stackTraces = l.stackTraces by rw [X.admits.platform]).trans hl
  have Y := vx_rebase X (R' := { frames := R.frames, locals := R.locals, cells := 1, slots := 6 }) (Nat.le_refl _) (Nat.le_refl _) hRcells hRslots
  obtain ⟨s', hA⟩ : ∃ z, z = (T.setVm s.vm).setFrames (.invoking m args :: below) := ⟨_, rfl⟩
  rw [← hA] at Y
  have hvm : s'.vm = s.vm := by rw [hA]; rfl
  have hhp : s'.heap = H := by rw [hA]; exact hT
  have hW0 : s.WarmedH s'.vm := by rw [hvm]; exact State.WarmedH.refl s
  have hat' : ∀ w ∈ vx_atS own ic cls names, w.before args s' = true := fun w hw => vx_ot_at hW0 hvm.symm (hgood w (List.mem_cons_of_mem _ (List.mem_cons_of_mem _ hw))) (hat w hw)
  have hk' : (Cond.classLink own ik cls).before args s' = true := vx_ot_at hW0 hvm.symm (hgood _ List.mem_cons_self) hk
  have hini' : (Cond.initialized cls).before args s' = true := vx_ot_at hW0 hvm.symm (hgood _ (List.mem_cons_of_mem _ List.mem_cons_self)) hini
  have hU' : vx_Zq Bundle.tN "UNASSIGNED_STACK" Bundle.steD A s' s'.heap := by rw [hhp]; exact vx_Zq.moved hW0.alike (hU.kept hS.2.1)
  have hN' : vx_Zq Bundle.tN "SUPPRESSED_SENTINEL" Bundle.listD A s' s'.heap := by rw [hhp]; exact vx_Zq.moved hW0.alike (hN.kept hS.2.1)
  have h : ∀ w ∈ Bundle.ownAtoms own ic cls names, w.before args s' = true := vx_own hat' (vx_isRefq hU'.1) (vx_isRefq hN'.1) hU'.2.word hN'.2.word
  have hown' : s'.vm.findClass own = some m.cls := by rw [hvm]; exact hown
  have hins : (Cond.instantiable cls 6).before args s' = true := h _ (by simp [Bundle.ownAtoms])
  obtain ⟨vm₁, cX, kX, hfX, hkX, -, -, X₁, st1⟩ := Y.newCold hexec (own := own) (C := cls) (index := ik) (n := 6) hown' hk' hins hini'
    (g := F0 m pc ls rest) rfl (by rw [hb]; exact d0) (Nat.le_refl _) (Nat.le_refl _)
  generalize hT1 : (T.setVm vm₁).pushCell { cls := cX, slots := kX.instanceTypes.map defaultValue, vm := .none } = T1 at X₁ st1
  have hcat : (Value.ref T.heap.size).category = 1 := rfl
  have hcellA : T1.heap[T.heap.size]? = some (freshCell cX kX) := by rw [← hT1]; exact State.heap_pushCell_size _ _
  have d3' : decode c.code (pc + 3) = .ok (.dup, 1) := by rw [hb]; exact d3
  have d4' : decode c.code (pc + 4) = .ok (.ldc_w is, 3) := by rw [hb]; exact d4
  have hstr' : vk_R own is text sa s' := vk_R.warm hW0 hstr
  obtain ⟨U, hsteps, hrun, hend, hW, hsame, ce, hce, hO⟩ := X₁.ctorThrowS hexec htr (own := own) (cls := cls) (names := names) (ic := ic) hown' hcls hnames h (fun x hx => nomatch hx) hfX hkX hcellA (by rw [hhp, hT]; exact Nat.le_refl _) (msg := .ref sa) rfl
    (g := { method := m, pc := pc + 7, locals := ls, stack := .ref sa :: .ref T.heap.size :: .ref T.heap.size :: rest, locked := none }) rfl hsize rfl rfl (rest := rest) rfl
    (by rw [hb]; exact d7) (by rw [hb]; exact d10) hout hRframes (by simp only [List.map_cons, List.sum_cons, hcat]; omega) hlocks
  obtain ⟨f1, f2⟩ := vx_frame hsame
  rw [hhp] at f1 f2
  have hWs : s.WarmedH U.vm := State.WarmedH.trans hW0 hW
  have hcl : s.vm.findClass cls = some ce.cls := by
    have h9 := hO.cls
    rw [hvm] at h9
    exact h9
  have hall : s.sameButNew ({ U with vm := s.vm } : State) locs mc ms := by
    subst hA
    obtain ⟨e1, e2⟩ := hsame
    rw [State.setFrames_setFrames] at e1
    have h2 : (T.setVm s.vm).sameButNew ({ U with vm := s.vm } : State) [] (0 + 1) (0 + 6) := ⟨e1, e2⟩
    have h3 := X.same.trans h2
    rw [List.append_nil] at h3
    exact h3.mono hc hs
  refine ⟨U, ?_, .threw T.heap.size, hrun, hend, Or.inr ⟨T.heap.size, rfl, cls, ce, locs, hx U hWs.alike f1 (fun q hq => f2 q hq (fun z hz => nomatch hz)), hce, hO.vm, hcl, hWs, hall, hf⟩⟩
  refine st1 _ ?_
  show Steps p.tables e below (T1.setTop { method := m, pc := pc + 3, locals := ls, stack := .ref T.heap.size :: rest, locked := none }) _
  jvm_step X₁.here [X₁.here.top, hexec, d3', Value.category]
  exact X₁.ldcStringW hexec (own := own) (text := text) (index := is) (a := sa) hown' hstr'.1 hstr'.2
    (g := { method := m, pc := pc + 4, locals := ls, stack := .ref T.heap.size :: .ref T.heap.size :: rest, locked := none }) rfl d4' _ hsteps
end Ends
section Bodies
variable {l : Launch}
theorem vx_ofW {y : MethodName} {ws ws' : List Cond} {rm : Room} {Pc : Array Value → State → Prop} {Qc : Array Value → State → Outcome → State → Prop} {XC : String → State → State → Prop} {mc ms : Nat} {free : Addr → Prop} {cc : ByteArray} {maxL : Nat} {ret : Option FieldType}
    (hy : plainName y.cls = true) (hw : ws = Cond.code y cc maxL ret :: ws')
    (body : ∀ p e s m args below meth c s₁, BodyLoose p l y (headSpec ws rm) cc maxL ret e s m args below meth c s₁ → c.maxLocals = maxL → (∀ x ∈ c.exceptionTable.toList, False) → Pc args s →
      W p l e (headSpec ws rm).room s m args below meth c s.heap [] 0 0 (vx_MQ below Qc XC args s mc ms free) (entryFrame m args maxL)) : vx_Met l y ws rm Pc Qc XC mc ms free := by
  refine MetFree.of_bodyS (code := cc) (maxLocals := maxL) (ret := ret) hy ?_ ?_
  · intro args s m h hn
    obtain ⟨meth, c, h1, h2, h3, h4, h5, h6, -, -⟩ := Cond.code_spec hn (atoms_spec (ws := ws) h _ (by rw [hw]; exact List.mem_cons_self))
    exact ⟨meth, c, h1, h2, h3, h4, h5, h6⟩
  · intro p e s m args below meth c s₁ B hml hP _
    have hh0 : s₁.heap = s.heap := by rw [B.state]; rfl
    have ht : ∀ x ∈ c.exceptionTable.toList, False := by
      obtain ⟨meth9, c9, h1, h2, -, -, -, -, h7, -⟩ := Cond.code_spec B.named (atoms_spec (ws := ws) B.pre _ (by rw [hw]; exact List.mem_cons_self))
      cases Option.some.inj (h1.symm.trans B.method)
      cases Option.some.inj (h2.symm.trans (Stand.of_body B).code)
      intro x hx
      rw [Array.isEmpty_iff.mp h7] at hx
      cases hx
    obtain ⟨t, a1, o, b1, b2, b3⟩ := body p e s m args below meth c s₁ B hml ht hP s₁ hh0 (Stand.of_body B)
    exact ⟨t, o, a1, b1, b2, b3⟩
/-- the table of a body with handlers -/
theorem vx_table {p : Program} {x y : MethodName} {S : Spec} {cc bytes : ByteArray} {maxL maxL' : Nat} {ret ret' : Option FieldType} {e : Env} {s s₁ : State} {m : MethodId} {args : Array Value} {below : List Frame} {meth : Method} {c : Code} {hh : List (Nat × Nat × Nat × Nat)}
    (B : BodyLoose p l y S cc maxL ret e s m args below meth c s₁) (h : (Cond.codeWith y bytes maxL' ret' hh).before args s = true) : c.exceptionTable.toList = tableOf hh := by
  obtain ⟨m9, meth9, c9, hn9, h1, h2, -, -, h6, -⟩ := Cond.codeWith_spec h
  cases Option.some.inj (hn9.symm.trans B.named)
  cases Option.some.inj (h1.symm.trans B.method)
  cases Option.some.inj (h2.symm.trans (Stand.of_body B).code)
  rw [← h6, table_eq]
end Bodies
end VXA
/-! ===== END ===== -/
/-! ===== BEGIN a static call of a method with an exception table ===== -/
section VXS
variable {p : Program} {l : Launch} {e : Env} {R : Room} {s : State} {m : MethodId} {args : Array Value} {below : List Frame} {meth : Method} {c : Code} {T : State} {H : Heap} {locs : List Loc} {cells slots : Nat}
abbrev vx_CSW (R : Room) (s : State) (args : Array Value) (own : String) (index : Nat) (y : MethodName) (bytes : ByteArray) (maxL : Nat) (ret : Option FieldType) (hh : List (Nat × Nat × Nat × Nat)) (ws : List Cond) (rm : Room) (mc ms n : Nat) : Prop :=
  (rm.cells = mc ∧ rm.slots = ms ∧ rm.frames + 1 ≤ R.frames ∧ 8 + (maxL + 11) + rm.locals ≤ R.locals ∧ (∀ w ∈ ws, ∀ (a' : Array Value) (U : State), s.WarmedH U.vm → w.before a' U = true) ∧ Cond.codeWith y bytes maxL ret hh ∈ ws) ∧
  (Cond.codeWith y bytes maxL ret hh).before args s = true ∧ (Cond.initialized y.cls).before args s = true ∧ (y.cls ≠ "java/lang/invoke/MethodHandle" ∧ y.cls ≠ "java/lang/invoke/VarHandle") ∧
  (∀ sig, parseMethodDescriptor y.desc = some sig → n = sig.parameters.length) ∧ (Cond.methodLink own index y).before args s = true ∧ (Cond.static y).before args s = true
theorem vx_cwSW {own : String} {index maxL mc ms : Nat} {y : MethodName} {bytes : ByteArray} {ret : Option FieldType} {hh : List (Nat × Nat × Nat × Nat)} {Ts ws ws' : List Cond} {rm : Room} (n : Nat) (ht : ∀ w ∈ Ts, w.before args s = true) (hT : GoodIn Ts (va_wsS own index y ws)) (hw : ws = Cond.codeWith y bytes maxL ret hh :: ws') (hrc : rm.cells = mc) (hrs : rm.slots = ms)
    (hd : y.cls ≠ "java/lang/invoke/MethodHandle" ∧ y.cls ≠ "java/lang/invoke/VarHandle" ∧ (parseMethodDescriptor y.desc).map (fun d => d.parameters.length) = some n) (hR : rm.frames + 1 ≤ R.frames ∧ 8 + (maxL + 11) + rm.locals ≤ R.locals) :
    vx_CSW R s args own index y bytes maxL ret hh ws rm mc ms n := by
  have ok : ∀ w ∈ va_wsS own index y ws, w.before args s = true := fun w h => ht w (hT w h).1
  have hG : GoodIn Ts ws := fun w h => hT w (by unfold va_wsS; exact List.mem_append_right _ h)
  have hc : Cond.codeWith y bytes maxL ret hh ∈ ws := by rw [hw]; exact List.mem_cons_self
  refine ⟨⟨hrc, hrs, hR.1, hR.2, pay_in ht hG, hc⟩, ht _ (hG _ hc).1, ok _ (by simp [va_wsS]), ⟨hd.1, hd.2.1⟩, fun sig h => ?_, ok _ (by simp [va_wsS]), ok _ (by simp [va_wsS])⟩
  have h2 := hd.2.2
  rw [h] at h2
  exact (Option.some.inj h2).symm
theorem vx_callSW (X : Stand p l e R s m args below meth c T locs cells slots) (hexec : p.tables.exec = Jvm.exec) {own : String} {index : Nat} {y : MethodName} {bytes : ByteArray} {maxL : Nat} {ret : Option FieldType} {hh : List (Nat × Nat × Nat × Nat)}
    (hown : s.vm.findClass own = some m.cls) (hlink : (Cond.methodLink own index y).before args s = true) (hstat : (Cond.static y).before args s = true) (hinit : (Cond.initialized y.cls).before args s = true)
    (hcode : (Cond.codeWith y bytes maxL ret hh).before args s = true) (hy : y.cls ≠ "java/lang/invoke/MethodHandle" ∧ y.cls ≠ "java/lang/invoke/VarHandle")
    {W9 : Nat} {Pre : Pt → Array Value → Prop} {Post : Pt → Array Value → Option Value → Pt → Prop} (hK : Back l R p e below s args y 3 W9 Pre Post)
    {g : JFrame} (hg : g.method = m) (hsize : g.locals.size = c.maxLocals) {argsL rest : List Value} (hlen : ∀ sig, parseMethodDescriptor y.desc = some sig → argsL.length = sig.parameters.length)
    (hstack : g.stack = argsL.reverse ++ rest) (hW : 2 * g.monitorRoom + (rest.map fun v => v.category).sum ≤ W9) (hdg : decode c.code g.pc = .ok (.invokestatic index, 3))
    (hpre : ∀ vm₁, s.WarmedH vm₁ → Pre ⟨T.setVm vm₁, locs, cells, slots⟩ argsL.toArray) :
    ∃ (v : Option Value) (vm₁ : Vm) (B : Pt), s.WarmedH vm₁ ∧ Stand p l e R s m args below meth c B.U B.locs B.cells B.slots ∧ Post ⟨T.setVm vm₁, locs, cells, slots⟩ argsL.toArray v B ∧
      ∀ target, Steps p.tables e below (B.U.setTop { g with pc := g.pc + 3, stack := v.toList ++ rest }) target → Steps p.tables e below (T.setTop g) target := by
  obtain ⟨mk, methM, cM, hnamed, hmethM, -, -, -, -, -, -, hsigM⟩ := Cond.codeWith_spec hcode
  have hstatic : methM.isStatic = true := Cond.static_spec hnamed hmethM hstat
  obtain ⟨kP, hkP, -⟩ := className_of_methodNamed hnamed
  have hinitP : kP.init = .initialized := Cond.initialized_spec (findClass_of_methodNamed hnamed) hkP hinit
  obtain ⟨vm₁, X₁, hstep₁⟩ := X.invokestatic hexec hown hlink hnamed hmethM hstatic hkP hinitP hy (g := g) hg (argsL := argsL) (rest := rest) (hlen _ hsigM) hstack hdg
  obtain ⟨v, B, X', hpost, hsteps⟩ := hK m meth c ⟨T.setVm vm₁, locs, cells, slots⟩ { g with stack := rest } (.invokestatic index) mk argsL.toArray X₁ hg hsize hdg hW (X₁.named hnamed) (hpre vm₁ X₁.warmed)
  exact ⟨v, vm₁, B, X₁.warmed, X', hpost, fun target h => hstep₁ _ fun acts => by rw [doInvoke_state]; exact hsteps.trans h⟩
theorem vx_runSW {y : MethodName} {bytes cc : ByteArray} {maxL nL mc ms n index : Nat} {ret : Option FieldType} {hh : List (Nat × Nat × Nat × Nat)} {ws : List Cond} {rm : Room} {Pc : Array Value → State → Prop} {Qc : Array Value → State → Outcome → State → Prop} {free : Addr → Prop} {Ts : List Cond} {own : String} {As rest : List Value} {g : JFrame}
    (S : CallFix p m c cc nL s args Ts own) (hM : Met l y ws rm Pc Qc mc ms free) (cw : vx_CSW R s args own index y bytes maxL ret hh ws rm mc ms n) (hp : PreS s H Pc As)
    (hg : g.method = m) (hn : As.length = n) (hsize : g.locals.size = nL) (hstack : g.stack = As.reverse ++ rest) (hW : 2 * g.monitorRoom + (rest.map fun v => v.category).sum ≤ 8) (hdg : decode cc g.pc = .ok (.invokestatic index, 3)) (hf : cells + mc ≤ R.cells ∧ slots + ms ≤ R.slots) :
    va_Run p l e R s m args below meth c H locs cells slots mc ms g rest (Qc As.toArray) (free) := by
  obtain ⟨⟨hrc, hrs, hfr, hlo, hws, hcw⟩, hcode, hini, hy, hlen, hl, hstt⟩ := cw
  have hK : Back l R p e below s args y 3 8 (PreOf R mc ms Pc) (PostOf Qc mc ms free) := va_backW (hh := hh) (bytes := bytes) (maxL := maxL) (ret := ret) hM hp.1 hrc hrs hfr hlo hws hcw (fun a' U hW => word_at hW (Or.inl (by first | rfl | simp [Cond.onTables, Cond.keeps, Cond.steady])) hini)
  obtain ⟨hx, hb, hml, ho, -⟩ := S
  intro T hT X
  obtain ⟨v, vm₁, ⟨U', l2, c2, s2⟩, hW₁, X', ⟨g', mk, t, L, e1, e2, hq, h1, hL, h2, h3⟩, st⟩ := vx_callSW X hx (hh := hh) (bytes := bytes) (maxL := maxL) (ret := ret) ho hl hstt hini hcode hy hK hg (hsize.trans hml.symm) (argsL := As) (rest := rest) (fun sig h => hn.trans (hlen sig h)) hstack hW (by rw [hb]; exact hdg)
    (fun vm₁ hW₁ => ⟨hf.1, hf.2, hp.2 (T.setVm vm₁) hT hW₁⟩)
  dsimp only [Pt.U, Pt.locs, Pt.cells, Pt.slots] at X' e1 e2 h1 h2 h3 st
  subst h1; subst h2; subst h3
  exact ⟨v, (T.setVm vm₁).calling g' mk As.toArray, t, U', L, hT, X', hL, e1, e2, hq, st⟩
/-- not caught here, past rows that name other classes: it goes on to the caller -/
theorem vx_outP {p : Program} {l : Launch} {e : Env} {R : Room} {s : State} {m : MethodId} {args : Array Value} {below : List Frame} {meth : Method} {c : Code} {H : Heap} {locs : List Loc} {cells slots : Nat} {free : Addr → Prop} {ls : Array Slot} {rest : List Value} {Qc : Array Value → State → Outcome → State → Prop} {XC : String → State → State → Prop}
    {pc : Nat} {own E : String} {ce : Cell} {q : Addr} {mc ms : Nat} (hown : s.vm.findClass own = some m.cls) (hlocks : meth.locks = false)
    (hpass : ∀ z ∈ c.exceptionTable.toList, covers z pc = false ∨ (z.catchType ≠ 0 ∧ ∃ nm : String, (Cond.classLink own z.catchType nm).before args s = true ∧ va_Nc E nm s)) (hcell : H[q]? = some ce) (hv : ce.vm = .none) (hcl : s.vm.findClass E = some ce.cls)
    (hx : ∀ t : State, t.heap = H → s.vm.Alike t.vm → XC E s t) (hf : ∀ z ∈ locs, free z.base) (hc : cells ≤ mc) (hs : slots ≤ ms) :
    vx_W p l e R s m args below meth c H locs cells slots (vx_MQ below Qc XC args s mc ms free) (F0 m pc ls rest) q := by
  intro T hT X
  have hpl : e.platform.magicAccessors = ({} : Platform).magicAccessors := by rw [X.admits.platform]
  obtain ⟨vm', hW', X', st⟩ := X.outThrough hlocks q (g := F0 m pc ls rest) rfl rfl rfl (cell := ce) (by rw [hT]; exact hcell) (by rw [hv]; rfl)
    (by obtain ⟨k9, h9, -⟩ := Vm.findClass_spec hcl; exact ⟨k9, h9⟩) (fun z hz => by
      rcases hpass z hz with h | ⟨hz0, nm, hl1, hn1⟩
      · exact Or.inl h
      · obtain ⟨c6, hc6, hcl6⟩ := Cond.classLink_spec hown hl1 e.platform hpl
        obtain ⟨a8, b8, h1, h2, h3⟩ := hn1
        cases Option.some.inj (h1.symm.trans hcl)
        cases Option.some.inj (h2.symm.trans hc6)
        exact Or.inr ⟨hz0, _, hcl6, h3⟩)
  obtain ⟨g₀, hfr⟩ := X'.frames_eq
  have hcell9 : ((T.setVm vm').setFrames (.throwing q :: below)).heap[q]? = some ce := by
    show T.heap[q]? = some ce
    rw [hT]; exact hcell
  have hend : Ended ((T.setVm vm').setFrames (.throwing q :: below)) below (.threw q) := State.frames_setFrames _ (State.cur_lt_of_frames hfr)
  refine ⟨(T.setVm vm').setFrames (.throwing q :: below), ?_, .threw q, X'.here.running, hend, Or.inr ⟨q, rfl, E, ce, locs, hx _ hT (X'.ends _).1.alike, hcell9, hv, hcl, (X'.ends _).1, (X'.ends _).2.mono hc hs, hf⟩⟩
  rw [X.pushThrowing_eq]
  exact st
/-- a thing of a world lies in the heap -/
theorem vx_lt {D : va_G} {cl : List vw_C} {ws : va_W} {H1 : Heap} (h : va_P D cl ws H1) {k : Nat} {q : Nat × va_E} (hk : ws[k]? = some q) : q.1 < H1.size := (h k q hk).lt
end VXS
/-! ===== END ===== -/
/-! ===== BEGIN methods with a table of their own: called by a name, returning or throwing ===== -/
section VXH
/-! vx_backW, vx_callVX, vx_callSX, vx_callVW, vx_runVW, vx_runVX, vx_runSX, vx_ofWH follow the same proofs as their sisters above (Free/Laws.lean, Shelf42/LK1.lean); vx_outP calls Shelf42/NT130.lean (outThrough). -/
section
variable {l : Launch} {R : Room} {p : Program} {e : Env} {below : List Frame} {s : State} {sargs : Array Value} {y : MethodName} {len W9 : Nat}
theorem vx_backW {ws : List Cond} {rm : Room} {Pc : Array Value → State → Prop} {Qc : Array Value → State → Outcome → State → Prop} {XC : String → State → State → Prop} {mc ms : Nat} {free : Addr → Prop} {bytes : ByteArray} {maxL : Nat} {ret : Option FieldType} {hh : List (Nat × Nat × Nat × Nat)}
    (hM : vx_Met l y ws rm Pc Qc XC mc ms free) (hblind : FrameBlind Pc) (hrc : rm.cells = mc) (hrs : rm.slots = ms)
    (hframes : rm.frames + 1 ≤ R.frames) (hlocals : W9 + (maxL + 11) + rm.locals ≤ R.locals)
    (hws : ∀ w ∈ ws, ∀ a' U, s.WarmedH U.vm → w.before a' U = true) (hcode : Cond.codeWith y bytes maxL ret hh ∈ ws) (hinit : ∀ a' U, s.WarmedH U.vm → (Cond.initialized y.cls).before a' U = true) :
    vx_Back l R p e below s sargs y len W9 (PreOf R mc ms Pc) (PostOf Qc mc ms free) (vx_Post XC mc ms free) := by
  intro m meth c A g ig mk a X hg hsize hdg hW hn hp
  have h1 : (headSpec ws rm).pre.before a A.U = true := atoms_intro fun w hw => hws w hw _ _ X.warmed
  have h2 : (Cond.codeWith y bytes maxL ret hh).before a A.U = true := hws _ hcode _ _ X.warmed
  have h3 : (Cond.initialized y.cls).before a A.U = true := hinit _ _ X.warmed
  have h4 : A.cells + (headSpec ws rm).room.cells ≤ R.cells := by rw [show (headSpec ws rm).room.cells = mc from hrc]; exact hp.1
  have h5 : A.slots + (headSpec ws rm).room.slots ≤ R.slots := by rw [show (headSpec ws rm).room.slots = ms from hrs]; exact hp.2.1
  have hPc : Pc a (A.U.calling g mk a) := hblind _ _ _ _ hp.2.2
  obtain ⟨U, Ls, c0, s0⟩ := A
  dsimp only [Pt.U, Pt.locs, Pt.cells, Pt.slots] at h1 h2 h3 h4 h5 X hn hPc ⊢
  obtain ⟨m9, methY, cY, hn9, hmY, hcY, -, hlY, -⟩ := Cond.codeWith_spec h2
  cases Option.some.inj (hn9.symm.trans hn)
  obtain ⟨kY, hkY, -⟩ := className_of_methodNamed hn
  have hinitY : kY.init = .initialized := Cond.initialized_spec (findClass_of_methodNamed hn) hkY h3
  have h : At U g.method c below := by rw [hg]; exact X.here
  have hlocals9 : W9 + (maxL + 11) + (headSpec ws rm).room.locals ≤ R.locals := hlocals
  have happ : (headSpec ws rm).appliesLoose y e.platform (U.calling g mk a) = true :=
    Spec.appliesLoose_calling (g := g) h hdg hn hkY hinitY
      (X.room_calling (g := g) (R' := (headSpec ws rm).room) hsize hmY hcY hframes (by rw [hlY]; omega) h4 h5) h1
  obtain ⟨mid, hmid⟩ := h.above
  have hfr : (U.setTop g).frames = (.java g :: mid) ++ below := by rw [State.frames_setTop' g h.top, hmid]; rfl
  obtain ⟨o, s₂, hsteps, -, hend, hq⟩ := Steps.callFree hM p X.admits X.cas X.clock (acts := []) hfr happ hPc trivial
  have hq' : vx_Q Qc XC mc ms free a (U.calling g mk a) o s₂ := hq
  rw [State.frames_setTop' g h.top] at hend
  obtain ⟨g₀, hg0⟩ := Option.isSome_iff_exists.mp h.top
  obtain ⟨r, hr⟩ := State.topJava?_eq_some.mp hg0
  have hr' : (({ U with heap := s₂.heap, slotsUsed := s₂.slotsUsed } : State).setVm s₂.vm).frames = .java g₀ :: r := hr
  rcases hq' with ⟨hqc, L, hfe, hL⟩ | ⟨q, rfl, E, ce, L, hx, hce, hcv, hcl, hW₂, hsm, hL⟩
  · obtain ⟨⟨v, rfl⟩, hW₂, e2, q2, q3, q4, q5, q6⟩ := id hfe
    have e3 : s₂ = ({ (U.calling g mk a).setFrames s₂.frames with heap := s₂.heap, slotsUsed := s₂.slotsUsed } : State).setVm s₂.vm := by
      have : s₂ = ({ s₂ with vm := (U.calling g mk a).vm } : State).setVm s₂.vm := rfl
      rw [e2] at this
      exact this
    obtain ⟨c₂, i₂, len₂, hc₂, hd₂, hf₂⟩ := hend
    have hW' : U.WarmedH s₂.vm := hW₂
    have hcc : c₂ = c := by
      have h1 : s₂.code? g.method = U.code? g.method := by
        rw [State.code?_eq, State.code?_eq, hW'.alike.method?]
      exact Option.some.inj (hc₂.symm.trans (h1.trans h.code))
    subst hcc
    have hlen : len₂ = len := by rw [hdg] at hd₂; cases hd₂; rfl
    subst hlen
    have hs₂ : s₂ = (({ U with heap := s₂.heap, slotsUsed := s₂.slotsUsed } : State).setVm s₂.vm).setTop { g with pc := g.pc + len₂, stack := v.toList ++ g.stack } := by
      refine e3.trans ?_
      rw [hf₂, State.calling_eq h.top, State.setFrames_setFrames, State.setTop_of_frames _ hr', hr]
      rfl
    have hsame : U.sameButNew ({ U with heap := s₂.heap, slotsUsed := s₂.slotsUsed } : State) L mc ms := by
      refine ⟨?_, q2, q3, q4, q5, q6⟩
      obtain ⟨t, ht, -⟩ := State.frames_cons hr
      show ({ U with heap := s₂.heap, slotsUsed := s₂.slotsUsed } : State) = { U.setFrames U.frames with heap := s₂.heap, slotsUsed := s₂.slotsUsed }
      rw [State.setFrames_self ht]
    subst hg
    refine Or.inl ⟨v, ⟨(({ U with heap := s₂.heap, slotsUsed := s₂.slotsUsed } : State).setVm s₂.vm), Ls ++ L, c0 + mc, s0 + ms⟩,
      ⟨X.admits, X.cas, X.clock, X.frames, X.room, X.hears, X.method, X.code, (X.here.setHeapUsed s₂.heap s₂.slotsUsed).setVm hW'.alike, X.tail, State.WarmedH.trans X.warmed hW', X.limits, X.bytes, X.same.trans (hsame.setVm s.vm)⟩,
      ⟨g, mk, s₂, L, rfl, rfl, hqc, rfl, hL, rfl, rfl⟩, ?_⟩
    show Steps p.tables e below _ ((({ U with heap := s₂.heap, slotsUsed := s₂.slotsUsed } : State).setVm s₂.vm).setTop { g with pc := g.pc + len₂, stack := v.toList ++ g.stack })
    rw [← hs₂]
    exact hsteps
  · obtain ⟨e2, q2, q3, q4, q5, q6⟩ := id hsm
    have e3 : s₂ = ({ (U.calling g mk a).setFrames s₂.frames with heap := s₂.heap, slotsUsed := s₂.slotsUsed } : State).setVm s₂.vm := by
      have : s₂ = ({ s₂ with vm := (U.calling g mk a).vm } : State).setVm s₂.vm := rfl
      rw [e2] at this
      exact this
    have hf₂ : s₂.frames = .throwing q :: .java g :: U.frames.tail := hend
    have hW' : U.WarmedH s₂.vm := hW₂
    have hs₂ : s₂ = ((({ U with heap := s₂.heap, slotsUsed := s₂.slotsUsed } : State).setVm s₂.vm).setTop g).pushFrame (.throwing q) := by
      refine e3.trans ?_
      rw [hf₂, State.calling_eq h.top, State.setFrames_setFrames, State.pushFrame, State.frames_setTop _ hr', State.setTop_of_frames _ hr', State.setFrames_setFrames, hr]
      rfl
    have hsame : U.sameButNew ({ U with heap := s₂.heap, slotsUsed := s₂.slotsUsed } : State) L mc ms := by
      refine ⟨?_, q2, q3, q4, q5, q6⟩
      obtain ⟨t, ht, -⟩ := State.frames_cons hr
      show ({ U with heap := s₂.heap, slotsUsed := s₂.slotsUsed } : State) = { U.setFrames U.frames with heap := s₂.heap, slotsUsed := s₂.slotsUsed }
      rw [State.setFrames_self ht]
    subst hg
    refine Or.inr ⟨q, ⟨(({ U with heap := s₂.heap, slotsUsed := s₂.slotsUsed } : State).setVm s₂.vm), Ls ++ L, c0 + mc, s0 + ms⟩,
      ⟨X.admits, X.cas, X.clock, X.frames, X.room, X.hears, X.method, X.code, (X.here.setHeapUsed s₂.heap s₂.slotsUsed).setVm hW'.alike, X.tail, State.WarmedH.trans X.warmed hW', X.limits, X.bytes, X.same.trans (hsame.setVm s.vm)⟩,
      ⟨g, mk, s₂, L, E, ce, rfl, rfl, hx, hce, hcv, hcl, rfl, hL, rfl, rfl⟩, ?_⟩
    show Steps p.tables e below _ (((({ U with heap := s₂.heap, slotsUsed := s₂.slotsUsed } : State).setVm s₂.vm).setTop g).pushFrame (.throwing q))
    rw [← hs₂]
    exact hsteps
end
variable {p : Program} {l : Launch} {e : Env} {R : Room} {s : State} {m : MethodId} {args : Array Value} {below : List Frame} {meth : Method} {c : Code} {T : State} {H : Heap} {locs : List Loc} {cells slots : Nat}
theorem vx_callVX (X : Stand p l e R s m args below meth c T locs cells slots) (hexec : p.tables.exec = Jvm.exec) {own C : String} {index : Nat} {y : MethodName} {bytes : ByteArray} {maxL : Nat} {ret : Option FieldType} {hh : List (Nat × Nat × Nat × Nat)}
    (hown : s.vm.findClass own = some m.cls) (hlink : (Cond.methodLink own index y).before args s = true) (hinst : (Cond.instanceMethod y).before args s = true) (hsel : (Cond.selects C y y).before args s = true)
    (hcode : (Cond.codeWith y bytes maxL ret hh).before args s = true) (hy : y.cls ≠ "java/lang/invoke/MethodHandle" ∧ y.cls ≠ "java/lang/invoke/VarHandle")
    {W9 : Nat} {Pre : Pt → Array Value → Prop} {Post : Pt → Array Value → Option Value → Pt → Prop} {PostX : Pt → Array Value → Addr → Pt → Prop} (hK : vx_Back l R p e below s args y 3 W9 Pre Post PostX)
    {b : Addr} {cellB : Cell} (hcell : T.heap[b]? = some cellB) (hobj : cellB.vm.isStatics = false) (hcls : s.vm.findClass C = some cellB.cls)
    {g : JFrame} (hg : g.method = m) (hsize : g.locals.size = c.maxLocals) {argsL rest : List Value} (hlen : ∀ sig, parseMethodDescriptor y.desc = some sig → argsL.length = sig.parameters.length)
    (hstack : g.stack = argsL.reverse ++ .ref b :: rest) (hW : 2 * g.monitorRoom + (rest.map fun v => v.category).sum ≤ W9) (hdg : decode c.code g.pc = .ok (.invokevirtual index, 3))
    (hpre : ∀ vm₁, s.WarmedH vm₁ → Pre ⟨T.setVm vm₁, locs, cells, slots⟩ (Value.ref b :: argsL).toArray) :
    (∃ (v : Option Value) (vm₁ : Vm) (B : Pt), s.WarmedH vm₁ ∧ Stand p l e R s m args below meth c B.U B.locs B.cells B.slots ∧ Post ⟨T.setVm vm₁, locs, cells, slots⟩ (Value.ref b :: argsL).toArray v B ∧
      ∀ target, Steps p.tables e below (B.U.setTop { g with pc := g.pc + 3, stack := v.toList ++ rest }) target → Steps p.tables e below (T.setTop g) target) ∨
    (∃ (q : Addr) (vm₁ : Vm) (B : Pt), s.WarmedH vm₁ ∧ Stand p l e R s m args below meth c B.U B.locs B.cells B.slots ∧ PostX ⟨T.setVm vm₁, locs, cells, slots⟩ (Value.ref b :: argsL).toArray q B ∧
      Steps p.tables e below (T.setTop g) ((B.U.setTop { g with stack := rest }).pushFrame (.throwing q))) := by
  obtain ⟨mk, methM, hnamed, hmethM, hstM, habM⟩ := Cond.instanceMethod_spec hinst
  obtain ⟨m8, methM', cM, hn8, hmethM', -, -, -, -, -, -, hsigM⟩ := Cond.codeWith_spec hcode
  cases Option.some.inj (hn8.symm.trans hnamed)
  cases hmethM.symm.trans hmethM'
  obtain ⟨c2, r2, m2, q1, q2, q3, q4, kP, hkP, hkPi⟩ := Cond.selects_spec hsel
  cases hcls.symm.trans q1
  cases (State.methodFound?_of_named hnamed hy).symm.trans q2
  cases hnamed.symm.trans q3
  have hselP : selectMethod e.platform s.vm cellB.cls mk = .method mk := by rw [Launch.admits_selectMethod X.admits]; exact q4
  obtain ⟨vm₁, X₁, hstep₁⟩ := X.invokevirtual hexec hown hlink hnamed hmethM hstM hkP hkPi hy (a := b) (cell := cellB) hcell
    (fun z h => by rw [h] at hobj; cases hobj) hselP hmethM habM hkP hkPi (g := g) hg (argsL := argsL) (rest := rest) (hlen _ hsigM) hstack hdg
  rcases hK m meth c ⟨T.setVm vm₁, locs, cells, slots⟩ { g with stack := rest } (.invokevirtual index) mk (Value.ref b :: argsL).toArray X₁ hg hsize hdg hW (X₁.named hnamed) (hpre vm₁ X₁.warmed) with ⟨v, B, X', hpost, hsteps⟩ | ⟨q, B, X', hpost, hsteps⟩
  · exact Or.inl ⟨v, vm₁, B, X₁.warmed, X', hpost, fun target h => hstep₁ _ fun acts => by rw [doInvoke_state]; exact hsteps.trans h⟩
  · exact Or.inr ⟨q, vm₁, B, X₁.warmed, X', hpost, hstep₁ _ fun acts => by rw [doInvoke_state]; exact hsteps⟩
theorem vx_callSX (X : Stand p l e R s m args below meth c T locs cells slots) (hexec : p.tables.exec = Jvm.exec) {own : String} {index : Nat} {y : MethodName} {bytes : ByteArray} {maxL : Nat} {ret : Option FieldType} {hh : List (Nat × Nat × Nat × Nat)}
    (hown : s.vm.findClass own = some m.cls) (hlink : (Cond.methodLink own index y).before args s = true) (hstat : (Cond.static y).before args s = true) (hinit : (Cond.initialized y.cls).before args s = true)
    (hcode : (Cond.codeWith y bytes maxL ret hh).before args s = true) (hy : y.cls ≠ "java/lang/invoke/MethodHandle" ∧ y.cls ≠ "java/lang/invoke/VarHandle")
    {W9 : Nat} {Pre : Pt → Array Value → Prop} {Post : Pt → Array Value → Option Value → Pt → Prop} {PostX : Pt → Array Value → Addr → Pt → Prop} (hK : vx_Back l R p e below s args y 3 W9 Pre Post PostX)
    {g : JFrame} (hg : g.method = m) (hsize : g.locals.size = c.maxLocals) {argsL rest : List Value} (hlen : ∀ sig, parseMethodDescriptor y.desc = some sig → argsL.length = sig.parameters.length)
    (hstack : g.stack = argsL.reverse ++ rest) (hW : 2 * g.monitorRoom + (rest.map fun v => v.category).sum ≤ W9) (hdg : decode c.code g.pc = .ok (.invokestatic index, 3))
    (hpre : ∀ vm₁, s.WarmedH vm₁ → Pre ⟨T.setVm vm₁, locs, cells, slots⟩ argsL.toArray) :
    (∃ (v : Option Value) (vm₁ : Vm) (B : Pt), s.WarmedH vm₁ ∧ Stand p l e R s m args below meth c B.U B.locs B.cells B.slots ∧ Post ⟨T.setVm vm₁, locs, cells, slots⟩ argsL.toArray v B ∧
      ∀ target, Steps p.tables e below (B.U.setTop { g with pc := g.pc + 3, stack := v.toList ++ rest }) target → Steps p.tables e below (T.setTop g) target) ∨
    (∃ (q : Addr) (vm₁ : Vm) (B : Pt), s.WarmedH vm₁ ∧ Stand p l e R s m args below meth c B.U B.locs B.cells B.slots ∧ PostX ⟨T.setVm vm₁, locs, cells, slots⟩ argsL.toArray q B ∧
      Steps p.tables e below (T.setTop g) ((B.U.setTop { g with stack := rest }).pushFrame (.throwing q))) := by
  obtain ⟨mk, methM, cM, hnamed, hmethM, -, -, -, -, -, -, hsigM⟩ := Cond.codeWith_spec hcode
  have hstatic : methM.isStatic = true := Cond.static_spec hnamed hmethM hstat
  obtain ⟨kP, hkP, -⟩ := className_of_methodNamed hnamed
  have hinitP : kP.init = .initialized := Cond.initialized_spec (findClass_of_methodNamed hnamed) hkP hinit
  obtain ⟨vm₁, X₁, hstep₁⟩ := X.invokestatic hexec hown hlink hnamed hmethM hstatic hkP hinitP hy (g := g) hg (argsL := argsL) (rest := rest) (hlen _ hsigM) hstack hdg
  rcases hK m meth c ⟨T.setVm vm₁, locs, cells, slots⟩ { g with stack := rest } (.invokestatic index) mk argsL.toArray X₁ hg hsize hdg hW (X₁.named hnamed) (hpre vm₁ X₁.warmed) with ⟨v, B, X', hpost, hsteps⟩ | ⟨q, B, X', hpost, hsteps⟩
  · exact Or.inl ⟨v, vm₁, B, X₁.warmed, X', hpost, fun target h => hstep₁ _ fun acts => by rw [doInvoke_state]; exact hsteps.trans h⟩
  · exact Or.inr ⟨q, vm₁, B, X₁.warmed, X', hpost, hstep₁ _ fun acts => by rw [doInvoke_state]; exact hsteps⟩
theorem vx_callVW (X : Stand p l e R s m args below meth c T locs cells slots) (hexec : p.tables.exec = Jvm.exec) {own C : String} {index : Nat} {y : MethodName} {bytes : ByteArray} {maxL : Nat} {ret : Option FieldType} {hh : List (Nat × Nat × Nat × Nat)}
    (hown : s.vm.findClass own = some m.cls) (hlink : (Cond.methodLink own index y).before args s = true) (hinst : (Cond.instanceMethod y).before args s = true) (hsel : (Cond.selects C y y).before args s = true)
    (hcode : (Cond.codeWith y bytes maxL ret hh).before args s = true) (hy : y.cls ≠ "java/lang/invoke/MethodHandle" ∧ y.cls ≠ "java/lang/invoke/VarHandle")
    {W9 : Nat} {Pre : Pt → Array Value → Prop} {Post : Pt → Array Value → Option Value → Pt → Prop} (hK : Back l R p e below s args y 3 W9 Pre Post)
    {b : Addr} {cellB : Cell} (hcell : T.heap[b]? = some cellB) (hobj : cellB.vm.isStatics = false) (hcls : s.vm.findClass C = some cellB.cls)
    {g : JFrame} (hg : g.method = m) (hsize : g.locals.size = c.maxLocals) {argsL rest : List Value} (hlen : ∀ sig, parseMethodDescriptor y.desc = some sig → argsL.length = sig.parameters.length)
    (hstack : g.stack = argsL.reverse ++ .ref b :: rest) (hW : 2 * g.monitorRoom + (rest.map fun v => v.category).sum ≤ W9) (hdg : decode c.code g.pc = .ok (.invokevirtual index, 3))
    (hpre : ∀ vm₁, s.WarmedH vm₁ → Pre ⟨T.setVm vm₁, locs, cells, slots⟩ (Value.ref b :: argsL).toArray) :
    ∃ (v : Option Value) (vm₁ : Vm) (B : Pt), s.WarmedH vm₁ ∧ Stand p l e R s m args below meth c B.U B.locs B.cells B.slots ∧ Post ⟨T.setVm vm₁, locs, cells, slots⟩ (Value.ref b :: argsL).toArray v B ∧
      ∀ target, Steps p.tables e below (B.U.setTop { g with pc := g.pc + 3, stack := v.toList ++ rest }) target → Steps p.tables e below (T.setTop g) target := by
  obtain ⟨mk, methM, hnamed, hmethM, hstM, habM⟩ := Cond.instanceMethod_spec hinst
  obtain ⟨m8, methM', cM, hn8, hmethM', -, -, -, -, -, -, hsigM⟩ := Cond.codeWith_spec hcode
  cases Option.some.inj (hn8.symm.trans hnamed)
  cases hmethM.symm.trans hmethM'
  obtain ⟨c2, r2, m2, q1, q2, q3, q4, kP, hkP, hkPi⟩ := Cond.selects_spec hsel
  cases hcls.symm.trans q1
  cases (State.methodFound?_of_named hnamed hy).symm.trans q2
  cases hnamed.symm.trans q3
  have hselP : selectMethod e.platform s.vm cellB.cls mk = .method mk := by rw [Launch.admits_selectMethod X.admits]; exact q4
  obtain ⟨vm₁, X₁, hstep₁⟩ := X.invokevirtual hexec hown hlink hnamed hmethM hstM hkP hkPi hy (a := b) (cell := cellB) hcell
    (fun z h => by rw [h] at hobj; cases hobj) hselP hmethM habM hkP hkPi (g := g) hg (argsL := argsL) (rest := rest) (hlen _ hsigM) hstack hdg
  obtain ⟨v, B, X', hpost, hsteps⟩ := hK m meth c ⟨T.setVm vm₁, locs, cells, slots⟩ { g with stack := rest } (.invokevirtual index) mk (Value.ref b :: argsL).toArray X₁ hg hsize hdg hW (X₁.named hnamed) (hpre vm₁ X₁.warmed)
  exact ⟨v, vm₁, B, X₁.warmed, X', hpost, fun target h => hstep₁ _ fun acts => by rw [doInvoke_state]; exact hsteps.trans h⟩
abbrev vx_CVW (R : Room) (s : State) (args : Array Value) (own C : String) (index : Nat) (y : MethodName) (bytes : ByteArray) (maxL : Nat) (ret : Option FieldType) (hh : List (Nat × Nat × Nat × Nat)) (ws : List Cond) (rm : Room) (mc ms n : Nat) : Prop :=
  (rm.cells = mc ∧ rm.slots = ms ∧ rm.frames + 1 ≤ R.frames ∧ 8 + (maxL + 11) + rm.locals ≤ R.locals ∧ (∀ w ∈ ws, ∀ (a' : Array Value) (U : State), s.WarmedH U.vm → w.before a' U = true) ∧ Cond.codeWith y bytes maxL ret hh ∈ ws) ∧
  (Cond.codeWith y bytes maxL ret hh).before args s = true ∧ (Cond.initialized y.cls).before args s = true ∧ (y.cls ≠ "java/lang/invoke/MethodHandle" ∧ y.cls ≠ "java/lang/invoke/VarHandle") ∧
  (∀ sig, parseMethodDescriptor y.desc = some sig → n = sig.parameters.length) ∧ (Cond.methodLink own index y).before args s = true ∧ (Cond.instanceMethod y).before args s = true ∧ (Cond.selects C y y).before args s = true
theorem vx_cwVW {own C : String} {index maxL mc ms : Nat} {y : MethodName} {bytes : ByteArray} {ret : Option FieldType} {hh : List (Nat × Nat × Nat × Nat)} {Ts ws ws' : List Cond} {rm : Room} (n : Nat) (ht : ∀ w ∈ Ts, w.before args s = true) (hT : GoodIn Ts (wsV own index C y ws)) (hw : ws = Cond.codeWith y bytes maxL ret hh :: ws') (hrc : rm.cells = mc) (hrs : rm.slots = ms)
    (hd : y.cls = C ∧ y.cls ≠ "java/lang/invoke/MethodHandle" ∧ y.cls ≠ "java/lang/invoke/VarHandle" ∧ (parseMethodDescriptor y.desc).map (fun d => d.parameters.length) = some n) (hR : rm.frames + 1 ≤ R.frames ∧ 8 + (maxL + 11) + rm.locals ≤ R.locals) :
    vx_CVW R s args own C index y bytes maxL ret hh ws rm mc ms n := by
  obtain ⟨hC, hd⟩ := hd
  subst hC
  have ok : ∀ w ∈ wsV own index y.cls y ws, w.before args s = true := fun w h => ht w (hT w h).1
  have hG : GoodIn Ts ws := fun w h => hT w (by unfold wsV; exact List.mem_append_right _ h)
  have hc : Cond.codeWith y bytes maxL ret hh ∈ ws := by rw [hw]; exact List.mem_cons_self
  refine ⟨⟨hrc, hrs, hR.1, hR.2, pay_in ht hG, hc⟩, ht _ (hG _ hc).1, ok _ (by simp [wsV]), ⟨hd.1, hd.2.1⟩, fun sig h => ?_, ok _ (by simp [wsV]), ok _ (by simp [wsV]), ok _ (by simp [wsV])⟩
  have h2 := hd.2.2
  rw [h] at h2
  exact (Option.some.inj h2).symm
theorem vx_runVW {y : MethodName} {bytes cc : ByteArray} {maxL nL mc ms n index : Nat} {ret : Option FieldType} {hh : List (Nat × Nat × Nat × Nat)} {ws : List Cond} {rm : Room} {Pc : Array Value → State → Prop} {Qc : Array Value → State → Outcome → State → Prop} {free : Addr → Prop} {Ts : List Cond} {own C : String} {b : Addr} {As rest : List Value} {g : JFrame}
    (S : CallFix p m c cc nL s args Ts own) (hM : Met l y ws rm Pc Qc mc ms free) (cw : vx_CVW R s args own C index y bytes maxL ret hh ws rm mc ms n) (hp : PreV s H C b Pc As)
    (hg : g.method = m) (hn : As.length = n) (hsize : g.locals.size = nL) (hstack : g.stack = As.reverse ++ .ref b :: rest) (hW : 2 * g.monitorRoom + (rest.map fun v => v.category).sum ≤ 8) (hdg : decode cc g.pc = .ok (.invokevirtual index, 3)) (hf : cells + mc ≤ R.cells ∧ slots + ms ≤ R.slots) :
    va_Run p l e R s m args below meth c H locs cells slots mc ms g rest (Qc (Value.ref b :: As).toArray) free := by
  obtain ⟨⟨hrc, hrs, hfr, hlo, hws, hcw⟩, hcode, hini, hy, hlen, hl, hin, hse⟩ := cw
  have hK : Back l R p e below s args y 3 8 (PreOf R mc ms Pc) (PostOf Qc mc ms free) := va_backW (hh := hh) (bytes := bytes) (maxL := maxL) (ret := ret) hM hp.1 hrc hrs hfr hlo hws hcw (fun a' U hW => word_at hW (Or.inl (by first | rfl | simp [Cond.onTables, Cond.keeps, Cond.steady])) hini)
  obtain ⟨hx, hb, hml, ho, -⟩ := S
  obtain ⟨-, ⟨cellB, hcB, hoB, hclB⟩, hPc⟩ := hp
  intro T hT X
  obtain ⟨v, vm₁, ⟨U', l2, c2, s2⟩, hW₁, X', ⟨g', mk, t, L, e1, e2, hq, h1, hL, h2, h3⟩, st⟩ := vx_callVW X hx (C := C) (hh := hh) (bytes := bytes) (maxL := maxL) (ret := ret) ho hl hin hse hcode hy hK (by rw [hT]; exact hcB) hoB hclB hg (hsize.trans hml.symm) (argsL := As) (rest := rest) (fun sig h => hn.trans (hlen sig h)) hstack hW (by rw [hb]; exact hdg)
    (fun vm₁ hW₁ => ⟨hf.1, hf.2, hPc (T.setVm vm₁) hT hW₁⟩)
  dsimp only [Pt.U, Pt.locs, Pt.cells, Pt.slots] at X' e1 e2 h1 h2 h3 st
  subst h1; subst h2; subst h3
  exact ⟨v, (T.setVm vm₁).calling g' mk (Value.ref b :: As).toArray, t, U', L, hT, X', hL, e1, e2, hq, st⟩
section
variable {y : MethodName} {bytes cc : ByteArray} {maxL nL mc ms n index : Nat} {ret : Option FieldType} {ws : List Cond} {rm : Room} {Pc : Array Value → State → Prop} {Qc : Array Value → State → Outcome → State → Prop} {XC : String → State → State → Prop} {free : Addr → Prop} {Ts : List Cond} {own C : String} {b : Addr} {As rest : List Value} {g : JFrame}
theorem vx_runVX {hh : List (Nat × Nat × Nat × Nat)} (S : CallFix p m c cc nL s args Ts own) (hM : vx_Met l y ws rm Pc Qc XC mc ms free) (cw : vx_CVW R s args own C index y bytes maxL ret hh ws rm mc ms n) (hp : PreV s H C b Pc As)
    (hg : g.method = m) (hn : As.length = n) (hsize : g.locals.size = nL) (hstack : g.stack = As.reverse ++ .ref b :: rest) (hW : 2 * g.monitorRoom + (rest.map fun v => v.category).sum ≤ 8) (hdg : decode cc g.pc = .ok (.invokevirtual index, 3)) (hf : cells + mc ≤ R.cells ∧ slots + ms ≤ R.slots) :
    vx_Run p l e R s m args below meth c H locs cells slots mc ms g rest (Qc (Value.ref b :: As).toArray) XC free := by
  obtain ⟨⟨hrc, hrs, hfr, hlo, hws, hcw⟩, hcode, hini, hy, hlen, hl, hin, hse⟩ := cw
  have hK : vx_Back l R p e below s args y 3 8 (PreOf R mc ms Pc) (PostOf Qc mc ms free) (vx_Post XC mc ms free) := vx_backW (hh := hh) (bytes := bytes) (maxL := maxL) (ret := ret) hM hp.1 hrc hrs hfr hlo hws hcw (fun a' U hW => word_at hW (Or.inl (by first | rfl | simp [Cond.onTables, Cond.keeps, Cond.steady])) hini)
  obtain ⟨hx, hb, hml, ho, -⟩ := S
  obtain ⟨-, ⟨cellB, hcB, hoB, hclB⟩, hPc⟩ := hp
  intro T hT X
  rcases vx_callVX X hx (C := C) (hh := hh) (bytes := bytes) (maxL := maxL) (ret := ret) ho hl hin hse hcode hy hK (by rw [hT]; exact hcB) hoB hclB hg (hsize.trans hml.symm) (argsL := As) (rest := rest) (fun sig h => hn.trans (hlen sig h)) hstack hW (by rw [hb]; exact hdg)
    (fun vm₁ hW₁ => ⟨hf.1, hf.2, hPc (T.setVm vm₁) hT hW₁⟩) with ⟨v, vm₁, ⟨U', l2, c2, s2⟩, hW₁, X', ⟨g', mk, t, L, e1, e2, hq, h1, hL, h2, h3⟩, st⟩ | ⟨q, vm₁, ⟨U', l2, c2, s2⟩, hW₁, X', ⟨g', mk, t, L, E, ce, e1, e2, hq, hce, hcv, hcl, h1, hL, h2, h3⟩, st⟩
  · dsimp only [Pt.U, Pt.locs, Pt.cells, Pt.slots] at X' e1 e2 h1 h2 h3 st
    subst h1; subst h2; subst h3
    exact Or.inl ⟨v, (T.setVm vm₁).calling g' mk (Value.ref b :: As).toArray, t, U', L, hT, X', hL, e1, e2, hq, st⟩
  · dsimp only [Pt.U, Pt.locs, Pt.cells, Pt.slots] at X' e1 e2 h1 h2 h3 st hcl
    subst h1; subst h2; subst h3
    exact Or.inr ⟨q, (T.setVm vm₁).calling g' mk (Value.ref b :: As).toArray, t, U', L, E, ce, hT, X', hL, e1, e2, hq, hce, hcv, vx_cls hW₁ hcl, st⟩
theorem vx_runSX {hh : List (Nat × Nat × Nat × Nat)} (S : CallFix p m c cc nL s args Ts own) (hM : vx_Met l y ws rm Pc Qc XC mc ms free) (cw : vx_CSW R s args own index y bytes maxL ret hh ws rm mc ms n) (hp : PreS s H Pc As)
    (hg : g.method = m) (hn : As.length = n) (hsize : g.locals.size = nL) (hstack : g.stack = As.reverse ++ rest) (hW : 2 * g.monitorRoom + (rest.map fun v => v.category).sum ≤ 8) (hdg : decode cc g.pc = .ok (.invokestatic index, 3)) (hf : cells + mc ≤ R.cells ∧ slots + ms ≤ R.slots) :
    vx_Run p l e R s m args below meth c H locs cells slots mc ms g rest (Qc As.toArray) XC free := by
  obtain ⟨⟨hrc, hrs, hfr, hlo, hws, hcw⟩, hcode, hini, hy, hlen, hl, hstt⟩ := cw
  have hK : vx_Back l R p e below s args y 3 8 (PreOf R mc ms Pc) (PostOf Qc mc ms free) (vx_Post XC mc ms free) := vx_backW (hh := hh) (bytes := bytes) (maxL := maxL) (ret := ret) hM hp.1 hrc hrs hfr hlo hws hcw (fun a' U hW => word_at hW (Or.inl (by first | rfl | simp [Cond.onTables, Cond.keeps, Cond.steady])) hini)
  obtain ⟨hx, hb, hml, ho, -⟩ := S
  intro T hT X
  rcases vx_callSX X hx (hh := hh) (bytes := bytes) (maxL := maxL) (ret := ret) ho hl hstt hini hcode hy hK hg (hsize.trans hml.symm) (argsL := As) (rest := rest) (fun sig h => hn.trans (hlen sig h)) hstack hW (by rw [hb]; exact hdg)
    (fun vm₁ hW₁ => ⟨hf.1, hf.2, hp.2 (T.setVm vm₁) hT hW₁⟩) with ⟨v, vm₁, ⟨U', l2, c2, s2⟩, hW₁, X', ⟨g', mk, t, L, e1, e2, hq, h1, hL, h2, h3⟩, st⟩ | ⟨q, vm₁, ⟨U', l2, c2, s2⟩, hW₁, X', ⟨g', mk, t, L, E, ce, e1, e2, hq, hce, hcv, hcl, h1, hL, h2, h3⟩, st⟩
  · dsimp only [Pt.U, Pt.locs, Pt.cells, Pt.slots] at X' e1 e2 h1 h2 h3 st
    subst h1; subst h2; subst h3
    exact Or.inl ⟨v, (T.setVm vm₁).calling g' mk As.toArray, t, U', L, hT, X', hL, e1, e2, hq, st⟩
  · dsimp only [Pt.U, Pt.locs, Pt.cells, Pt.slots] at X' e1 e2 h1 h2 h3 st hcl
    subst h1; subst h2; subst h3
    exact Or.inr ⟨q, (T.setVm vm₁).calling g' mk As.toArray, t, U', L, E, ce, hT, X', hL, e1, e2, hq, hce, hcv, vx_cls hW₁ hcl, st⟩
end
end VXH
theorem vx_ofWH {l : Launch} {y : MethodName} {ws ws' : List Cond} {rm : Room} {Pc : Array Value → State → Prop} {Qc : Array Value → State → Outcome → State → Prop} {XC : String → State → State → Prop} {mc ms : Nat} {free : Addr → Prop} {cc : ByteArray} {maxL : Nat} {ret : Option FieldType} {hh : List (Nat × Nat × Nat × Nat)}
    (hy : plainName y.cls = true) (hw : ws = Cond.codeWith y cc maxL ret hh :: ws')
    (body : ∀ p e s m args below meth c s₁, BodyLoose p l y (headSpec ws rm) cc maxL ret e s m args below meth c s₁ → c.maxLocals = maxL → Pc args s →
      W p l e (headSpec ws rm).room s m args below meth c s.heap [] 0 0 (vx_MQ below Qc XC args s mc ms free) (entryFrame m args maxL)) : vx_Met l y ws rm Pc Qc XC mc ms free := by
  refine MetFree.of_bodyS (code := cc) (maxLocals := maxL) (ret := ret) hy ?_ ?_
  · intro args s m h hn
    obtain ⟨m9, meth, c, hn9, h1, h2, h3, h4, -, h5, h6, -⟩ := Cond.codeWith_spec (atoms_spec (ws := ws) h _ (by rw [hw]; exact List.mem_cons_self))
    cases hn.symm.trans hn9
    exact ⟨meth, c, h1, h2, h3, h4, h5, h6⟩
  · intro p e s m args below meth c s₁ B hml hP _
    have hh0 : s₁.heap = s.heap := by rw [B.state]; rfl
    obtain ⟨t, a1, o, b1, b2, b3⟩ := body p e s m args below meth c s₁ B hml hP s₁ hh0 (Stand.of_body B)
    exact ⟨t, o, a1, b1, b2, b3⟩
/-! ===== END ===== -/
end
section
/-! A throw of a class whose own constructor links its superclass's at any number (NoSuchElementException of JDK 17 has 13): own rows, after the library's proof of ctorThrowS (JvmDerived/BundleOwnThrow.lean) and the kit's of vx_throwS, with the first link's number and bytes free. -/
def tw_tab (own : String) (ic : Nat) (X Y : String) (r : List String) (i9 : Nat) (b9 : ByteArray) : List Cond :=
  Bundle.throwableAtoms.filter vx_no ++ (Bundle.throwableSAtoms ++ (Bundle.passSAtoms X Y i9 b9 ++ (Bundle.chainSAtoms Y r ++
  [.methodLink own ic (Bundle.initS X), .instantiable X 6, .castable X X, .selects X Bundle.tFill0 Bundle.tFill0, .selects X Bundle.tFill Bundle.tFill,
   .lays X Bundle.tN "cause" "Ljava/lang/Throwable;", .lays X Bundle.tN "stackTrace" Bundle.steD, .lays X Bundle.tN "suppressedExceptions" Bundle.listD, .lays X Bundle.tN "detailMessage" "Ljava/lang/String;",
   .fieldLink Bundle.tN 198 Bundle.tN "backtrace" "Ljava/lang/Object;", .lays Bundle.tN Bundle.tN "backtrace" "Ljava/lang/Object;", .lays X Bundle.tN "backtrace" "Ljava/lang/Object;"])))
def tw_all (own : String) (ic : Nat) (X Y : String) (r : List String) (i9 : Nat) (b9 : ByteArray) : List Cond :=
  Bundle.throwableAtoms ++ (Bundle.throwableSAtoms ++ (Bundle.passSAtoms X Y i9 b9 ++ (Bundle.chainSAtoms Y r ++
  [.methodLink own ic (Bundle.initS X), .instantiable X 6, .castable X X, .selects X Bundle.tFill0 Bundle.tFill0, .selects X Bundle.tFill Bundle.tFill,
   .lays X Bundle.tN "cause" "Ljava/lang/Throwable;", .lays X Bundle.tN "stackTrace" Bundle.steD, .lays X Bundle.tN "suppressedExceptions" Bundle.listD, .lays X Bundle.tN "detailMessage" "Ljava/lang/String;",
   .isRef (.static Bundle.tN "UNASSIGNED_STACK" Bundle.steD), .isRef (.static Bundle.tN "SUPPRESSED_SENTINEL" Bundle.listD),
   .fieldLink Bundle.tN 198 Bundle.tN "backtrace" "Ljava/lang/Object;", .lays Bundle.tN Bundle.tN "backtrace" "Ljava/lang/Object;", .lays X Bundle.tN "backtrace" "Ljava/lang/Object;"])))
theorem tw_own {args : Array Value} {s : State} {own : String} {ic : Nat} {X Y : String} {r : List String} {i9 : Nat} {b9 : ByteArray} (h1 : ∀ w ∈ tw_tab own ic X Y r i9 b9, w.before args s = true)
    (hU : (Cond.isRef (.static Bundle.tN "UNASSIGNED_STACK" Bundle.steD)).before args s = true) (hN : (Cond.isRef (.static Bundle.tN "SUPPRESSED_SENTINEL" Bundle.listD)).before args s = true)
    (lU : (Cond.laysStatic Bundle.tN "UNASSIGNED_STACK" Bundle.steD).before args s = true) (lN : (Cond.laysStatic Bundle.tN "SUPPRESSED_SENTINEL" Bundle.listD).before args s = true) : ∀ w ∈ tw_all own ic X Y r i9 b9, w.before args s = true := by
  intro w hw
  simp only [tw_all, List.mem_append, List.mem_cons, List.not_mem_nil, or_false] at hw
  rcases hw with h | h | h | h | h
  · exact vx_own (L := Bundle.throwableAtoms) (fun w hw => h1 w (List.mem_append_left _ hw)) hU hN lU lN w h
  · exact h1 w (by simp only [tw_tab, List.mem_append]; exact Or.inr (Or.inl h))
  · exact h1 w (by simp only [tw_tab, List.mem_append]; exact Or.inr (Or.inr (Or.inl h)))
  · exact h1 w (by simp only [tw_tab, List.mem_append]; exact Or.inr (Or.inr (Or.inr (Or.inl h))))
  · rcases h with h | h | h | h | h | h | h | h | h | h | h | h | h | h
    all_goals first | (rw [h]; exact hU) | (rw [h]; exact hN) | exact h1 w (by simp only [tw_tab, List.mem_append, List.mem_cons, List.not_mem_nil, or_false]; simp [h])
section TW
variable {p : Program} {l : Launch} {e : Env} {R : Room} {s : State} {m₀ : MethodId} {args : Array Value} {below : List Frame} {meth : Method} {c : Code} {W : State} {locs : List Loc} {cells slots : Nat}
set_option maxHeartbeats 4000000 in
theorem tw_ctorS (X : Stand p l e R s m₀ args below meth c W locs cells slots) (hexec : p.tables.exec = Jvm.exec) (htr : e.platform.stackTraces = false) {own cls Y9 : String} {names : List String} {ic i9 : Nat} {b9 : ByteArray} (z0 : decode b9 0 = .ok (.aload_n 0, 1)) (z1 : decode b9 1 = .ok (.aload_n 1, 1)) (z2 : decode b9 2 = .ok (.invokespecial i9, 3)) (z5 : decode b9 5 = .ok (.return_, 1))
    (hown : s.vm.findClass own = some m₀.cls) (hcls : Bundle.fit cls = true) (hY9 : Bundle.fit Y9 = true) (hnames : ∀ n ∈ names, Bundle.fit n = true)
    (h : ∀ a ∈ tw_all own ic cls Y9 names i9 b9, a.before args s = true)
    (hlocs : ∀ x ∈ locs, ∀ cell, s.heap[x.base]? = some cell → cell.vm.isStatics = false)
    {a : Addr} {cX : ClassId} {kX : Class} (hfoundX : s.vm.findClass cls = some cX) (hkX : s.vm.classes[cX]? = some kX) (hcell : W.heap[a]? = some (freshCell cX kX)) (hnew : s.heap.size ≤ a)
    {msg : Value} (hmsg : msg.isRef = true)
    {g : JFrame} (hg : g.method = m₀) (hsize : g.locals.size = c.maxLocals) (hlocked : g.locked = none) (hentered : g.entered = []) {rest : List Value} (hstack : g.stack = msg :: .ref a :: .ref a :: rest)
    (hd6 : decode c.code g.pc = .ok (.invokespecial ic, 3)) (hd9 : decode c.code (g.pc + 3) = .ok (.athrow, 1)) (hout : ∀ x ∈ c.exceptionTable.toList, covers x (g.pc + 3) = false)
    (hRframes : names.length + 4 < R.frames) (hRlocals : 2 * g.monitorRoom + ((Value.ref a :: rest).map fun v => v.category).sum + (13 * (names.length + 2) + 42) ≤ R.locals) (hlocks : meth.locks = false := by first | assumption | exact BodyLoose.notSynchronized (by assumption) | exact Body.notSynchronized (by assumption)) :
    ∃ U : State, Steps p.tables e below (W.setTop g) U ∧ U.status = .running ∧ Ended U below (.threw a) ∧ s.WarmedH U.vm ∧ s.sameButNew ({ U with vm := s.vm } : State) locs cells slots ∧
      ∃ ce, U.heap[a]? = some ce ∧ ce.vm = .none ∧ s.vm.findClass cls = some ce.cls := by
  have howns : e.platform.frameOwnsMonitors = true := by rw [X.admits.platform]
  have hfin : e.platform.finalization = false := by rw [X.admits.platform]
  have hpl : e.platform.magicAccessors = ({} : Platform).magicAccessors := by rw [X.admits.platform]
  have a' : ∀ x, x ∈ tw_all own ic cls Y9 names i9 b9 → x.holds args s none s [] = true := fun x hx => h x hx
  obtain ⟨T, Z0, L, -, Y⟩ := ThrowableC.of_atoms (args := args) howns hfin hpl (fun x hx => h x (by simp [tw_all, hx]))
  obtain ⟨Z, M, LZ, LM, hnZ⟩ := Init0T.ofS_atoms (args := args) hpl L Y (fun x hx => h x (by simp [tw_all, hx]))
  obtain ⟨P1, L1, hP1m, hs1⟩ := PassC.ofS_atoms (args := args) (s := s) hpl (X := cls) (Y := Y9) (Bundle.fit_spec hcls).1 (Bundle.fit_spec hY9).2 z0 z1 z2 z5 (fun x hx => h x (by simp [tw_all, hx]))
  obtain ⟨P2, Ps, hlen, L2, hL, hP2m, hlink2, hlink⟩ := Bundle.chainS (args := args) hpl hnZ names Y9 hY9 hnames (fun x hx => h x (by simp [tw_all, hx]))
  have hlink1 : P1.sup = P2.m := Option.some.inj (hs1.symm.trans hP2m)
              
  have hfound : s.vm.findClass cls = some P1.m.cls := findClass_of_methodNamed hP1m
  cases Option.some.inj (hfoundX.symm.trans hfound)
  obtain ⟨c1, kX', hc1, hk, hord, -, -, hn6⟩ := Cond.instantiable_spec (a' (.instantiable cls 6) (by simp [tw_all]))
  cases Option.some.inj (hc1.symm.trans hfound)
  cases Option.some.inj (hkX.symm.trans hk)
  have hsel0 : selectMethod e.platform s.vm P1.m.cls T.fill0 = .method T.fill0 := by
    obtain ⟨c2, r2, m2, q1, q2, q3, q4, -⟩ := Cond.selects_spec (a' (.selects cls Bundle.tFill0 Bundle.tFill0) (by simp [tw_all]))
    cases Option.some.inj (q1.symm.trans hfound)
    cases Option.some.inj (q2.symm.trans (State.methodFound?_of_named Y.fill0 (by decide)))
    cases Option.some.inj (q3.symm.trans Y.fill0)
    rw [Launch.admits_selectMethod X.admits]; exact q4
  have hselF : selectMethod e.platform s.vm P1.m.cls T.fill = .method T.fill := by
    obtain ⟨c2, r2, m2, q1, q2, q3, q4, -⟩ := Cond.selects_spec (a' (.selects cls Bundle.tFill Bundle.tFill) (by simp [tw_all]))
    cases Option.some.inj (q1.symm.trans hfound)
    cases Option.some.inj (q2.symm.trans (State.methodFound?_of_named Y.fill (by decide)))
    cases Option.some.inj (q3.symm.trans Y.fill)
    rw [Launch.admits_selectMethod X.admits]; exact q4
  obtain ⟨cellS0, hcS0, hiss⟩ := Y.statics
  obtain ⟨u0, hu0⟩ := Cond.staticRefV Y.unassigned L.unassignedStatic L.statics hcS0 hiss (a' (.isRef (.static Bundle.tN "UNASSIGNED_STACK" Bundle.steD)) (by simp [tw_all]))
  obtain ⟨sen, hsen⟩ := Cond.staticRefV Y.sentinel L.sentinelStatic L.statics hcS0 hiss (a' (.isRef (.static Bundle.tN "SUPPRESSED_SENTINEL" Bundle.listD)) (by simp [tw_all]))
  obtain ⟨ci198, i198, fB, hk198, hg198, ha198, hsB, -, hnB, htB, hffB⟩ := Cond.ownField (t := .object "java/lang/Object") Y.found L.cls (by decide +kernel) (a' (.fieldLink Bundle.tN 198 Bundle.tN "backtrace" "Ljava/lang/Object;") (by simp [tw_all])) (a' (.lays Bundle.tN Bundle.tN "backtrace" "Ljava/lang/Object;") (by simp [tw_all])) e.platform hpl
  obtain ⟨cellS, hcS', heS, -, hkeep⟩ := X.same.2.2.2.2.2 T.aS cellS0 hcS0
  have hcellS : W.heap[T.aS]? = some cellS := hcS'
  have hout' : ∀ i, (⟨T.aS, i⟩ : Loc) ∉ locs := fun i hmem => by
    have := hlocs _ hmem cellS0 hcS0
    rw [hiss] at this; cases this
  have hknownS : cellS.vm ≠ .unknown := by
    rw [heS]; intro hu
    rw [show cellS0.vm = .unknown from hu] at hiss
    cases hiss
  have hneS : T.aS ≠ a := Nat.ne_of_lt (Nat.lt_of_lt_of_le (Array.getElem?_eq_some_iff.mp hcS0).1 hnew)
  obtain ⟨iM, hffM⟩ := Y.msg
  obtain ⟨tyC, dC, hdC, hdnC⟩ := Cond.laysAt hfound hk Y.cause (a' (.lays cls Bundle.tN "cause" "Ljava/lang/Throwable;") (by simp [tw_all]))
  obtain ⟨tyS, dS, hdS, hdnS⟩ := Cond.laysAt hfound hk Y.stack (a' (.lays cls Bundle.tN "stackTrace" Bundle.steD) (by simp [tw_all]))
  obtain ⟨tyP, dP, hdP, hdnP⟩ := Cond.laysAt hfound hk Y.supp (a' (.lays cls Bundle.tN "suppressedExceptions" Bundle.listD) (by simp [tw_all]))
  obtain ⟨tyM, dM, hdM, hdnM⟩ := Cond.laysAt hfound hk hffM (a' (.lays cls Bundle.tN "detailMessage" "Ljava/lang/String;") (by simp [tw_all]))
  obtain ⟨tyB, dB, hdB, hdnB⟩ := Cond.laysAt hfound hk hffB (a' (.lays cls Bundle.tN "backtrace" "Ljava/lang/Object;") (by simp [tw_all]))
  have bC := Cond.laysApart hdB hdC hdnB hdnC (by rw [hnB, Y.causeName]; decide)
  have bS := Cond.laysApart hdB hdS hdnB hdnS (by rw [hnB, Y.stackName]; decide)
  have bP := Cond.laysApart hdB hdP hdnB hdnP (by rw [hnB, Y.suppName]; decide)
  have hskip : SkipFacts T e.platform s (fun u => u) u0 ((preparedCellV T.toThrowableT (freshCell P1.m.cls kX) a u0 sen).withEntry W.cur) :=
    ⟨{ ci198 := ci198, i198 := i198, fBack := fB }, ⟨hk198, hg198, ha198, hsB⟩, by
      have := fresh_default (c := P1.m.cls) tyB
      rw [htB] at this
      simpa [preparedCellV, Cell.setSlot, Cell.withEntry, Array.getElem?_setIfInBounds, bC, bS, bP, bC.symm, bS.symm, bP.symm, defaultValue] using this, fun _ _ => rfl⟩
                                     
  obtain ⟨tm, methC, cdC, kC, vm₁, hnC, -, -, -, -, -, -, -, hW₁, st1⟩ := Steps.initColdS (tb := p.tables) (e := e) (below := below) (s := s) (U := W) X.here hexec X.warmed hpl hown (t := Bundle.initS cls) rfl rfl (Bundle.fit_spec hcls).2
    (a' (.methodLink own ic (Bundle.initS cls)) (by simp [tw_all])) (h (.instanceMethod (Bundle.initS cls)) (by simp [tw_all, Bundle.passSAtoms])) (bytes := b9) (maxL := 2) (h (.code (Bundle.initS cls) b9 2 none) (by simp [tw_all, Bundle.passSAtoms]))
    (f := g) hg (a := a) (msg := msg) (rest := .ref a :: rest) hstack hd6
  cases Option.some.inj (hnC.symm.trans hP1m)
  have X₁ := X.noted hW₁
                                 
  obtain ⟨vm₂, X₂, st2⟩ := X₁.ctorMessageOffV hexec (g := { g with stack := .ref a :: rest }) hg hsize T L Z LZ M LM (P1 :: P2 :: Ps)
    (fun P hP => by rcases List.mem_cons.mp hP with rfl | hP; exact L1; rcases List.mem_cons.mp hP with rfl | hP; exact L2; exact hL P hP) ⟨hlink1, hlink2, hlink⟩ (u0 := u0) (sen := sen) (self := a) hmsg (cell := freshCell P1.m.cls kX) (cellS := cellS)
    hcell (fun _ => by simp) (by simp) rfl rfl hsel0 hselF hcellS hneS hknownS (by rw [hkeep _ (hout' _)]; exact hu0) (by rw [hkeep _ (hout' _)]; exact hsen)
    (Takes.of_laid hk hord tyC (by rw [Y.causeType]; rfl)) (Takes.of_laid hk hord tyS (by rw [Y.stackType]; exact fits_refV_array _ u0)) (Takes.of_laid hk hord tyP (by rw [Y.suppType]; exact fits_refV_object _ sen))
    (Takes.of_laid hk hord tyM (by rw [Y.msgType]; exact fits_refV_object _ ⟨msg, hmsg⟩)) Y.objLocals hskip htr [] hd6
    (by simp only [List.length_cons, hlen]; omega) (by simp only [List.length_cons, hlen]; exact hRlocals)
                                    
  obtain ⟨hwalk, hrun, hended, hWU, hsame⟩ := X₂.athrowLeaves hexec (g := { g with stack := .ref a :: rest, pc := g.pc + 3 }) hg hlocked hentered hout (a := a) (rest := rest) rfl hd9
  have hlt : a < ((W.setVm vm₁).setVm vm₂).heap.size := (Array.getElem?_eq_some_iff.mp hcell).1
  have hU := heapAt_setCell_self (s := (W.setVm vm₁).setVm vm₂) (plainBareV T.toThrowableT (freshCell P1.m.cls kX) a u0 sen msg) hlt
  refine ⟨_, st1 _ (fun acts => ?_), hrun, hended, hWU, hsame.weaken (fun y hy hlt' => ?_) (Nat.le_refl _) (Nat.le_refl _), _, hU, ?_⟩
  · rw [doInvoke_state]
    exact st2 _ hwalk
  · rcases List.mem_append.mp hy with h1 | h1
    · exact h1
    · exfalso
      have hb : y.base = a := by
        simp only [List.mem_cons, List.not_mem_nil, or_false] at h1
        rcases h1 with rfl | rfl | rfl | rfl | rfl <;> rfl
      rw [hb] at hlt'
      exact Nat.not_lt.mpr hnew hlt'
  · exact ⟨rfl, hfound⟩
end TW
end
section
section TW2
variable {p : Program} {l : Launch} {e : Env} {R : Room} {s : State} {m : MethodId} {args : Array Value} {below : List Frame} {meth : Method} {c : Code} {H : Heap} {locs : List Loc} {cells slots : Nat} {Q : State → Prop}
variable {mc ms : Nat} {free : Addr → Prop} {A0 A1 : Nat → Prop} {H0 : Heap} {a : Array Value} {ls : Array Slot} {st0 rest : List Value}
variable {Qc : Array Value → State → Outcome → State → Prop} {XC : String → State → State → Prop}
set_option maxHeartbeats 4000000 in
theorem tw_throwS {cc : ByteArray} {pc : Nat} (hexec : p.tables.exec = Jvm.exec) (hb : c.code = cc) (hl : l.stackTraces = false) {own cls Y9 text : String} {names : List String} {ik is ic mc ms sa i9 : Nat} {b9 : ByteArray} {A : Nat → Prop}
    (hown : s.vm.findClass own = some m.cls) (hcls : Bundle.fit cls = true) (hY9 : Bundle.fit Y9 = true) (hnames : ∀ n ∈ names, Bundle.fit n = true) (z0 : decode b9 0 = .ok (.aload_n 0, 1)) (z1 : decode b9 1 = .ok (.aload_n 1, 1)) (z2 : decode b9 2 = .ok (.invokespecial i9, 3)) (z5 : decode b9 5 = .ok (.return_, 1))
    (hk : (Cond.classLink own ik cls).before args s = true) (hini : (Cond.initialized cls).before args s = true) (hstr : vk_R own is text sa s) (hat : ∀ w ∈ tw_tab own ic cls Y9 names i9 b9, w.before args s = true)
    (hgood : ∀ w ∈ Cond.classLink own ik cls :: Cond.initialized cls :: tw_tab own ic cls Y9 names i9 b9, vx_ot w = true)
    (hU : vx_Zq Bundle.tN "UNASSIGNED_STACK" Bundle.steD A s s.heap) (hN : vx_Zq Bundle.tN "SUPPRESSED_SENTINEL" Bundle.listD A s s.heap) (hS : va_S A s.heap H locs) (hsize : ls.size = c.maxLocals)
    (d0 : decode cc pc = .ok (.new ik, 3)) (d3 : decode cc (pc + 3) = .ok (.dup, 1)) (d4 : decode cc (pc + 4) = .ok (.ldc is, 2)) (d6 : decode cc (pc + 6) = .ok (.invokespecial ic, 3)) (d9 : decode cc (pc + 9) = .ok (.athrow, 1))
    (hout : ∀ x ∈ c.exceptionTable.toList, covers x (pc + 9) = false)
    (hRframes : names.length + 4 < R.frames) (hRlocals : (rest.map fun v => v.category).sum + (13 * (names.length + 2) + 43) ≤ R.locals) (hRcells : cells + 1 ≤ R.cells) (hRslots : slots + 6 ≤ R.slots) (hlocks : meth.locks = false)
    (hx : ∀ t : State, s.vm.Alike t.vm → H.size ≤ t.heap.size → (∀ q : Nat, q < H.size → t.heap[q]? = H[q]?) → XC cls s t)
    (hf : ∀ z ∈ locs, free z.base) (hc : cells + 1 ≤ mc) (hs : slots + 6 ≤ ms) :
    W p l e R s m args below meth c H locs cells slots (vx_MQ below Qc XC args s mc ms free) (F0 m pc ls rest) := by
  intro T hT X
  have htr : e.platform.stackTraces = false := (show e.platform.stackTraces = l.stackTraces by rw [X.admits.platform]).trans hl
  have Y := vx_rebase X (R' := { frames := R.frames, locals := R.locals, cells := 1, slots := 6 }) (Nat.le_refl _) (Nat.le_refl _) hRcells hRslots
  obtain ⟨s', hA⟩ : ∃ z, z = (T.setVm s.vm).setFrames (.invoking m args :: below) := ⟨_, rfl⟩
  rw [← hA] at Y
  have hvm : s'.vm = s.vm := by rw [hA]; rfl
  have hhp : s'.heap = H := by rw [hA]; exact hT
  have hW0 : s.WarmedH s'.vm := by rw [hvm]; exact State.WarmedH.refl s
  have hat' : ∀ w ∈ tw_tab own ic cls Y9 names i9 b9, w.before args s' = true := fun w hw => vx_ot_at hW0 hvm.symm (hgood w (List.mem_cons_of_mem _ (List.mem_cons_of_mem _ hw))) (hat w hw)
  have hk' : (Cond.classLink own ik cls).before args s' = true := vx_ot_at hW0 hvm.symm (hgood _ List.mem_cons_self) hk
  have hini' : (Cond.initialized cls).before args s' = true := vx_ot_at hW0 hvm.symm (hgood _ (List.mem_cons_of_mem _ List.mem_cons_self)) hini
  have hU' : vx_Zq Bundle.tN "UNASSIGNED_STACK" Bundle.steD A s' s'.heap := by rw [hhp]; exact vx_Zq.moved hW0.alike (hU.kept hS.2.1)
  have hN' : vx_Zq Bundle.tN "SUPPRESSED_SENTINEL" Bundle.listD A s' s'.heap := by rw [hhp]; exact vx_Zq.moved hW0.alike (hN.kept hS.2.1)
  have h : ∀ w ∈ tw_all own ic cls Y9 names i9 b9, w.before args s' = true := tw_own hat' (vx_isRefq hU'.1) (vx_isRefq hN'.1) hU'.2.word hN'.2.word
  have hown' : s'.vm.findClass own = some m.cls := by rw [hvm]; exact hown
  have hins : (Cond.instantiable cls 6).before args s' = true := h _ (by simp [tw_all])
  obtain ⟨vm₁, cX, kX, hfX, hkX, -, -, X₁, st1⟩ := Y.newCold hexec (own := own) (C := cls) (index := ik) (n := 6) hown' hk' hins hini'
    (g := F0 m pc ls rest) rfl (by rw [hb]; exact d0) (Nat.le_refl _) (Nat.le_refl _)
  generalize hT1 : (T.setVm vm₁).pushCell { cls := cX, slots := kX.instanceTypes.map defaultValue, vm := .none } = T1 at X₁ st1
  have hcat : (Value.ref T.heap.size).category = 1 := rfl
  have hcellA : T1.heap[T.heap.size]? = some (freshCell cX kX) := by rw [← hT1]; exact State.heap_pushCell_size _ _
  have d3' : decode c.code (pc + 3) = .ok (.dup, 1) := by rw [hb]; exact d3
  have d4' : decode c.code (pc + 4) = .ok (.ldc is, 2) := by rw [hb]; exact d4
  have hstr' : vk_R own is text sa s' := vk_R.warm hW0 hstr
  obtain ⟨U, hsteps, hrun, hend, hW, hsame, ce, hce, hOv, hOc⟩ := tw_ctorS X₁ hexec htr (own := own) (cls := cls) (names := names) (ic := ic) z0 z1 z2 z5 hown' hcls hY9 hnames h (fun x hx => nomatch hx) hfX hkX hcellA (by rw [hhp, hT]; exact Nat.le_refl _) (msg := .ref sa) rfl
    (g := { method := m, pc := pc + 6, locals := ls, stack := .ref sa :: .ref T.heap.size :: .ref T.heap.size :: rest, locked := none }) rfl hsize rfl rfl (rest := rest) rfl
    (by rw [hb]; exact d6) (by rw [hb]; exact d9) hout hRframes (by simp only [List.map_cons, List.sum_cons, hcat]; omega) hlocks
  obtain ⟨f1, f2⟩ := vx_frame hsame
  rw [hhp] at f1 f2
  have hWs : s.WarmedH U.vm := State.WarmedH.trans hW0 hW
  have hcl : s.vm.findClass cls = some ce.cls := by
    have h9 := hOc
    rw [hvm] at h9
    exact h9
  have hall : s.sameButNew ({ U with vm := s.vm } : State) locs mc ms := by
    subst hA
    obtain ⟨e1, e2⟩ := hsame
    rw [State.setFrames_setFrames] at e1
    have h2 : (T.setVm s.vm).sameButNew ({ U with vm := s.vm } : State) [] (0 + 1) (0 + 6) := ⟨e1, e2⟩
    have h3 := X.same.trans h2
    rw [List.append_nil] at h3
    exact h3.mono hc hs
  refine ⟨U, ?_, .threw T.heap.size, hrun, hend, Or.inr ⟨T.heap.size, rfl, cls, ce, locs, hx U hWs.alike f1 (fun q hq => f2 q hq (fun z hz => nomatch hz)), hce, hOv, hcl, hWs, hall, hf⟩⟩
  refine st1 _ ?_
  show Steps p.tables e below (T1.setTop { method := m, pc := pc + 3, locals := ls, stack := .ref T.heap.size :: rest, locked := none }) _
  jvm_step X₁.here [X₁.here.top, hexec, d3', Value.category]
  exact X₁.ldcString hexec (own := own) (text := text) (index := is) (a := sa) hown' hstr'.1 hstr'.2
    (g := { method := m, pc := pc + 4, locals := ls, stack := .ref T.heap.size :: .ref T.heap.size :: rest, locked := none }) rfl d4' _ hsteps
end TW2
abbrev tw_NS : List Cond := tw_tab "TextureBank" 56 "java/util/NoSuchElementException" "java/lang/RuntimeException" ["java/lang/Exception"] 13 prog_13_method_4_code
abbrev tw_IA : List Cond := tw_tab "TextureBank" 65 "java/lang/IllegalArgumentException" "java/lang/RuntimeException" ["java/lang/Exception"] 7 prog_6_method_2_code
theorem tw_ns_in : ∀ w ∈ tw_NS, w ∈ lw_tbl := by decide +kernel
theorem tw_ia_in : ∀ w ∈ tw_IA, w ∈ lw_tbl := by decide +kernel
theorem tw_ns_ok : ∀ w ∈ Cond.classLink "TextureBank" 52 "java/util/NoSuchElementException" :: Cond.initialized "java/util/NoSuchElementException" :: tw_NS, vx_ot w = true := by decide +kernel
theorem tw_ia_ok : ∀ w ∈ Cond.classLink "TextureBank" 61 "java/lang/IllegalArgumentException" :: Cond.initialized "java/lang/IllegalArgumentException" :: tw_IA, vx_ot w = true := by decide +kernel
theorem tw_ns_0 : decode prog_13_method_4_code 0 = .ok (.aload_n 0, 1) := by decide +kernel
theorem tw_ns_1 : decode prog_13_method_4_code 1 = .ok (.aload_n 1, 1) := by decide +kernel
theorem tw_ns_2 : decode prog_13_method_4_code 2 = .ok (.invokespecial 13, 3) := by decide +kernel
theorem tw_ns_5 : decode prog_13_method_4_code 5 = .ok (.return_, 1) := by decide +kernel
theorem tw_ia_0 : decode prog_6_method_2_code 0 = .ok (.aload_n 0, 1) := by decide +kernel
theorem tw_ia_1 : decode prog_6_method_2_code 1 = .ok (.aload_n 1, 1) := by decide +kernel
theorem tw_ia_2 : decode prog_6_method_2_code 2 = .ok (.invokespecial 7, 3) := by decide +kernel
theorem tw_ia_5 : decode prog_6_method_2_code 5 = .ok (.return_, 1) := by decide +kernel
end
section
/-- what a throw, and its catching, want of the tables beside the good words -/
def tbTx (U : State) : Prop :=
  va_Nw (.declares ⟨"java/lang/RuntimeException", "<init>", "(Ljava/lang/String;)V"⟩) U ∧
  va_Nw (.declares ⟨"java/lang/Exception", "<init>", "(Ljava/lang/String;)V"⟩) U ∧
  va_Nw (.declares ⟨"java/lang/Throwable", "<init>", "(Ljava/lang/String;)V"⟩) U ∧
  va_Nw (.castable "java/util/NoSuchElementException" "java/util/NoSuchElementException") U ∧
  va_Nw (.castable "java/lang/IllegalArgumentException" "java/lang/IllegalArgumentException") U ∧
  (∃ a, vk_R "TextureBank" 54 "no such texture" a U) ∧
  (∃ a, vk_R "TextureBank" 63 "spread is not 0 .. 2^40" a U) ∧
  (∃ a, vk_R "TextureBank" 67 "area is not 1 .. 2^24" a U) ∧
  (∃ a, vk_R "TextureBank" 76 "no such texture or level" a U) ∧
  (∃ a, vk_R "TextureBank" 81 "a place is not -16777216 .. 16777216" a U) ∧
  (∃ a, vk_R "TextureBank" 94 "no such texel" a U) ∧
  (∃ a, vk_R "TextureBank" 99 "no colour" a U) ∧
  (∃ a, vk_R "TextureBank" 103 "light is not 0 .. 65536" a U)
theorem tbTx.warm {s U : State} (hW : s.WarmedH U.vm) (h : tbTx s) : tbTx U := by
  obtain ⟨h1, h2, h3, h4, h5, ⟨a6, h6⟩, ⟨a7, h7⟩, ⟨a8, h8⟩, ⟨a9, h9⟩, ⟨a10, h10⟩, ⟨a11, h11⟩, ⟨a12, h12⟩, ⟨a13, h13⟩⟩ := h
  exact ⟨va_Nw.warmD hW h1, va_Nw.warmD hW h2, va_Nw.warmD hW h3, va_Nw.warmC hW h4, va_Nw.warmC hW h5, ⟨a6, vk_R.warm hW h6⟩, ⟨a7, vk_R.warm hW h7⟩, ⟨a8, vk_R.warm hW h8⟩, ⟨a9, vk_R.warm hW h9⟩, ⟨a10, vk_R.warm hW h10⟩, ⟨a11, vk_R.warm hW h11⟩, ⟨a12, vk_R.warm hW h12⟩, ⟨a13, vk_R.warm hW h13⟩⟩
theorem tbTx.same {u U : State} (e : u.vm = U.vm) (h : tbTx u) : tbTx U := by
  obtain ⟨h1, h2, h3, h4, h5, ⟨a6, h6⟩, ⟨a7, h7⟩, ⟨a8, h8⟩, ⟨a9, h9⟩, ⟨a10, h10⟩, ⟨a11, h11⟩, ⟨a12, h12⟩, ⟨a13, h13⟩⟩ := h
  exact ⟨va_Nw.same rfl e h1, va_Nw.same rfl e h2, va_Nw.same rfl e h3, va_Nw.same rfl e h4, va_Nw.same rfl e h5, ⟨a6, vk_R.same e.symm h6⟩, ⟨a7, vk_R.same e.symm h7⟩, ⟨a8, vk_R.same e.symm h8⟩, ⟨a9, vk_R.same e.symm h9⟩, ⟨a10, vk_R.same e.symm h10⟩, ⟨a11, vk_R.same e.symm h11⟩, ⟨a12, vk_R.same e.symm h12⟩, ⟨a13, vk_R.same e.symm h13⟩⟩
/-- where Throwable's two statics lie: none of them is a new cell -/
def tbZ (U : State) (H : Heap) : Prop := vx_Zq Bundle.tN "UNASSIGNED_STACK" Bundle.steD (fun q => H.size ≤ q) U H ∧ vx_Zq Bundle.tN "SUPPRESSED_SENTINEL" Bundle.listD (fun q => H.size ≤ q) U H
def tw_B : List Cond := [.declares ⟨"java/lang/RuntimeException", "<init>", "(Ljava/lang/String;)V"⟩, .declares ⟨"java/lang/Exception", "<init>", "(Ljava/lang/String;)V"⟩, .declares ⟨"java/lang/Throwable", "<init>", "(Ljava/lang/String;)V"⟩, .castable "java/util/NoSuchElementException" "java/util/NoSuchElementException", .castable "java/lang/IllegalArgumentException" "java/lang/IllegalArgumentException"]
theorem tw_ns_bad : ∀ w ∈ tw_NS.filter (fun w => !goodWord w), w ∈ tw_B := by decide +kernel
theorem tw_ia_bad : ∀ w ∈ tw_IA.filter (fun w => !goodWord w), w ∈ tw_B := by decide +kernel
theorem tw_Bs {s : State} {args : Array Value} (h : tbTx s) : ∀ w ∈ tw_B, w.before args s = true := by
  obtain ⟨h1, h2, h3, h4, h5, -⟩ := h
  exact vx_c (va_Nw.use rfl h1) (vx_c (va_Nw.use rfl h2) (vx_c (va_Nw.use rfl h3) (vx_c (va_Nw.use rfl h4) (vx_c (va_Nw.use rfl h5) vx_n))))
theorem tw_nsat {s : State} {args : Array Value} (hB : ∀ w ∈ tbB, w.before args s = true) (h : tbTx s) : ∀ w ∈ tw_NS, w.before args s = true :=
  vx_hat (fun w hw => hB w (tbB_in (tw_ns_in w (List.mem_filter.mp hw).1) (List.mem_filter.mp hw).2)) tw_ns_bad (tw_Bs h)
theorem tw_iaat {s : State} {args : Array Value} (hB : ∀ w ∈ tbB, w.before args s = true) (h : tbTx s) : ∀ w ∈ tw_IA, w.before args s = true :=
  vx_hat (fun w hw => hB w (tbB_in (tw_ia_in w (List.mem_filter.mp hw).1) (List.mem_filter.mp hw).2)) tw_ia_bad (tw_Bs h)
/-- a throwing method's start -/
def th_P (av : List Value) (D : va_G) (tys : List (ClassId × FieldType)) (w : va_W) : Array Value → State → Prop := fun v U => v = av.toArray ∧ tbCx U ∧ va_P D tbCl w U.heap ∧ va_K D tbCl tys U ∧ tbTx U ∧ tbZ U U.heap
theorem tbZ.moved {u U : State} {H : Heap} (hvm : u.vm.Alike U.vm) (h : tbZ u H) : tbZ U H := ⟨vx_Zq.moved hvm h.1, vx_Zq.moved hvm h.2⟩
theorem tw_znew1 {C n d : String} {v : Value} {A : Nat → Prop} {U : State} {H : Heap} (h : va_Z C n d v A U H) : va_Z C n d v (fun q => H.size ≤ q) U H := by
  obtain ⟨cf, kf, fi, f, a, cell, h1, h2, h3, h4, h5, h6, h7, -⟩ := h
  exact ⟨cf, kf, fi, f, a, cell, h1, h2, h3, h4, h5, h6, h7, Nat.not_le.mpr (Array.getElem?_eq_some_iff.mp h5).1⟩
theorem tw_znew2 {C n d : String} {A : Nat → Prop} {U : State} {H : Heap} (h : vx_L C n d A U H) : vx_L C n d (fun q => H.size ≤ q) U H := by
  obtain ⟨c9, k9, i9, f9, a9, cell9, g1, g2, g3, g4, g5, g6, g7, g8, g9, -⟩ := h
  exact ⟨c9, k9, i9, f9, a9, cell9, g1, g2, g3, g4, g5, g6, g7, g8, g9, Nat.not_le.mpr (Array.getElem?_eq_some_iff.mp g5).1⟩
theorem tw_znew {C n d : String} {A : Nat → Prop} {U : State} {H : Heap} (h : vx_Zq C n d A U H) : vx_Zq C n d (fun q => H.size ≤ q) U H :=
  ⟨h.1.elim (fun h => Or.inl (tw_znew1 h)) (fun ⟨t, h⟩ => Or.inr ⟨t, tw_znew1 h⟩), tw_znew2 h.2⟩
theorem tbZ.of {A : Nat → Prop} {U : State} {H : Heap} (h1 : vx_Zq Bundle.tN "UNASSIGNED_STACK" Bundle.steD A U H) (h2 : vx_Zq Bundle.tN "SUPPRESSED_SENTINEL" Bundle.listD A U H) : tbZ U H := ⟨tw_znew h1, tw_znew h2⟩
theorem th_B {av : List Value} {D : va_G} {tys : List (ClassId × FieldType)} {w : va_W} : FrameBlind (th_P av D tys w) := fun a U g mk q => ⟨q.1, tbCx.same (u := U) rfl q.2.1, q.2.2.1, va_K.moved (u := U) (U := U.calling g mk a) (Vm.Alike.refl U.vm) q.2.2.2.1, tbTx.same (u := U) rfl q.2.2.2.2.1, tbZ.moved (u := U) (U := U.calling g mk a) (Vm.Alike.refl U.vm) q.2.2.2.2.2⟩
theorem th_V {s : State} {H : Heap} {C : String} {b : Nat} {As : List Value} {D : va_G} {tys : List (ClassId × FieldType)} {w : va_W} (hC : tbCx s) (hP : va_P D tbCl w H) (hK : va_K D tbCl tys s) (hT : tbTx s) (hZ : tbZ s H) (hr : ∃ cellB : Cell, H[b]? = some cellB ∧ cellB.vm.isStatics = false ∧ s.vm.findClass C = some cellB.cls) : PreV s H C b (th_P (.ref b :: As) D tys w) As := ⟨th_B, hr, fun U hU hW => ⟨rfl, hC.warm hW, by rw [hU]; exact hP, va_K.moved hW.alike hK, hT.warm hW, by rw [hU]; exact hZ.moved hW.alike⟩⟩
/-- E is thrown, and nothing that was there has changed -/
abbrev th_X (E : String) : String → State → State → Prop := vx_X (fun _ : Unit => True) (fun E' _ _ => E' = E) (fun _ => False)
abbrev th_Q : Array Value → State → Outcome → State → Prop := va_Qi (fun (_ : Int32) (_ : Unit) => False) (fun _ _ => True) (fun _ => False)
end
section
set_option maxHeartbeats 4000000 in
set_option maxRecDepth 100000 in
theorem kB_level_none (l : Launch) (hl9 : l.stackTraces = false) (D : va_G) (cI cT : ClassId) (x0 tx ta : Nat) (n c9 : Int32) (t9 : Int32) (hno : t9 < 0 ∨ c9 ≤ t9) (sp : Int64) (ar : Int32) : vx_Met l yB_level wB_level ({ frames := 6, cells := 1, slots := 6, locals := 90 }) (th_P [.ref x0, .int t9, .long sp, .int ar] D [(cI, .int), (cT, .object "TextureBank$Texture")] [(x0, .inr (1, [.ref tx, .int n, .ref ta, .int c9]))]) th_Q (th_X "java/util/NoSuchElementException") 1 6 (fun _ => False) := by
  refine vx_ofW (cc := cB_level) (maxL := 6) (ret := (some .int)) (by decide) rfl ?_
  intro p e s m args below meth c s₁ B hml hno9 hv
  obtain ⟨rfl, hC, hP, hK, hT, hZ⟩ := hv
  have hx := B.exec
  have hb := B.bytes
  have hr := B.returns
  have hB : ∀ w ∈ tbB, w.before _ s = true := fun w h => (atoms_spec (ws := wB_level) B.pre) w (List.mem_cons_of_mem _ h)
  have hown : s.vm.findClass "TextureBank" = some m.cls := findClass_of_methodNamed B.named
  have hlocks := B.notSynchronized
  have hl := lv_entry ([.ref x0, .int t9, .long sp, .int ar]) (n := 6) (Nat.le_of_ble_eq_true rfl)
  rw [lg_entry_eq]
  generalize (lg_sl ([.ref x0, .int t9, .long sp, .int ar]) ++ List.replicate (6 - (lg_sl ([.ref x0, .int t9, .long sp, .int ar])).length) Slot.unset).toArray = ls at hl ⊢
  have hl : lv_has ls 6 [(0, .ref x0), (1, .int t9), (2, .long sp), (4, .int ar)] := hl
  refine lv_aload_n hx hb dB_level_0 rfl (lv_at hl 0 rfl) ?_
  refine lv_iload_n hx hb dB_level_1 rfl (lv_at hl 1 rfl) ?_
  refine W.callV (W.runV (C := "TextureBank") (As := [.int t9]) (rest := []) ⟨hx, hb, hml, hown, hB⟩ (kB_find_none l D cI cT x0 tx ta n c9 t9 hno) ⟨callB_of 1 hB gwB_find rfl rfl rfl (hB _ wd_1) (hB _ wd_131) ydB_find ⟨Nat.le_of_ble_eq_true rfl, Nat.le_of_ble_eq_true rfl⟩, hB _ wd_133, hB _ ws_4⟩ (rd_V hC (hP.sub [0] rfl) (hK.sub [0, 1] rfl) (va_recv hK hP (ci := 1) (q0 := 0) rfl rfl)) rfl rfl hl.1 rfl (lv_room (Nat.le_of_ble_eq_true rfl)) dB_level_2 ⟨Nat.zero_le _, Nat.zero_le _⟩) ?_
  refine W.eq (g2 := F0 m 5 ls [.null]) rfl ?_
  refine lv_astoreN (lv' := [(5, .null), (0, .ref x0), (1, .int t9), (2, .long sp), (4, .int ar)]) hx hb dB_level_5 hl (by decide) rfl (fun ls hl => ?_)
  refine lv_aloadN hx hb dB_level_7 (lv_at hl 0 rfl) ?_
  refine lv_ifnonnullN hx hb dB_level_9 ?_
  obtain ⟨sa9, hsa9⟩ := hT.2.2.2.2.2.1
  exact tw_throwS (names := ["java/lang/Exception"]) (Y9 := "java/lang/RuntimeException") hx hb hl9 hown (by decide +kernel) (by decide +kernel) (by decide +kernel) tw_ns_0 tw_ns_1 tw_ns_2 tw_ns_5 (hB _ wd_148) (hB _ wd_10) hsa9 (tw_nsat hB hT) tw_ns_ok hZ.1 hZ.2 va_S.rf (by rw [hml]; exact hl.1) dB_level_12 dB_level_15 dB_level_16 dB_level_18 dB_level_21 (fun x9 h9 => (hno9 x9 h9).elim) (Nat.le_of_ble_eq_true rfl) (Nat.le_of_ble_eq_true rfl) (Nat.le_of_ble_eq_true rfl) (Nat.le_of_ble_eq_true rfl) hlocks (fun t h1 h2 h3 => ⟨(), trivial, rfl, h2, fun q hq _ => h3 q hq⟩) (fun q hq => nomatch hq) (Nat.le_refl _) (Nat.le_refl _)

set_option maxHeartbeats 4000000 in
set_option maxRecDepth 100000 in
theorem kB_level_bad (l : Launch) (hl9 : l.stackTraces = false) (D : va_G) (cI cT : ClassId) (x0 tx ta : Nat) (n : Int32) (cN : Nat) (tq cq : Nat → Nat) (j : Nat) (hcN : cN ≤ 8) (hj : j < cN) (sd wr sf lv : Int32) (g : Nat → Int32) (sp : Int64) (ar : Int32) (hbad : sp < 0 ∨ ¬ sp ≤ 1099511627776 ∨ ar < 1 ∨ ¬ ar ≤ 16777216) : vx_Met l yB_level wB_level ({ frames := 6, cells := 1, slots := 6, locals := 90 }) (th_P [.ref x0, .int (nI j), .long sp, .int ar] D [(cI, .int), (cT, .object "TextureBank$Texture")] [(x0, .inr (1, [.ref tx, .int n, .ref ta, .int (nI cN)])), (ta, .inl (cT, 8, .inr (.inr (.inr (.inr (fun j => some (tq j))))))), (tq j, .inr (0, [.ref (cq j), .int sd, .int wr, .int sf, .int lv])), (cq j, .inl (cI, 1365, .inl g))]) th_Q (th_X "java/lang/IllegalArgumentException") 1 6 (fun _ => False) := by
  refine vx_ofW (cc := cB_level) (maxL := 6) (ret := (some .int)) (by decide) rfl ?_
  intro p e s m args below meth c s₁ B hml hno9 hv
  obtain ⟨rfl, hC, hP, hK, hT, hZ⟩ := hv
  have hx := B.exec
  have hb := B.bytes
  have hr := B.returns
  have hB : ∀ w ∈ tbB, w.before _ s = true := fun w h => (atoms_spec (ws := wB_level) B.pre) w (List.mem_cons_of_mem _ h)
  have hown : s.vm.findClass "TextureBank" = some m.cls := findClass_of_methodNamed B.named
  have hlocks := B.notSynchronized
  have hl := lv_entry ([.ref x0, .int (nI j), .long sp, .int ar]) (n := 6) (Nat.le_of_ble_eq_true rfl)
  rw [lg_entry_eq]
  generalize (lg_sl ([.ref x0, .int (nI j), .long sp, .int ar]) ++ List.replicate (6 - (lg_sl ([.ref x0, .int (nI j), .long sp, .int ar])).length) Slot.unset).toArray = ls at hl ⊢
  have hl : lv_has ls 6 [(0, .ref x0), (1, .int (nI j)), (2, .long sp), (4, .int ar)] := hl
  refine lv_aload_n hx hb dB_level_0 rfl (lv_at hl 0 rfl) ?_
  refine lv_iload_n hx hb dB_level_1 rfl (lv_at hl 1 rfl) ?_
  refine W.callV (W.runV (C := "TextureBank") (As := [.int (nI j)]) (rest := []) ⟨hx, hb, hml, hown, hB⟩ (kB_find_some l D cI cT x0 tx ta n cN tq j hcN hj) ⟨callB_of 1 hB gwB_find rfl rfl rfl (hB _ wd_1) (hB _ wd_131) ydB_find ⟨Nat.le_of_ble_eq_true rfl, Nat.le_of_ble_eq_true rfl⟩, hB _ wd_133, hB _ ws_4⟩ (rd_V hC (hP.sub [0, 1] rfl) (hK.sub [0, 1] rfl) (va_recv hK hP (ci := 1) (q0 := 0) rfl rfl)) rfl rfl hl.1 rfl (lv_room (Nat.le_of_ble_eq_true rfl)) dB_level_2 ⟨Nat.zero_le _, Nat.zero_le _⟩) ?_
  refine W.eq (g2 := F0 m 5 ls [.ref (tq j)]) rfl ?_
  refine lv_astore (lv' := [(5, .ref (tq j)), (0, .ref x0), (1, .int (nI j)), (2, .long sp), (4, .int ar)]) hx hb dB_level_5 hl (by decide) rfl (fun ls hl => ?_)
  refine lv_aload hx hb dB_level_7 (lv_at hl 0 rfl) ?_
  refine lv_ifnonnull (tgt := 22) hx hb dB_level_9 (by decide) ?_
  refine lv_lload_n hx hb dB_level_22 rfl (lv_at hl 3 rfl) ?_
  refine lv_lconst (v := 0) hx hb dB_level_23 (by decide) ?_
  refine W.lcmp hx hb dB_level_24 ?_
  refine lv_if_lt (tgt := 36) hx hb dB_level_25 (by decide) (fun c_1 => ?_) (fun c_1 => ?_)
  · obtain ⟨sa9, hsa9⟩ := hT.2.2.2.2.2.2.1
    exact tw_throwS (names := ["java/lang/Exception"]) (Y9 := "java/lang/RuntimeException") hx hb hl9 hown (by decide +kernel) (by decide +kernel) (by decide +kernel) tw_ia_0 tw_ia_1 tw_ia_2 tw_ia_5 (hB _ wd_216) (hB _ wd_11) hsa9 (tw_iaat hB hT) tw_ia_ok hZ.1 hZ.2 va_S.rf (by rw [hml]; exact hl.1) dB_level_36 dB_level_39 dB_level_40 dB_level_42 dB_level_45 (fun x9 h9 => (hno9 x9 h9).elim) (Nat.le_of_ble_eq_true rfl) (Nat.le_of_ble_eq_true rfl) (Nat.le_of_ble_eq_true rfl) (Nat.le_of_ble_eq_true rfl) hlocks (fun t h1 h2 h3 => ⟨(), trivial, rfl, h2, fun q hq _ => h3 q hq⟩) (fun q hq => nomatch hq) (Nat.le_refl _) (Nat.le_refl _)
  · refine lv_lload_n hx hb dB_level_28 rfl (lv_at hl 3 rfl) ?_
    refine lv_ldc2 (v := 1099511627776) hx hb hown (hB _ wd_215) dB_level_29 ?_
    refine W.lcmp hx hb dB_level_32 ?_
    refine lv_if_le (tgt := 46) hx hb dB_level_33 (by decide) (fun c_2 => ?_) (fun c_2 => ?_)
    · refine lv_iload hx hb dB_level_46 (lv_at hl 4 rfl) ?_
      refine lv_iconst (v := 1) hx hb dB_level_48 (by decide) ?_
      refine lv_icmp_lt (tgt := 59) hx hb dB_level_49 (by decide) (fun c_3 => ?_) (fun c_3 => ?_)
      · obtain ⟨sa9, hsa9⟩ := hT.2.2.2.2.2.2.2.1
        exact tw_throwS (names := ["java/lang/Exception"]) (Y9 := "java/lang/RuntimeException") hx hb hl9 hown (by decide +kernel) (by decide +kernel) (by decide +kernel) tw_ia_0 tw_ia_1 tw_ia_2 tw_ia_5 (hB _ wd_216) (hB _ wd_11) hsa9 (tw_iaat hB hT) tw_ia_ok hZ.1 hZ.2 va_S.rf (by rw [hml]; exact hl.1) dB_level_59 dB_level_62 dB_level_63 dB_level_65 dB_level_68 (fun x9 h9 => (hno9 x9 h9).elim) (Nat.le_of_ble_eq_true rfl) (Nat.le_of_ble_eq_true rfl) (Nat.le_of_ble_eq_true rfl) (Nat.le_of_ble_eq_true rfl) hlocks (fun t h1 h2 h3 => ⟨(), trivial, rfl, h2, fun q hq _ => h3 q hq⟩) (fun q hq => nomatch hq) (Nat.le_refl _) (Nat.le_refl _)
      · refine lv_iload hx hb dB_level_52 (lv_at hl 4 rfl) ?_
        refine lv_ldc (v := 16777216) hx hb hown (hB _ wd_232) dB_level_54 ?_
        refine lv_icmp_le (tgt := 69) hx hb dB_level_56 (by decide) (fun c_4 => ?_) (fun c_4 => ?_)
        · exact absurd c_4 (hbad.elim (fun h => absurd h (fun h9 => c_1 ((lg_cmp_lt _ _).mpr h9))) (fun h => h.elim (fun h => absurd ((lg_cmp_le _ _).mp c_2) h) (fun h => h.elim (fun h => absurd h c_3) id)))
        · obtain ⟨sa9, hsa9⟩ := hT.2.2.2.2.2.2.2.1
          exact tw_throwS (names := ["java/lang/Exception"]) (Y9 := "java/lang/RuntimeException") hx hb hl9 hown (by decide +kernel) (by decide +kernel) (by decide +kernel) tw_ia_0 tw_ia_1 tw_ia_2 tw_ia_5 (hB _ wd_216) (hB _ wd_11) hsa9 (tw_iaat hB hT) tw_ia_ok hZ.1 hZ.2 va_S.rf (by rw [hml]; exact hl.1) dB_level_59 dB_level_62 dB_level_63 dB_level_65 dB_level_68 (fun x9 h9 => (hno9 x9 h9).elim) (Nat.le_of_ble_eq_true rfl) (Nat.le_of_ble_eq_true rfl) (Nat.le_of_ble_eq_true rfl) (Nat.le_of_ble_eq_true rfl) hlocks (fun t h1 h2 h3 => ⟨(), trivial, rfl, h2, fun q hq _ => h3 q hq⟩) (fun q hq => nomatch hq) (Nat.le_refl _) (Nat.le_refl _)
    · obtain ⟨sa9, hsa9⟩ := hT.2.2.2.2.2.2.1
      exact tw_throwS (names := ["java/lang/Exception"]) (Y9 := "java/lang/RuntimeException") hx hb hl9 hown (by decide +kernel) (by decide +kernel) (by decide +kernel) tw_ia_0 tw_ia_1 tw_ia_2 tw_ia_5 (hB _ wd_216) (hB _ wd_11) hsa9 (tw_iaat hB hT) tw_ia_ok hZ.1 hZ.2 va_S.rf (by rw [hml]; exact hl.1) dB_level_36 dB_level_39 dB_level_40 dB_level_42 dB_level_45 (fun x9 h9 => (hno9 x9 h9).elim) (Nat.le_of_ble_eq_true rfl) (Nat.le_of_ble_eq_true rfl) (Nat.le_of_ble_eq_true rfl) (Nat.le_of_ble_eq_true rfl) hlocks (fun t h1 h2 h3 => ⟨(), trivial, rfl, h2, fun q hq _ => h3 q hq⟩) (fun q hq => nomatch hq) (Nat.le_refl _) (Nat.le_refl _)

set_option maxHeartbeats 4000000 in
set_option maxRecDepth 100000 in
theorem kB_level_ok (l : Launch) (D : va_G) (cI cT : ClassId) (x0 tx ta : Nat) (n : Int32) (cN : Nat) (tq cq : Nat → Nat) (j : Nat) (hcN : cN ≤ 8) (hj : j < cN) (sd wr sf : Int32) (kk : Nat) (hkk : kk ≤ 6) (g : Nat → Int32) (sp : Int64) (ar : Int32) (h1 : ¬ sp < 0) (h2 : sp ≤ 1099511627776) (h3 : ¬ ar < 1) (h4 : ar ≤ 16777216) : Met l yB_level wB_level (k2_rm 1 30) (rd_P [.ref x0, .int (nI j), .long sp, .int ar] D [(cI, .int), (cT, .object "TextureBank$Texture")] [(x0, .inr (1, [.ref tx, .int n, .ref ta, .int (nI cN)])), (ta, .inl (cT, 8, .inr (.inr (.inr (.inr (fun j => some (tq j))))))), (tq j, .inr (0, [.ref (cq j), .int sd, .int wr, .int sf, .int (nI (kk + 1))])), (cq j, .inl (cI, 1365, .inl g))]) (k2_QcV (.int (tt_lf ((sp * sd.toInt64) * sd.toInt64) (nI kk) 8 (ar.toInt64 * 16777216) 0))) 0 0 (fun _ => False) := by
  refine Met.ofW (cc := cB_level) (maxL := 6) (ret := (some .int)) (by decide) rfl ?_
  intro p e s m args below meth c s₁ B hml hv
  obtain ⟨rfl, hC, hP, hK⟩ := hv
  have hx := B.exec
  have hb := B.bytes
  have hr := B.returns
  have hB : ∀ w ∈ tbB, w.before _ s = true := fun w h => (atoms_spec (ws := wB_level) B.pre) w (List.mem_cons_of_mem _ h)
  have hown : s.vm.findClass "TextureBank" = some m.cls := findClass_of_methodNamed B.named
  have hlocks := B.notSynchronized
  have hl := lv_entry ([.ref x0, .int (nI j), .long sp, .int ar]) (n := 6) (Nat.le_of_ble_eq_true rfl)
  rw [lg_entry_eq]
  generalize (lg_sl ([.ref x0, .int (nI j), .long sp, .int ar]) ++ List.replicate (6 - (lg_sl ([.ref x0, .int (nI j), .long sp, .int ar])).length) Slot.unset).toArray = ls at hl ⊢
  have hl : lv_has ls 6 [(0, .ref x0), (1, .int (nI j)), (2, .long sp), (4, .int ar)] := hl
  refine lv_aload_n hx hb dB_level_0 rfl (lv_at hl 0 rfl) ?_
  refine lv_iload_n hx hb dB_level_1 rfl (lv_at hl 1 rfl) ?_
  refine W.callV (W.runV (C := "TextureBank") (As := [.int (nI j)]) (rest := []) ⟨hx, hb, hml, hown, hB⟩ (kB_find_some l D cI cT x0 tx ta n cN tq j hcN hj) ⟨callB_of 1 hB gwB_find rfl rfl rfl (hB _ wd_1) (hB _ wd_131) ydB_find ⟨Nat.le_of_ble_eq_true rfl, Nat.le_of_ble_eq_true rfl⟩, hB _ wd_133, hB _ ws_4⟩ (rd_V hC (hP.sub [0, 1] rfl) (hK.sub [0, 1] rfl) (va_recv hK hP (ci := 1) (q0 := 0) rfl rfl)) rfl rfl hl.1 rfl (lv_room (Nat.le_of_ble_eq_true rfl)) dB_level_2 ⟨Nat.zero_le _, Nat.zero_le _⟩) ?_
  refine W.eq (g2 := F0 m 5 ls [.ref (tq j)]) rfl ?_
  refine lv_astore (lv' := [(5, .ref (tq j)), (0, .ref x0), (1, .int (nI j)), (2, .long sp), (4, .int ar)]) hx hb dB_level_5 hl (by decide) rfl (fun ls hl => ?_)
  refine lv_aload hx hb dB_level_7 (lv_at hl 0 rfl) ?_
  refine lv_ifnonnull (tgt := 22) hx hb dB_level_9 (by decide) ?_
  refine lv_lload_n hx hb dB_level_22 rfl (lv_at hl 3 rfl) ?_
  refine lv_lconst (v := 0) hx hb dB_level_23 (by decide) ?_
  refine W.lcmp hx hb dB_level_24 ?_
  refine lv_if_lt (tgt := 36) hx hb dB_level_25 (by decide) (fun c_1 => ?_) (fun c_1 => ?_)
  · exact absurd ((lg_cmp_lt _ _).mp c_1) h1
  · refine lv_lload_n hx hb dB_level_28 rfl (lv_at hl 3 rfl) ?_
    refine lv_ldc2 (v := 1099511627776) hx hb hown (hB _ wd_215) dB_level_29 ?_
    refine W.lcmp hx hb dB_level_32 ?_
    refine lv_if_le (tgt := 46) hx hb dB_level_33 (by decide) (fun c_2 => ?_) (fun c_2 => ?_)
    · refine lv_iload hx hb dB_level_46 (lv_at hl 4 rfl) ?_
      refine lv_iconst (v := 1) hx hb dB_level_48 (by decide) ?_
      refine lv_icmp_lt (tgt := 59) hx hb dB_level_49 (by decide) (fun c_3 => ?_) (fun c_3 => ?_)
      · exact absurd c_3 h3
      · refine lv_iload hx hb dB_level_52 (lv_at hl 4 rfl) ?_
        refine lv_ldc (v := 16777216) hx hb hown (hB _ wd_232) dB_level_54 ?_
        refine lv_icmp_le (tgt := 69) hx hb dB_level_56 (by decide) (fun c_4 => ?_) (fun c_4 => ?_)
        · refine lv_aload hx hb dB_level_69 (lv_at hl 0 rfl) ?_
          refine lv_lload_n hx hb dB_level_71 rfl (lv_at hl 3 rfl) ?_
          refine lv_iload hx hb dB_level_72 (lv_at hl 4 rfl) ?_
          refine lv_i2l hx hb dB_level_74 rfl ?_
          refine W.callV (run_of (va_runVN (C := "TextureBank$Texture") (As := [.long sp, .long ar.toInt64]) (rest := []) ⟨hx, hb, hml, hown, hB⟩ (kT_levelFor l D cI (tq j) (cq j) sd wr sf kk hkk g sp ar.toInt64) ⟨va_cnB 2 hB gwT_levelFor rfl rfl rfl (hC.2.2.2.2.2.2.2.2.1) (hB _ wd_2) ydT_levelFor ⟨Nat.le_of_ble_eq_true rfl, Nat.le_of_ble_eq_true rfl⟩, hB _ wd_236, hB _ ws_6⟩ (rd_V hC (hP.sub [2, 3] rfl) (hK.sub [0] rfl) (va_recv hK hP (ci := 0) (q0 := 2) rfl rfl)) rfl rfl hl.1 rfl (lv_room (Nat.le_of_ble_eq_true rfl)) dB_level_75 ⟨Nat.zero_le _, Nat.zero_le _⟩)) ?_
          refine W.eq (g2 := F0 m 78 ls [.int (tt_lf ((sp * sd.toInt64) * sd.toInt64) (nI kk) 8 (ar.toInt64 * 16777216) 0)]) rfl ?_
          exact W.iret hx hb hr (fun t ht _ => ⟨tbI (rfl), ht⟩) (fun q hq => nomatch hq) dB_level_78
        · exact absurd h4 c_4
    · exact absurd ((lg_cmp_le _ _).mpr h2) c_2

set_option maxHeartbeats 4000000 in
set_option maxRecDepth 100000 in
theorem kB_lookUp_none (l : Launch) (hl9 : l.stackTraces = false) (D : va_G) (cI cT : ClassId) (x0 tx ta : Nat) (n c9 : Int32) (t9 : Int32) (hno : t9 < 0 ∨ c9 ≤ t9) (lv9 u9 v9 : Int32) : vx_Met l yB_lookUp wB_lookUp ({ frames := 6, cells := 1, slots := 6, locals := 90 }) (th_P [.ref x0, .int t9, .int lv9, .int u9, .int v9] D [(cI, .int), (cT, .object "TextureBank$Texture")] [(x0, .inr (1, [.ref tx, .int n, .ref ta, .int c9]))]) th_Q (th_X "java/util/NoSuchElementException") 1 6 (fun _ => False) := by
  refine vx_ofW (cc := cB_lookUp) (maxL := 6) (ret := (some .int)) (by decide) rfl ?_
  intro p e s m args below meth c s₁ B hml hno9 hv
  obtain ⟨rfl, hC, hP, hK, hT, hZ⟩ := hv
  have hx := B.exec
  have hb := B.bytes
  have hr := B.returns
  have hB : ∀ w ∈ tbB, w.before _ s = true := fun w h => (atoms_spec (ws := wB_lookUp) B.pre) w (List.mem_cons_of_mem _ h)
  have hown : s.vm.findClass "TextureBank" = some m.cls := findClass_of_methodNamed B.named
  have hlocks := B.notSynchronized
  have hl := lv_entry ([.ref x0, .int t9, .int lv9, .int u9, .int v9]) (n := 6) (Nat.le_of_ble_eq_true rfl)
  rw [lg_entry_eq]
  generalize (lg_sl ([.ref x0, .int t9, .int lv9, .int u9, .int v9]) ++ List.replicate (6 - (lg_sl ([.ref x0, .int t9, .int lv9, .int u9, .int v9])).length) Slot.unset).toArray = ls at hl ⊢
  have hl : lv_has ls 6 [(0, .ref x0), (1, .int t9), (2, .int lv9), (3, .int u9), (4, .int v9)] := hl
  refine lv_aload_n hx hb dB_lookUp_0 rfl (lv_at hl 0 rfl) ?_
  refine lv_iload_n hx hb dB_lookUp_1 rfl (lv_at hl 1 rfl) ?_
  refine W.callV (W.runV (C := "TextureBank") (As := [.int t9]) (rest := []) ⟨hx, hb, hml, hown, hB⟩ (kB_find_none l D cI cT x0 tx ta n c9 t9 hno) ⟨callB_of 1 hB gwB_find rfl rfl rfl (hB _ wd_1) (hB _ wd_131) ydB_find ⟨Nat.le_of_ble_eq_true rfl, Nat.le_of_ble_eq_true rfl⟩, hB _ wd_133, hB _ ws_4⟩ (rd_V hC (hP.sub [0] rfl) (hK.sub [0, 1] rfl) (va_recv hK hP (ci := 1) (q0 := 0) rfl rfl)) rfl rfl hl.1 rfl (lv_room (Nat.le_of_ble_eq_true rfl)) dB_lookUp_2 ⟨Nat.zero_le _, Nat.zero_le _⟩) ?_
  refine W.eq (g2 := F0 m 5 ls [.null]) rfl ?_
  refine lv_astoreN (lv' := [(5, .null), (0, .ref x0), (1, .int t9), (2, .int lv9), (3, .int u9), (4, .int v9)]) hx hb dB_lookUp_5 hl (by decide) rfl (fun ls hl => ?_)
  refine lv_aloadN hx hb dB_lookUp_7 (lv_at hl 0 rfl) ?_
  refine lv_ifnullN (tgt := 21) hx hb dB_lookUp_9 (by decide) ?_
  obtain ⟨sa9, hsa9⟩ := hT.2.2.2.2.2.2.2.2.1
  exact tw_throwS (names := ["java/lang/Exception"]) (Y9 := "java/lang/RuntimeException") hx hb hl9 hown (by decide +kernel) (by decide +kernel) (by decide +kernel) tw_ns_0 tw_ns_1 tw_ns_2 tw_ns_5 (hB _ wd_148) (hB _ wd_10) hsa9 (tw_nsat hB hT) tw_ns_ok hZ.1 hZ.2 va_S.rf (by rw [hml]; exact hl.1) dB_lookUp_21 dB_lookUp_24 dB_lookUp_25 dB_lookUp_27 dB_lookUp_30 (fun x9 h9 => (hno9 x9 h9).elim) (Nat.le_of_ble_eq_true rfl) (Nat.le_of_ble_eq_true rfl) (Nat.le_of_ble_eq_true rfl) (Nat.le_of_ble_eq_true rfl) hlocks (fun t h1 h2 h3 => ⟨(), trivial, rfl, h2, fun q hq _ => h3 q hq⟩) (fun q hq => nomatch hq) (Nat.le_refl _) (Nat.le_refl _)

set_option maxHeartbeats 4000000 in
set_option maxRecDepth 100000 in
theorem kB_lookUp_nolevel (l : Launch) (hl9 : l.stackTraces = false) (D : va_G) (cI cT : ClassId) (x0 tx ta : Nat) (n : Int32) (cN : Nat) (tq cq : Nat → Nat) (j : Nat) (hcN : cN ≤ 8) (hj : j < cN) (sd wr sf lv : Int32) (g : Nat → Int32) (lv9 u9 v9 : Int32) (hlv : tt_has lv lv9 = 0) : vx_Met l yB_lookUp wB_lookUp ({ frames := 6, cells := 1, slots := 6, locals := 90 }) (th_P [.ref x0, .int (nI j), .int lv9, .int u9, .int v9] D [(cI, .int), (cT, .object "TextureBank$Texture")] [(x0, .inr (1, [.ref tx, .int n, .ref ta, .int (nI cN)])), (ta, .inl (cT, 8, .inr (.inr (.inr (.inr (fun j => some (tq j))))))), (tq j, .inr (0, [.ref (cq j), .int sd, .int wr, .int sf, .int lv])), (cq j, .inl (cI, 1365, .inl g))]) th_Q (th_X "java/util/NoSuchElementException") 1 6 (fun _ => False) := by
  refine vx_ofW (cc := cB_lookUp) (maxL := 6) (ret := (some .int)) (by decide) rfl ?_
  intro p e s m args below meth c s₁ B hml hno9 hv
  obtain ⟨rfl, hC, hP, hK, hT, hZ⟩ := hv
  have hx := B.exec
  have hb := B.bytes
  have hr := B.returns
  have hB : ∀ w ∈ tbB, w.before _ s = true := fun w h => (atoms_spec (ws := wB_lookUp) B.pre) w (List.mem_cons_of_mem _ h)
  have hown : s.vm.findClass "TextureBank" = some m.cls := findClass_of_methodNamed B.named
  have hlocks := B.notSynchronized
  have hl := lv_entry ([.ref x0, .int (nI j), .int lv9, .int u9, .int v9]) (n := 6) (Nat.le_of_ble_eq_true rfl)
  rw [lg_entry_eq]
  generalize (lg_sl ([.ref x0, .int (nI j), .int lv9, .int u9, .int v9]) ++ List.replicate (6 - (lg_sl ([.ref x0, .int (nI j), .int lv9, .int u9, .int v9])).length) Slot.unset).toArray = ls at hl ⊢
  have hl : lv_has ls 6 [(0, .ref x0), (1, .int (nI j)), (2, .int lv9), (3, .int u9), (4, .int v9)] := hl
  refine lv_aload_n hx hb dB_lookUp_0 rfl (lv_at hl 0 rfl) ?_
  refine lv_iload_n hx hb dB_lookUp_1 rfl (lv_at hl 1 rfl) ?_
  refine W.callV (W.runV (C := "TextureBank") (As := [.int (nI j)]) (rest := []) ⟨hx, hb, hml, hown, hB⟩ (kB_find_some l D cI cT x0 tx ta n cN tq j hcN hj) ⟨callB_of 1 hB gwB_find rfl rfl rfl (hB _ wd_1) (hB _ wd_131) ydB_find ⟨Nat.le_of_ble_eq_true rfl, Nat.le_of_ble_eq_true rfl⟩, hB _ wd_133, hB _ ws_4⟩ (rd_V hC (hP.sub [0, 1] rfl) (hK.sub [0, 1] rfl) (va_recv hK hP (ci := 1) (q0 := 0) rfl rfl)) rfl rfl hl.1 rfl (lv_room (Nat.le_of_ble_eq_true rfl)) dB_lookUp_2 ⟨Nat.zero_le _, Nat.zero_le _⟩) ?_
  refine W.eq (g2 := F0 m 5 ls [.ref (tq j)]) rfl ?_
  refine lv_astore (lv' := [(5, .ref (tq j)), (0, .ref x0), (1, .int (nI j)), (2, .int lv9), (3, .int u9), (4, .int v9)]) hx hb dB_lookUp_5 hl (by decide) rfl (fun ls hl => ?_)
  refine lv_aload hx hb dB_lookUp_7 (lv_at hl 0 rfl) ?_
  refine lv_ifnull hx hb dB_lookUp_9 ?_
  refine lv_aload hx hb dB_lookUp_12 (lv_at hl 0 rfl) ?_
  refine lv_iload_n hx hb dB_lookUp_14 rfl (lv_at hl 3 rfl) ?_
  refine W.callV (run_of (va_runVN (C := "TextureBank$Texture") (As := [.int lv9]) (rest := []) ⟨hx, hb, hml, hown, hB⟩ (kT_hasLevel l D cI (tq j) (cq j) sd wr sf lv g lv9) ⟨va_cnB 1 hB gwT_hasLevel rfl rfl rfl (hC.2.2.2.2.2.2.2.2.2.1) (hB _ wd_2) ydT_hasLevel ⟨Nat.le_of_ble_eq_true rfl, Nat.le_of_ble_eq_true rfl⟩, hB _ wd_248, hB _ ws_7⟩ (rd_V hC (hP.sub [2, 3] rfl) (hK.sub [0] rfl) (va_recv hK hP (ci := 0) (q0 := 2) rfl rfl)) rfl rfl hl.1 rfl (lv_room (Nat.le_of_ble_eq_true rfl)) dB_lookUp_15 ⟨Nat.zero_le _, Nat.zero_le _⟩)) ?_
  refine W.eq (g2 := F0 m 18 ls [.int (tt_has lv lv9)]) rfl ?_
  refine lv_if_ne (tgt := 31) hx hb dB_lookUp_18 (by decide) (fun c_1 => ?_) (fun c_1 => ?_)
  · exact absurd hlv c_1
  · obtain ⟨sa9, hsa9⟩ := hT.2.2.2.2.2.2.2.2.1
    exact tw_throwS (names := ["java/lang/Exception"]) (Y9 := "java/lang/RuntimeException") hx hb hl9 hown (by decide +kernel) (by decide +kernel) (by decide +kernel) tw_ns_0 tw_ns_1 tw_ns_2 tw_ns_5 (hB _ wd_148) (hB _ wd_10) hsa9 (tw_nsat hB hT) tw_ns_ok hZ.1 hZ.2 va_S.rf (by rw [hml]; exact hl.1) dB_lookUp_21 dB_lookUp_24 dB_lookUp_25 dB_lookUp_27 dB_lookUp_30 (fun x9 h9 => (hno9 x9 h9).elim) (Nat.le_of_ble_eq_true rfl) (Nat.le_of_ble_eq_true rfl) (Nat.le_of_ble_eq_true rfl) (Nat.le_of_ble_eq_true rfl) hlocks (fun t h1 h2 h3 => ⟨(), trivial, rfl, h2, fun q hq _ => h3 q hq⟩) (fun q hq => nomatch hq) (Nat.le_refl _) (Nat.le_refl _)

set_option maxHeartbeats 4000000 in
set_option maxRecDepth 100000 in
theorem kB_lookUp_bad (l : Launch) (hl9 : l.stackTraces = false) (D : va_G) (cI cT : ClassId) (x0 tx ta : Nat) (n : Int32) (cN : Nat) (tq cq : Nat → Nat) (j : Nat) (hcN : cN ≤ 8) (hj : j < cN) (sd wr sf lv : Int32) (g : Nat → Int32) (lv9 u9 v9 : Int32) (hlv : ¬ tt_has lv lv9 = 0) (hbad : tt_isPlace u9 = 0 ∨ tt_isPlace v9 = 0) : vx_Met l yB_lookUp wB_lookUp ({ frames := 6, cells := 1, slots := 6, locals := 90 }) (th_P [.ref x0, .int (nI j), .int lv9, .int u9, .int v9] D [(cI, .int), (cT, .object "TextureBank$Texture")] [(x0, .inr (1, [.ref tx, .int n, .ref ta, .int (nI cN)])), (ta, .inl (cT, 8, .inr (.inr (.inr (.inr (fun j => some (tq j))))))), (tq j, .inr (0, [.ref (cq j), .int sd, .int wr, .int sf, .int lv])), (cq j, .inl (cI, 1365, .inl g))]) th_Q (th_X "java/lang/IllegalArgumentException") 1 6 (fun _ => False) := by
  refine vx_ofW (cc := cB_lookUp) (maxL := 6) (ret := (some .int)) (by decide) rfl ?_
  intro p e s m args below meth c s₁ B hml hno9 hv
  obtain ⟨rfl, hC, hP, hK, hT, hZ⟩ := hv
  have hx := B.exec
  have hb := B.bytes
  have hr := B.returns
  have hB : ∀ w ∈ tbB, w.before _ s = true := fun w h => (atoms_spec (ws := wB_lookUp) B.pre) w (List.mem_cons_of_mem _ h)
  have hown : s.vm.findClass "TextureBank" = some m.cls := findClass_of_methodNamed B.named
  have hlocks := B.notSynchronized
  have hl := lv_entry ([.ref x0, .int (nI j), .int lv9, .int u9, .int v9]) (n := 6) (Nat.le_of_ble_eq_true rfl)
  rw [lg_entry_eq]
  generalize (lg_sl ([.ref x0, .int (nI j), .int lv9, .int u9, .int v9]) ++ List.replicate (6 - (lg_sl ([.ref x0, .int (nI j), .int lv9, .int u9, .int v9])).length) Slot.unset).toArray = ls at hl ⊢
  have hl : lv_has ls 6 [(0, .ref x0), (1, .int (nI j)), (2, .int lv9), (3, .int u9), (4, .int v9)] := hl
  refine lv_aload_n hx hb dB_lookUp_0 rfl (lv_at hl 0 rfl) ?_
  refine lv_iload_n hx hb dB_lookUp_1 rfl (lv_at hl 1 rfl) ?_
  refine W.callV (W.runV (C := "TextureBank") (As := [.int (nI j)]) (rest := []) ⟨hx, hb, hml, hown, hB⟩ (kB_find_some l D cI cT x0 tx ta n cN tq j hcN hj) ⟨callB_of 1 hB gwB_find rfl rfl rfl (hB _ wd_1) (hB _ wd_131) ydB_find ⟨Nat.le_of_ble_eq_true rfl, Nat.le_of_ble_eq_true rfl⟩, hB _ wd_133, hB _ ws_4⟩ (rd_V hC (hP.sub [0, 1] rfl) (hK.sub [0, 1] rfl) (va_recv hK hP (ci := 1) (q0 := 0) rfl rfl)) rfl rfl hl.1 rfl (lv_room (Nat.le_of_ble_eq_true rfl)) dB_lookUp_2 ⟨Nat.zero_le _, Nat.zero_le _⟩) ?_
  refine W.eq (g2 := F0 m 5 ls [.ref (tq j)]) rfl ?_
  refine lv_astore (lv' := [(5, .ref (tq j)), (0, .ref x0), (1, .int (nI j)), (2, .int lv9), (3, .int u9), (4, .int v9)]) hx hb dB_lookUp_5 hl (by decide) rfl (fun ls hl => ?_)
  refine lv_aload hx hb dB_lookUp_7 (lv_at hl 0 rfl) ?_
  refine lv_ifnull hx hb dB_lookUp_9 ?_
  refine lv_aload hx hb dB_lookUp_12 (lv_at hl 0 rfl) ?_
  refine lv_iload_n hx hb dB_lookUp_14 rfl (lv_at hl 3 rfl) ?_
  refine W.callV (run_of (va_runVN (C := "TextureBank$Texture") (As := [.int lv9]) (rest := []) ⟨hx, hb, hml, hown, hB⟩ (kT_hasLevel l D cI (tq j) (cq j) sd wr sf lv g lv9) ⟨va_cnB 1 hB gwT_hasLevel rfl rfl rfl (hC.2.2.2.2.2.2.2.2.2.1) (hB _ wd_2) ydT_hasLevel ⟨Nat.le_of_ble_eq_true rfl, Nat.le_of_ble_eq_true rfl⟩, hB _ wd_248, hB _ ws_7⟩ (rd_V hC (hP.sub [2, 3] rfl) (hK.sub [0] rfl) (va_recv hK hP (ci := 0) (q0 := 2) rfl rfl)) rfl rfl hl.1 rfl (lv_room (Nat.le_of_ble_eq_true rfl)) dB_lookUp_15 ⟨Nat.zero_le _, Nat.zero_le _⟩)) ?_
  refine W.eq (g2 := F0 m 18 ls [.int (tt_has lv lv9)]) rfl ?_
  refine lv_if_ne (tgt := 31) hx hb dB_lookUp_18 (by decide) (fun c_1 => ?_) (fun c_1 => ?_)
  · refine lv_iload_n hx hb dB_lookUp_31 rfl (lv_at hl 4 rfl) ?_
    refine W.callV (W.runS (As := [.int u9]) (rest := []) ⟨hx, hb, hml, hown, hB⟩ (kB_isPlace l u9) ⟨callB_of 1 hB gwB_isPlace rfl rfl rfl (hB _ wd_1) (hB _ wd_251) ydB_isPlace ⟨Nat.le_of_ble_eq_true rfl, Nat.le_of_ble_eq_true rfl⟩, hB _ wd_252⟩ (preEq) rfl rfl hl.1 rfl (lv_room (Nat.le_of_ble_eq_true rfl)) dB_lookUp_32 ⟨Nat.zero_le _, Nat.zero_le _⟩) ?_
    refine W.eq (g2 := F0 m 35 ls [.int (tt_isPlace u9)]) rfl ?_
    refine lv_if_eq (tgt := 46) hx hb dB_lookUp_35 (by decide) (fun c_2 => ?_) (fun c_2 => ?_)
    · obtain ⟨sa9, hsa9⟩ := hT.2.2.2.2.2.2.2.2.2.1
      exact tw_throwS (names := ["java/lang/Exception"]) (Y9 := "java/lang/RuntimeException") hx hb hl9 hown (by decide +kernel) (by decide +kernel) (by decide +kernel) tw_ia_0 tw_ia_1 tw_ia_2 tw_ia_5 (hB _ wd_216) (hB _ wd_11) hsa9 (tw_iaat hB hT) tw_ia_ok hZ.1 hZ.2 va_S.rf (by rw [hml]; exact hl.1) dB_lookUp_46 dB_lookUp_49 dB_lookUp_50 dB_lookUp_52 dB_lookUp_55 (fun x9 h9 => (hno9 x9 h9).elim) (Nat.le_of_ble_eq_true rfl) (Nat.le_of_ble_eq_true rfl) (Nat.le_of_ble_eq_true rfl) (Nat.le_of_ble_eq_true rfl) hlocks (fun t h1 h2 h3 => ⟨(), trivial, rfl, h2, fun q hq _ => h3 q hq⟩) (fun q hq => nomatch hq) (Nat.le_refl _) (Nat.le_refl _)
    · refine lv_iload hx hb dB_lookUp_38 (lv_at hl 5 rfl) ?_
      refine W.callV (W.runS (As := [.int v9]) (rest := []) ⟨hx, hb, hml, hown, hB⟩ (kB_isPlace l v9) ⟨callB_of 1 hB gwB_isPlace rfl rfl rfl (hB _ wd_1) (hB _ wd_251) ydB_isPlace ⟨Nat.le_of_ble_eq_true rfl, Nat.le_of_ble_eq_true rfl⟩, hB _ wd_252⟩ (preEq) rfl rfl hl.1 rfl (lv_room (Nat.le_of_ble_eq_true rfl)) dB_lookUp_40 ⟨Nat.zero_le _, Nat.zero_le _⟩) ?_
      refine W.eq (g2 := F0 m 43 ls [.int (tt_isPlace v9)]) rfl ?_
      refine lv_if_ne (tgt := 56) hx hb dB_lookUp_43 (by decide) (fun c_3 => ?_) (fun c_3 => ?_)
      · exact absurd (hbad.elim (fun h => absurd h c_2) id) c_3
      · obtain ⟨sa9, hsa9⟩ := hT.2.2.2.2.2.2.2.2.2.1
        exact tw_throwS (names := ["java/lang/Exception"]) (Y9 := "java/lang/RuntimeException") hx hb hl9 hown (by decide +kernel) (by decide +kernel) (by decide +kernel) tw_ia_0 tw_ia_1 tw_ia_2 tw_ia_5 (hB _ wd_216) (hB _ wd_11) hsa9 (tw_iaat hB hT) tw_ia_ok hZ.1 hZ.2 va_S.rf (by rw [hml]; exact hl.1) dB_lookUp_46 dB_lookUp_49 dB_lookUp_50 dB_lookUp_52 dB_lookUp_55 (fun x9 h9 => (hno9 x9 h9).elim) (Nat.le_of_ble_eq_true rfl) (Nat.le_of_ble_eq_true rfl) (Nat.le_of_ble_eq_true rfl) (Nat.le_of_ble_eq_true rfl) hlocks (fun t h1 h2 h3 => ⟨(), trivial, rfl, h2, fun q hq _ => h3 q hq⟩) (fun q hq => nomatch hq) (Nat.le_refl _) (Nat.le_refl _)
  · exact absurd c_1 hlv

set_option maxHeartbeats 4000000 in
set_option maxRecDepth 100000 in
theorem kB_lookUp_ok (l : Launch) (D : va_G) (cI cT : ClassId) (x0 tx ta : Nat) (n : Int32) (cN : Nat) (tq cq : Nat → Nat) (j : Nat) (hcN : cN ≤ 8) (hj : j < cN) (sd wr sf lv : Int32) (g : Nat → Int32) (lv9 u9 v9 : Int32) (hlv : ¬ tt_has lv lv9 = 0) (h1 : ¬ tt_isPlace u9 = 0) (h2 : ¬ tt_isPlace v9 = 0) : Met l yB_lookUp wB_lookUp (k2_rm 4 131) (rd_P [.ref x0, .int (nI j), .int lv9, .int u9, .int v9] D [(cI, .int), (cT, .object "TextureBank$Texture")] [(x0, .inr (1, [.ref tx, .int n, .ref ta, .int (nI cN)])), (ta, .inl (cT, 8, .inr (.inr (.inr (.inr (fun j => some (tq j))))))), (tq j, .inr (0, [.ref (cq j), .int sd, .int wr, .int sf, .int lv])), (cq j, .inl (cI, 1365, .inl g))]) (k2_QcV (.int (tt_cat wr sf g (sd >>> (lv9 &&& 31)) u9.toInt64 v9.toInt64))) 0 0 (fun _ => False) := by
  refine Met.ofW (cc := cB_lookUp) (maxL := 6) (ret := (some .int)) (by decide) rfl ?_
  intro p e s m args below meth c s₁ B hml hv
  obtain ⟨rfl, hC, hP, hK⟩ := hv
  have hx := B.exec
  have hb := B.bytes
  have hr := B.returns
  have hB : ∀ w ∈ tbB, w.before _ s = true := fun w h => (atoms_spec (ws := wB_lookUp) B.pre) w (List.mem_cons_of_mem _ h)
  have hown : s.vm.findClass "TextureBank" = some m.cls := findClass_of_methodNamed B.named
  have hlocks := B.notSynchronized
  have hl := lv_entry ([.ref x0, .int (nI j), .int lv9, .int u9, .int v9]) (n := 6) (Nat.le_of_ble_eq_true rfl)
  rw [lg_entry_eq]
  generalize (lg_sl ([.ref x0, .int (nI j), .int lv9, .int u9, .int v9]) ++ List.replicate (6 - (lg_sl ([.ref x0, .int (nI j), .int lv9, .int u9, .int v9])).length) Slot.unset).toArray = ls at hl ⊢
  have hl : lv_has ls 6 [(0, .ref x0), (1, .int (nI j)), (2, .int lv9), (3, .int u9), (4, .int v9)] := hl
  refine lv_aload_n hx hb dB_lookUp_0 rfl (lv_at hl 0 rfl) ?_
  refine lv_iload_n hx hb dB_lookUp_1 rfl (lv_at hl 1 rfl) ?_
  refine W.callV (W.runV (C := "TextureBank") (As := [.int (nI j)]) (rest := []) ⟨hx, hb, hml, hown, hB⟩ (kB_find_some l D cI cT x0 tx ta n cN tq j hcN hj) ⟨callB_of 1 hB gwB_find rfl rfl rfl (hB _ wd_1) (hB _ wd_131) ydB_find ⟨Nat.le_of_ble_eq_true rfl, Nat.le_of_ble_eq_true rfl⟩, hB _ wd_133, hB _ ws_4⟩ (rd_V hC (hP.sub [0, 1] rfl) (hK.sub [0, 1] rfl) (va_recv hK hP (ci := 1) (q0 := 0) rfl rfl)) rfl rfl hl.1 rfl (lv_room (Nat.le_of_ble_eq_true rfl)) dB_lookUp_2 ⟨Nat.zero_le _, Nat.zero_le _⟩) ?_
  refine W.eq (g2 := F0 m 5 ls [.ref (tq j)]) rfl ?_
  refine lv_astore (lv' := [(5, .ref (tq j)), (0, .ref x0), (1, .int (nI j)), (2, .int lv9), (3, .int u9), (4, .int v9)]) hx hb dB_lookUp_5 hl (by decide) rfl (fun ls hl => ?_)
  refine lv_aload hx hb dB_lookUp_7 (lv_at hl 0 rfl) ?_
  refine lv_ifnull hx hb dB_lookUp_9 ?_
  refine lv_aload hx hb dB_lookUp_12 (lv_at hl 0 rfl) ?_
  refine lv_iload_n hx hb dB_lookUp_14 rfl (lv_at hl 3 rfl) ?_
  refine W.callV (run_of (va_runVN (C := "TextureBank$Texture") (As := [.int lv9]) (rest := []) ⟨hx, hb, hml, hown, hB⟩ (kT_hasLevel l D cI (tq j) (cq j) sd wr sf lv g lv9) ⟨va_cnB 1 hB gwT_hasLevel rfl rfl rfl (hC.2.2.2.2.2.2.2.2.2.1) (hB _ wd_2) ydT_hasLevel ⟨Nat.le_of_ble_eq_true rfl, Nat.le_of_ble_eq_true rfl⟩, hB _ wd_248, hB _ ws_7⟩ (rd_V hC (hP.sub [2, 3] rfl) (hK.sub [0] rfl) (va_recv hK hP (ci := 0) (q0 := 2) rfl rfl)) rfl rfl hl.1 rfl (lv_room (Nat.le_of_ble_eq_true rfl)) dB_lookUp_15 ⟨Nat.zero_le _, Nat.zero_le _⟩)) ?_
  refine W.eq (g2 := F0 m 18 ls [.int (tt_has lv lv9)]) rfl ?_
  refine lv_if_ne (tgt := 31) hx hb dB_lookUp_18 (by decide) (fun c_1 => ?_) (fun c_1 => ?_)
  · refine lv_iload_n hx hb dB_lookUp_31 rfl (lv_at hl 4 rfl) ?_
    refine W.callV (W.runS (As := [.int u9]) (rest := []) ⟨hx, hb, hml, hown, hB⟩ (kB_isPlace l u9) ⟨callB_of 1 hB gwB_isPlace rfl rfl rfl (hB _ wd_1) (hB _ wd_251) ydB_isPlace ⟨Nat.le_of_ble_eq_true rfl, Nat.le_of_ble_eq_true rfl⟩, hB _ wd_252⟩ (preEq) rfl rfl hl.1 rfl (lv_room (Nat.le_of_ble_eq_true rfl)) dB_lookUp_32 ⟨Nat.zero_le _, Nat.zero_le _⟩) ?_
    refine W.eq (g2 := F0 m 35 ls [.int (tt_isPlace u9)]) rfl ?_
    refine lv_if_eq (tgt := 46) hx hb dB_lookUp_35 (by decide) (fun c_2 => ?_) (fun c_2 => ?_)
    · exact absurd c_2 h1
    · refine lv_iload hx hb dB_lookUp_38 (lv_at hl 5 rfl) ?_
      refine W.callV (W.runS (As := [.int v9]) (rest := []) ⟨hx, hb, hml, hown, hB⟩ (kB_isPlace l v9) ⟨callB_of 1 hB gwB_isPlace rfl rfl rfl (hB _ wd_1) (hB _ wd_251) ydB_isPlace ⟨Nat.le_of_ble_eq_true rfl, Nat.le_of_ble_eq_true rfl⟩, hB _ wd_252⟩ (preEq) rfl rfl hl.1 rfl (lv_room (Nat.le_of_ble_eq_true rfl)) dB_lookUp_40 ⟨Nat.zero_le _, Nat.zero_le _⟩) ?_
      refine W.eq (g2 := F0 m 43 ls [.int (tt_isPlace v9)]) rfl ?_
      refine lv_if_ne (tgt := 56) hx hb dB_lookUp_43 (by decide) (fun c_3 => ?_) (fun c_3 => ?_)
      · refine lv_aload hx hb dB_lookUp_56 (lv_at hl 0 rfl) ?_
        refine lv_aload hx hb dB_lookUp_58 (lv_at hl 0 rfl) ?_
        refine lv_iload_n hx hb dB_lookUp_60 rfl (lv_at hl 3 rfl) ?_
        refine W.callV (run_of (va_runVN (C := "TextureBank$Texture") (As := [.int lv9]) (rest := [.ref (tq j)]) ⟨hx, hb, hml, hown, hB⟩ (kT_sideOf l D cI (tq j) (cq j) sd wr sf lv g lv9) ⟨va_cnB 1 hB gwT_sideOf rfl rfl rfl (hC.2.2.2.2.2.2.2.2.2.2.1) (hB _ wd_2) ydT_sideOf ⟨Nat.le_of_ble_eq_true rfl, Nat.le_of_ble_eq_true rfl⟩, hB _ wd_258, hB _ ws_8⟩ (rd_V hC (hP.sub [2, 3] rfl) (hK.sub [0] rfl) (va_recv hK hP (ci := 0) (q0 := 2) rfl rfl)) rfl rfl hl.1 rfl (lv_room (Nat.le_of_ble_eq_true rfl)) dB_lookUp_61 ⟨Nat.zero_le _, Nat.zero_le _⟩)) ?_
        refine W.eq (g2 := F0 m 64 ls [.int (sd >>> (lv9 &&& 31)), .ref (tq j)]) rfl ?_
        refine lv_iload_n hx hb dB_lookUp_64 rfl (lv_at hl 4 rfl) ?_
        refine lv_i2l hx hb dB_lookUp_65 rfl ?_
        refine lv_iload hx hb dB_lookUp_66 (lv_at hl 5 rfl) ?_
        refine lv_i2l hx hb dB_lookUp_68 rfl ?_
        refine W.callV (run_of (va_runVN (C := "TextureBank$Texture") (As := [.int (sd >>> (lv9 &&& 31)), .long u9.toInt64, .long v9.toInt64]) (rest := []) ⟨hx, hb, hml, hown, hB⟩ (kT_colourAt l D cI (tq j) (cq j) sd wr sf lv g (sd >>> (lv9 &&& 31)) u9.toInt64 v9.toInt64) ⟨va_cnB 3 hB gwT_colourAt rfl rfl rfl (hC.2.2.2.2.2.2.2.2.2.2.2.1) (hB _ wd_2) ydT_colourAt ⟨Nat.le_of_ble_eq_true rfl, Nat.le_of_ble_eq_true rfl⟩, hB _ wd_262, hB _ ws_9⟩ (rd_V hC (hP.sub [2, 3] rfl) (hK.sub [0] rfl) (va_recv hK hP (ci := 0) (q0 := 2) rfl rfl)) rfl rfl hl.1 rfl (lv_room (Nat.le_of_ble_eq_true rfl)) dB_lookUp_69 ⟨Nat.zero_le _, Nat.zero_le _⟩)) ?_
        refine W.eq (g2 := F0 m 72 ls [.int (tt_cat wr sf g (sd >>> (lv9 &&& 31)) u9.toInt64 v9.toInt64)]) rfl ?_
        exact W.iret hx hb hr (fun t ht _ => ⟨tbI (rfl), ht⟩) (fun q hq => nomatch hq) dB_lookUp_72
      · exact absurd c_3 h2
  · exact absurd c_1 hlv

set_option maxHeartbeats 4000000 in
set_option maxRecDepth 100000 in
theorem kB_texel_none (l : Launch) (hl9 : l.stackTraces = false) (D : va_G) (cI cT : ClassId) (x0 tx ta : Nat) (n c9 : Int32) (t9 : Int32) (hno : t9 < 0 ∨ c9 ≤ t9) (lv9 u9 v9 : Int32) : vx_Met l yB_texel wB_texel ({ frames := 6, cells := 1, slots := 6, locals := 90 }) (th_P [.ref x0, .int t9, .int lv9, .int u9, .int v9] D [(cI, .int), (cT, .object "TextureBank$Texture")] [(x0, .inr (1, [.ref tx, .int n, .ref ta, .int c9]))]) th_Q (th_X "java/util/NoSuchElementException") 1 6 (fun _ => False) := by
  refine vx_ofW (cc := cB_texel) (maxL := 7) (ret := (some .int)) (by decide) rfl ?_
  intro p e s m args below meth c s₁ B hml hno9 hv
  obtain ⟨rfl, hC, hP, hK, hT, hZ⟩ := hv
  have hx := B.exec
  have hb := B.bytes
  have hr := B.returns
  have hB : ∀ w ∈ tbB, w.before _ s = true := fun w h => (atoms_spec (ws := wB_texel) B.pre) w (List.mem_cons_of_mem _ h)
  have hown : s.vm.findClass "TextureBank" = some m.cls := findClass_of_methodNamed B.named
  have hlocks := B.notSynchronized
  have hl := lv_entry ([.ref x0, .int t9, .int lv9, .int u9, .int v9]) (n := 7) (Nat.le_of_ble_eq_true rfl)
  rw [lg_entry_eq]
  generalize (lg_sl ([.ref x0, .int t9, .int lv9, .int u9, .int v9]) ++ List.replicate (7 - (lg_sl ([.ref x0, .int t9, .int lv9, .int u9, .int v9])).length) Slot.unset).toArray = ls at hl ⊢
  have hl : lv_has ls 7 [(0, .ref x0), (1, .int t9), (2, .int lv9), (3, .int u9), (4, .int v9)] := hl
  refine lv_aload_n hx hb dB_texel_0 rfl (lv_at hl 0 rfl) ?_
  refine lv_iload_n hx hb dB_texel_1 rfl (lv_at hl 1 rfl) ?_
  refine W.callV (W.runV (C := "TextureBank") (As := [.int t9]) (rest := []) ⟨hx, hb, hml, hown, hB⟩ (kB_find_none l D cI cT x0 tx ta n c9 t9 hno) ⟨callB_of 1 hB gwB_find rfl rfl rfl (hB _ wd_1) (hB _ wd_131) ydB_find ⟨Nat.le_of_ble_eq_true rfl, Nat.le_of_ble_eq_true rfl⟩, hB _ wd_133, hB _ ws_4⟩ (rd_V hC (hP.sub [0] rfl) (hK.sub [0, 1] rfl) (va_recv hK hP (ci := 1) (q0 := 0) rfl rfl)) rfl rfl hl.1 rfl (lv_room (Nat.le_of_ble_eq_true rfl)) dB_texel_2 ⟨Nat.zero_le _, Nat.zero_le _⟩) ?_
  refine W.eq (g2 := F0 m 5 ls [.null]) rfl ?_
  refine lv_astoreN (lv' := [(5, .null), (0, .ref x0), (1, .int t9), (2, .int lv9), (3, .int u9), (4, .int v9)]) hx hb dB_texel_5 hl (by decide) rfl (fun ls hl => ?_)
  refine lv_aloadN hx hb dB_texel_7 (lv_at hl 0 rfl) ?_
  refine lv_ifnullN (tgt := 21) hx hb dB_texel_9 (by decide) ?_
  obtain ⟨sa9, hsa9⟩ := hT.2.2.2.2.2.2.2.2.1
  exact tw_throwS (names := ["java/lang/Exception"]) (Y9 := "java/lang/RuntimeException") hx hb hl9 hown (by decide +kernel) (by decide +kernel) (by decide +kernel) tw_ns_0 tw_ns_1 tw_ns_2 tw_ns_5 (hB _ wd_148) (hB _ wd_10) hsa9 (tw_nsat hB hT) tw_ns_ok hZ.1 hZ.2 va_S.rf (by rw [hml]; exact hl.1) dB_texel_21 dB_texel_24 dB_texel_25 dB_texel_27 dB_texel_30 (fun x9 h9 => (hno9 x9 h9).elim) (Nat.le_of_ble_eq_true rfl) (Nat.le_of_ble_eq_true rfl) (Nat.le_of_ble_eq_true rfl) (Nat.le_of_ble_eq_true rfl) hlocks (fun t h1 h2 h3 => ⟨(), trivial, rfl, h2, fun q hq _ => h3 q hq⟩) (fun q hq => nomatch hq) (Nat.le_refl _) (Nat.le_refl _)

set_option maxHeartbeats 4000000 in
set_option maxRecDepth 100000 in
theorem kB_texel_nolevel (l : Launch) (hl9 : l.stackTraces = false) (D : va_G) (cI cT : ClassId) (x0 tx ta : Nat) (n : Int32) (cN : Nat) (tq cq : Nat → Nat) (j : Nat) (hcN : cN ≤ 8) (hj : j < cN) (sd wr sf lv : Int32) (g : Nat → Int32) (lv9 u9 v9 : Int32) (hlv : tt_has lv lv9 = 0) : vx_Met l yB_texel wB_texel ({ frames := 6, cells := 1, slots := 6, locals := 90 }) (th_P [.ref x0, .int (nI j), .int lv9, .int u9, .int v9] D [(cI, .int), (cT, .object "TextureBank$Texture")] [(x0, .inr (1, [.ref tx, .int n, .ref ta, .int (nI cN)])), (ta, .inl (cT, 8, .inr (.inr (.inr (.inr (fun j => some (tq j))))))), (tq j, .inr (0, [.ref (cq j), .int sd, .int wr, .int sf, .int lv])), (cq j, .inl (cI, 1365, .inl g))]) th_Q (th_X "java/util/NoSuchElementException") 1 6 (fun _ => False) := by
  refine vx_ofW (cc := cB_texel) (maxL := 7) (ret := (some .int)) (by decide) rfl ?_
  intro p e s m args below meth c s₁ B hml hno9 hv
  obtain ⟨rfl, hC, hP, hK, hT, hZ⟩ := hv
  have hx := B.exec
  have hb := B.bytes
  have hr := B.returns
  have hB : ∀ w ∈ tbB, w.before _ s = true := fun w h => (atoms_spec (ws := wB_texel) B.pre) w (List.mem_cons_of_mem _ h)
  have hown : s.vm.findClass "TextureBank" = some m.cls := findClass_of_methodNamed B.named
  have hlocks := B.notSynchronized
  have hl := lv_entry ([.ref x0, .int (nI j), .int lv9, .int u9, .int v9]) (n := 7) (Nat.le_of_ble_eq_true rfl)
  rw [lg_entry_eq]
  generalize (lg_sl ([.ref x0, .int (nI j), .int lv9, .int u9, .int v9]) ++ List.replicate (7 - (lg_sl ([.ref x0, .int (nI j), .int lv9, .int u9, .int v9])).length) Slot.unset).toArray = ls at hl ⊢
  have hl : lv_has ls 7 [(0, .ref x0), (1, .int (nI j)), (2, .int lv9), (3, .int u9), (4, .int v9)] := hl
  refine lv_aload_n hx hb dB_texel_0 rfl (lv_at hl 0 rfl) ?_
  refine lv_iload_n hx hb dB_texel_1 rfl (lv_at hl 1 rfl) ?_
  refine W.callV (W.runV (C := "TextureBank") (As := [.int (nI j)]) (rest := []) ⟨hx, hb, hml, hown, hB⟩ (kB_find_some l D cI cT x0 tx ta n cN tq j hcN hj) ⟨callB_of 1 hB gwB_find rfl rfl rfl (hB _ wd_1) (hB _ wd_131) ydB_find ⟨Nat.le_of_ble_eq_true rfl, Nat.le_of_ble_eq_true rfl⟩, hB _ wd_133, hB _ ws_4⟩ (rd_V hC (hP.sub [0, 1] rfl) (hK.sub [0, 1] rfl) (va_recv hK hP (ci := 1) (q0 := 0) rfl rfl)) rfl rfl hl.1 rfl (lv_room (Nat.le_of_ble_eq_true rfl)) dB_texel_2 ⟨Nat.zero_le _, Nat.zero_le _⟩) ?_
  refine W.eq (g2 := F0 m 5 ls [.ref (tq j)]) rfl ?_
  refine lv_astore (lv' := [(5, .ref (tq j)), (0, .ref x0), (1, .int (nI j)), (2, .int lv9), (3, .int u9), (4, .int v9)]) hx hb dB_texel_5 hl (by decide) rfl (fun ls hl => ?_)
  refine lv_aload hx hb dB_texel_7 (lv_at hl 0 rfl) ?_
  refine lv_ifnull hx hb dB_texel_9 ?_
  refine lv_aload hx hb dB_texel_12 (lv_at hl 0 rfl) ?_
  refine lv_iload_n hx hb dB_texel_14 rfl (lv_at hl 3 rfl) ?_
  refine W.callV (run_of (va_runVN (C := "TextureBank$Texture") (As := [.int lv9]) (rest := []) ⟨hx, hb, hml, hown, hB⟩ (kT_hasLevel l D cI (tq j) (cq j) sd wr sf lv g lv9) ⟨va_cnB 1 hB gwT_hasLevel rfl rfl rfl (hC.2.2.2.2.2.2.2.2.2.1) (hB _ wd_2) ydT_hasLevel ⟨Nat.le_of_ble_eq_true rfl, Nat.le_of_ble_eq_true rfl⟩, hB _ wd_248, hB _ ws_7⟩ (rd_V hC (hP.sub [2, 3] rfl) (hK.sub [0] rfl) (va_recv hK hP (ci := 0) (q0 := 2) rfl rfl)) rfl rfl hl.1 rfl (lv_room (Nat.le_of_ble_eq_true rfl)) dB_texel_15 ⟨Nat.zero_le _, Nat.zero_le _⟩)) ?_
  refine W.eq (g2 := F0 m 18 ls [.int (tt_has lv lv9)]) rfl ?_
  refine lv_if_ne (tgt := 31) hx hb dB_texel_18 (by decide) (fun c_1 => ?_) (fun c_1 => ?_)
  · exact absurd hlv c_1
  · obtain ⟨sa9, hsa9⟩ := hT.2.2.2.2.2.2.2.2.1
    exact tw_throwS (names := ["java/lang/Exception"]) (Y9 := "java/lang/RuntimeException") hx hb hl9 hown (by decide +kernel) (by decide +kernel) (by decide +kernel) tw_ns_0 tw_ns_1 tw_ns_2 tw_ns_5 (hB _ wd_148) (hB _ wd_10) hsa9 (tw_nsat hB hT) tw_ns_ok hZ.1 hZ.2 va_S.rf (by rw [hml]; exact hl.1) dB_texel_21 dB_texel_24 dB_texel_25 dB_texel_27 dB_texel_30 (fun x9 h9 => (hno9 x9 h9).elim) (Nat.le_of_ble_eq_true rfl) (Nat.le_of_ble_eq_true rfl) (Nat.le_of_ble_eq_true rfl) (Nat.le_of_ble_eq_true rfl) hlocks (fun t h1 h2 h3 => ⟨(), trivial, rfl, h2, fun q hq _ => h3 q hq⟩) (fun q hq => nomatch hq) (Nat.le_refl _) (Nat.le_refl _)

set_option maxHeartbeats 4000000 in
set_option maxRecDepth 100000 in
theorem kB_texel_bad (l : Launch) (hl9 : l.stackTraces = false) (D : va_G) (cI cT : ClassId) (x0 tx ta : Nat) (n : Int32) (cN : Nat) (tq cq : Nat → Nat) (j : Nat) (hcN : cN ≤ 8) (hj : j < cN) (sd wr sf lv : Int32) (g : Nat → Int32) (lv9 u9 v9 : Int32) (hlv : ¬ tt_has lv lv9 = 0) (hbad : tt_at g (sd >>> (lv9 &&& 31)) u9 v9 = -1) : vx_Met l yB_texel wB_texel ({ frames := 6, cells := 1, slots := 6, locals := 90 }) (th_P [.ref x0, .int (nI j), .int lv9, .int u9, .int v9] D [(cI, .int), (cT, .object "TextureBank$Texture")] [(x0, .inr (1, [.ref tx, .int n, .ref ta, .int (nI cN)])), (ta, .inl (cT, 8, .inr (.inr (.inr (.inr (fun j => some (tq j))))))), (tq j, .inr (0, [.ref (cq j), .int sd, .int wr, .int sf, .int lv])), (cq j, .inl (cI, 1365, .inl g))]) th_Q (th_X "java/util/NoSuchElementException") 1 6 (fun _ => False) := by
  refine vx_ofW (cc := cB_texel) (maxL := 7) (ret := (some .int)) (by decide) rfl ?_
  intro p e s m args below meth c s₁ B hml hno9 hv
  obtain ⟨rfl, hC, hP, hK, hT, hZ⟩ := hv
  have hx := B.exec
  have hb := B.bytes
  have hr := B.returns
  have hB : ∀ w ∈ tbB, w.before _ s = true := fun w h => (atoms_spec (ws := wB_texel) B.pre) w (List.mem_cons_of_mem _ h)
  have hown : s.vm.findClass "TextureBank" = some m.cls := findClass_of_methodNamed B.named
  have hlocks := B.notSynchronized
  have hl := lv_entry ([.ref x0, .int (nI j), .int lv9, .int u9, .int v9]) (n := 7) (Nat.le_of_ble_eq_true rfl)
  rw [lg_entry_eq]
  generalize (lg_sl ([.ref x0, .int (nI j), .int lv9, .int u9, .int v9]) ++ List.replicate (7 - (lg_sl ([.ref x0, .int (nI j), .int lv9, .int u9, .int v9])).length) Slot.unset).toArray = ls at hl ⊢
  have hl : lv_has ls 7 [(0, .ref x0), (1, .int (nI j)), (2, .int lv9), (3, .int u9), (4, .int v9)] := hl
  refine lv_aload_n hx hb dB_texel_0 rfl (lv_at hl 0 rfl) ?_
  refine lv_iload_n hx hb dB_texel_1 rfl (lv_at hl 1 rfl) ?_
  refine W.callV (W.runV (C := "TextureBank") (As := [.int (nI j)]) (rest := []) ⟨hx, hb, hml, hown, hB⟩ (kB_find_some l D cI cT x0 tx ta n cN tq j hcN hj) ⟨callB_of 1 hB gwB_find rfl rfl rfl (hB _ wd_1) (hB _ wd_131) ydB_find ⟨Nat.le_of_ble_eq_true rfl, Nat.le_of_ble_eq_true rfl⟩, hB _ wd_133, hB _ ws_4⟩ (rd_V hC (hP.sub [0, 1] rfl) (hK.sub [0, 1] rfl) (va_recv hK hP (ci := 1) (q0 := 0) rfl rfl)) rfl rfl hl.1 rfl (lv_room (Nat.le_of_ble_eq_true rfl)) dB_texel_2 ⟨Nat.zero_le _, Nat.zero_le _⟩) ?_
  refine W.eq (g2 := F0 m 5 ls [.ref (tq j)]) rfl ?_
  refine lv_astore (lv' := [(5, .ref (tq j)), (0, .ref x0), (1, .int (nI j)), (2, .int lv9), (3, .int u9), (4, .int v9)]) hx hb dB_texel_5 hl (by decide) rfl (fun ls hl => ?_)
  refine lv_aload hx hb dB_texel_7 (lv_at hl 0 rfl) ?_
  refine lv_ifnull hx hb dB_texel_9 ?_
  refine lv_aload hx hb dB_texel_12 (lv_at hl 0 rfl) ?_
  refine lv_iload_n hx hb dB_texel_14 rfl (lv_at hl 3 rfl) ?_
  refine W.callV (run_of (va_runVN (C := "TextureBank$Texture") (As := [.int lv9]) (rest := []) ⟨hx, hb, hml, hown, hB⟩ (kT_hasLevel l D cI (tq j) (cq j) sd wr sf lv g lv9) ⟨va_cnB 1 hB gwT_hasLevel rfl rfl rfl (hC.2.2.2.2.2.2.2.2.2.1) (hB _ wd_2) ydT_hasLevel ⟨Nat.le_of_ble_eq_true rfl, Nat.le_of_ble_eq_true rfl⟩, hB _ wd_248, hB _ ws_7⟩ (rd_V hC (hP.sub [2, 3] rfl) (hK.sub [0] rfl) (va_recv hK hP (ci := 0) (q0 := 2) rfl rfl)) rfl rfl hl.1 rfl (lv_room (Nat.le_of_ble_eq_true rfl)) dB_texel_15 ⟨Nat.zero_le _, Nat.zero_le _⟩)) ?_
  refine W.eq (g2 := F0 m 18 ls [.int (tt_has lv lv9)]) rfl ?_
  refine lv_if_ne (tgt := 31) hx hb dB_texel_18 (by decide) (fun c_1 => ?_) (fun c_1 => ?_)
  · refine lv_aload hx hb dB_texel_31 (lv_at hl 0 rfl) ?_
    refine lv_aload hx hb dB_texel_33 (lv_at hl 0 rfl) ?_
    refine lv_iload_n hx hb dB_texel_35 rfl (lv_at hl 3 rfl) ?_
    refine W.callV (run_of (va_runVN (C := "TextureBank$Texture") (As := [.int lv9]) (rest := [.ref (tq j)]) ⟨hx, hb, hml, hown, hB⟩ (kT_sideOf l D cI (tq j) (cq j) sd wr sf lv g lv9) ⟨va_cnB 1 hB gwT_sideOf rfl rfl rfl (hC.2.2.2.2.2.2.2.2.2.2.1) (hB _ wd_2) ydT_sideOf ⟨Nat.le_of_ble_eq_true rfl, Nat.le_of_ble_eq_true rfl⟩, hB _ wd_258, hB _ ws_8⟩ (rd_V hC (hP.sub [2, 3] rfl) (hK.sub [0] rfl) (va_recv hK hP (ci := 0) (q0 := 2) rfl rfl)) rfl rfl hl.1 rfl (lv_room (Nat.le_of_ble_eq_true rfl)) dB_texel_36 ⟨Nat.zero_le _, Nat.zero_le _⟩)) ?_
    refine W.eq (g2 := F0 m 39 ls [.int (sd >>> (lv9 &&& 31)), .ref (tq j)]) rfl ?_
    refine lv_iload_n hx hb dB_texel_39 rfl (lv_at hl 4 rfl) ?_
    refine lv_iload hx hb dB_texel_40 (lv_at hl 5 rfl) ?_
    refine W.callV (run_of (va_runVN (C := "TextureBank$Texture") (As := [.int (sd >>> (lv9 &&& 31)), .int u9, .int v9]) (rest := []) ⟨hx, hb, hml, hown, hB⟩ (kT_colourIn l D cI (tq j) (cq j) sd wr sf lv g (sd >>> (lv9 &&& 31)) u9 v9) ⟨va_cnB 3 hB gwT_colourIn rfl rfl rfl (hC.2.2.2.2.2.2.2.2.2.2.2.2.1) (hB _ wd_2) ydT_colourIn ⟨Nat.le_of_ble_eq_true rfl, Nat.le_of_ble_eq_true rfl⟩, hB _ wd_110, hB _ ws_3⟩ (rd_V hC (hP.sub [2, 3] rfl) (hK.sub [0] rfl) (va_recv hK hP (ci := 0) (q0 := 2) rfl rfl)) rfl rfl hl.1 rfl (lv_room (Nat.le_of_ble_eq_true rfl)) dB_texel_42 ⟨Nat.zero_le _, Nat.zero_le _⟩)) ?_
    refine W.eq (g2 := F0 m 45 ls [.int (tt_at g (sd >>> (lv9 &&& 31)) u9 v9)]) rfl ?_
    refine lv_istore (lv' := [(6, .int (tt_at g (sd >>> (lv9 &&& 31)) u9 v9)), (5, .ref (tq j)), (0, .ref x0), (1, .int (nI j)), (2, .int lv9), (3, .int u9), (4, .int v9)]) hx hb dB_texel_45 hl (by decide) rfl (fun ls hl => ?_)
    refine lv_iload hx hb dB_texel_47 (lv_at hl 0 rfl) ?_
    refine lv_iconst (v := (-1)) hx hb dB_texel_49 (by decide) ?_
    refine lv_icmp_ne (tgt := 63) hx hb dB_texel_50 (by decide) (fun c_2 => ?_) (fun c_2 => ?_)
    · exact absurd hbad c_2
    · obtain ⟨sa9, hsa9⟩ := hT.2.2.2.2.2.2.2.2.2.2.1
      exact tw_throwS (names := ["java/lang/Exception"]) (Y9 := "java/lang/RuntimeException") hx hb hl9 hown (by decide +kernel) (by decide +kernel) (by decide +kernel) tw_ns_0 tw_ns_1 tw_ns_2 tw_ns_5 (hB _ wd_148) (hB _ wd_10) hsa9 (tw_nsat hB hT) tw_ns_ok hZ.1 hZ.2 va_S.rf (by rw [hml]; exact hl.1) dB_texel_53 dB_texel_56 dB_texel_57 dB_texel_59 dB_texel_62 (fun x9 h9 => (hno9 x9 h9).elim) (Nat.le_of_ble_eq_true rfl) (Nat.le_of_ble_eq_true rfl) (Nat.le_of_ble_eq_true rfl) (Nat.le_of_ble_eq_true rfl) hlocks (fun t h1 h2 h3 => ⟨(), trivial, rfl, h2, fun q hq _ => h3 q hq⟩) (fun q hq => nomatch hq) (Nat.le_refl _) (Nat.le_refl _)
  · exact absurd c_1 hlv

set_option maxHeartbeats 4000000 in
set_option maxRecDepth 100000 in
theorem kB_texel_ok (l : Launch) (D : va_G) (cI cT : ClassId) (x0 tx ta : Nat) (n : Int32) (cN : Nat) (tq cq : Nat → Nat) (j : Nat) (hcN : cN ≤ 8) (hj : j < cN) (sd wr sf lv : Int32) (g : Nat → Int32) (lv9 u9 v9 : Int32) (hlv : ¬ tt_has lv lv9 = 0) (hok : ¬ tt_at g (sd >>> (lv9 &&& 31)) u9 v9 = -1) : Met l yB_texel wB_texel (k2_rm 2 43) (rd_P [.ref x0, .int (nI j), .int lv9, .int u9, .int v9] D [(cI, .int), (cT, .object "TextureBank$Texture")] [(x0, .inr (1, [.ref tx, .int n, .ref ta, .int (nI cN)])), (ta, .inl (cT, 8, .inr (.inr (.inr (.inr (fun j => some (tq j))))))), (tq j, .inr (0, [.ref (cq j), .int sd, .int wr, .int sf, .int lv])), (cq j, .inl (cI, 1365, .inl g))]) (k2_QcV (.int (tt_at g (sd >>> (lv9 &&& 31)) u9 v9))) 0 0 (fun _ => False) := by
  refine Met.ofW (cc := cB_texel) (maxL := 7) (ret := (some .int)) (by decide) rfl ?_
  intro p e s m args below meth c s₁ B hml hv
  obtain ⟨rfl, hC, hP, hK⟩ := hv
  have hx := B.exec
  have hb := B.bytes
  have hr := B.returns
  have hB : ∀ w ∈ tbB, w.before _ s = true := fun w h => (atoms_spec (ws := wB_texel) B.pre) w (List.mem_cons_of_mem _ h)
  have hown : s.vm.findClass "TextureBank" = some m.cls := findClass_of_methodNamed B.named
  have hlocks := B.notSynchronized
  have hl := lv_entry ([.ref x0, .int (nI j), .int lv9, .int u9, .int v9]) (n := 7) (Nat.le_of_ble_eq_true rfl)
  rw [lg_entry_eq]
  generalize (lg_sl ([.ref x0, .int (nI j), .int lv9, .int u9, .int v9]) ++ List.replicate (7 - (lg_sl ([.ref x0, .int (nI j), .int lv9, .int u9, .int v9])).length) Slot.unset).toArray = ls at hl ⊢
  have hl : lv_has ls 7 [(0, .ref x0), (1, .int (nI j)), (2, .int lv9), (3, .int u9), (4, .int v9)] := hl
  refine lv_aload_n hx hb dB_texel_0 rfl (lv_at hl 0 rfl) ?_
  refine lv_iload_n hx hb dB_texel_1 rfl (lv_at hl 1 rfl) ?_
  refine W.callV (W.runV (C := "TextureBank") (As := [.int (nI j)]) (rest := []) ⟨hx, hb, hml, hown, hB⟩ (kB_find_some l D cI cT x0 tx ta n cN tq j hcN hj) ⟨callB_of 1 hB gwB_find rfl rfl rfl (hB _ wd_1) (hB _ wd_131) ydB_find ⟨Nat.le_of_ble_eq_true rfl, Nat.le_of_ble_eq_true rfl⟩, hB _ wd_133, hB _ ws_4⟩ (rd_V hC (hP.sub [0, 1] rfl) (hK.sub [0, 1] rfl) (va_recv hK hP (ci := 1) (q0 := 0) rfl rfl)) rfl rfl hl.1 rfl (lv_room (Nat.le_of_ble_eq_true rfl)) dB_texel_2 ⟨Nat.zero_le _, Nat.zero_le _⟩) ?_
  refine W.eq (g2 := F0 m 5 ls [.ref (tq j)]) rfl ?_
  refine lv_astore (lv' := [(5, .ref (tq j)), (0, .ref x0), (1, .int (nI j)), (2, .int lv9), (3, .int u9), (4, .int v9)]) hx hb dB_texel_5 hl (by decide) rfl (fun ls hl => ?_)
  refine lv_aload hx hb dB_texel_7 (lv_at hl 0 rfl) ?_
  refine lv_ifnull hx hb dB_texel_9 ?_
  refine lv_aload hx hb dB_texel_12 (lv_at hl 0 rfl) ?_
  refine lv_iload_n hx hb dB_texel_14 rfl (lv_at hl 3 rfl) ?_
  refine W.callV (run_of (va_runVN (C := "TextureBank$Texture") (As := [.int lv9]) (rest := []) ⟨hx, hb, hml, hown, hB⟩ (kT_hasLevel l D cI (tq j) (cq j) sd wr sf lv g lv9) ⟨va_cnB 1 hB gwT_hasLevel rfl rfl rfl (hC.2.2.2.2.2.2.2.2.2.1) (hB _ wd_2) ydT_hasLevel ⟨Nat.le_of_ble_eq_true rfl, Nat.le_of_ble_eq_true rfl⟩, hB _ wd_248, hB _ ws_7⟩ (rd_V hC (hP.sub [2, 3] rfl) (hK.sub [0] rfl) (va_recv hK hP (ci := 0) (q0 := 2) rfl rfl)) rfl rfl hl.1 rfl (lv_room (Nat.le_of_ble_eq_true rfl)) dB_texel_15 ⟨Nat.zero_le _, Nat.zero_le _⟩)) ?_
  refine W.eq (g2 := F0 m 18 ls [.int (tt_has lv lv9)]) rfl ?_
  refine lv_if_ne (tgt := 31) hx hb dB_texel_18 (by decide) (fun c_1 => ?_) (fun c_1 => ?_)
  · refine lv_aload hx hb dB_texel_31 (lv_at hl 0 rfl) ?_
    refine lv_aload hx hb dB_texel_33 (lv_at hl 0 rfl) ?_
    refine lv_iload_n hx hb dB_texel_35 rfl (lv_at hl 3 rfl) ?_
    refine W.callV (run_of (va_runVN (C := "TextureBank$Texture") (As := [.int lv9]) (rest := [.ref (tq j)]) ⟨hx, hb, hml, hown, hB⟩ (kT_sideOf l D cI (tq j) (cq j) sd wr sf lv g lv9) ⟨va_cnB 1 hB gwT_sideOf rfl rfl rfl (hC.2.2.2.2.2.2.2.2.2.2.1) (hB _ wd_2) ydT_sideOf ⟨Nat.le_of_ble_eq_true rfl, Nat.le_of_ble_eq_true rfl⟩, hB _ wd_258, hB _ ws_8⟩ (rd_V hC (hP.sub [2, 3] rfl) (hK.sub [0] rfl) (va_recv hK hP (ci := 0) (q0 := 2) rfl rfl)) rfl rfl hl.1 rfl (lv_room (Nat.le_of_ble_eq_true rfl)) dB_texel_36 ⟨Nat.zero_le _, Nat.zero_le _⟩)) ?_
    refine W.eq (g2 := F0 m 39 ls [.int (sd >>> (lv9 &&& 31)), .ref (tq j)]) rfl ?_
    refine lv_iload_n hx hb dB_texel_39 rfl (lv_at hl 4 rfl) ?_
    refine lv_iload hx hb dB_texel_40 (lv_at hl 5 rfl) ?_
    refine W.callV (run_of (va_runVN (C := "TextureBank$Texture") (As := [.int (sd >>> (lv9 &&& 31)), .int u9, .int v9]) (rest := []) ⟨hx, hb, hml, hown, hB⟩ (kT_colourIn l D cI (tq j) (cq j) sd wr sf lv g (sd >>> (lv9 &&& 31)) u9 v9) ⟨va_cnB 3 hB gwT_colourIn rfl rfl rfl (hC.2.2.2.2.2.2.2.2.2.2.2.2.1) (hB _ wd_2) ydT_colourIn ⟨Nat.le_of_ble_eq_true rfl, Nat.le_of_ble_eq_true rfl⟩, hB _ wd_110, hB _ ws_3⟩ (rd_V hC (hP.sub [2, 3] rfl) (hK.sub [0] rfl) (va_recv hK hP (ci := 0) (q0 := 2) rfl rfl)) rfl rfl hl.1 rfl (lv_room (Nat.le_of_ble_eq_true rfl)) dB_texel_42 ⟨Nat.zero_le _, Nat.zero_le _⟩)) ?_
    refine W.eq (g2 := F0 m 45 ls [.int (tt_at g (sd >>> (lv9 &&& 31)) u9 v9)]) rfl ?_
    refine lv_istore (lv' := [(6, .int (tt_at g (sd >>> (lv9 &&& 31)) u9 v9)), (5, .ref (tq j)), (0, .ref x0), (1, .int (nI j)), (2, .int lv9), (3, .int u9), (4, .int v9)]) hx hb dB_texel_45 hl (by decide) rfl (fun ls hl => ?_)
    refine lv_iload hx hb dB_texel_47 (lv_at hl 0 rfl) ?_
    refine lv_iconst (v := (-1)) hx hb dB_texel_49 (by decide) ?_
    refine lv_icmp_ne (tgt := 63) hx hb dB_texel_50 (by decide) (fun c_2 => ?_) (fun c_2 => ?_)
    · refine lv_iload hx hb dB_texel_63 (lv_at hl 0 rfl) ?_
      exact W.iret hx hb hr (fun t ht _ => ⟨tbI (rfl), ht⟩) (fun q hq => nomatch hq) dB_texel_65
    · exact absurd c_2 hok
  · exact absurd c_1 hlv

set_option maxHeartbeats 4000000 in
set_option maxRecDepth 100000 in
theorem kB_lit_bad (l : Launch) (hl9 : l.stackTraces = false) (D : va_G) (cI cT : ClassId) (x0 tx ta : Nat) (n c9 : Int32) (co ti li : Int32) (hbad : tt_isCol co = 0 ∨ tt_isCol ti = 0 ∨ li < 0 ∨ ¬ li.toInt64 ≤ 65536) : vx_Met l yB_lit wB_lit ({ frames := 6, cells := 1, slots := 6, locals := 90 }) (th_P [.ref x0, .int co, .int ti, .int li] D [(cI, .int), (cT, .object "TextureBank$Texture")] [(x0, .inr (1, [.ref tx, .int n, .ref ta, .int c9]))]) th_Q (th_X "java/lang/IllegalArgumentException") 1 6 (fun _ => False) := by
  refine vx_ofW (cc := cB_lit) (maxL := 4) (ret := (some .int)) (by decide) rfl ?_
  intro p e s m args below meth c s₁ B hml hno9 hv
  obtain ⟨rfl, hC, hP, hK, hT, hZ⟩ := hv
  have hx := B.exec
  have hb := B.bytes
  have hr := B.returns
  have hB : ∀ w ∈ tbB, w.before _ s = true := fun w h => (atoms_spec (ws := wB_lit) B.pre) w (List.mem_cons_of_mem _ h)
  have hown : s.vm.findClass "TextureBank" = some m.cls := findClass_of_methodNamed B.named
  have hlocks := B.notSynchronized
  have hl := lv_entry ([.ref x0, .int co, .int ti, .int li]) (n := 4) (Nat.le_of_ble_eq_true rfl)
  rw [lg_entry_eq]
  generalize (lg_sl ([.ref x0, .int co, .int ti, .int li]) ++ List.replicate (4 - (lg_sl ([.ref x0, .int co, .int ti, .int li])).length) Slot.unset).toArray = ls at hl ⊢
  have hl : lv_has ls 4 [(0, .ref x0), (1, .int co), (2, .int ti), (3, .int li)] := hl
  refine lv_iload_n hx hb dB_lit_0 rfl (lv_at hl 1 rfl) ?_
  refine W.callV (W.runS (As := [.int co]) (rest := []) ⟨hx, hb, hml, hown, hB⟩ (kB_isColour l co) ⟨callB_of 1 hB gwB_isColour rfl rfl rfl (hB _ wd_1) (hB _ wd_303) ydB_isColour ⟨Nat.le_of_ble_eq_true rfl, Nat.le_of_ble_eq_true rfl⟩, hB _ wd_304⟩ (preEq) rfl rfl hl.1 rfl (lv_room (Nat.le_of_ble_eq_true rfl)) dB_lit_1 ⟨Nat.zero_le _, Nat.zero_le _⟩) ?_
  refine W.eq (g2 := F0 m 4 ls [.int (tt_isCol co)]) rfl ?_
  refine lv_if_eq (tgt := 14) hx hb dB_lit_4 (by decide) (fun c_1 => ?_) (fun c_1 => ?_)
  · obtain ⟨sa9, hsa9⟩ := hT.2.2.2.2.2.2.2.2.2.2.2.1
    exact tw_throwS (names := ["java/lang/Exception"]) (Y9 := "java/lang/RuntimeException") hx hb hl9 hown (by decide +kernel) (by decide +kernel) (by decide +kernel) tw_ia_0 tw_ia_1 tw_ia_2 tw_ia_5 (hB _ wd_216) (hB _ wd_11) hsa9 (tw_iaat hB hT) tw_ia_ok hZ.1 hZ.2 va_S.rf (by rw [hml]; exact hl.1) dB_lit_14 dB_lit_17 dB_lit_18 dB_lit_20 dB_lit_23 (fun x9 h9 => (hno9 x9 h9).elim) (Nat.le_of_ble_eq_true rfl) (Nat.le_of_ble_eq_true rfl) (Nat.le_of_ble_eq_true rfl) (Nat.le_of_ble_eq_true rfl) hlocks (fun t h1 h2 h3 => ⟨(), trivial, rfl, h2, fun q hq _ => h3 q hq⟩) (fun q hq => nomatch hq) (Nat.le_refl _) (Nat.le_refl _)
  · refine lv_iload_n hx hb dB_lit_7 rfl (lv_at hl 2 rfl) ?_
    refine W.callV (W.runS (As := [.int ti]) (rest := []) ⟨hx, hb, hml, hown, hB⟩ (kB_isColour l ti) ⟨callB_of 1 hB gwB_isColour rfl rfl rfl (hB _ wd_1) (hB _ wd_303) ydB_isColour ⟨Nat.le_of_ble_eq_true rfl, Nat.le_of_ble_eq_true rfl⟩, hB _ wd_304⟩ (preEq) rfl rfl hl.1 rfl (lv_room (Nat.le_of_ble_eq_true rfl)) dB_lit_8 ⟨Nat.zero_le _, Nat.zero_le _⟩) ?_
    refine W.eq (g2 := F0 m 11 ls [.int (tt_isCol ti)]) rfl ?_
    refine lv_if_ne (tgt := 24) hx hb dB_lit_11 (by decide) (fun c_2 => ?_) (fun c_2 => ?_)
    · refine lv_iload_n hx hb dB_lit_24 rfl (lv_at hl 3 rfl) ?_
      refine lv_if_lt (tgt := 37) hx hb dB_lit_25 (by decide) (fun c_3 => ?_) (fun c_3 => ?_)
      · obtain ⟨sa9, hsa9⟩ := hT.2.2.2.2.2.2.2.2.2.2.2.2
        exact tw_throwS (names := ["java/lang/Exception"]) (Y9 := "java/lang/RuntimeException") hx hb hl9 hown (by decide +kernel) (by decide +kernel) (by decide +kernel) tw_ia_0 tw_ia_1 tw_ia_2 tw_ia_5 (hB _ wd_216) (hB _ wd_11) hsa9 (tw_iaat hB hT) tw_ia_ok hZ.1 hZ.2 va_S.rf (by rw [hml]; exact hl.1) dB_lit_37 dB_lit_40 dB_lit_41 dB_lit_43 dB_lit_46 (fun x9 h9 => (hno9 x9 h9).elim) (Nat.le_of_ble_eq_true rfl) (Nat.le_of_ble_eq_true rfl) (Nat.le_of_ble_eq_true rfl) (Nat.le_of_ble_eq_true rfl) hlocks (fun t h1 h2 h3 => ⟨(), trivial, rfl, h2, fun q hq _ => h3 q hq⟩) (fun q hq => nomatch hq) (Nat.le_refl _) (Nat.le_refl _)
      · refine lv_iload_n hx hb dB_lit_28 rfl (lv_at hl 3 rfl) ?_
        refine lv_i2l hx hb dB_lit_29 rfl ?_
        refine lv_ldc2 (v := 65536) hx hb hown (hB _ wd_308) dB_lit_30 ?_
        refine W.lcmp hx hb dB_lit_33 ?_
        refine lv_if_le (tgt := 47) hx hb dB_lit_34 (by decide) (fun c_4 => ?_) (fun c_4 => ?_)
        · exact absurd ((lg_cmp_le _ _).mp c_4) (hbad.elim (fun h => absurd h c_1) (fun h => h.elim (fun h => absurd h c_2) (fun h => h.elim (fun h => absurd h c_3) id)))
        · obtain ⟨sa9, hsa9⟩ := hT.2.2.2.2.2.2.2.2.2.2.2.2
          exact tw_throwS (names := ["java/lang/Exception"]) (Y9 := "java/lang/RuntimeException") hx hb hl9 hown (by decide +kernel) (by decide +kernel) (by decide +kernel) tw_ia_0 tw_ia_1 tw_ia_2 tw_ia_5 (hB _ wd_216) (hB _ wd_11) hsa9 (tw_iaat hB hT) tw_ia_ok hZ.1 hZ.2 va_S.rf (by rw [hml]; exact hl.1) dB_lit_37 dB_lit_40 dB_lit_41 dB_lit_43 dB_lit_46 (fun x9 h9 => (hno9 x9 h9).elim) (Nat.le_of_ble_eq_true rfl) (Nat.le_of_ble_eq_true rfl) (Nat.le_of_ble_eq_true rfl) (Nat.le_of_ble_eq_true rfl) hlocks (fun t h1 h2 h3 => ⟨(), trivial, rfl, h2, fun q hq _ => h3 q hq⟩) (fun q hq => nomatch hq) (Nat.le_refl _) (Nat.le_refl _)
    · obtain ⟨sa9, hsa9⟩ := hT.2.2.2.2.2.2.2.2.2.2.2.1
      exact tw_throwS (names := ["java/lang/Exception"]) (Y9 := "java/lang/RuntimeException") hx hb hl9 hown (by decide +kernel) (by decide +kernel) (by decide +kernel) tw_ia_0 tw_ia_1 tw_ia_2 tw_ia_5 (hB _ wd_216) (hB _ wd_11) hsa9 (tw_iaat hB hT) tw_ia_ok hZ.1 hZ.2 va_S.rf (by rw [hml]; exact hl.1) dB_lit_14 dB_lit_17 dB_lit_18 dB_lit_20 dB_lit_23 (fun x9 h9 => (hno9 x9 h9).elim) (Nat.le_of_ble_eq_true rfl) (Nat.le_of_ble_eq_true rfl) (Nat.le_of_ble_eq_true rfl) (Nat.le_of_ble_eq_true rfl) hlocks (fun t h1 h2 h3 => ⟨(), trivial, rfl, h2, fun q hq _ => h3 q hq⟩) (fun q hq => nomatch hq) (Nat.le_refl _) (Nat.le_refl _)

set_option maxHeartbeats 4000000 in
set_option maxRecDepth 100000 in
theorem kB_lit_ok (l : Launch) (D : va_G) (cI cT : ClassId) (x0 tx ta : Nat) (n c9 : Int32) (co ti li : Int32) (h1 : ¬ tt_isCol co = 0) (h2 : ¬ tt_isCol ti = 0) (h3 : ¬ li < 0) (h4 : li.toInt64 ≤ 65536) : Met l yB_lit wB_lit (k2_rm 2 50) (rd_P [.ref x0, .int co, .int ti, .int li] D [(cI, .int), (cT, .object "TextureBank$Texture")] [(x0, .inr (1, [.ref tx, .int n, .ref ta, .int c9]))]) (k2_QcV (.int (tt_col (tt_litN co ti li 16) (tt_litN co ti li 8) (tt_litN co ti li 0)))) 0 0 (fun _ => False) := by
  refine Met.ofW (cc := cB_lit) (maxL := 4) (ret := (some .int)) (by decide) rfl ?_
  intro p e s m args below meth c s₁ B hml hv
  obtain ⟨rfl, hC, hP, hK⟩ := hv
  have hx := B.exec
  have hb := B.bytes
  have hr := B.returns
  have hB : ∀ w ∈ tbB, w.before _ s = true := fun w h => (atoms_spec (ws := wB_lit) B.pre) w (List.mem_cons_of_mem _ h)
  have hown : s.vm.findClass "TextureBank" = some m.cls := findClass_of_methodNamed B.named
  have hlocks := B.notSynchronized
  have hl := lv_entry ([.ref x0, .int co, .int ti, .int li]) (n := 4) (Nat.le_of_ble_eq_true rfl)
  rw [lg_entry_eq]
  generalize (lg_sl ([.ref x0, .int co, .int ti, .int li]) ++ List.replicate (4 - (lg_sl ([.ref x0, .int co, .int ti, .int li])).length) Slot.unset).toArray = ls at hl ⊢
  have hl : lv_has ls 4 [(0, .ref x0), (1, .int co), (2, .int ti), (3, .int li)] := hl
  refine lv_iload_n hx hb dB_lit_0 rfl (lv_at hl 1 rfl) ?_
  refine W.callV (W.runS (As := [.int co]) (rest := []) ⟨hx, hb, hml, hown, hB⟩ (kB_isColour l co) ⟨callB_of 1 hB gwB_isColour rfl rfl rfl (hB _ wd_1) (hB _ wd_303) ydB_isColour ⟨Nat.le_of_ble_eq_true rfl, Nat.le_of_ble_eq_true rfl⟩, hB _ wd_304⟩ (preEq) rfl rfl hl.1 rfl (lv_room (Nat.le_of_ble_eq_true rfl)) dB_lit_1 ⟨Nat.zero_le _, Nat.zero_le _⟩) ?_
  refine W.eq (g2 := F0 m 4 ls [.int (tt_isCol co)]) rfl ?_
  refine lv_if_eq (tgt := 14) hx hb dB_lit_4 (by decide) (fun c_1 => ?_) (fun c_1 => ?_)
  · exact absurd c_1 h1
  · refine lv_iload_n hx hb dB_lit_7 rfl (lv_at hl 2 rfl) ?_
    refine W.callV (W.runS (As := [.int ti]) (rest := []) ⟨hx, hb, hml, hown, hB⟩ (kB_isColour l ti) ⟨callB_of 1 hB gwB_isColour rfl rfl rfl (hB _ wd_1) (hB _ wd_303) ydB_isColour ⟨Nat.le_of_ble_eq_true rfl, Nat.le_of_ble_eq_true rfl⟩, hB _ wd_304⟩ (preEq) rfl rfl hl.1 rfl (lv_room (Nat.le_of_ble_eq_true rfl)) dB_lit_8 ⟨Nat.zero_le _, Nat.zero_le _⟩) ?_
    refine W.eq (g2 := F0 m 11 ls [.int (tt_isCol ti)]) rfl ?_
    refine lv_if_ne (tgt := 24) hx hb dB_lit_11 (by decide) (fun c_2 => ?_) (fun c_2 => ?_)
    · refine lv_iload_n hx hb dB_lit_24 rfl (lv_at hl 3 rfl) ?_
      refine lv_if_lt (tgt := 37) hx hb dB_lit_25 (by decide) (fun c_3 => ?_) (fun c_3 => ?_)
      · exact absurd c_3 h3
      · refine lv_iload_n hx hb dB_lit_28 rfl (lv_at hl 3 rfl) ?_
        refine lv_i2l hx hb dB_lit_29 rfl ?_
        refine lv_ldc2 (v := 65536) hx hb hown (hB _ wd_308) dB_lit_30 ?_
        refine W.lcmp hx hb dB_lit_33 ?_
        refine lv_if_le (tgt := 47) hx hb dB_lit_34 (by decide) (fun c_4 => ?_) (fun c_4 => ?_)
        · refine lv_iload_n hx hb dB_lit_47 rfl (lv_at hl 1 rfl) ?_
          refine lv_iload_n hx hb dB_lit_48 rfl (lv_at hl 2 rfl) ?_
          refine lv_iload_n hx hb dB_lit_49 rfl (lv_at hl 3 rfl) ?_
          refine lv_bipush (v := 16) hx hb dB_lit_50 (by decide) ?_
          refine W.callV (W.runS (As := [.int co, .int ti, .int li, .int 16]) (rest := []) ⟨hx, hb, hml, hown, hB⟩ (kB_litNumber l co ti li 16) ⟨callB_of 4 hB gwB_litNumber rfl rfl rfl (hB _ wd_1) (hB _ wd_310) ydB_litNumber ⟨Nat.le_of_ble_eq_true rfl, Nat.le_of_ble_eq_true rfl⟩, hB _ wd_311⟩ (preEq) rfl rfl hl.1 rfl (lv_room (Nat.le_of_ble_eq_true rfl)) dB_lit_52 ⟨Nat.zero_le _, Nat.zero_le _⟩) ?_
          refine W.eq (g2 := F0 m 55 ls [.int (tt_litN co ti li 16)]) rfl ?_
          refine lv_iload_n hx hb dB_lit_55 rfl (lv_at hl 1 rfl) ?_
          refine lv_iload_n hx hb dB_lit_56 rfl (lv_at hl 2 rfl) ?_
          refine lv_iload_n hx hb dB_lit_57 rfl (lv_at hl 3 rfl) ?_
          refine lv_bipush (v := 8) hx hb dB_lit_58 (by decide) ?_
          refine W.callV (W.runS (As := [.int co, .int ti, .int li, .int 8]) (rest := [.int (tt_litN co ti li 16)]) ⟨hx, hb, hml, hown, hB⟩ (kB_litNumber l co ti li 8) ⟨callB_of 4 hB gwB_litNumber rfl rfl rfl (hB _ wd_1) (hB _ wd_310) ydB_litNumber ⟨Nat.le_of_ble_eq_true rfl, Nat.le_of_ble_eq_true rfl⟩, hB _ wd_311⟩ (preEq) rfl rfl hl.1 rfl (lv_room (Nat.le_of_ble_eq_true rfl)) dB_lit_60 ⟨Nat.zero_le _, Nat.zero_le _⟩) ?_
          refine W.eq (g2 := F0 m 63 ls [.int (tt_litN co ti li 8), .int (tt_litN co ti li 16)]) rfl ?_
          refine lv_iload_n hx hb dB_lit_63 rfl (lv_at hl 1 rfl) ?_
          refine lv_iload_n hx hb dB_lit_64 rfl (lv_at hl 2 rfl) ?_
          refine lv_iload_n hx hb dB_lit_65 rfl (lv_at hl 3 rfl) ?_
          refine lv_iconst (v := 0) hx hb dB_lit_66 (by decide) ?_
          refine W.callV (W.runS (As := [.int co, .int ti, .int li, .int 0]) (rest := [.int (tt_litN co ti li 8), .int (tt_litN co ti li 16)]) ⟨hx, hb, hml, hown, hB⟩ (kB_litNumber l co ti li 0) ⟨callB_of 4 hB gwB_litNumber rfl rfl rfl (hB _ wd_1) (hB _ wd_310) ydB_litNumber ⟨Nat.le_of_ble_eq_true rfl, Nat.le_of_ble_eq_true rfl⟩, hB _ wd_311⟩ (preEq) rfl rfl hl.1 rfl (lv_room (Nat.le_of_ble_eq_true rfl)) dB_lit_67 ⟨Nat.zero_le _, Nat.zero_le _⟩) ?_
          refine W.eq (g2 := F0 m 70 ls [.int (tt_litN co ti li 0), .int (tt_litN co ti li 8), .int (tt_litN co ti li 16)]) rfl ?_
          refine W.callV (W.runS (As := [.int (tt_litN co ti li 16), .int (tt_litN co ti li 8), .int (tt_litN co ti li 0)]) (rest := []) ⟨hx, hb, hml, hown, hB⟩ (kB_colourOf l (tt_litN co ti li 16) (tt_litN co ti li 8) (tt_litN co ti li 0)) ⟨callB_of 3 hB gwB_colourOf rfl rfl rfl (hB _ wd_1) (hB _ wd_68) ydB_colourOf ⟨Nat.le_of_ble_eq_true rfl, Nat.le_of_ble_eq_true rfl⟩, hB _ wd_69⟩ (preEq) rfl rfl hl.1 rfl (lv_room (Nat.le_of_ble_eq_true rfl)) dB_lit_70 ⟨Nat.zero_le _, Nat.zero_le _⟩) ?_
          refine W.eq (g2 := F0 m 73 ls [.int (tt_col (tt_litN co ti li 16) (tt_litN co ti li 8) (tt_litN co ti li 0))]) rfl ?_
          exact W.iret hx hb hr (fun t ht _ => ⟨tbI (rfl), ht⟩) (fun q hq => nomatch hq) dB_lit_73
        · exact absurd ((lg_cmp_le _ _).mpr h4) c_4
    · exact absurd c_2 h2
end
section
def mm_isNum (x : Int32) : Int32 := if x < 0 then 0 else if 256 ≤ x then 0 else 1
def mm_part (c w : Int32) : Int32 := if w = 0 then c / 65536 else if w = 1 then c / 256 - c / 256 / 256 * 256 else c - c / 256 * 256
def mm_div (a b : Int64) : Int64 := if a / b * b ≤ a then a / b else a / b - 1
def mm_into (si w : Int32) (k : Int64) : Int32 :=
  if w = 0 then (k - si.toInt64 * mm_div k si.toInt64).toInt32
  else if w = 1 then (if 0 ≤ k then (if k < si.toInt64 then k.toInt32 else (si.toInt64 - 1).toInt32) else (0 : Int64).toInt32)
  else if k - 2 * si.toInt64 * mm_div k (2 * si.toInt64) < si.toInt64 then (k - 2 * si.toInt64 * mm_div k (2 * si.toInt64)).toInt32
  else (2 * si.toInt64 - 1 - (k - 2 * si.toInt64 * mm_div k (2 * si.toInt64))).toInt32
set_option maxHeartbeats 4000000 in
set_option maxRecDepth 100000 in
theorem kM_isNumber (l : Launch) (x : Int32) : Met l yM_isNumber wM_isNumber (k2_rm 0 0) (fun v _ => v = ([.int x] : List Value).toArray) (k2_QcV (.int (mm_isNum x))) 0 0 (fun _ => False) := by
  refine Met.ofW (cc := cM_isNumber) (maxL := 1) (ret := (some .boolean)) (by decide) rfl ?_
  intro p e s m args below meth c s₁ B hml hv
  obtain rfl := hv
  have hx := B.exec
  have hb := B.bytes
  have hr := B.returns
  have hB : ∀ w ∈ tbB, w.before _ s = true := fun w h => (atoms_spec (ws := wM_isNumber) B.pre) w (List.mem_cons_of_mem _ h)
  have hown : s.vm.findClass "TextureBankModel" = some m.cls := findClass_of_methodNamed B.named
  have hlocks := B.notSynchronized
  have hl := lv_entry ([.int x]) (n := 1) (Nat.le_of_ble_eq_true rfl)
  rw [lg_entry_eq]
  generalize (lg_sl ([.int x]) ++ List.replicate (1 - (lg_sl ([.int x])).length) Slot.unset).toArray = ls at hl ⊢
  have hl : lv_has ls 1 [(0, .int x)] := hl
  refine lv_iload_n hx hb dM_isNumber_0 rfl (lv_at hl 0 rfl) ?_
  refine lv_if_lt (tgt := 15) hx hb dM_isNumber_1 (by decide) (fun c_1 => ?_) (fun c_1 => ?_)
  · refine lv_iconst (v := 0) hx hb dM_isNumber_15 (by decide) ?_
    exact W.zret hx hb hr rfl (fun t ht _ => ⟨tbI (by unfold mm_isNum; (first | rw [if_pos c_1] | rw [if_neg c_1])), ht⟩) (fun q hq => nomatch hq) dM_isNumber_16
  · refine lv_iload_n hx hb dM_isNumber_4 rfl (lv_at hl 0 rfl) ?_
    refine lv_sipush (v := 256) hx hb dM_isNumber_5 (by decide) ?_
    refine lv_icmp_ge (tgt := 15) hx hb dM_isNumber_8 (by decide) (fun c_2 => ?_) (fun c_2 => ?_)
    · refine lv_iconst (v := 0) hx hb dM_isNumber_15 (by decide) ?_
      exact W.zret hx hb hr rfl (fun t ht _ => ⟨tbI (by unfold mm_isNum; (first | rw [if_pos c_1] | rw [if_neg c_1]); (first | rw [if_pos c_2] | rw [if_neg c_2])), ht⟩) (fun q hq => nomatch hq) dM_isNumber_16
    · refine lv_iconst (v := 1) hx hb dM_isNumber_11 (by decide) ?_
      refine lv_goto (tgt := 16) hx hb dM_isNumber_12 (by decide) ?_
      exact W.zret hx hb hr rfl (fun t ht _ => ⟨tbI (by unfold mm_isNum; (first | rw [if_pos c_1] | rw [if_neg c_1]); (first | rw [if_pos c_2] | rw [if_neg c_2])), ht⟩) (fun q hq => nomatch hq) dM_isNumber_16

set_option maxHeartbeats 4000000 in
set_option maxRecDepth 100000 in
theorem kM_part (l : Launch) (co : Int32) (w : Int32) : Met l yM_part wM_part (k2_rm 0 0) (fun v _ => v = ([.int co, .int w] : List Value).toArray) (k2_QcV (.int (mm_part co w))) 0 0 (fun _ => False) := by
  refine Met.ofW (cc := cM_part) (maxL := 2) (ret := (some .int)) (by decide) rfl ?_
  intro p e s m args below meth c s₁ B hml hv
  obtain rfl := hv
  have hx := B.exec
  have hb := B.bytes
  have hr := B.returns
  have hB : ∀ w ∈ tbB, w.before _ s = true := fun w h => (atoms_spec (ws := wM_part) B.pre) w (List.mem_cons_of_mem _ h)
  have hown : s.vm.findClass "TextureBankModel" = some m.cls := findClass_of_methodNamed B.named
  have hlocks := B.notSynchronized
  have hl := lv_entry ([.int co, .int w]) (n := 2) (Nat.le_of_ble_eq_true rfl)
  rw [lg_entry_eq]
  generalize (lg_sl ([.int co, .int w]) ++ List.replicate (2 - (lg_sl ([.int co, .int w])).length) Slot.unset).toArray = ls at hl ⊢
  have hl : lv_has ls 2 [(0, .int co), (1, .int w)] := hl
  refine lv_iload_n hx hb dM_part_0 rfl (lv_at hl 1 rfl) ?_
  refine lv_if_ne (tgt := 11) hx hb dM_part_1 (by decide) (fun c_1 => ?_) (fun c_1 => ?_)
  · refine lv_iload_n hx hb dM_part_11 rfl (lv_at hl 1 rfl) ?_
    refine lv_iconst (v := 1) hx hb dM_part_12 (by decide) ?_
    refine lv_icmp_ne (tgt := 28) hx hb dM_part_13 (by decide) (fun c_2 => ?_) (fun c_2 => ?_)
    · refine lv_iload_n hx hb dM_part_28 rfl (lv_at hl 0 rfl) ?_
      refine lv_sipush (v := 256) hx hb dM_part_29 (by decide) ?_
      refine lv_irem hx hb dM_part_32 (by decide) ?_
      exact W.iret hx hb hr (fun t ht _ => ⟨tbI (by unfold mm_part; (first | rw [if_pos c_1] | rw [if_neg c_1]); (first | rw [if_pos c_2] | rw [if_neg c_2])), ht⟩) (fun q hq => nomatch hq) dM_part_33
    · refine lv_iload_n hx hb dM_part_16 rfl (lv_at hl 0 rfl) ?_
      refine lv_sipush (v := 256) hx hb dM_part_17 (by decide) ?_
      refine lv_idiv hx hb dM_part_20 (by decide) ?_
      refine lv_sipush (v := 256) hx hb dM_part_21 (by decide) ?_
      refine lv_irem hx hb dM_part_24 (by decide) ?_
      refine lv_goto (tgt := 33) hx hb dM_part_25 (by decide) ?_
      exact W.iret hx hb hr (fun t ht _ => ⟨tbI (by unfold mm_part; (first | rw [if_pos c_1] | rw [if_neg c_1]); (first | rw [if_pos c_2] | rw [if_neg c_2])), ht⟩) (fun q hq => nomatch hq) dM_part_33
  · refine lv_iload_n hx hb dM_part_4 rfl (lv_at hl 0 rfl) ?_
    refine lv_ldc (v := 65536) hx hb hown (hB _ wd_364) dM_part_5 ?_
    refine lv_idiv hx hb dM_part_7 (by decide) ?_
    refine lv_goto (tgt := 33) hx hb dM_part_8 (by decide) ?_
    exact W.iret hx hb hr (fun t ht _ => ⟨tbI (by unfold mm_part; (first | rw [if_pos c_1] | rw [if_neg c_1])), ht⟩) (fun q hq => nomatch hq) dM_part_33

set_option maxHeartbeats 4000000 in
set_option maxRecDepth 100000 in
theorem kM_isPlace (l : Launch) (x : Int32) : Met l yM_isPlace wM_isPlace (k2_rm 0 0) (fun v _ => v = ([.int x] : List Value).toArray) (k2_QcV (.int (tt_isPlace x))) 0 0 (fun _ => False) := by
  refine Met.ofW (cc := cM_isPlace) (maxL := 1) (ret := (some .boolean)) (by decide) rfl ?_
  intro p e s m args below meth c s₁ B hml hv
  obtain rfl := hv
  have hx := B.exec
  have hb := B.bytes
  have hr := B.returns
  have hB : ∀ w ∈ tbB, w.before _ s = true := fun w h => (atoms_spec (ws := wM_isPlace) B.pre) w (List.mem_cons_of_mem _ h)
  have hown : s.vm.findClass "TextureBankModel" = some m.cls := findClass_of_methodNamed B.named
  have hlocks := B.notSynchronized
  have hl := lv_entry ([.int x]) (n := 1) (Nat.le_of_ble_eq_true rfl)
  rw [lg_entry_eq]
  generalize (lg_sl ([.int x]) ++ List.replicate (1 - (lg_sl ([.int x])).length) Slot.unset).toArray = ls at hl ⊢
  have hl : lv_has ls 1 [(0, .int x)] := hl
  refine lv_iload_n hx hb dM_isPlace_0 rfl (lv_at hl 0 rfl) ?_
  refine lv_ldc (v := (-16777216)) hx hb hown (hB _ wd_396) dM_isPlace_1 ?_
  refine lv_icmp_lt (tgt := 16) hx hb dM_isPlace_3 (by decide) (fun c_1 => ?_) (fun c_1 => ?_)
  · refine lv_iconst (v := 0) hx hb dM_isPlace_16 (by decide) ?_
    exact W.zret hx hb hr rfl (fun t ht _ => ⟨tbI (by unfold tt_isPlace; (first | rw [if_pos c_1] | rw [if_neg c_1])), ht⟩) (fun q hq => nomatch hq) dM_isPlace_17
  · refine lv_iload_n hx hb dM_isPlace_6 rfl (lv_at hl 0 rfl) ?_
    refine lv_ldc (v := 16777216) hx hb hown (hB _ wd_382) dM_isPlace_7 ?_
    refine lv_icmp_gt (tgt := 16) hx hb dM_isPlace_9 (by decide) (fun c_2 => ?_) (fun c_2 => ?_)
    · refine lv_iconst (v := 0) hx hb dM_isPlace_16 (by decide) ?_
      exact W.zret hx hb hr rfl (fun t ht _ => ⟨tbI (by unfold tt_isPlace; (first | rw [if_pos c_1] | rw [if_neg c_1]); (first | rw [if_pos c_2] | rw [if_neg c_2])), ht⟩) (fun q hq => nomatch hq) dM_isPlace_17
    · refine lv_iconst (v := 1) hx hb dM_isPlace_12 (by decide) ?_
      refine lv_goto (tgt := 17) hx hb dM_isPlace_13 (by decide) ?_
      exact W.zret hx hb hr rfl (fun t ht _ => ⟨tbI (by unfold tt_isPlace; (first | rw [if_pos c_1] | rw [if_neg c_1]); (first | rw [if_pos c_2] | rw [if_neg c_2])), ht⟩) (fun q hq => nomatch hq) dM_isPlace_17

set_option maxHeartbeats 4000000 in
set_option maxRecDepth 100000 in
theorem kM_div (l : Launch) (x : Int64) (y : Int64) (hy : ¬ y = 0) : Met l yM_div wM_div (k2_rm 0 0) (fun v _ => v = ([.long x, .long y] : List Value).toArray) (k2_QcV (.long (mm_div x y))) 0 0 (fun _ => False) := by
  refine Met.ofW (cc := cM_div) (maxL := 6) (ret := (some .long)) (by decide) rfl ?_
  intro p e s m args below meth c s₁ B hml hv
  obtain rfl := hv
  have hx := B.exec
  have hb := B.bytes
  have hr := B.returns
  have hB : ∀ w ∈ tbB, w.before _ s = true := fun w h => (atoms_spec (ws := wM_div) B.pre) w (List.mem_cons_of_mem _ h)
  have hown : s.vm.findClass "TextureBankModel" = some m.cls := findClass_of_methodNamed B.named
  have hlocks := B.notSynchronized
  have hl := lv_entry ([.long x, .long y]) (n := 6) (Nat.le_of_ble_eq_true rfl)
  rw [lg_entry_eq]
  generalize (lg_sl ([.long x, .long y]) ++ List.replicate (6 - (lg_sl ([.long x, .long y])).length) Slot.unset).toArray = ls at hl ⊢
  have hl : lv_has ls 6 [(0, .long x), (2, .long y)] := hl
  refine lv_lload_n hx hb dM_div_0 rfl (lv_at hl 0 rfl) ?_
  refine lv_lload_n hx hb dM_div_1 rfl (lv_at hl 1 rfl) ?_
  refine lv_ldiv hx hb dM_div_2 hy ?_
  refine lv_lstore (lv' := [(4, .long (x / y)), (0, .long x), (2, .long y)]) hx hb dM_div_3 hl (by decide) rfl (fun ls hl => ?_)
  refine lv_lload hx hb dM_div_5 (lv_at hl 0 rfl) ?_
  refine lv_lload_n hx hb dM_div_7 rfl (lv_at hl 2 rfl) ?_
  refine lv_lmul hx hb dM_div_8 ?_
  refine lv_lload_n hx hb dM_div_9 rfl (lv_at hl 1 rfl) ?_
  refine W.lcmp hx hb dM_div_10 ?_
  refine lv_if_le (tgt := 21) hx hb dM_div_11 (by decide) (fun c_1 => ?_) (fun c_1 => ?_)
  · refine lv_lload hx hb dM_div_21 (lv_at hl 0 rfl) ?_
    exact W.lret hx hb hr (fun t ht _ => ⟨tbL (by unfold mm_div; (first | rw [if_pos ((lg_cmp_le _ _).mp c_1)] | rw [if_neg ((lg_cmp_le _ _).mp c_1)])), ht⟩) (fun q hq => nomatch hq) dM_div_23
  · refine lv_lload hx hb dM_div_14 (lv_at hl 0 rfl) ?_
    refine lv_lconst (v := 1) hx hb dM_div_16 (by decide) ?_
    refine lv_lsub hx hb dM_div_17 ?_
    refine lv_goto (tgt := 23) hx hb dM_div_18 (by decide) ?_
    exact W.lret hx hb hr (fun t ht _ => ⟨tbL (by unfold mm_div; (first | rw [if_pos (fun h9 => c_1 ((lg_cmp_le _ _).mpr h9))] | rw [if_neg (fun h9 => c_1 ((lg_cmp_le _ _).mpr h9))])), ht⟩) (fun q hq => nomatch hq) dM_div_23

set_option maxHeartbeats 4000000 in
set_option maxRecDepth 100000 in
theorem kM_isThere (l : Launch) (D : va_G) (cI : ClassId) (m0 a1 a2 a3 a4 a5 a6 : Nat) (th mn zz si : Int32) (f1 f2 f3 f4 f5 f6 : Nat → Int32) (t9 : Int32) : Met l yM_isThere wM_isThere (k2_rm 0 0) (rd_P [.ref m0, .int t9] D [(cI, .int)] [(m0, .inr (2, [.int th, .int mn, .ref a1, .ref a2, .ref a3, .ref a4, .int zz, .ref a5, .ref a6, .int si])), (a1, .inl (cI, 8, .inl f1)), (a2, .inl (cI, 8, .inl f2)), (a3, .inl (cI, 8, .inl f3)), (a4, .inl (cI, 8192, .inl f4)), (a5, .inl (cI, 1024, .inl f5)), (a6, .inl (cI, 1024, .inl f6))]) (k2_QcV (.int (tt_has mn t9))) 0 0 (fun _ => False) := by
  refine Met.ofW (cc := cM_isThere) (maxL := 2) (ret := (some .boolean)) (by decide) rfl ?_
  intro p e s m args below meth c s₁ B hml hv
  obtain ⟨rfl, hC, hP, hK⟩ := hv
  have hx := B.exec
  have hb := B.bytes
  have hr := B.returns
  have hB : ∀ w ∈ tbB, w.before _ s = true := fun w h => (atoms_spec (ws := wM_isThere) B.pre) w (List.mem_cons_of_mem _ h)
  have hown : s.vm.findClass "TextureBankModel" = some m.cls := findClass_of_methodNamed B.named
  have hlocks := B.notSynchronized
  have hl := lv_entry ([.ref m0, .int t9]) (n := 2) (Nat.le_of_ble_eq_true rfl)
  rw [lg_entry_eq]
  generalize (lg_sl ([.ref m0, .int t9]) ++ List.replicate (2 - (lg_sl ([.ref m0, .int t9])).length) Slot.unset).toArray = ls at hl ⊢
  have hl : lv_has ls 2 [(0, .ref m0), (1, .int t9)] := hl
  refine lv_iload_n hx hb dM_isThere_0 rfl (lv_at hl 1 rfl) ?_
  refine lv_if_lt (tgt := 16) hx hb dM_isThere_1 (by decide) (fun c_1 => ?_) (fun c_1 => ?_)
  · refine lv_iconst (v := 0) hx hb dM_isThere_16 (by decide) ?_
    exact W.zret hx hb hr rfl (fun t ht _ => ⟨tbI (by unfold tt_has; (first | rw [if_pos c_1] | rw [if_neg c_1])), ht⟩) (fun q hq => nomatch hq) dM_isThere_17
  · refine lv_iload_n hx hb dM_isThere_4 rfl (lv_at hl 1 rfl) ?_
    refine lv_aload_n hx hb dM_isThere_5 rfl (lv_at hl 0 rfl) ?_
    refine va_get (D := D) (ci := 2) (v := .int mn) (C := RM) (T := FM) (N := 10) hx hb hB inM hown hK hP 0 rfl rfl 1 (by decide) (hB _ wd_323) (fun _ h9 => h9) rfl dM_isThere_6 ?_
    refine lv_icmp_ge (tgt := 16) hx hb dM_isThere_9 (by decide) (fun c_2 => ?_) (fun c_2 => ?_)
    · refine lv_iconst (v := 0) hx hb dM_isThere_16 (by decide) ?_
      exact W.zret hx hb hr rfl (fun t ht _ => ⟨tbI (by unfold tt_has; (first | rw [if_pos c_1] | rw [if_neg c_1]); (first | rw [if_pos c_2] | rw [if_neg c_2])), ht⟩) (fun q hq => nomatch hq) dM_isThere_17
    · refine lv_iconst (v := 1) hx hb dM_isThere_12 (by decide) ?_
      refine lv_goto (tgt := 17) hx hb dM_isThere_13 (by decide) ?_
      exact W.zret hx hb hr rfl (fun t ht _ => ⟨tbI (by unfold tt_has; (first | rw [if_pos c_1] | rw [if_neg c_1]); (first | rw [if_pos c_2] | rw [if_neg c_2])), ht⟩) (fun q hq => nomatch hq) dM_isThere_17

set_option maxHeartbeats 4000000 in
set_option maxRecDepth 100000 in
theorem kM_thrown (l : Launch) (D : va_G) (cI : ClassId) (m0 a1 a2 a3 a4 a5 a6 : Nat) (th mn zz si : Int32) (f1 f2 f3 f4 f5 f6 : Nat → Int32)  : Met l yM_thrown wM_thrown (k2_rm 0 0) (rd_P [.ref m0] D [(cI, .int)] [(m0, .inr (2, [.int th, .int mn, .ref a1, .ref a2, .ref a3, .ref a4, .int zz, .ref a5, .ref a6, .int si])), (a1, .inl (cI, 8, .inl f1)), (a2, .inl (cI, 8, .inl f2)), (a3, .inl (cI, 8, .inl f3)), (a4, .inl (cI, 8192, .inl f4)), (a5, .inl (cI, 1024, .inl f5)), (a6, .inl (cI, 1024, .inl f6))]) (k2_QcV (.int th)) 0 0 (fun _ => False) := by
  refine Met.ofW (cc := cM_thrown) (maxL := 1) (ret := (some .int)) (by decide) rfl ?_
  intro p e s m args below meth c s₁ B hml hv
  obtain ⟨rfl, hC, hP, hK⟩ := hv
  have hx := B.exec
  have hb := B.bytes
  have hr := B.returns
  have hB : ∀ w ∈ tbB, w.before _ s = true := fun w h => (atoms_spec (ws := wM_thrown) B.pre) w (List.mem_cons_of_mem _ h)
  have hown : s.vm.findClass "TextureBankModel" = some m.cls := findClass_of_methodNamed B.named
  have hlocks := B.notSynchronized
  have hl := lv_entry ([.ref m0]) (n := 1) (Nat.le_of_ble_eq_true rfl)
  rw [lg_entry_eq]
  generalize (lg_sl ([.ref m0]) ++ List.replicate (1 - (lg_sl ([.ref m0])).length) Slot.unset).toArray = ls at hl ⊢
  have hl : lv_has ls 1 [(0, .ref m0)] := hl
  refine lv_aload_n hx hb dM_thrown_0 rfl (lv_at hl 0 rfl) ?_
  refine va_get (D := D) (ci := 2) (v := .int th) (C := RM) (T := FM) (N := 10) hx hb hB inM hown hK hP 0 rfl rfl 0 (by decide) (hB _ wd_322) (fun _ h9 => h9) rfl dM_thrown_1 ?_
  exact W.iret hx hb hr (fun t ht _ => ⟨tbI (rfl), ht⟩) (fun q hq => nomatch hq) dM_thrown_4

set_option maxHeartbeats 4000000 in
set_option maxRecDepth 100000 in
theorem kM_last (l : Launch) (D : va_G) (cI : ClassId) (m0 a1 a2 a3 a4 a5 a6 : Nat) (th mn zz si : Int32) (f1 f2 f3 f4 f5 f6 : Nat → Int32) (j k : Nat) (hj : j < 8) (hk : k ≤ 5) (hf : f1 j = nI (2 ^ k)) : Met l yM_last wM_last (k2_rm 0 0) (rd_P [.ref m0, .int (nI j)] D [(cI, .int)] [(m0, .inr (2, [.int th, .int mn, .ref a1, .ref a2, .ref a3, .ref a4, .int zz, .ref a5, .ref a6, .int si])), (a1, .inl (cI, 8, .inl f1)), (a2, .inl (cI, 8, .inl f2)), (a3, .inl (cI, 8, .inl f3)), (a4, .inl (cI, 8192, .inl f4)), (a5, .inl (cI, 1024, .inl f5)), (a6, .inl (cI, 1024, .inl f6))]) (k2_QcV (.int (nI k))) 0 0 (fun _ => False) := by
  refine Met.ofW (cc := cM_last) (maxL := 4) (ret := (some .int)) (by decide) rfl ?_
  intro p e s m args below meth c s₁ B hml hv
  obtain ⟨rfl, hC, hP, hK⟩ := hv
  have hx := B.exec
  have hb := B.bytes
  have hr := B.returns
  have hB : ∀ w ∈ tbB, w.before _ s = true := fun w h => (atoms_spec (ws := wM_last) B.pre) w (List.mem_cons_of_mem _ h)
  have hown : s.vm.findClass "TextureBankModel" = some m.cls := findClass_of_methodNamed B.named
  have hlocks := B.notSynchronized
  have hl := lv_entry ([.ref m0, .int (nI j)]) (n := 4) (Nat.le_of_ble_eq_true rfl)
  rw [lg_entry_eq]
  generalize (lg_sl ([.ref m0, .int (nI j)]) ++ List.replicate (4 - (lg_sl ([.ref m0, .int (nI j)])).length) Slot.unset).toArray = ls at hl ⊢
  have hl : lv_has ls 4 [(0, .ref m0), (1, .int (nI j))] := hl
  have loop : ∀ (k9 i : Nat), k9 ≤ 5 → nI (i + k9) = nI k → ∀ ls : Array Slot, lv_has ls 4 [(2, .int (nI i)), (3, .int (nI (2 ^ k9))), (0, .ref m0), (1, .int (nI j))] → W p l e (headSpec wM_last (k2_rm 0 0)).room s m (#[.ref m0, .int (nI j)] : Array Value) below meth c s.heap [] 0 0 (MQ below (k2_QcV (.int (nI k))) (#[.ref m0, .int (nI j)] : Array Value) s 0 0 (fun _ => False)) (F0 m 9 ls []) := by
    intro k9
    induction k9 with
    | zero =>
      intro i hk9 he ls hl
      refine lv_iload_n hx hb dM_last_9 rfl (lv_at hl 1 rfl) ?_
      refine lv_iconst (v := 1) hx hb dM_last_10 (by decide) ?_
      refine lv_icmp_le (tgt := 24) hx hb dM_last_11 (by decide) (fun c_1 => ?_) (fun c_1 => ?_)
      · refine lv_iload_n hx hb dM_last_24 rfl (lv_at hl 0 rfl) ?_
        exact W.iret hx hb hr (fun t ht _ => ⟨tbI (by rw [← he]; rfl), ht⟩) (fun q hq => nomatch hq) dM_last_25
      · exact absurd (show nI (2 ^ 0) ≤ 1 by decide) c_1
    | succ k9 ih =>
      intro i hk9 he ls hl
      refine lv_iload_n hx hb dM_last_9 rfl (lv_at hl 1 rfl) ?_
      refine lv_iconst (v := 1) hx hb dM_last_10 (by decide) ?_
      refine lv_icmp_le (tgt := 24) hx hb dM_last_11 (by decide) (fun c_1 => ?_) (fun c_1 => ?_)
      · exact absurd c_1 (show ¬ nI (2 ^ (k9 + 1)) ≤ 1 from nI_ge (a := 1) (by have := (tt_pw k9 (by omega)).2.1; rw [Nat.pow_succ]; omega) (by have := (tt_pw (k9 + 1) (by omega)).1; omega))
      · obtain ⟨i_2, ei_2⟩ : ∃ z9 : Int32, z9 = (nI i) + 1 := ⟨_, rfl⟩
        refine lv_iinc (v := i_2) (lv' := [(2, .int i_2), (3, .int (nI (2 ^ (k9 + 1)))), (0, .ref m0), (1, .int (nI j))]) hx hb dM_last_14 hl (k := 0) rfl (by rw [ei_2]; rfl) (by decide) rfl (fun ls hl => ?_)
        refine lv_iload_n hx hb dM_last_17 rfl (lv_at hl 1 rfl) ?_
        refine lv_iconst (v := 2) hx hb dM_last_18 (by decide) ?_
        refine lv_idiv hx hb dM_last_19 (by decide) ?_
        refine lv_istore_n (lv' := [(3, .int ((nI (2 ^ (k9 + 1))) / 2)), (2, .int i_2), (0, .ref m0), (1, .int (nI j))]) hx hb dM_last_20 rfl hl (by decide) rfl (fun ls hl => ?_)
        refine lv_goto (tgt := 9) hx hb dM_last_21 (by decide) ?_
        exact ih (i + 1) (by omega) (by rw [← he]; congr 1; omega) ls (by have hl := lv_sub hl [1, 0, 2, 3] rfl; rw [ei_2, nI_1, tt_hv (by omega), tt_hs] at hl; exact hl)
  refine lv_iconst (v := 0) hx hb dM_last_0 (by decide) ?_
  refine lv_istore_n (lv' := [(2, .int 0), (0, .ref m0), (1, .int (nI j))]) hx hb dM_last_1 rfl hl (by decide) rfl (fun ls hl => ?_)
  refine lv_aload_n hx hb dM_last_2 rfl (lv_at hl 1 rfl) ?_
  refine va_get (D := D) (ci := 2) (v := .ref a1) (C := RM) (T := FM) (N := 10) hx hb hB inM hown hK hP 0 rfl rfl 2 (by decide) (hB _ wd_324) (fun _ h9 => h9) rfl dM_last_3 ?_
  refine lv_iload_n hx hb dM_last_6 rfl (lv_at hl 2 rfl) ?_
  refine va_iald hx hb hK hP 1 0 (f := f1) rfl rfl (i := nI j) (vp_in_nI (hj) (by omega)) dM_last_7 ?_
  refine W.eq (g2 := F0 m 8 ls [.int (f1 j)]) (by rw [nI_clamp (by have := (hj : j < 8); omega)]) ?_
  refine lv_istore_n (lv' := [(3, .int (f1 j)), (2, .int 0), (0, .ref m0), (1, .int (nI j))]) hx hb dM_last_8 rfl hl (by decide) rfl (fun ls hl => ?_)
  exact loop k 0 (by omega) (by rw [Nat.zero_add]) ls (by have hl := lv_sub hl [1, 0, 2, 3] rfl; rw [hf] at hl; exact hl)

set_option maxHeartbeats 4000000 in
set_option maxRecDepth 100000 in
theorem kM_into (l : Launch) (D : va_G) (cI : ClassId) (m0 a1 a2 a3 a4 a5 a6 : Nat) (th mn zz si : Int32) (f1 f2 f3 f4 f5 f6 : Nat → Int32) (w9 : Int32) (k9 : Int64) (hs1 : ¬ si.toInt64 = 0) (hs2 : ¬ 2 * si.toInt64 = 0) : Met l yM_into wM_into (k2_rm 1 25) (rd_P [.ref m0, .int w9, .long k9] D [(cI, .int)] [(m0, .inr (2, [.int th, .int mn, .ref a1, .ref a2, .ref a3, .ref a4, .int zz, .ref a5, .ref a6, .int si])), (a1, .inl (cI, 8, .inl f1)), (a2, .inl (cI, 8, .inl f2)), (a3, .inl (cI, 8, .inl f3)), (a4, .inl (cI, 8192, .inl f4)), (a5, .inl (cI, 1024, .inl f5)), (a6, .inl (cI, 1024, .inl f6))]) (k2_QcV (.int (mm_into si w9 k9))) 0 0 (fun _ => False) := by
  refine Met.ofW (cc := cM_into) (maxL := 8) (ret := (some .int)) (by decide) rfl ?_
  intro p e s m args below meth c s₁ B hml hv
  obtain ⟨rfl, hC, hP, hK⟩ := hv
  have hx := B.exec
  have hb := B.bytes
  have hr := B.returns
  have hB : ∀ w ∈ tbB, w.before _ s = true := fun w h => (atoms_spec (ws := wM_into) B.pre) w (List.mem_cons_of_mem _ h)
  have hown : s.vm.findClass "TextureBankModel" = some m.cls := findClass_of_methodNamed B.named
  have hlocks := B.notSynchronized
  have hl := lv_entry ([.ref m0, .int w9, .long k9]) (n := 8) (Nat.le_of_ble_eq_true rfl)
  rw [lg_entry_eq]
  generalize (lg_sl ([.ref m0, .int w9, .long k9]) ++ List.replicate (8 - (lg_sl ([.ref m0, .int w9, .long k9])).length) Slot.unset).toArray = ls at hl ⊢
  have hl : lv_has ls 8 [(0, .ref m0), (1, .int w9), (2, .long k9)] := hl
  refine lv_aload_n hx hb dM_into_0 rfl (lv_at hl 0 rfl) ?_
  refine va_get (D := D) (ci := 2) (v := .int si) (C := RM) (T := FM) (N := 10) hx hb hB inM hown hK hP 0 rfl rfl 9 (by decide) (hB _ wd_331) (fun _ h9 => h9) rfl dM_into_1 ?_
  refine lv_i2l hx hb dM_into_4 rfl ?_
  refine lv_lstore (lv' := [(4, .long si.toInt64), (0, .ref m0), (1, .int w9), (2, .long k9)]) hx hb dM_into_5 hl (by decide) rfl (fun ls hl => ?_)
  refine lv_iload_n hx hb dM_into_7 rfl (lv_at hl 2 rfl) ?_
  refine lv_if_ne (tgt := 24) hx hb dM_into_8 (by decide) (fun c_1 => ?_) (fun c_1 => ?_)
  · refine lv_iload_n hx hb dM_into_24 rfl (lv_at hl 2 rfl) ?_
    refine lv_iconst (v := 1) hx hb dM_into_25 (by decide) ?_
    refine lv_icmp_ne (tgt := 56) hx hb dM_into_26 (by decide) (fun c_2 => ?_) (fun c_2 => ?_)
    · refine lv_lload_n hx hb dM_into_56 rfl (lv_at hl 3 rfl) ?_
      refine lv_ldc2 (v := 2) hx hb hown (hB _ wd_422) dM_into_57 ?_
      refine lv_lload hx hb dM_into_60 (lv_at hl 0 rfl) ?_
      refine lv_lmul hx hb dM_into_62 ?_
      refine lv_lload_n hx hb dM_into_63 rfl (lv_at hl 3 rfl) ?_
      refine lv_ldc2 (v := 2) hx hb hown (hB _ wd_422) dM_into_64 ?_
      refine lv_lload hx hb dM_into_67 (lv_at hl 0 rfl) ?_
      refine lv_lmul hx hb dM_into_69 ?_
      refine W.callV (W.runS (As := [.long k9, .long (2 * si.toInt64)]) (rest := [.long (2 * si.toInt64), .long k9]) ⟨hx, hb, hml, hown, hB⟩ (kM_div l k9 (2 * si.toInt64) hs2) ⟨callB_of 2 hB gwM_div rfl rfl rfl (hB _ wd_3) (hB _ wd_414) ydM_div ⟨Nat.le_of_ble_eq_true rfl, Nat.le_of_ble_eq_true rfl⟩, hB _ wd_415⟩ (preEq) rfl rfl hl.1 rfl (lv_room (Nat.le_of_ble_eq_true rfl)) dM_into_70 ⟨Nat.zero_le _, Nat.zero_le _⟩) ?_
      refine W.eq (g2 := F0 m 73 ls [.long (mm_div k9 (2 * si.toInt64)), .long (2 * si.toInt64), .long k9]) rfl ?_
      refine lv_lmul hx hb dM_into_73 ?_
      refine lv_lsub hx hb dM_into_74 ?_
      refine lv_topl (fun mv emv => ?_)
      refine lv_lstore (lv' := [(6, .long mv), (4, .long si.toInt64), (0, .ref m0), (1, .int w9), (2, .long k9)]) hx hb dM_into_75 hl (by decide) rfl (fun ls hl => ?_)
      refine lv_lload hx hb dM_into_77 (lv_at hl 0 rfl) ?_
      refine lv_lload hx hb dM_into_79 (lv_at hl 1 rfl) ?_
      refine W.lcmp hx hb dM_into_81 ?_
      refine lv_if_lt (tgt := 99) hx hb dM_into_82 (by decide) (fun c_3 => ?_) (fun c_3 => ?_)
      · refine lv_lload hx hb dM_into_99 (lv_at hl 0 rfl) ?_
        refine lv_l2i hx hb dM_into_101 rfl ?_
        exact W.iret hx hb hr (fun t ht _ => ⟨tbI (by subst emv; unfold mm_into; (first | rw [if_pos c_1] | rw [if_neg c_1]); (first | rw [if_pos c_2] | rw [if_neg c_2]); (first | rw [if_pos ((lg_cmp_lt _ _).mp c_3)] | rw [if_neg ((lg_cmp_lt _ _).mp c_3)])), ht⟩) (fun q hq => nomatch hq) dM_into_102
      · refine lv_ldc2 (v := 2) hx hb hown (hB _ wd_422) dM_into_85 ?_
        refine lv_lload hx hb dM_into_88 (lv_at hl 1 rfl) ?_
        refine lv_lmul hx hb dM_into_90 ?_
        refine lv_lconst (v := 1) hx hb dM_into_91 (by decide) ?_
        refine lv_lsub hx hb dM_into_92 ?_
        refine lv_lload hx hb dM_into_93 (lv_at hl 0 rfl) ?_
        refine lv_lsub hx hb dM_into_95 ?_
        refine lv_goto (tgt := 101) hx hb dM_into_96 (by decide) ?_
        refine lv_l2i hx hb dM_into_101 rfl ?_
        exact W.iret hx hb hr (fun t ht _ => ⟨tbI (by subst emv; unfold mm_into; (first | rw [if_pos c_1] | rw [if_neg c_1]); (first | rw [if_pos c_2] | rw [if_neg c_2]); (first | rw [if_pos (fun h9 => c_3 ((lg_cmp_lt _ _).mpr h9))] | rw [if_neg (fun h9 => c_3 ((lg_cmp_lt _ _).mpr h9))])), ht⟩) (fun q hq => nomatch hq) dM_into_102
    · refine lv_lload_n hx hb dM_into_29 rfl (lv_at hl 3 rfl) ?_
      refine lv_lconst (v := 0) hx hb dM_into_30 (by decide) ?_
      refine W.lcmp hx hb dM_into_31 ?_
      refine lv_if_ge (tgt := 39) hx hb dM_into_32 (by decide) (fun c_4 => ?_) (fun c_4 => ?_)
      · refine lv_lload_n hx hb dM_into_39 rfl (lv_at hl 3 rfl) ?_
        refine lv_lload hx hb dM_into_40 (lv_at hl 0 rfl) ?_
        refine W.lcmp hx hb dM_into_42 ?_
        refine lv_if_lt (tgt := 53) hx hb dM_into_43 (by decide) (fun c_5 => ?_) (fun c_5 => ?_)
        · refine lv_lload_n hx hb dM_into_53 rfl (lv_at hl 3 rfl) ?_
          refine lv_l2i hx hb dM_into_54 rfl ?_
          exact W.iret hx hb hr (fun t ht _ => ⟨tbI (by unfold mm_into; (first | rw [if_pos c_1] | rw [if_neg c_1]); (first | rw [if_pos c_2] | rw [if_neg c_2]); (first | rw [if_pos ((lg_cmp_ge _ _).mp c_4)] | rw [if_neg ((lg_cmp_ge _ _).mp c_4)]); (first | rw [if_pos ((lg_cmp_lt _ _).mp c_5)] | rw [if_neg ((lg_cmp_lt _ _).mp c_5)])), ht⟩) (fun q hq => nomatch hq) dM_into_55
        · refine lv_lload hx hb dM_into_46 (lv_at hl 0 rfl) ?_
          refine lv_lconst (v := 1) hx hb dM_into_48 (by decide) ?_
          refine lv_lsub hx hb dM_into_49 ?_
          refine lv_goto (tgt := 54) hx hb dM_into_50 (by decide) ?_
          refine lv_l2i hx hb dM_into_54 rfl ?_
          exact W.iret hx hb hr (fun t ht _ => ⟨tbI (by unfold mm_into; (first | rw [if_pos c_1] | rw [if_neg c_1]); (first | rw [if_pos c_2] | rw [if_neg c_2]); (first | rw [if_pos ((lg_cmp_ge _ _).mp c_4)] | rw [if_neg ((lg_cmp_ge _ _).mp c_4)]); (first | rw [if_pos (fun h9 => c_5 ((lg_cmp_lt _ _).mpr h9))] | rw [if_neg (fun h9 => c_5 ((lg_cmp_lt _ _).mpr h9))])), ht⟩) (fun q hq => nomatch hq) dM_into_55
      · refine lv_lconst (v := 0) hx hb dM_into_35 (by decide) ?_
        refine lv_goto (tgt := 54) hx hb dM_into_36 (by decide) ?_
        refine lv_l2i hx hb dM_into_54 rfl ?_
        exact W.iret hx hb hr (fun t ht _ => ⟨tbI (by unfold mm_into; (first | rw [if_pos c_1] | rw [if_neg c_1]); (first | rw [if_pos c_2] | rw [if_neg c_2]); (first | rw [if_pos (fun h9 => c_4 ((lg_cmp_ge _ _).mpr h9))] | rw [if_neg (fun h9 => c_4 ((lg_cmp_ge _ _).mpr h9))])), ht⟩) (fun q hq => nomatch hq) dM_into_55
  · refine lv_lload_n hx hb dM_into_11 rfl (lv_at hl 3 rfl) ?_
    refine lv_lload hx hb dM_into_12 (lv_at hl 0 rfl) ?_
    refine lv_lload_n hx hb dM_into_14 rfl (lv_at hl 3 rfl) ?_
    refine lv_lload hx hb dM_into_15 (lv_at hl 0 rfl) ?_
    refine W.callV (W.runS (As := [.long k9, .long si.toInt64]) (rest := [.long si.toInt64, .long k9]) ⟨hx, hb, hml, hown, hB⟩ (kM_div l k9 si.toInt64 hs1) ⟨callB_of 2 hB gwM_div rfl rfl rfl (hB _ wd_3) (hB _ wd_414) ydM_div ⟨Nat.le_of_ble_eq_true rfl, Nat.le_of_ble_eq_true rfl⟩, hB _ wd_415⟩ (preEq) rfl rfl hl.1 rfl (lv_room (Nat.le_of_ble_eq_true rfl)) dM_into_17 ⟨Nat.zero_le _, Nat.zero_le _⟩) ?_
    refine W.eq (g2 := F0 m 20 ls [.long (mm_div k9 si.toInt64), .long si.toInt64, .long k9]) rfl ?_
    refine lv_lmul hx hb dM_into_20 ?_
    refine lv_lsub hx hb dM_into_21 ?_
    refine lv_l2i hx hb dM_into_22 rfl ?_
    exact W.iret hx hb hr (fun t ht _ => ⟨tbI (by unfold mm_into; (first | rw [if_pos c_1] | rw [if_neg c_1])), ht⟩) (fun q hq => nomatch hq) dM_into_23

set_option maxHeartbeats 4000000 in
set_option maxRecDepth 100000 in
theorem kM_put_no (l : Launch) (D : va_G) (sz : Nat) (cI : ClassId) (m0 a1 a2 a3 a4 a5 a6 : Nat) (th mn zz si : Int32) (f1 f2 f3 f4 f5 f6 : Nat → Int32) (r9 g9 b9 : Int32) (hno : mm_isNum r9 = 0 ∨ mm_isNum g9 = 0 ∨ mm_isNum b9 = 0 ∨ zz = 1024) : Met l yM_put wM_put (k2_rm 1 20) (wr_P [.ref m0, .int r9, .int g9, .int b9] sz D [(cI, .int)] [(m0, .inr (2, [.int th, .int mn, .ref a1, .ref a2, .ref a3, .ref a4, .int zz, .ref a5, .ref a6, .int si])), (a1, .inl (cI, 8, .inl f1)), (a2, .inl (cI, 8, .inl f2)), (a3, .inl (cI, 8, .inl f3)), (a4, .inl (cI, 8192, .inl f4)), (a5, .inl (cI, 1024, .inl f5)), (a6, .inl (cI, 1024, .inl f6))]) (wr_Qi (-1) D (va_A [(m0, .inr (2, [.int th, .int mn, .ref a1, .ref a2, .ref a3, .ref a4, .int zz, .ref a5, .ref a6, .int si])), (a1, .inl (cI, 8, .inl f1)), (a2, .inl (cI, 8, .inl f2)), (a3, .inl (cI, 8, .inl f3)), (a4, .inl (cI, 8192, .inl f4)), (a5, .inl (cI, 1024, .inl f5)), (a6, .inl (cI, 1024, .inl f6))] sz) [(m0, .inr (2, [.int 0, .int mn, .ref a1, .ref a2, .ref a3, .ref a4, .int zz, .ref a5, .ref a6, .int si])), (a1, .inl (cI, 8, .inl f1)), (a2, .inl (cI, 8, .inl f2)), (a3, .inl (cI, 8, .inl f3)), (a4, .inl (cI, 8192, .inl f4)), (a5, .inl (cI, 1024, .inl f5)), (a6, .inl (cI, 1024, .inl f6))]) 0 0 (va_A [(m0, .inr (2, [.int th, .int mn, .ref a1, .ref a2, .ref a3, .ref a4, .int zz, .ref a5, .ref a6, .int si])), (a1, .inl (cI, 8, .inl f1)), (a2, .inl (cI, 8, .inl f2)), (a3, .inl (cI, 8, .inl f3)), (a4, .inl (cI, 8192, .inl f4)), (a5, .inl (cI, 1024, .inl f5)), (a6, .inl (cI, 1024, .inl f6))] sz) := by
  refine Met.ofW (cc := cM_put) (maxL := 4) (ret := (some .int)) (by decide) rfl ?_
  intro p e s m args below meth c s₁ B hml hv
  obtain ⟨rfl, hsz, hC, hP, hK, hD0⟩ := hv
  have hx := B.exec
  have hb := B.bytes
  have hr := B.returns
  have hB : ∀ w ∈ tbB, w.before _ s = true := fun w h => (atoms_spec (ws := wM_put) B.pre) w (List.mem_cons_of_mem _ h)
  have hown : s.vm.findClass "TextureBankModel" = some m.cls := findClass_of_methodNamed B.named
  have hlocks := B.notSynchronized
  subst hsz
  have hD := hD0.self (sz := s.heap.size)
  generalize hAe : va_A [(m0, .inr (2, [.int th, .int mn, .ref a1, .ref a2, .ref a3, .ref a4, .int zz, .ref a5, .ref a6, .int si])), (a1, .inl (cI, 8, .inl f1)), (a2, .inl (cI, 8, .inl f2)), (a3, .inl (cI, 8, .inl f3)), (a4, .inl (cI, 8192, .inl f4)), (a5, .inl (cI, 1024, .inl f5)), (a6, .inl (cI, 1024, .inl f6))] s.heap.size = A at hD ⊢
  have hA : ∀ q : Nat, s.heap.size ≤ q → A q := fun q h => by rw [← hAe]; exact Or.inr h
  have hS : va_S A s.heap s.heap [] := va_S.rf
  have hl := lv_entry ([.ref m0, .int r9, .int g9, .int b9]) (n := 4) (Nat.le_of_ble_eq_true rfl)
  rw [lg_entry_eq]
  generalize (lg_sl ([.ref m0, .int r9, .int g9, .int b9]) ++ List.replicate (4 - (lg_sl ([.ref m0, .int r9, .int g9, .int b9])).length) Slot.unset).toArray = ls at hl ⊢
  have hl : lv_has ls 4 [(0, .ref m0), (1, .int r9), (2, .int g9), (3, .int b9)] := hl
  refine lv_aload_n hx hb dM_put_0 rfl (lv_at hl 0 rfl) ?_
  refine lv_iconst (v := 0) hx hb dM_put_1 (by decide) ?_
  refine va_put (D := D) (ci := 2) (v := .int 0) (ty := .int) (C := RM) (T := FM) (N := 10) hx hb hB inM tyM tyM_ok nmM hown hK hP hD hS 0 rfl rfl 0 (by decide) (hB _ wd_322) (fun _ h9 => h9) rfl (by decide +kernel) rfl rfl (Nat.le_of_ble_eq_true rfl) dM_put_2 (fun H locs hP hD hS => ?_)
  have hP : va_P D tbCl [(m0, .inr (2, [.int 0, .int mn, .ref a1, .ref a2, .ref a3, .ref a4, .int zz, .ref a5, .ref a6, .int si])), (a1, .inl (cI, 8, .inl f1)), (a2, .inl (cI, 8, .inl f2)), (a3, .inl (cI, 8, .inl f3)), (a4, .inl (cI, 8192, .inl f4)), (a5, .inl (cI, 1024, .inl f5)), (a6, .inl (cI, 1024, .inl f6))] H := hP
  have hD : va_D A [(m0, .inr (2, [.int 0, .int mn, .ref a1, .ref a2, .ref a3, .ref a4, .int zz, .ref a5, .ref a6, .int si])), (a1, .inl (cI, 8, .inl f1)), (a2, .inl (cI, 8, .inl f2)), (a3, .inl (cI, 8, .inl f3)), (a4, .inl (cI, 8192, .inl f4)), (a5, .inl (cI, 1024, .inl f5)), (a6, .inl (cI, 1024, .inl f6))] := hD
  refine lv_iload_n hx hb dM_put_5 rfl (lv_at hl 1 rfl) ?_
  refine W.callV (W.runS (As := [.int r9]) (rest := []) ⟨hx, hb, hml, hown, hB⟩ (kM_isNumber l r9) ⟨callB_of 1 hB gwM_isNumber rfl rfl rfl (hB _ wd_3) (hB _ wd_361) ydM_isNumber ⟨Nat.le_of_ble_eq_true rfl, Nat.le_of_ble_eq_true rfl⟩, hB _ wd_362⟩ (preEq) rfl rfl hl.1 rfl (lv_room (Nat.le_of_ble_eq_true rfl)) dM_put_6 ⟨Nat.zero_le _, Nat.zero_le _⟩) ?_
  refine W.eq (g2 := F0 m 9 ls [.int (mm_isNum r9)]) rfl ?_
  refine lv_if_eq (tgt := 36) hx hb dM_put_9 (by decide) (fun c_1 => ?_) (fun c_1 => ?_)
  · refine lv_iconst (v := (-1)) hx hb dM_put_36 (by decide) ?_
    exact W.iret hx hb hr (fun t ht hW => ⟨⟨_, (), rfl, rfl, (by have h9 : va_P D tbCl [(m0, .inr (2, [.int 0, .int mn, .ref a1, .ref a2, .ref a3, .ref a4, .int zz, .ref a5, .ref a6, .int si])), (a1, .inl (cI, 8, .inl f1)), (a2, .inl (cI, 8, .inl f2)), (a3, .inl (cI, 8, .inl f3)), (a4, .inl (cI, 8192, .inl f4)), (a5, .inl (cI, 1024, .inl f5)), (a6, .inl (cI, 1024, .inl f6))] H := hP; rw [← ht] at h9; exact h9)⟩, hS.F ht⟩) hS.2.2 dM_put_37
  · refine lv_iload_n hx hb dM_put_12 rfl (lv_at hl 2 rfl) ?_
    refine W.callV (W.runS (As := [.int g9]) (rest := []) ⟨hx, hb, hml, hown, hB⟩ (kM_isNumber l g9) ⟨callB_of 1 hB gwM_isNumber rfl rfl rfl (hB _ wd_3) (hB _ wd_361) ydM_isNumber ⟨Nat.le_of_ble_eq_true rfl, Nat.le_of_ble_eq_true rfl⟩, hB _ wd_362⟩ (preEq) rfl rfl hl.1 rfl (lv_room (Nat.le_of_ble_eq_true rfl)) dM_put_13 ⟨Nat.zero_le _, Nat.zero_le _⟩) ?_
    refine W.eq (g2 := F0 m 16 ls [.int (mm_isNum g9)]) rfl ?_
    refine lv_if_eq (tgt := 36) hx hb dM_put_16 (by decide) (fun c_2 => ?_) (fun c_2 => ?_)
    · refine lv_iconst (v := (-1)) hx hb dM_put_36 (by decide) ?_
      exact W.iret hx hb hr (fun t ht hW => ⟨⟨_, (), rfl, rfl, (by have h9 : va_P D tbCl [(m0, .inr (2, [.int 0, .int mn, .ref a1, .ref a2, .ref a3, .ref a4, .int zz, .ref a5, .ref a6, .int si])), (a1, .inl (cI, 8, .inl f1)), (a2, .inl (cI, 8, .inl f2)), (a3, .inl (cI, 8, .inl f3)), (a4, .inl (cI, 8192, .inl f4)), (a5, .inl (cI, 1024, .inl f5)), (a6, .inl (cI, 1024, .inl f6))] H := hP; rw [← ht] at h9; exact h9)⟩, hS.F ht⟩) hS.2.2 dM_put_37
    · refine lv_iload_n hx hb dM_put_19 rfl (lv_at hl 3 rfl) ?_
      refine W.callV (W.runS (As := [.int b9]) (rest := []) ⟨hx, hb, hml, hown, hB⟩ (kM_isNumber l b9) ⟨callB_of 1 hB gwM_isNumber rfl rfl rfl (hB _ wd_3) (hB _ wd_361) ydM_isNumber ⟨Nat.le_of_ble_eq_true rfl, Nat.le_of_ble_eq_true rfl⟩, hB _ wd_362⟩ (preEq) rfl rfl hl.1 rfl (lv_room (Nat.le_of_ble_eq_true rfl)) dM_put_20 ⟨Nat.zero_le _, Nat.zero_le _⟩) ?_
      refine W.eq (g2 := F0 m 23 ls [.int (mm_isNum b9)]) rfl ?_
      refine lv_if_eq (tgt := 36) hx hb dM_put_23 (by decide) (fun c_3 => ?_) (fun c_3 => ?_)
      · refine lv_iconst (v := (-1)) hx hb dM_put_36 (by decide) ?_
        exact W.iret hx hb hr (fun t ht hW => ⟨⟨_, (), rfl, rfl, (by have h9 : va_P D tbCl [(m0, .inr (2, [.int 0, .int mn, .ref a1, .ref a2, .ref a3, .ref a4, .int zz, .ref a5, .ref a6, .int si])), (a1, .inl (cI, 8, .inl f1)), (a2, .inl (cI, 8, .inl f2)), (a3, .inl (cI, 8, .inl f3)), (a4, .inl (cI, 8192, .inl f4)), (a5, .inl (cI, 1024, .inl f5)), (a6, .inl (cI, 1024, .inl f6))] H := hP; rw [← ht] at h9; exact h9)⟩, hS.F ht⟩) hS.2.2 dM_put_37
      · refine lv_aload_n hx hb dM_put_26 rfl (lv_at hl 0 rfl) ?_
        refine va_get (D := D) (ci := 2) (v := .int zz) (C := RM) (T := FM) (N := 10) hx hb hB inM hown hK hP 0 rfl rfl 6 (by decide) (hB _ wd_328) (fun _ h9 => h9) rfl dM_put_27 ?_
        refine lv_sipush (v := 1024) hx hb dM_put_30 (by decide) ?_
        refine lv_icmp_ne (tgt := 38) hx hb dM_put_33 (by decide) (fun c_4 => ?_) (fun c_4 => ?_)
        · exact absurd (hno.elim (fun h => absurd h c_1) (fun h => h.elim (fun h => absurd h c_2) (fun h => h.elim (fun h => absurd h c_3) id))) c_4
        · refine lv_iconst (v := (-1)) hx hb dM_put_36 (by decide) ?_
          exact W.iret hx hb hr (fun t ht hW => ⟨⟨_, (), rfl, rfl, (by have h9 : va_P D tbCl [(m0, .inr (2, [.int 0, .int mn, .ref a1, .ref a2, .ref a3, .ref a4, .int zz, .ref a5, .ref a6, .int si])), (a1, .inl (cI, 8, .inl f1)), (a2, .inl (cI, 8, .inl f2)), (a3, .inl (cI, 8, .inl f3)), (a4, .inl (cI, 8192, .inl f4)), (a5, .inl (cI, 1024, .inl f5)), (a6, .inl (cI, 1024, .inl f6))] H := hP; rw [← ht] at h9; exact h9)⟩, hS.F ht⟩) hS.2.2 dM_put_37

set_option maxHeartbeats 4000000 in
set_option maxRecDepth 100000 in
theorem kM_put_ok (l : Launch) (D : va_G) (sz : Nat) (cI : ClassId) (m0 a1 a2 a3 a4 a5 a6 : Nat) (th mn si : Int32) (n : Nat) (f1 f2 f3 f4 f5 f6 : Nat → Int32) (hn : n < 1024) (r9 g9 b9 : Int32) (h1 : ¬ mm_isNum r9 = 0) (h2 : ¬ mm_isNum g9 = 0) (h3 : ¬ mm_isNum b9 = 0) : Met l yM_put wM_put (k2_rm 1 20) (wr_P [.ref m0, .int r9, .int g9, .int b9] sz D [(cI, .int)] [(m0, .inr (2, [.int th, .int mn, .ref a1, .ref a2, .ref a3, .ref a4, .int (nI n), .ref a5, .ref a6, .int si])), (a1, .inl (cI, 8, .inl f1)), (a2, .inl (cI, 8, .inl f2)), (a3, .inl (cI, 8, .inl f3)), (a4, .inl (cI, 8192, .inl f4)), (a5, .inl (cI, 1024, .inl f5)), (a6, .inl (cI, 1024, .inl f6))]) (wr_Qi (nI (n + 1)) D (va_A [(m0, .inr (2, [.int th, .int mn, .ref a1, .ref a2, .ref a3, .ref a4, .int (nI n), .ref a5, .ref a6, .int si])), (a1, .inl (cI, 8, .inl f1)), (a2, .inl (cI, 8, .inl f2)), (a3, .inl (cI, 8, .inl f3)), (a4, .inl (cI, 8192, .inl f4)), (a5, .inl (cI, 1024, .inl f5)), (a6, .inl (cI, 1024, .inl f6))] sz) [(m0, .inr (2, [.int 0, .int mn, .ref a1, .ref a2, .ref a3, .ref a4, .int (nI (n + 1)), .ref a5, .ref a6, .int si])), (a1, .inl (cI, 8, .inl f1)), (a2, .inl (cI, 8, .inl f2)), (a3, .inl (cI, 8, .inl f3)), (a4, .inl (cI, 8192, .inl f4)), (a5, .inl (cI, 1024, .inl (upd f5 n (r9 * 65536 + g9 * 256 + b9)))), (a6, .inl (cI, 1024, .inl f6))]) 0 0 (va_A [(m0, .inr (2, [.int th, .int mn, .ref a1, .ref a2, .ref a3, .ref a4, .int (nI n), .ref a5, .ref a6, .int si])), (a1, .inl (cI, 8, .inl f1)), (a2, .inl (cI, 8, .inl f2)), (a3, .inl (cI, 8, .inl f3)), (a4, .inl (cI, 8192, .inl f4)), (a5, .inl (cI, 1024, .inl f5)), (a6, .inl (cI, 1024, .inl f6))] sz) := by
  refine Met.ofW (cc := cM_put) (maxL := 4) (ret := (some .int)) (by decide) rfl ?_
  intro p e s m args below meth c s₁ B hml hv
  obtain ⟨rfl, hsz, hC, hP, hK, hD0⟩ := hv
  have hx := B.exec
  have hb := B.bytes
  have hr := B.returns
  have hB : ∀ w ∈ tbB, w.before _ s = true := fun w h => (atoms_spec (ws := wM_put) B.pre) w (List.mem_cons_of_mem _ h)
  have hown : s.vm.findClass "TextureBankModel" = some m.cls := findClass_of_methodNamed B.named
  have hlocks := B.notSynchronized
  subst hsz
  have hD := hD0.self (sz := s.heap.size)
  generalize hAe : va_A [(m0, .inr (2, [.int th, .int mn, .ref a1, .ref a2, .ref a3, .ref a4, .int (nI n), .ref a5, .ref a6, .int si])), (a1, .inl (cI, 8, .inl f1)), (a2, .inl (cI, 8, .inl f2)), (a3, .inl (cI, 8, .inl f3)), (a4, .inl (cI, 8192, .inl f4)), (a5, .inl (cI, 1024, .inl f5)), (a6, .inl (cI, 1024, .inl f6))] s.heap.size = A at hD ⊢
  have hA : ∀ q : Nat, s.heap.size ≤ q → A q := fun q h => by rw [← hAe]; exact Or.inr h
  have hS : va_S A s.heap s.heap [] := va_S.rf
  have hl := lv_entry ([.ref m0, .int r9, .int g9, .int b9]) (n := 4) (Nat.le_of_ble_eq_true rfl)
  rw [lg_entry_eq]
  generalize (lg_sl ([.ref m0, .int r9, .int g9, .int b9]) ++ List.replicate (4 - (lg_sl ([.ref m0, .int r9, .int g9, .int b9])).length) Slot.unset).toArray = ls at hl ⊢
  have hl : lv_has ls 4 [(0, .ref m0), (1, .int r9), (2, .int g9), (3, .int b9)] := hl
  refine lv_aload_n hx hb dM_put_0 rfl (lv_at hl 0 rfl) ?_
  refine lv_iconst (v := 0) hx hb dM_put_1 (by decide) ?_
  refine va_put (D := D) (ci := 2) (v := .int 0) (ty := .int) (C := RM) (T := FM) (N := 10) hx hb hB inM tyM tyM_ok nmM hown hK hP hD hS 0 rfl rfl 0 (by decide) (hB _ wd_322) (fun _ h9 => h9) rfl (by decide +kernel) rfl rfl (Nat.le_of_ble_eq_true rfl) dM_put_2 (fun H locs hP hD hS => ?_)
  have hP : va_P D tbCl [(m0, .inr (2, [.int 0, .int mn, .ref a1, .ref a2, .ref a3, .ref a4, .int (nI n), .ref a5, .ref a6, .int si])), (a1, .inl (cI, 8, .inl f1)), (a2, .inl (cI, 8, .inl f2)), (a3, .inl (cI, 8, .inl f3)), (a4, .inl (cI, 8192, .inl f4)), (a5, .inl (cI, 1024, .inl f5)), (a6, .inl (cI, 1024, .inl f6))] H := hP
  have hD : va_D A [(m0, .inr (2, [.int 0, .int mn, .ref a1, .ref a2, .ref a3, .ref a4, .int (nI n), .ref a5, .ref a6, .int si])), (a1, .inl (cI, 8, .inl f1)), (a2, .inl (cI, 8, .inl f2)), (a3, .inl (cI, 8, .inl f3)), (a4, .inl (cI, 8192, .inl f4)), (a5, .inl (cI, 1024, .inl f5)), (a6, .inl (cI, 1024, .inl f6))] := hD
  refine lv_iload_n hx hb dM_put_5 rfl (lv_at hl 1 rfl) ?_
  refine W.callV (W.runS (As := [.int r9]) (rest := []) ⟨hx, hb, hml, hown, hB⟩ (kM_isNumber l r9) ⟨callB_of 1 hB gwM_isNumber rfl rfl rfl (hB _ wd_3) (hB _ wd_361) ydM_isNumber ⟨Nat.le_of_ble_eq_true rfl, Nat.le_of_ble_eq_true rfl⟩, hB _ wd_362⟩ (preEq) rfl rfl hl.1 rfl (lv_room (Nat.le_of_ble_eq_true rfl)) dM_put_6 ⟨Nat.zero_le _, Nat.zero_le _⟩) ?_
  refine W.eq (g2 := F0 m 9 ls [.int (mm_isNum r9)]) rfl ?_
  refine lv_if_eq (tgt := 36) hx hb dM_put_9 (by decide) (fun c_1 => ?_) (fun c_1 => ?_)
  · exact absurd c_1 h1
  · refine lv_iload_n hx hb dM_put_12 rfl (lv_at hl 2 rfl) ?_
    refine W.callV (W.runS (As := [.int g9]) (rest := []) ⟨hx, hb, hml, hown, hB⟩ (kM_isNumber l g9) ⟨callB_of 1 hB gwM_isNumber rfl rfl rfl (hB _ wd_3) (hB _ wd_361) ydM_isNumber ⟨Nat.le_of_ble_eq_true rfl, Nat.le_of_ble_eq_true rfl⟩, hB _ wd_362⟩ (preEq) rfl rfl hl.1 rfl (lv_room (Nat.le_of_ble_eq_true rfl)) dM_put_13 ⟨Nat.zero_le _, Nat.zero_le _⟩) ?_
    refine W.eq (g2 := F0 m 16 ls [.int (mm_isNum g9)]) rfl ?_
    refine lv_if_eq (tgt := 36) hx hb dM_put_16 (by decide) (fun c_2 => ?_) (fun c_2 => ?_)
    · exact absurd c_2 h2
    · refine lv_iload_n hx hb dM_put_19 rfl (lv_at hl 3 rfl) ?_
      refine W.callV (W.runS (As := [.int b9]) (rest := []) ⟨hx, hb, hml, hown, hB⟩ (kM_isNumber l b9) ⟨callB_of 1 hB gwM_isNumber rfl rfl rfl (hB _ wd_3) (hB _ wd_361) ydM_isNumber ⟨Nat.le_of_ble_eq_true rfl, Nat.le_of_ble_eq_true rfl⟩, hB _ wd_362⟩ (preEq) rfl rfl hl.1 rfl (lv_room (Nat.le_of_ble_eq_true rfl)) dM_put_20 ⟨Nat.zero_le _, Nat.zero_le _⟩) ?_
      refine W.eq (g2 := F0 m 23 ls [.int (mm_isNum b9)]) rfl ?_
      refine lv_if_eq (tgt := 36) hx hb dM_put_23 (by decide) (fun c_3 => ?_) (fun c_3 => ?_)
      · exact absurd c_3 h3
      · refine lv_aload_n hx hb dM_put_26 rfl (lv_at hl 0 rfl) ?_
        refine va_get (D := D) (ci := 2) (v := .int (nI n)) (C := RM) (T := FM) (N := 10) hx hb hB inM hown hK hP 0 rfl rfl 6 (by decide) (hB _ wd_328) (fun _ h9 => h9) rfl dM_put_27 ?_
        refine lv_sipush (v := 1024) hx hb dM_put_30 (by decide) ?_
        refine lv_icmp_ne (tgt := 38) hx hb dM_put_33 (by decide) (fun c_4 => ?_) (fun c_4 => ?_)
        · refine lv_aload_n hx hb dM_put_38 rfl (lv_at hl 0 rfl) ?_
          refine va_get (D := D) (ci := 2) (v := .ref a5) (C := RM) (T := FM) (N := 10) hx hb hB inM hown hK hP 0 rfl rfl 7 (by decide) (hB _ wd_329) (fun _ h9 => h9) rfl dM_put_39 ?_
          refine lv_aload_n hx hb dM_put_42 rfl (lv_at hl 0 rfl) ?_
          refine va_get (D := D) (ci := 2) (v := .int (nI n)) (C := RM) (T := FM) (N := 10) hx hb hB inM hown hK hP 0 rfl rfl 6 (by decide) (hB _ wd_328) (fun _ h9 => h9) rfl dM_put_43 ?_
          refine lv_iload_n hx hb dM_put_46 rfl (lv_at hl 1 rfl) ?_
          refine lv_ldc (v := 65536) hx hb hown (hB _ wd_364) dM_put_47 ?_
          refine lv_imul hx hb dM_put_49 ?_
          refine lv_iload_n hx hb dM_put_50 rfl (lv_at hl 2 rfl) ?_
          refine lv_sipush (v := 256) hx hb dM_put_51 (by decide) ?_
          refine lv_imul hx hb dM_put_54 ?_
          refine lv_iadd hx hb dM_put_55 ?_
          refine lv_iload_n hx hb dM_put_56 rfl (lv_at hl 3 rfl) ?_
          refine lv_iadd hx hb dM_put_57 ?_
          refine va_iast hx hb hK hP hD hS 5 0 rfl rfl (vp_in_nI (hn) (by omega)) dM_put_58 (fun H locs hP hD hS => ?_)
          have hP : va_P D tbCl [(m0, .inr (2, [.int 0, .int mn, .ref a1, .ref a2, .ref a3, .ref a4, .int (nI n), .ref a5, .ref a6, .int si])), (a1, .inl (cI, 8, .inl f1)), (a2, .inl (cI, 8, .inl f2)), (a3, .inl (cI, 8, .inl f3)), (a4, .inl (cI, 8192, .inl f4)), (a5, .inl (cI, 1024, .inl (upd f5 n (r9 * 65536 + g9 * 256 + b9)))), (a6, .inl (cI, 1024, .inl f6))] H := by
            have hP9 := hP
            rw [nI_clamp (by have := (hn : n < 1024); omega)] at hP9
            exact hP9
          have hD : va_D A [(m0, .inr (2, [.int 0, .int mn, .ref a1, .ref a2, .ref a3, .ref a4, .int (nI n), .ref a5, .ref a6, .int si])), (a1, .inl (cI, 8, .inl f1)), (a2, .inl (cI, 8, .inl f2)), (a3, .inl (cI, 8, .inl f3)), (a4, .inl (cI, 8192, .inl f4)), (a5, .inl (cI, 1024, .inl (upd f5 n (r9 * 65536 + g9 * 256 + b9)))), (a6, .inl (cI, 1024, .inl f6))] := wd_D hD rfl
          refine lv_aload_n hx hb dM_put_59 rfl (lv_at hl 0 rfl) ?_
          refine lv_dup hx hb dM_put_60 rfl ?_
          refine va_get (D := D) (ci := 2) (v := .int (nI n)) (C := RM) (T := FM) (N := 10) hx hb hB inM hown hK hP 0 rfl rfl 6 (by decide) (hB _ wd_328) (fun _ h9 => h9) rfl dM_put_61 ?_
          refine lv_iconst (v := 1) hx hb dM_put_64 (by decide) ?_
          refine lv_iadd hx hb dM_put_65 ?_
          refine W.eq (g2 := F0 m 66 ls [.int (nI (n + 1)), .ref m0]) (by rw [nI_1]) ?_
          refine va_put (D := D) (ci := 2) (v := .int (nI (n + 1))) (ty := .int) (C := RM) (T := FM) (N := 10) hx hb hB inM tyM tyM_ok nmM hown hK hP hD hS 0 rfl rfl 6 (by decide) (hB _ wd_328) (fun _ h9 => h9) rfl (by decide +kernel) rfl rfl (Nat.le_of_ble_eq_true rfl) dM_put_66 (fun H locs hP hD hS => ?_)
          have hP : va_P D tbCl [(m0, .inr (2, [.int 0, .int mn, .ref a1, .ref a2, .ref a3, .ref a4, .int (nI (n + 1)), .ref a5, .ref a6, .int si])), (a1, .inl (cI, 8, .inl f1)), (a2, .inl (cI, 8, .inl f2)), (a3, .inl (cI, 8, .inl f3)), (a4, .inl (cI, 8192, .inl f4)), (a5, .inl (cI, 1024, .inl (upd f5 n (r9 * 65536 + g9 * 256 + b9)))), (a6, .inl (cI, 1024, .inl f6))] H := hP
          have hD : va_D A [(m0, .inr (2, [.int 0, .int mn, .ref a1, .ref a2, .ref a3, .ref a4, .int (nI (n + 1)), .ref a5, .ref a6, .int si])), (a1, .inl (cI, 8, .inl f1)), (a2, .inl (cI, 8, .inl f2)), (a3, .inl (cI, 8, .inl f3)), (a4, .inl (cI, 8192, .inl f4)), (a5, .inl (cI, 1024, .inl (upd f5 n (r9 * 65536 + g9 * 256 + b9)))), (a6, .inl (cI, 1024, .inl f6))] := hD
          refine lv_aload_n hx hb dM_put_69 rfl (lv_at hl 0 rfl) ?_
          refine va_get (D := D) (ci := 2) (v := .int (nI (n + 1))) (C := RM) (T := FM) (N := 10) hx hb hB inM hown hK hP 0 rfl rfl 6 (by decide) (hB _ wd_328) (fun _ h9 => h9) rfl dM_put_70 ?_
          exact W.iret hx hb hr (fun t ht hW => ⟨⟨_, (), rfl, rfl, (by have h9 : va_P D tbCl [(m0, .inr (2, [.int 0, .int mn, .ref a1, .ref a2, .ref a3, .ref a4, .int (nI (n + 1)), .ref a5, .ref a6, .int si])), (a1, .inl (cI, 8, .inl f1)), (a2, .inl (cI, 8, .inl f2)), (a3, .inl (cI, 8, .inl f3)), (a4, .inl (cI, 8192, .inl f4)), (a5, .inl (cI, 1024, .inl (upd f5 n (r9 * 65536 + g9 * 256 + b9)))), (a6, .inl (cI, 1024, .inl f6))] H := hP; rw [← ht] at h9; exact h9)⟩, hS.F ht⟩) hS.2.2 dM_put_73
        · exact absurd c_4 (fun h9 => absurd ((nI_eq (b := 1024) (by omega) (by omega)).mp h9) (by omega))

set_option maxHeartbeats 4000000 in
set_option maxRecDepth 100000 in
theorem kM_clear (l : Launch) (D : va_G) (sz : Nat) (cI : ClassId) (m0 a1 a2 a3 a4 a5 a6 : Nat) (th mn zz si : Int32) (f1 f2 f3 f4 f5 f6 : Nat → Int32)  : Met l yM_clear wM_clear (k2_rm 0 0) (wr_P [.ref m0] sz D [(cI, .int)] [(m0, .inr (2, [.int th, .int mn, .ref a1, .ref a2, .ref a3, .ref a4, .int zz, .ref a5, .ref a6, .int si])), (a1, .inl (cI, 8, .inl f1)), (a2, .inl (cI, 8, .inl f2)), (a3, .inl (cI, 8, .inl f3)), (a4, .inl (cI, 8192, .inl f4)), (a5, .inl (cI, 1024, .inl f5)), (a6, .inl (cI, 1024, .inl f6))]) (wr_Qv D (va_A [(m0, .inr (2, [.int th, .int mn, .ref a1, .ref a2, .ref a3, .ref a4, .int zz, .ref a5, .ref a6, .int si])), (a1, .inl (cI, 8, .inl f1)), (a2, .inl (cI, 8, .inl f2)), (a3, .inl (cI, 8, .inl f3)), (a4, .inl (cI, 8192, .inl f4)), (a5, .inl (cI, 1024, .inl f5)), (a6, .inl (cI, 1024, .inl f6))] sz) [(m0, .inr (2, [.int 0, .int 0, .ref a1, .ref a2, .ref a3, .ref a4, .int zz, .ref a5, .ref a6, .int si])), (a1, .inl (cI, 8, .inl f1)), (a2, .inl (cI, 8, .inl f2)), (a3, .inl (cI, 8, .inl f3)), (a4, .inl (cI, 8192, .inl f4)), (a5, .inl (cI, 1024, .inl f5)), (a6, .inl (cI, 1024, .inl f6))]) 0 0 (va_A [(m0, .inr (2, [.int th, .int mn, .ref a1, .ref a2, .ref a3, .ref a4, .int zz, .ref a5, .ref a6, .int si])), (a1, .inl (cI, 8, .inl f1)), (a2, .inl (cI, 8, .inl f2)), (a3, .inl (cI, 8, .inl f3)), (a4, .inl (cI, 8192, .inl f4)), (a5, .inl (cI, 1024, .inl f5)), (a6, .inl (cI, 1024, .inl f6))] sz) := by
  refine Met.ofW (cc := cM_clear) (maxL := 1) (ret := none) (by decide) rfl ?_
  intro p e s m args below meth c s₁ B hml hv
  obtain ⟨rfl, hsz, hC, hP, hK, hD0⟩ := hv
  have hx := B.exec
  have hb := B.bytes
  have hr := B.returns
  have hB : ∀ w ∈ tbB, w.before _ s = true := fun w h => (atoms_spec (ws := wM_clear) B.pre) w (List.mem_cons_of_mem _ h)
  have hown : s.vm.findClass "TextureBankModel" = some m.cls := findClass_of_methodNamed B.named
  have hlocks := B.notSynchronized
  subst hsz
  have hD := hD0.self (sz := s.heap.size)
  generalize hAe : va_A [(m0, .inr (2, [.int th, .int mn, .ref a1, .ref a2, .ref a3, .ref a4, .int zz, .ref a5, .ref a6, .int si])), (a1, .inl (cI, 8, .inl f1)), (a2, .inl (cI, 8, .inl f2)), (a3, .inl (cI, 8, .inl f3)), (a4, .inl (cI, 8192, .inl f4)), (a5, .inl (cI, 1024, .inl f5)), (a6, .inl (cI, 1024, .inl f6))] s.heap.size = A at hD ⊢
  have hA : ∀ q : Nat, s.heap.size ≤ q → A q := fun q h => by rw [← hAe]; exact Or.inr h
  have hS : va_S A s.heap s.heap [] := va_S.rf
  have hl := lv_entry ([.ref m0]) (n := 1) (Nat.le_of_ble_eq_true rfl)
  rw [lg_entry_eq]
  generalize (lg_sl ([.ref m0]) ++ List.replicate (1 - (lg_sl ([.ref m0])).length) Slot.unset).toArray = ls at hl ⊢
  have hl : lv_has ls 1 [(0, .ref m0)] := hl
  refine lv_aload_n hx hb dM_clear_0 rfl (lv_at hl 0 rfl) ?_
  refine lv_iconst (v := 0) hx hb dM_clear_1 (by decide) ?_
  refine va_put (D := D) (ci := 2) (v := .int 0) (ty := .int) (C := RM) (T := FM) (N := 10) hx hb hB inM tyM tyM_ok nmM hown hK hP hD hS 0 rfl rfl 0 (by decide) (hB _ wd_322) (fun _ h9 => h9) rfl (by decide +kernel) rfl rfl (Nat.le_of_ble_eq_true rfl) dM_clear_2 (fun H locs hP hD hS => ?_)
  have hP : va_P D tbCl [(m0, .inr (2, [.int 0, .int mn, .ref a1, .ref a2, .ref a3, .ref a4, .int zz, .ref a5, .ref a6, .int si])), (a1, .inl (cI, 8, .inl f1)), (a2, .inl (cI, 8, .inl f2)), (a3, .inl (cI, 8, .inl f3)), (a4, .inl (cI, 8192, .inl f4)), (a5, .inl (cI, 1024, .inl f5)), (a6, .inl (cI, 1024, .inl f6))] H := hP
  have hD : va_D A [(m0, .inr (2, [.int 0, .int mn, .ref a1, .ref a2, .ref a3, .ref a4, .int zz, .ref a5, .ref a6, .int si])), (a1, .inl (cI, 8, .inl f1)), (a2, .inl (cI, 8, .inl f2)), (a3, .inl (cI, 8, .inl f3)), (a4, .inl (cI, 8192, .inl f4)), (a5, .inl (cI, 1024, .inl f5)), (a6, .inl (cI, 1024, .inl f6))] := hD
  refine lv_aload_n hx hb dM_clear_5 rfl (lv_at hl 0 rfl) ?_
  refine lv_iconst (v := 0) hx hb dM_clear_6 (by decide) ?_
  refine va_put (D := D) (ci := 2) (v := .int 0) (ty := .int) (C := RM) (T := FM) (N := 10) hx hb hB inM tyM tyM_ok nmM hown hK hP hD hS 0 rfl rfl 1 (by decide) (hB _ wd_323) (fun _ h9 => h9) rfl (by decide +kernel) rfl rfl (Nat.le_of_ble_eq_true rfl) dM_clear_7 (fun H locs hP hD hS => ?_)
  have hP : va_P D tbCl [(m0, .inr (2, [.int 0, .int 0, .ref a1, .ref a2, .ref a3, .ref a4, .int zz, .ref a5, .ref a6, .int si])), (a1, .inl (cI, 8, .inl f1)), (a2, .inl (cI, 8, .inl f2)), (a3, .inl (cI, 8, .inl f3)), (a4, .inl (cI, 8192, .inl f4)), (a5, .inl (cI, 1024, .inl f5)), (a6, .inl (cI, 1024, .inl f6))] H := hP
  have hD : va_D A [(m0, .inr (2, [.int 0, .int 0, .ref a1, .ref a2, .ref a3, .ref a4, .int zz, .ref a5, .ref a6, .int si])), (a1, .inl (cI, 8, .inl f1)), (a2, .inl (cI, 8, .inl f2)), (a3, .inl (cI, 8, .inl f3)), (a4, .inl (cI, 8192, .inl f4)), (a5, .inl (cI, 1024, .inl f5)), (a6, .inl (cI, 1024, .inl f6))] := hD
  exact W.vret hx hb hr (fun t ht hW => ⟨⟨(), rfl, trivial, (by have h9 := hP; rw [← ht] at h9; exact h9)⟩, hS.F ht⟩) hS.2.2 dM_clear_10

set_option maxHeartbeats 4000000 in
set_option maxRecDepth 100000 in
theorem kM_count (l : Launch) (D : va_G) (sz : Nat) (cI : ClassId) (m0 a1 a2 a3 a4 a5 a6 : Nat) (th mn zz si : Int32) (f1 f2 f3 f4 f5 f6 : Nat → Int32) (w9 : Int32) : Met l yM_count wM_count (k2_rm 0 0) (wr_P [.ref m0, .int w9] sz D [(cI, .int)] [(m0, .inr (2, [.int th, .int mn, .ref a1, .ref a2, .ref a3, .ref a4, .int zz, .ref a5, .ref a6, .int si])), (a1, .inl (cI, 8, .inl f1)), (a2, .inl (cI, 8, .inl f2)), (a3, .inl (cI, 8, .inl f3)), (a4, .inl (cI, 8192, .inl f4)), (a5, .inl (cI, 1024, .inl f5)), (a6, .inl (cI, 1024, .inl f6))]) (wr_Qi (tb_count zz mn w9) D (va_A [(m0, .inr (2, [.int th, .int mn, .ref a1, .ref a2, .ref a3, .ref a4, .int zz, .ref a5, .ref a6, .int si])), (a1, .inl (cI, 8, .inl f1)), (a2, .inl (cI, 8, .inl f2)), (a3, .inl (cI, 8, .inl f3)), (a4, .inl (cI, 8192, .inl f4)), (a5, .inl (cI, 1024, .inl f5)), (a6, .inl (cI, 1024, .inl f6))] sz) [(m0, .inr (2, [.int 0, .int mn, .ref a1, .ref a2, .ref a3, .ref a4, .int zz, .ref a5, .ref a6, .int si])), (a1, .inl (cI, 8, .inl f1)), (a2, .inl (cI, 8, .inl f2)), (a3, .inl (cI, 8, .inl f3)), (a4, .inl (cI, 8192, .inl f4)), (a5, .inl (cI, 1024, .inl f5)), (a6, .inl (cI, 1024, .inl f6))]) 0 0 (va_A [(m0, .inr (2, [.int th, .int mn, .ref a1, .ref a2, .ref a3, .ref a4, .int zz, .ref a5, .ref a6, .int si])), (a1, .inl (cI, 8, .inl f1)), (a2, .inl (cI, 8, .inl f2)), (a3, .inl (cI, 8, .inl f3)), (a4, .inl (cI, 8192, .inl f4)), (a5, .inl (cI, 1024, .inl f5)), (a6, .inl (cI, 1024, .inl f6))] sz) := by
  refine Met.ofW (cc := cM_count) (maxL := 2) (ret := (some .int)) (by decide) rfl ?_
  intro p e s m args below meth c s₁ B hml hv
  obtain ⟨rfl, hsz, hC, hP, hK, hD0⟩ := hv
  have hx := B.exec
  have hb := B.bytes
  have hr := B.returns
  have hB : ∀ w ∈ tbB, w.before _ s = true := fun w h => (atoms_spec (ws := wM_count) B.pre) w (List.mem_cons_of_mem _ h)
  have hown : s.vm.findClass "TextureBankModel" = some m.cls := findClass_of_methodNamed B.named
  have hlocks := B.notSynchronized
  subst hsz
  have hD := hD0.self (sz := s.heap.size)
  generalize hAe : va_A [(m0, .inr (2, [.int th, .int mn, .ref a1, .ref a2, .ref a3, .ref a4, .int zz, .ref a5, .ref a6, .int si])), (a1, .inl (cI, 8, .inl f1)), (a2, .inl (cI, 8, .inl f2)), (a3, .inl (cI, 8, .inl f3)), (a4, .inl (cI, 8192, .inl f4)), (a5, .inl (cI, 1024, .inl f5)), (a6, .inl (cI, 1024, .inl f6))] s.heap.size = A at hD ⊢
  have hA : ∀ q : Nat, s.heap.size ≤ q → A q := fun q h => by rw [← hAe]; exact Or.inr h
  have hS : va_S A s.heap s.heap [] := va_S.rf
  have hl := lv_entry ([.ref m0, .int w9]) (n := 2) (Nat.le_of_ble_eq_true rfl)
  rw [lg_entry_eq]
  generalize (lg_sl ([.ref m0, .int w9]) ++ List.replicate (2 - (lg_sl ([.ref m0, .int w9])).length) Slot.unset).toArray = ls at hl ⊢
  have hl : lv_has ls 2 [(0, .ref m0), (1, .int w9)] := hl
  refine lv_aload_n hx hb dM_count_0 rfl (lv_at hl 0 rfl) ?_
  refine lv_iconst (v := 0) hx hb dM_count_1 (by decide) ?_
  refine va_put (D := D) (ci := 2) (v := .int 0) (ty := .int) (C := RM) (T := FM) (N := 10) hx hb hB inM tyM tyM_ok nmM hown hK hP hD hS 0 rfl rfl 0 (by decide) (hB _ wd_322) (fun _ h9 => h9) rfl (by decide +kernel) rfl rfl (Nat.le_of_ble_eq_true rfl) dM_count_2 (fun H locs hP hD hS => ?_)
  have hP : va_P D tbCl [(m0, .inr (2, [.int 0, .int mn, .ref a1, .ref a2, .ref a3, .ref a4, .int zz, .ref a5, .ref a6, .int si])), (a1, .inl (cI, 8, .inl f1)), (a2, .inl (cI, 8, .inl f2)), (a3, .inl (cI, 8, .inl f3)), (a4, .inl (cI, 8192, .inl f4)), (a5, .inl (cI, 1024, .inl f5)), (a6, .inl (cI, 1024, .inl f6))] H := hP
  have hD : va_D A [(m0, .inr (2, [.int 0, .int mn, .ref a1, .ref a2, .ref a3, .ref a4, .int zz, .ref a5, .ref a6, .int si])), (a1, .inl (cI, 8, .inl f1)), (a2, .inl (cI, 8, .inl f2)), (a3, .inl (cI, 8, .inl f3)), (a4, .inl (cI, 8192, .inl f4)), (a5, .inl (cI, 1024, .inl f5)), (a6, .inl (cI, 1024, .inl f6))] := hD
  refine lv_iload_n hx hb dM_count_5 rfl (lv_at hl 1 rfl) ?_
  refine lv_if_ne (tgt := 16) hx hb dM_count_6 (by decide) (fun c_1 => ?_) (fun c_1 => ?_)
  · refine lv_iload_n hx hb dM_count_16 rfl (lv_at hl 1 rfl) ?_
    refine lv_iconst (v := 1) hx hb dM_count_17 (by decide) ?_
    refine lv_icmp_ne (tgt := 28) hx hb dM_count_18 (by decide) (fun c_2 => ?_) (fun c_2 => ?_)
    · refine lv_iconst (v := (-1)) hx hb dM_count_28 (by decide) ?_
      exact W.iret hx hb hr (fun t ht hW => ⟨⟨_, (), rfl, by unfold tb_count; (first | rw [if_pos c_1] | rw [if_neg c_1]); (first | rw [if_pos c_2] | rw [if_neg c_2]), (by have h9 : va_P D tbCl [(m0, .inr (2, [.int 0, .int mn, .ref a1, .ref a2, .ref a3, .ref a4, .int zz, .ref a5, .ref a6, .int si])), (a1, .inl (cI, 8, .inl f1)), (a2, .inl (cI, 8, .inl f2)), (a3, .inl (cI, 8, .inl f3)), (a4, .inl (cI, 8192, .inl f4)), (a5, .inl (cI, 1024, .inl f5)), (a6, .inl (cI, 1024, .inl f6))] H := hP; rw [← ht] at h9; exact h9)⟩, hS.F ht⟩) hS.2.2 dM_count_29
    · refine lv_aload_n hx hb dM_count_21 rfl (lv_at hl 0 rfl) ?_
      refine va_get (D := D) (ci := 2) (v := .int zz) (C := RM) (T := FM) (N := 10) hx hb hB inM hown hK hP 0 rfl rfl 6 (by decide) (hB _ wd_328) (fun _ h9 => h9) rfl dM_count_22 ?_
      refine lv_goto (tgt := 29) hx hb dM_count_25 (by decide) ?_
      exact W.iret hx hb hr (fun t ht hW => ⟨⟨_, (), rfl, by unfold tb_count; (first | rw [if_pos c_1] | rw [if_neg c_1]); (first | rw [if_pos c_2] | rw [if_neg c_2]), (by have h9 : va_P D tbCl [(m0, .inr (2, [.int 0, .int mn, .ref a1, .ref a2, .ref a3, .ref a4, .int zz, .ref a5, .ref a6, .int si])), (a1, .inl (cI, 8, .inl f1)), (a2, .inl (cI, 8, .inl f2)), (a3, .inl (cI, 8, .inl f3)), (a4, .inl (cI, 8192, .inl f4)), (a5, .inl (cI, 1024, .inl f5)), (a6, .inl (cI, 1024, .inl f6))] H := hP; rw [← ht] at h9; exact h9)⟩, hS.F ht⟩) hS.2.2 dM_count_29
  · refine lv_aload_n hx hb dM_count_9 rfl (lv_at hl 0 rfl) ?_
    refine va_get (D := D) (ci := 2) (v := .int mn) (C := RM) (T := FM) (N := 10) hx hb hB inM hown hK hP 0 rfl rfl 1 (by decide) (hB _ wd_323) (fun _ h9 => h9) rfl dM_count_10 ?_
    refine lv_goto (tgt := 29) hx hb dM_count_13 (by decide) ?_
    exact W.iret hx hb hr (fun t ht hW => ⟨⟨_, (), rfl, by unfold tb_count; (first | rw [if_pos c_1] | rw [if_neg c_1]), (by have h9 : va_P D tbCl [(m0, .inr (2, [.int 0, .int mn, .ref a1, .ref a2, .ref a3, .ref a4, .int zz, .ref a5, .ref a6, .int si])), (a1, .inl (cI, 8, .inl f1)), (a2, .inl (cI, 8, .inl f2)), (a3, .inl (cI, 8, .inl f3)), (a4, .inl (cI, 8192, .inl f4)), (a5, .inl (cI, 1024, .inl f5)), (a6, .inl (cI, 1024, .inl f6))] H := hP; rw [← ht] at h9; exact h9)⟩, hS.F ht⟩) hS.2.2 dM_count_29
end
section
def mm_ln (c t li w : Int32) : Int32 := ((mm_part c w * mm_part t w / 255).toInt64 * li.toInt64 / 65536).toInt32
def mm_lit (c t li : Int32) : Int32 := ((0 + mm_ln c t li 0) * 256 + mm_ln c t li 1) * 256 + mm_ln c t li 2
set_option maxHeartbeats 4000000 in
set_option maxRecDepth 100000 in
theorem kM_about_none (l : Launch) (D : va_G) (sz : Nat) (cI : ClassId) (m0 a1 a2 a3 a4 a5 a6 : Nat) (th mn zz si : Int32) (f1 f2 f3 f4 f5 f6 : Nat → Int32) (t9 w9 : Int32) (hno : tt_has mn t9 = 0) : Met l yM_about wM_about (k2_rm 1 21) (wr_P [.ref m0, .int t9, .int w9] sz D [(cI, .int)] [(m0, .inr (2, [.int th, .int mn, .ref a1, .ref a2, .ref a3, .ref a4, .int zz, .ref a5, .ref a6, .int si])), (a1, .inl (cI, 8, .inl f1)), (a2, .inl (cI, 8, .inl f2)), (a3, .inl (cI, 8, .inl f3)), (a4, .inl (cI, 8192, .inl f4)), (a5, .inl (cI, 1024, .inl f5)), (a6, .inl (cI, 1024, .inl f6))]) (wr_Qi (-1) D (va_A [(m0, .inr (2, [.int th, .int mn, .ref a1, .ref a2, .ref a3, .ref a4, .int zz, .ref a5, .ref a6, .int si])), (a1, .inl (cI, 8, .inl f1)), (a2, .inl (cI, 8, .inl f2)), (a3, .inl (cI, 8, .inl f3)), (a4, .inl (cI, 8192, .inl f4)), (a5, .inl (cI, 1024, .inl f5)), (a6, .inl (cI, 1024, .inl f6))] sz) [(m0, .inr (2, [.int 0, .int mn, .ref a1, .ref a2, .ref a3, .ref a4, .int zz, .ref a5, .ref a6, .int si])), (a1, .inl (cI, 8, .inl f1)), (a2, .inl (cI, 8, .inl f2)), (a3, .inl (cI, 8, .inl f3)), (a4, .inl (cI, 8192, .inl f4)), (a5, .inl (cI, 1024, .inl f5)), (a6, .inl (cI, 1024, .inl f6))]) 0 0 (va_A [(m0, .inr (2, [.int th, .int mn, .ref a1, .ref a2, .ref a3, .ref a4, .int zz, .ref a5, .ref a6, .int si])), (a1, .inl (cI, 8, .inl f1)), (a2, .inl (cI, 8, .inl f2)), (a3, .inl (cI, 8, .inl f3)), (a4, .inl (cI, 8192, .inl f4)), (a5, .inl (cI, 1024, .inl f5)), (a6, .inl (cI, 1024, .inl f6))] sz) := by
  refine Met.ofW (cc := cM_about) (maxL := 3) (ret := (some .int)) (by decide) rfl ?_
  intro p e s m args below meth c s₁ B hml hv
  obtain ⟨rfl, hsz, hC, hP, hK, hD0⟩ := hv
  have hx := B.exec
  have hb := B.bytes
  have hr := B.returns
  have hB : ∀ w ∈ tbB, w.before _ s = true := fun w h => (atoms_spec (ws := wM_about) B.pre) w (List.mem_cons_of_mem _ h)
  have hown : s.vm.findClass "TextureBankModel" = some m.cls := findClass_of_methodNamed B.named
  have hlocks := B.notSynchronized
  subst hsz
  have hD := hD0.self (sz := s.heap.size)
  generalize hAe : va_A [(m0, .inr (2, [.int th, .int mn, .ref a1, .ref a2, .ref a3, .ref a4, .int zz, .ref a5, .ref a6, .int si])), (a1, .inl (cI, 8, .inl f1)), (a2, .inl (cI, 8, .inl f2)), (a3, .inl (cI, 8, .inl f3)), (a4, .inl (cI, 8192, .inl f4)), (a5, .inl (cI, 1024, .inl f5)), (a6, .inl (cI, 1024, .inl f6))] s.heap.size = A at hD ⊢
  have hA : ∀ q : Nat, s.heap.size ≤ q → A q := fun q h => by rw [← hAe]; exact Or.inr h
  have hS : va_S A s.heap s.heap [] := va_S.rf
  have hl := lv_entry ([.ref m0, .int t9, .int w9]) (n := 3) (Nat.le_of_ble_eq_true rfl)
  rw [lg_entry_eq]
  generalize (lg_sl ([.ref m0, .int t9, .int w9]) ++ List.replicate (3 - (lg_sl ([.ref m0, .int t9, .int w9])).length) Slot.unset).toArray = ls at hl ⊢
  have hl : lv_has ls 3 [(0, .ref m0), (1, .int t9), (2, .int w9)] := hl
  refine lv_aload_n hx hb dM_about_0 rfl (lv_at hl 0 rfl) ?_
  refine lv_iconst (v := 0) hx hb dM_about_1 (by decide) ?_
  refine va_put (D := D) (ci := 2) (v := .int 0) (ty := .int) (C := RM) (T := FM) (N := 10) hx hb hB inM tyM tyM_ok nmM hown hK hP hD hS 0 rfl rfl 0 (by decide) (hB _ wd_322) (fun _ h9 => h9) rfl (by decide +kernel) rfl rfl (Nat.le_of_ble_eq_true rfl) dM_about_2 (fun H locs hP hD hS => ?_)
  have hP : va_P D tbCl [(m0, .inr (2, [.int 0, .int mn, .ref a1, .ref a2, .ref a3, .ref a4, .int zz, .ref a5, .ref a6, .int si])), (a1, .inl (cI, 8, .inl f1)), (a2, .inl (cI, 8, .inl f2)), (a3, .inl (cI, 8, .inl f3)), (a4, .inl (cI, 8192, .inl f4)), (a5, .inl (cI, 1024, .inl f5)), (a6, .inl (cI, 1024, .inl f6))] H := hP
  have hD : va_D A [(m0, .inr (2, [.int 0, .int mn, .ref a1, .ref a2, .ref a3, .ref a4, .int zz, .ref a5, .ref a6, .int si])), (a1, .inl (cI, 8, .inl f1)), (a2, .inl (cI, 8, .inl f2)), (a3, .inl (cI, 8, .inl f3)), (a4, .inl (cI, 8192, .inl f4)), (a5, .inl (cI, 1024, .inl f5)), (a6, .inl (cI, 1024, .inl f6))] := hD
  refine lv_aload_n hx hb dM_about_5 rfl (lv_at hl 0 rfl) ?_
  refine lv_iload_n hx hb dM_about_6 rfl (lv_at hl 1 rfl) ?_
  refine W.callV (W.runV (C := "TextureBankModel") (As := [.int t9]) (rest := []) ⟨hx, hb, hml, hown, hB⟩ (kM_isThere l D cI m0 a1 a2 a3 a4 a5 a6 0 mn zz si f1 f2 f3 f4 f5 f6 t9) ⟨callB_of 1 hB gwM_isThere rfl rfl rfl (hB _ wd_3) (hB _ wd_377) ydM_isThere ⟨Nat.le_of_ble_eq_true rfl, Nat.le_of_ble_eq_true rfl⟩, hB _ wd_379, hB _ ws_12⟩ (rd_V hC hP hK (va_recv hK hP (ci := 2) (q0 := 0) rfl rfl)) rfl rfl hl.1 rfl (lv_room (Nat.le_of_ble_eq_true rfl)) dM_about_7 ⟨Nat.zero_le _, Nat.zero_le _⟩) ?_
  refine W.eq (g2 := F0 m 10 ls [.int (tt_has mn t9)]) rfl ?_
  refine lv_if_ne (tgt := 15) hx hb dM_about_10 (by decide) (fun c_1 => ?_) (fun c_1 => ?_)
  · exact absurd hno c_1
  · refine lv_iconst (v := (-1)) hx hb dM_about_13 (by decide) ?_
    exact W.iret hx hb hr (fun t ht hW => ⟨⟨_, (), rfl, rfl, (by have h9 : va_P D tbCl [(m0, .inr (2, [.int 0, .int mn, .ref a1, .ref a2, .ref a3, .ref a4, .int zz, .ref a5, .ref a6, .int si])), (a1, .inl (cI, 8, .inl f1)), (a2, .inl (cI, 8, .inl f2)), (a3, .inl (cI, 8, .inl f3)), (a4, .inl (cI, 8192, .inl f4)), (a5, .inl (cI, 1024, .inl f5)), (a6, .inl (cI, 1024, .inl f6))] H := hP; rw [← ht] at h9; exact h9)⟩, hS.F ht⟩) hS.2.2 dM_about_14

set_option maxHeartbeats 4000000 in
set_option maxRecDepth 100000 in
theorem kM_about_some (l : Launch) (D : va_G) (sz : Nat) (cI : ClassId) (m0 a1 a2 a3 a4 a5 a6 : Nat) (th mn zz si : Int32) (f1 f2 f3 f4 f5 f6 : Nat → Int32) (j k : Nat) (hj : j < 8) (hk : k ≤ 5) (hf : f1 j = nI (2 ^ k)) (hth : ¬ tt_has mn (nI j) = 0) (w9 : Int32) : Met l yM_about wM_about (k2_rm 1 23) (wr_P [.ref m0, .int (nI j), .int w9] sz D [(cI, .int)] [(m0, .inr (2, [.int th, .int mn, .ref a1, .ref a2, .ref a3, .ref a4, .int zz, .ref a5, .ref a6, .int si])), (a1, .inl (cI, 8, .inl f1)), (a2, .inl (cI, 8, .inl f2)), (a3, .inl (cI, 8, .inl f3)), (a4, .inl (cI, 8192, .inl f4)), (a5, .inl (cI, 1024, .inl f5)), (a6, .inl (cI, 1024, .inl f6))]) (wr_Qi (tb_about (f1 j) (f2 j) (f3 j) (nI (k + 1)) w9) D (va_A [(m0, .inr (2, [.int th, .int mn, .ref a1, .ref a2, .ref a3, .ref a4, .int zz, .ref a5, .ref a6, .int si])), (a1, .inl (cI, 8, .inl f1)), (a2, .inl (cI, 8, .inl f2)), (a3, .inl (cI, 8, .inl f3)), (a4, .inl (cI, 8192, .inl f4)), (a5, .inl (cI, 1024, .inl f5)), (a6, .inl (cI, 1024, .inl f6))] sz) [(m0, .inr (2, [.int 0, .int mn, .ref a1, .ref a2, .ref a3, .ref a4, .int zz, .ref a5, .ref a6, .int si])), (a1, .inl (cI, 8, .inl f1)), (a2, .inl (cI, 8, .inl f2)), (a3, .inl (cI, 8, .inl f3)), (a4, .inl (cI, 8192, .inl f4)), (a5, .inl (cI, 1024, .inl f5)), (a6, .inl (cI, 1024, .inl f6))]) 0 0 (va_A [(m0, .inr (2, [.int th, .int mn, .ref a1, .ref a2, .ref a3, .ref a4, .int zz, .ref a5, .ref a6, .int si])), (a1, .inl (cI, 8, .inl f1)), (a2, .inl (cI, 8, .inl f2)), (a3, .inl (cI, 8, .inl f3)), (a4, .inl (cI, 8192, .inl f4)), (a5, .inl (cI, 1024, .inl f5)), (a6, .inl (cI, 1024, .inl f6))] sz) := by
  refine Met.ofW (cc := cM_about) (maxL := 3) (ret := (some .int)) (by decide) rfl ?_
  intro p e s m args below meth c s₁ B hml hv
  obtain ⟨rfl, hsz, hC, hP, hK, hD0⟩ := hv
  have hx := B.exec
  have hb := B.bytes
  have hr := B.returns
  have hB : ∀ w ∈ tbB, w.before _ s = true := fun w h => (atoms_spec (ws := wM_about) B.pre) w (List.mem_cons_of_mem _ h)
  have hown : s.vm.findClass "TextureBankModel" = some m.cls := findClass_of_methodNamed B.named
  have hlocks := B.notSynchronized
  subst hsz
  have hD := hD0.self (sz := s.heap.size)
  generalize hAe : va_A [(m0, .inr (2, [.int th, .int mn, .ref a1, .ref a2, .ref a3, .ref a4, .int zz, .ref a5, .ref a6, .int si])), (a1, .inl (cI, 8, .inl f1)), (a2, .inl (cI, 8, .inl f2)), (a3, .inl (cI, 8, .inl f3)), (a4, .inl (cI, 8192, .inl f4)), (a5, .inl (cI, 1024, .inl f5)), (a6, .inl (cI, 1024, .inl f6))] s.heap.size = A at hD ⊢
  have hA : ∀ q : Nat, s.heap.size ≤ q → A q := fun q h => by rw [← hAe]; exact Or.inr h
  have hS : va_S A s.heap s.heap [] := va_S.rf
  have hl := lv_entry ([.ref m0, .int (nI j), .int w9]) (n := 3) (Nat.le_of_ble_eq_true rfl)
  rw [lg_entry_eq]
  generalize (lg_sl ([.ref m0, .int (nI j), .int w9]) ++ List.replicate (3 - (lg_sl ([.ref m0, .int (nI j), .int w9])).length) Slot.unset).toArray = ls at hl ⊢
  have hl : lv_has ls 3 [(0, .ref m0), (1, .int (nI j)), (2, .int w9)] := hl
  refine lv_aload_n hx hb dM_about_0 rfl (lv_at hl 0 rfl) ?_
  refine lv_iconst (v := 0) hx hb dM_about_1 (by decide) ?_
  refine va_put (D := D) (ci := 2) (v := .int 0) (ty := .int) (C := RM) (T := FM) (N := 10) hx hb hB inM tyM tyM_ok nmM hown hK hP hD hS 0 rfl rfl 0 (by decide) (hB _ wd_322) (fun _ h9 => h9) rfl (by decide +kernel) rfl rfl (Nat.le_of_ble_eq_true rfl) dM_about_2 (fun H locs hP hD hS => ?_)
  have hP : va_P D tbCl [(m0, .inr (2, [.int 0, .int mn, .ref a1, .ref a2, .ref a3, .ref a4, .int zz, .ref a5, .ref a6, .int si])), (a1, .inl (cI, 8, .inl f1)), (a2, .inl (cI, 8, .inl f2)), (a3, .inl (cI, 8, .inl f3)), (a4, .inl (cI, 8192, .inl f4)), (a5, .inl (cI, 1024, .inl f5)), (a6, .inl (cI, 1024, .inl f6))] H := hP
  have hD : va_D A [(m0, .inr (2, [.int 0, .int mn, .ref a1, .ref a2, .ref a3, .ref a4, .int zz, .ref a5, .ref a6, .int si])), (a1, .inl (cI, 8, .inl f1)), (a2, .inl (cI, 8, .inl f2)), (a3, .inl (cI, 8, .inl f3)), (a4, .inl (cI, 8192, .inl f4)), (a5, .inl (cI, 1024, .inl f5)), (a6, .inl (cI, 1024, .inl f6))] := hD
  refine lv_aload_n hx hb dM_about_5 rfl (lv_at hl 0 rfl) ?_
  refine lv_iload_n hx hb dM_about_6 rfl (lv_at hl 1 rfl) ?_
  refine W.callV (W.runV (C := "TextureBankModel") (As := [.int (nI j)]) (rest := []) ⟨hx, hb, hml, hown, hB⟩ (kM_isThere l D cI m0 a1 a2 a3 a4 a5 a6 0 mn zz si f1 f2 f3 f4 f5 f6 (nI j)) ⟨callB_of 1 hB gwM_isThere rfl rfl rfl (hB _ wd_3) (hB _ wd_377) ydM_isThere ⟨Nat.le_of_ble_eq_true rfl, Nat.le_of_ble_eq_true rfl⟩, hB _ wd_379, hB _ ws_12⟩ (rd_V hC hP hK (va_recv hK hP (ci := 2) (q0 := 0) rfl rfl)) rfl rfl hl.1 rfl (lv_room (Nat.le_of_ble_eq_true rfl)) dM_about_7 ⟨Nat.zero_le _, Nat.zero_le _⟩) ?_
  refine W.eq (g2 := F0 m 10 ls [.int (tt_has mn (nI j))]) rfl ?_
  refine lv_if_ne (tgt := 15) hx hb dM_about_10 (by decide) (fun c_1 => ?_) (fun c_1 => ?_)
  · refine lv_iload_n hx hb dM_about_15 rfl (lv_at hl 2 rfl) ?_
    refine lv_if_ne (tgt := 28) hx hb dM_about_16 (by decide) (fun c_2 => ?_) (fun c_2 => ?_)
    · refine lv_iload_n hx hb dM_about_28 rfl (lv_at hl 2 rfl) ?_
      refine lv_iconst (v := 1) hx hb dM_about_29 (by decide) ?_
      refine lv_icmp_ne (tgt := 42) hx hb dM_about_30 (by decide) (fun c_3 => ?_) (fun c_3 => ?_)
      · refine lv_iload_n hx hb dM_about_42 rfl (lv_at hl 2 rfl) ?_
        refine lv_iconst (v := 2) hx hb dM_about_43 (by decide) ?_
        refine lv_icmp_ne (tgt := 56) hx hb dM_about_44 (by decide) (fun c_4 => ?_) (fun c_4 => ?_)
        · refine lv_iload_n hx hb dM_about_56 rfl (lv_at hl 2 rfl) ?_
          refine lv_iconst (v := 3) hx hb dM_about_57 (by decide) ?_
          refine lv_icmp_ne (tgt := 71) hx hb dM_about_58 (by decide) (fun c_5 => ?_) (fun c_5 => ?_)
          · refine lv_iconst (v := (-1)) hx hb dM_about_71 (by decide) ?_
            exact W.iret hx hb hr (fun t ht hW => ⟨⟨_, (), rfl, by unfold tb_about; (first | rw [if_pos c_2] | rw [if_neg c_2]); (first | rw [if_pos c_3] | rw [if_neg c_3]); (first | rw [if_pos c_4] | rw [if_neg c_4]); (first | rw [if_pos c_5] | rw [if_neg c_5]), (by have h9 : va_P D tbCl [(m0, .inr (2, [.int 0, .int mn, .ref a1, .ref a2, .ref a3, .ref a4, .int zz, .ref a5, .ref a6, .int si])), (a1, .inl (cI, 8, .inl f1)), (a2, .inl (cI, 8, .inl f2)), (a3, .inl (cI, 8, .inl f3)), (a4, .inl (cI, 8192, .inl f4)), (a5, .inl (cI, 1024, .inl f5)), (a6, .inl (cI, 1024, .inl f6))] H := hP; rw [← ht] at h9; exact h9)⟩, hS.F ht⟩) hS.2.2 dM_about_72
          · refine lv_aload_n hx hb dM_about_61 rfl (lv_at hl 0 rfl) ?_
            refine lv_iload_n hx hb dM_about_62 rfl (lv_at hl 1 rfl) ?_
            refine W.callV (W.runV (C := "TextureBankModel") (As := [.int (nI j)]) (rest := []) ⟨hx, hb, hml, hown, hB⟩ (kM_last l D cI m0 a1 a2 a3 a4 a5 a6 0 mn zz si f1 f2 f3 f4 f5 f6 j k hj hk hf) ⟨callB_of 1 hB gwM_last rfl rfl rfl (hB _ wd_3) (hB _ wd_384) ydM_last ⟨Nat.le_of_ble_eq_true rfl, Nat.le_of_ble_eq_true rfl⟩, hB _ wd_386, hB _ ws_13⟩ (rd_V hC hP hK (va_recv hK hP (ci := 2) (q0 := 0) rfl rfl)) rfl rfl hl.1 rfl (lv_room (Nat.le_of_ble_eq_true rfl)) dM_about_63 ⟨Nat.zero_le _, Nat.zero_le _⟩) ?_
            refine W.eq (g2 := F0 m 66 ls [.int (nI k)]) rfl ?_
            refine lv_iconst (v := 1) hx hb dM_about_66 (by decide) ?_
            refine lv_iadd hx hb dM_about_67 ?_
            refine W.eq (g2 := F0 m 68 ls [.int (nI (k + 1))]) (by rw [nI_1]) ?_
            refine lv_goto (tgt := 72) hx hb dM_about_68 (by decide) ?_
            exact W.iret hx hb hr (fun t ht hW => ⟨⟨_, (), rfl, by unfold tb_about; (first | rw [if_pos c_2] | rw [if_neg c_2]); (first | rw [if_pos c_3] | rw [if_neg c_3]); (first | rw [if_pos c_4] | rw [if_neg c_4]); (first | rw [if_pos c_5] | rw [if_neg c_5]), (by have h9 : va_P D tbCl [(m0, .inr (2, [.int 0, .int mn, .ref a1, .ref a2, .ref a3, .ref a4, .int zz, .ref a5, .ref a6, .int si])), (a1, .inl (cI, 8, .inl f1)), (a2, .inl (cI, 8, .inl f2)), (a3, .inl (cI, 8, .inl f3)), (a4, .inl (cI, 8192, .inl f4)), (a5, .inl (cI, 1024, .inl f5)), (a6, .inl (cI, 1024, .inl f6))] H := hP; rw [← ht] at h9; exact h9)⟩, hS.F ht⟩) hS.2.2 dM_about_72
        · refine lv_aload_n hx hb dM_about_47 rfl (lv_at hl 0 rfl) ?_
          refine va_get (D := D) (ci := 2) (v := .ref a3) (C := RM) (T := FM) (N := 10) hx hb hB inM hown hK hP 0 rfl rfl 4 (by decide) (hB _ wd_326) (fun _ h9 => h9) rfl dM_about_48 ?_
          refine lv_iload_n hx hb dM_about_51 rfl (lv_at hl 1 rfl) ?_
          refine va_iald hx hb hK hP 3 0 (f := f3) rfl rfl (i := nI j) (vp_in_nI (hj) (by omega)) dM_about_52 ?_
          refine W.eq (g2 := F0 m 53 ls [.int (f3 j)]) (by rw [nI_clamp (by have := (hj : j < 8); omega)]) ?_
          refine lv_goto (tgt := 72) hx hb dM_about_53 (by decide) ?_
          exact W.iret hx hb hr (fun t ht hW => ⟨⟨_, (), rfl, by unfold tb_about; (first | rw [if_pos c_2] | rw [if_neg c_2]); (first | rw [if_pos c_3] | rw [if_neg c_3]); (first | rw [if_pos c_4] | rw [if_neg c_4]), (by have h9 : va_P D tbCl [(m0, .inr (2, [.int 0, .int mn, .ref a1, .ref a2, .ref a3, .ref a4, .int zz, .ref a5, .ref a6, .int si])), (a1, .inl (cI, 8, .inl f1)), (a2, .inl (cI, 8, .inl f2)), (a3, .inl (cI, 8, .inl f3)), (a4, .inl (cI, 8192, .inl f4)), (a5, .inl (cI, 1024, .inl f5)), (a6, .inl (cI, 1024, .inl f6))] H := hP; rw [← ht] at h9; exact h9)⟩, hS.F ht⟩) hS.2.2 dM_about_72
      · refine lv_aload_n hx hb dM_about_33 rfl (lv_at hl 0 rfl) ?_
        refine va_get (D := D) (ci := 2) (v := .ref a2) (C := RM) (T := FM) (N := 10) hx hb hB inM hown hK hP 0 rfl rfl 3 (by decide) (hB _ wd_325) (fun _ h9 => h9) rfl dM_about_34 ?_
        refine lv_iload_n hx hb dM_about_37 rfl (lv_at hl 1 rfl) ?_
        refine va_iald hx hb hK hP 2 0 (f := f2) rfl rfl (i := nI j) (vp_in_nI (hj) (by omega)) dM_about_38 ?_
        refine W.eq (g2 := F0 m 39 ls [.int (f2 j)]) (by rw [nI_clamp (by have := (hj : j < 8); omega)]) ?_
        refine lv_goto (tgt := 72) hx hb dM_about_39 (by decide) ?_
        exact W.iret hx hb hr (fun t ht hW => ⟨⟨_, (), rfl, by unfold tb_about; (first | rw [if_pos c_2] | rw [if_neg c_2]); (first | rw [if_pos c_3] | rw [if_neg c_3]), (by have h9 : va_P D tbCl [(m0, .inr (2, [.int 0, .int mn, .ref a1, .ref a2, .ref a3, .ref a4, .int zz, .ref a5, .ref a6, .int si])), (a1, .inl (cI, 8, .inl f1)), (a2, .inl (cI, 8, .inl f2)), (a3, .inl (cI, 8, .inl f3)), (a4, .inl (cI, 8192, .inl f4)), (a5, .inl (cI, 1024, .inl f5)), (a6, .inl (cI, 1024, .inl f6))] H := hP; rw [← ht] at h9; exact h9)⟩, hS.F ht⟩) hS.2.2 dM_about_72
    · refine lv_aload_n hx hb dM_about_19 rfl (lv_at hl 0 rfl) ?_
      refine va_get (D := D) (ci := 2) (v := .ref a1) (C := RM) (T := FM) (N := 10) hx hb hB inM hown hK hP 0 rfl rfl 2 (by decide) (hB _ wd_324) (fun _ h9 => h9) rfl dM_about_20 ?_
      refine lv_iload_n hx hb dM_about_23 rfl (lv_at hl 1 rfl) ?_
      refine va_iald hx hb hK hP 1 0 (f := f1) rfl rfl (i := nI j) (vp_in_nI (hj) (by omega)) dM_about_24 ?_
      refine W.eq (g2 := F0 m 25 ls [.int (f1 j)]) (by rw [nI_clamp (by have := (hj : j < 8); omega)]) ?_
      refine lv_goto (tgt := 72) hx hb dM_about_25 (by decide) ?_
      exact W.iret hx hb hr (fun t ht hW => ⟨⟨_, (), rfl, by unfold tb_about; (first | rw [if_pos c_2] | rw [if_neg c_2]), (by have h9 : va_P D tbCl [(m0, .inr (2, [.int 0, .int mn, .ref a1, .ref a2, .ref a3, .ref a4, .int zz, .ref a5, .ref a6, .int si])), (a1, .inl (cI, 8, .inl f1)), (a2, .inl (cI, 8, .inl f2)), (a3, .inl (cI, 8, .inl f3)), (a4, .inl (cI, 8192, .inl f4)), (a5, .inl (cI, 1024, .inl f5)), (a6, .inl (cI, 1024, .inl f6))] H := hP; rw [← ht] at h9; exact h9)⟩, hS.F ht⟩) hS.2.2 dM_about_72
  · exact absurd c_1 hth

set_option maxHeartbeats 4000000 in
set_option maxRecDepth 100000 in
theorem kM_level_none (l : Launch) (D : va_G) (sz : Nat) (cI : ClassId) (m0 a1 a2 a3 a4 a5 a6 : Nat) (th mn zz si : Int32) (f1 f2 f3 f4 f5 f6 : Nat → Int32) (t9 : Int32) (sp : Int64) (ar : Int32) (hno : tt_has mn t9 = 0) : Met l yM_level wM_level (k2_rm 1 21) (wr_P [.ref m0, .int t9, .long sp, .int ar] sz D [(cI, .int)] [(m0, .inr (2, [.int th, .int mn, .ref a1, .ref a2, .ref a3, .ref a4, .int zz, .ref a5, .ref a6, .int si])), (a1, .inl (cI, 8, .inl f1)), (a2, .inl (cI, 8, .inl f2)), (a3, .inl (cI, 8, .inl f3)), (a4, .inl (cI, 8192, .inl f4)), (a5, .inl (cI, 1024, .inl f5)), (a6, .inl (cI, 1024, .inl f6))]) (wr_Qi 0 D (va_A [(m0, .inr (2, [.int th, .int mn, .ref a1, .ref a2, .ref a3, .ref a4, .int zz, .ref a5, .ref a6, .int si])), (a1, .inl (cI, 8, .inl f1)), (a2, .inl (cI, 8, .inl f2)), (a3, .inl (cI, 8, .inl f3)), (a4, .inl (cI, 8192, .inl f4)), (a5, .inl (cI, 1024, .inl f5)), (a6, .inl (cI, 1024, .inl f6))] sz) [(m0, .inr (2, [.int 1, .int mn, .ref a1, .ref a2, .ref a3, .ref a4, .int zz, .ref a5, .ref a6, .int si])), (a1, .inl (cI, 8, .inl f1)), (a2, .inl (cI, 8, .inl f2)), (a3, .inl (cI, 8, .inl f3)), (a4, .inl (cI, 8192, .inl f4)), (a5, .inl (cI, 1024, .inl f5)), (a6, .inl (cI, 1024, .inl f6))]) 0 0 (va_A [(m0, .inr (2, [.int th, .int mn, .ref a1, .ref a2, .ref a3, .ref a4, .int zz, .ref a5, .ref a6, .int si])), (a1, .inl (cI, 8, .inl f1)), (a2, .inl (cI, 8, .inl f2)), (a3, .inl (cI, 8, .inl f3)), (a4, .inl (cI, 8192, .inl f4)), (a5, .inl (cI, 1024, .inl f5)), (a6, .inl (cI, 1024, .inl f6))] sz) := by
  refine Met.ofW (cc := cM_level) (maxL := 10) (ret := (some .int)) (by decide) rfl ?_
  intro p e s m args below meth c s₁ B hml hv
  obtain ⟨rfl, hsz, hC, hP, hK, hD0⟩ := hv
  have hx := B.exec
  have hb := B.bytes
  have hr := B.returns
  have hB : ∀ w ∈ tbB, w.before _ s = true := fun w h => (atoms_spec (ws := wM_level) B.pre) w (List.mem_cons_of_mem _ h)
  have hown : s.vm.findClass "TextureBankModel" = some m.cls := findClass_of_methodNamed B.named
  have hlocks := B.notSynchronized
  subst hsz
  have hD := hD0.self (sz := s.heap.size)
  generalize hAe : va_A [(m0, .inr (2, [.int th, .int mn, .ref a1, .ref a2, .ref a3, .ref a4, .int zz, .ref a5, .ref a6, .int si])), (a1, .inl (cI, 8, .inl f1)), (a2, .inl (cI, 8, .inl f2)), (a3, .inl (cI, 8, .inl f3)), (a4, .inl (cI, 8192, .inl f4)), (a5, .inl (cI, 1024, .inl f5)), (a6, .inl (cI, 1024, .inl f6))] s.heap.size = A at hD ⊢
  have hA : ∀ q : Nat, s.heap.size ≤ q → A q := fun q h => by rw [← hAe]; exact Or.inr h
  have hS : va_S A s.heap s.heap [] := va_S.rf
  have hl := lv_entry ([.ref m0, .int t9, .long sp, .int ar]) (n := 10) (Nat.le_of_ble_eq_true rfl)
  rw [lg_entry_eq]
  generalize (lg_sl ([.ref m0, .int t9, .long sp, .int ar]) ++ List.replicate (10 - (lg_sl ([.ref m0, .int t9, .long sp, .int ar])).length) Slot.unset).toArray = ls at hl ⊢
  have hl : lv_has ls 10 [(0, .ref m0), (1, .int t9), (2, .long sp), (4, .int ar)] := hl
  refine lv_aload_n hx hb dM_level_0 rfl (lv_at hl 0 rfl) ?_
  refine lv_aload_n hx hb dM_level_1 rfl (lv_at hl 0 rfl) ?_
  refine lv_iload_n hx hb dM_level_2 rfl (lv_at hl 1 rfl) ?_
  refine W.callV (W.runV (C := "TextureBankModel") (As := [.int t9]) (rest := [.ref m0]) ⟨hx, hb, hml, hown, hB⟩ (kM_isThere l D cI m0 a1 a2 a3 a4 a5 a6 th mn zz si f1 f2 f3 f4 f5 f6 t9) ⟨callB_of 1 hB gwM_isThere rfl rfl rfl (hB _ wd_3) (hB _ wd_377) ydM_isThere ⟨Nat.le_of_ble_eq_true rfl, Nat.le_of_ble_eq_true rfl⟩, hB _ wd_379, hB _ ws_12⟩ (rd_V hC hP hK (va_recv hK hP (ci := 2) (q0 := 0) rfl rfl)) rfl rfl hl.1 rfl (lv_room (Nat.le_of_ble_eq_true rfl)) dM_level_3 ⟨Nat.zero_le _, Nat.zero_le _⟩) ?_
  refine W.eq (g2 := F0 m 6 ls [.int (tt_has mn t9), .ref m0]) rfl ?_
  refine lv_if_ne (tgt := 13) hx hb dM_level_6 (by decide) (fun c_1 => ?_) (fun c_1 => ?_)
  · exact absurd hno c_1
  · refine lv_iconst (v := 1) hx hb dM_level_9 (by decide) ?_
    refine lv_goto (tgt := 45) hx hb dM_level_10 (by decide) ?_
    refine va_put (D := D) (ci := 2) (v := .int 1) (ty := .int) (C := RM) (T := FM) (N := 10) hx hb hB inM tyM tyM_ok nmM hown hK hP hD hS 0 rfl rfl 0 (by decide) (hB _ wd_322) (fun _ h9 => h9) rfl (by decide +kernel) rfl rfl (Nat.le_of_ble_eq_true rfl) dM_level_45 (fun H locs hP hD hS => ?_)
    have hP : va_P D tbCl [(m0, .inr (2, [.int 1, .int mn, .ref a1, .ref a2, .ref a3, .ref a4, .int zz, .ref a5, .ref a6, .int si])), (a1, .inl (cI, 8, .inl f1)), (a2, .inl (cI, 8, .inl f2)), (a3, .inl (cI, 8, .inl f3)), (a4, .inl (cI, 8192, .inl f4)), (a5, .inl (cI, 1024, .inl f5)), (a6, .inl (cI, 1024, .inl f6))] H := hP
    have hD : va_D A [(m0, .inr (2, [.int 1, .int mn, .ref a1, .ref a2, .ref a3, .ref a4, .int zz, .ref a5, .ref a6, .int si])), (a1, .inl (cI, 8, .inl f1)), (a2, .inl (cI, 8, .inl f2)), (a3, .inl (cI, 8, .inl f3)), (a4, .inl (cI, 8192, .inl f4)), (a5, .inl (cI, 1024, .inl f5)), (a6, .inl (cI, 1024, .inl f6))] := hD
    refine lv_aload_n hx hb dM_level_48 rfl (lv_at hl 0 rfl) ?_
    refine va_get (D := D) (ci := 2) (v := .int 1) (C := RM) (T := FM) (N := 10) hx hb hB inM hown hK hP 0 rfl rfl 0 (by decide) (hB _ wd_322) (fun _ h9 => h9) rfl dM_level_49 ?_
    refine lv_if_eq (tgt := 57) hx hb dM_level_52 (by decide) (fun c_2 => absurd c_2 (by decide)) (fun c_2 => ?_)
    refine lv_iconst (v := 0) hx hb dM_level_55 (by decide) ?_
    exact W.iret hx hb hr (fun t ht hW => ⟨⟨_, (), rfl, rfl, (by have h9 : va_P D tbCl [(m0, .inr (2, [.int 1, .int mn, .ref a1, .ref a2, .ref a3, .ref a4, .int zz, .ref a5, .ref a6, .int si])), (a1, .inl (cI, 8, .inl f1)), (a2, .inl (cI, 8, .inl f2)), (a3, .inl (cI, 8, .inl f3)), (a4, .inl (cI, 8192, .inl f4)), (a5, .inl (cI, 1024, .inl f5)), (a6, .inl (cI, 1024, .inl f6))] H := hP; rw [← ht] at h9; exact h9)⟩, hS.F ht⟩) hS.2.2 dM_level_56

set_option maxHeartbeats 4000000 in
set_option maxRecDepth 100000 in
theorem kM_level_bad (l : Launch) (D : va_G) (sz : Nat) (cI : ClassId) (m0 a1 a2 a3 a4 a5 a6 : Nat) (th mn zz si : Int32) (f1 f2 f3 f4 f5 f6 : Nat → Int32) (t9 : Int32) (sp : Int64) (ar : Int32) (hth : ¬ tt_has mn t9 = 0) (hbad : sp < 0 ∨ ¬ sp ≤ 1099511627776 ∨ ar < 1 ∨ ¬ ar ≤ 16777216) : Met l yM_level wM_level (k2_rm 1 21) (wr_P [.ref m0, .int t9, .long sp, .int ar] sz D [(cI, .int)] [(m0, .inr (2, [.int th, .int mn, .ref a1, .ref a2, .ref a3, .ref a4, .int zz, .ref a5, .ref a6, .int si])), (a1, .inl (cI, 8, .inl f1)), (a2, .inl (cI, 8, .inl f2)), (a3, .inl (cI, 8, .inl f3)), (a4, .inl (cI, 8192, .inl f4)), (a5, .inl (cI, 1024, .inl f5)), (a6, .inl (cI, 1024, .inl f6))]) (wr_Qi 0 D (va_A [(m0, .inr (2, [.int th, .int mn, .ref a1, .ref a2, .ref a3, .ref a4, .int zz, .ref a5, .ref a6, .int si])), (a1, .inl (cI, 8, .inl f1)), (a2, .inl (cI, 8, .inl f2)), (a3, .inl (cI, 8, .inl f3)), (a4, .inl (cI, 8192, .inl f4)), (a5, .inl (cI, 1024, .inl f5)), (a6, .inl (cI, 1024, .inl f6))] sz) [(m0, .inr (2, [.int 2, .int mn, .ref a1, .ref a2, .ref a3, .ref a4, .int zz, .ref a5, .ref a6, .int si])), (a1, .inl (cI, 8, .inl f1)), (a2, .inl (cI, 8, .inl f2)), (a3, .inl (cI, 8, .inl f3)), (a4, .inl (cI, 8192, .inl f4)), (a5, .inl (cI, 1024, .inl f5)), (a6, .inl (cI, 1024, .inl f6))]) 0 0 (va_A [(m0, .inr (2, [.int th, .int mn, .ref a1, .ref a2, .ref a3, .ref a4, .int zz, .ref a5, .ref a6, .int si])), (a1, .inl (cI, 8, .inl f1)), (a2, .inl (cI, 8, .inl f2)), (a3, .inl (cI, 8, .inl f3)), (a4, .inl (cI, 8192, .inl f4)), (a5, .inl (cI, 1024, .inl f5)), (a6, .inl (cI, 1024, .inl f6))] sz) := by
  refine Met.ofW (cc := cM_level) (maxL := 10) (ret := (some .int)) (by decide) rfl ?_
  intro p e s m args below meth c s₁ B hml hv
  obtain ⟨rfl, hsz, hC, hP, hK, hD0⟩ := hv
  have hx := B.exec
  have hb := B.bytes
  have hr := B.returns
  have hB : ∀ w ∈ tbB, w.before _ s = true := fun w h => (atoms_spec (ws := wM_level) B.pre) w (List.mem_cons_of_mem _ h)
  have hown : s.vm.findClass "TextureBankModel" = some m.cls := findClass_of_methodNamed B.named
  have hlocks := B.notSynchronized
  subst hsz
  have hD := hD0.self (sz := s.heap.size)
  generalize hAe : va_A [(m0, .inr (2, [.int th, .int mn, .ref a1, .ref a2, .ref a3, .ref a4, .int zz, .ref a5, .ref a6, .int si])), (a1, .inl (cI, 8, .inl f1)), (a2, .inl (cI, 8, .inl f2)), (a3, .inl (cI, 8, .inl f3)), (a4, .inl (cI, 8192, .inl f4)), (a5, .inl (cI, 1024, .inl f5)), (a6, .inl (cI, 1024, .inl f6))] s.heap.size = A at hD ⊢
  have hA : ∀ q : Nat, s.heap.size ≤ q → A q := fun q h => by rw [← hAe]; exact Or.inr h
  have hS : va_S A s.heap s.heap [] := va_S.rf
  have hl := lv_entry ([.ref m0, .int t9, .long sp, .int ar]) (n := 10) (Nat.le_of_ble_eq_true rfl)
  rw [lg_entry_eq]
  generalize (lg_sl ([.ref m0, .int t9, .long sp, .int ar]) ++ List.replicate (10 - (lg_sl ([.ref m0, .int t9, .long sp, .int ar])).length) Slot.unset).toArray = ls at hl ⊢
  have hl : lv_has ls 10 [(0, .ref m0), (1, .int t9), (2, .long sp), (4, .int ar)] := hl
  refine lv_aload_n hx hb dM_level_0 rfl (lv_at hl 0 rfl) ?_
  refine lv_aload_n hx hb dM_level_1 rfl (lv_at hl 0 rfl) ?_
  refine lv_iload_n hx hb dM_level_2 rfl (lv_at hl 1 rfl) ?_
  refine W.callV (W.runV (C := "TextureBankModel") (As := [.int t9]) (rest := [.ref m0]) ⟨hx, hb, hml, hown, hB⟩ (kM_isThere l D cI m0 a1 a2 a3 a4 a5 a6 th mn zz si f1 f2 f3 f4 f5 f6 t9) ⟨callB_of 1 hB gwM_isThere rfl rfl rfl (hB _ wd_3) (hB _ wd_377) ydM_isThere ⟨Nat.le_of_ble_eq_true rfl, Nat.le_of_ble_eq_true rfl⟩, hB _ wd_379, hB _ ws_12⟩ (rd_V hC hP hK (va_recv hK hP (ci := 2) (q0 := 0) rfl rfl)) rfl rfl hl.1 rfl (lv_room (Nat.le_of_ble_eq_true rfl)) dM_level_3 ⟨Nat.zero_le _, Nat.zero_le _⟩) ?_
  refine W.eq (g2 := F0 m 6 ls [.int (tt_has mn t9), .ref m0]) rfl ?_
  refine lv_if_ne (tgt := 13) hx hb dM_level_6 (by decide) (fun c_1 => ?_) (fun c_1 => ?_)
  · refine lv_lload_n hx hb dM_level_13 rfl (lv_at hl 2 rfl) ?_
    refine lv_lconst (v := 0) hx hb dM_level_14 (by decide) ?_
    refine W.lcmp hx hb dM_level_15 ?_
    refine lv_if_lt (tgt := 40) hx hb dM_level_16 (by decide) (fun c_2 => ?_) (fun c_2 => ?_)
    · refine lv_iconst (v := 2) hx hb dM_level_40 (by decide) ?_
      refine lv_goto (tgt := 45) hx hb dM_level_41 (by decide) ?_
      refine va_put (D := D) (ci := 2) (v := .int 2) (ty := .int) (C := RM) (T := FM) (N := 10) hx hb hB inM tyM tyM_ok nmM hown hK hP hD hS 0 rfl rfl 0 (by decide) (hB _ wd_322) (fun _ h9 => h9) rfl (by decide +kernel) rfl rfl (Nat.le_of_ble_eq_true rfl) dM_level_45 (fun H locs hP hD hS => ?_)
      have hP : va_P D tbCl [(m0, .inr (2, [.int 2, .int mn, .ref a1, .ref a2, .ref a3, .ref a4, .int zz, .ref a5, .ref a6, .int si])), (a1, .inl (cI, 8, .inl f1)), (a2, .inl (cI, 8, .inl f2)), (a3, .inl (cI, 8, .inl f3)), (a4, .inl (cI, 8192, .inl f4)), (a5, .inl (cI, 1024, .inl f5)), (a6, .inl (cI, 1024, .inl f6))] H := hP
      have hD : va_D A [(m0, .inr (2, [.int 2, .int mn, .ref a1, .ref a2, .ref a3, .ref a4, .int zz, .ref a5, .ref a6, .int si])), (a1, .inl (cI, 8, .inl f1)), (a2, .inl (cI, 8, .inl f2)), (a3, .inl (cI, 8, .inl f3)), (a4, .inl (cI, 8192, .inl f4)), (a5, .inl (cI, 1024, .inl f5)), (a6, .inl (cI, 1024, .inl f6))] := hD
      refine lv_aload_n hx hb dM_level_48 rfl (lv_at hl 0 rfl) ?_
      refine va_get (D := D) (ci := 2) (v := .int 2) (C := RM) (T := FM) (N := 10) hx hb hB inM hown hK hP 0 rfl rfl 0 (by decide) (hB _ wd_322) (fun _ h9 => h9) rfl dM_level_49 ?_
      refine lv_if_eq (tgt := 57) hx hb dM_level_52 (by decide) (fun c_3 => absurd c_3 (by decide)) (fun c_3 => ?_)
      refine lv_iconst (v := 0) hx hb dM_level_55 (by decide) ?_
      exact W.iret hx hb hr (fun t ht hW => ⟨⟨_, (), rfl, rfl, (by have h9 : va_P D tbCl [(m0, .inr (2, [.int 2, .int mn, .ref a1, .ref a2, .ref a3, .ref a4, .int zz, .ref a5, .ref a6, .int si])), (a1, .inl (cI, 8, .inl f1)), (a2, .inl (cI, 8, .inl f2)), (a3, .inl (cI, 8, .inl f3)), (a4, .inl (cI, 8192, .inl f4)), (a5, .inl (cI, 1024, .inl f5)), (a6, .inl (cI, 1024, .inl f6))] H := hP; rw [← ht] at h9; exact h9)⟩, hS.F ht⟩) hS.2.2 dM_level_56
    · refine lv_lload_n hx hb dM_level_19 rfl (lv_at hl 2 rfl) ?_
      refine lv_ldc2 (v := 1099511627776) hx hb hown (hB _ wd_381) dM_level_20 ?_
      refine W.lcmp hx hb dM_level_23 ?_
      refine lv_if_gt (tgt := 40) hx hb dM_level_24 (by decide) (fun c_4 => ?_) (fun c_4 => ?_)
      · refine lv_iconst (v := 2) hx hb dM_level_40 (by decide) ?_
        refine lv_goto (tgt := 45) hx hb dM_level_41 (by decide) ?_
        refine va_put (D := D) (ci := 2) (v := .int 2) (ty := .int) (C := RM) (T := FM) (N := 10) hx hb hB inM tyM tyM_ok nmM hown hK hP hD hS 0 rfl rfl 0 (by decide) (hB _ wd_322) (fun _ h9 => h9) rfl (by decide +kernel) rfl rfl (Nat.le_of_ble_eq_true rfl) dM_level_45 (fun H locs hP hD hS => ?_)
        have hP : va_P D tbCl [(m0, .inr (2, [.int 2, .int mn, .ref a1, .ref a2, .ref a3, .ref a4, .int zz, .ref a5, .ref a6, .int si])), (a1, .inl (cI, 8, .inl f1)), (a2, .inl (cI, 8, .inl f2)), (a3, .inl (cI, 8, .inl f3)), (a4, .inl (cI, 8192, .inl f4)), (a5, .inl (cI, 1024, .inl f5)), (a6, .inl (cI, 1024, .inl f6))] H := hP
        have hD : va_D A [(m0, .inr (2, [.int 2, .int mn, .ref a1, .ref a2, .ref a3, .ref a4, .int zz, .ref a5, .ref a6, .int si])), (a1, .inl (cI, 8, .inl f1)), (a2, .inl (cI, 8, .inl f2)), (a3, .inl (cI, 8, .inl f3)), (a4, .inl (cI, 8192, .inl f4)), (a5, .inl (cI, 1024, .inl f5)), (a6, .inl (cI, 1024, .inl f6))] := hD
        refine lv_aload_n hx hb dM_level_48 rfl (lv_at hl 0 rfl) ?_
        refine va_get (D := D) (ci := 2) (v := .int 2) (C := RM) (T := FM) (N := 10) hx hb hB inM hown hK hP 0 rfl rfl 0 (by decide) (hB _ wd_322) (fun _ h9 => h9) rfl dM_level_49 ?_
        refine lv_if_eq (tgt := 57) hx hb dM_level_52 (by decide) (fun c_5 => absurd c_5 (by decide)) (fun c_5 => ?_)
        refine lv_iconst (v := 0) hx hb dM_level_55 (by decide) ?_
        exact W.iret hx hb hr (fun t ht hW => ⟨⟨_, (), rfl, rfl, (by have h9 : va_P D tbCl [(m0, .inr (2, [.int 2, .int mn, .ref a1, .ref a2, .ref a3, .ref a4, .int zz, .ref a5, .ref a6, .int si])), (a1, .inl (cI, 8, .inl f1)), (a2, .inl (cI, 8, .inl f2)), (a3, .inl (cI, 8, .inl f3)), (a4, .inl (cI, 8192, .inl f4)), (a5, .inl (cI, 1024, .inl f5)), (a6, .inl (cI, 1024, .inl f6))] H := hP; rw [← ht] at h9; exact h9)⟩, hS.F ht⟩) hS.2.2 dM_level_56
      · refine lv_iload hx hb dM_level_27 (lv_at hl 3 rfl) ?_
        refine lv_iconst (v := 1) hx hb dM_level_29 (by decide) ?_
        refine lv_icmp_lt (tgt := 40) hx hb dM_level_30 (by decide) (fun c_6 => ?_) (fun c_6 => ?_)
        · refine lv_iconst (v := 2) hx hb dM_level_40 (by decide) ?_
          refine lv_goto (tgt := 45) hx hb dM_level_41 (by decide) ?_
          refine va_put (D := D) (ci := 2) (v := .int 2) (ty := .int) (C := RM) (T := FM) (N := 10) hx hb hB inM tyM tyM_ok nmM hown hK hP hD hS 0 rfl rfl 0 (by decide) (hB _ wd_322) (fun _ h9 => h9) rfl (by decide +kernel) rfl rfl (Nat.le_of_ble_eq_true rfl) dM_level_45 (fun H locs hP hD hS => ?_)
          have hP : va_P D tbCl [(m0, .inr (2, [.int 2, .int mn, .ref a1, .ref a2, .ref a3, .ref a4, .int zz, .ref a5, .ref a6, .int si])), (a1, .inl (cI, 8, .inl f1)), (a2, .inl (cI, 8, .inl f2)), (a3, .inl (cI, 8, .inl f3)), (a4, .inl (cI, 8192, .inl f4)), (a5, .inl (cI, 1024, .inl f5)), (a6, .inl (cI, 1024, .inl f6))] H := hP
          have hD : va_D A [(m0, .inr (2, [.int 2, .int mn, .ref a1, .ref a2, .ref a3, .ref a4, .int zz, .ref a5, .ref a6, .int si])), (a1, .inl (cI, 8, .inl f1)), (a2, .inl (cI, 8, .inl f2)), (a3, .inl (cI, 8, .inl f3)), (a4, .inl (cI, 8192, .inl f4)), (a5, .inl (cI, 1024, .inl f5)), (a6, .inl (cI, 1024, .inl f6))] := hD
          refine lv_aload_n hx hb dM_level_48 rfl (lv_at hl 0 rfl) ?_
          refine va_get (D := D) (ci := 2) (v := .int 2) (C := RM) (T := FM) (N := 10) hx hb hB inM hown hK hP 0 rfl rfl 0 (by decide) (hB _ wd_322) (fun _ h9 => h9) rfl dM_level_49 ?_
          refine lv_if_eq (tgt := 57) hx hb dM_level_52 (by decide) (fun c_7 => absurd c_7 (by decide)) (fun c_7 => ?_)
          refine lv_iconst (v := 0) hx hb dM_level_55 (by decide) ?_
          exact W.iret hx hb hr (fun t ht hW => ⟨⟨_, (), rfl, rfl, (by have h9 : va_P D tbCl [(m0, .inr (2, [.int 2, .int mn, .ref a1, .ref a2, .ref a3, .ref a4, .int zz, .ref a5, .ref a6, .int si])), (a1, .inl (cI, 8, .inl f1)), (a2, .inl (cI, 8, .inl f2)), (a3, .inl (cI, 8, .inl f3)), (a4, .inl (cI, 8192, .inl f4)), (a5, .inl (cI, 1024, .inl f5)), (a6, .inl (cI, 1024, .inl f6))] H := hP; rw [← ht] at h9; exact h9)⟩, hS.F ht⟩) hS.2.2 dM_level_56
        · refine lv_iload hx hb dM_level_33 (lv_at hl 3 rfl) ?_
          refine lv_ldc (v := 16777216) hx hb hown (hB _ wd_382) dM_level_35 ?_
          refine lv_icmp_le (tgt := 44) hx hb dM_level_37 (by decide) (fun c_8 => ?_) (fun c_8 => ?_)
          · exact absurd c_8 (hbad.elim (fun h => absurd h (fun h9 => c_2 ((lg_cmp_lt _ _).mpr h9))) (fun h => h.elim (fun h => absurd (Int64.not_lt.mp (fun h9 => c_4 ((lg_cmp_gt _ _).mpr h9))) h) (fun h => h.elim (fun h => absurd h c_6) id)))
          · refine lv_iconst (v := 2) hx hb dM_level_40 (by decide) ?_
            refine lv_goto (tgt := 45) hx hb dM_level_41 (by decide) ?_
            refine va_put (D := D) (ci := 2) (v := .int 2) (ty := .int) (C := RM) (T := FM) (N := 10) hx hb hB inM tyM tyM_ok nmM hown hK hP hD hS 0 rfl rfl 0 (by decide) (hB _ wd_322) (fun _ h9 => h9) rfl (by decide +kernel) rfl rfl (Nat.le_of_ble_eq_true rfl) dM_level_45 (fun H locs hP hD hS => ?_)
            have hP : va_P D tbCl [(m0, .inr (2, [.int 2, .int mn, .ref a1, .ref a2, .ref a3, .ref a4, .int zz, .ref a5, .ref a6, .int si])), (a1, .inl (cI, 8, .inl f1)), (a2, .inl (cI, 8, .inl f2)), (a3, .inl (cI, 8, .inl f3)), (a4, .inl (cI, 8192, .inl f4)), (a5, .inl (cI, 1024, .inl f5)), (a6, .inl (cI, 1024, .inl f6))] H := hP
            have hD : va_D A [(m0, .inr (2, [.int 2, .int mn, .ref a1, .ref a2, .ref a3, .ref a4, .int zz, .ref a5, .ref a6, .int si])), (a1, .inl (cI, 8, .inl f1)), (a2, .inl (cI, 8, .inl f2)), (a3, .inl (cI, 8, .inl f3)), (a4, .inl (cI, 8192, .inl f4)), (a5, .inl (cI, 1024, .inl f5)), (a6, .inl (cI, 1024, .inl f6))] := hD
            refine lv_aload_n hx hb dM_level_48 rfl (lv_at hl 0 rfl) ?_
            refine va_get (D := D) (ci := 2) (v := .int 2) (C := RM) (T := FM) (N := 10) hx hb hB inM hown hK hP 0 rfl rfl 0 (by decide) (hB _ wd_322) (fun _ h9 => h9) rfl dM_level_49 ?_
            refine lv_if_eq (tgt := 57) hx hb dM_level_52 (by decide) (fun c_9 => absurd c_9 (by decide)) (fun c_9 => ?_)
            refine lv_iconst (v := 0) hx hb dM_level_55 (by decide) ?_
            exact W.iret hx hb hr (fun t ht hW => ⟨⟨_, (), rfl, rfl, (by have h9 : va_P D tbCl [(m0, .inr (2, [.int 2, .int mn, .ref a1, .ref a2, .ref a3, .ref a4, .int zz, .ref a5, .ref a6, .int si])), (a1, .inl (cI, 8, .inl f1)), (a2, .inl (cI, 8, .inl f2)), (a3, .inl (cI, 8, .inl f3)), (a4, .inl (cI, 8192, .inl f4)), (a5, .inl (cI, 1024, .inl f5)), (a6, .inl (cI, 1024, .inl f6))] H := hP; rw [← ht] at h9; exact h9)⟩, hS.F ht⟩) hS.2.2 dM_level_56
  · exact absurd c_1 hth

set_option maxHeartbeats 4000000 in
set_option maxRecDepth 100000 in
theorem kM_level_ok (l : Launch) (D : va_G) (sz : Nat) (cI : ClassId) (m0 a1 a2 a3 a4 a5 a6 : Nat) (th mn zz si : Int32) (f1 f2 f3 f4 f5 f6 : Nat → Int32) (j k : Nat) (hj : j < 8) (hk : k ≤ 5) (hf : f1 j = nI (2 ^ k)) (hth : ¬ tt_has mn (nI j) = 0) (sp : Int64) (ar : Int32) (h1 : ¬ sp < 0) (h2 : sp ≤ 1099511627776) (h3 : ¬ ar < 1) (h4 : ar ≤ 16777216) : Met l yM_level wM_level (k2_rm 1 23) (wr_P [.ref m0, .int (nI j), .long sp, .int ar] sz D [(cI, .int)] [(m0, .inr (2, [.int th, .int mn, .ref a1, .ref a2, .ref a3, .ref a4, .int zz, .ref a5, .ref a6, .int si])), (a1, .inl (cI, 8, .inl f1)), (a2, .inl (cI, 8, .inl f2)), (a3, .inl (cI, 8, .inl f3)), (a4, .inl (cI, 8192, .inl f4)), (a5, .inl (cI, 1024, .inl f5)), (a6, .inl (cI, 1024, .inl f6))]) (wr_Qi (tt_lf ((sp * (f1 j).toInt64) * (f1 j).toInt64) (nI k) 8 (ar.toInt64 * 16777216) 0) D (va_A [(m0, .inr (2, [.int th, .int mn, .ref a1, .ref a2, .ref a3, .ref a4, .int zz, .ref a5, .ref a6, .int si])), (a1, .inl (cI, 8, .inl f1)), (a2, .inl (cI, 8, .inl f2)), (a3, .inl (cI, 8, .inl f3)), (a4, .inl (cI, 8192, .inl f4)), (a5, .inl (cI, 1024, .inl f5)), (a6, .inl (cI, 1024, .inl f6))] sz) [(m0, .inr (2, [.int 0, .int mn, .ref a1, .ref a2, .ref a3, .ref a4, .int zz, .ref a5, .ref a6, .int si])), (a1, .inl (cI, 8, .inl f1)), (a2, .inl (cI, 8, .inl f2)), (a3, .inl (cI, 8, .inl f3)), (a4, .inl (cI, 8192, .inl f4)), (a5, .inl (cI, 1024, .inl f5)), (a6, .inl (cI, 1024, .inl f6))]) 0 0 (va_A [(m0, .inr (2, [.int th, .int mn, .ref a1, .ref a2, .ref a3, .ref a4, .int zz, .ref a5, .ref a6, .int si])), (a1, .inl (cI, 8, .inl f1)), (a2, .inl (cI, 8, .inl f2)), (a3, .inl (cI, 8, .inl f3)), (a4, .inl (cI, 8192, .inl f4)), (a5, .inl (cI, 1024, .inl f5)), (a6, .inl (cI, 1024, .inl f6))] sz) := by
  refine Met.ofW (cc := cM_level) (maxL := 10) (ret := (some .int)) (by decide) rfl ?_
  intro p e s m args below meth c s₁ B hml hv
  obtain ⟨rfl, hsz, hC, hP, hK, hD0⟩ := hv
  have hx := B.exec
  have hb := B.bytes
  have hr := B.returns
  have hB : ∀ w ∈ tbB, w.before _ s = true := fun w h => (atoms_spec (ws := wM_level) B.pre) w (List.mem_cons_of_mem _ h)
  have hown : s.vm.findClass "TextureBankModel" = some m.cls := findClass_of_methodNamed B.named
  have hlocks := B.notSynchronized
  subst hsz
  have hD := hD0.self (sz := s.heap.size)
  generalize hAe : va_A [(m0, .inr (2, [.int th, .int mn, .ref a1, .ref a2, .ref a3, .ref a4, .int zz, .ref a5, .ref a6, .int si])), (a1, .inl (cI, 8, .inl f1)), (a2, .inl (cI, 8, .inl f2)), (a3, .inl (cI, 8, .inl f3)), (a4, .inl (cI, 8192, .inl f4)), (a5, .inl (cI, 1024, .inl f5)), (a6, .inl (cI, 1024, .inl f6))] s.heap.size = A at hD ⊢
  have hA : ∀ q : Nat, s.heap.size ≤ q → A q := fun q h => by rw [← hAe]; exact Or.inr h
  have hS : va_S A s.heap s.heap [] := va_S.rf
  have hl := lv_entry ([.ref m0, .int (nI j), .long sp, .int ar]) (n := 10) (Nat.le_of_ble_eq_true rfl)
  rw [lg_entry_eq]
  generalize (lg_sl ([.ref m0, .int (nI j), .long sp, .int ar]) ++ List.replicate (10 - (lg_sl ([.ref m0, .int (nI j), .long sp, .int ar])).length) Slot.unset).toArray = ls at hl ⊢
  have hl : lv_has ls 10 [(0, .ref m0), (1, .int (nI j)), (2, .long sp), (4, .int ar)] := hl
  have loop : ∀ tx : Int64, tx = (sp * (f1 j).toInt64) * (f1 j).toInt64 → ∀ (H : Heap) (locs : List Loc), va_P D tbCl [(m0, .inr (2, [.int 0, .int mn, .ref a1, .ref a2, .ref a3, .ref a4, .int zz, .ref a5, .ref a6, .int si])), (a1, .inl (cI, 8, .inl f1)), (a2, .inl (cI, 8, .inl f2)), (a3, .inl (cI, 8, .inl f3)), (a4, .inl (cI, 8192, .inl f4)), (a5, .inl (cI, 1024, .inl f5)), (a6, .inl (cI, 1024, .inl f6))] H → va_S A s.heap H locs → ∀ (n i : Nat) (rm : Int64), i ≤ k → k + 1 ≤ i + n → tt_lf tx (nI k) n rm (nI i) = tt_lf ((sp * (f1 j).toInt64) * (f1 j).toInt64) (nI k) 8 (ar.toInt64 * 16777216) 0 → ∀ ls : Array Slot, lv_has ls 10 [(9, .int (nI i)), (7, .long rm), (5, .long tx), (0, .ref m0), (1, .int (nI j)), (2, .long sp), (4, .int ar)] → W p l e (headSpec wM_level (k2_rm 1 23)).room s m (#[.ref m0, .int (nI j), .long sp, .int ar] : Array Value) below meth c H locs 0 0 (MQ below (wr_Qi (tt_lf ((sp * (f1 j).toInt64) * (f1 j).toInt64) (nI k) 8 (ar.toInt64 * 16777216) 0) D A [(m0, .inr (2, [.int 0, .int mn, .ref a1, .ref a2, .ref a3, .ref a4, .int zz, .ref a5, .ref a6, .int si])), (a1, .inl (cI, 8, .inl f1)), (a2, .inl (cI, 8, .inl f2)), (a3, .inl (cI, 8, .inl f3)), (a4, .inl (cI, 8192, .inl f4)), (a5, .inl (cI, 1024, .inl f5)), (a6, .inl (cI, 1024, .inl f6))]) (#[.ref m0, .int (nI j), .long sp, .int ar] : Array Value) s 0 0 A) (F0 m 88 ls []) := by
    intro tx htx H locs hP hS n
    induction n with
    | zero => intro i rm h1 h2; exact absurd h2 (by omega)
    | succ n ih =>
      intro i rm hi hn he ls hl
      unfold tt_lf at he
      refine lv_iload hx hb dM_level_88 (lv_at hl 0 rfl) ?_
      refine lv_aload_n hx hb dM_level_90 rfl (lv_at hl 3 rfl) ?_
      refine lv_iload_n hx hb dM_level_91 rfl (lv_at hl 4 rfl) ?_
      refine W.callV (W.runV (C := "TextureBankModel") (As := [.int (nI j)]) (rest := [.int (nI i)]) ⟨hx, hb, hml, hown, hB⟩ (kM_last l D cI m0 a1 a2 a3 a4 a5 a6 0 mn zz si f1 f2 f3 f4 f5 f6 j k hj hk hf) ⟨callB_of 1 hB gwM_last rfl rfl rfl (hB _ wd_3) (hB _ wd_384) ydM_last ⟨Nat.le_of_ble_eq_true rfl, Nat.le_of_ble_eq_true rfl⟩, hB _ wd_386, hB _ ws_13⟩ (rd_V hC hP hK (va_recv hK hP (ci := 2) (q0 := 0) rfl rfl)) rfl rfl hl.1 rfl (lv_room (Nat.le_of_ble_eq_true rfl)) dM_level_92 ⟨Nat.zero_le _, Nat.zero_le _⟩) ?_
      refine W.eq (g2 := F0 m 95 ls [.int (nI k), .int (nI i)]) rfl ?_
      refine lv_icmp_ge (tgt := 120) hx hb dM_level_95 (by decide) (fun c_1 => ?_) (fun c_1 => ?_)
      · refine lv_iload hx hb dM_level_120 (lv_at hl 0 rfl) ?_
        have hie : i = k := by
          rcases Nat.lt_or_ge i k with q | q
          · exact absurd c_1 (nI_ge q (by omega))
          · omega
        rw [if_pos c_1] at he
        exact W.iret hx hb hr (fun t ht hW => ⟨⟨_, (), rfl, (by rw [hie]; exact he), (by have h9 : va_P D tbCl [(m0, .inr (2, [.int 0, .int mn, .ref a1, .ref a2, .ref a3, .ref a4, .int zz, .ref a5, .ref a6, .int si])), (a1, .inl (cI, 8, .inl f1)), (a2, .inl (cI, 8, .inl f2)), (a3, .inl (cI, 8, .inl f3)), (a4, .inl (cI, 8192, .inl f4)), (a5, .inl (cI, 1024, .inl f5)), (a6, .inl (cI, 1024, .inl f6))] H := hP; rw [← ht] at h9; exact h9)⟩, hS.F ht⟩) hS.2.2 dM_level_122
      · refine lv_lload hx hb dM_level_98 (lv_at hl 2 rfl) ?_
        refine lv_lload hx hb dM_level_100 (lv_at hl 1 rfl) ?_
        refine W.lcmp hx hb dM_level_102 ?_
        refine lv_if_le (tgt := 120) hx hb dM_level_103 (by decide) (fun c_2 => ?_) (fun c_2 => ?_)
        · refine lv_iload hx hb dM_level_120 (lv_at hl 0 rfl) ?_
          rw [if_neg c_1, if_neg (Int64.not_lt.mpr ((lg_cmp_le _ _).mp c_2))] at he
          exact W.iret hx hb hr (fun t ht hW => ⟨⟨_, (), rfl, he, (by have h9 : va_P D tbCl [(m0, .inr (2, [.int 0, .int mn, .ref a1, .ref a2, .ref a3, .ref a4, .int zz, .ref a5, .ref a6, .int si])), (a1, .inl (cI, 8, .inl f1)), (a2, .inl (cI, 8, .inl f2)), (a3, .inl (cI, 8, .inl f3)), (a4, .inl (cI, 8192, .inl f4)), (a5, .inl (cI, 1024, .inl f5)), (a6, .inl (cI, 1024, .inl f6))] H := hP; rw [← ht] at h9; exact h9)⟩, hS.F ht⟩) hS.2.2 dM_level_122
        · refine lv_lload hx hb dM_level_106 (lv_at hl 1 rfl) ?_
          refine lv_ldc2 (v := 4) hx hb hown (hB _ wd_388) dM_level_108 ?_
          refine lv_lmul hx hb dM_level_111 ?_
          refine lv_lstore (lv' := [(7, .long (rm * 4)), (9, .int (nI i)), (5, .long tx), (0, .ref m0), (1, .int (nI j)), (2, .long sp), (4, .int ar)]) hx hb dM_level_112 hl (by decide) rfl (fun ls hl => ?_)
          obtain ⟨i_3, ei_3⟩ : ∃ z9 : Int32, z9 = (nI i) + 1 := ⟨_, rfl⟩
          refine lv_iinc (v := i_3) (lv' := [(9, .int i_3), (7, .long (rm * 4)), (5, .long tx), (0, .ref m0), (1, .int (nI j)), (2, .long sp), (4, .int ar)]) hx hb dM_level_114 hl (k := 1) rfl (by rw [ei_3]; rfl) (by decide) rfl (fun ls hl => ?_)
          refine lv_goto (tgt := 88) hx hb dM_level_117 (by decide) ?_
          rw [if_neg c_1, if_pos (Int64.not_le.mp (fun h9 => c_2 ((lg_cmp_le _ _).mpr h9)))] at he
          have hik : i < k := by
            rcases Nat.lt_or_ge i k with q | q
            · exact q
            · exact absurd (nI_le q (by omega)) c_1
          exact ih (i + 1) (rm * 4) (by omega) (by omega) (by rw [← nI_1]; exact he) ls (by have hl := lv_sub hl [0, 1, 2, 3, 4, 5, 6] rfl; rw [ei_3, nI_1] at hl; exact hl)
  refine lv_aload_n hx hb dM_level_0 rfl (lv_at hl 0 rfl) ?_
  refine lv_aload_n hx hb dM_level_1 rfl (lv_at hl 0 rfl) ?_
  refine lv_iload_n hx hb dM_level_2 rfl (lv_at hl 1 rfl) ?_
  refine W.callV (W.runV (C := "TextureBankModel") (As := [.int (nI j)]) (rest := [.ref m0]) ⟨hx, hb, hml, hown, hB⟩ (kM_isThere l D cI m0 a1 a2 a3 a4 a5 a6 th mn zz si f1 f2 f3 f4 f5 f6 (nI j)) ⟨callB_of 1 hB gwM_isThere rfl rfl rfl (hB _ wd_3) (hB _ wd_377) ydM_isThere ⟨Nat.le_of_ble_eq_true rfl, Nat.le_of_ble_eq_true rfl⟩, hB _ wd_379, hB _ ws_12⟩ (rd_V hC hP hK (va_recv hK hP (ci := 2) (q0 := 0) rfl rfl)) rfl rfl hl.1 rfl (lv_room (Nat.le_of_ble_eq_true rfl)) dM_level_3 ⟨Nat.zero_le _, Nat.zero_le _⟩) ?_
  refine W.eq (g2 := F0 m 6 ls [.int (tt_has mn (nI j)), .ref m0]) rfl ?_
  refine lv_if_ne (tgt := 13) hx hb dM_level_6 (by decide) (fun c_1 => ?_) (fun c_1 => ?_)
  · refine lv_lload_n hx hb dM_level_13 rfl (lv_at hl 2 rfl) ?_
    refine lv_lconst (v := 0) hx hb dM_level_14 (by decide) ?_
    refine W.lcmp hx hb dM_level_15 ?_
    refine lv_if_lt (tgt := 40) hx hb dM_level_16 (by decide) (fun c_2 => ?_) (fun c_2 => ?_)
    · exact absurd ((lg_cmp_lt _ _).mp c_2) h1
    · refine lv_lload_n hx hb dM_level_19 rfl (lv_at hl 2 rfl) ?_
      refine lv_ldc2 (v := 1099511627776) hx hb hown (hB _ wd_381) dM_level_20 ?_
      refine W.lcmp hx hb dM_level_23 ?_
      refine lv_if_gt (tgt := 40) hx hb dM_level_24 (by decide) (fun c_3 => ?_) (fun c_3 => ?_)
      · exact absurd h2 (Int64.not_le.mpr ((lg_cmp_gt _ _).mp c_3))
      · refine lv_iload hx hb dM_level_27 (lv_at hl 3 rfl) ?_
        refine lv_iconst (v := 1) hx hb dM_level_29 (by decide) ?_
        refine lv_icmp_lt (tgt := 40) hx hb dM_level_30 (by decide) (fun c_4 => ?_) (fun c_4 => ?_)
        · exact absurd c_4 h3
        · refine lv_iload hx hb dM_level_33 (lv_at hl 3 rfl) ?_
          refine lv_ldc (v := 16777216) hx hb hown (hB _ wd_382) dM_level_35 ?_
          refine lv_icmp_le (tgt := 44) hx hb dM_level_37 (by decide) (fun c_5 => ?_) (fun c_5 => ?_)
          · refine lv_iconst (v := 0) hx hb dM_level_44 (by decide) ?_
            refine va_put (D := D) (ci := 2) (v := .int 0) (ty := .int) (C := RM) (T := FM) (N := 10) hx hb hB inM tyM tyM_ok nmM hown hK hP hD hS 0 rfl rfl 0 (by decide) (hB _ wd_322) (fun _ h9 => h9) rfl (by decide +kernel) rfl rfl (Nat.le_of_ble_eq_true rfl) dM_level_45 (fun H locs hP hD hS => ?_)
            have hP : va_P D tbCl [(m0, .inr (2, [.int 0, .int mn, .ref a1, .ref a2, .ref a3, .ref a4, .int zz, .ref a5, .ref a6, .int si])), (a1, .inl (cI, 8, .inl f1)), (a2, .inl (cI, 8, .inl f2)), (a3, .inl (cI, 8, .inl f3)), (a4, .inl (cI, 8192, .inl f4)), (a5, .inl (cI, 1024, .inl f5)), (a6, .inl (cI, 1024, .inl f6))] H := hP
            have hD : va_D A [(m0, .inr (2, [.int 0, .int mn, .ref a1, .ref a2, .ref a3, .ref a4, .int zz, .ref a5, .ref a6, .int si])), (a1, .inl (cI, 8, .inl f1)), (a2, .inl (cI, 8, .inl f2)), (a3, .inl (cI, 8, .inl f3)), (a4, .inl (cI, 8192, .inl f4)), (a5, .inl (cI, 1024, .inl f5)), (a6, .inl (cI, 1024, .inl f6))] := hD
            refine lv_aload_n hx hb dM_level_48 rfl (lv_at hl 0 rfl) ?_
            refine va_get (D := D) (ci := 2) (v := .int 0) (C := RM) (T := FM) (N := 10) hx hb hB inM hown hK hP 0 rfl rfl 0 (by decide) (hB _ wd_322) (fun _ h9 => h9) rfl dM_level_49 ?_
            refine lv_if_eq (tgt := 57) hx hb dM_level_52 (by decide) (fun c_6 => ?_) (fun c_6 => absurd c_6 (by decide))
            refine lv_lload_n hx hb dM_level_57 rfl (lv_at hl 2 rfl) ?_
            refine lv_aload_n hx hb dM_level_58 rfl (lv_at hl 0 rfl) ?_
            refine va_get (D := D) (ci := 2) (v := .ref a1) (C := RM) (T := FM) (N := 10) hx hb hB inM hown hK hP 0 rfl rfl 2 (by decide) (hB _ wd_324) (fun _ h9 => h9) rfl dM_level_59 ?_
            refine lv_iload_n hx hb dM_level_62 rfl (lv_at hl 1 rfl) ?_
            refine va_iald hx hb hK hP 1 0 (f := f1) rfl rfl (i := nI j) (vp_in_nI (hj) (by omega)) dM_level_63 ?_
            refine W.eq (g2 := F0 m 64 ls [.int (f1 j), .long sp]) (by rw [nI_clamp (by have := (hj : j < 8); omega)]) ?_
            refine lv_i2l hx hb dM_level_64 rfl ?_
            refine lv_lmul hx hb dM_level_65 ?_
            refine lv_aload_n hx hb dM_level_66 rfl (lv_at hl 0 rfl) ?_
            refine va_get (D := D) (ci := 2) (v := .ref a1) (C := RM) (T := FM) (N := 10) hx hb hB inM hown hK hP 0 rfl rfl 2 (by decide) (hB _ wd_324) (fun _ h9 => h9) rfl dM_level_67 ?_
            refine lv_iload_n hx hb dM_level_70 rfl (lv_at hl 1 rfl) ?_
            refine va_iald hx hb hK hP 1 0 (f := f1) rfl rfl (i := nI j) (vp_in_nI (hj) (by omega)) dM_level_71 ?_
            refine W.eq (g2 := F0 m 72 ls [.int (f1 j), .long (sp * ((f1 j).toInt64))]) (by rw [nI_clamp (by have := (hj : j < 8); omega)]) ?_
            refine lv_i2l hx hb dM_level_72 rfl ?_
            refine lv_lmul hx hb dM_level_73 ?_
            refine lv_topl (fun tx etx => ?_)
            refine lv_lstore (lv' := [(5, .long tx), (0, .ref m0), (1, .int (nI j)), (2, .long sp), (4, .int ar)]) hx hb dM_level_74 hl (by decide) rfl (fun ls hl => ?_)
            refine lv_iload hx hb dM_level_76 (lv_at hl 4 rfl) ?_
            refine lv_i2l hx hb dM_level_78 rfl ?_
            refine lv_ldc2 (v := 16777216) hx hb hown (hB _ wd_383) dM_level_79 ?_
            refine lv_lmul hx hb dM_level_82 ?_
            refine lv_lstore (lv' := [(7, .long (ar.toInt64 * 16777216)), (5, .long tx), (0, .ref m0), (1, .int (nI j)), (2, .long sp), (4, .int ar)]) hx hb dM_level_83 hl (by decide) rfl (fun ls hl => ?_)
            refine lv_iconst (v := 0) hx hb dM_level_85 (by decide) ?_
            refine lv_istore (lv' := [(9, .int 0), (7, .long (ar.toInt64 * 16777216)), (5, .long tx), (0, .ref m0), (1, .int (nI j)), (2, .long sp), (4, .int ar)]) hx hb dM_level_86 hl (by decide) rfl (fun ls hl => ?_)
            exact loop tx etx H locs hP hS 8 0 _ (Nat.zero_le _) (by omega) (by rw [etx]; rfl) ls (lv_sub hl [0, 1, 2, 3, 4, 5, 6] rfl)
          · exact absurd h4 c_5
  · exact absurd c_1 hth

set_option maxHeartbeats 4000000 in
set_option maxRecDepth 100000 in
theorem kM_lit_bad (l : Launch) (D : va_G) (sz : Nat) (cI : ClassId) (m0 a1 a2 a3 a4 a5 a6 : Nat) (th mn zz si : Int32) (f1 f2 f3 f4 f5 f6 : Nat → Int32) (co ti li : Int32) (hbad : co < 0 ∨ 16777216 ≤ co ∨ ti < 0 ∨ 16777216 ≤ ti ∨ li < 0 ∨ 65536 < li) : Met l yM_lit wM_lit (k2_rm 0 0) (wr_P [.ref m0, .int co, .int ti, .int li] sz D [(cI, .int)] [(m0, .inr (2, [.int th, .int mn, .ref a1, .ref a2, .ref a3, .ref a4, .int zz, .ref a5, .ref a6, .int si])), (a1, .inl (cI, 8, .inl f1)), (a2, .inl (cI, 8, .inl f2)), (a3, .inl (cI, 8, .inl f3)), (a4, .inl (cI, 8192, .inl f4)), (a5, .inl (cI, 1024, .inl f5)), (a6, .inl (cI, 1024, .inl f6))]) (wr_Qi 0 D (va_A [(m0, .inr (2, [.int th, .int mn, .ref a1, .ref a2, .ref a3, .ref a4, .int zz, .ref a5, .ref a6, .int si])), (a1, .inl (cI, 8, .inl f1)), (a2, .inl (cI, 8, .inl f2)), (a3, .inl (cI, 8, .inl f3)), (a4, .inl (cI, 8192, .inl f4)), (a5, .inl (cI, 1024, .inl f5)), (a6, .inl (cI, 1024, .inl f6))] sz) [(m0, .inr (2, [.int 1, .int mn, .ref a1, .ref a2, .ref a3, .ref a4, .int zz, .ref a5, .ref a6, .int si])), (a1, .inl (cI, 8, .inl f1)), (a2, .inl (cI, 8, .inl f2)), (a3, .inl (cI, 8, .inl f3)), (a4, .inl (cI, 8192, .inl f4)), (a5, .inl (cI, 1024, .inl f5)), (a6, .inl (cI, 1024, .inl f6))]) 0 0 (va_A [(m0, .inr (2, [.int th, .int mn, .ref a1, .ref a2, .ref a3, .ref a4, .int zz, .ref a5, .ref a6, .int si])), (a1, .inl (cI, 8, .inl f1)), (a2, .inl (cI, 8, .inl f2)), (a3, .inl (cI, 8, .inl f3)), (a4, .inl (cI, 8192, .inl f4)), (a5, .inl (cI, 1024, .inl f5)), (a6, .inl (cI, 1024, .inl f6))] sz) := by
  refine Met.ofW (cc := cM_lit) (maxL := 9) (ret := (some .int)) (by decide) rfl ?_
  intro p e s m args below meth c s₁ B hml hv
  obtain ⟨rfl, hsz, hC, hP, hK, hD0⟩ := hv
  have hx := B.exec
  have hb := B.bytes
  have hr := B.returns
  have hB : ∀ w ∈ tbB, w.before _ s = true := fun w h => (atoms_spec (ws := wM_lit) B.pre) w (List.mem_cons_of_mem _ h)
  have hown : s.vm.findClass "TextureBankModel" = some m.cls := findClass_of_methodNamed B.named
  have hlocks := B.notSynchronized
  subst hsz
  have hD := hD0.self (sz := s.heap.size)
  generalize hAe : va_A [(m0, .inr (2, [.int th, .int mn, .ref a1, .ref a2, .ref a3, .ref a4, .int zz, .ref a5, .ref a6, .int si])), (a1, .inl (cI, 8, .inl f1)), (a2, .inl (cI, 8, .inl f2)), (a3, .inl (cI, 8, .inl f3)), (a4, .inl (cI, 8192, .inl f4)), (a5, .inl (cI, 1024, .inl f5)), (a6, .inl (cI, 1024, .inl f6))] s.heap.size = A at hD ⊢
  have hA : ∀ q : Nat, s.heap.size ≤ q → A q := fun q h => by rw [← hAe]; exact Or.inr h
  have hS : va_S A s.heap s.heap [] := va_S.rf
  have hl := lv_entry ([.ref m0, .int co, .int ti, .int li]) (n := 9) (Nat.le_of_ble_eq_true rfl)
  rw [lg_entry_eq]
  generalize (lg_sl ([.ref m0, .int co, .int ti, .int li]) ++ List.replicate (9 - (lg_sl ([.ref m0, .int co, .int ti, .int li])).length) Slot.unset).toArray = ls at hl ⊢
  have hl : lv_has ls 9 [(0, .ref m0), (1, .int co), (2, .int ti), (3, .int li)] := hl
  refine lv_iload_n hx hb dM_lit_0 rfl (lv_at hl 1 rfl) ?_
  refine lv_if_lt (tgt := 34) hx hb dM_lit_1 (by decide) (fun c_1 => ?_) (fun c_1 => ?_)
  · refine lv_iconst (v := 0) hx hb dM_lit_34 (by decide) ?_
    refine lv_istore (lv' := [(4, .int 0), (0, .ref m0), (1, .int co), (2, .int ti), (3, .int li)]) hx hb dM_lit_35 hl (by decide) rfl (fun ls hl => ?_)
    refine lv_aload_n hx hb dM_lit_37 rfl (lv_at hl 1 rfl) ?_
    refine lv_iload hx hb dM_lit_38 (lv_at hl 0 rfl) ?_
    refine lv_if_eq (tgt := 47) hx hb dM_lit_40 (by decide) (fun c_2 => ?_) (fun c_2 => absurd c_2 (by decide))
    refine lv_iconst (v := 1) hx hb dM_lit_47 (by decide) ?_
    refine va_put (D := D) (ci := 2) (v := .int 1) (ty := .int) (C := RM) (T := FM) (N := 10) hx hb hB inM tyM tyM_ok nmM hown hK hP hD hS 0 rfl rfl 0 (by decide) (hB _ wd_322) (fun _ h9 => h9) rfl (by decide +kernel) rfl rfl (Nat.le_of_ble_eq_true rfl) dM_lit_48 (fun H locs hP hD hS => ?_)
    have hP : va_P D tbCl [(m0, .inr (2, [.int 1, .int mn, .ref a1, .ref a2, .ref a3, .ref a4, .int zz, .ref a5, .ref a6, .int si])), (a1, .inl (cI, 8, .inl f1)), (a2, .inl (cI, 8, .inl f2)), (a3, .inl (cI, 8, .inl f3)), (a4, .inl (cI, 8192, .inl f4)), (a5, .inl (cI, 1024, .inl f5)), (a6, .inl (cI, 1024, .inl f6))] H := hP
    have hD : va_D A [(m0, .inr (2, [.int 1, .int mn, .ref a1, .ref a2, .ref a3, .ref a4, .int zz, .ref a5, .ref a6, .int si])), (a1, .inl (cI, 8, .inl f1)), (a2, .inl (cI, 8, .inl f2)), (a3, .inl (cI, 8, .inl f3)), (a4, .inl (cI, 8192, .inl f4)), (a5, .inl (cI, 1024, .inl f5)), (a6, .inl (cI, 1024, .inl f6))] := hD
    refine lv_iconst (v := 0) hx hb dM_lit_51 (by decide) ?_
    refine lv_istore (lv' := [(5, .int 0), (4, .int 0), (0, .ref m0), (1, .int co), (2, .int ti), (3, .int li)]) hx hb dM_lit_52 hl (by decide) rfl (fun ls hl => ?_)
    refine lv_iconst (v := 0) hx hb dM_lit_54 (by decide) ?_
    refine lv_istore (lv' := [(6, .int 0), (5, .int 0), (4, .int 0), (0, .ref m0), (1, .int co), (2, .int ti), (3, .int li)]) hx hb dM_lit_55 hl (by decide) rfl (fun ls hl => ?_)
    refine lv_iload hx hb dM_lit_57 (lv_at hl 0 rfl) ?_
    refine lv_iconst (v := 3) hx hb dM_lit_59 (by decide) ?_
    refine lv_icmp_ge (tgt := 113) hx hb dM_lit_60 (by decide) (fun c_3 => absurd c_3 (by decide)) (fun c_3 => ?_)
    refine lv_iload hx hb dM_lit_63 (lv_at hl 2 rfl) ?_
    refine lv_if_eq (tgt := 113) hx hb dM_lit_65 (by decide) (fun c_4 => ?_) (fun c_4 => absurd c_4 (by decide))
    refine lv_iload hx hb dM_lit_113 (lv_at hl 1 rfl) ?_
    exact W.iret hx hb hr (fun t ht hW => ⟨⟨_, (), rfl, rfl, (by have h9 : va_P D tbCl [(m0, .inr (2, [.int 1, .int mn, .ref a1, .ref a2, .ref a3, .ref a4, .int zz, .ref a5, .ref a6, .int si])), (a1, .inl (cI, 8, .inl f1)), (a2, .inl (cI, 8, .inl f2)), (a3, .inl (cI, 8, .inl f3)), (a4, .inl (cI, 8192, .inl f4)), (a5, .inl (cI, 1024, .inl f5)), (a6, .inl (cI, 1024, .inl f6))] H := hP; rw [← ht] at h9; exact h9)⟩, hS.F ht⟩) hS.2.2 dM_lit_115
  · refine lv_iload_n hx hb dM_lit_4 rfl (lv_at hl 1 rfl) ?_
    refine lv_ldc (v := 16777216) hx hb hown (hB _ wd_382) dM_lit_5 ?_
    refine lv_icmp_ge (tgt := 34) hx hb dM_lit_7 (by decide) (fun c_5 => ?_) (fun c_5 => ?_)
    · refine lv_iconst (v := 0) hx hb dM_lit_34 (by decide) ?_
      refine lv_istore (lv' := [(4, .int 0), (0, .ref m0), (1, .int co), (2, .int ti), (3, .int li)]) hx hb dM_lit_35 hl (by decide) rfl (fun ls hl => ?_)
      refine lv_aload_n hx hb dM_lit_37 rfl (lv_at hl 1 rfl) ?_
      refine lv_iload hx hb dM_lit_38 (lv_at hl 0 rfl) ?_
      refine lv_if_eq (tgt := 47) hx hb dM_lit_40 (by decide) (fun c_6 => ?_) (fun c_6 => absurd c_6 (by decide))
      refine lv_iconst (v := 1) hx hb dM_lit_47 (by decide) ?_
      refine va_put (D := D) (ci := 2) (v := .int 1) (ty := .int) (C := RM) (T := FM) (N := 10) hx hb hB inM tyM tyM_ok nmM hown hK hP hD hS 0 rfl rfl 0 (by decide) (hB _ wd_322) (fun _ h9 => h9) rfl (by decide +kernel) rfl rfl (Nat.le_of_ble_eq_true rfl) dM_lit_48 (fun H locs hP hD hS => ?_)
      have hP : va_P D tbCl [(m0, .inr (2, [.int 1, .int mn, .ref a1, .ref a2, .ref a3, .ref a4, .int zz, .ref a5, .ref a6, .int si])), (a1, .inl (cI, 8, .inl f1)), (a2, .inl (cI, 8, .inl f2)), (a3, .inl (cI, 8, .inl f3)), (a4, .inl (cI, 8192, .inl f4)), (a5, .inl (cI, 1024, .inl f5)), (a6, .inl (cI, 1024, .inl f6))] H := hP
      have hD : va_D A [(m0, .inr (2, [.int 1, .int mn, .ref a1, .ref a2, .ref a3, .ref a4, .int zz, .ref a5, .ref a6, .int si])), (a1, .inl (cI, 8, .inl f1)), (a2, .inl (cI, 8, .inl f2)), (a3, .inl (cI, 8, .inl f3)), (a4, .inl (cI, 8192, .inl f4)), (a5, .inl (cI, 1024, .inl f5)), (a6, .inl (cI, 1024, .inl f6))] := hD
      refine lv_iconst (v := 0) hx hb dM_lit_51 (by decide) ?_
      refine lv_istore (lv' := [(5, .int 0), (4, .int 0), (0, .ref m0), (1, .int co), (2, .int ti), (3, .int li)]) hx hb dM_lit_52 hl (by decide) rfl (fun ls hl => ?_)
      refine lv_iconst (v := 0) hx hb dM_lit_54 (by decide) ?_
      refine lv_istore (lv' := [(6, .int 0), (5, .int 0), (4, .int 0), (0, .ref m0), (1, .int co), (2, .int ti), (3, .int li)]) hx hb dM_lit_55 hl (by decide) rfl (fun ls hl => ?_)
      refine lv_iload hx hb dM_lit_57 (lv_at hl 0 rfl) ?_
      refine lv_iconst (v := 3) hx hb dM_lit_59 (by decide) ?_
      refine lv_icmp_ge (tgt := 113) hx hb dM_lit_60 (by decide) (fun c_7 => absurd c_7 (by decide)) (fun c_7 => ?_)
      refine lv_iload hx hb dM_lit_63 (lv_at hl 2 rfl) ?_
      refine lv_if_eq (tgt := 113) hx hb dM_lit_65 (by decide) (fun c_8 => ?_) (fun c_8 => absurd c_8 (by decide))
      refine lv_iload hx hb dM_lit_113 (lv_at hl 1 rfl) ?_
      exact W.iret hx hb hr (fun t ht hW => ⟨⟨_, (), rfl, rfl, (by have h9 : va_P D tbCl [(m0, .inr (2, [.int 1, .int mn, .ref a1, .ref a2, .ref a3, .ref a4, .int zz, .ref a5, .ref a6, .int si])), (a1, .inl (cI, 8, .inl f1)), (a2, .inl (cI, 8, .inl f2)), (a3, .inl (cI, 8, .inl f3)), (a4, .inl (cI, 8192, .inl f4)), (a5, .inl (cI, 1024, .inl f5)), (a6, .inl (cI, 1024, .inl f6))] H := hP; rw [← ht] at h9; exact h9)⟩, hS.F ht⟩) hS.2.2 dM_lit_115
    · refine lv_iload_n hx hb dM_lit_10 rfl (lv_at hl 2 rfl) ?_
      refine lv_if_lt (tgt := 34) hx hb dM_lit_11 (by decide) (fun c_9 => ?_) (fun c_9 => ?_)
      · refine lv_iconst (v := 0) hx hb dM_lit_34 (by decide) ?_
        refine lv_istore (lv' := [(4, .int 0), (0, .ref m0), (1, .int co), (2, .int ti), (3, .int li)]) hx hb dM_lit_35 hl (by decide) rfl (fun ls hl => ?_)
        refine lv_aload_n hx hb dM_lit_37 rfl (lv_at hl 1 rfl) ?_
        refine lv_iload hx hb dM_lit_38 (lv_at hl 0 rfl) ?_
        refine lv_if_eq (tgt := 47) hx hb dM_lit_40 (by decide) (fun c_10 => ?_) (fun c_10 => absurd c_10 (by decide))
        refine lv_iconst (v := 1) hx hb dM_lit_47 (by decide) ?_
        refine va_put (D := D) (ci := 2) (v := .int 1) (ty := .int) (C := RM) (T := FM) (N := 10) hx hb hB inM tyM tyM_ok nmM hown hK hP hD hS 0 rfl rfl 0 (by decide) (hB _ wd_322) (fun _ h9 => h9) rfl (by decide +kernel) rfl rfl (Nat.le_of_ble_eq_true rfl) dM_lit_48 (fun H locs hP hD hS => ?_)
        have hP : va_P D tbCl [(m0, .inr (2, [.int 1, .int mn, .ref a1, .ref a2, .ref a3, .ref a4, .int zz, .ref a5, .ref a6, .int si])), (a1, .inl (cI, 8, .inl f1)), (a2, .inl (cI, 8, .inl f2)), (a3, .inl (cI, 8, .inl f3)), (a4, .inl (cI, 8192, .inl f4)), (a5, .inl (cI, 1024, .inl f5)), (a6, .inl (cI, 1024, .inl f6))] H := hP
        have hD : va_D A [(m0, .inr (2, [.int 1, .int mn, .ref a1, .ref a2, .ref a3, .ref a4, .int zz, .ref a5, .ref a6, .int si])), (a1, .inl (cI, 8, .inl f1)), (a2, .inl (cI, 8, .inl f2)), (a3, .inl (cI, 8, .inl f3)), (a4, .inl (cI, 8192, .inl f4)), (a5, .inl (cI, 1024, .inl f5)), (a6, .inl (cI, 1024, .inl f6))] := hD
        refine lv_iconst (v := 0) hx hb dM_lit_51 (by decide) ?_
        refine lv_istore (lv' := [(5, .int 0), (4, .int 0), (0, .ref m0), (1, .int co), (2, .int ti), (3, .int li)]) hx hb dM_lit_52 hl (by decide) rfl (fun ls hl => ?_)
        refine lv_iconst (v := 0) hx hb dM_lit_54 (by decide) ?_
        refine lv_istore (lv' := [(6, .int 0), (5, .int 0), (4, .int 0), (0, .ref m0), (1, .int co), (2, .int ti), (3, .int li)]) hx hb dM_lit_55 hl (by decide) rfl (fun ls hl => ?_)
        refine lv_iload hx hb dM_lit_57 (lv_at hl 0 rfl) ?_
        refine lv_iconst (v := 3) hx hb dM_lit_59 (by decide) ?_
        refine lv_icmp_ge (tgt := 113) hx hb dM_lit_60 (by decide) (fun c_11 => absurd c_11 (by decide)) (fun c_11 => ?_)
        refine lv_iload hx hb dM_lit_63 (lv_at hl 2 rfl) ?_
        refine lv_if_eq (tgt := 113) hx hb dM_lit_65 (by decide) (fun c_12 => ?_) (fun c_12 => absurd c_12 (by decide))
        refine lv_iload hx hb dM_lit_113 (lv_at hl 1 rfl) ?_
        exact W.iret hx hb hr (fun t ht hW => ⟨⟨_, (), rfl, rfl, (by have h9 : va_P D tbCl [(m0, .inr (2, [.int 1, .int mn, .ref a1, .ref a2, .ref a3, .ref a4, .int zz, .ref a5, .ref a6, .int si])), (a1, .inl (cI, 8, .inl f1)), (a2, .inl (cI, 8, .inl f2)), (a3, .inl (cI, 8, .inl f3)), (a4, .inl (cI, 8192, .inl f4)), (a5, .inl (cI, 1024, .inl f5)), (a6, .inl (cI, 1024, .inl f6))] H := hP; rw [← ht] at h9; exact h9)⟩, hS.F ht⟩) hS.2.2 dM_lit_115
      · refine lv_iload_n hx hb dM_lit_14 rfl (lv_at hl 2 rfl) ?_
        refine lv_ldc (v := 16777216) hx hb hown (hB _ wd_382) dM_lit_15 ?_
        refine lv_icmp_ge (tgt := 34) hx hb dM_lit_17 (by decide) (fun c_13 => ?_) (fun c_13 => ?_)
        · refine lv_iconst (v := 0) hx hb dM_lit_34 (by decide) ?_
          refine lv_istore (lv' := [(4, .int 0), (0, .ref m0), (1, .int co), (2, .int ti), (3, .int li)]) hx hb dM_lit_35 hl (by decide) rfl (fun ls hl => ?_)
          refine lv_aload_n hx hb dM_lit_37 rfl (lv_at hl 1 rfl) ?_
          refine lv_iload hx hb dM_lit_38 (lv_at hl 0 rfl) ?_
          refine lv_if_eq (tgt := 47) hx hb dM_lit_40 (by decide) (fun c_14 => ?_) (fun c_14 => absurd c_14 (by decide))
          refine lv_iconst (v := 1) hx hb dM_lit_47 (by decide) ?_
          refine va_put (D := D) (ci := 2) (v := .int 1) (ty := .int) (C := RM) (T := FM) (N := 10) hx hb hB inM tyM tyM_ok nmM hown hK hP hD hS 0 rfl rfl 0 (by decide) (hB _ wd_322) (fun _ h9 => h9) rfl (by decide +kernel) rfl rfl (Nat.le_of_ble_eq_true rfl) dM_lit_48 (fun H locs hP hD hS => ?_)
          have hP : va_P D tbCl [(m0, .inr (2, [.int 1, .int mn, .ref a1, .ref a2, .ref a3, .ref a4, .int zz, .ref a5, .ref a6, .int si])), (a1, .inl (cI, 8, .inl f1)), (a2, .inl (cI, 8, .inl f2)), (a3, .inl (cI, 8, .inl f3)), (a4, .inl (cI, 8192, .inl f4)), (a5, .inl (cI, 1024, .inl f5)), (a6, .inl (cI, 1024, .inl f6))] H := hP
          have hD : va_D A [(m0, .inr (2, [.int 1, .int mn, .ref a1, .ref a2, .ref a3, .ref a4, .int zz, .ref a5, .ref a6, .int si])), (a1, .inl (cI, 8, .inl f1)), (a2, .inl (cI, 8, .inl f2)), (a3, .inl (cI, 8, .inl f3)), (a4, .inl (cI, 8192, .inl f4)), (a5, .inl (cI, 1024, .inl f5)), (a6, .inl (cI, 1024, .inl f6))] := hD
          refine lv_iconst (v := 0) hx hb dM_lit_51 (by decide) ?_
          refine lv_istore (lv' := [(5, .int 0), (4, .int 0), (0, .ref m0), (1, .int co), (2, .int ti), (3, .int li)]) hx hb dM_lit_52 hl (by decide) rfl (fun ls hl => ?_)
          refine lv_iconst (v := 0) hx hb dM_lit_54 (by decide) ?_
          refine lv_istore (lv' := [(6, .int 0), (5, .int 0), (4, .int 0), (0, .ref m0), (1, .int co), (2, .int ti), (3, .int li)]) hx hb dM_lit_55 hl (by decide) rfl (fun ls hl => ?_)
          refine lv_iload hx hb dM_lit_57 (lv_at hl 0 rfl) ?_
          refine lv_iconst (v := 3) hx hb dM_lit_59 (by decide) ?_
          refine lv_icmp_ge (tgt := 113) hx hb dM_lit_60 (by decide) (fun c_15 => absurd c_15 (by decide)) (fun c_15 => ?_)
          refine lv_iload hx hb dM_lit_63 (lv_at hl 2 rfl) ?_
          refine lv_if_eq (tgt := 113) hx hb dM_lit_65 (by decide) (fun c_16 => ?_) (fun c_16 => absurd c_16 (by decide))
          refine lv_iload hx hb dM_lit_113 (lv_at hl 1 rfl) ?_
          exact W.iret hx hb hr (fun t ht hW => ⟨⟨_, (), rfl, rfl, (by have h9 : va_P D tbCl [(m0, .inr (2, [.int 1, .int mn, .ref a1, .ref a2, .ref a3, .ref a4, .int zz, .ref a5, .ref a6, .int si])), (a1, .inl (cI, 8, .inl f1)), (a2, .inl (cI, 8, .inl f2)), (a3, .inl (cI, 8, .inl f3)), (a4, .inl (cI, 8192, .inl f4)), (a5, .inl (cI, 1024, .inl f5)), (a6, .inl (cI, 1024, .inl f6))] H := hP; rw [← ht] at h9; exact h9)⟩, hS.F ht⟩) hS.2.2 dM_lit_115
        · refine lv_iload_n hx hb dM_lit_20 rfl (lv_at hl 3 rfl) ?_
          refine lv_if_lt (tgt := 34) hx hb dM_lit_21 (by decide) (fun c_17 => ?_) (fun c_17 => ?_)
          · refine lv_iconst (v := 0) hx hb dM_lit_34 (by decide) ?_
            refine lv_istore (lv' := [(4, .int 0), (0, .ref m0), (1, .int co), (2, .int ti), (3, .int li)]) hx hb dM_lit_35 hl (by decide) rfl (fun ls hl => ?_)
            refine lv_aload_n hx hb dM_lit_37 rfl (lv_at hl 1 rfl) ?_
            refine lv_iload hx hb dM_lit_38 (lv_at hl 0 rfl) ?_
            refine lv_if_eq (tgt := 47) hx hb dM_lit_40 (by decide) (fun c_18 => ?_) (fun c_18 => absurd c_18 (by decide))
            refine lv_iconst (v := 1) hx hb dM_lit_47 (by decide) ?_
            refine va_put (D := D) (ci := 2) (v := .int 1) (ty := .int) (C := RM) (T := FM) (N := 10) hx hb hB inM tyM tyM_ok nmM hown hK hP hD hS 0 rfl rfl 0 (by decide) (hB _ wd_322) (fun _ h9 => h9) rfl (by decide +kernel) rfl rfl (Nat.le_of_ble_eq_true rfl) dM_lit_48 (fun H locs hP hD hS => ?_)
            have hP : va_P D tbCl [(m0, .inr (2, [.int 1, .int mn, .ref a1, .ref a2, .ref a3, .ref a4, .int zz, .ref a5, .ref a6, .int si])), (a1, .inl (cI, 8, .inl f1)), (a2, .inl (cI, 8, .inl f2)), (a3, .inl (cI, 8, .inl f3)), (a4, .inl (cI, 8192, .inl f4)), (a5, .inl (cI, 1024, .inl f5)), (a6, .inl (cI, 1024, .inl f6))] H := hP
            have hD : va_D A [(m0, .inr (2, [.int 1, .int mn, .ref a1, .ref a2, .ref a3, .ref a4, .int zz, .ref a5, .ref a6, .int si])), (a1, .inl (cI, 8, .inl f1)), (a2, .inl (cI, 8, .inl f2)), (a3, .inl (cI, 8, .inl f3)), (a4, .inl (cI, 8192, .inl f4)), (a5, .inl (cI, 1024, .inl f5)), (a6, .inl (cI, 1024, .inl f6))] := hD
            refine lv_iconst (v := 0) hx hb dM_lit_51 (by decide) ?_
            refine lv_istore (lv' := [(5, .int 0), (4, .int 0), (0, .ref m0), (1, .int co), (2, .int ti), (3, .int li)]) hx hb dM_lit_52 hl (by decide) rfl (fun ls hl => ?_)
            refine lv_iconst (v := 0) hx hb dM_lit_54 (by decide) ?_
            refine lv_istore (lv' := [(6, .int 0), (5, .int 0), (4, .int 0), (0, .ref m0), (1, .int co), (2, .int ti), (3, .int li)]) hx hb dM_lit_55 hl (by decide) rfl (fun ls hl => ?_)
            refine lv_iload hx hb dM_lit_57 (lv_at hl 0 rfl) ?_
            refine lv_iconst (v := 3) hx hb dM_lit_59 (by decide) ?_
            refine lv_icmp_ge (tgt := 113) hx hb dM_lit_60 (by decide) (fun c_19 => absurd c_19 (by decide)) (fun c_19 => ?_)
            refine lv_iload hx hb dM_lit_63 (lv_at hl 2 rfl) ?_
            refine lv_if_eq (tgt := 113) hx hb dM_lit_65 (by decide) (fun c_20 => ?_) (fun c_20 => absurd c_20 (by decide))
            refine lv_iload hx hb dM_lit_113 (lv_at hl 1 rfl) ?_
            exact W.iret hx hb hr (fun t ht hW => ⟨⟨_, (), rfl, rfl, (by have h9 : va_P D tbCl [(m0, .inr (2, [.int 1, .int mn, .ref a1, .ref a2, .ref a3, .ref a4, .int zz, .ref a5, .ref a6, .int si])), (a1, .inl (cI, 8, .inl f1)), (a2, .inl (cI, 8, .inl f2)), (a3, .inl (cI, 8, .inl f3)), (a4, .inl (cI, 8192, .inl f4)), (a5, .inl (cI, 1024, .inl f5)), (a6, .inl (cI, 1024, .inl f6))] H := hP; rw [← ht] at h9; exact h9)⟩, hS.F ht⟩) hS.2.2 dM_lit_115
          · refine lv_iload_n hx hb dM_lit_24 rfl (lv_at hl 3 rfl) ?_
            refine lv_ldc (v := 65536) hx hb hown (hB _ wd_364) dM_lit_25 ?_
            refine lv_icmp_gt (tgt := 34) hx hb dM_lit_27 (by decide) (fun c_21 => ?_) (fun c_21 => ?_)
            · refine lv_iconst (v := 0) hx hb dM_lit_34 (by decide) ?_
              refine lv_istore (lv' := [(4, .int 0), (0, .ref m0), (1, .int co), (2, .int ti), (3, .int li)]) hx hb dM_lit_35 hl (by decide) rfl (fun ls hl => ?_)
              refine lv_aload_n hx hb dM_lit_37 rfl (lv_at hl 1 rfl) ?_
              refine lv_iload hx hb dM_lit_38 (lv_at hl 0 rfl) ?_
              refine lv_if_eq (tgt := 47) hx hb dM_lit_40 (by decide) (fun c_22 => ?_) (fun c_22 => absurd c_22 (by decide))
              refine lv_iconst (v := 1) hx hb dM_lit_47 (by decide) ?_
              refine va_put (D := D) (ci := 2) (v := .int 1) (ty := .int) (C := RM) (T := FM) (N := 10) hx hb hB inM tyM tyM_ok nmM hown hK hP hD hS 0 rfl rfl 0 (by decide) (hB _ wd_322) (fun _ h9 => h9) rfl (by decide +kernel) rfl rfl (Nat.le_of_ble_eq_true rfl) dM_lit_48 (fun H locs hP hD hS => ?_)
              have hP : va_P D tbCl [(m0, .inr (2, [.int 1, .int mn, .ref a1, .ref a2, .ref a3, .ref a4, .int zz, .ref a5, .ref a6, .int si])), (a1, .inl (cI, 8, .inl f1)), (a2, .inl (cI, 8, .inl f2)), (a3, .inl (cI, 8, .inl f3)), (a4, .inl (cI, 8192, .inl f4)), (a5, .inl (cI, 1024, .inl f5)), (a6, .inl (cI, 1024, .inl f6))] H := hP
              have hD : va_D A [(m0, .inr (2, [.int 1, .int mn, .ref a1, .ref a2, .ref a3, .ref a4, .int zz, .ref a5, .ref a6, .int si])), (a1, .inl (cI, 8, .inl f1)), (a2, .inl (cI, 8, .inl f2)), (a3, .inl (cI, 8, .inl f3)), (a4, .inl (cI, 8192, .inl f4)), (a5, .inl (cI, 1024, .inl f5)), (a6, .inl (cI, 1024, .inl f6))] := hD
              refine lv_iconst (v := 0) hx hb dM_lit_51 (by decide) ?_
              refine lv_istore (lv' := [(5, .int 0), (4, .int 0), (0, .ref m0), (1, .int co), (2, .int ti), (3, .int li)]) hx hb dM_lit_52 hl (by decide) rfl (fun ls hl => ?_)
              refine lv_iconst (v := 0) hx hb dM_lit_54 (by decide) ?_
              refine lv_istore (lv' := [(6, .int 0), (5, .int 0), (4, .int 0), (0, .ref m0), (1, .int co), (2, .int ti), (3, .int li)]) hx hb dM_lit_55 hl (by decide) rfl (fun ls hl => ?_)
              refine lv_iload hx hb dM_lit_57 (lv_at hl 0 rfl) ?_
              refine lv_iconst (v := 3) hx hb dM_lit_59 (by decide) ?_
              refine lv_icmp_ge (tgt := 113) hx hb dM_lit_60 (by decide) (fun c_23 => absurd c_23 (by decide)) (fun c_23 => ?_)
              refine lv_iload hx hb dM_lit_63 (lv_at hl 2 rfl) ?_
              refine lv_if_eq (tgt := 113) hx hb dM_lit_65 (by decide) (fun c_24 => ?_) (fun c_24 => absurd c_24 (by decide))
              refine lv_iload hx hb dM_lit_113 (lv_at hl 1 rfl) ?_
              exact W.iret hx hb hr (fun t ht hW => ⟨⟨_, (), rfl, rfl, (by have h9 : va_P D tbCl [(m0, .inr (2, [.int 1, .int mn, .ref a1, .ref a2, .ref a3, .ref a4, .int zz, .ref a5, .ref a6, .int si])), (a1, .inl (cI, 8, .inl f1)), (a2, .inl (cI, 8, .inl f2)), (a3, .inl (cI, 8, .inl f3)), (a4, .inl (cI, 8192, .inl f4)), (a5, .inl (cI, 1024, .inl f5)), (a6, .inl (cI, 1024, .inl f6))] H := hP; rw [← ht] at h9; exact h9)⟩, hS.F ht⟩) hS.2.2 dM_lit_115
            · exact absurd (hbad.elim (fun h => absurd h c_1) (fun h => h.elim (fun h => absurd h c_5) (fun h => h.elim (fun h => absurd h c_9) (fun h => h.elim (fun h => absurd h c_13) (fun h => h.elim (fun h => absurd h c_17) id))))) c_21

set_option maxHeartbeats 4000000 in
set_option maxRecDepth 100000 in
theorem kM_lit_ok (l : Launch) (D : va_G) (sz : Nat) (cI : ClassId) (m0 a1 a2 a3 a4 a5 a6 : Nat) (th mn zz si : Int32) (f1 f2 f3 f4 f5 f6 : Nat → Int32) (co ti li : Int32) (h1 : ¬ co < 0) (h2 : ¬ 16777216 ≤ co) (h3 : ¬ ti < 0) (h4 : ¬ 16777216 ≤ ti) (h5 : ¬ li < 0) (h6 : ¬ 65536 < li) : Met l yM_lit wM_lit (k2_rm 1 21) (wr_P [.ref m0, .int co, .int ti, .int li] sz D [(cI, .int)] [(m0, .inr (2, [.int th, .int mn, .ref a1, .ref a2, .ref a3, .ref a4, .int zz, .ref a5, .ref a6, .int si])), (a1, .inl (cI, 8, .inl f1)), (a2, .inl (cI, 8, .inl f2)), (a3, .inl (cI, 8, .inl f3)), (a4, .inl (cI, 8192, .inl f4)), (a5, .inl (cI, 1024, .inl f5)), (a6, .inl (cI, 1024, .inl f6))]) (wr_Qi (mm_lit co ti li) D (va_A [(m0, .inr (2, [.int th, .int mn, .ref a1, .ref a2, .ref a3, .ref a4, .int zz, .ref a5, .ref a6, .int si])), (a1, .inl (cI, 8, .inl f1)), (a2, .inl (cI, 8, .inl f2)), (a3, .inl (cI, 8, .inl f3)), (a4, .inl (cI, 8192, .inl f4)), (a5, .inl (cI, 1024, .inl f5)), (a6, .inl (cI, 1024, .inl f6))] sz) [(m0, .inr (2, [.int 0, .int mn, .ref a1, .ref a2, .ref a3, .ref a4, .int zz, .ref a5, .ref a6, .int si])), (a1, .inl (cI, 8, .inl f1)), (a2, .inl (cI, 8, .inl f2)), (a3, .inl (cI, 8, .inl f3)), (a4, .inl (cI, 8192, .inl f4)), (a5, .inl (cI, 1024, .inl f5)), (a6, .inl (cI, 1024, .inl f6))]) 0 0 (va_A [(m0, .inr (2, [.int th, .int mn, .ref a1, .ref a2, .ref a3, .ref a4, .int zz, .ref a5, .ref a6, .int si])), (a1, .inl (cI, 8, .inl f1)), (a2, .inl (cI, 8, .inl f2)), (a3, .inl (cI, 8, .inl f3)), (a4, .inl (cI, 8192, .inl f4)), (a5, .inl (cI, 1024, .inl f5)), (a6, .inl (cI, 1024, .inl f6))] sz) := by
  refine Met.ofW (cc := cM_lit) (maxL := 9) (ret := (some .int)) (by decide) rfl ?_
  intro p e s m args below meth c s₁ B hml hv
  obtain ⟨rfl, hsz, hC, hP, hK, hD0⟩ := hv
  have hx := B.exec
  have hb := B.bytes
  have hr := B.returns
  have hB : ∀ w ∈ tbB, w.before _ s = true := fun w h => (atoms_spec (ws := wM_lit) B.pre) w (List.mem_cons_of_mem _ h)
  have hown : s.vm.findClass "TextureBankModel" = some m.cls := findClass_of_methodNamed B.named
  have hlocks := B.notSynchronized
  subst hsz
  have hD := hD0.self (sz := s.heap.size)
  generalize hAe : va_A [(m0, .inr (2, [.int th, .int mn, .ref a1, .ref a2, .ref a3, .ref a4, .int zz, .ref a5, .ref a6, .int si])), (a1, .inl (cI, 8, .inl f1)), (a2, .inl (cI, 8, .inl f2)), (a3, .inl (cI, 8, .inl f3)), (a4, .inl (cI, 8192, .inl f4)), (a5, .inl (cI, 1024, .inl f5)), (a6, .inl (cI, 1024, .inl f6))] s.heap.size = A at hD ⊢
  have hA : ∀ q : Nat, s.heap.size ≤ q → A q := fun q h => by rw [← hAe]; exact Or.inr h
  have hS : va_S A s.heap s.heap [] := va_S.rf
  have hl := lv_entry ([.ref m0, .int co, .int ti, .int li]) (n := 9) (Nat.le_of_ble_eq_true rfl)
  rw [lg_entry_eq]
  generalize (lg_sl ([.ref m0, .int co, .int ti, .int li]) ++ List.replicate (9 - (lg_sl ([.ref m0, .int co, .int ti, .int li])).length) Slot.unset).toArray = ls at hl ⊢
  have hl : lv_has ls 9 [(0, .ref m0), (1, .int co), (2, .int ti), (3, .int li)] := hl
  refine lv_iload_n hx hb dM_lit_0 rfl (lv_at hl 1 rfl) ?_
  refine lv_if_lt (tgt := 34) hx hb dM_lit_1 (by decide) (fun c_1 => ?_) (fun c_1 => ?_)
  · exact absurd c_1 h1
  · refine lv_iload_n hx hb dM_lit_4 rfl (lv_at hl 1 rfl) ?_
    refine lv_ldc (v := 16777216) hx hb hown (hB _ wd_382) dM_lit_5 ?_
    refine lv_icmp_ge (tgt := 34) hx hb dM_lit_7 (by decide) (fun c_2 => ?_) (fun c_2 => ?_)
    · exact absurd c_2 h2
    · refine lv_iload_n hx hb dM_lit_10 rfl (lv_at hl 2 rfl) ?_
      refine lv_if_lt (tgt := 34) hx hb dM_lit_11 (by decide) (fun c_3 => ?_) (fun c_3 => ?_)
      · exact absurd c_3 h3
      · refine lv_iload_n hx hb dM_lit_14 rfl (lv_at hl 2 rfl) ?_
        refine lv_ldc (v := 16777216) hx hb hown (hB _ wd_382) dM_lit_15 ?_
        refine lv_icmp_ge (tgt := 34) hx hb dM_lit_17 (by decide) (fun c_4 => ?_) (fun c_4 => ?_)
        · exact absurd c_4 h4
        · refine lv_iload_n hx hb dM_lit_20 rfl (lv_at hl 3 rfl) ?_
          refine lv_if_lt (tgt := 34) hx hb dM_lit_21 (by decide) (fun c_5 => ?_) (fun c_5 => ?_)
          · exact absurd c_5 h5
          · refine lv_iload_n hx hb dM_lit_24 rfl (lv_at hl 3 rfl) ?_
            refine lv_ldc (v := 65536) hx hb hown (hB _ wd_364) dM_lit_25 ?_
            refine lv_icmp_gt (tgt := 34) hx hb dM_lit_27 (by decide) (fun c_6 => ?_) (fun c_6 => ?_)
            · exact absurd c_6 h6
            · refine lv_iconst (v := 1) hx hb dM_lit_30 (by decide) ?_
              refine lv_goto (tgt := 35) hx hb dM_lit_31 (by decide) ?_
              refine lv_istore (lv' := [(4, .int 1), (0, .ref m0), (1, .int co), (2, .int ti), (3, .int li)]) hx hb dM_lit_35 hl (by decide) rfl (fun ls hl => ?_)
              refine lv_aload_n hx hb dM_lit_37 rfl (lv_at hl 1 rfl) ?_
              refine lv_iload hx hb dM_lit_38 (lv_at hl 0 rfl) ?_
              refine lv_if_eq (tgt := 47) hx hb dM_lit_40 (by decide) (fun c_7 => absurd c_7 (by decide)) (fun c_7 => ?_)
              refine lv_iconst (v := 0) hx hb dM_lit_43 (by decide) ?_
              refine lv_goto (tgt := 48) hx hb dM_lit_44 (by decide) ?_
              refine va_put (D := D) (ci := 2) (v := .int 0) (ty := .int) (C := RM) (T := FM) (N := 10) hx hb hB inM tyM tyM_ok nmM hown hK hP hD hS 0 rfl rfl 0 (by decide) (hB _ wd_322) (fun _ h9 => h9) rfl (by decide +kernel) rfl rfl (Nat.le_of_ble_eq_true rfl) dM_lit_48 (fun H locs hP hD hS => ?_)
              have hP : va_P D tbCl [(m0, .inr (2, [.int 0, .int mn, .ref a1, .ref a2, .ref a3, .ref a4, .int zz, .ref a5, .ref a6, .int si])), (a1, .inl (cI, 8, .inl f1)), (a2, .inl (cI, 8, .inl f2)), (a3, .inl (cI, 8, .inl f3)), (a4, .inl (cI, 8192, .inl f4)), (a5, .inl (cI, 1024, .inl f5)), (a6, .inl (cI, 1024, .inl f6))] H := hP
              have hD : va_D A [(m0, .inr (2, [.int 0, .int mn, .ref a1, .ref a2, .ref a3, .ref a4, .int zz, .ref a5, .ref a6, .int si])), (a1, .inl (cI, 8, .inl f1)), (a2, .inl (cI, 8, .inl f2)), (a3, .inl (cI, 8, .inl f3)), (a4, .inl (cI, 8192, .inl f4)), (a5, .inl (cI, 1024, .inl f5)), (a6, .inl (cI, 1024, .inl f6))] := hD
              refine lv_iconst (v := 0) hx hb dM_lit_51 (by decide) ?_
              refine lv_istore (lv' := [(5, .int 0), (4, .int 1), (0, .ref m0), (1, .int co), (2, .int ti), (3, .int li)]) hx hb dM_lit_52 hl (by decide) rfl (fun ls hl => ?_)
              refine lv_iconst (v := 0) hx hb dM_lit_54 (by decide) ?_
              refine lv_istore (lv' := [(6, .int 0), (5, .int 0), (4, .int 1), (0, .ref m0), (1, .int co), (2, .int ti), (3, .int li)]) hx hb dM_lit_55 hl (by decide) rfl (fun ls hl => ?_)
              refine lv_iload hx hb dM_lit_57 (lv_at hl 0 rfl) ?_
              refine lv_iconst (v := 3) hx hb dM_lit_59 (by decide) ?_
              refine lv_icmp_ge (tgt := 113) hx hb dM_lit_60 (by decide) (fun c_8 => absurd c_8 (by decide)) (fun c_8 => ?_)
              refine lv_iload hx hb dM_lit_63 (lv_at hl 2 rfl) ?_
              refine lv_if_eq (tgt := 113) hx hb dM_lit_65 (by decide) (fun c_9 => absurd c_9 (by decide)) (fun c_9 => ?_)
              refine lv_iload_n hx hb dM_lit_68 rfl (lv_at hl 4 rfl) ?_
              refine lv_iload hx hb dM_lit_69 (lv_at hl 0 rfl) ?_
              refine W.callV (W.runS (As := [.int co, .int 0]) (rest := []) ⟨hx, hb, hml, hown, hB⟩ (kM_part l co 0) ⟨callB_of 2 hB gwM_part rfl rfl rfl (hB _ wd_3) (hB _ wd_405) ydM_part ⟨Nat.le_of_ble_eq_true rfl, Nat.le_of_ble_eq_true rfl⟩, hB _ wd_406⟩ (preEq) rfl rfl hl.1 rfl (lv_room (Nat.le_of_ble_eq_true rfl)) dM_lit_71 ⟨Nat.zero_le _, Nat.zero_le _⟩) ?_
              refine W.eq (g2 := F0 m 74 ls [.int (mm_part co 0)]) rfl ?_
              refine lv_iload_n hx hb dM_lit_74 rfl (lv_at hl 5 rfl) ?_
              refine lv_iload hx hb dM_lit_75 (lv_at hl 0 rfl) ?_
              refine W.callV (W.runS (As := [.int ti, .int 0]) (rest := [.int (mm_part co 0)]) ⟨hx, hb, hml, hown, hB⟩ (kM_part l ti 0) ⟨callB_of 2 hB gwM_part rfl rfl rfl (hB _ wd_3) (hB _ wd_405) ydM_part ⟨Nat.le_of_ble_eq_true rfl, Nat.le_of_ble_eq_true rfl⟩, hB _ wd_406⟩ (preEq) rfl rfl hl.1 rfl (lv_room (Nat.le_of_ble_eq_true rfl)) dM_lit_77 ⟨Nat.zero_le _, Nat.zero_le _⟩) ?_
              refine W.eq (g2 := F0 m 80 ls [.int (mm_part ti 0), .int (mm_part co 0)]) rfl ?_
              refine lv_imul hx hb dM_lit_80 ?_
              refine lv_sipush (v := 255) hx hb dM_lit_81 (by decide) ?_
              refine lv_idiv hx hb dM_lit_84 (by decide) ?_
              refine lv_i2l hx hb dM_lit_85 rfl ?_
              refine lv_lstore (lv' := [(7, .long ((((mm_part co 0) * (mm_part ti 0)) / 255).toInt64)), (6, .int 0), (5, .int 0), (4, .int 1), (0, .ref m0), (1, .int co), (2, .int ti), (3, .int li)]) hx hb dM_lit_86 hl (by decide) rfl (fun ls hl => ?_)
              refine lv_iload hx hb dM_lit_88 (lv_at hl 2 rfl) ?_
              refine lv_sipush (v := 256) hx hb dM_lit_90 (by decide) ?_
              refine lv_imul hx hb dM_lit_93 ?_
              refine W.eq (g2 := F0 m 94 ls [.int 0]) rfl ?_
              refine lv_lload hx hb dM_lit_94 (lv_at hl 0 rfl) ?_
              refine lv_iload_n hx hb dM_lit_96 rfl (lv_at hl 7 rfl) ?_
              refine lv_i2l hx hb dM_lit_97 rfl ?_
              refine lv_lmul hx hb dM_lit_98 ?_
              refine lv_ldc2 (v := 65536) hx hb hown (hB _ wd_413) dM_lit_99 ?_
              refine lv_ldiv hx hb dM_lit_102 (by decide) ?_
              refine lv_l2i hx hb dM_lit_103 rfl ?_
              refine lv_iadd hx hb dM_lit_104 ?_
              refine lv_istore (lv' := [(5, .int (0 + (((((((mm_part co 0) * (mm_part ti 0)) / 255).toInt64) * li.toInt64) / 65536).toInt32))), (7, .long ((((mm_part co 0) * (mm_part ti 0)) / 255).toInt64)), (6, .int 0), (4, .int 1), (0, .ref m0), (1, .int co), (2, .int ti), (3, .int li)]) hx hb dM_lit_105 hl (by decide) rfl (fun ls hl => ?_)
              refine lv_iinc (v := 1) (lv' := [(6, .int 1), (5, .int (0 + (((((((mm_part co 0) * (mm_part ti 0)) / 255).toInt64) * li.toInt64) / 65536).toInt32))), (7, .long ((((mm_part co 0) * (mm_part ti 0)) / 255).toInt64)), (4, .int 1), (0, .ref m0), (1, .int co), (2, .int ti), (3, .int li)]) hx hb dM_lit_107 hl (k := 2) rfl (by decide) (by decide) rfl (fun ls hl => ?_)
              refine lv_goto (tgt := 57) hx hb dM_lit_110 (by decide) ?_
              refine lv_iload hx hb dM_lit_57 (lv_at hl 0 rfl) ?_
              refine lv_iconst (v := 3) hx hb dM_lit_59 (by decide) ?_
              refine lv_icmp_ge (tgt := 113) hx hb dM_lit_60 (by decide) (fun c_10 => absurd c_10 (by decide)) (fun c_10 => ?_)
              refine lv_iload hx hb dM_lit_63 (lv_at hl 3 rfl) ?_
              refine lv_if_eq (tgt := 113) hx hb dM_lit_65 (by decide) (fun c_11 => absurd c_11 (by decide)) (fun c_11 => ?_)
              refine lv_iload_n hx hb dM_lit_68 rfl (lv_at hl 5 rfl) ?_
              refine lv_iload hx hb dM_lit_69 (lv_at hl 0 rfl) ?_
              refine W.callV (W.runS (As := [.int co, .int 1]) (rest := []) ⟨hx, hb, hml, hown, hB⟩ (kM_part l co 1) ⟨callB_of 2 hB gwM_part rfl rfl rfl (hB _ wd_3) (hB _ wd_405) ydM_part ⟨Nat.le_of_ble_eq_true rfl, Nat.le_of_ble_eq_true rfl⟩, hB _ wd_406⟩ (preEq) rfl rfl hl.1 rfl (lv_room (Nat.le_of_ble_eq_true rfl)) dM_lit_71 ⟨Nat.zero_le _, Nat.zero_le _⟩) ?_
              refine W.eq (g2 := F0 m 74 ls [.int (mm_part co 1)]) rfl ?_
              refine lv_iload_n hx hb dM_lit_74 rfl (lv_at hl 6 rfl) ?_
              refine lv_iload hx hb dM_lit_75 (lv_at hl 0 rfl) ?_
              refine W.callV (W.runS (As := [.int ti, .int 1]) (rest := [.int (mm_part co 1)]) ⟨hx, hb, hml, hown, hB⟩ (kM_part l ti 1) ⟨callB_of 2 hB gwM_part rfl rfl rfl (hB _ wd_3) (hB _ wd_405) ydM_part ⟨Nat.le_of_ble_eq_true rfl, Nat.le_of_ble_eq_true rfl⟩, hB _ wd_406⟩ (preEq) rfl rfl hl.1 rfl (lv_room (Nat.le_of_ble_eq_true rfl)) dM_lit_77 ⟨Nat.zero_le _, Nat.zero_le _⟩) ?_
              refine W.eq (g2 := F0 m 80 ls [.int (mm_part ti 1), .int (mm_part co 1)]) rfl ?_
              refine lv_imul hx hb dM_lit_80 ?_
              refine lv_sipush (v := 255) hx hb dM_lit_81 (by decide) ?_
              refine lv_idiv hx hb dM_lit_84 (by decide) ?_
              refine lv_i2l hx hb dM_lit_85 rfl ?_
              refine lv_lstore (lv' := [(7, .long ((((mm_part co 1) * (mm_part ti 1)) / 255).toInt64)), (6, .int 1), (5, .int (0 + (((((((mm_part co 0) * (mm_part ti 0)) / 255).toInt64) * li.toInt64) / 65536).toInt32))), (4, .int 1), (0, .ref m0), (1, .int co), (2, .int ti), (3, .int li)]) hx hb dM_lit_86 hl (by decide) rfl (fun ls hl => ?_)
              refine lv_iload hx hb dM_lit_88 (lv_at hl 2 rfl) ?_
              refine lv_sipush (v := 256) hx hb dM_lit_90 (by decide) ?_
              refine lv_imul hx hb dM_lit_93 ?_
              refine lv_lload hx hb dM_lit_94 (lv_at hl 0 rfl) ?_
              refine lv_iload_n hx hb dM_lit_96 rfl (lv_at hl 7 rfl) ?_
              refine lv_i2l hx hb dM_lit_97 rfl ?_
              refine lv_lmul hx hb dM_lit_98 ?_
              refine lv_ldc2 (v := 65536) hx hb hown (hB _ wd_413) dM_lit_99 ?_
              refine lv_ldiv hx hb dM_lit_102 (by decide) ?_
              refine lv_l2i hx hb dM_lit_103 rfl ?_
              refine lv_iadd hx hb dM_lit_104 ?_
              refine lv_istore (lv' := [(5, .int (((0 + (((((((mm_part co 0) * (mm_part ti 0)) / 255).toInt64) * li.toInt64) / 65536).toInt32)) * 256) + (((((((mm_part co 1) * (mm_part ti 1)) / 255).toInt64) * li.toInt64) / 65536).toInt32))), (7, .long ((((mm_part co 1) * (mm_part ti 1)) / 255).toInt64)), (6, .int 1), (4, .int 1), (0, .ref m0), (1, .int co), (2, .int ti), (3, .int li)]) hx hb dM_lit_105 hl (by decide) rfl (fun ls hl => ?_)
              refine lv_iinc (v := 2) (lv' := [(6, .int 2), (5, .int (((0 + (((((((mm_part co 0) * (mm_part ti 0)) / 255).toInt64) * li.toInt64) / 65536).toInt32)) * 256) + (((((((mm_part co 1) * (mm_part ti 1)) / 255).toInt64) * li.toInt64) / 65536).toInt32))), (7, .long ((((mm_part co 1) * (mm_part ti 1)) / 255).toInt64)), (4, .int 1), (0, .ref m0), (1, .int co), (2, .int ti), (3, .int li)]) hx hb dM_lit_107 hl (k := 2) rfl (by decide) (by decide) rfl (fun ls hl => ?_)
              refine lv_goto (tgt := 57) hx hb dM_lit_110 (by decide) ?_
              refine lv_iload hx hb dM_lit_57 (lv_at hl 0 rfl) ?_
              refine lv_iconst (v := 3) hx hb dM_lit_59 (by decide) ?_
              refine lv_icmp_ge (tgt := 113) hx hb dM_lit_60 (by decide) (fun c_12 => absurd c_12 (by decide)) (fun c_12 => ?_)
              refine lv_iload hx hb dM_lit_63 (lv_at hl 3 rfl) ?_
              refine lv_if_eq (tgt := 113) hx hb dM_lit_65 (by decide) (fun c_13 => absurd c_13 (by decide)) (fun c_13 => ?_)
              refine lv_iload_n hx hb dM_lit_68 rfl (lv_at hl 5 rfl) ?_
              refine lv_iload hx hb dM_lit_69 (lv_at hl 0 rfl) ?_
              refine W.callV (W.runS (As := [.int co, .int 2]) (rest := []) ⟨hx, hb, hml, hown, hB⟩ (kM_part l co 2) ⟨callB_of 2 hB gwM_part rfl rfl rfl (hB _ wd_3) (hB _ wd_405) ydM_part ⟨Nat.le_of_ble_eq_true rfl, Nat.le_of_ble_eq_true rfl⟩, hB _ wd_406⟩ (preEq) rfl rfl hl.1 rfl (lv_room (Nat.le_of_ble_eq_true rfl)) dM_lit_71 ⟨Nat.zero_le _, Nat.zero_le _⟩) ?_
              refine W.eq (g2 := F0 m 74 ls [.int (mm_part co 2)]) rfl ?_
              refine lv_iload_n hx hb dM_lit_74 rfl (lv_at hl 6 rfl) ?_
              refine lv_iload hx hb dM_lit_75 (lv_at hl 0 rfl) ?_
              refine W.callV (W.runS (As := [.int ti, .int 2]) (rest := [.int (mm_part co 2)]) ⟨hx, hb, hml, hown, hB⟩ (kM_part l ti 2) ⟨callB_of 2 hB gwM_part rfl rfl rfl (hB _ wd_3) (hB _ wd_405) ydM_part ⟨Nat.le_of_ble_eq_true rfl, Nat.le_of_ble_eq_true rfl⟩, hB _ wd_406⟩ (preEq) rfl rfl hl.1 rfl (lv_room (Nat.le_of_ble_eq_true rfl)) dM_lit_77 ⟨Nat.zero_le _, Nat.zero_le _⟩) ?_
              refine W.eq (g2 := F0 m 80 ls [.int (mm_part ti 2), .int (mm_part co 2)]) rfl ?_
              refine lv_imul hx hb dM_lit_80 ?_
              refine lv_sipush (v := 255) hx hb dM_lit_81 (by decide) ?_
              refine lv_idiv hx hb dM_lit_84 (by decide) ?_
              refine lv_i2l hx hb dM_lit_85 rfl ?_
              refine lv_lstore (lv' := [(7, .long ((((mm_part co 2) * (mm_part ti 2)) / 255).toInt64)), (6, .int 2), (5, .int (((0 + (((((((mm_part co 0) * (mm_part ti 0)) / 255).toInt64) * li.toInt64) / 65536).toInt32)) * 256) + (((((((mm_part co 1) * (mm_part ti 1)) / 255).toInt64) * li.toInt64) / 65536).toInt32))), (4, .int 1), (0, .ref m0), (1, .int co), (2, .int ti), (3, .int li)]) hx hb dM_lit_86 hl (by decide) rfl (fun ls hl => ?_)
              refine lv_iload hx hb dM_lit_88 (lv_at hl 2 rfl) ?_
              refine lv_sipush (v := 256) hx hb dM_lit_90 (by decide) ?_
              refine lv_imul hx hb dM_lit_93 ?_
              refine lv_lload hx hb dM_lit_94 (lv_at hl 0 rfl) ?_
              refine lv_iload_n hx hb dM_lit_96 rfl (lv_at hl 7 rfl) ?_
              refine lv_i2l hx hb dM_lit_97 rfl ?_
              refine lv_lmul hx hb dM_lit_98 ?_
              refine lv_ldc2 (v := 65536) hx hb hown (hB _ wd_413) dM_lit_99 ?_
              refine lv_ldiv hx hb dM_lit_102 (by decide) ?_
              refine lv_l2i hx hb dM_lit_103 rfl ?_
              refine lv_iadd hx hb dM_lit_104 ?_
              refine lv_istore (lv' := [(5, .int (((((0 + (((((((mm_part co 0) * (mm_part ti 0)) / 255).toInt64) * li.toInt64) / 65536).toInt32)) * 256) + (((((((mm_part co 1) * (mm_part ti 1)) / 255).toInt64) * li.toInt64) / 65536).toInt32)) * 256) + (((((((mm_part co 2) * (mm_part ti 2)) / 255).toInt64) * li.toInt64) / 65536).toInt32))), (7, .long ((((mm_part co 2) * (mm_part ti 2)) / 255).toInt64)), (6, .int 2), (4, .int 1), (0, .ref m0), (1, .int co), (2, .int ti), (3, .int li)]) hx hb dM_lit_105 hl (by decide) rfl (fun ls hl => ?_)
              refine lv_iinc (v := 3) (lv' := [(6, .int 3), (5, .int (((((0 + (((((((mm_part co 0) * (mm_part ti 0)) / 255).toInt64) * li.toInt64) / 65536).toInt32)) * 256) + (((((((mm_part co 1) * (mm_part ti 1)) / 255).toInt64) * li.toInt64) / 65536).toInt32)) * 256) + (((((((mm_part co 2) * (mm_part ti 2)) / 255).toInt64) * li.toInt64) / 65536).toInt32))), (7, .long ((((mm_part co 2) * (mm_part ti 2)) / 255).toInt64)), (4, .int 1), (0, .ref m0), (1, .int co), (2, .int ti), (3, .int li)]) hx hb dM_lit_107 hl (k := 2) rfl (by decide) (by decide) rfl (fun ls hl => ?_)
              refine lv_goto (tgt := 57) hx hb dM_lit_110 (by decide) ?_
              refine lv_iload hx hb dM_lit_57 (lv_at hl 0 rfl) ?_
              refine lv_iconst (v := 3) hx hb dM_lit_59 (by decide) ?_
              refine lv_icmp_ge (tgt := 113) hx hb dM_lit_60 (by decide) (fun c_14 => ?_) (fun c_14 => absurd c_14 (by decide))
              refine lv_iload hx hb dM_lit_113 (lv_at hl 1 rfl) ?_
              exact W.iret hx hb hr (fun t ht hW => ⟨⟨_, (), rfl, rfl, (by have h9 : va_P D tbCl [(m0, .inr (2, [.int 0, .int mn, .ref a1, .ref a2, .ref a3, .ref a4, .int zz, .ref a5, .ref a6, .int si])), (a1, .inl (cI, 8, .inl f1)), (a2, .inl (cI, 8, .inl f2)), (a3, .inl (cI, 8, .inl f3)), (a4, .inl (cI, 8192, .inl f4)), (a5, .inl (cI, 1024, .inl f5)), (a6, .inl (cI, 1024, .inl f6))] H := hP; rw [← ht] at h9; exact h9)⟩, hS.F ht⟩) hS.2.2 dM_lit_115
end
