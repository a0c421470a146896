def wB_init : List Cond := .code yB_init cB_init 2 none :: tbB
theorem gwB_init : GoodIn tbB wB_init := tbB_good (List.forall_mem_cons.mpr ⟨wd_16, fun _ h => h⟩) (fun _ h => h)
theorem ydB_init : (yB_init).cls ≠ "java/lang/invoke/MethodHandle" ∧ (yB_init).cls ≠ "java/lang/invoke/VarHandle" ∧ (parseMethodDescriptor (yB_init).desc).map (fun d => d.parameters.length) = some 0 := by decide +kernel
def wT_init : List Cond := .code yT_init cT_init 1 none :: tbB
theorem gwT_init : GoodIn tbB wT_init := tbB_good (List.forall_mem_cons.mpr ⟨wd_25, fun _ h => h⟩) (fun _ h => h)
theorem ydT_init : (yT_init).cls ≠ "java/lang/invoke/MethodHandle" ∧ (yT_init).cls ≠ "java/lang/invoke/VarHandle" ∧ (parseMethodDescriptor (yT_init).desc).map (fun d => d.parameters.length) = some 0 := by decide +kernel
def wB_put : List Cond := .code yB_put cB_put 4 (some .int) :: tbB
theorem gwB_put : GoodIn tbB wB_put := tbB_good (List.forall_mem_cons.mpr ⟨wd_64, fun _ h => h⟩) (fun _ h => h)
theorem ydB_put : (yB_put).cls ≠ "java/lang/invoke/MethodHandle" ∧ (yB_put).cls ≠ "java/lang/invoke/VarHandle" ∧ (parseMethodDescriptor (yB_put).desc).map (fun d => d.parameters.length) = some 3 := by decide +kernel
def wB_isNumber : List Cond := .code yB_isNumber cB_isNumber 1 (some .boolean) :: tbB
theorem gwB_isNumber : GoodIn tbB wB_isNumber := tbB_good (List.forall_mem_cons.mpr ⟨wd_67, fun _ h => h⟩) (fun _ h => h)
theorem ydB_isNumber : (yB_isNumber).cls ≠ "java/lang/invoke/MethodHandle" ∧ (yB_isNumber).cls ≠ "java/lang/invoke/VarHandle" ∧ (parseMethodDescriptor (yB_isNumber).desc).map (fun d => d.parameters.length) = some 1 := by decide +kernel
def wB_colourOf : List Cond := .code yB_colourOf cB_colourOf 3 (some .int) :: tbB
theorem gwB_colourOf : GoodIn tbB wB_colourOf := tbB_good (List.forall_mem_cons.mpr ⟨wd_70, fun _ h => h⟩) (fun _ h => h)
theorem ydB_colourOf : (yB_colourOf).cls ≠ "java/lang/invoke/MethodHandle" ∧ (yB_colourOf).cls ≠ "java/lang/invoke/VarHandle" ∧ (parseMethodDescriptor (yB_colourOf).desc).map (fun d => d.parameters.length) = some 3 := by decide +kernel
def wB_add : List Cond := .code yB_add cB_add 6 (some .int) :: tbB
theorem gwB_add : GoodIn tbB wB_add := tbB_good (List.forall_mem_cons.mpr ⟨wd_74, fun _ h => h⟩) (fun _ h => h)
theorem ydB_add : (yB_add).cls ≠ "java/lang/invoke/MethodHandle" ∧ (yB_add).cls ≠ "java/lang/invoke/VarHandle" ∧ (parseMethodDescriptor (yB_add).desc).map (fun d => d.parameters.length) = some 3 := by decide +kernel
def wB_isSide : List Cond := .code yB_isSide cB_isSide 1 (some .boolean) :: tbB
theorem gwB_isSide : GoodIn tbB wB_isSide := tbB_good (List.forall_mem_cons.mpr ⟨wd_77, fun _ h => h⟩) (fun _ h => h)
theorem ydB_isSide : (yB_isSide).cls ≠ "java/lang/invoke/MethodHandle" ∧ (yB_isSide).cls ≠ "java/lang/invoke/VarHandle" ∧ (parseMethodDescriptor (yB_isSide).desc).map (fun d => d.parameters.length) = some 1 := by decide +kernel
def wJ_bitCount : List Cond := .code yJ_bitCount cJ_bitCount 1 (some .int) :: tbB
theorem gwJ_bitCount : GoodIn tbB wJ_bitCount := tbB_good (List.forall_mem_cons.mpr ⟨wd_80, fun _ h => h⟩) (fun _ h => h)
theorem ydJ_bitCount : (yJ_bitCount).cls ≠ "java/lang/invoke/MethodHandle" ∧ (yJ_bitCount).cls ≠ "java/lang/invoke/VarHandle" ∧ (parseMethodDescriptor (yJ_bitCount).desc).map (fun d => d.parameters.length) = some 1 := by decide +kernel
def wB_isWrap : List Cond := .code yB_isWrap cB_isWrap 1 (some .boolean) :: tbB
theorem gwB_isWrap : GoodIn tbB wB_isWrap := tbB_good (List.forall_mem_cons.mpr ⟨wd_86, fun _ h => h⟩) (fun _ h => h)
theorem ydB_isWrap : (yB_isWrap).cls ≠ "java/lang/invoke/MethodHandle" ∧ (yB_isWrap).cls ≠ "java/lang/invoke/VarHandle" ∧ (parseMethodDescriptor (yB_isWrap).desc).map (fun d => d.parameters.length) = some 1 := by decide +kernel
def wB_isSoft : List Cond := .code yB_isSoft cB_isSoft 1 (some .boolean) :: tbB
theorem gwB_isSoft : GoodIn tbB wB_isSoft := tbB_good (List.forall_mem_cons.mpr ⟨wd_89, fun _ h => h⟩) (fun _ h => h)
theorem ydB_isSoft : (yB_isSoft).cls ≠ "java/lang/invoke/MethodHandle" ∧ (yB_isSoft).cls ≠ "java/lang/invoke/VarHandle" ∧ (parseMethodDescriptor (yB_isSoft).desc).map (fun d => d.parameters.length) = some 1 := by decide +kernel
def wT_fill : List Cond := .code yT_fill cT_fill 6 none :: tbB
theorem gwT_fill : GoodIn tbB wT_fill := tbB_good (List.forall_mem_cons.mpr ⟨wd_93, fun _ h => h⟩) (fun _ h => h)
theorem ydT_fill : (yT_fill).cls ≠ "java/lang/invoke/MethodHandle" ∧ (yT_fill).cls ≠ "java/lang/invoke/VarHandle" ∧ (parseMethodDescriptor (yT_fill).desc).map (fun d => d.parameters.length) = some 4 := by decide +kernel
def wT_startOf : List Cond := .code yT_startOf cT_startOf 1 (some .int) :: tbB
theorem gwT_startOf : GoodIn tbB wT_startOf := tbB_good (List.forall_mem_cons.mpr ⟨wd_96, fun _ h => h⟩) (fun _ h => h)
theorem ydT_startOf : (yT_startOf).cls ≠ "java/lang/invoke/MethodHandle" ∧ (yT_startOf).cls ≠ "java/lang/invoke/VarHandle" ∧ (parseMethodDescriptor (yT_startOf).desc).map (fun d => d.parameters.length) = some 1 := by decide +kernel
def wT_fillFromDouble : List Cond := .code yT_fillFromDouble cT_fillFromDouble 5 none :: tbB
theorem gwT_fillFromDouble : GoodIn tbB wT_fillFromDouble := tbB_good (List.forall_mem_cons.mpr ⟨wd_103, fun _ h => h⟩) (fun _ h => h)
theorem ydT_fillFromDouble : (yT_fillFromDouble).cls ≠ "java/lang/invoke/MethodHandle" ∧ (yT_fillFromDouble).cls ≠ "java/lang/invoke/VarHandle" ∧ (parseMethodDescriptor (yT_fillFromDouble).desc).map (fun d => d.parameters.length) = some 1 := by decide +kernel
def wT_meanOfFour : List Cond := .code yT_meanOfFour cT_meanOfFour 8 (some .int) :: tbB
theorem gwT_meanOfFour : GoodIn tbB wT_meanOfFour := tbB_good (List.forall_mem_cons.mpr ⟨wd_107, fun _ h => h⟩) (fun _ h => h)
theorem ydT_meanOfFour : (yT_meanOfFour).cls ≠ "java/lang/invoke/MethodHandle" ∧ (yT_meanOfFour).cls ≠ "java/lang/invoke/VarHandle" ∧ (parseMethodDescriptor (yT_meanOfFour).desc).map (fun d => d.parameters.length) = some 3 := by decide +kernel
def wT_colourIn : List Cond := .code yT_colourIn cT_colourIn 4 (some .int) :: tbB
theorem gwT_colourIn : GoodIn tbB wT_colourIn := tbB_good (List.forall_mem_cons.mpr ⟨wd_111, fun _ h => h⟩) (fun _ h => h)
theorem ydT_colourIn : (yT_colourIn).cls ≠ "java/lang/invoke/MethodHandle" ∧ (yT_colourIn).cls ≠ "java/lang/invoke/VarHandle" ∧ (parseMethodDescriptor (yT_colourIn).desc).map (fun d => d.parameters.length) = some 3 := by decide +kernel
def wT_meanNumber : List Cond := .code yT_meanNumber cT_meanNumber 7 (some .int) :: tbB
theorem gwT_meanNumber : GoodIn tbB wT_meanNumber := tbB_good (List.forall_mem_cons.mpr ⟨wd_114, fun _ h => h⟩) (fun _ h => h)
theorem ydT_meanNumber : (yT_meanNumber).cls ≠ "java/lang/invoke/MethodHandle" ∧ (yT_meanNumber).cls ≠ "java/lang/invoke/VarHandle" ∧ (parseMethodDescriptor (yT_meanNumber).desc).map (fun d => d.parameters.length) = some 5 := by decide +kernel
def wB_numberOf : List Cond := .code yB_numberOf cB_numberOf 2 (some .long) :: tbB
theorem gwB_numberOf : GoodIn tbB wB_numberOf := tbB_good (List.forall_mem_cons.mpr ⟨wd_117, fun _ h => h⟩) (fun _ h => h)
theorem ydB_numberOf : (yB_numberOf).cls ≠ "java/lang/invoke/MethodHandle" ∧ (yB_numberOf).cls ≠ "java/lang/invoke/VarHandle" ∧ (parseMethodDescriptor (yB_numberOf).desc).map (fun d => d.parameters.length) = some 2 := by decide +kernel
def wJ_floorDiv : List Cond := .code yJ_floorDiv cJ_floorDiv 6 (some .long) :: tbB
theorem gwJ_floorDiv : GoodIn tbB wJ_floorDiv := tbB_good (List.forall_mem_cons.mpr ⟨wd_121, fun _ h => h⟩) (fun _ h => h)
theorem ydJ_floorDiv : (yJ_floorDiv).cls ≠ "java/lang/invoke/MethodHandle" ∧ (yJ_floorDiv).cls ≠ "java/lang/invoke/VarHandle" ∧ (parseMethodDescriptor (yJ_floorDiv).desc).map (fun d => d.parameters.length) = some 2 := by decide +kernel
def wB_clear : List Cond := .code yB_clear cB_clear 1 none :: tbB
theorem gwB_clear : GoodIn tbB wB_clear := tbB_good (List.forall_mem_cons.mpr ⟨wd_126, fun _ h => h⟩) (fun _ h => h)
theorem ydB_clear : (yB_clear).cls ≠ "java/lang/invoke/MethodHandle" ∧ (yB_clear).cls ≠ "java/lang/invoke/VarHandle" ∧ (parseMethodDescriptor (yB_clear).desc).map (fun d => d.parameters.length) = some 0 := by decide +kernel
def wB_about : List Cond := .code yB_about cB_about 4 (some .int) :: tbB
theorem gwB_about : GoodIn tbB wB_about := tbB_good (List.forall_mem_cons.mpr ⟨wd_130, fun _ h => h⟩) (fun _ h => h)
theorem ydB_about : (yB_about).cls ≠ "java/lang/invoke/MethodHandle" ∧ (yB_about).cls ≠ "java/lang/invoke/VarHandle" ∧ (parseMethodDescriptor (yB_about).desc).map (fun d => d.parameters.length) = some 2 := by decide +kernel
def wB_find : List Cond := .code yB_find cB_find 2 (some (.object "TextureBank$Texture")) :: tbB
theorem gwB_find : GoodIn tbB wB_find := tbB_good (List.forall_mem_cons.mpr ⟨wd_134, fun _ h => h⟩) (fun _ h => h)
theorem ydB_find : (yB_find).cls ≠ "java/lang/invoke/MethodHandle" ∧ (yB_find).cls ≠ "java/lang/invoke/VarHandle" ∧ (parseMethodDescriptor (yB_find).desc).map (fun d => d.parameters.length) = some 1 := by decide +kernel
def wB_count : List Cond := .code yB_count cB_count 2 (some .int) :: tbB
theorem gwB_count : GoodIn tbB wB_count := tbB_good (List.forall_mem_cons.mpr ⟨wd_138, fun _ h => h⟩) (fun _ h => h)
theorem ydB_count : (yB_count).cls ≠ "java/lang/invoke/MethodHandle" ∧ (yB_count).cls ≠ "java/lang/invoke/VarHandle" ∧ (parseMethodDescriptor (yB_count).desc).map (fun d => d.parameters.length) = some 1 := by decide +kernel
def wL_level : List Cond := .codeWith yL_level cL_level 7 (some .int) [(0, 13, 16, 13), (0, 13, 20, 15)] :: tbB
theorem gwL_level : GoodIn tbB wL_level := tbB_good (List.forall_mem_cons.mpr ⟨wd_141, fun _ h => h⟩) (fun _ h => h)
theorem ydL_level : (yL_level).cls ≠ "java/lang/invoke/MethodHandle" ∧ (yL_level).cls ≠ "java/lang/invoke/VarHandle" ∧ (parseMethodDescriptor (yL_level).desc).map (fun d => d.parameters.length) = some 5 := by decide +kernel
def wB_level : List Cond := .code yB_level cB_level 6 (some .int) :: tbB
theorem gwB_level : GoodIn tbB wB_level := tbB_good (List.forall_mem_cons.mpr ⟨wd_147, fun _ h => h⟩) (fun _ h => h)
theorem ydB_level : (yB_level).cls ≠ "java/lang/invoke/MethodHandle" ∧ (yB_level).cls ≠ "java/lang/invoke/VarHandle" ∧ (parseMethodDescriptor (yB_level).desc).map (fun d => d.parameters.length) = some 3 := by decide +kernel
def wT_levelFor : List Cond := .code yT_levelFor cT_levelFor 11 (some .int) :: tbB
theorem gwT_levelFor : GoodIn tbB wT_levelFor := tbB_good (List.forall_mem_cons.mpr ⟨wd_237, fun _ h => h⟩) (fun _ h => h)
theorem ydT_levelFor : (yT_levelFor).cls ≠ "java/lang/invoke/MethodHandle" ∧ (yT_levelFor).cls ≠ "java/lang/invoke/VarHandle" ∧ (parseMethodDescriptor (yT_levelFor).desc).map (fun d => d.parameters.length) = some 2 := by decide +kernel
def wL_lookUp : List Cond := .codeWith yL_lookUp cL_lookUp 7 (some .int) [(0, 14, 17, 13), (0, 14, 21, 15)] :: tbB
theorem gwL_lookUp : GoodIn tbB wL_lookUp := tbB_good (List.forall_mem_cons.mpr ⟨wd_241, fun _ h => h⟩) (fun _ h => h)
theorem ydL_lookUp : (yL_lookUp).cls ≠ "java/lang/invoke/MethodHandle" ∧ (yL_lookUp).cls ≠ "java/lang/invoke/VarHandle" ∧ (parseMethodDescriptor (yL_lookUp).desc).map (fun d => d.parameters.length) = some 6 := by decide +kernel
def wB_lookUp : List Cond := .code yB_lookUp cB_lookUp 6 (some .int) :: tbB
theorem gwB_lookUp : GoodIn tbB wB_lookUp := tbB_good (List.forall_mem_cons.mpr ⟨wd_245, fun _ h => h⟩) (fun _ h => h)
theorem ydB_lookUp : (yB_lookUp).cls ≠ "java/lang/invoke/MethodHandle" ∧ (yB_lookUp).cls ≠ "java/lang/invoke/VarHandle" ∧ (parseMethodDescriptor (yB_lookUp).desc).map (fun d => d.parameters.length) = some 4 := by decide +kernel
def wT_hasLevel : List Cond := .code yT_hasLevel cT_hasLevel 2 (some .boolean) :: tbB
theorem gwT_hasLevel : GoodIn tbB wT_hasLevel := tbB_good (List.forall_mem_cons.mpr ⟨wd_249, fun _ h => h⟩) (fun _ h => h)
theorem ydT_hasLevel : (yT_hasLevel).cls ≠ "java/lang/invoke/MethodHandle" ∧ (yT_hasLevel).cls ≠ "java/lang/invoke/VarHandle" ∧ (parseMethodDescriptor (yT_hasLevel).desc).map (fun d => d.parameters.length) = some 1 := by decide +kernel
def wB_isPlace : List Cond := .code yB_isPlace cB_isPlace 1 (some .boolean) :: tbB
theorem gwB_isPlace : GoodIn tbB wB_isPlace := tbB_good (List.forall_mem_cons.mpr ⟨wd_253, fun _ h => h⟩) (fun _ h => h)
theorem ydB_isPlace : (yB_isPlace).cls ≠ "java/lang/invoke/MethodHandle" ∧ (yB_isPlace).cls ≠ "java/lang/invoke/VarHandle" ∧ (parseMethodDescriptor (yB_isPlace).desc).map (fun d => d.parameters.length) = some 1 := by decide +kernel
def wT_sideOf : List Cond := .code yT_sideOf cT_sideOf 2 (some .int) :: tbB
theorem gwT_sideOf : GoodIn tbB wT_sideOf := tbB_good (List.forall_mem_cons.mpr ⟨wd_259, fun _ h => h⟩) (fun _ h => h)
theorem ydT_sideOf : (yT_sideOf).cls ≠ "java/lang/invoke/MethodHandle" ∧ (yT_sideOf).cls ≠ "java/lang/invoke/VarHandle" ∧ (parseMethodDescriptor (yT_sideOf).desc).map (fun d => d.parameters.length) = some 1 := by decide +kernel
def wT_colourAt : List Cond := .code yT_colourAt cT_colourAt 10 (some .int) :: tbB
theorem gwT_colourAt : GoodIn tbB wT_colourAt := tbB_good (List.forall_mem_cons.mpr ⟨wd_263, fun _ h => h⟩) (fun _ h => h)
theorem ydT_colourAt : (yT_colourAt).cls ≠ "java/lang/invoke/MethodHandle" ∧ (yT_colourAt).cls ≠ "java/lang/invoke/VarHandle" ∧ (parseMethodDescriptor (yT_colourAt).desc).map (fun d => d.parameters.length) = some 3 := by decide +kernel
def wT_softColour : List Cond := .code yT_softColour cT_softColour 25 (some .int) :: tbB
theorem gwT_softColour : GoodIn tbB wT_softColour := tbB_good (List.forall_mem_cons.mpr ⟨wd_268, fun _ h => h⟩) (fun _ h => h)
theorem ydT_softColour : (yT_softColour).cls ≠ "java/lang/invoke/MethodHandle" ∧ (yT_softColour).cls ≠ "java/lang/invoke/VarHandle" ∧ (parseMethodDescriptor (yT_softColour).desc).map (fun d => d.parameters.length) = some 3 := by decide +kernel
def wT_wrapped : List Cond := .code yT_wrapped cT_wrapped 5 (some .int) :: tbB
theorem gwT_wrapped : GoodIn tbB wT_wrapped := tbB_good (List.forall_mem_cons.mpr ⟨wd_274, fun _ h => h⟩) (fun _ h => h)
theorem ydT_wrapped : (yT_wrapped).cls ≠ "java/lang/invoke/MethodHandle" ∧ (yT_wrapped).cls ≠ "java/lang/invoke/VarHandle" ∧ (parseMethodDescriptor (yT_wrapped).desc).map (fun d => d.parameters.length) = some 2 := by decide +kernel
def wT_mixed : List Cond := .code yT_mixed cT_mixed 5 (some .long) :: tbB
theorem gwT_mixed : GoodIn tbB wT_mixed := tbB_good (List.forall_mem_cons.mpr ⟨wd_283, fun _ h => h⟩) (fun _ h => h)
theorem ydT_mixed : (yT_mixed).cls ≠ "java/lang/invoke/MethodHandle" ∧ (yT_mixed).cls ≠ "java/lang/invoke/VarHandle" ∧ (parseMethodDescriptor (yT_mixed).desc).map (fun d => d.parameters.length) = some 4 := by decide +kernel
def wT_softNumber : List Cond := .code yT_softNumber cT_softNumber 6 (some .int) :: tbB
theorem gwT_softNumber : GoodIn tbB wT_softNumber := tbB_good (List.forall_mem_cons.mpr ⟨wd_286, fun _ h => h⟩) (fun _ h => h)
theorem ydT_softNumber : (yT_softNumber).cls ≠ "java/lang/invoke/MethodHandle" ∧ (yT_softNumber).cls ≠ "java/lang/invoke/VarHandle" ∧ (parseMethodDescriptor (yT_softNumber).desc).map (fun d => d.parameters.length) = some 3 := by decide +kernel
def wL_texel : List Cond := .codeWith yL_texel cL_texel 7 (some .int) [(0, 14, 17, 13)] :: tbB
theorem gwL_texel : GoodIn tbB wL_texel := tbB_good (List.forall_mem_cons.mpr ⟨wd_289, fun _ h => h⟩) (fun _ h => h)
theorem ydL_texel : (yL_texel).cls ≠ "java/lang/invoke/MethodHandle" ∧ (yL_texel).cls ≠ "java/lang/invoke/VarHandle" ∧ (parseMethodDescriptor (yL_texel).desc).map (fun d => d.parameters.length) = some 6 := by decide +kernel
def wB_texel : List Cond := .code yB_texel cB_texel 7 (some .int) :: tbB
theorem gwB_texel : GoodIn tbB wB_texel := tbB_good (List.forall_mem_cons.mpr ⟨wd_293, fun _ h => h⟩) (fun _ h => h)
theorem ydB_texel : (yB_texel).cls ≠ "java/lang/invoke/MethodHandle" ∧ (yB_texel).cls ≠ "java/lang/invoke/VarHandle" ∧ (parseMethodDescriptor (yB_texel).desc).map (fun d => d.parameters.length) = some 4 := by decide +kernel
def wL_lit : List Cond := .codeWith yL_lit cL_lit 6 (some .int) [(0, 12, 15, 15)] :: tbB
theorem gwL_lit : GoodIn tbB wL_lit := tbB_good (List.forall_mem_cons.mpr ⟨wd_298, fun _ h => h⟩) (fun _ h => h)
theorem ydL_lit : (yL_lit).cls ≠ "java/lang/invoke/MethodHandle" ∧ (yL_lit).cls ≠ "java/lang/invoke/VarHandle" ∧ (parseMethodDescriptor (yL_lit).desc).map (fun d => d.parameters.length) = some 5 := by decide +kernel
def wB_lit : List Cond := .code yB_lit cB_lit 4 (some .int) :: tbB
theorem gwB_lit : GoodIn tbB wB_lit := tbB_good (List.forall_mem_cons.mpr ⟨wd_302, fun _ h => h⟩) (fun _ h => h)
theorem ydB_lit : (yB_lit).cls ≠ "java/lang/invoke/MethodHandle" ∧ (yB_lit).cls ≠ "java/lang/invoke/VarHandle" ∧ (parseMethodDescriptor (yB_lit).desc).map (fun d => d.parameters.length) = some 3 := by decide +kernel
def wB_isColour : List Cond := .code yB_isColour cB_isColour 1 (some .boolean) :: tbB
theorem gwB_isColour : GoodIn tbB wB_isColour := tbB_good (List.forall_mem_cons.mpr ⟨wd_305, fun _ h => h⟩) (fun _ h => h)
theorem ydB_isColour : (yB_isColour).cls ≠ "java/lang/invoke/MethodHandle" ∧ (yB_isColour).cls ≠ "java/lang/invoke/VarHandle" ∧ (parseMethodDescriptor (yB_isColour).desc).map (fun d => d.parameters.length) = some 1 := by decide +kernel
def wB_litNumber : List Cond := .code yB_litNumber cB_litNumber 6 (some .int) :: tbB
theorem gwB_litNumber : GoodIn tbB wB_litNumber := tbB_good (List.forall_mem_cons.mpr ⟨wd_312, fun _ h => h⟩) (fun _ h => h)
theorem ydB_litNumber : (yB_litNumber).cls ≠ "java/lang/invoke/MethodHandle" ∧ (yB_litNumber).cls ≠ "java/lang/invoke/VarHandle" ∧ (parseMethodDescriptor (yB_litNumber).desc).map (fun d => d.parameters.length) = some 4 := by decide +kernel
def wM_init : List Cond := .code yM_init cM_init 1 none :: tbB
theorem gwM_init : GoodIn tbB wM_init := tbB_good (List.forall_mem_cons.mpr ⟨wd_320, fun _ h => h⟩) (fun _ h => h)
theorem ydM_init : (yM_init).cls ≠ "java/lang/invoke/MethodHandle" ∧ (yM_init).cls ≠ "java/lang/invoke/VarHandle" ∧ (parseMethodDescriptor (yM_init).desc).map (fun d => d.parameters.length) = some 0 := by decide +kernel
def wM_thrown : List Cond := .code yM_thrown cM_thrown 1 (some .int) :: tbB
theorem gwM_thrown : GoodIn tbB wM_thrown := tbB_good (List.forall_mem_cons.mpr ⟨wd_356, fun _ h => h⟩) (fun _ h => h)
theorem ydM_thrown : (yM_thrown).cls ≠ "java/lang/invoke/MethodHandle" ∧ (yM_thrown).cls ≠ "java/lang/invoke/VarHandle" ∧ (parseMethodDescriptor (yM_thrown).desc).map (fun d => d.parameters.length) = some 0 := by decide +kernel
def wM_put : List Cond := .code yM_put cM_put 4 (some .int) :: tbB
theorem gwM_put : GoodIn tbB wM_put := tbB_good (List.forall_mem_cons.mpr ⟨wd_360, fun _ h => h⟩) (fun _ h => h)
theorem ydM_put : (yM_put).cls ≠ "java/lang/invoke/MethodHandle" ∧ (yM_put).cls ≠ "java/lang/invoke/VarHandle" ∧ (parseMethodDescriptor (yM_put).desc).map (fun d => d.parameters.length) = some 3 := by decide +kernel
def wM_isNumber : List Cond := .code yM_isNumber cM_isNumber 1 (some .boolean) :: tbB
theorem gwM_isNumber : GoodIn tbB wM_isNumber := tbB_good (List.forall_mem_cons.mpr ⟨wd_363, fun _ h => h⟩) (fun _ h => h)
theorem ydM_isNumber : (yM_isNumber).cls ≠ "java/lang/invoke/MethodHandle" ∧ (yM_isNumber).cls ≠ "java/lang/invoke/VarHandle" ∧ (parseMethodDescriptor (yM_isNumber).desc).map (fun d => d.parameters.length) = some 1 := by decide +kernel
def wM_add : List Cond := .code yM_add cM_add 7 (some .int) :: tbB
theorem gwM_add : GoodIn tbB wM_add := tbB_good (List.forall_mem_cons.mpr ⟨wd_368, fun _ h => h⟩) (fun _ h => h)
theorem ydM_add : (yM_add).cls ≠ "java/lang/invoke/MethodHandle" ∧ (yM_add).cls ≠ "java/lang/invoke/VarHandle" ∧ (parseMethodDescriptor (yM_add).desc).map (fun d => d.parameters.length) = some 3 := by decide +kernel
def wM_clear : List Cond := .code yM_clear cM_clear 1 none :: tbB
theorem gwM_clear : GoodIn tbB wM_clear := tbB_good (List.forall_mem_cons.mpr ⟨wd_372, fun _ h => h⟩) (fun _ h => h)
theorem ydM_clear : (yM_clear).cls ≠ "java/lang/invoke/MethodHandle" ∧ (yM_clear).cls ≠ "java/lang/invoke/VarHandle" ∧ (parseMethodDescriptor (yM_clear).desc).map (fun d => d.parameters.length) = some 0 := by decide +kernel
def wM_level : List Cond := .code yM_level cM_level 10 (some .int) :: tbB
theorem gwM_level : GoodIn tbB wM_level := tbB_good (List.forall_mem_cons.mpr ⟨wd_376, fun _ h => h⟩) (fun _ h => h)
theorem ydM_level : (yM_level).cls ≠ "java/lang/invoke/MethodHandle" ∧ (yM_level).cls ≠ "java/lang/invoke/VarHandle" ∧ (parseMethodDescriptor (yM_level).desc).map (fun d => d.parameters.length) = some 3 := by decide +kernel
def wM_isThere : List Cond := .code yM_isThere cM_isThere 2 (some .boolean) :: tbB
theorem gwM_isThere : GoodIn tbB wM_isThere := tbB_good (List.forall_mem_cons.mpr ⟨wd_380, fun _ h => h⟩) (fun _ h => h)
theorem ydM_isThere : (yM_isThere).cls ≠ "java/lang/invoke/MethodHandle" ∧ (yM_isThere).cls ≠ "java/lang/invoke/VarHandle" ∧ (parseMethodDescriptor (yM_isThere).desc).map (fun d => d.parameters.length) = some 1 := by decide +kernel
def wM_last : List Cond := .code yM_last cM_last 4 (some .int) :: tbB
theorem gwM_last : GoodIn tbB wM_last := tbB_good (List.forall_mem_cons.mpr ⟨wd_387, fun _ h => h⟩) (fun _ h => h)
theorem ydM_last : (yM_last).cls ≠ "java/lang/invoke/MethodHandle" ∧ (yM_last).cls ≠ "java/lang/invoke/VarHandle" ∧ (parseMethodDescriptor (yM_last).desc).map (fun d => d.parameters.length) = some 1 := by decide +kernel
def wM_lookUp : List Cond := .code yM_lookUp cM_lookUp 12 (some .int) :: tbB
theorem gwM_lookUp : GoodIn tbB wM_lookUp := tbB_good (List.forall_mem_cons.mpr ⟨wd_392, fun _ h => h⟩) (fun _ h => h)
theorem ydM_lookUp : (yM_lookUp).cls ≠ "java/lang/invoke/MethodHandle" ∧ (yM_lookUp).cls ≠ "java/lang/invoke/VarHandle" ∧ (parseMethodDescriptor (yM_lookUp).desc).map (fun d => d.parameters.length) = some 4 := by decide +kernel
def wM_isPlace : List Cond := .code yM_isPlace cM_isPlace 1 (some .boolean) :: tbB
theorem gwM_isPlace : GoodIn tbB wM_isPlace := tbB_good (List.forall_mem_cons.mpr ⟨wd_395, fun _ h => h⟩) (fun _ h => h)
theorem ydM_isPlace : (yM_isPlace).cls ≠ "java/lang/invoke/MethodHandle" ∧ (yM_isPlace).cls ≠ "java/lang/invoke/VarHandle" ∧ (parseMethodDescriptor (yM_isPlace).desc).map (fun d => d.parameters.length) = some 1 := by decide +kernel
def wM_makes : List Cond := .code yM_makes cM_makes 4 none :: tbB
theorem gwM_makes : GoodIn tbB wM_makes := tbB_good (List.forall_mem_cons.mpr ⟨wd_400, fun _ h => h⟩) (fun _ h => h)
theorem ydM_makes : (yM_makes).cls ≠ "java/lang/invoke/MethodHandle" ∧ (yM_makes).cls ≠ "java/lang/invoke/VarHandle" ∧ (parseMethodDescriptor (yM_makes).desc).map (fun d => d.parameters.length) = some 2 := by decide +kernel
def wM_halve : List Cond := .code yM_halve cM_halve 8 none :: tbB
theorem gwM_halve : GoodIn tbB wM_halve := tbB_good (List.forall_mem_cons.mpr ⟨wd_404, fun _ h => h⟩) (fun _ h => h)
theorem ydM_halve : (yM_halve).cls ≠ "java/lang/invoke/MethodHandle" ∧ (yM_halve).cls ≠ "java/lang/invoke/VarHandle" ∧ (parseMethodDescriptor (yM_halve).desc).map (fun d => d.parameters.length) = some 0 := by decide +kernel
def wM_part : List Cond := .code yM_part cM_part 2 (some .int) :: tbB
theorem gwM_part : GoodIn tbB wM_part := tbB_good (List.forall_mem_cons.mpr ⟨wd_407, fun _ h => h⟩) (fun _ h => h)
theorem ydM_part : (yM_part).cls ≠ "java/lang/invoke/MethodHandle" ∧ (yM_part).cls ≠ "java/lang/invoke/VarHandle" ∧ (parseMethodDescriptor (yM_part).desc).map (fun d => d.parameters.length) = some 2 := by decide +kernel
def wM_soft : List Cond := .code yM_soft cM_soft 21 (some .int) :: tbB
theorem gwM_soft : GoodIn tbB wM_soft := tbB_good (List.forall_mem_cons.mpr ⟨wd_412, fun _ h => h⟩) (fun _ h => h)
theorem ydM_soft : (yM_soft).cls ≠ "java/lang/invoke/MethodHandle" ∧ (yM_soft).cls ≠ "java/lang/invoke/VarHandle" ∧ (parseMethodDescriptor (yM_soft).desc).map (fun d => d.parameters.length) = some 3 := by decide +kernel
def wM_div : List Cond := .code yM_div cM_div 6 (some .long) :: tbB
theorem gwM_div : GoodIn tbB wM_div := tbB_good (List.forall_mem_cons.mpr ⟨wd_416, fun _ h => h⟩) (fun _ h => h)
theorem ydM_div : (yM_div).cls ≠ "java/lang/invoke/MethodHandle" ∧ (yM_div).cls ≠ "java/lang/invoke/VarHandle" ∧ (parseMethodDescriptor (yM_div).desc).map (fun d => d.parameters.length) = some 2 := by decide +kernel
def wM_into : List Cond := .code yM_into cM_into 8 (some .int) :: tbB
theorem gwM_into : GoodIn tbB wM_into := tbB_good (List.forall_mem_cons.mpr ⟨wd_421, fun _ h => h⟩) (fun _ h => h)
theorem ydM_into : (yM_into).cls ≠ "java/lang/invoke/MethodHandle" ∧ (yM_into).cls ≠ "java/lang/invoke/VarHandle" ∧ (parseMethodDescriptor (yM_into).desc).map (fun d => d.parameters.length) = some 2 := by decide +kernel
def wM_texel : List Cond := .code yM_texel cM_texel 5 (some .int) :: tbB
theorem gwM_texel : GoodIn tbB wM_texel := tbB_good (List.forall_mem_cons.mpr ⟨wd_426, fun _ h => h⟩) (fun _ h => h)
theorem ydM_texel : (yM_texel).cls ≠ "java/lang/invoke/MethodHandle" ∧ (yM_texel).cls ≠ "java/lang/invoke/VarHandle" ∧ (parseMethodDescriptor (yM_texel).desc).map (fun d => d.parameters.length) = some 4 := by decide +kernel
def wM_lit : List Cond := .code yM_lit cM_lit 9 (some .int) :: tbB
theorem gwM_lit : GoodIn tbB wM_lit := tbB_good (List.forall_mem_cons.mpr ⟨wd_430, fun _ h => h⟩) (fun _ h => h)
theorem ydM_lit : (yM_lit).cls ≠ "java/lang/invoke/MethodHandle" ∧ (yM_lit).cls ≠ "java/lang/invoke/VarHandle" ∧ (parseMethodDescriptor (yM_lit).desc).map (fun d => d.parameters.length) = some 3 := by decide +kernel
def wM_about : List Cond := .code yM_about cM_about 3 (some .int) :: tbB
theorem gwM_about : GoodIn tbB wM_about := tbB_good (List.forall_mem_cons.mpr ⟨wd_434, fun _ h => h⟩) (fun _ h => h)
theorem ydM_about : (yM_about).cls ≠ "java/lang/invoke/MethodHandle" ∧ (yM_about).cls ≠ "java/lang/invoke/VarHandle" ∧ (parseMethodDescriptor (yM_about).desc).map (fun d => d.parameters.length) = some 2 := by decide +kernel
def wM_count : List Cond := .code yM_count cM_count 2 (some .int) :: tbB
theorem gwM_count : GoodIn tbB wM_count := tbB_good (List.forall_mem_cons.mpr ⟨wd_438, fun _ h => h⟩) (fun _ h => h)
theorem ydM_count : (yM_count).cls ≠ "java/lang/invoke/MethodHandle" ∧ (yM_count).cls ≠ "java/lang/invoke/VarHandle" ∧ (parseMethodDescriptor (yM_count).desc).map (fun d => d.parameters.length) = some 1 := by decide +kernel
