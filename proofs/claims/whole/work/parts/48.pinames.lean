abbrev b_PI_init : ByteArray := prog_1_method_1_code
abbrev y_PI_init : MethodName := ⟨"PictureInlays", "<init>", "(III)V"⟩
abbrev w_PI_init : List Cond := .code ⟨"PictureInlays", "<init>", "(III)V"⟩ prog_1_method_1_code 4 none :: pw_T
theorem kw_71 : (.methodLink "PictureInlays" 1 ⟨"java/lang/Object", "<init>", "()V"⟩ : Cond) ∈ pw_T := pw_mem (i := 71) (by decide +kernel) (by decide +kernel)
theorem kw_74 : (.classLink "PictureInlays" 7 "PictureInlays$Grid" : Cond) ∈ pw_T := pw_mem (i := 74) (by decide +kernel) (by decide +kernel)
theorem kw_75 : (.instantiable "PictureInlays$Grid" 6 : Cond) ∈ pw_T := pw_mem (i := 75) (by decide +kernel) (by decide +kernel)
theorem kw_76 : (.methodLink "PictureInlays" 11 ⟨"PictureInlays", "nearest", "(II)I"⟩ : Cond) ∈ pw_T := pw_mem (i := 76) (by decide +kernel) (by decide +kernel)
theorem kw_77 : (.static ⟨"PictureInlays", "nearest", "(II)I"⟩ : Cond) ∈ pw_T := pw_mem (i := 77) (by decide +kernel) (by decide +kernel)
theorem kw_78 : (.code ⟨"PictureInlays", "nearest", "(II)I"⟩ prog_1_method_17_code 2 (some .int) : Cond) ∈ pw_T := pw_mem (i := 78) (by decide +kernel) (by decide +kernel)
theorem kw_85 : (.methodLink "PictureInlays" 15 ⟨"PictureInlays$Grid", "<init>", "(II)V"⟩ : Cond) ∈ pw_T := pw_mem (i := 85) (by decide +kernel) (by decide +kernel)
theorem kw_86 : (.instanceMethod ⟨"PictureInlays$Grid", "<init>", "(II)V"⟩ : Cond) ∈ pw_T := pw_mem (i := 86) (by decide +kernel) (by decide +kernel)
theorem kw_87 : (.code ⟨"PictureInlays$Grid", "<init>", "(II)V"⟩ prog_4_method_1_code 7 none : Cond) ∈ pw_T := pw_mem (i := 87) (by decide +kernel) (by decide +kernel)
theorem kw_111 : (.fieldLink "PictureInlays" 28 "PictureInlays$Grid" "places" "I" : Cond) ∈ pw_T := pw_mem (i := 111) (by decide +kernel) (by decide +kernel)
theorem kw_129 : (.classLink "PictureInlays" 26 "PictureInlays$Colours" : Cond) ∈ pw_T := pw_mem (i := 129) (by decide +kernel) (by decide +kernel)
theorem kw_130 : (.instantiable "PictureInlays$Colours" 3 : Cond) ∈ pw_T := pw_mem (i := 130) (by decide +kernel) (by decide +kernel)
theorem kw_131 : (.methodLink "PictureInlays" 31 ⟨"PictureInlays$Colours", "<init>", "(I)V"⟩ : Cond) ∈ pw_T := pw_mem (i := 131) (by decide +kernel) (by decide +kernel)
theorem kw_132 : (.instanceMethod ⟨"PictureInlays$Colours", "<init>", "(I)V"⟩ : Cond) ∈ pw_T := pw_mem (i := 132) (by decide +kernel) (by decide +kernel)
theorem kw_133 : (.code ⟨"PictureInlays$Colours", "<init>", "(I)V"⟩ prog_3_method_1_code 2 none : Cond) ∈ pw_T := pw_mem (i := 133) (by decide +kernel) (by decide +kernel)
theorem kw_145 : (.classLink "PictureInlays" 41 "PictureInlays$Pieces" : Cond) ∈ pw_T := pw_mem (i := 145) (by decide +kernel) (by decide +kernel)
theorem kw_146 : (.instantiable "PictureInlays$Pieces" 11 : Cond) ∈ pw_T := pw_mem (i := 146) (by decide +kernel) (by decide +kernel)
theorem kw_147 : (.methodLink "PictureInlays" 43 ⟨"PictureInlays$Pieces", "<init>", "(LPictureInlays$Grid;)V"⟩ : Cond) ∈ pw_T := pw_mem (i := 147) (by decide +kernel) (by decide +kernel)
theorem kw_148 : (.instanceMethod ⟨"PictureInlays$Pieces", "<init>", "(LPictureInlays$Grid;)V"⟩ : Cond) ∈ pw_T := pw_mem (i := 148) (by decide +kernel) (by decide +kernel)
theorem kw_149 : (.code ⟨"PictureInlays$Pieces", "<init>", "(LPictureInlays$Grid;)V"⟩ prog_7_method_1_code 2 none : Cond) ∈ pw_T := pw_mem (i := 149) (by decide +kernel) (by decide +kernel)
theorem kw_187 : (.classLink "PictureInlays" 50 "PictureInlays$Brightest" : Cond) ∈ pw_T := pw_mem (i := 187) (by decide +kernel) (by decide +kernel)
theorem kw_188 : (.instantiable "PictureInlays$Brightest" 2 : Cond) ∈ pw_T := pw_mem (i := 188) (by decide +kernel) (by decide +kernel)
theorem kw_189 : (.methodLink "PictureInlays" 52 ⟨"PictureInlays$Brightest", "<init>", "(LPictureInlays$Colours;I)V"⟩ : Cond) ∈ pw_T := pw_mem (i := 189) (by decide +kernel) (by decide +kernel)
theorem kw_190 : (.instanceMethod ⟨"PictureInlays$Brightest", "<init>", "(LPictureInlays$Colours;I)V"⟩ : Cond) ∈ pw_T := pw_mem (i := 190) (by decide +kernel) (by decide +kernel)
theorem kw_191 : (.code ⟨"PictureInlays$Brightest", "<init>", "(LPictureInlays$Colours;I)V"⟩ prog_2_method_1_code 3 none : Cond) ∈ pw_T := pw_mem (i := 191) (by decide +kernel) (by decide +kernel)
theorem kw_203 : (.classLink "PictureInlays" 59 "PictureInlays$Laying" : Cond) ∈ pw_T := pw_mem (i := 203) (by decide +kernel) (by decide +kernel)
theorem kw_204 : (.instantiable "PictureInlays$Laying" 2 : Cond) ∈ pw_T := pw_mem (i := 204) (by decide +kernel) (by decide +kernel)
theorem kw_205 : (.methodLink "PictureInlays" 61 ⟨"PictureInlays$Laying", "<init>", "(LPictureInlays$Pieces;I)V"⟩ : Cond) ∈ pw_T := pw_mem (i := 205) (by decide +kernel) (by decide +kernel)
theorem kw_206 : (.instanceMethod ⟨"PictureInlays$Laying", "<init>", "(LPictureInlays$Pieces;I)V"⟩ : Cond) ∈ pw_T := pw_mem (i := 206) (by decide +kernel) (by decide +kernel)
theorem kw_207 : (.code ⟨"PictureInlays$Laying", "<init>", "(LPictureInlays$Pieces;I)V"⟩ prog_6_method_1_code 3 none : Cond) ∈ pw_T := pw_mem (i := 207) (by decide +kernel) (by decide +kernel)
theorem kw_214 : (.classLink "PictureInlays" 67 "PictureInlays$Walk" : Cond) ∈ pw_T := pw_mem (i := 214) (by decide +kernel) (by decide +kernel)
theorem kw_215 : (.instantiable "PictureInlays$Walk" 8 : Cond) ∈ pw_T := pw_mem (i := 215) (by decide +kernel) (by decide +kernel)
theorem kw_216 : (.methodLink "PictureInlays" 69 ⟨"PictureInlays$Walk", "<init>", "(LPictureInlays$Grid;LPictureInlays$Pieces;)V"⟩ : Cond) ∈ pw_T := pw_mem (i := 216) (by decide +kernel) (by decide +kernel)
theorem kw_217 : (.instanceMethod ⟨"PictureInlays$Walk", "<init>", "(LPictureInlays$Grid;LPictureInlays$Pieces;)V"⟩ : Cond) ∈ pw_T := pw_mem (i := 217) (by decide +kernel) (by decide +kernel)
theorem kw_218 : (.code ⟨"PictureInlays$Walk", "<init>", "(LPictureInlays$Grid;LPictureInlays$Pieces;)V"⟩ prog_11_method_1_code 4 none : Cond) ∈ pw_T := pw_mem (i := 218) (by decide +kernel) (by decide +kernel)
theorem kw_246 : (.classLink "PictureInlays" 76 "PictureInlays$Tool" : Cond) ∈ pw_T := pw_mem (i := 246) (by decide +kernel) (by decide +kernel)
theorem kw_247 : (.instantiable "PictureInlays$Tool" 4 : Cond) ∈ pw_T := pw_mem (i := 247) (by decide +kernel) (by decide +kernel)
theorem kw_248 : (.methodLink "PictureInlays" 78 ⟨"PictureInlays$Tool", "<init>", "(LPictureInlays$Grid;LPictureInlays$Pieces;)V"⟩ : Cond) ∈ pw_T := pw_mem (i := 248) (by decide +kernel) (by decide +kernel)
theorem kw_249 : (.instanceMethod ⟨"PictureInlays$Tool", "<init>", "(LPictureInlays$Grid;LPictureInlays$Pieces;)V"⟩ : Cond) ∈ pw_T := pw_mem (i := 249) (by decide +kernel) (by decide +kernel)
theorem kw_250 : (.code ⟨"PictureInlays$Tool", "<init>", "(LPictureInlays$Grid;LPictureInlays$Pieces;)V"⟩ prog_10_method_1_code 3 none : Cond) ∈ pw_T := pw_mem (i := 250) (by decide +kernel) (by decide +kernel)
theorem kw_267 : (.classLink "PictureInlays" 83 "PictureInlays$Sheet" : Cond) ∈ pw_T := pw_mem (i := 267) (by decide +kernel) (by decide +kernel)
theorem kw_268 : (.instantiable "PictureInlays$Sheet" 9 : Cond) ∈ pw_T := pw_mem (i := 268) (by decide +kernel) (by decide +kernel)
theorem kw_269 : (.methodLink "PictureInlays" 85 ⟨"PictureInlays$Sheet", "<init>", "(LPictureInlays$Pieces;I)V"⟩ : Cond) ∈ pw_T := pw_mem (i := 269) (by decide +kernel) (by decide +kernel)
theorem kw_270 : (.instanceMethod ⟨"PictureInlays$Sheet", "<init>", "(LPictureInlays$Pieces;I)V"⟩ : Cond) ∈ pw_T := pw_mem (i := 270) (by decide +kernel) (by decide +kernel)
theorem kw_271 : (.code ⟨"PictureInlays$Sheet", "<init>", "(LPictureInlays$Pieces;I)V"⟩ prog_9_method_1_code 3 none : Cond) ∈ pw_T := pw_mem (i := 271) (by decide +kernel) (by decide +kernel)
theorem d_PI_init_0 : decode prog_1_method_1_code 0 = .ok (.aload_n 0, 1) := by decide +kernel
theorem d_PI_init_1 : decode prog_1_method_1_code 1 = .ok (.invokespecial 1, 3) := by decide +kernel
theorem d_PI_init_4 : decode prog_1_method_1_code 4 = .ok (.aload_n 0, 1) := by decide +kernel
theorem d_PI_init_5 : decode prog_1_method_1_code 5 = .ok (.new 7, 3) := by decide +kernel
theorem d_PI_init_8 : decode prog_1_method_1_code 8 = .ok (.dup, 1) := by decide +kernel
theorem d_PI_init_9 : decode prog_1_method_1_code 9 = .ok (.iload_n 1, 1) := by decide +kernel
theorem d_PI_init_10 : decode prog_1_method_1_code 10 = .ok (.bipush 20, 2) := by decide +kernel
theorem d_PI_init_12 : decode prog_1_method_1_code 12 = .ok (.invokestatic 11, 3) := by decide +kernel
theorem d_PI_init_15 : decode prog_1_method_1_code 15 = .ok (.iload_n 2, 1) := by decide +kernel
theorem d_PI_init_16 : decode prog_1_method_1_code 16 = .ok (.bipush 20, 2) := by decide +kernel
theorem d_PI_init_18 : decode prog_1_method_1_code 18 = .ok (.invokestatic 11, 3) := by decide +kernel
theorem d_PI_init_21 : decode prog_1_method_1_code 21 = .ok (.invokespecial 15, 3) := by decide +kernel
theorem d_PI_init_24 : decode prog_1_method_1_code 24 = .ok (.putfield 18, 3) := by decide +kernel
theorem d_PI_init_27 : decode prog_1_method_1_code 27 = .ok (.aload_n 0, 1) := by decide +kernel
theorem d_PI_init_28 : decode prog_1_method_1_code 28 = .ok (.iload_n 3, 1) := by decide +kernel
theorem d_PI_init_29 : decode prog_1_method_1_code 29 = .ok (.bipush 8, 2) := by decide +kernel
theorem d_PI_init_31 : decode prog_1_method_1_code 31 = .ok (.invokestatic 11, 3) := by decide +kernel
theorem d_PI_init_34 : decode prog_1_method_1_code 34 = .ok (.putfield 22, 3) := by decide +kernel
theorem d_PI_init_37 : decode prog_1_method_1_code 37 = .ok (.aload_n 0, 1) := by decide +kernel
theorem d_PI_init_38 : decode prog_1_method_1_code 38 = .ok (.new 26, 3) := by decide +kernel
theorem d_PI_init_41 : decode prog_1_method_1_code 41 = .ok (.dup, 1) := by decide +kernel
theorem d_PI_init_42 : decode prog_1_method_1_code 42 = .ok (.aload_n 0, 1) := by decide +kernel
theorem d_PI_init_43 : decode prog_1_method_1_code 43 = .ok (.getfield 18, 3) := by decide +kernel
theorem d_PI_init_46 : decode prog_1_method_1_code 46 = .ok (.getfield 28, 3) := by decide +kernel
theorem d_PI_init_49 : decode prog_1_method_1_code 49 = .ok (.invokespecial 31, 3) := by decide +kernel
theorem d_PI_init_52 : decode prog_1_method_1_code 52 = .ok (.putfield 34, 3) := by decide +kernel
theorem d_PI_init_55 : decode prog_1_method_1_code 55 = .ok (.aload_n 0, 1) := by decide +kernel
theorem d_PI_init_56 : decode prog_1_method_1_code 56 = .ok (.new 26, 3) := by decide +kernel
theorem d_PI_init_59 : decode prog_1_method_1_code 59 = .ok (.dup, 1) := by decide +kernel
theorem d_PI_init_60 : decode prog_1_method_1_code 60 = .ok (.aload_n 0, 1) := by decide +kernel
theorem d_PI_init_61 : decode prog_1_method_1_code 61 = .ok (.getfield 22, 3) := by decide +kernel
theorem d_PI_init_64 : decode prog_1_method_1_code 64 = .ok (.invokespecial 31, 3) := by decide +kernel
theorem d_PI_init_67 : decode prog_1_method_1_code 67 = .ok (.putfield 38, 3) := by decide +kernel
theorem d_PI_init_70 : decode prog_1_method_1_code 70 = .ok (.aload_n 0, 1) := by decide +kernel
theorem d_PI_init_71 : decode prog_1_method_1_code 71 = .ok (.new 41, 3) := by decide +kernel
theorem d_PI_init_74 : decode prog_1_method_1_code 74 = .ok (.dup, 1) := by decide +kernel
theorem d_PI_init_75 : decode prog_1_method_1_code 75 = .ok (.aload_n 0, 1) := by decide +kernel
theorem d_PI_init_76 : decode prog_1_method_1_code 76 = .ok (.getfield 18, 3) := by decide +kernel
theorem d_PI_init_79 : decode prog_1_method_1_code 79 = .ok (.invokespecial 43, 3) := by decide +kernel
theorem d_PI_init_82 : decode prog_1_method_1_code 82 = .ok (.putfield 46, 3) := by decide +kernel
theorem d_PI_init_85 : decode prog_1_method_1_code 85 = .ok (.aload_n 0, 1) := by decide +kernel
theorem d_PI_init_86 : decode prog_1_method_1_code 86 = .ok (.new 50, 3) := by decide +kernel
theorem d_PI_init_89 : decode prog_1_method_1_code 89 = .ok (.dup, 1) := by decide +kernel
theorem d_PI_init_90 : decode prog_1_method_1_code 90 = .ok (.aload_n 0, 1) := by decide +kernel
theorem d_PI_init_91 : decode prog_1_method_1_code 91 = .ok (.getfield 38, 3) := by decide +kernel
theorem d_PI_init_94 : decode prog_1_method_1_code 94 = .ok (.aload_n 0, 1) := by decide +kernel
theorem d_PI_init_95 : decode prog_1_method_1_code 95 = .ok (.getfield 22, 3) := by decide +kernel
theorem d_PI_init_98 : decode prog_1_method_1_code 98 = .ok (.invokespecial 52, 3) := by decide +kernel
theorem d_PI_init_101 : decode prog_1_method_1_code 101 = .ok (.putfield 55, 3) := by decide +kernel
theorem d_PI_init_104 : decode prog_1_method_1_code 104 = .ok (.aload_n 0, 1) := by decide +kernel
theorem d_PI_init_105 : decode prog_1_method_1_code 105 = .ok (.new 59, 3) := by decide +kernel
theorem d_PI_init_108 : decode prog_1_method_1_code 108 = .ok (.dup, 1) := by decide +kernel
theorem d_PI_init_109 : decode prog_1_method_1_code 109 = .ok (.aload_n 0, 1) := by decide +kernel
theorem d_PI_init_110 : decode prog_1_method_1_code 110 = .ok (.getfield 46, 3) := by decide +kernel
theorem d_PI_init_113 : decode prog_1_method_1_code 113 = .ok (.aload_n 0, 1) := by decide +kernel
theorem d_PI_init_114 : decode prog_1_method_1_code 114 = .ok (.getfield 18, 3) := by decide +kernel
theorem d_PI_init_117 : decode prog_1_method_1_code 117 = .ok (.getfield 28, 3) := by decide +kernel
theorem d_PI_init_120 : decode prog_1_method_1_code 120 = .ok (.invokespecial 61, 3) := by decide +kernel
theorem d_PI_init_123 : decode prog_1_method_1_code 123 = .ok (.putfield 64, 3) := by decide +kernel
theorem d_PI_init_126 : decode prog_1_method_1_code 126 = .ok (.aload_n 0, 1) := by decide +kernel
theorem d_PI_init_127 : decode prog_1_method_1_code 127 = .ok (.new 67, 3) := by decide +kernel
theorem d_PI_init_130 : decode prog_1_method_1_code 130 = .ok (.dup, 1) := by decide +kernel
theorem d_PI_init_131 : decode prog_1_method_1_code 131 = .ok (.aload_n 0, 1) := by decide +kernel
theorem d_PI_init_132 : decode prog_1_method_1_code 132 = .ok (.getfield 18, 3) := by decide +kernel
theorem d_PI_init_135 : decode prog_1_method_1_code 135 = .ok (.aload_n 0, 1) := by decide +kernel
theorem d_PI_init_136 : decode prog_1_method_1_code 136 = .ok (.getfield 46, 3) := by decide +kernel
theorem d_PI_init_139 : decode prog_1_method_1_code 139 = .ok (.invokespecial 69, 3) := by decide +kernel
theorem d_PI_init_142 : decode prog_1_method_1_code 142 = .ok (.putfield 72, 3) := by decide +kernel
theorem d_PI_init_145 : decode prog_1_method_1_code 145 = .ok (.aload_n 0, 1) := by decide +kernel
theorem d_PI_init_146 : decode prog_1_method_1_code 146 = .ok (.new 76, 3) := by decide +kernel
theorem d_PI_init_149 : decode prog_1_method_1_code 149 = .ok (.dup, 1) := by decide +kernel
theorem d_PI_init_150 : decode prog_1_method_1_code 150 = .ok (.aload_n 0, 1) := by decide +kernel
theorem d_PI_init_151 : decode prog_1_method_1_code 151 = .ok (.getfield 18, 3) := by decide +kernel
theorem d_PI_init_154 : decode prog_1_method_1_code 154 = .ok (.aload_n 0, 1) := by decide +kernel
theorem d_PI_init_155 : decode prog_1_method_1_code 155 = .ok (.getfield 46, 3) := by decide +kernel
theorem d_PI_init_158 : decode prog_1_method_1_code 158 = .ok (.invokespecial 78, 3) := by decide +kernel
theorem d_PI_init_161 : decode prog_1_method_1_code 161 = .ok (.putfield 79, 3) := by decide +kernel
theorem d_PI_init_164 : decode prog_1_method_1_code 164 = .ok (.aload_n 0, 1) := by decide +kernel
theorem d_PI_init_165 : decode prog_1_method_1_code 165 = .ok (.new 83, 3) := by decide +kernel
theorem d_PI_init_168 : decode prog_1_method_1_code 168 = .ok (.dup, 1) := by decide +kernel
theorem d_PI_init_169 : decode prog_1_method_1_code 169 = .ok (.aload_n 0, 1) := by decide +kernel
theorem d_PI_init_170 : decode prog_1_method_1_code 170 = .ok (.getfield 46, 3) := by decide +kernel
theorem d_PI_init_173 : decode prog_1_method_1_code 173 = .ok (.aload_n 0, 1) := by decide +kernel
theorem d_PI_init_174 : decode prog_1_method_1_code 174 = .ok (.getfield 18, 3) := by decide +kernel
theorem d_PI_init_177 : decode prog_1_method_1_code 177 = .ok (.getfield 28, 3) := by decide +kernel
theorem d_PI_init_180 : decode prog_1_method_1_code 180 = .ok (.invokespecial 85, 3) := by decide +kernel
theorem d_PI_init_183 : decode prog_1_method_1_code 183 = .ok (.putfield 86, 3) := by decide +kernel
theorem d_PI_init_186 : decode prog_1_method_1_code 186 = .ok (.aload_n 0, 1) := by decide +kernel
theorem d_PI_init_187 : decode prog_1_method_1_code 187 = .ok (.iconst 0, 1) := by decide +kernel
theorem d_PI_init_188 : decode prog_1_method_1_code 188 = .ok (.putfield 90, 3) := by decide +kernel
theorem d_PI_init_191 : decode prog_1_method_1_code 191 = .ok (.aload_n 0, 1) := by decide +kernel
theorem d_PI_init_192 : decode prog_1_method_1_code 192 = .ok (.iconst 0, 1) := by decide +kernel
theorem d_PI_init_193 : decode prog_1_method_1_code 193 = .ok (.putfield 94, 3) := by decide +kernel
theorem d_PI_init_196 : decode prog_1_method_1_code 196 = .ok (.return_, 1) := by decide +kernel
/-- what never changes of an object of Ww by Hh places and Kk kinds: lengths by cell, final ints, the three rows of the grid -/
def cG (Ww Hh Kk : Nat) (v : pS) : pG := (fun k => if k = 13 then Ww * Hh * 4 else if k = 17 then Kk else if k = 18 then Kk else if k = 19 then Kk else if k = 29 then Kk else if k = 32 then ((2 * (Ww + 1)) * (Hh + 1)) else if k = 33 then ((2 * (Ww + 1)) * (Hh + 1)) else Ww * Hh,
  fun k => if k = 0 then nI Kk else if k = 1 then nI Ww else if k = 2 then nI Hh else if k = 3 then nI (Ww * Hh) else nI (Ww * Hh) * 4, v.2)
theorem pc_blindX {av : List Value} {D : va_G} {ws : va_W} {tys : List (ClassId × FieldType)} {sz : Nat} {A : Nat → Prop} : FrameBlind (va_Pc av (fun U => pc_pre D ws tys sz U ∧ cw_Ex A U)) := by
  intro a U g mk q
  obtain ⟨q0, ⟨q1, qP, qK, qD⟩, qE⟩ := q
  exact ⟨q0, ⟨q1, qP, va_K.moved (u := U) (U := U.calling g mk a) (Vm.Alike.refl U.vm) qK, qD⟩, cw_Ex.same (u := U) (U := U.calling g mk a) rfl rfl qE⟩
