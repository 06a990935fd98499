abbrev b_PI_nearest : ByteArray := prog_1_method_17_code
abbrev y_PI_nearest : MethodName := ⟨"PictureInlays", "nearest", "(II)I"⟩
abbrev w_PI_nearest : List Cond := .code ⟨"PictureInlays", "nearest", "(II)I"⟩ prog_1_method_17_code 2 (some .int) :: pw_T
abbrev b_Brightest_init : ByteArray := prog_2_method_1_code
abbrev y_Brightest_init : MethodName := ⟨"PictureInlays$Brightest", "<init>", "(LPictureInlays$Colours;I)V"⟩
abbrev w_Brightest_init : List Cond := .code ⟨"PictureInlays$Brightest", "<init>", "(LPictureInlays$Colours;I)V"⟩ prog_2_method_1_code 3 none :: pw_T
abbrev b_Colours_init : ByteArray := prog_3_method_1_code
abbrev y_Colours_init : MethodName := ⟨"PictureInlays$Colours", "<init>", "(I)V"⟩
abbrev w_Colours_init : List Cond := .code ⟨"PictureInlays$Colours", "<init>", "(I)V"⟩ prog_3_method_1_code 2 none :: pw_T
abbrev b_Highest_init : ByteArray := prog_5_method_1_code
abbrev y_Highest_init : MethodName := ⟨"PictureInlays$Highest", "<init>", "(LPictureInlays$Pieces;I)V"⟩
abbrev w_Highest_init : List Cond := .code ⟨"PictureInlays$Highest", "<init>", "(LPictureInlays$Pieces;I)V"⟩ prog_5_method_1_code 3 none :: pw_T
abbrev b_Laying_init : ByteArray := prog_6_method_1_code
abbrev y_Laying_init : MethodName := ⟨"PictureInlays$Laying", "<init>", "(LPictureInlays$Pieces;I)V"⟩
abbrev w_Laying_init : List Cond := .code ⟨"PictureInlays$Laying", "<init>", "(LPictureInlays$Pieces;I)V"⟩ prog_6_method_1_code 3 none :: pw_T
abbrev b_Pieces_init : ByteArray := prog_7_method_1_code
abbrev y_Pieces_init : MethodName := ⟨"PictureInlays$Pieces", "<init>", "(LPictureInlays$Grid;)V"⟩
abbrev w_Pieces_init : List Cond := .code ⟨"PictureInlays$Pieces", "<init>", "(LPictureInlays$Grid;)V"⟩ prog_7_method_1_code 2 none :: pw_T
abbrev b_Ranking_init : ByteArray := prog_8_method_1_code
abbrev y_Ranking_init : MethodName := ⟨"PictureInlays$Ranking", "<init>", "(I)V"⟩
abbrev w_Ranking_init : List Cond := .code ⟨"PictureInlays$Ranking", "<init>", "(I)V"⟩ prog_8_method_1_code 2 none :: pw_T
abbrev b_Sheet_init : ByteArray := prog_9_method_1_code
abbrev y_Sheet_init : MethodName := ⟨"PictureInlays$Sheet", "<init>", "(LPictureInlays$Pieces;I)V"⟩
abbrev w_Sheet_init : List Cond := .code ⟨"PictureInlays$Sheet", "<init>", "(LPictureInlays$Pieces;I)V"⟩ prog_9_method_1_code 3 none :: pw_T
abbrev b_Tool_init : ByteArray := prog_10_method_1_code
abbrev y_Tool_init : MethodName := ⟨"PictureInlays$Tool", "<init>", "(LPictureInlays$Grid;LPictureInlays$Pieces;)V"⟩
abbrev w_Tool_init : List Cond := .code ⟨"PictureInlays$Tool", "<init>", "(LPictureInlays$Grid;LPictureInlays$Pieces;)V"⟩ prog_10_method_1_code 3 none :: pw_T
abbrev b_Walk_init : ByteArray := prog_11_method_1_code
abbrev y_Walk_init : MethodName := ⟨"PictureInlays$Walk", "<init>", "(LPictureInlays$Grid;LPictureInlays$Pieces;)V"⟩
abbrev w_Walk_init : List Cond := .code ⟨"PictureInlays$Walk", "<init>", "(LPictureInlays$Grid;LPictureInlays$Pieces;)V"⟩ prog_11_method_1_code 4 none :: pw_T
abbrev b_Model_init : ByteArray := prog_13_method_1_code
abbrev y_Model_init : MethodName := ⟨"PictureInlaysModel", "<init>", "(III)V"⟩
abbrev w_Model_init : List Cond := .code ⟨"PictureInlaysModel", "<init>", "(III)V"⟩ prog_13_method_1_code 4 none :: pw_T
abbrev b_Model_nearest : ByteArray := prog_13_method_2_code
abbrev y_Model_nearest : MethodName := ⟨"PictureInlaysModel", "nearest", "(II)I"⟩
abbrev w_Model_nearest : List Cond := .code ⟨"PictureInlaysModel", "nearest", "(II)I"⟩ prog_13_method_2_code 2 (some .int) :: pw_T
theorem kw_72 : (.instanceMethod ⟨"java/lang/Object", "<init>", "()V"⟩ : Cond) ∈ pw_T := pw_mem (i := 72) (by decide +kernel) (by decide +kernel)
theorem kw_73 : (.code ⟨"java/lang/Object", "<init>", "()V"⟩ object_method_1_code 1 none : Cond) ∈ pw_T := pw_mem (i := 73) (by decide +kernel) (by decide +kernel)
theorem kw_79 : (.methodLink "PictureInlays" 214 ⟨"java/lang/Math", "min", "(II)I"⟩ : Cond) ∈ pw_T := pw_mem (i := 79) (by decide +kernel) (by decide +kernel)
theorem kw_98 : (.fieldLink "PictureInlays$Walk" 24 "PictureInlays$Grid" "width" "I" : Cond) ∈ pw_T := pw_mem (i := 98) (by decide +kernel) (by decide +kernel)
theorem kw_103 : (.fieldLink "PictureInlays$Walk" 27 "PictureInlays$Grid" "height" "I" : Cond) ∈ pw_T := pw_mem (i := 103) (by decide +kernel) (by decide +kernel)
theorem kw_108 : (.fieldLink "PictureInlays$Walk" 15 "PictureInlays$Grid" "places" "I" : Cond) ∈ pw_T := pw_mem (i := 108) (by decide +kernel) (by decide +kernel)
theorem kw_128 : (.arrayClass .int : Cond) ∈ pw_T := pw_mem (i := 128) (by decide +kernel) (by decide +kernel)
theorem kw_134 : (.methodLink "PictureInlays$Colours" 1 ⟨"java/lang/Object", "<init>", "()V"⟩ : Cond) ∈ pw_T := pw_mem (i := 134) (by decide +kernel) (by decide +kernel)
theorem kw_150 : (.methodLink "PictureInlays$Pieces" 3 ⟨"java/lang/Object", "<init>", "()V"⟩ : Cond) ∈ pw_T := pw_mem (i := 150) (by decide +kernel) (by decide +kernel)
theorem kw_192 : (.methodLink "PictureInlays$Brightest" 1 ⟨"PictureInlays$Ranking", "<init>", "(I)V"⟩ : Cond) ∈ pw_T := pw_mem (i := 192) (by decide +kernel) (by decide +kernel)
theorem kw_193 : (.instanceMethod ⟨"PictureInlays$Ranking", "<init>", "(I)V"⟩ : Cond) ∈ pw_T := pw_mem (i := 193) (by decide +kernel) (by decide +kernel)
theorem kw_194 : (.code ⟨"PictureInlays$Ranking", "<init>", "(I)V"⟩ prog_8_method_1_code 2 none : Cond) ∈ pw_T := pw_mem (i := 194) (by decide +kernel) (by decide +kernel)
theorem kw_195 : (.methodLink "PictureInlays$Ranking" 1 ⟨"java/lang/Object", "<init>", "()V"⟩ : Cond) ∈ pw_T := pw_mem (i := 195) (by decide +kernel) (by decide +kernel)
theorem kw_208 : (.methodLink "PictureInlays$Laying" 1 ⟨"PictureInlays$Ranking", "<init>", "(I)V"⟩ : Cond) ∈ pw_T := pw_mem (i := 208) (by decide +kernel) (by decide +kernel)
theorem kw_219 : (.methodLink "PictureInlays$Walk" 3 ⟨"java/lang/Object", "<init>", "()V"⟩ : Cond) ∈ pw_T := pw_mem (i := 219) (by decide +kernel) (by decide +kernel)
theorem kw_251 : (.methodLink "PictureInlays$Tool" 3 ⟨"java/lang/Object", "<init>", "()V"⟩ : Cond) ∈ pw_T := pw_mem (i := 251) (by decide +kernel) (by decide +kernel)
theorem kw_266 : (.arrayClass .boolean : Cond) ∈ pw_T := pw_mem (i := 266) (by decide +kernel) (by decide +kernel)
theorem kw_272 : (.methodLink "PictureInlays$Sheet" 3 ⟨"java/lang/Object", "<init>", "()V"⟩ : Cond) ∈ pw_T := pw_mem (i := 272) (by decide +kernel) (by decide +kernel)
theorem kw_273 : (.classLink "PictureInlays$Sheet" 15 "PictureInlays$Highest" : Cond) ∈ pw_T := pw_mem (i := 273) (by decide +kernel) (by decide +kernel)
theorem kw_274 : (.instantiable "PictureInlays$Highest" 2 : Cond) ∈ pw_T := pw_mem (i := 274) (by decide +kernel) (by decide +kernel)
theorem kw_275 : (.methodLink "PictureInlays$Sheet" 17 ⟨"PictureInlays$Highest", "<init>", "(LPictureInlays$Pieces;I)V"⟩ : Cond) ∈ pw_T := pw_mem (i := 275) (by decide +kernel) (by decide +kernel)
theorem kw_276 : (.instanceMethod ⟨"PictureInlays$Highest", "<init>", "(LPictureInlays$Pieces;I)V"⟩ : Cond) ∈ pw_T := pw_mem (i := 276) (by decide +kernel) (by decide +kernel)
theorem kw_277 : (.code ⟨"PictureInlays$Highest", "<init>", "(LPictureInlays$Pieces;I)V"⟩ prog_5_method_1_code 3 none : Cond) ∈ pw_T := pw_mem (i := 277) (by decide +kernel) (by decide +kernel)
theorem kw_278 : (.methodLink "PictureInlays$Highest" 1 ⟨"PictureInlays$Ranking", "<init>", "(I)V"⟩ : Cond) ∈ pw_T := pw_mem (i := 278) (by decide +kernel) (by decide +kernel)
theorem kw_831 : (.methodLink "PictureInlaysModel" 1 ⟨"java/lang/Object", "<init>", "()V"⟩ : Cond) ∈ pw_T := pw_mem (i := 831) (by decide +kernel) (by decide +kernel)
theorem kw_832 : (.methodLink "PictureInlaysModel" 52 ⟨"PictureInlaysModel", "nearest", "(II)I"⟩ : Cond) ∈ pw_T := pw_mem (i := 832) (by decide +kernel) (by decide +kernel)
theorem kw_833 : (.static ⟨"PictureInlaysModel", "nearest", "(II)I"⟩ : Cond) ∈ pw_T := pw_mem (i := 833) (by decide +kernel) (by decide +kernel)
theorem kw_834 : (.code ⟨"PictureInlaysModel", "nearest", "(II)I"⟩ prog_13_method_2_code 2 (some .int) : Cond) ∈ pw_T := pw_mem (i := 834) (by decide +kernel) (by decide +kernel)
theorem d_PI_nearest_0 : decode prog_1_method_17_code 0 = .ok (.iconst 1, 1) := by decide +kernel
theorem d_PI_nearest_1 : decode prog_1_method_17_code 1 = .ok (.iload_n 0, 1) := by decide +kernel
theorem d_PI_nearest_2 : decode prog_1_method_17_code 2 = .ok (.iload_n 1, 1) := by decide +kernel
theorem d_PI_nearest_3 : decode prog_1_method_17_code 3 = .ok (.invokestatic 214, 3) := by decide +kernel
theorem d_PI_nearest_6 : decode prog_1_method_17_code 6 = .ok (.invokestatic 206, 3) := by decide +kernel
theorem d_PI_nearest_9 : decode prog_1_method_17_code 9 = .ok (.ireturn, 1) := by decide +kernel
theorem d_Brightest_init_0 : decode prog_2_method_1_code 0 = .ok (.aload_n 0, 1) := by decide +kernel
theorem d_Brightest_init_1 : decode prog_2_method_1_code 1 = .ok (.iload_n 2, 1) := by decide +kernel
theorem d_Brightest_init_2 : decode prog_2_method_1_code 2 = .ok (.invokespecial 1, 3) := by decide +kernel
theorem d_Brightest_init_5 : decode prog_2_method_1_code 5 = .ok (.aload_n 0, 1) := by decide +kernel
theorem d_Brightest_init_6 : decode prog_2_method_1_code 6 = .ok (.aload_n 1, 1) := by decide +kernel
theorem d_Brightest_init_7 : decode prog_2_method_1_code 7 = .ok (.putfield 7, 3) := by decide +kernel
theorem d_Brightest_init_10 : decode prog_2_method_1_code 10 = .ok (.return_, 1) := by decide +kernel
theorem d_Colours_init_0 : decode prog_3_method_1_code 0 = .ok (.aload_n 0, 1) := by decide +kernel
theorem d_Colours_init_1 : decode prog_3_method_1_code 1 = .ok (.invokespecial 1, 3) := by decide +kernel
theorem d_Colours_init_4 : decode prog_3_method_1_code 4 = .ok (.aload_n 0, 1) := by decide +kernel
theorem d_Colours_init_5 : decode prog_3_method_1_code 5 = .ok (.iload_n 1, 1) := by decide +kernel
theorem d_Colours_init_6 : decode prog_3_method_1_code 6 = .ok (.newarray .int, 2) := by decide +kernel
theorem d_Colours_init_8 : decode prog_3_method_1_code 8 = .ok (.putfield 7, 3) := by decide +kernel
theorem d_Colours_init_11 : decode prog_3_method_1_code 11 = .ok (.aload_n 0, 1) := by decide +kernel
theorem d_Colours_init_12 : decode prog_3_method_1_code 12 = .ok (.iload_n 1, 1) := by decide +kernel
theorem d_Colours_init_13 : decode prog_3_method_1_code 13 = .ok (.newarray .int, 2) := by decide +kernel
theorem d_Colours_init_15 : decode prog_3_method_1_code 15 = .ok (.putfield 13, 3) := by decide +kernel
theorem d_Colours_init_18 : decode prog_3_method_1_code 18 = .ok (.aload_n 0, 1) := by decide +kernel
theorem d_Colours_init_19 : decode prog_3_method_1_code 19 = .ok (.iload_n 1, 1) := by decide +kernel
theorem d_Colours_init_20 : decode prog_3_method_1_code 20 = .ok (.newarray .int, 2) := by decide +kernel
theorem d_Colours_init_22 : decode prog_3_method_1_code 22 = .ok (.putfield 16, 3) := by decide +kernel
theorem d_Colours_init_25 : decode prog_3_method_1_code 25 = .ok (.return_, 1) := by decide +kernel
theorem d_Highest_init_0 : decode prog_5_method_1_code 0 = .ok (.aload_n 0, 1) := by decide +kernel
theorem d_Highest_init_1 : decode prog_5_method_1_code 1 = .ok (.iload_n 2, 1) := by decide +kernel
theorem d_Highest_init_2 : decode prog_5_method_1_code 2 = .ok (.invokespecial 1, 3) := by decide +kernel
theorem d_Highest_init_5 : decode prog_5_method_1_code 5 = .ok (.aload_n 0, 1) := by decide +kernel
theorem d_Highest_init_6 : decode prog_5_method_1_code 6 = .ok (.aload_n 1, 1) := by decide +kernel
theorem d_Highest_init_7 : decode prog_5_method_1_code 7 = .ok (.putfield 7, 3) := by decide +kernel
theorem d_Highest_init_10 : decode prog_5_method_1_code 10 = .ok (.return_, 1) := by decide +kernel
theorem d_Laying_init_0 : decode prog_6_method_1_code 0 = .ok (.aload_n 0, 1) := by decide +kernel
theorem d_Laying_init_1 : decode prog_6_method_1_code 1 = .ok (.iload_n 2, 1) := by decide +kernel
theorem d_Laying_init_2 : decode prog_6_method_1_code 2 = .ok (.invokespecial 1, 3) := by decide +kernel
theorem d_Laying_init_5 : decode prog_6_method_1_code 5 = .ok (.aload_n 0, 1) := by decide +kernel
theorem d_Laying_init_6 : decode prog_6_method_1_code 6 = .ok (.aload_n 1, 1) := by decide +kernel
theorem d_Laying_init_7 : decode prog_6_method_1_code 7 = .ok (.putfield 7, 3) := by decide +kernel
theorem d_Laying_init_10 : decode prog_6_method_1_code 10 = .ok (.return_, 1) := by decide +kernel
theorem d_Pieces_init_0 : decode prog_7_method_1_code 0 = .ok (.aload_n 0, 1) := by decide +kernel
theorem d_Pieces_init_1 : decode prog_7_method_1_code 1 = .ok (.invokespecial 3, 3) := by decide +kernel
theorem d_Pieces_init_4 : decode prog_7_method_1_code 4 = .ok (.aload_n 0, 1) := by decide +kernel
theorem d_Pieces_init_5 : decode prog_7_method_1_code 5 = .ok (.aload_n 1, 1) := by decide +kernel
theorem d_Pieces_init_6 : decode prog_7_method_1_code 6 = .ok (.putfield 9, 3) := by decide +kernel
theorem d_Pieces_init_9 : decode prog_7_method_1_code 9 = .ok (.aload_n 0, 1) := by decide +kernel
theorem d_Pieces_init_10 : decode prog_7_method_1_code 10 = .ok (.aload_n 1, 1) := by decide +kernel
theorem d_Pieces_init_11 : decode prog_7_method_1_code 11 = .ok (.getfield 15, 3) := by decide +kernel
theorem d_Pieces_init_14 : decode prog_7_method_1_code 14 = .ok (.newarray .int, 2) := by decide +kernel
theorem d_Pieces_init_16 : decode prog_7_method_1_code 16 = .ok (.putfield 21, 3) := by decide +kernel
theorem d_Pieces_init_19 : decode prog_7_method_1_code 19 = .ok (.aload_n 0, 1) := by decide +kernel
theorem d_Pieces_init_20 : decode prog_7_method_1_code 20 = .ok (.aload_n 1, 1) := by decide +kernel
theorem d_Pieces_init_21 : decode prog_7_method_1_code 21 = .ok (.getfield 15, 3) := by decide +kernel
theorem d_Pieces_init_24 : decode prog_7_method_1_code 24 = .ok (.newarray .int, 2) := by decide +kernel
theorem d_Pieces_init_26 : decode prog_7_method_1_code 26 = .ok (.putfield 25, 3) := by decide +kernel
theorem d_Pieces_init_29 : decode prog_7_method_1_code 29 = .ok (.aload_n 0, 1) := by decide +kernel
theorem d_Pieces_init_30 : decode prog_7_method_1_code 30 = .ok (.aload_n 1, 1) := by decide +kernel
theorem d_Pieces_init_31 : decode prog_7_method_1_code 31 = .ok (.getfield 15, 3) := by decide +kernel
theorem d_Pieces_init_34 : decode prog_7_method_1_code 34 = .ok (.newarray .int, 2) := by decide +kernel
theorem d_Pieces_init_36 : decode prog_7_method_1_code 36 = .ok (.putfield 28, 3) := by decide +kernel
theorem d_Pieces_init_39 : decode prog_7_method_1_code 39 = .ok (.aload_n 0, 1) := by decide +kernel
theorem d_Pieces_init_40 : decode prog_7_method_1_code 40 = .ok (.aload_n 1, 1) := by decide +kernel
theorem d_Pieces_init_41 : decode prog_7_method_1_code 41 = .ok (.getfield 15, 3) := by decide +kernel
theorem d_Pieces_init_44 : decode prog_7_method_1_code 44 = .ok (.newarray .int, 2) := by decide +kernel
theorem d_Pieces_init_46 : decode prog_7_method_1_code 46 = .ok (.putfield 31, 3) := by decide +kernel
theorem d_Pieces_init_49 : decode prog_7_method_1_code 49 = .ok (.aload_n 0, 1) := by decide +kernel
theorem d_Pieces_init_50 : decode prog_7_method_1_code 50 = .ok (.aload_n 1, 1) := by decide +kernel
theorem d_Pieces_init_51 : decode prog_7_method_1_code 51 = .ok (.getfield 15, 3) := by decide +kernel
theorem d_Pieces_init_54 : decode prog_7_method_1_code 54 = .ok (.newarray .int, 2) := by decide +kernel
theorem d_Pieces_init_56 : decode prog_7_method_1_code 56 = .ok (.putfield 34, 3) := by decide +kernel
theorem d_Pieces_init_59 : decode prog_7_method_1_code 59 = .ok (.aload_n 0, 1) := by decide +kernel
theorem d_Pieces_init_60 : decode prog_7_method_1_code 60 = .ok (.aload_n 1, 1) := by decide +kernel
theorem d_Pieces_init_61 : decode prog_7_method_1_code 61 = .ok (.getfield 15, 3) := by decide +kernel
theorem d_Pieces_init_64 : decode prog_7_method_1_code 64 = .ok (.newarray .int, 2) := by decide +kernel
theorem d_Pieces_init_66 : decode prog_7_method_1_code 66 = .ok (.putfield 37, 3) := by decide +kernel
theorem d_Pieces_init_69 : decode prog_7_method_1_code 69 = .ok (.aload_n 0, 1) := by decide +kernel
theorem d_Pieces_init_70 : decode prog_7_method_1_code 70 = .ok (.aload_n 1, 1) := by decide +kernel
theorem d_Pieces_init_71 : decode prog_7_method_1_code 71 = .ok (.getfield 15, 3) := by decide +kernel
theorem d_Pieces_init_74 : decode prog_7_method_1_code 74 = .ok (.newarray .int, 2) := by decide +kernel
theorem d_Pieces_init_76 : decode prog_7_method_1_code 76 = .ok (.putfield 40, 3) := by decide +kernel
theorem d_Pieces_init_79 : decode prog_7_method_1_code 79 = .ok (.aload_n 0, 1) := by decide +kernel
theorem d_Pieces_init_80 : decode prog_7_method_1_code 80 = .ok (.aload_n 1, 1) := by decide +kernel
theorem d_Pieces_init_81 : decode prog_7_method_1_code 81 = .ok (.getfield 15, 3) := by decide +kernel
theorem d_Pieces_init_84 : decode prog_7_method_1_code 84 = .ok (.newarray .int, 2) := by decide +kernel
theorem d_Pieces_init_86 : decode prog_7_method_1_code 86 = .ok (.putfield 43, 3) := by decide +kernel
theorem d_Pieces_init_89 : decode prog_7_method_1_code 89 = .ok (.aload_n 0, 1) := by decide +kernel
theorem d_Pieces_init_90 : decode prog_7_method_1_code 90 = .ok (.aload_n 1, 1) := by decide +kernel
theorem d_Pieces_init_91 : decode prog_7_method_1_code 91 = .ok (.getfield 15, 3) := by decide +kernel
theorem d_Pieces_init_94 : decode prog_7_method_1_code 94 = .ok (.newarray .int, 2) := by decide +kernel
theorem d_Pieces_init_96 : decode prog_7_method_1_code 96 = .ok (.putfield 46, 3) := by decide +kernel
theorem d_Pieces_init_99 : decode prog_7_method_1_code 99 = .ok (.aload_n 0, 1) := by decide +kernel
theorem d_Pieces_init_100 : decode prog_7_method_1_code 100 = .ok (.iconst 0, 1) := by decide +kernel
theorem d_Pieces_init_101 : decode prog_7_method_1_code 101 = .ok (.putfield 49, 3) := by decide +kernel
theorem d_Pieces_init_104 : decode prog_7_method_1_code 104 = .ok (.return_, 1) := by decide +kernel
theorem d_Ranking_init_0 : decode prog_8_method_1_code 0 = .ok (.aload_n 0, 1) := by decide +kernel
theorem d_Ranking_init_1 : decode prog_8_method_1_code 1 = .ok (.invokespecial 1, 3) := by decide +kernel
theorem d_Ranking_init_4 : decode prog_8_method_1_code 4 = .ok (.aload_n 0, 1) := by decide +kernel
theorem d_Ranking_init_5 : decode prog_8_method_1_code 5 = .ok (.iload_n 1, 1) := by decide +kernel
theorem d_Ranking_init_6 : decode prog_8_method_1_code 6 = .ok (.newarray .int, 2) := by decide +kernel
theorem d_Ranking_init_8 : decode prog_8_method_1_code 8 = .ok (.putfield 7, 3) := by decide +kernel
theorem d_Ranking_init_11 : decode prog_8_method_1_code 11 = .ok (.return_, 1) := by decide +kernel
theorem d_Sheet_init_0 : decode prog_9_method_1_code 0 = .ok (.aload_n 0, 1) := by decide +kernel
theorem d_Sheet_init_1 : decode prog_9_method_1_code 1 = .ok (.invokespecial 3, 3) := by decide +kernel
theorem d_Sheet_init_4 : decode prog_9_method_1_code 4 = .ok (.aload_n 0, 1) := by decide +kernel
theorem d_Sheet_init_5 : decode prog_9_method_1_code 5 = .ok (.aload_n 1, 1) := by decide +kernel
theorem d_Sheet_init_6 : decode prog_9_method_1_code 6 = .ok (.putfield 9, 3) := by decide +kernel
theorem d_Sheet_init_9 : decode prog_9_method_1_code 9 = .ok (.aload_n 0, 1) := by decide +kernel
theorem d_Sheet_init_10 : decode prog_9_method_1_code 10 = .ok (.new 15, 3) := by decide +kernel
theorem d_Sheet_init_13 : decode prog_9_method_1_code 13 = .ok (.dup, 1) := by decide +kernel
theorem d_Sheet_init_14 : decode prog_9_method_1_code 14 = .ok (.aload_n 1, 1) := by decide +kernel
theorem d_Sheet_init_15 : decode prog_9_method_1_code 15 = .ok (.iload_n 2, 1) := by decide +kernel
theorem d_Sheet_init_16 : decode prog_9_method_1_code 16 = .ok (.invokespecial 17, 3) := by decide +kernel
theorem d_Sheet_init_19 : decode prog_9_method_1_code 19 = .ok (.putfield 20, 3) := by decide +kernel
theorem d_Sheet_init_22 : decode prog_9_method_1_code 22 = .ok (.aload_n 0, 1) := by decide +kernel
theorem d_Sheet_init_23 : decode prog_9_method_1_code 23 = .ok (.iload_n 2, 1) := by decide +kernel
theorem d_Sheet_init_24 : decode prog_9_method_1_code 24 = .ok (.newarray .int, 2) := by decide +kernel
theorem d_Sheet_init_26 : decode prog_9_method_1_code 26 = .ok (.putfield 24, 3) := by decide +kernel
theorem d_Sheet_init_29 : decode prog_9_method_1_code 29 = .ok (.aload_n 0, 1) := by decide +kernel
theorem d_Sheet_init_30 : decode prog_9_method_1_code 30 = .ok (.iload_n 2, 1) := by decide +kernel
theorem d_Sheet_init_31 : decode prog_9_method_1_code 31 = .ok (.newarray .int, 2) := by decide +kernel
theorem d_Sheet_init_33 : decode prog_9_method_1_code 33 = .ok (.putfield 28, 3) := by decide +kernel
theorem d_Sheet_init_36 : decode prog_9_method_1_code 36 = .ok (.aload_n 0, 1) := by decide +kernel
theorem d_Sheet_init_37 : decode prog_9_method_1_code 37 = .ok (.iload_n 2, 1) := by decide +kernel
theorem d_Sheet_init_38 : decode prog_9_method_1_code 38 = .ok (.newarray .int, 2) := by decide +kernel
theorem d_Sheet_init_40 : decode prog_9_method_1_code 40 = .ok (.putfield 31, 3) := by decide +kernel
theorem d_Sheet_init_43 : decode prog_9_method_1_code 43 = .ok (.aload_n 0, 1) := by decide +kernel
theorem d_Sheet_init_44 : decode prog_9_method_1_code 44 = .ok (.iload_n 2, 1) := by decide +kernel
theorem d_Sheet_init_45 : decode prog_9_method_1_code 45 = .ok (.newarray .int, 2) := by decide +kernel
theorem d_Sheet_init_47 : decode prog_9_method_1_code 47 = .ok (.putfield 34, 3) := by decide +kernel
theorem d_Sheet_init_50 : decode prog_9_method_1_code 50 = .ok (.aload_n 0, 1) := by decide +kernel
theorem d_Sheet_init_51 : decode prog_9_method_1_code 51 = .ok (.iload_n 2, 1) := by decide +kernel
theorem d_Sheet_init_52 : decode prog_9_method_1_code 52 = .ok (.newarray .int, 2) := by decide +kernel
theorem d_Sheet_init_54 : decode prog_9_method_1_code 54 = .ok (.putfield 37, 3) := by decide +kernel
theorem d_Sheet_init_57 : decode prog_9_method_1_code 57 = .ok (.aload_n 0, 1) := by decide +kernel
theorem d_Sheet_init_58 : decode prog_9_method_1_code 58 = .ok (.iconst 0, 1) := by decide +kernel
theorem d_Sheet_init_59 : decode prog_9_method_1_code 59 = .ok (.putfield 40, 3) := by decide +kernel
theorem d_Sheet_init_62 : decode prog_9_method_1_code 62 = .ok (.aload_n 0, 1) := by decide +kernel
theorem d_Sheet_init_63 : decode prog_9_method_1_code 63 = .ok (.iconst 0, 1) := by decide +kernel
theorem d_Sheet_init_64 : decode prog_9_method_1_code 64 = .ok (.putfield 44, 3) := by decide +kernel
theorem d_Sheet_init_67 : decode prog_9_method_1_code 67 = .ok (.return_, 1) := by decide +kernel
theorem d_Tool_init_0 : decode prog_10_method_1_code 0 = .ok (.aload_n 0, 1) := by decide +kernel
theorem d_Tool_init_1 : decode prog_10_method_1_code 1 = .ok (.invokespecial 3, 3) := by decide +kernel
theorem d_Tool_init_4 : decode prog_10_method_1_code 4 = .ok (.aload_n 0, 1) := by decide +kernel
theorem d_Tool_init_5 : decode prog_10_method_1_code 5 = .ok (.aload_n 1, 1) := by decide +kernel
theorem d_Tool_init_6 : decode prog_10_method_1_code 6 = .ok (.putfield 9, 3) := by decide +kernel
theorem d_Tool_init_9 : decode prog_10_method_1_code 9 = .ok (.aload_n 0, 1) := by decide +kernel
theorem d_Tool_init_10 : decode prog_10_method_1_code 10 = .ok (.aload_n 2, 1) := by decide +kernel
theorem d_Tool_init_11 : decode prog_10_method_1_code 11 = .ok (.putfield 15, 3) := by decide +kernel
theorem d_Tool_init_14 : decode prog_10_method_1_code 14 = .ok (.aload_n 0, 1) := by decide +kernel
theorem d_Tool_init_15 : decode prog_10_method_1_code 15 = .ok (.aload_n 1, 1) := by decide +kernel
theorem d_Tool_init_16 : decode prog_10_method_1_code 16 = .ok (.getfield 19, 3) := by decide +kernel
theorem d_Tool_init_19 : decode prog_10_method_1_code 19 = .ok (.newarray .boolean, 2) := by decide +kernel
theorem d_Tool_init_21 : decode prog_10_method_1_code 21 = .ok (.putfield 25, 3) := by decide +kernel
theorem d_Tool_init_24 : decode prog_10_method_1_code 24 = .ok (.aload_n 0, 1) := by decide +kernel
theorem d_Tool_init_25 : decode prog_10_method_1_code 25 = .ok (.iconst 0, 1) := by decide +kernel
theorem d_Tool_init_26 : decode prog_10_method_1_code 26 = .ok (.putfield 29, 3) := by decide +kernel
theorem d_Tool_init_29 : decode prog_10_method_1_code 29 = .ok (.return_, 1) := by decide +kernel
theorem d_Walk_init_0 : decode prog_11_method_1_code 0 = .ok (.aload_n 0, 1) := by decide +kernel
theorem d_Walk_init_1 : decode prog_11_method_1_code 1 = .ok (.invokespecial 3, 3) := by decide +kernel
theorem d_Walk_init_4 : decode prog_11_method_1_code 4 = .ok (.aload_n 0, 1) := by decide +kernel
theorem d_Walk_init_5 : decode prog_11_method_1_code 5 = .ok (.aload_n 2, 1) := by decide +kernel
theorem d_Walk_init_6 : decode prog_11_method_1_code 6 = .ok (.putfield 9, 3) := by decide +kernel
theorem d_Walk_init_9 : decode prog_11_method_1_code 9 = .ok (.aload_n 0, 1) := by decide +kernel
theorem d_Walk_init_10 : decode prog_11_method_1_code 10 = .ok (.aload_n 1, 1) := by decide +kernel
theorem d_Walk_init_11 : decode prog_11_method_1_code 11 = .ok (.getfield 15, 3) := by decide +kernel
theorem d_Walk_init_14 : decode prog_11_method_1_code 14 = .ok (.iconst 4, 1) := by decide +kernel
theorem d_Walk_init_15 : decode prog_11_method_1_code 15 = .ok (.imul, 1) := by decide +kernel
theorem d_Walk_init_16 : decode prog_11_method_1_code 16 = .ok (.putfield 21, 3) := by decide +kernel
theorem d_Walk_init_19 : decode prog_11_method_1_code 19 = .ok (.iconst 2, 1) := by decide +kernel
theorem d_Walk_init_20 : decode prog_11_method_1_code 20 = .ok (.aload_n 1, 1) := by decide +kernel
theorem d_Walk_init_21 : decode prog_11_method_1_code 21 = .ok (.getfield 24, 3) := by decide +kernel
theorem d_Walk_init_24 : decode prog_11_method_1_code 24 = .ok (.iconst 1, 1) := by decide +kernel
theorem d_Walk_init_25 : decode prog_11_method_1_code 25 = .ok (.iadd, 1) := by decide +kernel
theorem d_Walk_init_26 : decode prog_11_method_1_code 26 = .ok (.imul, 1) := by decide +kernel
theorem d_Walk_init_27 : decode prog_11_method_1_code 27 = .ok (.aload_n 1, 1) := by decide +kernel
theorem d_Walk_init_28 : decode prog_11_method_1_code 28 = .ok (.getfield 27, 3) := by decide +kernel
theorem d_Walk_init_31 : decode prog_11_method_1_code 31 = .ok (.iconst 1, 1) := by decide +kernel
theorem d_Walk_init_32 : decode prog_11_method_1_code 32 = .ok (.iadd, 1) := by decide +kernel
theorem d_Walk_init_33 : decode prog_11_method_1_code 33 = .ok (.imul, 1) := by decide +kernel
theorem d_Walk_init_34 : decode prog_11_method_1_code 34 = .ok (.istore_n 3, 1) := by decide +kernel
theorem d_Walk_init_35 : decode prog_11_method_1_code 35 = .ok (.aload_n 0, 1) := by decide +kernel
theorem d_Walk_init_36 : decode prog_11_method_1_code 36 = .ok (.iload_n 3, 1) := by decide +kernel
theorem d_Walk_init_37 : decode prog_11_method_1_code 37 = .ok (.newarray .int, 2) := by decide +kernel
theorem d_Walk_init_39 : decode prog_11_method_1_code 39 = .ok (.putfield 30, 3) := by decide +kernel
theorem d_Walk_init_42 : decode prog_11_method_1_code 42 = .ok (.aload_n 0, 1) := by decide +kernel
theorem d_Walk_init_43 : decode prog_11_method_1_code 43 = .ok (.iload_n 3, 1) := by decide +kernel
theorem d_Walk_init_44 : decode prog_11_method_1_code 44 = .ok (.newarray .int, 2) := by decide +kernel
theorem d_Walk_init_46 : decode prog_11_method_1_code 46 = .ok (.putfield 34, 3) := by decide +kernel
theorem d_Walk_init_49 : decode prog_11_method_1_code 49 = .ok (.aload_n 0, 1) := by decide +kernel
theorem d_Walk_init_50 : decode prog_11_method_1_code 50 = .ok (.iconst 0, 1) := by decide +kernel
theorem d_Walk_init_51 : decode prog_11_method_1_code 51 = .ok (.putfield 37, 3) := by decide +kernel
theorem d_Walk_init_54 : decode prog_11_method_1_code 54 = .ok (.aload_n 0, 1) := by decide +kernel
theorem d_Walk_init_55 : decode prog_11_method_1_code 55 = .ok (.iconst 0, 1) := by decide +kernel
theorem d_Walk_init_56 : decode prog_11_method_1_code 56 = .ok (.putfield 40, 3) := by decide +kernel
theorem d_Walk_init_59 : decode prog_11_method_1_code 59 = .ok (.aload_n 0, 1) := by decide +kernel
theorem d_Walk_init_60 : decode prog_11_method_1_code 60 = .ok (.iconst 0, 1) := by decide +kernel
theorem d_Walk_init_61 : decode prog_11_method_1_code 61 = .ok (.putfield 43, 3) := by decide +kernel
theorem d_Walk_init_64 : decode prog_11_method_1_code 64 = .ok (.aload_n 0, 1) := by decide +kernel
theorem d_Walk_init_65 : decode prog_11_method_1_code 65 = .ok (.iconst 0, 1) := by decide +kernel
theorem d_Walk_init_66 : decode prog_11_method_1_code 66 = .ok (.putfield 46, 3) := by decide +kernel
theorem d_Walk_init_69 : decode prog_11_method_1_code 69 = .ok (.return_, 1) := by decide +kernel
theorem d_Model_init_0 : decode prog_13_method_1_code 0 = .ok (.aload_n 0, 1) := by decide +kernel
theorem d_Model_init_1 : decode prog_13_method_1_code 1 = .ok (.invokespecial 1, 3) := by decide +kernel
theorem d_Model_init_4 : decode prog_13_method_1_code 4 = .ok (.aload_n 0, 1) := by decide +kernel
theorem d_Model_init_5 : decode prog_13_method_1_code 5 = .ok (.sipush 1200, 3) := by decide +kernel
theorem d_Model_init_8 : decode prog_13_method_1_code 8 = .ok (.newarray .int, 2) := by decide +kernel
theorem d_Model_init_10 : decode prog_13_method_1_code 10 = .ok (.putfield 7, 3) := by decide +kernel
theorem d_Model_init_13 : decode prog_13_method_1_code 13 = .ok (.aload_n 0, 1) := by decide +kernel
theorem d_Model_init_14 : decode prog_13_method_1_code 14 = .ok (.bipush 24, 2) := by decide +kernel
theorem d_Model_init_16 : decode prog_13_method_1_code 16 = .ok (.newarray .int, 2) := by decide +kernel
theorem d_Model_init_18 : decode prog_13_method_1_code 18 = .ok (.putfield 13, 3) := by decide +kernel
theorem d_Model_init_21 : decode prog_13_method_1_code 21 = .ok (.aload_n 0, 1) := by decide +kernel
theorem d_Model_init_22 : decode prog_13_method_1_code 22 = .ok (.sipush 400, 3) := by decide +kernel
theorem d_Model_init_25 : decode prog_13_method_1_code 25 = .ok (.newarray .int, 2) := by decide +kernel
theorem d_Model_init_27 : decode prog_13_method_1_code 27 = .ok (.putfield 16, 3) := by decide +kernel
theorem d_Model_init_30 : decode prog_13_method_1_code 30 = .ok (.aload_n 0, 1) := by decide +kernel
theorem d_Model_init_31 : decode prog_13_method_1_code 31 = .ok (.sipush 400, 3) := by decide +kernel
theorem d_Model_init_34 : decode prog_13_method_1_code 34 = .ok (.newarray .int, 2) := by decide +kernel
theorem d_Model_init_36 : decode prog_13_method_1_code 36 = .ok (.putfield 19, 3) := by decide +kernel
theorem d_Model_init_39 : decode prog_13_method_1_code 39 = .ok (.aload_n 0, 1) := by decide +kernel
theorem d_Model_init_40 : decode prog_13_method_1_code 40 = .ok (.sipush 400, 3) := by decide +kernel
theorem d_Model_init_43 : decode prog_13_method_1_code 43 = .ok (.newarray .int, 2) := by decide +kernel
theorem d_Model_init_45 : decode prog_13_method_1_code 45 = .ok (.putfield 22, 3) := by decide +kernel
theorem d_Model_init_48 : decode prog_13_method_1_code 48 = .ok (.aload_n 0, 1) := by decide +kernel
theorem d_Model_init_49 : decode prog_13_method_1_code 49 = .ok (.sipush 400, 3) := by decide +kernel
theorem d_Model_init_52 : decode prog_13_method_1_code 52 = .ok (.newarray .int, 2) := by decide +kernel
theorem d_Model_init_54 : decode prog_13_method_1_code 54 = .ok (.putfield 25, 3) := by decide +kernel
theorem d_Model_init_57 : decode prog_13_method_1_code 57 = .ok (.aload_n 0, 1) := by decide +kernel
theorem d_Model_init_58 : decode prog_13_method_1_code 58 = .ok (.sipush 400, 3) := by decide +kernel
theorem d_Model_init_61 : decode prog_13_method_1_code 61 = .ok (.newarray .int, 2) := by decide +kernel
theorem d_Model_init_63 : decode prog_13_method_1_code 63 = .ok (.putfield 28, 3) := by decide +kernel
theorem d_Model_init_66 : decode prog_13_method_1_code 66 = .ok (.aload_n 0, 1) := by decide +kernel
theorem d_Model_init_67 : decode prog_13_method_1_code 67 = .ok (.sipush 1700, 3) := by decide +kernel
theorem d_Model_init_70 : decode prog_13_method_1_code 70 = .ok (.newarray .int, 2) := by decide +kernel
theorem d_Model_init_72 : decode prog_13_method_1_code 72 = .ok (.putfield 31, 3) := by decide +kernel
theorem d_Model_init_75 : decode prog_13_method_1_code 75 = .ok (.aload_n 0, 1) := by decide +kernel
theorem d_Model_init_76 : decode prog_13_method_1_code 76 = .ok (.sipush 1700, 3) := by decide +kernel
theorem d_Model_init_79 : decode prog_13_method_1_code 79 = .ok (.newarray .int, 2) := by decide +kernel
theorem d_Model_init_81 : decode prog_13_method_1_code 81 = .ok (.putfield 34, 3) := by decide +kernel
theorem d_Model_init_84 : decode prog_13_method_1_code 84 = .ok (.aload_n 0, 1) := by decide +kernel
theorem d_Model_init_85 : decode prog_13_method_1_code 85 = .ok (.sipush 400, 3) := by decide +kernel
theorem d_Model_init_88 : decode prog_13_method_1_code 88 = .ok (.newarray .int, 2) := by decide +kernel
theorem d_Model_init_90 : decode prog_13_method_1_code 90 = .ok (.putfield 37, 3) := by decide +kernel
theorem d_Model_init_93 : decode prog_13_method_1_code 93 = .ok (.aload_n 0, 1) := by decide +kernel
theorem d_Model_init_94 : decode prog_13_method_1_code 94 = .ok (.sipush 400, 3) := by decide +kernel
theorem d_Model_init_97 : decode prog_13_method_1_code 97 = .ok (.newarray .int, 2) := by decide +kernel
theorem d_Model_init_99 : decode prog_13_method_1_code 99 = .ok (.putfield 40, 3) := by decide +kernel
theorem d_Model_init_102 : decode prog_13_method_1_code 102 = .ok (.aload_n 0, 1) := by decide +kernel
theorem d_Model_init_103 : decode prog_13_method_1_code 103 = .ok (.bipush 100, 2) := by decide +kernel
theorem d_Model_init_105 : decode prog_13_method_1_code 105 = .ok (.newarray .int, 2) := by decide +kernel
theorem d_Model_init_107 : decode prog_13_method_1_code 107 = .ok (.putfield 43, 3) := by decide +kernel
theorem d_Model_init_110 : decode prog_13_method_1_code 110 = .ok (.aload_n 0, 1) := by decide +kernel
theorem d_Model_init_111 : decode prog_13_method_1_code 111 = .ok (.bipush 100, 2) := by decide +kernel
theorem d_Model_init_113 : decode prog_13_method_1_code 113 = .ok (.newarray .int, 2) := by decide +kernel
theorem d_Model_init_115 : decode prog_13_method_1_code 115 = .ok (.putfield 46, 3) := by decide +kernel
theorem d_Model_init_118 : decode prog_13_method_1_code 118 = .ok (.aload_n 0, 1) := by decide +kernel
theorem d_Model_init_119 : decode prog_13_method_1_code 119 = .ok (.bipush 100, 2) := by decide +kernel
theorem d_Model_init_121 : decode prog_13_method_1_code 121 = .ok (.newarray .int, 2) := by decide +kernel
theorem d_Model_init_123 : decode prog_13_method_1_code 123 = .ok (.putfield 49, 3) := by decide +kernel
theorem d_Model_init_126 : decode prog_13_method_1_code 126 = .ok (.aload_n 0, 1) := by decide +kernel
theorem d_Model_init_127 : decode prog_13_method_1_code 127 = .ok (.iload_n 1, 1) := by decide +kernel
theorem d_Model_init_128 : decode prog_13_method_1_code 128 = .ok (.bipush 20, 2) := by decide +kernel
theorem d_Model_init_130 : decode prog_13_method_1_code 130 = .ok (.invokestatic 52, 3) := by decide +kernel
theorem d_Model_init_133 : decode prog_13_method_1_code 133 = .ok (.putfield 56, 3) := by decide +kernel
theorem d_Model_init_136 : decode prog_13_method_1_code 136 = .ok (.aload_n 0, 1) := by decide +kernel
theorem d_Model_init_137 : decode prog_13_method_1_code 137 = .ok (.iload_n 2, 1) := by decide +kernel
theorem d_Model_init_138 : decode prog_13_method_1_code 138 = .ok (.bipush 20, 2) := by decide +kernel
theorem d_Model_init_140 : decode prog_13_method_1_code 140 = .ok (.invokestatic 52, 3) := by decide +kernel
theorem d_Model_init_143 : decode prog_13_method_1_code 143 = .ok (.putfield 60, 3) := by decide +kernel
theorem d_Model_init_146 : decode prog_13_method_1_code 146 = .ok (.aload_n 0, 1) := by decide +kernel
theorem d_Model_init_147 : decode prog_13_method_1_code 147 = .ok (.iload_n 3, 1) := by decide +kernel
theorem d_Model_init_148 : decode prog_13_method_1_code 148 = .ok (.bipush 8, 2) := by decide +kernel
theorem d_Model_init_150 : decode prog_13_method_1_code 150 = .ok (.invokestatic 52, 3) := by decide +kernel
theorem d_Model_init_153 : decode prog_13_method_1_code 153 = .ok (.putfield 63, 3) := by decide +kernel
theorem d_Model_init_156 : decode prog_13_method_1_code 156 = .ok (.return_, 1) := by decide +kernel
theorem d_Model_nearest_0 : decode prog_13_method_2_code 0 = .ok (.iload_n 0, 1) := by decide +kernel
theorem d_Model_nearest_1 : decode prog_13_method_2_code 1 = .ok (.iconst 1, 1) := by decide +kernel
theorem d_Model_nearest_2 : decode prog_13_method_2_code 2 = .ok (.if_icmp .ge 7, 3) := by decide +kernel
theorem d_Model_nearest_5 : decode prog_13_method_2_code 5 = .ok (.iconst 1, 1) := by decide +kernel
theorem d_Model_nearest_6 : decode prog_13_method_2_code 6 = .ok (.goto 13, 3) := by decide +kernel
theorem d_Model_nearest_9 : decode prog_13_method_2_code 9 = .ok (.iload_n 0, 1) := by decide +kernel
theorem d_Model_nearest_10 : decode prog_13_method_2_code 10 = .ok (.iload_n 1, 1) := by decide +kernel
theorem d_Model_nearest_11 : decode prog_13_method_2_code 11 = .ok (.if_icmp .le 7, 3) := by decide +kernel
theorem d_Model_nearest_14 : decode prog_13_method_2_code 14 = .ok (.iload_n 1, 1) := by decide +kernel
theorem d_Model_nearest_15 : decode prog_13_method_2_code 15 = .ok (.goto 4, 3) := by decide +kernel
theorem d_Model_nearest_18 : decode prog_13_method_2_code 18 = .ok (.iload_n 0, 1) := by decide +kernel
theorem d_Model_nearest_19 : decode prog_13_method_2_code 19 = .ok (.ireturn, 1) := by decide +kernel
