abbrev b_Law_pixel : ByteArray := method_3_code
abbrev y_Law_pixel : MethodName := ⟨"PictureInlaysLaw", "pixel", "(LPictureInlays;IIIII[J)I"⟩
abbrev w_Law_pixel : List Cond := .codeWith ⟨"PictureInlaysLaw", "pixel", "(LPictureInlays;IIIII[J)I"⟩ method_3_code 8 (some .int) [(0, 23, 26, 13), (0, 23, 30, 15)] :: pw_T
abbrev b_Law_kind : ByteArray := method_4_code
abbrev y_Law_kind : MethodName := ⟨"PictureInlaysLaw", "kind", "(LPictureInlays;IIII[J)I"⟩
abbrev w_Law_kind : List Cond := .codeWith ⟨"PictureInlaysLaw", "kind", "(LPictureInlays;IIII[J)I"⟩ method_4_code 7 (some .int) [(0, 21, 24, 13), (0, 21, 28, 15)] :: pw_T
abbrev b_Law_part : ByteArray := method_5_code
abbrev y_Law_part : MethodName := ⟨"PictureInlaysLaw", "part", "(LPictureInlays;I[J)I"⟩
abbrev w_Law_part : List Cond := .codeWith ⟨"PictureInlaysLaw", "part", "(LPictureInlays;I[J)I"⟩ method_5_code 4 (some .int) [(0, 9, 12, 15)] :: pw_T
abbrev b_Law_pieceOf : ByteArray := method_6_code
abbrev y_Law_pieceOf : MethodName := ⟨"PictureInlaysLaw", "pieceOf", "(LPictureInlays;II[J)I"⟩
abbrev w_Law_pieceOf : List Cond := .codeWith ⟨"PictureInlaysLaw", "pieceOf", "(LPictureInlays;II[J)I"⟩ method_6_code 5 (some .int) [(0, 10, 13, 29), (0, 10, 17, 13)] :: pw_T
abbrev b_Law_piece : ByteArray := method_7_code
abbrev y_Law_piece : MethodName := ⟨"PictureInlaysLaw", "piece", "(LPictureInlays;II[J)I"⟩
abbrev w_Law_piece : List Cond := .codeWith ⟨"PictureInlaysLaw", "piece", "(LPictureInlays;II[J)I"⟩ method_7_code 5 (some .int) [(0, 10, 13, 29), (0, 10, 17, 13), (0, 10, 21, 15)] :: pw_T
abbrev b_Law_joined : ByteArray := method_8_code
abbrev y_Law_joined : MethodName := ⟨"PictureInlaysLaw", "joined", "(LPictureInlays;II[J)I"⟩
abbrev w_Law_joined : List Cond := .codeWith ⟨"PictureInlaysLaw", "joined", "(LPictureInlays;II[J)I"⟩ method_8_code 5 (some .int) [(0, 10, 13, 29), (0, 10, 17, 13)] :: pw_T
abbrev b_Law_outline : ByteArray := method_9_code
abbrev y_Law_outline : MethodName := ⟨"PictureInlaysLaw", "outline", "(LPictureInlays;I[J)I"⟩
abbrev w_Law_outline : List Cond := .codeWith ⟨"PictureInlaysLaw", "outline", "(LPictureInlays;I[J)I"⟩ method_9_code 4 (some .int) [(0, 9, 12, 29), (0, 9, 15, 13)] :: pw_T
abbrev b_Law_corner : ByteArray := method_10_code
abbrev y_Law_corner : MethodName := ⟨"PictureInlaysLaw", "corner", "(LPictureInlays;III[J)I"⟩
abbrev w_Law_corner : List Cond := .codeWith ⟨"PictureInlaysLaw", "corner", "(LPictureInlays;III[J)I"⟩ method_10_code 6 (some .int) [(0, 12, 15, 29), (0, 12, 19, 13)] :: pw_T
abbrev b_Law_left : ByteArray := method_11_code
abbrev y_Law_left : MethodName := ⟨"PictureInlaysLaw", "left", "(LPictureInlays;II[J)I"⟩
abbrev w_Law_left : List Cond := .codeWith ⟨"PictureInlaysLaw", "left", "(LPictureInlays;II[J)I"⟩ method_11_code 5 (some .int) [(0, 10, 13, 29), (0, 10, 17, 13), (0, 10, 21, 15)] :: pw_T
abbrev b_Law_reached : ByteArray := method_12_code
abbrev y_Law_reached : MethodName := ⟨"PictureInlaysLaw", "reached", "(LPictureInlays;III[J)I"⟩
abbrev w_Law_reached : List Cond := .codeWith ⟨"PictureInlaysLaw", "reached", "(LPictureInlays;III[J)I"⟩ method_12_code 6 (some .int) [(0, 19, 22, 29), (0, 19, 26, 13), (0, 19, 30, 15)] :: pw_T
abbrev b_Law_order : ByteArray := method_13_code
abbrev y_Law_order : MethodName := ⟨"PictureInlaysLaw", "order", "(LPictureInlays;I[J)I"⟩
abbrev w_Law_order : List Cond := .codeWith ⟨"PictureInlaysLaw", "order", "(LPictureInlays;I[J)I"⟩ method_13_code 4 (some .int) [(0, 9, 12, 29), (0, 9, 15, 13)] :: pw_T
abbrev b_Law_nest : ByteArray := method_14_code
abbrev y_Law_nest : MethodName := ⟨"PictureInlaysLaw", "nest", "(LPictureInlays;II[J)I"⟩
abbrev w_Law_nest : List Cond := .codeWith ⟨"PictureInlaysLaw", "nest", "(LPictureInlays;II[J)I"⟩ method_14_code 5 (some .int) [(0, 10, 13, 29), (0, 10, 17, 15)] :: pw_T
abbrev b_Law_at : ByteArray := method_15_code
abbrev y_Law_at : MethodName := ⟨"PictureInlaysLaw", "at", "(LPictureInlays;II[J)I"⟩
abbrev w_Law_at : List Cond := .codeWith ⟨"PictureInlaysLaw", "at", "(LPictureInlays;II[J)I"⟩ method_15_code 5 (some .int) [(0, 10, 13, 29), (0, 10, 17, 13)] :: pw_T
abbrev b_Law_border : ByteArray := method_16_code
abbrev y_Law_border : MethodName := ⟨"PictureInlaysLaw", "border", "(LPictureInlays;III[J)I"⟩
abbrev w_Law_border : List Cond := .codeWith ⟨"PictureInlaysLaw", "border", "(LPictureInlays;III[J)I"⟩ method_16_code 6 (some .int) [(0, 12, 15, 13), (0, 12, 19, 15)] :: pw_T
abbrev b_Law_sorted : ByteArray := method_17_code
abbrev y_Law_sorted : MethodName := ⟨"PictureInlaysLaw", "sorted", "(LPictureInlays;I[J)I"⟩
abbrev w_Law_sorted : List Cond := .codeWith ⟨"PictureInlaysLaw", "sorted", "(LPictureInlays;I[J)I"⟩ method_17_code 4 (some .int) [(0, 9, 12, 13)] :: pw_T
theorem kw_355 : (.classLink "PictureInlaysLaw" 13 "java/lang/IndexOutOfBoundsException" : Cond) ∈ pw_T := pw_mem (i := 355) (by decide +kernel) (by decide +kernel)
theorem kw_356 : (.classLink "PictureInlaysLaw" 15 "java/lang/IllegalArgumentException" : Cond) ∈ pw_T := pw_mem (i := 356) (by decide +kernel) (by decide +kernel)
theorem kw_357 : (.methodLink "PictureInlaysLaw" 7 ⟨"PictureInlays", "pixel", "(IIIII)Z"⟩ : Cond) ∈ pw_T := pw_mem (i := 357) (by decide +kernel) (by decide +kernel)
theorem kw_358 : (.instanceMethod ⟨"PictureInlays", "pixel", "(IIIII)Z"⟩ : Cond) ∈ pw_T := pw_mem (i := 358) (by decide +kernel) (by decide +kernel)
theorem kw_359 : (.selects "PictureInlays" ⟨"PictureInlays", "pixel", "(IIIII)Z"⟩ ⟨"PictureInlays", "pixel", "(IIIII)Z"⟩ : Cond) ∈ pw_T := pw_mem (i := 359) (by decide +kernel) (by decide +kernel)
theorem kw_360 : (.code ⟨"PictureInlays", "pixel", "(IIIII)Z"⟩ prog_1_method_2_code 6 (some .boolean) : Cond) ∈ pw_T := pw_mem (i := 360) (by decide +kernel) (by decide +kernel)
theorem kw_470 : (.methodLink "PictureInlaysLaw" 17 ⟨"PictureInlays", "kind", "(IIII)Z"⟩ : Cond) ∈ pw_T := pw_mem (i := 470) (by decide +kernel) (by decide +kernel)
theorem kw_471 : (.instanceMethod ⟨"PictureInlays", "kind", "(IIII)Z"⟩ : Cond) ∈ pw_T := pw_mem (i := 471) (by decide +kernel) (by decide +kernel)
theorem kw_472 : (.selects "PictureInlays" ⟨"PictureInlays", "kind", "(IIII)Z"⟩ ⟨"PictureInlays", "kind", "(IIII)Z"⟩ : Cond) ∈ pw_T := pw_mem (i := 472) (by decide +kernel) (by decide +kernel)
theorem kw_473 : (.code ⟨"PictureInlays", "kind", "(IIII)Z"⟩ prog_1_method_3_code 5 (some .boolean) : Cond) ∈ pw_T := pw_mem (i := 473) (by decide +kernel) (by decide +kernel)
theorem kw_477 : (.methodLink "PictureInlaysLaw" 21 ⟨"PictureInlays", "part", "(I)I"⟩ : Cond) ∈ pw_T := pw_mem (i := 477) (by decide +kernel) (by decide +kernel)
theorem kw_478 : (.instanceMethod ⟨"PictureInlays", "part", "(I)I"⟩ : Cond) ∈ pw_T := pw_mem (i := 478) (by decide +kernel) (by decide +kernel)
theorem kw_479 : (.selects "PictureInlays" ⟨"PictureInlays", "part", "(I)I"⟩ ⟨"PictureInlays", "part", "(I)I"⟩ : Cond) ∈ pw_T := pw_mem (i := 479) (by decide +kernel) (by decide +kernel)
theorem kw_480 : (.code ⟨"PictureInlays", "part", "(I)I"⟩ prog_1_method_4_code 2 (some .int) : Cond) ∈ pw_T := pw_mem (i := 480) (by decide +kernel) (by decide +kernel)
theorem kw_603 : (.classLink "PictureInlaysLaw" 29 "java/lang/IllegalStateException" : Cond) ∈ pw_T := pw_mem (i := 603) (by decide +kernel) (by decide +kernel)
theorem kw_604 : (.methodLink "PictureInlaysLaw" 25 ⟨"PictureInlays", "pieceOf", "(II)I"⟩ : Cond) ∈ pw_T := pw_mem (i := 604) (by decide +kernel) (by decide +kernel)
theorem kw_605 : (.instanceMethod ⟨"PictureInlays", "pieceOf", "(II)I"⟩ : Cond) ∈ pw_T := pw_mem (i := 605) (by decide +kernel) (by decide +kernel)
theorem kw_606 : (.selects "PictureInlays" ⟨"PictureInlays", "pieceOf", "(II)I"⟩ ⟨"PictureInlays", "pieceOf", "(II)I"⟩ : Cond) ∈ pw_T := pw_mem (i := 606) (by decide +kernel) (by decide +kernel)
theorem kw_607 : (.code ⟨"PictureInlays", "pieceOf", "(II)I"⟩ prog_1_method_5_code 3 (some .int) : Cond) ∈ pw_T := pw_mem (i := 607) (by decide +kernel) (by decide +kernel)
theorem kw_636 : (.methodLink "PictureInlaysLaw" 31 ⟨"PictureInlays", "piece", "(II)I"⟩ : Cond) ∈ pw_T := pw_mem (i := 636) (by decide +kernel) (by decide +kernel)
theorem kw_637 : (.instanceMethod ⟨"PictureInlays", "piece", "(II)I"⟩ : Cond) ∈ pw_T := pw_mem (i := 637) (by decide +kernel) (by decide +kernel)
theorem kw_638 : (.selects "PictureInlays" ⟨"PictureInlays", "piece", "(II)I"⟩ ⟨"PictureInlays", "piece", "(II)I"⟩ : Cond) ∈ pw_T := pw_mem (i := 638) (by decide +kernel) (by decide +kernel)
theorem kw_639 : (.code ⟨"PictureInlays", "piece", "(II)I"⟩ prog_1_method_6_code 3 (some .int) : Cond) ∈ pw_T := pw_mem (i := 639) (by decide +kernel) (by decide +kernel)
theorem kw_657 : (.methodLink "PictureInlaysLaw" 34 ⟨"PictureInlays", "joined", "(II)I"⟩ : Cond) ∈ pw_T := pw_mem (i := 657) (by decide +kernel) (by decide +kernel)
theorem kw_658 : (.instanceMethod ⟨"PictureInlays", "joined", "(II)I"⟩ : Cond) ∈ pw_T := pw_mem (i := 658) (by decide +kernel) (by decide +kernel)
theorem kw_659 : (.selects "PictureInlays" ⟨"PictureInlays", "joined", "(II)I"⟩ ⟨"PictureInlays", "joined", "(II)I"⟩ : Cond) ∈ pw_T := pw_mem (i := 659) (by decide +kernel) (by decide +kernel)
theorem kw_660 : (.code ⟨"PictureInlays", "joined", "(II)I"⟩ prog_1_method_7_code 3 (some .int) : Cond) ∈ pw_T := pw_mem (i := 660) (by decide +kernel) (by decide +kernel)
theorem kw_668 : (.methodLink "PictureInlaysLaw" 37 ⟨"PictureInlays", "outline", "(I)I"⟩ : Cond) ∈ pw_T := pw_mem (i := 668) (by decide +kernel) (by decide +kernel)
theorem kw_669 : (.instanceMethod ⟨"PictureInlays", "outline", "(I)I"⟩ : Cond) ∈ pw_T := pw_mem (i := 669) (by decide +kernel) (by decide +kernel)
theorem kw_670 : (.selects "PictureInlays" ⟨"PictureInlays", "outline", "(I)I"⟩ ⟨"PictureInlays", "outline", "(I)I"⟩ : Cond) ∈ pw_T := pw_mem (i := 670) (by decide +kernel) (by decide +kernel)
theorem kw_671 : (.code ⟨"PictureInlays", "outline", "(I)I"⟩ prog_1_method_8_code 2 (some .int) : Cond) ∈ pw_T := pw_mem (i := 671) (by decide +kernel) (by decide +kernel)
theorem kw_703 : (.methodLink "PictureInlaysLaw" 40 ⟨"PictureInlays", "corner", "(III)I"⟩ : Cond) ∈ pw_T := pw_mem (i := 703) (by decide +kernel) (by decide +kernel)
theorem kw_704 : (.instanceMethod ⟨"PictureInlays", "corner", "(III)I"⟩ : Cond) ∈ pw_T := pw_mem (i := 704) (by decide +kernel) (by decide +kernel)
theorem kw_705 : (.selects "PictureInlays" ⟨"PictureInlays", "corner", "(III)I"⟩ ⟨"PictureInlays", "corner", "(III)I"⟩ : Cond) ∈ pw_T := pw_mem (i := 705) (by decide +kernel) (by decide +kernel)
theorem kw_706 : (.code ⟨"PictureInlays", "corner", "(III)I"⟩ prog_1_method_9_code 4 (some .int) : Cond) ∈ pw_T := pw_mem (i := 706) (by decide +kernel) (by decide +kernel)
theorem kw_718 : (.methodLink "PictureInlaysLaw" 44 ⟨"PictureInlays", "left", "(II)I"⟩ : Cond) ∈ pw_T := pw_mem (i := 718) (by decide +kernel) (by decide +kernel)
theorem kw_719 : (.instanceMethod ⟨"PictureInlays", "left", "(II)I"⟩ : Cond) ∈ pw_T := pw_mem (i := 719) (by decide +kernel) (by decide +kernel)
theorem kw_720 : (.selects "PictureInlays" ⟨"PictureInlays", "left", "(II)I"⟩ ⟨"PictureInlays", "left", "(II)I"⟩ : Cond) ∈ pw_T := pw_mem (i := 720) (by decide +kernel) (by decide +kernel)
theorem kw_721 : (.code ⟨"PictureInlays", "left", "(II)I"⟩ prog_1_method_10_code 3 (some .int) : Cond) ∈ pw_T := pw_mem (i := 721) (by decide +kernel) (by decide +kernel)
theorem kw_739 : (.methodLink "PictureInlaysLaw" 47 ⟨"PictureInlays", "reached", "(III)Z"⟩ : Cond) ∈ pw_T := pw_mem (i := 739) (by decide +kernel) (by decide +kernel)
theorem kw_740 : (.instanceMethod ⟨"PictureInlays", "reached", "(III)Z"⟩ : Cond) ∈ pw_T := pw_mem (i := 740) (by decide +kernel) (by decide +kernel)
theorem kw_741 : (.selects "PictureInlays" ⟨"PictureInlays", "reached", "(III)Z"⟩ ⟨"PictureInlays", "reached", "(III)Z"⟩ : Cond) ∈ pw_T := pw_mem (i := 741) (by decide +kernel) (by decide +kernel)
theorem kw_742 : (.code ⟨"PictureInlays", "reached", "(III)Z"⟩ prog_1_method_11_code 4 (some .boolean) : Cond) ∈ pw_T := pw_mem (i := 742) (by decide +kernel) (by decide +kernel)
theorem kw_750 : (.methodLink "PictureInlaysLaw" 51 ⟨"PictureInlays", "order", "(I)I"⟩ : Cond) ∈ pw_T := pw_mem (i := 750) (by decide +kernel) (by decide +kernel)
theorem kw_751 : (.instanceMethod ⟨"PictureInlays", "order", "(I)I"⟩ : Cond) ∈ pw_T := pw_mem (i := 751) (by decide +kernel) (by decide +kernel)
theorem kw_752 : (.selects "PictureInlays" ⟨"PictureInlays", "order", "(I)I"⟩ ⟨"PictureInlays", "order", "(I)I"⟩ : Cond) ∈ pw_T := pw_mem (i := 752) (by decide +kernel) (by decide +kernel)
theorem kw_753 : (.code ⟨"PictureInlays", "order", "(I)I"⟩ prog_1_method_12_code 2 (some .int) : Cond) ∈ pw_T := pw_mem (i := 753) (by decide +kernel) (by decide +kernel)
theorem kw_764 : (.methodLink "PictureInlaysLaw" 54 ⟨"PictureInlays", "nest", "(II)I"⟩ : Cond) ∈ pw_T := pw_mem (i := 764) (by decide +kernel) (by decide +kernel)
theorem kw_765 : (.instanceMethod ⟨"PictureInlays", "nest", "(II)I"⟩ : Cond) ∈ pw_T := pw_mem (i := 765) (by decide +kernel) (by decide +kernel)
theorem kw_766 : (.selects "PictureInlays" ⟨"PictureInlays", "nest", "(II)I"⟩ ⟨"PictureInlays", "nest", "(II)I"⟩ : Cond) ∈ pw_T := pw_mem (i := 766) (by decide +kernel) (by decide +kernel)
theorem kw_767 : (.code ⟨"PictureInlays", "nest", "(II)I"⟩ prog_1_method_13_code 3 (some .int) : Cond) ∈ pw_T := pw_mem (i := 767) (by decide +kernel) (by decide +kernel)
theorem kw_791 : (.methodLink "PictureInlaysLaw" 57 ⟨"PictureInlays", "at", "(II)I"⟩ : Cond) ∈ pw_T := pw_mem (i := 791) (by decide +kernel) (by decide +kernel)
theorem kw_792 : (.instanceMethod ⟨"PictureInlays", "at", "(II)I"⟩ : Cond) ∈ pw_T := pw_mem (i := 792) (by decide +kernel) (by decide +kernel)
theorem kw_793 : (.selects "PictureInlays" ⟨"PictureInlays", "at", "(II)I"⟩ ⟨"PictureInlays", "at", "(II)I"⟩ : Cond) ∈ pw_T := pw_mem (i := 793) (by decide +kernel) (by decide +kernel)
theorem kw_794 : (.code ⟨"PictureInlays", "at", "(II)I"⟩ prog_1_method_14_code 3 (some .int) : Cond) ∈ pw_T := pw_mem (i := 794) (by decide +kernel) (by decide +kernel)
theorem kw_811 : (.methodLink "PictureInlaysLaw" 60 ⟨"PictureInlays", "border", "(III)I"⟩ : Cond) ∈ pw_T := pw_mem (i := 811) (by decide +kernel) (by decide +kernel)
theorem kw_812 : (.instanceMethod ⟨"PictureInlays", "border", "(III)I"⟩ : Cond) ∈ pw_T := pw_mem (i := 812) (by decide +kernel) (by decide +kernel)
theorem kw_813 : (.selects "PictureInlays" ⟨"PictureInlays", "border", "(III)I"⟩ ⟨"PictureInlays", "border", "(III)I"⟩ : Cond) ∈ pw_T := pw_mem (i := 813) (by decide +kernel) (by decide +kernel)
theorem kw_814 : (.code ⟨"PictureInlays", "border", "(III)I"⟩ prog_1_method_15_code 9 (some .int) : Cond) ∈ pw_T := pw_mem (i := 814) (by decide +kernel) (by decide +kernel)
theorem kw_822 : (.methodLink "PictureInlaysLaw" 63 ⟨"PictureInlays", "sorted", "(I)I"⟩ : Cond) ∈ pw_T := pw_mem (i := 822) (by decide +kernel) (by decide +kernel)
theorem kw_823 : (.instanceMethod ⟨"PictureInlays", "sorted", "(I)I"⟩ : Cond) ∈ pw_T := pw_mem (i := 823) (by decide +kernel) (by decide +kernel)
theorem kw_824 : (.selects "PictureInlays" ⟨"PictureInlays", "sorted", "(I)I"⟩ ⟨"PictureInlays", "sorted", "(I)I"⟩ : Cond) ∈ pw_T := pw_mem (i := 824) (by decide +kernel) (by decide +kernel)
theorem kw_825 : (.code ⟨"PictureInlays", "sorted", "(I)I"⟩ prog_1_method_16_code 2 (some .int) : Cond) ∈ pw_T := pw_mem (i := 825) (by decide +kernel) (by decide +kernel)
theorem d_Law_at_0 : decode method_15_code 0 = .ok (.aload_n 3, 1) := by decide +kernel
theorem d_Law_at_1 : decode method_15_code 1 = .ok (.iconst 0, 1) := by decide +kernel
theorem d_Law_at_2 : decode method_15_code 2 = .ok (.aload_n 0, 1) := by decide +kernel
theorem d_Law_at_3 : decode method_15_code 3 = .ok (.iload_n 1, 1) := by decide +kernel
theorem d_Law_at_4 : decode method_15_code 4 = .ok (.iload_n 2, 1) := by decide +kernel
theorem d_Law_at_5 : decode method_15_code 5 = .ok (.invokevirtual 57, 3) := by decide +kernel
theorem d_Law_at_8 : decode method_15_code 8 = .ok (.i2l, 1) := by decide +kernel
theorem d_Law_at_9 : decode method_15_code 9 = .ok (.lastore, 1) := by decide +kernel
theorem d_Law_at_10 : decode method_15_code 10 = .ok (.goto 11, 3) := by decide +kernel
theorem d_Law_at_13 : decode method_15_code 13 = .ok (.astore 4, 2) := by decide +kernel
theorem d_Law_at_15 : decode method_15_code 15 = .ok (.iconst 1, 1) := by decide +kernel
theorem d_Law_at_16 : decode method_15_code 16 = .ok (.ireturn, 1) := by decide +kernel
theorem d_Law_at_17 : decode method_15_code 17 = .ok (.astore 4, 2) := by decide +kernel
theorem d_Law_at_19 : decode method_15_code 19 = .ok (.iconst 2, 1) := by decide +kernel
theorem d_Law_at_20 : decode method_15_code 20 = .ok (.ireturn, 1) := by decide +kernel
theorem d_Law_at_21 : decode method_15_code 21 = .ok (.iconst 0, 1) := by decide +kernel
theorem d_Law_at_22 : decode method_15_code 22 = .ok (.ireturn, 1) := by decide +kernel
theorem d_Law_border_0 : decode method_16_code 0 = .ok (.aload 4, 2) := by decide +kernel
theorem d_Law_border_2 : decode method_16_code 2 = .ok (.iconst 0, 1) := by decide +kernel
theorem d_Law_border_3 : decode method_16_code 3 = .ok (.aload_n 0, 1) := by decide +kernel
theorem d_Law_border_4 : decode method_16_code 4 = .ok (.iload_n 1, 1) := by decide +kernel
theorem d_Law_border_5 : decode method_16_code 5 = .ok (.iload_n 2, 1) := by decide +kernel
theorem d_Law_border_6 : decode method_16_code 6 = .ok (.iload_n 3, 1) := by decide +kernel
theorem d_Law_border_7 : decode method_16_code 7 = .ok (.invokevirtual 60, 3) := by decide +kernel
theorem d_Law_border_10 : decode method_16_code 10 = .ok (.i2l, 1) := by decide +kernel
theorem d_Law_border_11 : decode method_16_code 11 = .ok (.lastore, 1) := by decide +kernel
theorem d_Law_border_12 : decode method_16_code 12 = .ok (.goto 11, 3) := by decide +kernel
theorem d_Law_border_15 : decode method_16_code 15 = .ok (.astore 5, 2) := by decide +kernel
theorem d_Law_border_17 : decode method_16_code 17 = .ok (.iconst 1, 1) := by decide +kernel
theorem d_Law_border_18 : decode method_16_code 18 = .ok (.ireturn, 1) := by decide +kernel
theorem d_Law_border_19 : decode method_16_code 19 = .ok (.astore 5, 2) := by decide +kernel
theorem d_Law_border_21 : decode method_16_code 21 = .ok (.iconst 2, 1) := by decide +kernel
theorem d_Law_border_22 : decode method_16_code 22 = .ok (.ireturn, 1) := by decide +kernel
theorem d_Law_border_23 : decode method_16_code 23 = .ok (.iconst 0, 1) := by decide +kernel
theorem d_Law_border_24 : decode method_16_code 24 = .ok (.ireturn, 1) := by decide +kernel
theorem d_Law_corner_0 : decode method_10_code 0 = .ok (.aload 4, 2) := by decide +kernel
theorem d_Law_corner_2 : decode method_10_code 2 = .ok (.iconst 0, 1) := by decide +kernel
theorem d_Law_corner_3 : decode method_10_code 3 = .ok (.aload_n 0, 1) := by decide +kernel
theorem d_Law_corner_4 : decode method_10_code 4 = .ok (.iload_n 1, 1) := by decide +kernel
theorem d_Law_corner_5 : decode method_10_code 5 = .ok (.iload_n 2, 1) := by decide +kernel
theorem d_Law_corner_6 : decode method_10_code 6 = .ok (.iload_n 3, 1) := by decide +kernel
theorem d_Law_corner_7 : decode method_10_code 7 = .ok (.invokevirtual 40, 3) := by decide +kernel
theorem d_Law_corner_10 : decode method_10_code 10 = .ok (.i2l, 1) := by decide +kernel
theorem d_Law_corner_11 : decode method_10_code 11 = .ok (.lastore, 1) := by decide +kernel
theorem d_Law_corner_12 : decode method_10_code 12 = .ok (.goto 11, 3) := by decide +kernel
theorem d_Law_corner_15 : decode method_10_code 15 = .ok (.astore 5, 2) := by decide +kernel
theorem d_Law_corner_17 : decode method_10_code 17 = .ok (.iconst 1, 1) := by decide +kernel
theorem d_Law_corner_18 : decode method_10_code 18 = .ok (.ireturn, 1) := by decide +kernel
theorem d_Law_corner_19 : decode method_10_code 19 = .ok (.astore 5, 2) := by decide +kernel
theorem d_Law_corner_21 : decode method_10_code 21 = .ok (.iconst 2, 1) := by decide +kernel
theorem d_Law_corner_22 : decode method_10_code 22 = .ok (.ireturn, 1) := by decide +kernel
theorem d_Law_corner_23 : decode method_10_code 23 = .ok (.iconst 0, 1) := by decide +kernel
theorem d_Law_corner_24 : decode method_10_code 24 = .ok (.ireturn, 1) := by decide +kernel
theorem d_Law_joined_0 : decode method_8_code 0 = .ok (.aload_n 3, 1) := by decide +kernel
theorem d_Law_joined_1 : decode method_8_code 1 = .ok (.iconst 0, 1) := by decide +kernel
theorem d_Law_joined_2 : decode method_8_code 2 = .ok (.aload_n 0, 1) := by decide +kernel
theorem d_Law_joined_3 : decode method_8_code 3 = .ok (.iload_n 1, 1) := by decide +kernel
theorem d_Law_joined_4 : decode method_8_code 4 = .ok (.iload_n 2, 1) := by decide +kernel
theorem d_Law_joined_5 : decode method_8_code 5 = .ok (.invokevirtual 34, 3) := by decide +kernel
theorem d_Law_joined_8 : decode method_8_code 8 = .ok (.i2l, 1) := by decide +kernel
theorem d_Law_joined_9 : decode method_8_code 9 = .ok (.lastore, 1) := by decide +kernel
theorem d_Law_joined_10 : decode method_8_code 10 = .ok (.goto 11, 3) := by decide +kernel
theorem d_Law_joined_13 : decode method_8_code 13 = .ok (.astore 4, 2) := by decide +kernel
theorem d_Law_joined_15 : decode method_8_code 15 = .ok (.iconst 1, 1) := by decide +kernel
theorem d_Law_joined_16 : decode method_8_code 16 = .ok (.ireturn, 1) := by decide +kernel
theorem d_Law_joined_17 : decode method_8_code 17 = .ok (.astore 4, 2) := by decide +kernel
theorem d_Law_joined_19 : decode method_8_code 19 = .ok (.iconst 2, 1) := by decide +kernel
theorem d_Law_joined_20 : decode method_8_code 20 = .ok (.ireturn, 1) := by decide +kernel
theorem d_Law_joined_21 : decode method_8_code 21 = .ok (.iconst 0, 1) := by decide +kernel
theorem d_Law_joined_22 : decode method_8_code 22 = .ok (.ireturn, 1) := by decide +kernel
theorem d_Law_kind_0 : decode method_4_code 0 = .ok (.aload 5, 2) := by decide +kernel
theorem d_Law_kind_2 : decode method_4_code 2 = .ok (.iconst 0, 1) := by decide +kernel
theorem d_Law_kind_3 : decode method_4_code 3 = .ok (.aload_n 0, 1) := by decide +kernel
theorem d_Law_kind_4 : decode method_4_code 4 = .ok (.iload_n 1, 1) := by decide +kernel
theorem d_Law_kind_5 : decode method_4_code 5 = .ok (.iload_n 2, 1) := by decide +kernel
theorem d_Law_kind_6 : decode method_4_code 6 = .ok (.iload_n 3, 1) := by decide +kernel
theorem d_Law_kind_7 : decode method_4_code 7 = .ok (.iload 4, 2) := by decide +kernel
theorem d_Law_kind_9 : decode method_4_code 9 = .ok (.invokevirtual 17, 3) := by decide +kernel
theorem d_Law_kind_12 : decode method_4_code 12 = .ok (.ifCond .eq 7, 3) := by decide +kernel
theorem d_Law_kind_15 : decode method_4_code 15 = .ok (.lconst 1, 1) := by decide +kernel
theorem d_Law_kind_16 : decode method_4_code 16 = .ok (.goto 4, 3) := by decide +kernel
theorem d_Law_kind_19 : decode method_4_code 19 = .ok (.lconst 0, 1) := by decide +kernel
theorem d_Law_kind_20 : decode method_4_code 20 = .ok (.lastore, 1) := by decide +kernel
theorem d_Law_kind_21 : decode method_4_code 21 = .ok (.goto 11, 3) := by decide +kernel
theorem d_Law_kind_24 : decode method_4_code 24 = .ok (.astore 6, 2) := by decide +kernel
theorem d_Law_kind_26 : decode method_4_code 26 = .ok (.iconst 1, 1) := by decide +kernel
theorem d_Law_kind_27 : decode method_4_code 27 = .ok (.ireturn, 1) := by decide +kernel
theorem d_Law_kind_28 : decode method_4_code 28 = .ok (.astore 6, 2) := by decide +kernel
theorem d_Law_kind_30 : decode method_4_code 30 = .ok (.iconst 2, 1) := by decide +kernel
theorem d_Law_kind_31 : decode method_4_code 31 = .ok (.ireturn, 1) := by decide +kernel
theorem d_Law_kind_32 : decode method_4_code 32 = .ok (.iconst 0, 1) := by decide +kernel
theorem d_Law_kind_33 : decode method_4_code 33 = .ok (.ireturn, 1) := by decide +kernel
theorem d_Law_left_0 : decode method_11_code 0 = .ok (.aload_n 3, 1) := by decide +kernel
theorem d_Law_left_1 : decode method_11_code 1 = .ok (.iconst 0, 1) := by decide +kernel
theorem d_Law_left_2 : decode method_11_code 2 = .ok (.aload_n 0, 1) := by decide +kernel
theorem d_Law_left_3 : decode method_11_code 3 = .ok (.iload_n 1, 1) := by decide +kernel
theorem d_Law_left_4 : decode method_11_code 4 = .ok (.iload_n 2, 1) := by decide +kernel
theorem d_Law_left_5 : decode method_11_code 5 = .ok (.invokevirtual 44, 3) := by decide +kernel
theorem d_Law_left_8 : decode method_11_code 8 = .ok (.i2l, 1) := by decide +kernel
theorem d_Law_left_9 : decode method_11_code 9 = .ok (.lastore, 1) := by decide +kernel
theorem d_Law_left_10 : decode method_11_code 10 = .ok (.goto 15, 3) := by decide +kernel
theorem d_Law_left_13 : decode method_11_code 13 = .ok (.astore 4, 2) := by decide +kernel
theorem d_Law_left_15 : decode method_11_code 15 = .ok (.iconst 1, 1) := by decide +kernel
theorem d_Law_left_16 : decode method_11_code 16 = .ok (.ireturn, 1) := by decide +kernel
theorem d_Law_left_17 : decode method_11_code 17 = .ok (.astore 4, 2) := by decide +kernel
theorem d_Law_left_19 : decode method_11_code 19 = .ok (.iconst 2, 1) := by decide +kernel
theorem d_Law_left_20 : decode method_11_code 20 = .ok (.ireturn, 1) := by decide +kernel
theorem d_Law_left_21 : decode method_11_code 21 = .ok (.astore 4, 2) := by decide +kernel
theorem d_Law_left_23 : decode method_11_code 23 = .ok (.iconst 3, 1) := by decide +kernel
theorem d_Law_left_24 : decode method_11_code 24 = .ok (.ireturn, 1) := by decide +kernel
theorem d_Law_left_25 : decode method_11_code 25 = .ok (.iconst 0, 1) := by decide +kernel
theorem d_Law_left_26 : decode method_11_code 26 = .ok (.ireturn, 1) := by decide +kernel
theorem d_Law_nest_0 : decode method_14_code 0 = .ok (.aload_n 3, 1) := by decide +kernel
theorem d_Law_nest_1 : decode method_14_code 1 = .ok (.iconst 0, 1) := by decide +kernel
theorem d_Law_nest_2 : decode method_14_code 2 = .ok (.aload_n 0, 1) := by decide +kernel
theorem d_Law_nest_3 : decode method_14_code 3 = .ok (.iload_n 1, 1) := by decide +kernel
theorem d_Law_nest_4 : decode method_14_code 4 = .ok (.iload_n 2, 1) := by decide +kernel
theorem d_Law_nest_5 : decode method_14_code 5 = .ok (.invokevirtual 54, 3) := by decide +kernel
theorem d_Law_nest_8 : decode method_14_code 8 = .ok (.i2l, 1) := by decide +kernel
theorem d_Law_nest_9 : decode method_14_code 9 = .ok (.lastore, 1) := by decide +kernel
theorem d_Law_nest_10 : decode method_14_code 10 = .ok (.goto 11, 3) := by decide +kernel
theorem d_Law_nest_13 : decode method_14_code 13 = .ok (.astore 4, 2) := by decide +kernel
theorem d_Law_nest_15 : decode method_14_code 15 = .ok (.iconst 1, 1) := by decide +kernel
theorem d_Law_nest_16 : decode method_14_code 16 = .ok (.ireturn, 1) := by decide +kernel
theorem d_Law_nest_17 : decode method_14_code 17 = .ok (.astore 4, 2) := by decide +kernel
theorem d_Law_nest_19 : decode method_14_code 19 = .ok (.iconst 2, 1) := by decide +kernel
theorem d_Law_nest_20 : decode method_14_code 20 = .ok (.ireturn, 1) := by decide +kernel
theorem d_Law_nest_21 : decode method_14_code 21 = .ok (.iconst 0, 1) := by decide +kernel
theorem d_Law_nest_22 : decode method_14_code 22 = .ok (.ireturn, 1) := by decide +kernel
theorem d_Law_order_0 : decode method_13_code 0 = .ok (.aload_n 2, 1) := by decide +kernel
theorem d_Law_order_1 : decode method_13_code 1 = .ok (.iconst 0, 1) := by decide +kernel
theorem d_Law_order_2 : decode method_13_code 2 = .ok (.aload_n 0, 1) := by decide +kernel
theorem d_Law_order_3 : decode method_13_code 3 = .ok (.iload_n 1, 1) := by decide +kernel
theorem d_Law_order_4 : decode method_13_code 4 = .ok (.invokevirtual 51, 3) := by decide +kernel
theorem d_Law_order_7 : decode method_13_code 7 = .ok (.i2l, 1) := by decide +kernel
theorem d_Law_order_8 : decode method_13_code 8 = .ok (.lastore, 1) := by decide +kernel
theorem d_Law_order_9 : decode method_13_code 9 = .ok (.goto 9, 3) := by decide +kernel
theorem d_Law_order_12 : decode method_13_code 12 = .ok (.astore_n 3, 1) := by decide +kernel
theorem d_Law_order_13 : decode method_13_code 13 = .ok (.iconst 1, 1) := by decide +kernel
theorem d_Law_order_14 : decode method_13_code 14 = .ok (.ireturn, 1) := by decide +kernel
theorem d_Law_order_15 : decode method_13_code 15 = .ok (.astore_n 3, 1) := by decide +kernel
theorem d_Law_order_16 : decode method_13_code 16 = .ok (.iconst 2, 1) := by decide +kernel
theorem d_Law_order_17 : decode method_13_code 17 = .ok (.ireturn, 1) := by decide +kernel
theorem d_Law_order_18 : decode method_13_code 18 = .ok (.iconst 0, 1) := by decide +kernel
theorem d_Law_order_19 : decode method_13_code 19 = .ok (.ireturn, 1) := by decide +kernel
theorem d_Law_outline_0 : decode method_9_code 0 = .ok (.aload_n 2, 1) := by decide +kernel
theorem d_Law_outline_1 : decode method_9_code 1 = .ok (.iconst 0, 1) := by decide +kernel
theorem d_Law_outline_2 : decode method_9_code 2 = .ok (.aload_n 0, 1) := by decide +kernel
theorem d_Law_outline_3 : decode method_9_code 3 = .ok (.iload_n 1, 1) := by decide +kernel
theorem d_Law_outline_4 : decode method_9_code 4 = .ok (.invokevirtual 37, 3) := by decide +kernel
theorem d_Law_outline_7 : decode method_9_code 7 = .ok (.i2l, 1) := by decide +kernel
theorem d_Law_outline_8 : decode method_9_code 8 = .ok (.lastore, 1) := by decide +kernel
theorem d_Law_outline_9 : decode method_9_code 9 = .ok (.goto 9, 3) := by decide +kernel
theorem d_Law_outline_12 : decode method_9_code 12 = .ok (.astore_n 3, 1) := by decide +kernel
theorem d_Law_outline_13 : decode method_9_code 13 = .ok (.iconst 1, 1) := by decide +kernel
theorem d_Law_outline_14 : decode method_9_code 14 = .ok (.ireturn, 1) := by decide +kernel
theorem d_Law_outline_15 : decode method_9_code 15 = .ok (.astore_n 3, 1) := by decide +kernel
theorem d_Law_outline_16 : decode method_9_code 16 = .ok (.iconst 2, 1) := by decide +kernel
theorem d_Law_outline_17 : decode method_9_code 17 = .ok (.ireturn, 1) := by decide +kernel
theorem d_Law_outline_18 : decode method_9_code 18 = .ok (.iconst 0, 1) := by decide +kernel
theorem d_Law_outline_19 : decode method_9_code 19 = .ok (.ireturn, 1) := by decide +kernel
theorem d_Law_part_0 : decode method_5_code 0 = .ok (.aload_n 2, 1) := by decide +kernel
theorem d_Law_part_1 : decode method_5_code 1 = .ok (.iconst 0, 1) := by decide +kernel
theorem d_Law_part_2 : decode method_5_code 2 = .ok (.aload_n 0, 1) := by decide +kernel
theorem d_Law_part_3 : decode method_5_code 3 = .ok (.iload_n 1, 1) := by decide +kernel
theorem d_Law_part_4 : decode method_5_code 4 = .ok (.invokevirtual 21, 3) := by decide +kernel
theorem d_Law_part_7 : decode method_5_code 7 = .ok (.i2l, 1) := by decide +kernel
theorem d_Law_part_8 : decode method_5_code 8 = .ok (.lastore, 1) := by decide +kernel
theorem d_Law_part_9 : decode method_5_code 9 = .ok (.goto 6, 3) := by decide +kernel
theorem d_Law_part_12 : decode method_5_code 12 = .ok (.astore_n 3, 1) := by decide +kernel
theorem d_Law_part_13 : decode method_5_code 13 = .ok (.iconst 1, 1) := by decide +kernel
theorem d_Law_part_14 : decode method_5_code 14 = .ok (.ireturn, 1) := by decide +kernel
theorem d_Law_part_15 : decode method_5_code 15 = .ok (.iconst 0, 1) := by decide +kernel
theorem d_Law_part_16 : decode method_5_code 16 = .ok (.ireturn, 1) := by decide +kernel
theorem d_Law_piece_0 : decode method_7_code 0 = .ok (.aload_n 3, 1) := by decide +kernel
theorem d_Law_piece_1 : decode method_7_code 1 = .ok (.iconst 0, 1) := by decide +kernel
theorem d_Law_piece_2 : decode method_7_code 2 = .ok (.aload_n 0, 1) := by decide +kernel
theorem d_Law_piece_3 : decode method_7_code 3 = .ok (.iload_n 1, 1) := by decide +kernel
theorem d_Law_piece_4 : decode method_7_code 4 = .ok (.iload_n 2, 1) := by decide +kernel
theorem d_Law_piece_5 : decode method_7_code 5 = .ok (.invokevirtual 31, 3) := by decide +kernel
theorem d_Law_piece_8 : decode method_7_code 8 = .ok (.i2l, 1) := by decide +kernel
theorem d_Law_piece_9 : decode method_7_code 9 = .ok (.lastore, 1) := by decide +kernel
theorem d_Law_piece_10 : decode method_7_code 10 = .ok (.goto 15, 3) := by decide +kernel
theorem d_Law_piece_13 : decode method_7_code 13 = .ok (.astore 4, 2) := by decide +kernel
theorem d_Law_piece_15 : decode method_7_code 15 = .ok (.iconst 1, 1) := by decide +kernel
theorem d_Law_piece_16 : decode method_7_code 16 = .ok (.ireturn, 1) := by decide +kernel
theorem d_Law_piece_17 : decode method_7_code 17 = .ok (.astore 4, 2) := by decide +kernel
theorem d_Law_piece_19 : decode method_7_code 19 = .ok (.iconst 2, 1) := by decide +kernel
theorem d_Law_piece_20 : decode method_7_code 20 = .ok (.ireturn, 1) := by decide +kernel
theorem d_Law_piece_21 : decode method_7_code 21 = .ok (.astore 4, 2) := by decide +kernel
theorem d_Law_piece_23 : decode method_7_code 23 = .ok (.iconst 3, 1) := by decide +kernel
theorem d_Law_piece_24 : decode method_7_code 24 = .ok (.ireturn, 1) := by decide +kernel
theorem d_Law_piece_25 : decode method_7_code 25 = .ok (.iconst 0, 1) := by decide +kernel
theorem d_Law_piece_26 : decode method_7_code 26 = .ok (.ireturn, 1) := by decide +kernel
theorem d_Law_pieceOf_0 : decode method_6_code 0 = .ok (.aload_n 3, 1) := by decide +kernel
theorem d_Law_pieceOf_1 : decode method_6_code 1 = .ok (.iconst 0, 1) := by decide +kernel
theorem d_Law_pieceOf_2 : decode method_6_code 2 = .ok (.aload_n 0, 1) := by decide +kernel
theorem d_Law_pieceOf_3 : decode method_6_code 3 = .ok (.iload_n 1, 1) := by decide +kernel
theorem d_Law_pieceOf_4 : decode method_6_code 4 = .ok (.iload_n 2, 1) := by decide +kernel
theorem d_Law_pieceOf_5 : decode method_6_code 5 = .ok (.invokevirtual 25, 3) := by decide +kernel
theorem d_Law_pieceOf_8 : decode method_6_code 8 = .ok (.i2l, 1) := by decide +kernel
theorem d_Law_pieceOf_9 : decode method_6_code 9 = .ok (.lastore, 1) := by decide +kernel
theorem d_Law_pieceOf_10 : decode method_6_code 10 = .ok (.goto 11, 3) := by decide +kernel
theorem d_Law_pieceOf_13 : decode method_6_code 13 = .ok (.astore 4, 2) := by decide +kernel
theorem d_Law_pieceOf_15 : decode method_6_code 15 = .ok (.iconst 1, 1) := by decide +kernel
theorem d_Law_pieceOf_16 : decode method_6_code 16 = .ok (.ireturn, 1) := by decide +kernel
theorem d_Law_pieceOf_17 : decode method_6_code 17 = .ok (.astore 4, 2) := by decide +kernel
theorem d_Law_pieceOf_19 : decode method_6_code 19 = .ok (.iconst 2, 1) := by decide +kernel
theorem d_Law_pieceOf_20 : decode method_6_code 20 = .ok (.ireturn, 1) := by decide +kernel
theorem d_Law_pieceOf_21 : decode method_6_code 21 = .ok (.iconst 0, 1) := by decide +kernel
theorem d_Law_pieceOf_22 : decode method_6_code 22 = .ok (.ireturn, 1) := by decide +kernel
theorem d_Law_pixel_0 : decode method_3_code 0 = .ok (.aload 6, 2) := by decide +kernel
theorem d_Law_pixel_2 : decode method_3_code 2 = .ok (.iconst 0, 1) := by decide +kernel
theorem d_Law_pixel_3 : decode method_3_code 3 = .ok (.aload_n 0, 1) := by decide +kernel
theorem d_Law_pixel_4 : decode method_3_code 4 = .ok (.iload_n 1, 1) := by decide +kernel
theorem d_Law_pixel_5 : decode method_3_code 5 = .ok (.iload_n 2, 1) := by decide +kernel
theorem d_Law_pixel_6 : decode method_3_code 6 = .ok (.iload_n 3, 1) := by decide +kernel
theorem d_Law_pixel_7 : decode method_3_code 7 = .ok (.iload 4, 2) := by decide +kernel
theorem d_Law_pixel_9 : decode method_3_code 9 = .ok (.iload 5, 2) := by decide +kernel
theorem d_Law_pixel_11 : decode method_3_code 11 = .ok (.invokevirtual 7, 3) := by decide +kernel
theorem d_Law_pixel_14 : decode method_3_code 14 = .ok (.ifCond .eq 7, 3) := by decide +kernel
theorem d_Law_pixel_17 : decode method_3_code 17 = .ok (.lconst 1, 1) := by decide +kernel
theorem d_Law_pixel_18 : decode method_3_code 18 = .ok (.goto 4, 3) := by decide +kernel
theorem d_Law_pixel_21 : decode method_3_code 21 = .ok (.lconst 0, 1) := by decide +kernel
theorem d_Law_pixel_22 : decode method_3_code 22 = .ok (.lastore, 1) := by decide +kernel
theorem d_Law_pixel_23 : decode method_3_code 23 = .ok (.goto 11, 3) := by decide +kernel
theorem d_Law_pixel_26 : decode method_3_code 26 = .ok (.astore 7, 2) := by decide +kernel
theorem d_Law_pixel_28 : decode method_3_code 28 = .ok (.iconst 1, 1) := by decide +kernel
theorem d_Law_pixel_29 : decode method_3_code 29 = .ok (.ireturn, 1) := by decide +kernel
theorem d_Law_pixel_30 : decode method_3_code 30 = .ok (.astore 7, 2) := by decide +kernel
theorem d_Law_pixel_32 : decode method_3_code 32 = .ok (.iconst 2, 1) := by decide +kernel
theorem d_Law_pixel_33 : decode method_3_code 33 = .ok (.ireturn, 1) := by decide +kernel
theorem d_Law_pixel_34 : decode method_3_code 34 = .ok (.iconst 0, 1) := by decide +kernel
theorem d_Law_pixel_35 : decode method_3_code 35 = .ok (.ireturn, 1) := by decide +kernel
theorem d_Law_reached_0 : decode method_12_code 0 = .ok (.aload 4, 2) := by decide +kernel
theorem d_Law_reached_2 : decode method_12_code 2 = .ok (.iconst 0, 1) := by decide +kernel
theorem d_Law_reached_3 : decode method_12_code 3 = .ok (.aload_n 0, 1) := by decide +kernel
theorem d_Law_reached_4 : decode method_12_code 4 = .ok (.iload_n 1, 1) := by decide +kernel
theorem d_Law_reached_5 : decode method_12_code 5 = .ok (.iload_n 2, 1) := by decide +kernel
theorem d_Law_reached_6 : decode method_12_code 6 = .ok (.iload_n 3, 1) := by decide +kernel
theorem d_Law_reached_7 : decode method_12_code 7 = .ok (.invokevirtual 47, 3) := by decide +kernel
theorem d_Law_reached_10 : decode method_12_code 10 = .ok (.ifCond .eq 7, 3) := by decide +kernel
theorem d_Law_reached_13 : decode method_12_code 13 = .ok (.lconst 1, 1) := by decide +kernel
theorem d_Law_reached_14 : decode method_12_code 14 = .ok (.goto 4, 3) := by decide +kernel
theorem d_Law_reached_17 : decode method_12_code 17 = .ok (.lconst 0, 1) := by decide +kernel
theorem d_Law_reached_18 : decode method_12_code 18 = .ok (.lastore, 1) := by decide +kernel
theorem d_Law_reached_19 : decode method_12_code 19 = .ok (.goto 15, 3) := by decide +kernel
theorem d_Law_reached_22 : decode method_12_code 22 = .ok (.astore 5, 2) := by decide +kernel
theorem d_Law_reached_24 : decode method_12_code 24 = .ok (.iconst 1, 1) := by decide +kernel
theorem d_Law_reached_25 : decode method_12_code 25 = .ok (.ireturn, 1) := by decide +kernel
theorem d_Law_reached_26 : decode method_12_code 26 = .ok (.astore 5, 2) := by decide +kernel
theorem d_Law_reached_28 : decode method_12_code 28 = .ok (.iconst 2, 1) := by decide +kernel
theorem d_Law_reached_29 : decode method_12_code 29 = .ok (.ireturn, 1) := by decide +kernel
theorem d_Law_reached_30 : decode method_12_code 30 = .ok (.astore 5, 2) := by decide +kernel
theorem d_Law_reached_32 : decode method_12_code 32 = .ok (.iconst 3, 1) := by decide +kernel
theorem d_Law_reached_33 : decode method_12_code 33 = .ok (.ireturn, 1) := by decide +kernel
theorem d_Law_reached_34 : decode method_12_code 34 = .ok (.iconst 0, 1) := by decide +kernel
theorem d_Law_reached_35 : decode method_12_code 35 = .ok (.ireturn, 1) := by decide +kernel
theorem d_Law_sorted_0 : decode method_17_code 0 = .ok (.aload_n 2, 1) := by decide +kernel
theorem d_Law_sorted_1 : decode method_17_code 1 = .ok (.iconst 0, 1) := by decide +kernel
theorem d_Law_sorted_2 : decode method_17_code 2 = .ok (.aload_n 0, 1) := by decide +kernel
theorem d_Law_sorted_3 : decode method_17_code 3 = .ok (.iload_n 1, 1) := by decide +kernel
theorem d_Law_sorted_4 : decode method_17_code 4 = .ok (.invokevirtual 63, 3) := by decide +kernel
theorem d_Law_sorted_7 : decode method_17_code 7 = .ok (.i2l, 1) := by decide +kernel
theorem d_Law_sorted_8 : decode method_17_code 8 = .ok (.lastore, 1) := by decide +kernel
theorem d_Law_sorted_9 : decode method_17_code 9 = .ok (.goto 6, 3) := by decide +kernel
theorem d_Law_sorted_12 : decode method_17_code 12 = .ok (.astore_n 3, 1) := by decide +kernel
theorem d_Law_sorted_13 : decode method_17_code 13 = .ok (.iconst 1, 1) := by decide +kernel
theorem d_Law_sorted_14 : decode method_17_code 14 = .ok (.ireturn, 1) := by decide +kernel
theorem d_Law_sorted_15 : decode method_17_code 15 = .ok (.iconst 0, 1) := by decide +kernel
theorem d_Law_sorted_16 : decode method_17_code 16 = .ok (.ireturn, 1) := by decide +kernel
theorem hx_keep {D : va_G} {a : Nat → Nat} {o : Nat} {cL : ClassId} {f : Nat → Int64} {H H1 : Heap} (hO : va_P D vwCl (hx_o o cL f) H) (ho : ∀ k, k < 40 → o ≠ a k) (hk : ∀ q : Nat, q < H.size → ¬ pw_F 40 a H.size q → H1[q]? = H[q]?) : va_P D vwCl (hx_o o cL f) H1 := by
  have hlt : o < H.size := (hO 0 _ rfl).lt
  have hne : ¬ pw_F 40 a H.size o := by
    intro h
    rcases h with ⟨k, h1, h2⟩ | h
    · exact ho k h1 h2
    · omega
  refine hO.kept (fun k q hq => ?_)
  have h2 : q ∈ hx_o o cL f := List.mem_of_getElem? hq
  rw [List.mem_singleton.mp h2]
  exact hk o hlt hne
theorem hx_split {D : va_G} {cl : List vw_C} {w1 w2 : va_W} {H : Heap} (h : va_P D cl (w1 ++ w2) H) : va_P D cl w1 H ∧ va_P D cl w2 H := by
  refine ⟨fun k q hk => ?_, fun k q hk => ?_⟩
  · exact h k q (by rw [List.getElem?_append_left (List.getElem?_eq_some_iff.mp hk).1]; exact hk)
  · exact h (w1.length + k) q (by rw [List.getElem?_append_right (by omega)]; simpa using hk)
theorem hx_D {a : Nat → Nat} {cA cZ cL : ClassId} {G : pG} {u : pS} {o : Nat} {f : Nat → Int64} {A : Nat → Prop} (hI : pw_I 40 a) (ho : ∀ k, k < 40 → o ≠ a k) (hF : ∀ k, k < 40 → A (a k)) (hoA : A o) : va_D A (cw a cA cZ G u ++ hx_o o cL f) := by
  have h := pw_addrs (n := 41) (a := fun k => if k < 40 then a k else o) (ws := cw a cA cZ G u ++ hx_o o cL f) (A := A) rfl ?_ ?_
  · exact h
  · intro j k hj hk he
    by_cases h1 : j < 40 <;> by_cases h2 : k < 40
    · simp only [h1, h2, if_true] at he
      exact hI j k h1 h2 he
    · simp only [h1, h2, if_true, if_false] at he
      exact absurd he.symm (ho j h1)
    · simp only [h1, h2, if_true, if_false] at he
      exact absurd he (ho k h2)
    · omega
  · intro k hk
    by_cases h1 : k < 40
    · simp only [h1, if_true]; exact hF k h1
    · simp only [h1, if_false]; exact hoA
