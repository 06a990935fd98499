section
-- ===== PART A: goes FIRST, ahead of the names: the tables' words, and 'selects' of the private methods out of them =====
/-- a private method of a class that the tables say can be made, by its rows of tables_1 -/
def lw_okq (q : MethodName × Nat) : Prop := (q.1.cls ≠ "java/lang/invoke/MethodHandle" ∧ q.1.cls ≠ "java/lang/invoke/VarHandle") ∧ Cond.instantiable q.1.cls q.2 ∈ tables_1 ∧ Cond.privateMethod q.1 ∈ tables_1 ∧ Cond.instanceMethod q.1 ∈ tables_1
theorem lw_p0 : lw_okq (⟨"PictureInlays", "needPlace", "(II)V"⟩, 12) := ⟨⟨by decide +kernel, by decide +kernel⟩, List.mem_of_getElem? (i := 23) (by decide +kernel), List.mem_of_getElem? (i := 318) (by decide +kernel), List.mem_of_getElem? (i := 319) (by decide +kernel)⟩
theorem lw_p1 : lw_okq (⟨"java/lang/Throwable", "fillInStackTrace", "(I)Ljava/lang/Throwable;"⟩, 6) := ⟨⟨by decide +kernel, by decide +kernel⟩, List.mem_of_getElem? (i := 363) (by decide +kernel), List.mem_of_getElem? (i := 361) (by decide +kernel), List.mem_of_getElem? (i := 362) (by decide +kernel)⟩
theorem lw_p2 : lw_okq (⟨"PictureInlays", "told", "(Z)Z"⟩, 12) := ⟨⟨by decide +kernel, by decide +kernel⟩, List.mem_of_getElem? (i := 23) (by decide +kernel), List.mem_of_getElem? (i := 420) (by decide +kernel), List.mem_of_getElem? (i := 421) (by decide +kernel)⟩
theorem lw_p3 : lw_okq (⟨"PictureInlays$Pieces", "gatherAll", "()V"⟩, 11) := ⟨⟨by decide +kernel, by decide +kernel⟩, List.mem_of_getElem? (i := 102) (by decide +kernel), List.mem_of_getElem? (i := 452) (by decide +kernel), List.mem_of_getElem? (i := 453) (by decide +kernel)⟩
theorem lw_p4 : lw_okq (⟨"PictureInlays$Pieces", "gather", "(II)V"⟩, 11) := ⟨⟨by decide +kernel, by decide +kernel⟩, List.mem_of_getElem? (i := 102) (by decide +kernel), List.mem_of_getElem? (i := 459) (by decide +kernel), List.mem_of_getElem? (i := 460) (by decide +kernel)⟩
theorem lw_p5 : lw_okq (⟨"PictureInlays$Pieces", "begin", "(II)V"⟩, 11) := ⟨⟨by decide +kernel, by decide +kernel⟩, List.mem_of_getElem? (i := 102) (by decide +kernel), List.mem_of_getElem? (i := 463) (by decide +kernel), List.mem_of_getElem? (i := 464) (by decide +kernel)⟩
theorem lw_p6 : lw_okq (⟨"PictureInlays$Pieces", "include", "(II)V"⟩, 11) := ⟨⟨by decide +kernel, by decide +kernel⟩, List.mem_of_getElem? (i := 102) (by decide +kernel), List.mem_of_getElem? (i := 475) (by decide +kernel), List.mem_of_getElem? (i := 476) (by decide +kernel)⟩
theorem lw_p7 : lw_okq (⟨"PictureInlays$Pieces", "joinSmallest", "(I)Z"⟩, 11) := ⟨⟨by decide +kernel, by decide +kernel⟩, List.mem_of_getElem? (i := 102) (by decide +kernel), List.mem_of_getElem? (i := 485) (by decide +kernel), List.mem_of_getElem? (i := 486) (by decide +kernel)⟩
theorem lw_p8 : lw_okq (⟨"PictureInlays$Pieces", "smallest", "()I"⟩, 11) := ⟨⟨by decide +kernel, by decide +kernel⟩, List.mem_of_getElem? (i := 102) (by decide +kernel), List.mem_of_getElem? (i := 489) (by decide +kernel), List.mem_of_getElem? (i := 490) (by decide +kernel)⟩
theorem lw_p9 : lw_okq (⟨"PictureInlays$Pieces", "closestTo", "(I)I"⟩, 11) := ⟨⟨by decide +kernel, by decide +kernel⟩, List.mem_of_getElem? (i := 102) (by decide +kernel), List.mem_of_getElem? (i := 493) (by decide +kernel), List.mem_of_getElem? (i := 494) (by decide +kernel)⟩
theorem lw_p10 : lw_okq (⟨"PictureInlays$Pieces", "countSidesOf", "(I)V"⟩, 11) := ⟨⟨by decide +kernel, by decide +kernel⟩, List.mem_of_getElem? (i := 102) (by decide +kernel), List.mem_of_getElem? (i := 497) (by decide +kernel), List.mem_of_getElem? (i := 498) (by decide +kernel)⟩
theorem lw_p11 : lw_okq (⟨"PictureInlays$Pieces", "countSidesAt", "(I)V"⟩, 11) := ⟨⟨by decide +kernel, by decide +kernel⟩, List.mem_of_getElem? (i := 102) (by decide +kernel), List.mem_of_getElem? (i := 501) (by decide +kernel), List.mem_of_getElem? (i := 502) (by decide +kernel)⟩
theorem lw_p12 : lw_okq (⟨"PictureInlays", "needParted", "()V"⟩, 12) := ⟨⟨by decide +kernel, by decide +kernel⟩, List.mem_of_getElem? (i := 23) (by decide +kernel), List.mem_of_getElem? (i := 565) (by decide +kernel), List.mem_of_getElem? (i := 566) (by decide +kernel)⟩
theorem lw_p13 : lw_okq (⟨"PictureInlays", "needPiece", "(I)V"⟩, 12) := ⟨⟨by decide +kernel, by decide +kernel⟩, List.mem_of_getElem? (i := 23) (by decide +kernel), List.mem_of_getElem? (i := 597) (by decide +kernel), List.mem_of_getElem? (i := 598) (by decide +kernel)⟩
theorem lw_p14 : lw_okq (⟨"PictureInlays$Walk", "noteCorner", "()V"⟩, 8) := ⟨⟨by decide +kernel, by decide +kernel⟩, List.mem_of_getElem? (i := 171) (by decide +kernel), List.mem_of_getElem? (i := 638) (by decide +kernel), List.mem_of_getElem? (i := 639) (by decide +kernel)⟩
theorem lw_p15 : lw_okq (⟨"PictureInlays$Walk", "turn", "(I)V"⟩, 8) := ⟨⟨by decide +kernel, by decide +kernel⟩, List.mem_of_getElem? (i := 171) (by decide +kernel), List.mem_of_getElem? (i := 644) (by decide +kernel), List.mem_of_getElem? (i := 645) (by decide +kernel)⟩
def lw_privs_1 : List (MethodName × Nat) := [(⟨"PictureInlays", "needPlace", "(II)V"⟩, 12), (⟨"java/lang/Throwable", "fillInStackTrace", "(I)Ljava/lang/Throwable;"⟩, 6), (⟨"PictureInlays", "told", "(Z)Z"⟩, 12), (⟨"PictureInlays$Pieces", "gatherAll", "()V"⟩, 11), (⟨"PictureInlays$Pieces", "gather", "(II)V"⟩, 11), (⟨"PictureInlays$Pieces", "begin", "(II)V"⟩, 11), (⟨"PictureInlays$Pieces", "include", "(II)V"⟩, 11), (⟨"PictureInlays$Pieces", "joinSmallest", "(I)Z"⟩, 11), (⟨"PictureInlays$Pieces", "smallest", "()I"⟩, 11), (⟨"PictureInlays$Pieces", "closestTo", "(I)I"⟩, 11), (⟨"PictureInlays$Pieces", "countSidesOf", "(I)V"⟩, 11), (⟨"PictureInlays$Pieces", "countSidesAt", "(I)V"⟩, 11), (⟨"PictureInlays", "needParted", "()V"⟩, 12), (⟨"PictureInlays", "needPiece", "(I)V"⟩, 12), (⟨"PictureInlays$Walk", "noteCorner", "()V"⟩, 8), (⟨"PictureInlays$Walk", "turn", "(I)V"⟩, 8)]
theorem lw_r1 : ∀ q ∈ lw_privs_1, lw_okq q := List.forall_mem_cons.mpr ⟨lw_p0, List.forall_mem_cons.mpr ⟨lw_p1, List.forall_mem_cons.mpr ⟨lw_p2, List.forall_mem_cons.mpr ⟨lw_p3, List.forall_mem_cons.mpr ⟨lw_p4, List.forall_mem_cons.mpr ⟨lw_p5, List.forall_mem_cons.mpr ⟨lw_p6, List.forall_mem_cons.mpr ⟨lw_p7, List.forall_mem_cons.mpr ⟨lw_p8, List.forall_mem_cons.mpr ⟨lw_p9, List.forall_mem_cons.mpr ⟨lw_p10, List.forall_mem_cons.mpr ⟨lw_p11, List.forall_mem_cons.mpr ⟨lw_p12, List.forall_mem_cons.mpr ⟨lw_p13, List.forall_mem_cons.mpr ⟨lw_p14, List.forall_mem_cons.mpr ⟨lw_p15, fun _ h => absurd h List.not_mem_nil⟩⟩⟩⟩⟩⟩⟩⟩⟩⟩⟩⟩⟩⟩⟩⟩
theorem lw_p16 : lw_okq (⟨"PictureInlays$Walk", "isAhead", "(II)Z"⟩, 8) := ⟨⟨by decide +kernel, by decide +kernel⟩, List.mem_of_getElem? (i := 171) (by decide +kernel), List.mem_of_getElem? (i := 648) (by decide +kernel), List.mem_of_getElem? (i := 649) (by decide +kernel)⟩
theorem lw_p17 : lw_okq (⟨"PictureInlays$Tool", "fits", "(IIII)Z"⟩, 4) := ⟨⟨by decide +kernel, by decide +kernel⟩, List.mem_of_getElem? (i := 203) (by decide +kernel), List.mem_of_getElem? (i := 683) (by decide +kernel), List.mem_of_getElem? (i := 684) (by decide +kernel)⟩
theorem lw_p18 : lw_okq (⟨"PictureInlays$Tool", "mark", "(III)V"⟩, 4) := ⟨⟨by decide +kernel, by decide +kernel⟩, List.mem_of_getElem? (i := 203) (by decide +kernel), List.mem_of_getElem? (i := 688) (by decide +kernel), List.mem_of_getElem? (i := 689) (by decide +kernel)⟩
theorem lw_p19 : lw_okq (⟨"PictureInlays$Sheet", "rowFor", "(III)I"⟩, 9) := ⟨⟨by decide +kernel, by decide +kernel⟩, List.mem_of_getElem? (i := 224) (by decide +kernel), List.mem_of_getElem? (i := 731) (by decide +kernel), List.mem_of_getElem? (i := 732) (by decide +kernel)⟩
theorem lw_p20 : lw_okq (⟨"PictureInlays$Sheet", "newRow", "(I)I"⟩, 9) := ⟨⟨by decide +kernel, by decide +kernel⟩, List.mem_of_getElem? (i := 224) (by decide +kernel), List.mem_of_getElem? (i := 737) (by decide +kernel), List.mem_of_getElem? (i := 738) (by decide +kernel)⟩
theorem lw_p21 : lw_okq (⟨"PictureInlays$Sheet", "put", "(II)V"⟩, 9) := ⟨⟨by decide +kernel, by decide +kernel⟩, List.mem_of_getElem? (i := 224) (by decide +kernel), List.mem_of_getElem? (i := 741) (by decide +kernel), List.mem_of_getElem? (i := 742) (by decide +kernel)⟩
theorem lw_p22 : lw_okq (⟨"PictureInlays", "needNested", "()V"⟩, 12) := ⟨⟨by decide +kernel, by decide +kernel⟩, List.mem_of_getElem? (i := 23) (by decide +kernel), List.mem_of_getElem? (i := 752) (by decide +kernel), List.mem_of_getElem? (i := 753) (by decide +kernel)⟩
theorem lw_p23 : lw_okq (⟨"PictureInlaysModel", "isPlace", "(II)Z"⟩, 23) := ⟨⟨by decide +kernel, by decide +kernel⟩, List.mem_of_getElem? (i := 783) (by decide +kernel), List.mem_of_getElem? (i := 870) (by decide +kernel), List.mem_of_getElem? (i := 871) (by decide +kernel)⟩
theorem lw_p24 : lw_okq (⟨"PictureInlaysModel", "nearestKind", "(I)I"⟩, 23) := ⟨⟨by decide +kernel, by decide +kernel⟩, List.mem_of_getElem? (i := 783) (by decide +kernel), List.mem_of_getElem? (i := 885) (by decide +kernel), List.mem_of_getElem? (i := 886) (by decide +kernel)⟩
theorem lw_p25 : lw_okq (⟨"PictureInlaysModel", "apart", "(II)I"⟩, 23) := ⟨⟨by decide +kernel, by decide +kernel⟩, List.mem_of_getElem? (i := 783) (by decide +kernel), List.mem_of_getElem? (i := 889) (by decide +kernel), List.mem_of_getElem? (i := 890) (by decide +kernel)⟩
theorem lw_p26 : lw_okq (⟨"PictureInlaysModel", "makePieces", "()V"⟩, 23) := ⟨⟨by decide +kernel, by decide +kernel⟩, List.mem_of_getElem? (i := 783) (by decide +kernel), List.mem_of_getElem? (i := 893) (by decide +kernel), List.mem_of_getElem? (i := 894) (by decide +kernel)⟩
theorem lw_p27 : lw_okq (⟨"PictureInlaysModel", "lower", "(I)Z"⟩, 23) := ⟨⟨by decide +kernel, by decide +kernel⟩, List.mem_of_getElem? (i := 783) (by decide +kernel), List.mem_of_getElem? (i := 897) (by decide +kernel), List.mem_of_getElem? (i := 898) (by decide +kernel)⟩
theorem lw_p28 : lw_okq (⟨"PictureInlaysModel", "beside", "(II)I"⟩, 23) := ⟨⟨by decide +kernel, by decide +kernel⟩, List.mem_of_getElem? (i := 783) (by decide +kernel), List.mem_of_getElem? (i := 901) (by decide +kernel), List.mem_of_getElem? (i := 902) (by decide +kernel)⟩
theorem lw_p29 : lw_okq (⟨"PictureInlaysModel", "smallest", "(I)I"⟩, 23) := ⟨⟨by decide +kernel, by decide +kernel⟩, List.mem_of_getElem? (i := 783) (by decide +kernel), List.mem_of_getElem? (i := 905) (by decide +kernel), List.mem_of_getElem? (i := 906) (by decide +kernel)⟩
theorem lw_p30 : lw_okq (⟨"PictureInlaysModel", "join", "(I)V"⟩, 23) := ⟨⟨by decide +kernel, by decide +kernel⟩, List.mem_of_getElem? (i := 783) (by decide +kernel), List.mem_of_getElem? (i := 909) (by decide +kernel), List.mem_of_getElem? (i := 910) (by decide +kernel)⟩
theorem lw_p31 : lw_okq (⟨"PictureInlaysModel", "numberOf", "(I)I"⟩, 23) := ⟨⟨by decide +kernel, by decide +kernel⟩, List.mem_of_getElem? (i := 783) (by decide +kernel), List.mem_of_getElem? (i := 917) (by decide +kernel), List.mem_of_getElem? (i := 918) (by decide +kernel)⟩
def lw_privs_2 : List (MethodName × Nat) := [(⟨"PictureInlays$Walk", "isAhead", "(II)Z"⟩, 8), (⟨"PictureInlays$Tool", "fits", "(IIII)Z"⟩, 4), (⟨"PictureInlays$Tool", "mark", "(III)V"⟩, 4), (⟨"PictureInlays$Sheet", "rowFor", "(III)I"⟩, 9), (⟨"PictureInlays$Sheet", "newRow", "(I)I"⟩, 9), (⟨"PictureInlays$Sheet", "put", "(II)V"⟩, 9), (⟨"PictureInlays", "needNested", "()V"⟩, 12), (⟨"PictureInlaysModel", "isPlace", "(II)Z"⟩, 23), (⟨"PictureInlaysModel", "nearestKind", "(I)I"⟩, 23), (⟨"PictureInlaysModel", "apart", "(II)I"⟩, 23), (⟨"PictureInlaysModel", "makePieces", "()V"⟩, 23), (⟨"PictureInlaysModel", "lower", "(I)Z"⟩, 23), (⟨"PictureInlaysModel", "beside", "(II)I"⟩, 23), (⟨"PictureInlaysModel", "smallest", "(I)I"⟩, 23), (⟨"PictureInlaysModel", "join", "(I)V"⟩, 23), (⟨"PictureInlaysModel", "numberOf", "(I)I"⟩, 23)]
theorem lw_r2 : ∀ q ∈ lw_privs_2, lw_okq q := List.forall_mem_cons.mpr ⟨lw_p16, List.forall_mem_cons.mpr ⟨lw_p17, List.forall_mem_cons.mpr ⟨lw_p18, List.forall_mem_cons.mpr ⟨lw_p19, List.forall_mem_cons.mpr ⟨lw_p20, List.forall_mem_cons.mpr ⟨lw_p21, List.forall_mem_cons.mpr ⟨lw_p22, List.forall_mem_cons.mpr ⟨lw_p23, List.forall_mem_cons.mpr ⟨lw_p24, List.forall_mem_cons.mpr ⟨lw_p25, List.forall_mem_cons.mpr ⟨lw_p26, List.forall_mem_cons.mpr ⟨lw_p27, List.forall_mem_cons.mpr ⟨lw_p28, List.forall_mem_cons.mpr ⟨lw_p29, List.forall_mem_cons.mpr ⟨lw_p30, List.forall_mem_cons.mpr ⟨lw_p31, fun _ h => absurd h List.not_mem_nil⟩⟩⟩⟩⟩⟩⟩⟩⟩⟩⟩⟩⟩⟩⟩⟩
theorem lw_p32 : lw_okq (⟨"PictureInlaysModel", "noPiece", "(I)Z"⟩, 23) := ⟨⟨by decide +kernel, by decide +kernel⟩, List.mem_of_getElem? (i := 783) (by decide +kernel), List.mem_of_getElem? (i := 925) (by decide +kernel), List.mem_of_getElem? (i := 926) (by decide +kernel)⟩
theorem lw_p33 : lw_okq (⟨"PictureInlaysModel", "end", "(II)I"⟩, 23) := ⟨⟨by decide +kernel, by decide +kernel⟩, List.mem_of_getElem? (i := 783) (by decide +kernel), List.mem_of_getElem? (i := 929) (by decide +kernel), List.mem_of_getElem? (i := 930) (by decide +kernel)⟩
theorem lw_p34 : lw_okq (⟨"PictureInlaysModel", "isAtEdge", "(I)Z"⟩, 23) := ⟨⟨by decide +kernel, by decide +kernel⟩, List.mem_of_getElem? (i := 783) (by decide +kernel), List.mem_of_getElem? (i := 933) (by decide +kernel), List.mem_of_getElem? (i := 934) (by decide +kernel)⟩
theorem lw_p35 : lw_okq (⟨"PictureInlaysModel", "walk", "(I)V"⟩, 23) := ⟨⟨by decide +kernel, by decide +kernel⟩, List.mem_of_getElem? (i := 783) (by decide +kernel), List.mem_of_getElem? (i := 945) (by decide +kernel), List.mem_of_getElem? (i := 946) (by decide +kernel)⟩
theorem lw_p36 : lw_okq (⟨"PictureInlaysModel", "ahead", "(IIIIZ)Z"⟩, 23) := ⟨⟨by decide +kernel, by decide +kernel⟩, List.mem_of_getElem? (i := 783) (by decide +kernel), List.mem_of_getElem? (i := 949) (by decide +kernel), List.mem_of_getElem? (i := 950) (by decide +kernel)⟩
theorem lw_p37 : lw_okq (⟨"PictureInlaysModel", "isOf", "(III)Z"⟩, 23) := ⟨⟨by decide +kernel, by decide +kernel⟩, List.mem_of_getElem? (i := 783) (by decide +kernel), List.mem_of_getElem? (i := 953) (by decide +kernel), List.mem_of_getElem? (i := 954) (by decide +kernel)⟩
theorem lw_p38 : lw_okq (⟨"PictureInlaysModel", "isReached", "(IIII)Z"⟩, 23) := ⟨⟨by decide +kernel, by decide +kernel⟩, List.mem_of_getElem? (i := 783) (by decide +kernel), List.mem_of_getElem? (i := 965) (by decide +kernel), List.mem_of_getElem? (i := 966) (by decide +kernel)⟩
theorem lw_p39 : lw_okq (⟨"PictureInlaysModel", "isRoom", "(IIII)Z"⟩, 23) := ⟨⟨by decide +kernel, by decide +kernel⟩, List.mem_of_getElem? (i := 783) (by decide +kernel), List.mem_of_getElem? (i := 969) (by decide +kernel), List.mem_of_getElem? (i := 970) (by decide +kernel)⟩
theorem lw_p40 : lw_okq (⟨"PictureInlaysModel", "comesBefore", "(II)Z"⟩, 23) := ⟨⟨by decide +kernel, by decide +kernel⟩, List.mem_of_getElem? (i := 783) (by decide +kernel), List.mem_of_getElem? (i := 981) (by decide +kernel), List.mem_of_getElem? (i := 982) (by decide +kernel)⟩
theorem lw_p41 : lw_okq (⟨"PictureInlaysModel", "isLaidBefore", "(II)Z"⟩, 23) := ⟨⟨by decide +kernel, by decide +kernel⟩, List.mem_of_getElem? (i := 783) (by decide +kernel), List.mem_of_getElem? (i := 989) (by decide +kernel), List.mem_of_getElem? (i := 990) (by decide +kernel)⟩
theorem lw_p42 : lw_okq (⟨"PictureInlaysModel", "lay", "(III)Z"⟩, 23) := ⟨⟨by decide +kernel, by decide +kernel⟩, List.mem_of_getElem? (i := 783) (by decide +kernel), List.mem_of_getElem? (i := 993) (by decide +kernel), List.mem_of_getElem? (i := 994) (by decide +kernel)⟩
theorem lw_p43 : lw_okq (⟨"PictureInlaysModel", "brightness", "(I)I"⟩, 23) := ⟨⟨by decide +kernel, by decide +kernel⟩, List.mem_of_getElem? (i := 783) (by decide +kernel), List.mem_of_getElem? (i := 1013) (by decide +kernel), List.mem_of_getElem? (i := 1014) (by decide +kernel)⟩
def lw_privs_3 : List (MethodName × Nat) := [(⟨"PictureInlaysModel", "noPiece", "(I)Z"⟩, 23), (⟨"PictureInlaysModel", "end", "(II)I"⟩, 23), (⟨"PictureInlaysModel", "isAtEdge", "(I)Z"⟩, 23), (⟨"PictureInlaysModel", "walk", "(I)V"⟩, 23), (⟨"PictureInlaysModel", "ahead", "(IIIIZ)Z"⟩, 23), (⟨"PictureInlaysModel", "isOf", "(III)Z"⟩, 23), (⟨"PictureInlaysModel", "isReached", "(IIII)Z"⟩, 23), (⟨"PictureInlaysModel", "isRoom", "(IIII)Z"⟩, 23), (⟨"PictureInlaysModel", "comesBefore", "(II)Z"⟩, 23), (⟨"PictureInlaysModel", "isLaidBefore", "(II)Z"⟩, 23), (⟨"PictureInlaysModel", "lay", "(III)Z"⟩, 23), (⟨"PictureInlaysModel", "brightness", "(I)I"⟩, 23)]
theorem lw_r3 : ∀ q ∈ lw_privs_3, lw_okq q := List.forall_mem_cons.mpr ⟨lw_p32, List.forall_mem_cons.mpr ⟨lw_p33, List.forall_mem_cons.mpr ⟨lw_p34, List.forall_mem_cons.mpr ⟨lw_p35, List.forall_mem_cons.mpr ⟨lw_p36, List.forall_mem_cons.mpr ⟨lw_p37, List.forall_mem_cons.mpr ⟨lw_p38, List.forall_mem_cons.mpr ⟨lw_p39, List.forall_mem_cons.mpr ⟨lw_p40, List.forall_mem_cons.mpr ⟨lw_p41, List.forall_mem_cons.mpr ⟨lw_p42, List.forall_mem_cons.mpr ⟨lw_p43, fun _ h => absurd h List.not_mem_nil⟩⟩⟩⟩⟩⟩⟩⟩⟩⟩⟩⟩
def lw_privs : List (MethodName × Nat) := lw_privs_1 ++ (lw_privs_2 ++ (lw_privs_3))
def lw_tbl : List Cond := k2_sels lw_privs ++ tables_1
theorem lw_privs_ok : ∀ q ∈ lw_privs, lw_okq q := by
  show ∀ q ∈ lw_privs_1 ++ (lw_privs_2 ++ (lw_privs_3)), lw_okq q
  exact List.forall_mem_append.mpr ⟨lw_r1, List.forall_mem_append.mpr ⟨lw_r2, lw_r3⟩⟩
def pw_T : List Cond := lw_tbl.filter goodWord
theorem pw_mem {i : Nat} {w : Cond} (h : lw_tbl[i]? = some w) (hg : goodWord w = true) : w ∈ pw_T := List.mem_filter.mpr ⟨List.mem_of_getElem? h, hg⟩
theorem pw_good {c : Cond} {ws : List Cond} (h : ∀ w ∈ ws, w ∈ pw_T) : GoodIn (c :: pw_T) ws := fun w hw => ⟨List.mem_cons_of_mem _ (h w hw), good_of_word (List.mem_filter.mp (h w hw)).2⟩
theorem pw_all {k : Cond} (h : k ∈ pw_T) : ∀ w ∈ k :: pw_T, w ∈ pw_T := List.forall_mem_cons.mpr ⟨h, fun _ h => h⟩
end
section
def R_PI : String := "PictureInlays"
def R_Model : String := "PictureInlaysModel"
def R_Brightest : String := "PictureInlays$Brightest"
def R_Colours : String := "PictureInlays$Colours"
def R_Grid : String := "PictureInlays$Grid"
def R_Highest : String := "PictureInlays$Highest"
def R_Laying : String := "PictureInlays$Laying"
def R_Pieces : String := "PictureInlays$Pieces"
def R_Ranking : String := "PictureInlays$Ranking"
def R_Sheet : String := "PictureInlays$Sheet"
def R_Tool : String := "PictureInlays$Tool"
def R_Walk : String := "PictureInlays$Walk"
def R_Law : String := "PictureInlaysLaw"
def R_Integer : String := "java/lang/Integer"
def R_Arrays : String := "java/util/Arrays"
def T_PI : u_T := fun k => match k with
  | 0 => ("PictureInlays", "grid", "LPictureInlays$Grid;", true)
  | 1 => ("PictureInlays", "kinds", "I", true)
  | 2 => ("PictureInlays", "picture", "LPictureInlays$Colours;", true)
  | 3 => ("PictureInlays", "woods", "LPictureInlays$Colours;", true)
  | 4 => ("PictureInlays", "pieces", "LPictureInlays$Pieces;", true)
  | 5 => ("PictureInlays", "brightest", "LPictureInlays$Ranking;", true)
  | 6 => ("PictureInlays", "laying", "LPictureInlays$Ranking;", true)
  | 7 => ("PictureInlays", "walk", "LPictureInlays$Walk;", true)
  | 8 => ("PictureInlays", "tool", "LPictureInlays$Tool;", true)
  | 9 => ("PictureInlays", "sheet", "LPictureInlays$Sheet;", true)
  | 10 => ("PictureInlays", "parted", "Z", false)
  | _ => ("PictureInlays", "nested", "Z", false)
def ty_PI : Nat → FieldType := fun k => match k with
  | 0 => .object "PictureInlays$Grid"
  | 1 => .int
  | 2 => .object "PictureInlays$Colours"
  | 3 => .object "PictureInlays$Colours"
  | 4 => .object "PictureInlays$Pieces"
  | 5 => .object "PictureInlays$Ranking"
  | 6 => .object "PictureInlays$Ranking"
  | 7 => .object "PictureInlays$Walk"
  | 8 => .object "PictureInlays$Tool"
  | 9 => .object "PictureInlays$Sheet"
  | 10 => .boolean
  | _ => .boolean
theorem nm_PI : ∀ a, a < 12 → ∀ b, b < 12 → a ≠ b → (T_PI a).2.1 ≠ (T_PI b).2.1 := by decide +kernel
theorem tyok_PI : ∀ k, k < 12 → parseFieldDescriptor (T_PI k).2.2.1 = some (ty_PI k) := by decide +kernel
theorem in0_PI : ∀ w ∈ u_ws R_PI T_PI 12, w ∈ lw_tbl ∧ goodWord w = true := by decide +kernel
theorem in_PI {c : Cond} : ∀ w ∈ u_ws R_PI T_PI 12, w ∈ c :: pw_T := fun w h => List.mem_cons_of_mem _ (List.mem_filter.mpr (in0_PI w h))
def T_Model : u_T := fun k => match k with
  | 0 => ("PictureInlaysModel", "code", "I", false)
  | 1 => ("PictureInlaysModel", "wide", "I", true)
  | 2 => ("PictureInlaysModel", "high", "I", true)
  | 3 => ("PictureInlaysModel", "kinds", "I", true)
  | 4 => ("PictureInlaysModel", "colours", "[I", true)
  | 5 => ("PictureInlaysModel", "kindColours", "[I", true)
  | 6 => ("PictureInlaysModel", "kindOf", "[I", true)
  | 7 => ("PictureInlaysModel", "firstOf", "[I", true)
  | 8 => ("PictureInlaysModel", "pieces", "I", false)
  | 9 => ("PictureInlaysModel", "firsts", "[I", true)
  | 10 => ("PictureInlaysModel", "sizes", "[I", true)
  | 11 => ("PictureInlaysModel", "shared", "[I", true)
  | 12 => ("PictureInlaysModel", "parted", "Z", false)
  | 13 => ("PictureInlaysModel", "cornerX", "[I", true)
  | 14 => ("PictureInlaysModel", "cornerY", "[I", true)
  | 15 => ("PictureInlaysModel", "corners", "I", false)
  | 16 => ("PictureInlaysModel", "nested", "Z", false)
  | 17 => ("PictureInlaysModel", "atX", "[I", true)
  | 18 => ("PictureInlaysModel", "atY", "[I", true)
  | 19 => ("PictureInlaysModel", "rows", "I", false)
  | 20 => ("PictureInlaysModel", "rowTop", "[I", true)
  | 21 => ("PictureInlaysModel", "rowHigh", "[I", true)
  | _ => ("PictureInlaysModel", "rowUsed", "[I", true)
def ty_Model : Nat → FieldType := fun k => match k with
  | 0 => .int
  | 1 => .int
  | 2 => .int
  | 3 => .int
  | 4 => .array .int
  | 5 => .array .int
  | 6 => .array .int
  | 7 => .array .int
  | 8 => .int
  | 9 => .array .int
  | 10 => .array .int
  | 11 => .array .int
  | 12 => .boolean
  | 13 => .array .int
  | 14 => .array .int
  | 15 => .int
  | 16 => .boolean
  | 17 => .array .int
  | 18 => .array .int
  | 19 => .int
  | 20 => .array .int
  | 21 => .array .int
  | _ => .array .int
theorem nm_Model : ∀ a, a < 23 → ∀ b, b < 23 → a ≠ b → (T_Model a).2.1 ≠ (T_Model b).2.1 := by decide +kernel
theorem tyok_Model : ∀ k, k < 23 → parseFieldDescriptor (T_Model k).2.2.1 = some (ty_Model k) := by decide +kernel
theorem in0_Model : ∀ w ∈ u_ws R_Model T_Model 23, w ∈ lw_tbl ∧ goodWord w = true := by decide +kernel
theorem in_Model {c : Cond} : ∀ w ∈ u_ws R_Model T_Model 23, w ∈ c :: pw_T := fun w h => List.mem_cons_of_mem _ (List.mem_filter.mpr (in0_Model w h))
def T_Brightest : u_T := fun k => match k with
  | 0 => ("PictureInlays$Ranking", "row", "[I", true)
  | _ => ("PictureInlays$Brightest", "woods", "LPictureInlays$Colours;", true)
def ty_Brightest : Nat → FieldType := fun k => match k with
  | 0 => .array .int
  | _ => .object "PictureInlays$Colours"
theorem nm_Brightest : ∀ a, a < 2 → ∀ b, b < 2 → a ≠ b → (T_Brightest a).2.1 ≠ (T_Brightest b).2.1 := by decide +kernel
theorem tyok_Brightest : ∀ k, k < 2 → parseFieldDescriptor (T_Brightest k).2.2.1 = some (ty_Brightest k) := by decide +kernel
theorem in0_Brightest : ∀ w ∈ u_ws R_Brightest T_Brightest 2, w ∈ lw_tbl ∧ goodWord w = true := by decide +kernel
theorem in_Brightest {c : Cond} : ∀ w ∈ u_ws R_Brightest T_Brightest 2, w ∈ c :: pw_T := fun w h => List.mem_cons_of_mem _ (List.mem_filter.mpr (in0_Brightest w h))
def T_Colours : u_T := fun k => match k with
  | 0 => ("PictureInlays$Colours", "red", "[I", true)
  | 1 => ("PictureInlays$Colours", "green", "[I", true)
  | _ => ("PictureInlays$Colours", "blue", "[I", true)
def ty_Colours : Nat → FieldType := fun k => match k with
  | 0 => .array .int
  | 1 => .array .int
  | _ => .array .int
theorem nm_Colours : ∀ a, a < 3 → ∀ b, b < 3 → a ≠ b → (T_Colours a).2.1 ≠ (T_Colours b).2.1 := by decide +kernel
theorem tyok_Colours : ∀ k, k < 3 → parseFieldDescriptor (T_Colours k).2.2.1 = some (ty_Colours k) := by decide +kernel
theorem in0_Colours : ∀ w ∈ u_ws R_Colours T_Colours 3, w ∈ lw_tbl ∧ goodWord w = true := by decide +kernel
theorem in_Colours {c : Cond} : ∀ w ∈ u_ws R_Colours T_Colours 3, w ∈ c :: pw_T := fun w h => List.mem_cons_of_mem _ (List.mem_filter.mpr (in0_Colours w h))
def T_Grid : u_T := fun k => match k with
  | 0 => ("PictureInlays$Grid", "width", "I", true)
  | 1 => ("PictureInlays$Grid", "height", "I", true)
  | 2 => ("PictureInlays$Grid", "places", "I", true)
  | 3 => ("PictureInlays$Grid", "column", "[I", true)
  | 4 => ("PictureInlays$Grid", "row", "[I", true)
  | _ => ("PictureInlays$Grid", "beside", "[I", true)
def ty_Grid : Nat → FieldType := fun k => match k with
  | 0 => .int
  | 1 => .int
  | 2 => .int
  | 3 => .array .int
  | 4 => .array .int
  | _ => .array .int
theorem nm_Grid : ∀ a, a < 6 → ∀ b, b < 6 → a ≠ b → (T_Grid a).2.1 ≠ (T_Grid b).2.1 := by decide +kernel
theorem tyok_Grid : ∀ k, k < 6 → parseFieldDescriptor (T_Grid k).2.2.1 = some (ty_Grid k) := by decide +kernel
theorem in0_Grid : ∀ w ∈ u_ws R_Grid T_Grid 6, w ∈ lw_tbl ∧ goodWord w = true := by decide +kernel
theorem in_Grid {c : Cond} : ∀ w ∈ u_ws R_Grid T_Grid 6, w ∈ c :: pw_T := fun w h => List.mem_cons_of_mem _ (List.mem_filter.mpr (in0_Grid w h))
def T_Highest : u_T := fun k => match k with
  | 0 => ("PictureInlays$Ranking", "row", "[I", true)
  | _ => ("PictureInlays$Highest", "pieces", "LPictureInlays$Pieces;", true)
def ty_Highest : Nat → FieldType := fun k => match k with
  | 0 => .array .int
  | _ => .object "PictureInlays$Pieces"
theorem nm_Highest : ∀ a, a < 2 → ∀ b, b < 2 → a ≠ b → (T_Highest a).2.1 ≠ (T_Highest b).2.1 := by decide +kernel
theorem tyok_Highest : ∀ k, k < 2 → parseFieldDescriptor (T_Highest k).2.2.1 = some (ty_Highest k) := by decide +kernel
theorem in0_Highest : ∀ w ∈ u_ws R_Highest T_Highest 2, w ∈ lw_tbl ∧ goodWord w = true := by decide +kernel
theorem in_Highest {c : Cond} : ∀ w ∈ u_ws R_Highest T_Highest 2, w ∈ c :: pw_T := fun w h => List.mem_cons_of_mem _ (List.mem_filter.mpr (in0_Highest w h))
def T_Laying : u_T := fun k => match k with
  | 0 => ("PictureInlays$Ranking", "row", "[I", true)
  | _ => ("PictureInlays$Laying", "pieces", "LPictureInlays$Pieces;", true)
def ty_Laying : Nat → FieldType := fun k => match k with
  | 0 => .array .int
  | _ => .object "PictureInlays$Pieces"
theorem nm_Laying : ∀ a, a < 2 → ∀ b, b < 2 → a ≠ b → (T_Laying a).2.1 ≠ (T_Laying b).2.1 := by decide +kernel
theorem tyok_Laying : ∀ k, k < 2 → parseFieldDescriptor (T_Laying k).2.2.1 = some (ty_Laying k) := by decide +kernel
theorem in0_Laying : ∀ w ∈ u_ws R_Laying T_Laying 2, w ∈ lw_tbl ∧ goodWord w = true := by decide +kernel
theorem in_Laying {c : Cond} : ∀ w ∈ u_ws R_Laying T_Laying 2, w ∈ c :: pw_T := fun w h => List.mem_cons_of_mem _ (List.mem_filter.mpr (in0_Laying w h))
def T_Pieces : u_T := fun k => match k with
  | 0 => ("PictureInlays$Pieces", "grid", "LPictureInlays$Grid;", true)
  | 1 => ("PictureInlays$Pieces", "woodAt", "[I", true)
  | 2 => ("PictureInlays$Pieces", "numberAt", "[I", true)
  | 3 => ("PictureInlays$Pieces", "waiting", "[I", true)
  | 4 => ("PictureInlays$Pieces", "sides", "[I", true)
  | 5 => ("PictureInlays$Pieces", "first", "[I", true)
  | 6 => ("PictureInlays$Pieces", "size", "[I", true)
  | 7 => ("PictureInlays$Pieces", "leastX", "[I", true)
  | 8 => ("PictureInlays$Pieces", "mostX", "[I", true)
  | 9 => ("PictureInlays$Pieces", "mostY", "[I", true)
  | _ => ("PictureInlays$Pieces", "count", "I", false)
def ty_Pieces : Nat → FieldType := fun k => match k with
  | 0 => .object "PictureInlays$Grid"
  | 1 => .array .int
  | 2 => .array .int
  | 3 => .array .int
  | 4 => .array .int
  | 5 => .array .int
  | 6 => .array .int
  | 7 => .array .int
  | 8 => .array .int
  | 9 => .array .int
  | _ => .int
theorem nm_Pieces : ∀ a, a < 11 → ∀ b, b < 11 → a ≠ b → (T_Pieces a).2.1 ≠ (T_Pieces b).2.1 := by decide +kernel
theorem tyok_Pieces : ∀ k, k < 11 → parseFieldDescriptor (T_Pieces k).2.2.1 = some (ty_Pieces k) := by decide +kernel
theorem in0_Pieces : ∀ w ∈ u_ws R_Pieces T_Pieces 11, w ∈ lw_tbl ∧ goodWord w = true := by decide +kernel
theorem in_Pieces {c : Cond} : ∀ w ∈ u_ws R_Pieces T_Pieces 11, w ∈ c :: pw_T := fun w h => List.mem_cons_of_mem _ (List.mem_filter.mpr (in0_Pieces w h))
def T_Sheet : u_T := fun k => match k with
  | 0 => ("PictureInlays$Sheet", "pieces", "LPictureInlays$Pieces;", true)
  | 1 => ("PictureInlays$Sheet", "highest", "LPictureInlays$Ranking;", true)
  | 2 => ("PictureInlays$Sheet", "lyingX", "[I", true)
  | 3 => ("PictureInlays$Sheet", "lyingY", "[I", true)
  | 4 => ("PictureInlays$Sheet", "rowTop", "[I", true)
  | 5 => ("PictureInlays$Sheet", "rowHeight", "[I", true)
  | 6 => ("PictureInlays$Sheet", "rowUsed", "[I", true)
  | 7 => ("PictureInlays$Sheet", "rows", "I", false)
  | _ => ("PictureInlays$Sheet", "bottom", "I", false)
def ty_Sheet : Nat → FieldType := fun k => match k with
  | 0 => .object "PictureInlays$Pieces"
  | 1 => .object "PictureInlays$Ranking"
  | 2 => .array .int
  | 3 => .array .int
  | 4 => .array .int
  | 5 => .array .int
  | 6 => .array .int
  | 7 => .int
  | _ => .int
theorem nm_Sheet : ∀ a, a < 9 → ∀ b, b < 9 → a ≠ b → (T_Sheet a).2.1 ≠ (T_Sheet b).2.1 := by decide +kernel
theorem tyok_Sheet : ∀ k, k < 9 → parseFieldDescriptor (T_Sheet k).2.2.1 = some (ty_Sheet k) := by decide +kernel
theorem in0_Sheet : ∀ w ∈ u_ws R_Sheet T_Sheet 9, w ∈ lw_tbl ∧ goodWord w = true := by decide +kernel
theorem in_Sheet {c : Cond} : ∀ w ∈ u_ws R_Sheet T_Sheet 9, w ∈ c :: pw_T := fun w h => List.mem_cons_of_mem _ (List.mem_filter.mpr (in0_Sheet w h))
def T_Tool : u_T := fun k => match k with
  | 0 => ("PictureInlays$Tool", "grid", "LPictureInlays$Grid;", true)
  | 1 => ("PictureInlays$Tool", "pieces", "LPictureInlays$Pieces;", true)
  | 2 => ("PictureInlays$Tool", "marked", "[Z", true)
  | _ => ("PictureInlays$Tool", "covered", "I", false)
def ty_Tool : Nat → FieldType := fun k => match k with
  | 0 => .object "PictureInlays$Grid"
  | 1 => .object "PictureInlays$Pieces"
  | 2 => .array .boolean
  | _ => .int
theorem nm_Tool : ∀ a, a < 4 → ∀ b, b < 4 → a ≠ b → (T_Tool a).2.1 ≠ (T_Tool b).2.1 := by decide +kernel
theorem tyok_Tool : ∀ k, k < 4 → parseFieldDescriptor (T_Tool k).2.2.1 = some (ty_Tool k) := by decide +kernel
theorem in0_Tool : ∀ w ∈ u_ws R_Tool T_Tool 4, w ∈ lw_tbl ∧ goodWord w = true := by decide +kernel
theorem in_Tool {c : Cond} : ∀ w ∈ u_ws R_Tool T_Tool 4, w ∈ c :: pw_T := fun w h => List.mem_cons_of_mem _ (List.mem_filter.mpr (in0_Tool w h))
def T_Walk : u_T := fun k => match k with
  | 0 => ("PictureInlays$Walk", "pieces", "LPictureInlays$Pieces;", true)
  | 1 => ("PictureInlays$Walk", "mostSteps", "I", true)
  | 2 => ("PictureInlays$Walk", "turnX", "[I", true)
  | 3 => ("PictureInlays$Walk", "turnY", "[I", true)
  | 4 => ("PictureInlays$Walk", "x", "I", false)
  | 5 => ("PictureInlays$Walk", "y", "I", false)
  | 6 => ("PictureInlays$Walk", "way", "I", false)
  | _ => ("PictureInlays$Walk", "corners", "I", false)
def ty_Walk : Nat → FieldType := fun k => match k with
  | 0 => .object "PictureInlays$Pieces"
  | 1 => .int
  | 2 => .array .int
  | 3 => .array .int
  | 4 => .int
  | 5 => .int
  | 6 => .int
  | _ => .int
theorem nm_Walk : ∀ a, a < 8 → ∀ b, b < 8 → a ≠ b → (T_Walk a).2.1 ≠ (T_Walk b).2.1 := by decide +kernel
theorem tyok_Walk : ∀ k, k < 8 → parseFieldDescriptor (T_Walk k).2.2.1 = some (ty_Walk k) := by decide +kernel
theorem in0_Walk : ∀ w ∈ u_ws R_Walk T_Walk 8, w ∈ lw_tbl ∧ goodWord w = true := by decide +kernel
theorem in_Walk {c : Cond} : ∀ w ∈ u_ws R_Walk T_Walk 8, w ∈ c :: pw_T := fun w h => List.mem_cons_of_mem _ (List.mem_filter.mpr (in0_Walk w h))
abbrev vwCl : List vw_C := [(R_PI, T_PI, 12), (R_Model, T_Model, 23), (R_Brightest, T_Brightest, 2), (R_Colours, T_Colours, 3), (R_Grid, T_Grid, 6), (R_Highest, T_Highest, 2), (R_Laying, T_Laying, 2), (R_Pieces, T_Pieces, 11), (R_Sheet, T_Sheet, 9), (R_Tool, T_Tool, 4), (R_Walk, T_Walk, 8)]
end
section
/-! OWN ROWS: a world of fixed cells. u : pS is the state (ints by number, arrays by number); G : pG what never changes (lengths by cell, final ints, fixed arrays). -/
abbrev pS : Type := (Nat → Int32) × (Nat → Nat → Int32)
abbrev pG : Type := (Nat → Nat) × (Nat → Int32) × (Nat → Nat → Int32)
def pw_sa (u : pS) (k : Nat) (f : Nat → Int32) : pS := (u.1, va_up u.2 k f)
def pw_si (u : pS) (k : Nat) (x : Int32) : pS := (va_up u.1 k x, u.2)
/-- which cells a method over the n cells at a may change: those, and what is new -/
def pw_F (n : Nat) (a : Nat → Nat) (sz : Nat) : Nat → Prop := fun q => (∃ k, k < n ∧ q = a k) ∨ sz ≤ q
def pw_I (n : Nat) (a : Nat → Nat) : Prop := ∀ j k, j < n → k < n → a j = a k → j = k
abbrev pw_B (D : va_G) (wd : pS → va_W) (tys : List (ClassId × FieldType)) (u : pS) (t : State) : Prop := va_P D vwCl (wd u) t.heap ∧ va_K D vwCl tys t
abbrev pw_pre (D : va_G) (wd : pS → va_W) (tys : List (ClassId × FieldType)) (sz : Nat) (u : pS) (U : State) : Prop := U.heap.size = sz ∧ va_P D vwCl (wd u) U.heap ∧ va_K D vwCl tys U
abbrev pw_Ev (below : List Frame) (args : Array Value) (s : State) (D : va_G) (wd : pS → va_W) (tys : List (ClassId × FieldType)) (A : Nat → Prop) (Q : pS → Prop) : State → Prop := MQ below (va_Qv (fun u : pS => Q u) (pw_B D wd tys) A) args s 0 0 A
abbrev pw_Ei (below : List Frame) (args : Array Value) (s : State) (D : va_G) (wd : pS → va_W) (tys : List (ClassId × FieldType)) (A : Nat → Prop) (Q : Int32 → pS → Prop) : State → Prop := MQ below (va_Qi (fun (r : Int32) (u : pS) => Q r u) (pw_B D wd tys) A) args s 0 0 A
def pw_C (p : Program) (s : State) (m : MethodId) (args : Array Value) (meth : Method) (c : Code) (cc : ByteArray) (nL : Nat) (own : String) (ret : Option FieldType) (Ts : List Cond) (A : Nat → Prop) : Prop :=
  p.tables.exec = Jvm.exec ∧ c.code = cc ∧ meth.sig.returnType = ret ∧ c.maxLocals = nL ∧ s.vm.findClass own = some m.cls ∧ (∀ w ∈ Ts, w.before args s = true) ∧ meth.locks = false ∧ (∀ q : Nat, s.heap.size ≤ q → A q)
def pw_K (s : State) (D : va_G) (n : Nat) (a : Nat → Nat) (tys : List (ClassId × FieldType)) (A : Nat → Prop) : Prop := va_K D vwCl tys s ∧ pw_I n a ∧ ∀ k, k < n → A (a k)
theorem pw_FA {n : Nat} {a : Nat → Nat} {A : Nat → Prop} {H0 H : Heap} {locs : List Loc} (hS : va_S A H0 H locs) (hF : ∀ k, k < n → A (a k)) (hA : ∀ q : Nat, H0.size ≤ q → A q) : ∀ q : Nat, pw_F n a H.size q → A q := by
  intro q h
  rcases h with ⟨k, hk, rfl⟩ | h
  · exact hF k hk
  · exact hA q (Nat.le_trans hS.1 h)
theorem pw_blind {av : List Value} {D : va_G} {wd : pS → va_W} {tys : List (ClassId × FieldType)} {sz : Nat} {u : pS} : FrameBlind (va_Pc av (pw_pre D wd tys sz u)) := by
  intro a U g mk q
  obtain ⟨q0, q1, qP, qK⟩ := q
  exact ⟨q0, q1, qP, va_K.moved (u := U) (U := U.calling g mk a) (Vm.Alike.refl U.vm) qK⟩
theorem pw_addrs {n : Nat} {a : Nat → Nat} {ws : va_W} {A : Nat → Prop} (he : ws.map (fun q => q.1) = (List.range n).map a) (hI : pw_I n a) (hF : ∀ k, k < n → A (a k)) : va_D A ws := by
  have key : ∀ (k : Nat) (q : Nat × va_E), ws[k]? = some q → k < n ∧ q.1 = a k := by
    intro k q hk
    have h1 : (ws.map (fun q => q.1))[k]? = some q.1 := by rw [List.getElem?_map, hk]; rfl
    rw [he, List.getElem?_map] at h1
    by_cases hkn : k < n
    · rw [List.getElem?_range hkn] at h1
      exact ⟨hkn, (Option.some.inj h1).symm⟩
    · rw [List.getElem?_eq_none (by rw [List.length_range]; omega)] at h1
      cases h1
  refine ⟨fun i j p q hi hj hpq => ?_, fun k q hk => ?_⟩
  · obtain ⟨h1, h2⟩ := key i p hi
    obtain ⟨h3, h4⟩ := key j q hj
    exact hI i j h1 h3 (by rw [← h2, ← h4]; exact hpq)
  · obtain ⟨h1, h2⟩ := key k q hk
    rw [h2]
    exact hF k h1
section
variable {p : Program} {l : Launch} {e : Env} {R : Room} {s : State} {m : MethodId} {args : Array Value} {below : List Frame} {meth : Method} {c : Code} {H : Heap} {locs : List Loc} {cells slots : Nat} {Z : State → Prop}
variable {pc : Nat} {ls : Array Slot} {rest st0 : List Value} {aa : Array Value} {D : va_G} {n : Nat} {a : Nat → Nat} {wd : pS → va_W} {tys : List (ClassId × FieldType)} {A : Nat → Prop}
theorem cc_i {Q : Int32 → pS → Prop} (hr : va_Run p l e R s m args below meth c H locs cells slots 0 0 (F0 m pc ls st0) rest (va_Qi (fun (r : Int32) (u : pS) => Q r u) (pw_B D wd tys) (pw_F n a H.size) aa) (pw_F n a H.size)) (hS : va_S A s.heap H locs) (hF : ∀ k, k < n → A (a k)) (hA : ∀ q : Nat, s.heap.size ≤ q → A q)
    (kk : ∀ (r : Int32) (u : pS) (H : Heap) (locs : List Loc), va_P D vwCl (wd u) H → va_S A s.heap H locs → Q r u → W p l e R s m args below meth c H locs cells slots Z (F0 m (pc + 3) ls (.int r :: rest))) : W p l e R s m args below meth c H locs cells slots Z (F0 m pc ls st0) :=
  va_calli hr hS (fun q _ h => pw_FA hS hF hA q h) (pw_FA hS hF hA) (fun r u t H1 locs1 ht hvm hw hB hz1 hk1 hS1 => kk r u H1 locs1 (by rw [← ht]; exact hB.1) hS1 hw)
theorem cc_v {Q : pS → Prop} (hr : va_Run p l e R s m args below meth c H locs cells slots 0 0 (F0 m pc ls st0) rest (va_Qv (fun u : pS => Q u) (pw_B D wd tys) (pw_F n a H.size) aa) (pw_F n a H.size)) (hS : va_S A s.heap H locs) (hF : ∀ k, k < n → A (a k)) (hA : ∀ q : Nat, s.heap.size ≤ q → A q)
    (kk : ∀ (u : pS) (H : Heap) (locs : List Loc), va_P D vwCl (wd u) H → va_S A s.heap H locs → Q u → W p l e R s m args below meth c H locs cells slots Z (F0 m (pc + 3) ls rest)) : W p l e R s m args below meth c H locs cells slots Z (F0 m pc ls st0) :=
  va_callv hr hS (fun q _ h => pw_FA hS hF hA q h) (pw_FA hS hF hA) (fun u t H1 locs1 ht hvm hw hB hz1 hk1 hS1 => kk u H1 locs1 (by rw [← ht]; exact hB.1) hS1 hw)
end
section
variable {c1 : Cond} {R : Room} {s : State} {args : Array Value} {own C owner : String} {index maxL : Nat} {x y : MethodName} {bytes : ByteArray} {ret : Option FieldType} {rm : Room}
theorem pw_cwS (n : Nat) (hts : ∀ w ∈ c1 :: pw_T, w.before args s = true) (kc : Cond.code y bytes maxL ret ∈ pw_T) (ki : Cond.initialized y.cls ∈ pw_T) (kl : Cond.methodLink own index y ∈ pw_T) (kt : Cond.static y ∈ pw_T)
    (hd : y.cls ≠ "java/lang/invoke/MethodHandle" ∧ y.cls ≠ "java/lang/invoke/VarHandle" ∧ (parseMethodDescriptor y.desc).map (fun d => d.parameters.length) = some n) (hR : rm.frames + 1 ≤ R.frames ∧ 8 + (maxL + 11) + rm.locals ≤ R.locals) :
    CallB R s args own index y bytes maxL ret (Cond.code y bytes maxL ret :: pw_T) rm rm.cells rm.slots n ∧ (Cond.static y).before args s = true :=
  ⟨callB_of n hts (pw_good (pw_all kc)) rfl rfl rfl (hts _ (List.mem_cons_of_mem _ ki)) (hts _ (List.mem_cons_of_mem _ kl)) hd hR, hts _ (List.mem_cons_of_mem _ kt)⟩
theorem pw_cwV (n : Nat) (hts : ∀ w ∈ c1 :: pw_T, w.before args s = true) (kc : Cond.code y bytes maxL ret ∈ pw_T) (ki : Cond.initialized y.cls ∈ pw_T) (kl : Cond.methodLink own index y ∈ pw_T) (kn : Cond.instanceMethod y ∈ pw_T) (ks : Cond.selects C y y ∈ pw_T)
    (hd : y.cls ≠ "java/lang/invoke/MethodHandle" ∧ y.cls ≠ "java/lang/invoke/VarHandle" ∧ (parseMethodDescriptor y.desc).map (fun d => d.parameters.length) = some n) (hR : rm.frames + 1 ≤ R.frames ∧ 8 + (maxL + 11) + rm.locals ≤ R.locals) :
    CallW R s args own C index y bytes maxL ret (Cond.code y bytes maxL ret :: pw_T) rm rm.cells rm.slots n :=
  ⟨callB_of n hts (pw_good (pw_all kc)) rfl rfl rfl (hts _ (List.mem_cons_of_mem _ ki)) (hts _ (List.mem_cons_of_mem _ kl)) hd hR, hts _ (List.mem_cons_of_mem _ kn), hts _ (List.mem_cons_of_mem _ ks)⟩
theorem pw_wsU (kc : Cond.code y bytes maxL ret ∈ pw_T) (ki : Cond.initialized y.cls ∈ pw_T) (kl : Cond.methodLink own index x ∈ pw_T) (km : Cond.sameMethod x.cls owner x.name x.desc ∈ pw_T) (ks : Cond.selects C x y ∈ pw_T) (kn : Cond.instanceMethod y ∈ pw_T) :
    GoodIn (c1 :: pw_T) (va_wsU own index C owner x y (Cond.code y bytes maxL ret :: pw_T)) :=
  pw_good (show ∀ w ∈ ([.methodLink own index x, .sameMethod x.cls owner x.name x.desc, .selects C x y, .instanceMethod y, .initialized y.cls] : List Cond) ++ (Cond.code y bytes maxL ret :: pw_T), w ∈ pw_T from
    List.forall_mem_append.mpr ⟨List.forall_mem_cons.mpr ⟨kl, List.forall_mem_cons.mpr ⟨km, List.forall_mem_cons.mpr ⟨ks, List.forall_mem_cons.mpr ⟨kn, List.forall_mem_cons.mpr ⟨ki, fun _ h => absurd h List.not_mem_nil⟩⟩⟩⟩⟩, pw_all kc⟩)
theorem pw_cwU (n : Nat) (hts : ∀ w ∈ c1 :: pw_T, w.before args s = true) (kc : Cond.code y bytes maxL ret ∈ pw_T) (ki : Cond.initialized y.cls ∈ pw_T) (kl : Cond.methodLink own index x ∈ pw_T) (km : Cond.sameMethod x.cls owner x.name x.desc ∈ pw_T) (ks : Cond.selects C x y ∈ pw_T) (kn : Cond.instanceMethod y ∈ pw_T)
    (hyx : y = ⟨owner, x.name, x.desc⟩) (hd : owner ≠ "java/lang/invoke/MethodHandle" ∧ owner ≠ "java/lang/invoke/VarHandle" ∧ (parseMethodDescriptor x.desc).map (fun d => d.parameters.length) = some n) (hR : rm.frames + 1 ≤ R.frames ∧ 8 + (maxL + 11) + rm.locals ≤ R.locals) :
    va_CU R s args own C owner index x y bytes maxL ret (Cond.code y bytes maxL ret :: pw_T) rm rm.cells rm.slots n := va_cwU n hts (pw_wsU kc ki kl km ks kn) rfl rfl rfl hyx hd hR
theorem pw_cwO (n : Nat) (hts : ∀ w ∈ c1 :: pw_T, w.before args s = true) (kc : Cond.code y bytes maxL ret ∈ pw_T) (ki : Cond.initialized y.cls ∈ pw_T) (kl : Cond.methodLink own index x ∈ pw_T) (km : Cond.sameMethod x.cls owner x.name x.desc ∈ pw_T) (ks : Cond.selects C x y ∈ pw_T) (kn : Cond.instanceMethod y ∈ pw_T)
    (hz : va_Nw (.declares ⟨owner, x.name, x.desc⟩) s) (hd : owner ≠ "java/lang/invoke/MethodHandle" ∧ owner ≠ "java/lang/invoke/VarHandle" ∧ (parseMethodDescriptor x.desc).map (fun d => d.parameters.length) = some n) (hR : rm.frames + 1 ≤ R.frames ∧ 8 + (maxL + 11) + rm.locals ≤ R.locals) :
    va_CU R s args own C owner index x y bytes maxL ret (Cond.code y bytes maxL ret :: pw_T) rm rm.cells rm.slots n := va_cwA n hts (pw_wsU kc ki kl km ks kn) rfl rfl rfl hz hd hR
end
end
section
/-! OWN ROWS: methods that may throw. px_Met: a contract with two ends (it returns: at most mc cells of ms slots are new; it throws: mx of nx). -/
def px_End (st : State) (o : Outcome) (t : State) (L : List Loc) (mc ms mx nx : Nat) : Prop :=
  st.WarmedH t.vm ∧ (((∃ v, o = .returned v) ∧ st.sameButNew ({ t with vm := st.vm } : State) L mc ms) ∨ ((∃ x, o = .threw x) ∧ st.sameButNew ({ t with vm := st.vm } : State) L mx nx))
def px_Met (l : Launch) (y : MethodName) (ws : List Cond) (rm : Room) (Pc : Array Value → State → Prop) (Qc : Array Value → State → Outcome → State → Prop) (mc ms mx nx : Nat) (free : Addr → Prop) : Prop :=
  MetFree l y (headSpec ws rm) Pc (fun _ _ _ _ _ => True) (fun a st o t => Qc a st o t ∧ ∃ L, px_End st o t L mc ms mx nx ∧ ∀ q ∈ L, free q.base)
def px_MQ (below : List Frame) (Qc : Array Value → State → Outcome → State → Prop) (a : Array Value) (s : State) (mc ms mx nx : Nat) (free : Addr → Prop) : State → Prop := fun t =>
  ∃ o, t.status = .running ∧ Ended t below o ∧ Qc a s o t ∧ ∃ L, px_End s o t L mc ms mx nx ∧ ∀ q ∈ L, free q.base
theorem px_ofMQ {below : List Frame} {Qc Qd : Array Value → State → Outcome → State → Prop} {a : Array Value} {s : State} {mc ms mx nx : Nat} {free : Addr → Prop} (hq : ∀ o t, Qc a s o t → Qd a s o t) {t : State} (h : MQ below Qc a s mc ms free t) : px_MQ below Qd a s mc ms mx nx free t := by
  obtain ⟨o, h1, h2, h3, L, ⟨h4, h5, h6⟩, h7⟩ := h
  exact ⟨o, h1, h2, hq _ _ h3, L, ⟨h5, Or.inl ⟨h4, h6⟩⟩, h7⟩
section
variable {p : Program} {l : Launch} {e : Env} {R : Room} {s : State} {m : MethodId} {args : Array Value} {below : List Frame} {meth : Method} {c : Code} {H : Heap} {locs : List Loc} {cells slots : Nat} {Z Z' : State → Prop} {g : JFrame}
theorem px_mono (h : ∀ t, Z t → Z' t) (k : W p l e R s m args below meth c H locs cells slots Z g) : W p l e R s m args below meth c H locs cells slots Z' g := by
  intro T hT X
  obtain ⟨t, a, b⟩ := k T hT X
  exact ⟨t, a, h t b⟩
theorem px_ofW {y : MethodName} {ws ws' : List Cond} {rm : Room} {Pc : Array Value → State → Prop} {Qc : Array Value → State → Outcome → State → Prop} {mc ms mx nx : Nat} {free : Addr → Prop} {cc : ByteArray} {maxL : Nat} {ret : Option FieldType}
    (hy : plainName y.cls = true) (hw : ws = Cond.code y cc maxL ret :: ws')
    (body : ∀ p e s m args below meth c s₁, BodyLoose p l y (headSpec ws rm) cc maxL ret e s m args below meth c s₁ → c.maxLocals = maxL → c.exceptionTable.isEmpty = true → Pc args s →
      W p l e (headSpec ws rm).room s m args below meth c s.heap [] 0 0 (px_MQ below Qc args s mc ms mx nx free) (entryFrame m args maxL)) : px_Met l y ws rm Pc Qc mc ms mx nx free := by
  refine MetFree.of_bodyS (code := cc) (maxLocals := maxL) (ret := ret) hy ?_ ?_
  · intro args s m h hn
    obtain ⟨meth, c, h1, h2, h3, h4, h5, h6, -, -⟩ := Cond.code_spec hn (atoms_spec (ws := ws) h _ (by rw [hw]; exact List.mem_cons_self))
    exact ⟨meth, c, h1, h2, h3, h4, h5, h6⟩
  · intro p e s m args below meth c s₁ B hml hP _
    have hh0 : s₁.heap = s.heap := by rw [B.state]; rfl
    have he : c.exceptionTable.isEmpty = true := B.noHandlers (atoms_spec (ws := ws) B.pre _ (by rw [hw]; exact List.mem_cons_self))
    obtain ⟨t, a1, o, b1, b2, b3⟩ := body p e s m args below meth c s₁ B hml he hP s₁ hh0 (Stand.of_body B)
    exact ⟨t, o, a1, b1, b2, ⟨b3.1, b3.2⟩⟩
/-- behind the instruction that calls: the callee, by its contract, comes back or throws -/
theorem px_core {U : State} (X : Stand p l e R s m args below meth c U locs cells slots) {g : JFrame} (hg : g.method = m) (hsize : g.locals.size = c.maxLocals) {ig : Instr} {len : Nat} (hdg : decode c.code g.pc = .ok (ig, len)) {Wd : Nat} (hW : 2 * g.monitorRoom + (g.stack.map fun v => v.category).sum ≤ Wd)
    {y : MethodName} {mk : MethodId} {a : Array Value} {methY : Method} {cY : Code} {maxL : Nat} (hn : U.methodNamed? y = some mk) (hmY : U.vm.method? mk = some methY) (hcY : methY.code = some cY) (hlY : cY.maxLocals = maxL) (hini : (Cond.initialized y.cls).before a U = true)
    {ws : List Cond} {rm : Room} {Pc : Array Value → State → Prop} {Qc : Array Value → State → Outcome → State → Prop} {mc ms mx nx : Nat} {free : Addr → Prop} (hM : px_Met l y ws rm Pc Qc mc ms mx nx free)
    (hws : ∀ w ∈ ws, w.before a U = true) (hframes : rm.frames + 1 ≤ R.frames) (hlocals : Wd + (maxL + 11) + rm.locals ≤ R.locals) (hcells : cells + rm.cells ≤ R.cells) (hslots : slots + rm.slots ≤ R.slots) (hPc : Pc a (U.calling g mk a)) :
    ∃ (o : Outcome) (t : State) (L : List Loc), Qc a (U.calling g mk a) o t ∧ (∀ q ∈ L, free q.base) ∧
      ((∃ (v : Option Value) (T' : State), o = .returned v ∧ T'.heap = t.heap ∧ T'.vm = t.vm ∧ Stand p l e R s m args below meth c T' (locs ++ L) (cells + mc) (slots + ms) ∧ Steps p.tables e below (doInvoke e (U.setTop g) [] mk a).1 (T'.setTop { g with pc := g.pc + len, stack := v.toList ++ g.stack })) ∨
       (∃ (x : Addr) (T' : State), o = .threw x ∧ T'.heap = t.heap ∧ T'.vm = t.vm ∧ Stand p l e R s m args below meth c T' (locs ++ L) (cells + mx) (slots + nx) ∧ Steps p.tables e below (doInvoke e (U.setTop g) [] mk a).1 ((T'.setTop g).pushFrame (.throwing x)))) := by
  obtain ⟨kY, hkY, -⟩ := className_of_methodNamed hn
  have hinitY : kY.init = .initialized := Cond.initialized_spec (findClass_of_methodNamed hn) hkY hini
  have h : At U g.method c below := by rw [hg]; exact X.here
  have happ : (headSpec ws rm).appliesLoose y e.platform (U.calling g mk a) = true :=
    Spec.appliesLoose_calling (g := g) h hdg hn hkY hinitY (X.room_calling (g := g) (R' := rm) hsize hmY hcY hframes (by rw [hlY]; omega) hcells hslots) (atoms_intro hws)
  have hfr : (U.setTop g).frames = [.java g] ++ below := by rw [State.frames_setTop' g h.top, X.tail]; rfl
  obtain ⟨o, s₂, hsteps, -, hend, hq, L, hE, hL⟩ := Steps.callFree hM p X.admits X.cas X.clock (acts := []) hfr happ hPc trivial
  rw [hfr] at hend
  obtain ⟨hW2, hE⟩ := hE
  rcases hE with ⟨⟨v, rfl⟩, hs⟩ | ⟨⟨x, rfl⟩, hs⟩
  · obtain ⟨T', X', -, -, ht⟩ := X.outOf hg hdg hend hW2 hs
    refine ⟨_, s₂, L, hq, hL, Or.inl ⟨v, T', rfl, ?_, ?_, X', ?_⟩⟩
    · rw [ht]; rfl
    · rw [ht]; rfl
    · rw [← ht]; exact hsteps
  · obtain ⟨T', X', -, -, ht⟩ := X.outOfThrown hg hend hW2 hs
    refine ⟨_, s₂, L, hq, hL, Or.inr ⟨x, T', rfl, ?_, ?_, X', ?_⟩⟩
    · rw [ht]; rfl
    · rw [ht]; rfl
    · rw [← ht]; exact hsteps
end
/-- the launch makes no stack traces -/
def px_L (l : Launch) : Prop := ∀ e : Env, l.admits e → e.platform.stackTraces = false
theorem px_none {c : Code} (h : c.exceptionTable.isEmpty = true) : ∀ (pc : Nat), ∀ x ∈ c.exceptionTable.toList, covers x pc = false := by
  have h0 : c.exceptionTable.size = 0 := by simpa [Array.isEmpty] using h
  have h1 : c.exceptionTable.toList = [] := List.eq_nil_of_length_eq_zero (by simpa using h0)
  intro pc x hx
  rw [h1] at hx
  cases hx
/-- a call that may throw, as the caller's walk sees it -/
def px_Run (p : Program) (l : Launch) (e : Env) (R : Room) (s : State) (m : MethodId) (args : Array Value) (below : List Frame) (meth : Method) (c : Code) (H : Heap) (locs : List Loc) (cells slots mc ms mx nx : Nat) (g : JFrame) (rest : List Value) (Qa : State → Outcome → State → Prop) (free : Addr → Prop) : Prop :=
  ∀ T : State, T.heap = H → Stand p l e R s m args below meth c T locs cells slots → ∃ (o : Outcome) (st₀ t : State) (L : List Loc), st₀.heap = H ∧ Qa st₀ o t ∧ (∀ q ∈ L, free q.base) ∧
    ((∃ (v : Option Value) (T' : State), o = .returned v ∧ T'.heap = t.heap ∧ T'.vm = t.vm ∧ Stand p l e R s m args below meth c T' (locs ++ L) (cells + mc) (slots + ms) ∧ Goes p e below T g T' { g with pc := g.pc + 3, stack := v.toList ++ rest }) ∨
     (∃ (x : Addr) (T' : State), o = .threw x ∧ T'.heap = t.heap ∧ T'.vm = t.vm ∧ Stand p l e R s m args below meth c T' (locs ++ L) (cells + mx) (slots + nx) ∧ ∀ target, Steps p.tables e below ((T'.setTop { g with stack := rest }).pushFrame (.throwing x)) target → Steps p.tables e below (T.setTop g) target))
section
variable {p : Program} {l : Launch} {e : Env} {R : Room} {s : State} {m : MethodId} {args : Array Value} {below : List Frame} {meth : Method} {c : Code} {H : Heap} {locs : List Loc} {cells slots : Nat}
  {Ts ws ws' : List Cond} {cc bytes : ByteArray} {nL maxL index n mc ms mx nx k1 k2 : Nat} {own C : String} {y : MethodName} {ret : Option FieldType} {rm : Room} {Pc : Array Value → State → Prop} {Qc : Array Value → State → Outcome → State → Prop} {free : Addr → Prop}
  {b : Addr} {As rest : List Value} {g : JFrame}
theorem px_runS (S : CallFix p m c cc nL s args Ts own) (hM : px_Met l y ws rm Pc Qc mc ms mx nx free) (cw : CallB R s args own index y bytes maxL ret ws rm k1 k2 n ∧ (Cond.static y).before args s = true) (hp : PreS s H Pc As)
    (hg : g.method = m) (hn : As.length = n) (hsize : g.locals.size = nL) (hstack : g.stack = As.reverse ++ rest) (hW : 2 * g.monitorRoom + (rest.map fun v => v.category).sum ≤ 8) (hdg : decode cc g.pc = .ok (.invokestatic index, 3)) (hf : cells + rm.cells ≤ R.cells ∧ slots + rm.slots ≤ R.slots) :
    px_Run p l e R s m args below meth c H locs cells slots mc ms mx nx g rest (Qc As.toArray) free := by
  obtain ⟨⟨-, -, hfr, hlo, hws, -, hcode, hini, hy, hlen, hl⟩, hstt⟩ := cw
  obtain ⟨hx, hb, hml, ho, -⟩ := S
  intro T hT X
  obtain ⟨mk, hnamed⟩ := Cond.code_named hcode
  obtain ⟨methM, cM, hmethM, hcM, -, hlM, -, -, -, hsigM⟩ := Cond.code_spec hnamed hcode
  have hstatic : methM.isStatic = true := Cond.static_spec hnamed hmethM hstt
  obtain ⟨kP, hkP, -⟩ := className_of_methodNamed hnamed
  have hinitP : kP.init = .initialized := Cond.initialized_spec (findClass_of_methodNamed hnamed) hkP hini
  obtain ⟨vm₁, X₁, hstep₁⟩ := X.invokestatic hx ho hl hnamed hmethM hstatic hkP hinitP hy (g := g) hg (argsL := As) (rest := rest) (hn.trans (hlen _ hsigM)) hstack (by rw [hb]; exact hdg)
  obtain ⟨o, t, L, hq, hL, hE⟩ := px_core X₁ (g := { g with stack := rest }) hg (hsize.trans hml.symm) (ig := .invokestatic index) (len := 3) (by rw [hb]; exact hdg) hW (y := y) (mk := mk) (a := As.toArray) (X₁.named hnamed) (by rw [X₁.warmed.alike.method?]; exact hmethM) hcM hlM
    (word_at X₁.warmed (Or.inl (by first | rfl | simp [Cond.onTables, Cond.keeps, Cond.steady])) hini) hM (fun w hw => hws w hw _ _ X₁.warmed) hfr hlo hf.1 hf.2 (hp.1 _ _ _ _ (hp.2 (T.setVm vm₁) hT X₁.warmed))
  refine ⟨o, _, t, L, ?_, hq, hL, ?_⟩
  · exact hT
  rcases hE with ⟨v, T', h1, h2, h3, X', st⟩ | ⟨x, T', h1, h2, h3, X', st⟩
  · exact Or.inl ⟨v, T', h1, h2, h3, X', fun target h => hstep₁ _ fun acts => by rw [doInvoke_state]; exact st.trans h⟩
  · exact Or.inr ⟨x, T', h1, h2, h3, X', fun target h => hstep₁ _ fun acts => by rw [doInvoke_state]; exact st.trans h⟩
theorem px_runV (S : CallFix p m c cc nL s args Ts own) (hM : px_Met l y ws rm Pc Qc mc ms mx nx free) (cw : CallW R s args own C index y bytes maxL ret ws rm k1 k2 n) (hp : PreV s H C b Pc As)
    (hg : g.method = m) (hn : As.length = n) (hsize : g.locals.size = nL) (hstack : g.stack = As.reverse ++ .ref b :: rest) (hW : 2 * g.monitorRoom + (rest.map fun v => v.category).sum ≤ 8) (hdg : decode cc g.pc = .ok (.invokevirtual index, 3)) (hf : cells + rm.cells ≤ R.cells ∧ slots + rm.slots ≤ R.slots) :
    px_Run p l e R s m args below meth c H locs cells slots mc ms mx nx g rest (Qc (Value.ref b :: As).toArray) free := by
  obtain ⟨⟨-, -, hfr, hlo, hws, -, hcode, hini, hy, hlen, hl⟩, hin, hse⟩ := cw
  obtain ⟨hx, hb, hml, ho, -⟩ := S
  obtain ⟨hbl, ⟨cellB, hcB, hoB, hclB⟩, hPc⟩ := hp
  intro T hT X
  obtain ⟨mk, methM, hnamed, hmethM, hstM, habM⟩ := Cond.instanceMethod_spec hin
  obtain ⟨methM', cM, hmethM', hcM, -, hlM, -, -, -, hsigM⟩ := Cond.code_spec hnamed hcode
  cases hmethM.symm.trans hmethM'
  obtain ⟨c2, r2, m2, q1, q2, q3, q4, kP, hkP, hkPi⟩ := Cond.selects_spec hse
  cases hclB.symm.trans q1
  cases (State.methodFound?_of_named hnamed hy).symm.trans q2
  cases hnamed.symm.trans q3
  have hselP : selectMethod e.platform s.vm cellB.cls mk = .method mk := by rw [Launch.admits_selectMethod X.admits]; exact q4
  obtain ⟨vm₁, X₁, hstep₁⟩ := X.invokevirtual hx ho hl hnamed hmethM hstM hkP hkPi hy (a := b) (cell := cellB) (by rw [hT]; exact hcB)
    (fun z h => by rw [h] at hoB; cases hoB) hselP hmethM habM hkP hkPi (g := g) hg (argsL := As) (rest := rest) (hn.trans (hlen _ hsigM)) hstack (by rw [hb]; exact hdg)
  obtain ⟨o, t, L, hq, hL, hE⟩ := px_core X₁ (g := { g with stack := rest }) hg (hsize.trans hml.symm) (ig := .invokevirtual index) (len := 3) (by rw [hb]; exact hdg) hW (y := y) (mk := mk) (a := (Value.ref b :: As).toArray) (X₁.named hnamed) (by rw [X₁.warmed.alike.method?]; exact hmethM) hcM hlM
    (word_at X₁.warmed (Or.inl (by first | rfl | simp [Cond.onTables, Cond.keeps, Cond.steady])) hini) hM (fun w hw => hws w hw _ _ X₁.warmed) hfr hlo hf.1 hf.2 (hbl _ _ _ _ (hPc (T.setVm vm₁) hT X₁.warmed))
  refine ⟨o, _, t, L, ?_, hq, hL, ?_⟩
  · exact hT
  rcases hE with ⟨v, T', h1, h2, h3, X', st⟩ | ⟨x, T', h1, h2, h3, X', st⟩
  · exact Or.inl ⟨v, T', h1, h2, h3, X', fun target h => hstep₁ _ fun acts => by rw [doInvoke_state]; exact st.trans h⟩
  · exact Or.inr ⟨x, T', h1, h2, h3, X', fun target h => hstep₁ _ fun acts => by rw [doInvoke_state]; exact st.trans h⟩
end
/-- the kinds of exceptions, and an object of such a kind -/
def px_E : Nat → String
  | 0 => "java/lang/IllegalStateException"
  | 1 => "java/lang/IndexOutOfBoundsException"
  | _ => "java/lang/IllegalArgumentException"
def px_Ob (k : Nat) (x : Addr) (H : Heap) (U : State) : Prop := ∃ ce : Cell, H[x]? = some ce ∧ ce.vm = .none ∧ U.vm.findClass (px_E k) = some ce.cls
theorem px_Ob.moved {k : Nat} {x : Addr} {H : Heap} {u U : State} (hvm : u.vm.Alike U.vm) (h : px_Ob k x H u) : px_Ob k x H U := by
  obtain ⟨ce, h1, h2, h3⟩ := h
  exact ⟨ce, h1, h2, by rw [hvm.findClass]; exact h3⟩
abbrev px_T (X : Nat → pS → Prop) (B : pS → State → Prop) (oc : Outcome) (t : State) : Prop := ∃ (k : Nat) (x : Addr) (u : pS), oc = .threw x ∧ X k u ∧ B u t ∧ px_Ob k x t.heap t
def px_Qi (post : Int32 → pS → Prop) (X : Nat → pS → Prop) (B : pS → State → Prop) (A : Nat → Prop) : Array Value → State → Outcome → State → Prop := fun _ st oc t => ((∃ (r : Int32) (u : pS), oc = .returned (some (.int r)) ∧ post r u ∧ B u t) ∨ px_T X B oc t) ∧ va_F A st t
def px_Qv (post : pS → Prop) (X : Nat → pS → Prop) (B : pS → State → Prop) (A : Nat → Prop) : Array Value → State → Outcome → State → Prop := fun _ st oc t => ((∃ u : pS, oc = .returned none ∧ post u ∧ B u t) ∨ px_T X B oc t) ∧ va_F A st t
abbrev px_Ev (below : List Frame) (args : Array Value) (s : State) (D : va_G) (wd : pS → va_W) (tys : List (ClassId × FieldType)) (A : Nat → Prop) (Q : pS → Prop) (X : Nat → pS → Prop) : State → Prop := px_MQ below (px_Qv Q X (pw_B D wd tys) A) args s 0 0 1 6 A
abbrev px_Ei (below : List Frame) (args : Array Value) (s : State) (D : va_G) (wd : pS → va_W) (tys : List (ClassId × FieldType)) (A : Nat → Prop) (Q : Int32 → pS → Prop) (X : Nat → pS → Prop) : State → Prop := px_MQ below (px_Qi Q X (pw_B D wd tys) A) args s 0 0 1 6 A
theorem px_S {A A1 : Nat → Prop} {H0 H H1 : Heap} {locs L : List Loc} (hS : va_S A H0 H locs) (hz : H.size ≤ H1.size) (hk : ∀ q : Nat, q < H.size → ¬ A1 q → H1[q]? = H[q]?) (hA1 : ∀ q, A1 q → A q) (hL : ∀ q ∈ L, A1 q.base) : va_S A H0 H1 (locs ++ L) := by
  refine ⟨Nat.le_trans hS.1 hz, fun q h1 h2 => ?_, fun q hq => ?_⟩
  · rw [hk q (Nat.lt_of_lt_of_le h1 hS.1) (fun h => h2 (hA1 q h))]
    exact hS.2.1 q h1 h2
  · rcases List.mem_append.mp hq with h | h
    · exact hS.2.2 q h
    · exact hA1 _ (hL q h)
section
variable {p : Program} {l : Launch} {e : Env} {R : Room} {s : State} {m : MethodId} {args : Array Value} {below : List Frame} {meth : Method} {c : Code} {H : Heap} {locs : List Loc} {Z : State → Prop}
variable {pc : Nat} {ls : Array Slot} {rest st0 : List Value} {aa : Array Value} {D : va_G} {n : Nat} {a : Nat → Nat} {wd : pS → va_W} {tys : List (ClassId × FieldType)} {A : Nat → Prop} {X : Nat → pS → Prop} {Qc : Array Value → State → Outcome → State → Prop}
/-- the callee has thrown, and the caller catches nothing: it throws too -/
theorem px_out (hE : ∀ x ∈ c.exceptionTable.toList, covers x pc = false) (hlocks : meth.locks = false) (hz : ∀ oc t, px_T X (pw_B D wd tys) oc t → va_F A s t → Qc args s oc t) {T T' t : State} {x : Addr} {L : List Loc} {o : Outcome}
    (X' : Stand p l e R s m args below meth c T' L 1 6) (ho : o = .threw x) (h1 : T'.heap = t.heap) (h2 : T'.vm = t.vm) (hT : px_T X (pw_B D wd tys) o t) (hS : va_S A s.heap t.heap L)
    (st : ∀ target, Steps p.tables e below ((T'.setTop (F0 m pc ls rest)).pushFrame (.throwing x)) target → Steps p.tables e below (T.setTop (F0 m pc ls st0)) target) :
    ∃ t', Steps p.tables e below (T.setTop (F0 m pc ls st0)) t' ∧ px_MQ below Qc args s 0 0 1 6 A t' := by
  obtain ⟨w1, w2, w3, w4, w5⟩ := X'.leaveThrown x (g := F0 m pc ls rest) rfl rfl rfl hE hlocks
  refine ⟨_, st _ w1, .threw x, w2, w3, hz _ _ ?_ ?_, L, ⟨w4, Or.inr ⟨⟨x, rfl⟩, w5⟩⟩, hS.2.2⟩
  · obtain ⟨k, x', u, e1, e2, ⟨e3, e4⟩, e5⟩ := hT
    rw [ho] at e1
    cases e1
    have hvm : t.vm.Alike (T'.setFrames (.throwing x :: below)).vm := by
      show t.vm.Alike T'.vm
      rw [h2]; exact Vm.Alike.refl _
    refine ⟨k, x, u, rfl, e2, ⟨?_, va_K.moved hvm e4⟩, ?_⟩
    · show va_P D vwCl (wd u) T'.heap
      rw [h1]; exact e3
    · have : px_Ob k x T'.heap t := by rw [h1]; exact e5
      exact px_Ob.moved hvm this
  · exact hS.F (show (T'.setFrames (.throwing x :: below)).heap = t.heap from h1)
theorem cx_v {Q : pS → Prop} (hr : px_Run p l e R s m args below meth c H locs 0 0 0 0 1 6 (F0 m pc ls st0) rest (px_Qv Q X (pw_B D wd tys) (pw_F n a H.size) aa) (pw_F n a H.size)) (hS : va_S A s.heap H locs) (hF : ∀ k, k < n → A (a k)) (hA : ∀ q : Nat, s.heap.size ≤ q → A q)
    (hE : ∀ x ∈ c.exceptionTable.toList, covers x pc = false) (hlocks : meth.locks = false) (hz : ∀ oc t, px_T X (pw_B D wd tys) oc t → va_F A s t → Qc args s oc t)
    (kk : ∀ (u : pS) (H : Heap) (locs : List Loc), va_P D vwCl (wd u) H → va_S A s.heap H locs → Q u → W p l e R s m args below meth c H locs 0 0 (px_MQ below Qc args s 0 0 1 6 A) (F0 m (pc + 3) ls rest)) : W p l e R s m args below meth c H locs 0 0 (px_MQ below Qc args s 0 0 1 6 A) (F0 m pc ls st0) := by
  intro T hT Xs
  obtain ⟨o, st₀, t, L, h0, ⟨hq, hf1, hf2⟩, hL, hcase⟩ := hr T hT Xs
  have hS1 : va_S A s.heap t.heap (locs ++ L) := px_S hS (by rw [h0] at hf1; exact hf1) (by rw [h0] at hf2; exact hf2) (pw_FA hS hF hA) hL
  rcases hcase with ⟨v, T', ho, h1, h2, X', st⟩ | ⟨x, T', ho, h1, h2, X', st⟩
  · rcases hq with ⟨u, e1, e2, e3⟩ | ⟨k, x, u, e1, -⟩
    · rw [ho] at e1
      cases e1
      obtain ⟨t', a1, a2⟩ := kk u t.heap (locs ++ L) e3.1 hS1 e2 T' h1 X'
      exact ⟨t', st _ a1, a2⟩
    · rw [ho] at e1; cases e1
  · rcases hq with ⟨u, e1, -⟩ | hq
    · rw [ho] at e1; cases e1
    · exact px_out hE hlocks hz X' ho h1 h2 hq hS1 st
theorem cx_i {Q : Int32 → pS → Prop} (hr : px_Run p l e R s m args below meth c H locs 0 0 0 0 1 6 (F0 m pc ls st0) rest (px_Qi Q X (pw_B D wd tys) (pw_F n a H.size) aa) (pw_F n a H.size)) (hS : va_S A s.heap H locs) (hF : ∀ k, k < n → A (a k)) (hA : ∀ q : Nat, s.heap.size ≤ q → A q)
    (hE : ∀ x ∈ c.exceptionTable.toList, covers x pc = false) (hlocks : meth.locks = false) (hz : ∀ oc t, px_T X (pw_B D wd tys) oc t → va_F A s t → Qc args s oc t)
    (kk : ∀ (r : Int32) (u : pS) (H : Heap) (locs : List Loc), va_P D vwCl (wd u) H → va_S A s.heap H locs → Q r u → W p l e R s m args below meth c H locs 0 0 (px_MQ below Qc args s 0 0 1 6 A) (F0 m (pc + 3) ls (.int r :: rest))) : W p l e R s m args below meth c H locs 0 0 (px_MQ below Qc args s 0 0 1 6 A) (F0 m pc ls st0) := by
  intro T hT Xs
  obtain ⟨o, st₀, t, L, h0, ⟨hq, hf1, hf2⟩, hL, hcase⟩ := hr T hT Xs
  have hS1 : va_S A s.heap t.heap (locs ++ L) := px_S hS (by rw [h0] at hf1; exact hf1) (by rw [h0] at hf2; exact hf2) (pw_FA hS hF hA) hL
  rcases hcase with ⟨v, T', ho, h1, h2, X', st⟩ | ⟨x, T', ho, h1, h2, X', st⟩
  · rcases hq with ⟨r, u, e1, e2, e3⟩ | ⟨k, x, u, e1, -⟩
    · rw [ho] at e1
      cases e1
      obtain ⟨t', a1, a2⟩ := kk r u t.heap (locs ++ L) e3.1 hS1 e2 T' h1 X'
      exact ⟨t', st _ a1, a2⟩
    · rw [ho] at e1; cases e1
  · rcases hq with ⟨r, u, e1, -⟩ | hq
    · rw [ho] at e1; cases e1
    · exact px_out hE hlocks hz X' ho h1 h2 hq hS1 st
end
theorem px_old {s U : State} {k n : Nat} (h : s.sameButNew U [] k n) : s.heap.size ≤ U.heap.size ∧ ∀ q : Nat, q < s.heap.size → U.heap[q]? = s.heap[q]? := by
  obtain ⟨-, h2, -, -, -, h6⟩ := h
  refine ⟨h2, fun q hq => ?_⟩
  obtain ⟨c', e1, e2, -, e4⟩ := h6 q s.heap[q] (Array.getElem?_eq_getElem hq)
  have e5 : c'.slots = (s.heap[q]).slots := Array.ext_getElem? (fun i => e4 i List.not_mem_nil)
  rw [e1, Array.getElem?_eq_getElem hq, e2, e5]
section
variable {p : Program} {l : Launch} {e : Env} {R : Room} {s : State} {m : MethodId} {args : Array Value} {below : List Frame} {meth : Method} {c : Code} {Z : State → Prop}
variable {pc : Nat} {ls : Array Slot} {rest : List Value} {D : va_G} {wd : pS → va_W} {tys : List (ClassId × FieldType)} {A : Nat → Prop} {X : Nat → pS → Prop} {Qc : Array Value → State → Outcome → State → Prop}
/-- 'throw new E("..")', nothing written before it in this method: the method ends so -/
theorem px_thr {own tx : String} {cc : ByteArray} {ik is ic k q : Nat} {names : List String} {u : pS} (hx : p.tables.exec = Jvm.exec) (hb : c.code = cc) (hml : c.maxLocals = ls.size) (hown : s.vm.findClass own = some m.cls)
    (hclink : (Cond.classLink own ik (px_E k)).before args s = true) (hins : (Cond.instantiable (px_E k) 6).before args s = true) (hinit : (Cond.initialized (px_E k)).before args s = true) (hZ : vk_R own is tx q s)
    (hat : ∀ w ∈ Bundle.ownAtoms own ic (px_E k) names, w.before args s = true) (hfit : Bundle.fit (px_E k) = true) (hnames : ∀ n ∈ names, Bundle.fit n = true) (htr : e.platform.stackTraces = false)
    (hE : ∀ x ∈ c.exceptionTable.toList, covers x (pc + 9) = false) (hlocks : meth.locks = false) (hRf : names.length + 3 < R.frames) (hRl : (rest.map fun v => v.category).sum + 1 + (13 * (names.length + 1) + 42) ≤ R.locals) (hRc : 1 ≤ R.cells) (hRs : 6 ≤ R.slots)
    (hz : ∀ oc t, px_T X (pw_B D wd tys) oc t → va_F A s t → Qc args s oc t) (hP : va_P D vwCl (wd u) s.heap) (hK : va_K D vwCl tys s) (hX : X k u)
    (d0 : decode cc pc = .ok (.new ik, 3)) (d3 : decode cc (pc + 3) = .ok (.dup, 1)) (d4 : decode cc (pc + 4) = .ok (.ldc is, 2)) (d6 : decode cc (pc + 6) = .ok (.invokespecial ic, 3)) (d9 : decode cc (pc + 9) = .ok (.athrow, 1)) :
    W p l e R s m args below meth c s.heap [] 0 0 (px_MQ below Qc args s 0 0 1 6 A) (F0 m pc ls rest) := by
  refine W.newc (g := F0 m pc ls rest) hx hb hown hclink hins hinit rfl d0 (by omega) (by omega) (fun cC kC h1 h2 h3 h4 => ?_)
  refine W.eq (g2 := F0 m (pc + 3) ls (.ref s.heap.size :: rest)) rfl ?_
  refine lv_dup hx hb d3 rfl ?_
  refine va_ldcS hx hb hown hZ d4 ?_
  intro T hT Xs
  obtain ⟨U, st, hrun, hend, hW, hsame, ce, hce, hoc⟩ := Xs.ctorThrowS hx htr hown hfit hnames hat (fun x hx => by cases hx) h1 h2 (a := s.heap.size) (by rw [hT, Array.getElem?_push_size]) (Nat.le_refl _) (msg := .ref q) rfl
    (g := F0 m (pc + 6) ls (.ref q :: .ref s.heap.size :: .ref s.heap.size :: rest)) rfl hml.symm rfl rfl rfl (by rw [hb]; exact d6) (by rw [hb]; exact d9) hE hRf (by
      show 2 * 0 + _ + _ ≤ _
      simp only [List.map_cons, List.sum_cons]
      rw [show (Value.ref (Array.size s.heap)).category = 1 from rfl]
      omega) hlocks
  have hold := px_old hsame
  refine ⟨U, st, .threw s.heap.size, hrun, hend, hz _ _ ⟨k, s.heap.size, u, rfl, hX, ⟨?_, va_K.moved hW.alike hK⟩, ce, hce, hoc.vm, ?_⟩ ⟨hold.1, fun q hq _ => hold.2 q hq⟩, [], ⟨hW, Or.inr ⟨⟨_, rfl⟩, hsame⟩⟩, fun _ h => by cases h⟩
  · exact hP.kept (fun j r hj => hold.2 _ (hP j r hj).lt)
  · rw [hW.alike.findClass]; exact hoc.cls
end
end
section
/-! What holds of the start beside the good words: links in the nest, 'declares', castable classes, String constants, statics. px_Ex A U; it is handed on at every call. -/
def px_up : List String := ["java/lang/RuntimeException", "java/lang/Exception"]
def tb_of (a b c d : Int32) : Nat → Int32
  | 0 => a
  | 1 => b
  | 2 => c
  | _ => d
def tb_SX : Nat → Int32 := tb_of 1 0 (-1) 0
def tb_SY : Nat → Int32 := tb_of 0 1 0 (-1)
def tb_AX : Nat → Int32 := tb_of 0 (-1) (-1) 0
def tb_AY : Nat → Int32 := tb_of 0 0 (-1) (-1)
def pw_Nest : List (String × Nat × String) := [("PictureInlays$Grid", 31, "STEP_X"), ("PictureInlays$Grid", 34, "STEP_Y"), ("PictureInlays$Walk", 61, "STEP_X"), ("PictureInlays$Walk", 64, "STEP_Y"), ("PictureInlays$Walk", 75, "AHEAD_X"), ("PictureInlays$Walk", 78, "AHEAD_Y")]
def pw_Lit : List (String × Nat × String) := [("PictureInlays", 234, "there is no such one"), ("PictureInlays", 239, "a number is not as said"), ("PictureInlays", 219, "not parted since another colour was told"), ("PictureInlays", 224, "nothing was nested since it was parted")]
def pw_Dec : List MethodName := [⟨"PictureInlays$Ranking", "compare", "(II)I"⟩, ⟨"java/lang/RuntimeException", "<init>", "(Ljava/lang/String;)V"⟩, ⟨"java/lang/Exception", "<init>", "(Ljava/lang/String;)V"⟩, ⟨"java/lang/Throwable", "<init>", "(Ljava/lang/String;)V"⟩]
def px_Ca (X : String) (U : State) : Prop := ∃ c, U.vm.findClass X = some c ∧ U.vm.assignable c c = true
def px_ExA (U : State) : Prop := (∀ q ∈ pw_Nest, va_Nw (.fieldLinkNest q.1 q.2.1 "PictureInlays" q.2.2 "[I" "PictureInlays") U) ∧ ∀ y ∈ pw_Dec, va_Nw (.declares y) U
def px_ExB (U : State) : Prop := (∀ q ∈ pw_Lit, ∃ a, vk_R q.1 q.2.1 q.2.2 a U) ∧ ∀ k, k < 3 → px_Ca (px_E k) U
/-- 'laysStatic' of a static of a cell that no method writes -/
def px_LS (C n d : String) (A : Nat → Prop) (U : State) (H : Heap) : Prop := ∃ (c : ClassId) (k : Class) (i : Nat) (f : Field) (a : Nat) (cell : Cell), U.vm.findClass C = some c ∧ U.fieldFound? C n d = some (c, k, i, f) ∧ f.isStatic = true ∧ k.statics = some a ∧ H[a]? = some cell ∧ cell.vm.isStatics = true ∧ cell.cls = c ∧ f.slot < cell.slots.size ∧ k.staticTypes[f.slot]? = some f.type ∧ ¬ A a
theorem px_LS.of {C n d : String} {A : Nat → Prop} {args : Array Value} {s : State} (h : (Cond.laysStatic C n d).before args s = true) (hA : ∀ a : Nat, a < s.heap.size → ¬ A a) : px_LS C n d A s s.heap := by
  obtain ⟨c, k, i, f, a, cell, h1, h2, h3, h4, h5, h6, h7, h8, h9⟩ := Cond.laysStatic_spec h
  exact ⟨c, k, i, f, a, cell, h1, h2, h3, h4, h5, h6, h7, h8, h9, hA a (Array.getElem?_eq_some_iff.mp h5).1⟩
theorem px_LS.go {C n d : String} {A B : Nat → Prop} {u U : State} {H H1 : Heap} (hvm : u.vm.Alike U.vm) (hq : ∀ a : Nat, a < H.size → ¬ A a → H1[a]? = H[a]?) (hAB : ∀ q, B q → A q) (h : px_LS C n d A u H) : px_LS C n d B U H1 := by
  obtain ⟨c, k, i, f, a, cell, h1, h2, h3, h4, h5, h6, h7, h8, h9, h10⟩ := h
  obtain ⟨k', hi', he⟩ := State.fieldFound?_setVm hvm h2
  exact ⟨c, k', i, f, a, cell, by rw [hvm.findClass]; exact h1, hi', h3, by rw [he]; exact h4, by rw [hq a (Array.getElem?_eq_some_iff.mp h5).1 h10]; exact h5, h6, h7, h8, by rw [he]; exact h9, fun q => h10 (hAB a q)⟩
theorem px_LS.word {C n d : String} {A : Nat → Prop} {args : Array Value} {U : State} (h : px_LS C n d A U U.heap) : (Cond.laysStatic C n d).before args U = true := by
  obtain ⟨c, k, i, f, a, cell, h1, h2, h3, h4, h5, h6, h7, h8, h9, -⟩ := h
  simp [Cond.before, Cond.holds, Cond.value, h1, h2, h3, h4, h5, h6, h7, h8, h9]
def px_ExC (A : Nat → Prop) (U : State) : Prop := (px_LS Bundle.tN "UNASSIGNED_STACK" Bundle.steD A U U.heap ∧ px_LS Bundle.tN "SUPPRESSED_SENTINEL" Bundle.listD A U U.heap) ∧ va_Zq Bundle.tN "UNASSIGNED_STACK" Bundle.steD A U U.heap ∧ va_Zq Bundle.tN "SUPPRESSED_SENTINEL" Bundle.listD A U U.heap
def px_ExD (A : Nat → Prop) (U : State) : Prop := ∃ t1 t2 t3 t4 : Nat, va_Z "PictureInlays" "STEP_X" "[I" (.ref t1) A U U.heap ∧ va_Z "PictureInlays" "STEP_Y" "[I" (.ref t2) A U U.heap ∧ va_Z "PictureInlays" "AHEAD_X" "[I" (.ref t3) A U U.heap ∧ va_Z "PictureInlays" "AHEAD_Y" "[I" (.ref t4) A U U.heap ∧
  va_T .int t1 4 (fun j => .int (tb_SX j)) A U U.heap ∧ va_T .int t2 4 (fun j => .int (tb_SY j)) A U U.heap ∧ va_T .int t3 4 (fun j => .int (tb_AX j)) A U U.heap ∧ va_T .int t4 4 (fun j => .int (tb_AY j)) A U U.heap
def cw_Ex (A : Nat → Prop) (U : State) : Prop := (px_ExA U ∧ px_ExB U ∧ px_ExC A U) ∧ px_ExD A U
theorem px_Ca.moved {X : String} {u U : State} (hvm : u.vm.Alike U.vm) (h : px_Ca X u) : px_Ca X U := by
  obtain ⟨c, h1, h2⟩ := h
  exact ⟨c, by rw [hvm.findClass]; exact h1, by rw [hvm.assignable]; exact h2⟩
theorem px_ExA.same {u U : State} (hv : u.vm = U.vm) (h : px_ExA u) : px_ExA U := ⟨fun q hq => va_tabs rfl hv (h.1 q hq), fun y hy => va_tabs rfl hv (h.2 y hy)⟩
theorem px_ExA.warm {s U : State} (hW : s.WarmedH U.vm) (h : px_ExA s) : px_ExA U := ⟨fun q hq => va_Nw.warmF hW (h.1 q hq), fun y hy => va_Nw.warmD hW (h.2 y hy)⟩
theorem px_ExB.same {u U : State} (hv : u.vm = U.vm) (h : px_ExB u) : px_ExB U := ⟨fun q hq => by obtain ⟨a, ha⟩ := h.1 q hq; exact ⟨a, vk_R.same hv.symm ha⟩, fun k hk => px_Ca.moved (by rw [hv]; exact Vm.Alike.refl _) (h.2 k hk)⟩
theorem px_ExB.warm {s U : State} (hW : s.WarmedH U.vm) (h : px_ExB s) : px_ExB U := ⟨fun q hq => by obtain ⟨a, ha⟩ := h.1 q hq; exact ⟨a, vk_R.warm hW ha⟩, fun k hk => px_Ca.moved hW.alike (h.2 k hk)⟩
theorem cw_Ex.same {A : Nat → Prop} {u U : State} (hv : u.vm = U.vm) (hh : u.heap = U.heap) (h : cw_Ex A u) : cw_Ex A U := by
  obtain ⟨⟨hA, hB, hC⟩, t1, t2, t3, t4, z1, z2, z3, z4, y1, y2, y3, y4⟩ := h
  have hvm : u.vm.Alike U.vm := by rw [hv]; exact Vm.Alike.refl _
  refine ⟨⟨hA.same hv, hB.same hv, ?_⟩, t1, t2, t3, t4, ?_⟩
  · unfold px_ExC at hC ⊢
    rw [← hh]
    exact ⟨⟨px_LS.go hvm (fun _ _ _ => rfl) (fun _ h => h) hC.1.1, px_LS.go hvm (fun _ _ _ => rfl) (fun _ h => h) hC.1.2⟩, va_Zq.moved hvm hC.2.1, va_Zq.moved hvm hC.2.2⟩
  · rw [← hh]
    exact ⟨va_Z.moved hvm z1, va_Z.moved hvm z2, va_Z.moved hvm z3, va_Z.moved hvm z4, va_T.moved hvm y1, va_T.moved hvm y2, va_T.moved hvm y3, va_T.moved hvm y4⟩
theorem cw_Ex_call {A A1 : Nat → Prop} {s U : State} {H : Heap} {locs : List Loc} (h : cw_Ex A s) (hS : va_S A s.heap H locs) (hA : ∀ q, A1 q → A q) (hU : U.heap = H) (hW : s.WarmedH U.vm) : cw_Ex A1 U := by
  obtain ⟨⟨hA0, hB, hC⟩, t1, t2, t3, t4, z1, z2, z3, z4, y1, y2, y3, y4⟩ := h
  have hvm := hW.alike
  have hk : ∀ a : Nat, a < s.heap.size → ¬ A a → H[a]? = s.heap[a]? := fun a h1 h2 => hS.2.1 a h1 h2
  refine ⟨⟨hA0.warm hW, hB.warm hW, ?_⟩, t1, t2, t3, t4, ?_⟩
  · unfold px_ExC at hC ⊢
    rw [hU]
    exact ⟨⟨px_LS.go hvm hk hA hC.1.1, px_LS.go hvm hk hA hC.1.2⟩, va_Zq.narrow (va_Zq.moved hvm (va_Zq.kept hC.2.1 hk)) hA, va_Zq.narrow (va_Zq.moved hvm (va_Zq.kept hC.2.2 hk)) hA⟩
  · rw [hU]
    exact ⟨va_Z.narrow (va_Z.moved hvm (va_Z.kept z1 hk)) hA, va_Z.narrow (va_Z.moved hvm (va_Z.kept z2 hk)) hA, va_Z.narrow (va_Z.moved hvm (va_Z.kept z3 hk)) hA, va_Z.narrow (va_Z.moved hvm (va_Z.kept z4 hk)) hA,
      va_T.narrow (va_T.moved hvm (va_T.kept y1 hk)) hA, va_T.narrow (va_T.moved hvm (va_T.kept y2 hk)) hA, va_T.narrow (va_T.moved hvm (va_T.kept y3 hk)) hA, va_T.narrow (va_T.moved hvm (va_T.kept y4 hk)) hA⟩
theorem cw_blindX {av : List Value} {D : va_G} {wd : pS → va_W} {tys : List (ClassId × FieldType)} {sz : Nat} {u : pS} {A : Nat → Prop} : FrameBlind (va_Pc av (fun U => pw_pre D wd tys sz u U ∧ cw_Ex A U)) := by
  intro a U g mk q
  obtain ⟨q0, ⟨q1, qP, qK⟩, qE⟩ := q
  exact ⟨q0, ⟨q1, qP, va_K.moved (u := U) (U := U.calling g mk a) (Vm.Alike.refl U.vm) qK⟩, cw_Ex.same (u := U) (U := U.calling g mk a) rfl rfl qE⟩
theorem px_isRef {C n d : String} {A : Nat → Prop} {U : State} {args : Array Value} (h : va_Zq C n d A U U.heap) : (Cond.isRef (.static C n d)).before args U = true := by
  rcases h with h | ⟨t, h⟩ <;>
  · obtain ⟨cf, kf, fi, f, a, cell, h1, h2, h3, h4, h5, h6, h7, -⟩ := h
    have he : (Term.static C n d).eval args U none [] U = cell.slots[f.slot]? := by simp [Term.eval, State.fieldNamed?, h1, h2, h4, h5, h6]
    simp [Cond.before, Cond.holds, Cond.value, he, h7]
theorem px_castable {X : String} {U : State} {args : Array Value} (h : px_Ca X U) : (Cond.castable X X).before args U = true := by
  obtain ⟨c, h1, h2⟩ := h
  simp [Cond.before, Cond.holds, Cond.value, h1, h2]
def pw_LSw : List Cond := [.laysStatic Bundle.tN "UNASSIGNED_STACK" Bundle.steD, .laysStatic Bundle.tN "SUPPRESSED_SENTINEL" Bundle.listD]
def px_base (k : Nat) : List Cond := Bundle.throwableAtoms ++ Bundle.throwableSAtoms ++ Bundle.chainSAtoms (px_E k) px_up ++
  [.instantiable (px_E k) 6, .selects (px_E k) Bundle.tFill0 Bundle.tFill0, .selects (px_E k) Bundle.tFill Bundle.tFill,
   .lays (px_E k) Bundle.tN "cause" "Ljava/lang/Throwable;", .lays (px_E k) Bundle.tN "stackTrace" Bundle.steD, .lays (px_E k) Bundle.tN "suppressedExceptions" Bundle.listD, .lays (px_E k) Bundle.tN "detailMessage" "Ljava/lang/String;",
   .fieldLink Bundle.tN 198 Bundle.tN "backtrace" "Ljava/lang/Object;", .lays Bundle.tN Bundle.tN "backtrace" "Ljava/lang/Object;", .lays (px_E k) Bundle.tN "backtrace" "Ljava/lang/Object;"]
theorem px_base_0 : ∀ w ∈ px_base 0, (w ∈ lw_tbl ∧ goodWord w = true) ∨ w ∈ pw_Dec.map Cond.declares ∨ w ∈ pw_LSw := by decide +kernel
theorem px_base_1 : ∀ w ∈ px_base 1, (w ∈ lw_tbl ∧ goodWord w = true) ∨ w ∈ pw_Dec.map Cond.declares ∨ w ∈ pw_LSw := by decide +kernel
theorem px_base_2 : ∀ w ∈ px_base 2, (w ∈ lw_tbl ∧ goodWord w = true) ∨ w ∈ pw_Dec.map Cond.declares ∨ w ∈ pw_LSw := by decide +kernel
theorem px_base_ok {k : Nat} (hk : k < 3) : ∀ w ∈ px_base k, w ∈ pw_T ∨ w ∈ pw_Dec.map Cond.declares ∨ w ∈ pw_LSw := by
  rcases (show k = 0 ∨ k = 1 ∨ k = 2 by omega) with rfl | rfl | rfl
  · exact fun w h => (px_base_0 w h).imp List.mem_filter.mpr id
  · exact fun w h => (px_base_1 w h).imp List.mem_filter.mpr id
  · exact fun w h => (px_base_2 w h).imp List.mem_filter.mpr id
theorem px_own {c1 : Cond} {own : String} {args : Array Value} {s : State} {A : Nat → Prop} {k ic : Nat} (hk : k < 3) (kl : Cond.methodLink own ic (Bundle.initS (px_E k)) ∈ pw_T) (hts : ∀ w ∈ c1 :: pw_T, w.before args s = true) (EX : px_ExA s ∧ px_ExB s ∧ px_ExC A s) : ∀ w ∈ Bundle.ownAtoms own ic (px_E k) px_up, w.before args s = true := by
  obtain ⟨hA, hB, hC⟩ := EX
  have hb : ∀ w ∈ px_base k, w.before args s = true := by
    intro w h
    rcases px_base_ok hk w h with h1 | h1 | h1
    · exact hts w (List.mem_cons_of_mem _ h1)
    · obtain ⟨y, hy, rfl⟩ := List.mem_map.mp h1
      exact va_Nw.use rfl (hA.2 y hy)
    · rcases List.mem_cons.mp h1 with rfl | h2
      · exact hC.1.1.word
      · rcases List.mem_cons.mp h2 with rfl | h3
        · exact hC.1.2.word
        · cases h3
  have b1 : ∀ w ∈ Bundle.throwableAtoms ++ Bundle.throwableSAtoms ++ Bundle.chainSAtoms (px_E k) px_up, w.before args s = true := fun w h => hb w (List.mem_append_left _ h)
  have b2 := fun (w : Cond) h => hb w (List.mem_append_right _ h)
  refine List.forall_mem_append.mpr ⟨b1, ?_⟩
  refine List.forall_mem_cons.mpr ⟨hts _ (List.mem_cons_of_mem _ kl), ?_⟩
  refine List.forall_mem_cons.mpr ⟨b2 _ (by simp), ?_⟩
  refine List.forall_mem_cons.mpr ⟨px_castable (hB.2 k hk), ?_⟩
  refine List.forall_mem_cons.mpr ⟨b2 _ (by simp), ?_⟩
  refine List.forall_mem_cons.mpr ⟨b2 _ (by simp), ?_⟩
  refine List.forall_mem_cons.mpr ⟨b2 _ (by simp), ?_⟩
  refine List.forall_mem_cons.mpr ⟨b2 _ (by simp), ?_⟩
  refine List.forall_mem_cons.mpr ⟨b2 _ (by simp), ?_⟩
  refine List.forall_mem_cons.mpr ⟨b2 _ (by simp), ?_⟩
  refine List.forall_mem_cons.mpr ⟨px_isRef hC.2.1, ?_⟩
  refine List.forall_mem_cons.mpr ⟨px_isRef hC.2.2, ?_⟩
  refine List.forall_mem_cons.mpr ⟨b2 _ (by simp), ?_⟩
  refine List.forall_mem_cons.mpr ⟨b2 _ (by simp), ?_⟩
  refine List.forall_mem_cons.mpr ⟨b2 _ (by simp), ?_⟩
  exact fun _ h => absurd h List.not_mem_nil
end
section
def cT (cA cZ : ClassId) : List (ClassId × FieldType) := [(cA, .int), (cZ, .boolean)]
def cw (a : Nat → Nat) (cA cZ : ClassId) (G : pG) (u : pS) : va_W := [(a 0, .inr (0, [.ref (a 1), .int (G.2.1 0), .ref (a 2), .ref (a 3), .ref (a 4), .ref (a 5), .ref (a 6), .ref (a 7), .ref (a 8), .ref (a 9), .int (u.1 0), .int (u.1 1)])),
  (a 1, .inr (4, [.int (G.2.1 1), .int (G.2.1 2), .int (G.2.1 3), .ref (a 11), .ref (a 12), .ref (a 13)])),
  (a 2, .inr (3, [.ref (a 14), .ref (a 15), .ref (a 16)])),
  (a 3, .inr (3, [.ref (a 17), .ref (a 18), .ref (a 19)])),
  (a 4, .inr (7, [.ref (a 1), .ref (a 20), .ref (a 21), .ref (a 22), .ref (a 23), .ref (a 24), .ref (a 25), .ref (a 26), .ref (a 27), .ref (a 28), .int (u.1 2)])),
  (a 5, .inr (2, [.ref (a 29), .ref (a 3)])),
  (a 6, .inr (6, [.ref (a 30), .ref (a 4)])),
  (a 7, .inr (10, [.ref (a 4), .int (G.2.1 4), .ref (a 32), .ref (a 33), .int (u.1 3), .int (u.1 4), .int (u.1 5), .int (u.1 6)])),
  (a 8, .inr (9, [.ref (a 1), .ref (a 4), .ref (a 34), .int (u.1 7)])),
  (a 9, .inr (8, [.ref (a 4), .ref (a 10), .ref (a 35), .ref (a 36), .ref (a 37), .ref (a 38), .ref (a 39), .int (u.1 8), .int (u.1 9)])),
  (a 10, .inr (5, [.ref (a 31), .ref (a 4)])),
  (a 11, .inl (cA, G.1 11, .inl (G.2.2 0))),
  (a 12, .inl (cA, G.1 12, .inl (G.2.2 1))),
  (a 13, .inl (cA, G.1 13, .inl (G.2.2 2))),
  (a 14, .inl (cA, G.1 14, .inl (u.2 0))),
  (a 15, .inl (cA, G.1 15, .inl (u.2 1))),
  (a 16, .inl (cA, G.1 16, .inl (u.2 2))),
  (a 17, .inl (cA, G.1 17, .inl (u.2 3))),
  (a 18, .inl (cA, G.1 18, .inl (u.2 4))),
  (a 19, .inl (cA, G.1 19, .inl (u.2 5))),
  (a 20, .inl (cA, G.1 20, .inl (u.2 6))),
  (a 21, .inl (cA, G.1 21, .inl (u.2 7))),
  (a 22, .inl (cA, G.1 22, .inl (u.2 8))),
  (a 23, .inl (cA, G.1 23, .inl (u.2 9))),
  (a 24, .inl (cA, G.1 24, .inl (u.2 10))),
  (a 25, .inl (cA, G.1 25, .inl (u.2 11))),
  (a 26, .inl (cA, G.1 26, .inl (u.2 12))),
  (a 27, .inl (cA, G.1 27, .inl (u.2 13))),
  (a 28, .inl (cA, G.1 28, .inl (u.2 14))),
  (a 29, .inl (cA, G.1 29, .inl (u.2 15))),
  (a 30, .inl (cA, G.1 30, .inl (u.2 16))),
  (a 31, .inl (cA, G.1 31, .inl (u.2 17))),
  (a 32, .inl (cA, G.1 32, .inl (u.2 18))),
  (a 33, .inl (cA, G.1 33, .inl (u.2 19))),
  (a 34, .inl (cZ, G.1 34, .inl (u.2 20))),
  (a 35, .inl (cA, G.1 35, .inl (u.2 21))),
  (a 36, .inl (cA, G.1 36, .inl (u.2 22))),
  (a 37, .inl (cA, G.1 37, .inl (u.2 23))),
  (a 38, .inl (cA, G.1 38, .inl (u.2 24))),
  (a 39, .inl (cA, G.1 39, .inl (u.2 25)))]
theorem cw_at_0 {a : Nat → Nat} {cA cZ : ClassId} {G : pG} {u : pS} : (cw a cA cZ G u)[0]? = some (a 0, .inr (0, [.ref (a 1), .int (G.2.1 0), .ref (a 2), .ref (a 3), .ref (a 4), .ref (a 5), .ref (a 6), .ref (a 7), .ref (a 8), .ref (a 9), .int (u.1 0), .int (u.1 1)])) := rfl
theorem cw_si_0_10 {a : Nat → Nat} {cA cZ : ClassId} {G : pG} {u : pS} {x : Int32} : (cw a cA cZ G u).set 0 (a 0, .inr (0, ([.ref (a 1), .int (G.2.1 0), .ref (a 2), .ref (a 3), .ref (a 4), .ref (a 5), .ref (a 6), .ref (a 7), .ref (a 8), .ref (a 9), .int (u.1 0), .int (u.1 1)] : List Value).set 10 (.int x))) = cw a cA cZ G (pw_si u 0 x) := rfl
theorem cw_si_0_11 {a : Nat → Nat} {cA cZ : ClassId} {G : pG} {u : pS} {x : Int32} : (cw a cA cZ G u).set 0 (a 0, .inr (0, ([.ref (a 1), .int (G.2.1 0), .ref (a 2), .ref (a 3), .ref (a 4), .ref (a 5), .ref (a 6), .ref (a 7), .ref (a 8), .ref (a 9), .int (u.1 0), .int (u.1 1)] : List Value).set 11 (.int x))) = cw a cA cZ G (pw_si u 1 x) := rfl
theorem cw_at_1 {a : Nat → Nat} {cA cZ : ClassId} {G : pG} {u : pS} : (cw a cA cZ G u)[1]? = some (a 1, .inr (4, [.int (G.2.1 1), .int (G.2.1 2), .int (G.2.1 3), .ref (a 11), .ref (a 12), .ref (a 13)])) := rfl
theorem cw_at_2 {a : Nat → Nat} {cA cZ : ClassId} {G : pG} {u : pS} : (cw a cA cZ G u)[2]? = some (a 2, .inr (3, [.ref (a 14), .ref (a 15), .ref (a 16)])) := rfl
theorem cw_at_3 {a : Nat → Nat} {cA cZ : ClassId} {G : pG} {u : pS} : (cw a cA cZ G u)[3]? = some (a 3, .inr (3, [.ref (a 17), .ref (a 18), .ref (a 19)])) := rfl
theorem cw_at_4 {a : Nat → Nat} {cA cZ : ClassId} {G : pG} {u : pS} : (cw a cA cZ G u)[4]? = some (a 4, .inr (7, [.ref (a 1), .ref (a 20), .ref (a 21), .ref (a 22), .ref (a 23), .ref (a 24), .ref (a 25), .ref (a 26), .ref (a 27), .ref (a 28), .int (u.1 2)])) := rfl
theorem cw_si_4_10 {a : Nat → Nat} {cA cZ : ClassId} {G : pG} {u : pS} {x : Int32} : (cw a cA cZ G u).set 4 (a 4, .inr (7, ([.ref (a 1), .ref (a 20), .ref (a 21), .ref (a 22), .ref (a 23), .ref (a 24), .ref (a 25), .ref (a 26), .ref (a 27), .ref (a 28), .int (u.1 2)] : List Value).set 10 (.int x))) = cw a cA cZ G (pw_si u 2 x) := rfl
theorem cw_at_5 {a : Nat → Nat} {cA cZ : ClassId} {G : pG} {u : pS} : (cw a cA cZ G u)[5]? = some (a 5, .inr (2, [.ref (a 29), .ref (a 3)])) := rfl
theorem cw_at_6 {a : Nat → Nat} {cA cZ : ClassId} {G : pG} {u : pS} : (cw a cA cZ G u)[6]? = some (a 6, .inr (6, [.ref (a 30), .ref (a 4)])) := rfl
theorem cw_at_7 {a : Nat → Nat} {cA cZ : ClassId} {G : pG} {u : pS} : (cw a cA cZ G u)[7]? = some (a 7, .inr (10, [.ref (a 4), .int (G.2.1 4), .ref (a 32), .ref (a 33), .int (u.1 3), .int (u.1 4), .int (u.1 5), .int (u.1 6)])) := rfl
theorem cw_si_7_4 {a : Nat → Nat} {cA cZ : ClassId} {G : pG} {u : pS} {x : Int32} : (cw a cA cZ G u).set 7 (a 7, .inr (10, ([.ref (a 4), .int (G.2.1 4), .ref (a 32), .ref (a 33), .int (u.1 3), .int (u.1 4), .int (u.1 5), .int (u.1 6)] : List Value).set 4 (.int x))) = cw a cA cZ G (pw_si u 3 x) := rfl
theorem cw_si_7_5 {a : Nat → Nat} {cA cZ : ClassId} {G : pG} {u : pS} {x : Int32} : (cw a cA cZ G u).set 7 (a 7, .inr (10, ([.ref (a 4), .int (G.2.1 4), .ref (a 32), .ref (a 33), .int (u.1 3), .int (u.1 4), .int (u.1 5), .int (u.1 6)] : List Value).set 5 (.int x))) = cw a cA cZ G (pw_si u 4 x) := rfl
theorem cw_si_7_6 {a : Nat → Nat} {cA cZ : ClassId} {G : pG} {u : pS} {x : Int32} : (cw a cA cZ G u).set 7 (a 7, .inr (10, ([.ref (a 4), .int (G.2.1 4), .ref (a 32), .ref (a 33), .int (u.1 3), .int (u.1 4), .int (u.1 5), .int (u.1 6)] : List Value).set 6 (.int x))) = cw a cA cZ G (pw_si u 5 x) := rfl
theorem cw_si_7_7 {a : Nat → Nat} {cA cZ : ClassId} {G : pG} {u : pS} {x : Int32} : (cw a cA cZ G u).set 7 (a 7, .inr (10, ([.ref (a 4), .int (G.2.1 4), .ref (a 32), .ref (a 33), .int (u.1 3), .int (u.1 4), .int (u.1 5), .int (u.1 6)] : List Value).set 7 (.int x))) = cw a cA cZ G (pw_si u 6 x) := rfl
theorem cw_at_8 {a : Nat → Nat} {cA cZ : ClassId} {G : pG} {u : pS} : (cw a cA cZ G u)[8]? = some (a 8, .inr (9, [.ref (a 1), .ref (a 4), .ref (a 34), .int (u.1 7)])) := rfl
theorem cw_si_8_3 {a : Nat → Nat} {cA cZ : ClassId} {G : pG} {u : pS} {x : Int32} : (cw a cA cZ G u).set 8 (a 8, .inr (9, ([.ref (a 1), .ref (a 4), .ref (a 34), .int (u.1 7)] : List Value).set 3 (.int x))) = cw a cA cZ G (pw_si u 7 x) := rfl
theorem cw_at_9 {a : Nat → Nat} {cA cZ : ClassId} {G : pG} {u : pS} : (cw a cA cZ G u)[9]? = some (a 9, .inr (8, [.ref (a 4), .ref (a 10), .ref (a 35), .ref (a 36), .ref (a 37), .ref (a 38), .ref (a 39), .int (u.1 8), .int (u.1 9)])) := rfl
theorem cw_si_9_7 {a : Nat → Nat} {cA cZ : ClassId} {G : pG} {u : pS} {x : Int32} : (cw a cA cZ G u).set 9 (a 9, .inr (8, ([.ref (a 4), .ref (a 10), .ref (a 35), .ref (a 36), .ref (a 37), .ref (a 38), .ref (a 39), .int (u.1 8), .int (u.1 9)] : List Value).set 7 (.int x))) = cw a cA cZ G (pw_si u 8 x) := rfl
theorem cw_si_9_8 {a : Nat → Nat} {cA cZ : ClassId} {G : pG} {u : pS} {x : Int32} : (cw a cA cZ G u).set 9 (a 9, .inr (8, ([.ref (a 4), .ref (a 10), .ref (a 35), .ref (a 36), .ref (a 37), .ref (a 38), .ref (a 39), .int (u.1 8), .int (u.1 9)] : List Value).set 8 (.int x))) = cw a cA cZ G (pw_si u 9 x) := rfl
theorem cw_at_10 {a : Nat → Nat} {cA cZ : ClassId} {G : pG} {u : pS} : (cw a cA cZ G u)[10]? = some (a 10, .inr (5, [.ref (a 31), .ref (a 4)])) := rfl
theorem cw_at_11 {a : Nat → Nat} {cA cZ : ClassId} {G : pG} {u : pS} : (cw a cA cZ G u)[11]? = some (a 11, .inl (cA, G.1 11, .inl (G.2.2 0))) := rfl
theorem cw_at_12 {a : Nat → Nat} {cA cZ : ClassId} {G : pG} {u : pS} : (cw a cA cZ G u)[12]? = some (a 12, .inl (cA, G.1 12, .inl (G.2.2 1))) := rfl
theorem cw_at_13 {a : Nat → Nat} {cA cZ : ClassId} {G : pG} {u : pS} : (cw a cA cZ G u)[13]? = some (a 13, .inl (cA, G.1 13, .inl (G.2.2 2))) := rfl
theorem cw_at_14 {a : Nat → Nat} {cA cZ : ClassId} {G : pG} {u : pS} : (cw a cA cZ G u)[14]? = some (a 14, .inl (cA, G.1 14, .inl (u.2 0))) := rfl
theorem cw_sa_14 {a : Nat → Nat} {cA cZ : ClassId} {G : pG} {u : pS} {f : Nat → Int32} : (cw a cA cZ G u).set 14 (a 14, .inl (cA, G.1 14, .inl f)) = cw a cA cZ G (pw_sa u 0 f) := rfl
theorem cw_at_15 {a : Nat → Nat} {cA cZ : ClassId} {G : pG} {u : pS} : (cw a cA cZ G u)[15]? = some (a 15, .inl (cA, G.1 15, .inl (u.2 1))) := rfl
theorem cw_sa_15 {a : Nat → Nat} {cA cZ : ClassId} {G : pG} {u : pS} {f : Nat → Int32} : (cw a cA cZ G u).set 15 (a 15, .inl (cA, G.1 15, .inl f)) = cw a cA cZ G (pw_sa u 1 f) := rfl
theorem cw_at_16 {a : Nat → Nat} {cA cZ : ClassId} {G : pG} {u : pS} : (cw a cA cZ G u)[16]? = some (a 16, .inl (cA, G.1 16, .inl (u.2 2))) := rfl
theorem cw_sa_16 {a : Nat → Nat} {cA cZ : ClassId} {G : pG} {u : pS} {f : Nat → Int32} : (cw a cA cZ G u).set 16 (a 16, .inl (cA, G.1 16, .inl f)) = cw a cA cZ G (pw_sa u 2 f) := rfl
theorem cw_at_17 {a : Nat → Nat} {cA cZ : ClassId} {G : pG} {u : pS} : (cw a cA cZ G u)[17]? = some (a 17, .inl (cA, G.1 17, .inl (u.2 3))) := rfl
theorem cw_sa_17 {a : Nat → Nat} {cA cZ : ClassId} {G : pG} {u : pS} {f : Nat → Int32} : (cw a cA cZ G u).set 17 (a 17, .inl (cA, G.1 17, .inl f)) = cw a cA cZ G (pw_sa u 3 f) := rfl
theorem cw_at_18 {a : Nat → Nat} {cA cZ : ClassId} {G : pG} {u : pS} : (cw a cA cZ G u)[18]? = some (a 18, .inl (cA, G.1 18, .inl (u.2 4))) := rfl
theorem cw_sa_18 {a : Nat → Nat} {cA cZ : ClassId} {G : pG} {u : pS} {f : Nat → Int32} : (cw a cA cZ G u).set 18 (a 18, .inl (cA, G.1 18, .inl f)) = cw a cA cZ G (pw_sa u 4 f) := rfl
theorem cw_at_19 {a : Nat → Nat} {cA cZ : ClassId} {G : pG} {u : pS} : (cw a cA cZ G u)[19]? = some (a 19, .inl (cA, G.1 19, .inl (u.2 5))) := rfl
theorem cw_sa_19 {a : Nat → Nat} {cA cZ : ClassId} {G : pG} {u : pS} {f : Nat → Int32} : (cw a cA cZ G u).set 19 (a 19, .inl (cA, G.1 19, .inl f)) = cw a cA cZ G (pw_sa u 5 f) := rfl
theorem cw_at_20 {a : Nat → Nat} {cA cZ : ClassId} {G : pG} {u : pS} : (cw a cA cZ G u)[20]? = some (a 20, .inl (cA, G.1 20, .inl (u.2 6))) := rfl
theorem cw_sa_20 {a : Nat → Nat} {cA cZ : ClassId} {G : pG} {u : pS} {f : Nat → Int32} : (cw a cA cZ G u).set 20 (a 20, .inl (cA, G.1 20, .inl f)) = cw a cA cZ G (pw_sa u 6 f) := rfl
theorem cw_at_21 {a : Nat → Nat} {cA cZ : ClassId} {G : pG} {u : pS} : (cw a cA cZ G u)[21]? = some (a 21, .inl (cA, G.1 21, .inl (u.2 7))) := rfl
theorem cw_sa_21 {a : Nat → Nat} {cA cZ : ClassId} {G : pG} {u : pS} {f : Nat → Int32} : (cw a cA cZ G u).set 21 (a 21, .inl (cA, G.1 21, .inl f)) = cw a cA cZ G (pw_sa u 7 f) := rfl
theorem cw_at_22 {a : Nat → Nat} {cA cZ : ClassId} {G : pG} {u : pS} : (cw a cA cZ G u)[22]? = some (a 22, .inl (cA, G.1 22, .inl (u.2 8))) := rfl
theorem cw_sa_22 {a : Nat → Nat} {cA cZ : ClassId} {G : pG} {u : pS} {f : Nat → Int32} : (cw a cA cZ G u).set 22 (a 22, .inl (cA, G.1 22, .inl f)) = cw a cA cZ G (pw_sa u 8 f) := rfl
theorem cw_at_23 {a : Nat → Nat} {cA cZ : ClassId} {G : pG} {u : pS} : (cw a cA cZ G u)[23]? = some (a 23, .inl (cA, G.1 23, .inl (u.2 9))) := rfl
theorem cw_sa_23 {a : Nat → Nat} {cA cZ : ClassId} {G : pG} {u : pS} {f : Nat → Int32} : (cw a cA cZ G u).set 23 (a 23, .inl (cA, G.1 23, .inl f)) = cw a cA cZ G (pw_sa u 9 f) := rfl
theorem cw_at_24 {a : Nat → Nat} {cA cZ : ClassId} {G : pG} {u : pS} : (cw a cA cZ G u)[24]? = some (a 24, .inl (cA, G.1 24, .inl (u.2 10))) := rfl
theorem cw_sa_24 {a : Nat → Nat} {cA cZ : ClassId} {G : pG} {u : pS} {f : Nat → Int32} : (cw a cA cZ G u).set 24 (a 24, .inl (cA, G.1 24, .inl f)) = cw a cA cZ G (pw_sa u 10 f) := rfl
theorem cw_at_25 {a : Nat → Nat} {cA cZ : ClassId} {G : pG} {u : pS} : (cw a cA cZ G u)[25]? = some (a 25, .inl (cA, G.1 25, .inl (u.2 11))) := rfl
theorem cw_sa_25 {a : Nat → Nat} {cA cZ : ClassId} {G : pG} {u : pS} {f : Nat → Int32} : (cw a cA cZ G u).set 25 (a 25, .inl (cA, G.1 25, .inl f)) = cw a cA cZ G (pw_sa u 11 f) := rfl
theorem cw_at_26 {a : Nat → Nat} {cA cZ : ClassId} {G : pG} {u : pS} : (cw a cA cZ G u)[26]? = some (a 26, .inl (cA, G.1 26, .inl (u.2 12))) := rfl
theorem cw_sa_26 {a : Nat → Nat} {cA cZ : ClassId} {G : pG} {u : pS} {f : Nat → Int32} : (cw a cA cZ G u).set 26 (a 26, .inl (cA, G.1 26, .inl f)) = cw a cA cZ G (pw_sa u 12 f) := rfl
theorem cw_at_27 {a : Nat → Nat} {cA cZ : ClassId} {G : pG} {u : pS} : (cw a cA cZ G u)[27]? = some (a 27, .inl (cA, G.1 27, .inl (u.2 13))) := rfl
theorem cw_sa_27 {a : Nat → Nat} {cA cZ : ClassId} {G : pG} {u : pS} {f : Nat → Int32} : (cw a cA cZ G u).set 27 (a 27, .inl (cA, G.1 27, .inl f)) = cw a cA cZ G (pw_sa u 13 f) := rfl
theorem cw_at_28 {a : Nat → Nat} {cA cZ : ClassId} {G : pG} {u : pS} : (cw a cA cZ G u)[28]? = some (a 28, .inl (cA, G.1 28, .inl (u.2 14))) := rfl
theorem cw_sa_28 {a : Nat → Nat} {cA cZ : ClassId} {G : pG} {u : pS} {f : Nat → Int32} : (cw a cA cZ G u).set 28 (a 28, .inl (cA, G.1 28, .inl f)) = cw a cA cZ G (pw_sa u 14 f) := rfl
theorem cw_at_29 {a : Nat → Nat} {cA cZ : ClassId} {G : pG} {u : pS} : (cw a cA cZ G u)[29]? = some (a 29, .inl (cA, G.1 29, .inl (u.2 15))) := rfl
theorem cw_sa_29 {a : Nat → Nat} {cA cZ : ClassId} {G : pG} {u : pS} {f : Nat → Int32} : (cw a cA cZ G u).set 29 (a 29, .inl (cA, G.1 29, .inl f)) = cw a cA cZ G (pw_sa u 15 f) := rfl
theorem cw_at_30 {a : Nat → Nat} {cA cZ : ClassId} {G : pG} {u : pS} : (cw a cA cZ G u)[30]? = some (a 30, .inl (cA, G.1 30, .inl (u.2 16))) := rfl
theorem cw_sa_30 {a : Nat → Nat} {cA cZ : ClassId} {G : pG} {u : pS} {f : Nat → Int32} : (cw a cA cZ G u).set 30 (a 30, .inl (cA, G.1 30, .inl f)) = cw a cA cZ G (pw_sa u 16 f) := rfl
theorem cw_at_31 {a : Nat → Nat} {cA cZ : ClassId} {G : pG} {u : pS} : (cw a cA cZ G u)[31]? = some (a 31, .inl (cA, G.1 31, .inl (u.2 17))) := rfl
theorem cw_sa_31 {a : Nat → Nat} {cA cZ : ClassId} {G : pG} {u : pS} {f : Nat → Int32} : (cw a cA cZ G u).set 31 (a 31, .inl (cA, G.1 31, .inl f)) = cw a cA cZ G (pw_sa u 17 f) := rfl
theorem cw_at_32 {a : Nat → Nat} {cA cZ : ClassId} {G : pG} {u : pS} : (cw a cA cZ G u)[32]? = some (a 32, .inl (cA, G.1 32, .inl (u.2 18))) := rfl
theorem cw_sa_32 {a : Nat → Nat} {cA cZ : ClassId} {G : pG} {u : pS} {f : Nat → Int32} : (cw a cA cZ G u).set 32 (a 32, .inl (cA, G.1 32, .inl f)) = cw a cA cZ G (pw_sa u 18 f) := rfl
theorem cw_at_33 {a : Nat → Nat} {cA cZ : ClassId} {G : pG} {u : pS} : (cw a cA cZ G u)[33]? = some (a 33, .inl (cA, G.1 33, .inl (u.2 19))) := rfl
theorem cw_sa_33 {a : Nat → Nat} {cA cZ : ClassId} {G : pG} {u : pS} {f : Nat → Int32} : (cw a cA cZ G u).set 33 (a 33, .inl (cA, G.1 33, .inl f)) = cw a cA cZ G (pw_sa u 19 f) := rfl
theorem cw_at_34 {a : Nat → Nat} {cA cZ : ClassId} {G : pG} {u : pS} : (cw a cA cZ G u)[34]? = some (a 34, .inl (cZ, G.1 34, .inl (u.2 20))) := rfl
theorem cw_sa_34 {a : Nat → Nat} {cA cZ : ClassId} {G : pG} {u : pS} {f : Nat → Int32} : (cw a cA cZ G u).set 34 (a 34, .inl (cZ, G.1 34, .inl f)) = cw a cA cZ G (pw_sa u 20 f) := rfl
theorem cw_at_35 {a : Nat → Nat} {cA cZ : ClassId} {G : pG} {u : pS} : (cw a cA cZ G u)[35]? = some (a 35, .inl (cA, G.1 35, .inl (u.2 21))) := rfl
theorem cw_sa_35 {a : Nat → Nat} {cA cZ : ClassId} {G : pG} {u : pS} {f : Nat → Int32} : (cw a cA cZ G u).set 35 (a 35, .inl (cA, G.1 35, .inl f)) = cw a cA cZ G (pw_sa u 21 f) := rfl
theorem cw_at_36 {a : Nat → Nat} {cA cZ : ClassId} {G : pG} {u : pS} : (cw a cA cZ G u)[36]? = some (a 36, .inl (cA, G.1 36, .inl (u.2 22))) := rfl
theorem cw_sa_36 {a : Nat → Nat} {cA cZ : ClassId} {G : pG} {u : pS} {f : Nat → Int32} : (cw a cA cZ G u).set 36 (a 36, .inl (cA, G.1 36, .inl f)) = cw a cA cZ G (pw_sa u 22 f) := rfl
theorem cw_at_37 {a : Nat → Nat} {cA cZ : ClassId} {G : pG} {u : pS} : (cw a cA cZ G u)[37]? = some (a 37, .inl (cA, G.1 37, .inl (u.2 23))) := rfl
theorem cw_sa_37 {a : Nat → Nat} {cA cZ : ClassId} {G : pG} {u : pS} {f : Nat → Int32} : (cw a cA cZ G u).set 37 (a 37, .inl (cA, G.1 37, .inl f)) = cw a cA cZ G (pw_sa u 23 f) := rfl
theorem cw_at_38 {a : Nat → Nat} {cA cZ : ClassId} {G : pG} {u : pS} : (cw a cA cZ G u)[38]? = some (a 38, .inl (cA, G.1 38, .inl (u.2 24))) := rfl
theorem cw_sa_38 {a : Nat → Nat} {cA cZ : ClassId} {G : pG} {u : pS} {f : Nat → Int32} : (cw a cA cZ G u).set 38 (a 38, .inl (cA, G.1 38, .inl f)) = cw a cA cZ G (pw_sa u 24 f) := rfl
theorem cw_at_39 {a : Nat → Nat} {cA cZ : ClassId} {G : pG} {u : pS} : (cw a cA cZ G u)[39]? = some (a 39, .inl (cA, G.1 39, .inl (u.2 25))) := rfl
theorem cw_sa_39 {a : Nat → Nat} {cA cZ : ClassId} {G : pG} {u : pS} {f : Nat → Int32} : (cw a cA cZ G u).set 39 (a 39, .inl (cA, G.1 39, .inl f)) = cw a cA cZ G (pw_sa u 25 f) := rfl
theorem cw_D {a : Nat → Nat} {cA cZ : ClassId} {G : pG} {u : pS} {A : Nat → Prop} (hI : pw_I 40 a) (hF : ∀ k, k < 40 → A (a k)) : va_D A (cw a cA cZ G u) := pw_addrs rfl hI hF
end
