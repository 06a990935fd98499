section
-- ===== PART A: goes FIRST, ahead of the names: the tables' words, and 'selects' of the private methods out of them =====
/-- a private method of a class that the tables say can be made, by its rows of tables_1 -/
def lw_okq (q : MethodName × Nat) : Prop := (q.1.cls ≠ "java/lang/invoke/MethodHandle" ∧ q.1.cls ≠ "java/lang/invoke/VarHandle") ∧ Cond.instantiable q.1.cls q.2 ∈ tables_1 ∧ Cond.privateMethod q.1 ∈ tables_1 ∧ Cond.instanceMethod q.1 ∈ tables_1
theorem lw_p0 : lw_okq (⟨"PictureInlays", "needPlace", "(II)V"⟩, 12) := ⟨⟨by decide +kernel, by decide +kernel⟩, List.mem_of_getElem? (i := 23) (by decide +kernel), List.mem_of_getElem? (i := 318) (by decide +kernel), List.mem_of_getElem? (i := 319) (by decide +kernel)⟩
theorem lw_p1 : lw_okq (⟨"java/lang/Throwable", "fillInStackTrace", "(I)Ljava/lang/Throwable;"⟩, 6) := ⟨⟨by decide +kernel, by decide +kernel⟩, List.mem_of_getElem? (i := 363) (by decide +kernel), List.mem_of_getElem? (i := 361) (by decide +kernel), List.mem_of_getElem? (i := 362) (by decide +kernel)⟩
theorem lw_p2 : lw_okq (⟨"PictureInlays", "told", "(Z)Z"⟩, 12) := ⟨⟨by decide +kernel, by decide +kernel⟩, List.mem_of_getElem? (i := 23) (by decide +kernel), List.mem_of_getElem? (i := 420) (by decide +kernel), List.mem_of_getElem? (i := 421) (by decide +kernel)⟩
theorem lw_p3 : lw_okq (⟨"PictureInlays$Pieces", "gatherAll", "()V"⟩, 11) := ⟨⟨by decide +kernel, by decide +kernel⟩, List.mem_of_getElem? (i := 102) (by decide +kernel), List.mem_of_getElem? (i := 452) (by decide +kernel), List.mem_of_getElem? (i := 453) (by decide +kernel)⟩
theorem lw_p4 : lw_okq (⟨"PictureInlays$Pieces", "gather", "(II)V"⟩, 11) := ⟨⟨by decide +kernel, by decide +kernel⟩, List.mem_of_getElem? (i := 102) (by decide +kernel), List.mem_of_getElem? (i := 459) (by decide +kernel), List.mem_of_getElem? (i := 460) (by decide +kernel)⟩
theorem lw_p5 : lw_okq (⟨"PictureInlays$Pieces", "begin", "(II)V"⟩, 11) := ⟨⟨by decide +kernel, by decide +kernel⟩, List.mem_of_getElem? (i := 102) (by decide +kernel), List.mem_of_getElem? (i := 463) (by decide +kernel), List.mem_of_getElem? (i := 464) (by decide +kernel)⟩
theorem lw_p6 : lw_okq (⟨"PictureInlays$Pieces", "include", "(II)V"⟩, 11) := ⟨⟨by decide +kernel, by decide +kernel⟩, List.mem_of_getElem? (i := 102) (by decide +kernel), List.mem_of_getElem? (i := 475) (by decide +kernel), List.mem_of_getElem? (i := 476) (by decide +kernel)⟩
theorem lw_p7 : lw_okq (⟨"PictureInlays$Pieces", "joinSmallest", "(I)Z"⟩, 11) := ⟨⟨by decide +kernel, by decide +kernel⟩, List.mem_of_getElem? (i := 102) (by decide +kernel), List.mem_of_getElem? (i := 485) (by decide +kernel), List.mem_of_getElem? (i := 486) (by decide +kernel)⟩
theorem lw_p8 : lw_okq (⟨"PictureInlays$Pieces", "smallest", "()I"⟩, 11) := ⟨⟨by decide +kernel, by decide +kernel⟩, List.mem_of_getElem? (i := 102) (by decide +kernel), List.mem_of_getElem? (i := 489) (by decide +kernel), List.mem_of_getElem? (i := 490) (by decide +kernel)⟩
theorem lw_p9 : lw_okq (⟨"PictureInlays$Pieces", "closestTo", "(I)I"⟩, 11) := ⟨⟨by decide +kernel, by decide +kernel⟩, List.mem_of_getElem? (i := 102) (by decide +kernel), List.mem_of_getElem? (i := 493) (by decide +kernel), List.mem_of_getElem? (i := 494) (by decide +kernel)⟩
theorem lw_p10 : lw_okq (⟨"PictureInlays$Pieces", "countSidesOf", "(I)V"⟩, 11) := ⟨⟨by decide +kernel, by decide +kernel⟩, List.mem_of_getElem? (i := 102) (by decide +kernel), List.mem_of_getElem? (i := 497) (by decide +kernel), List.mem_of_getElem? (i := 498) (by decide +kernel)⟩
theorem lw_p11 : lw_okq (⟨"PictureInlays$Pieces", "countSidesAt", "(I)V"⟩, 11) := ⟨⟨by decide +kernel, by decide +kernel⟩, List.mem_of_getElem? (i := 102) (by decide +kernel), List.mem_of_getElem? (i := 501) (by decide +kernel), List.mem_of_getElem? (i := 502) (by decide +kernel)⟩
theorem lw_p12 : lw_okq (⟨"PictureInlays", "needParted", "()V"⟩, 12) := ⟨⟨by decide +kernel, by decide +kernel⟩, List.mem_of_getElem? (i := 23) (by decide +kernel), List.mem_of_getElem? (i := 565) (by decide +kernel), List.mem_of_getElem? (i := 566) (by decide +kernel)⟩
theorem lw_p13 : lw_okq (⟨"PictureInlays", "needPiece", "(I)V"⟩, 12) := ⟨⟨by decide +kernel, by decide +kernel⟩, List.mem_of_getElem? (i := 23) (by decide +kernel), List.mem_of_getElem? (i := 597) (by decide +kernel), List.mem_of_getElem? (i := 598) (by decide +kernel)⟩
theorem lw_p14 : lw_okq (⟨"PictureInlays$Walk", "noteCorner", "()V"⟩, 8) := ⟨⟨by decide +kernel, by decide +kernel⟩, List.mem_of_getElem? (i := 171) (by decide +kernel), List.mem_of_getElem? (i := 638) (by decide +kernel), List.mem_of_getElem? (i := 639) (by decide +kernel)⟩
theorem lw_p15 : lw_okq (⟨"PictureInlays$Walk", "turn", "(I)V"⟩, 8) := ⟨⟨by decide +kernel, by decide +kernel⟩, List.mem_of_getElem? (i := 171) (by decide +kernel), List.mem_of_getElem? (i := 644) (by decide +kernel), List.mem_of_getElem? (i := 645) (by decide +kernel)⟩
def lw_privs_1 : List (MethodName × Nat) := [(⟨"PictureInlays", "needPlace", "(II)V"⟩, 12), (⟨"java/lang/Throwable", "fillInStackTrace", "(I)Ljava/lang/Throwable;"⟩, 6), (⟨"PictureInlays", "told", "(Z)Z"⟩, 12), (⟨"PictureInlays$Pieces", "gatherAll", "()V"⟩, 11), (⟨"PictureInlays$Pieces", "gather", "(II)V"⟩, 11), (⟨"PictureInlays$Pieces", "begin", "(II)V"⟩, 11), (⟨"PictureInlays$Pieces", "include", "(II)V"⟩, 11), (⟨"PictureInlays$Pieces", "joinSmallest", "(I)Z"⟩, 11), (⟨"PictureInlays$Pieces", "smallest", "()I"⟩, 11), (⟨"PictureInlays$Pieces", "closestTo", "(I)I"⟩, 11), (⟨"PictureInlays$Pieces", "countSidesOf", "(I)V"⟩, 11), (⟨"PictureInlays$Pieces", "countSidesAt", "(I)V"⟩, 11), (⟨"PictureInlays", "needParted", "()V"⟩, 12), (⟨"PictureInlays", "needPiece", "(I)V"⟩, 12), (⟨"PictureInlays$Walk", "noteCorner", "()V"⟩, 8), (⟨"PictureInlays$Walk", "turn", "(I)V"⟩, 8)]
theorem lw_r1 : ∀ q ∈ lw_privs_1, lw_okq q := List.forall_mem_cons.mpr ⟨lw_p0, List.forall_mem_cons.mpr ⟨lw_p1, List.forall_mem_cons.mpr ⟨lw_p2, List.forall_mem_cons.mpr ⟨lw_p3, List.forall_mem_cons.mpr ⟨lw_p4, List.forall_mem_cons.mpr ⟨lw_p5, List.forall_mem_cons.mpr ⟨lw_p6, List.forall_mem_cons.mpr ⟨lw_p7, List.forall_mem_cons.mpr ⟨lw_p8, List.forall_mem_cons.mpr ⟨lw_p9, List.forall_mem_cons.mpr ⟨lw_p10, List.forall_mem_cons.mpr ⟨lw_p11, List.forall_mem_cons.mpr ⟨lw_p12, List.forall_mem_cons.mpr ⟨lw_p13, List.forall_mem_cons.mpr ⟨lw_p14, List.forall_mem_cons.mpr ⟨lw_p15, fun _ h => absurd h List.not_mem_nil⟩⟩⟩⟩⟩⟩⟩⟩⟩⟩⟩⟩⟩⟩⟩⟩
theorem lw_p16 : lw_okq (⟨"PictureInlays$Walk", "isAhead", "(II)Z"⟩, 8) := ⟨⟨by decide +kernel, by decide +kernel⟩, List.mem_of_getElem? (i := 171) (by decide +kernel), List.mem_of_getElem? (i := 648) (by decide +kernel), List.mem_of_getElem? (i := 649) (by decide +kernel)⟩
theorem lw_p17 : lw_okq (⟨"PictureInlays$Tool", "fits", "(IIII)Z"⟩, 4) := ⟨⟨by decide +kernel, by decide +kernel⟩, List.mem_of_getElem? (i := 203) (by decide +kernel), List.mem_of_getElem? (i := 683) (by decide +kernel), List.mem_of_getElem? (i := 684) (by decide +kernel)⟩
theorem lw_p18 : lw_okq (⟨"PictureInlays$Tool", "mark", "(III)V"⟩, 4) := ⟨⟨by decide +kernel, by decide +kernel⟩, List.mem_of_getElem? (i := 203) (by decide +kernel), List.mem_of_getElem? (i := 688) (by decide +kernel), List.mem_of_getElem? (i := 689) (by decide +kernel)⟩
theorem lw_p19 : lw_okq (⟨"PictureInlays$Sheet", "rowFor", "(III)I"⟩, 9) := ⟨⟨by decide +kernel, by decide +kernel⟩, List.mem_of_getElem? (i := 224) (by decide +kernel), List.mem_of_getElem? (i := 731) (by decide +kernel), List.mem_of_getElem? (i := 732) (by decide +kernel)⟩
theorem lw_p20 : lw_okq (⟨"PictureInlays$Sheet", "newRow", "(I)I"⟩, 9) := ⟨⟨by decide +kernel, by decide +kernel⟩, List.mem_of_getElem? (i := 224) (by decide +kernel), List.mem_of_getElem? (i := 737) (by decide +kernel), List.mem_of_getElem? (i := 738) (by decide +kernel)⟩
theorem lw_p21 : lw_okq (⟨"PictureInlays$Sheet", "put", "(II)V"⟩, 9) := ⟨⟨by decide +kernel, by decide +kernel⟩, List.mem_of_getElem? (i := 224) (by decide +kernel), List.mem_of_getElem? (i := 741) (by decide +kernel), List.mem_of_getElem? (i := 742) (by decide +kernel)⟩
theorem lw_p22 : lw_okq (⟨"PictureInlays", "needNested", "()V"⟩, 12) := ⟨⟨by decide +kernel, by decide +kernel⟩, List.mem_of_getElem? (i := 23) (by decide +kernel), List.mem_of_getElem? (i := 752) (by decide +kernel), List.mem_of_getElem? (i := 753) (by decide +kernel)⟩
theorem lw_p23 : lw_okq (⟨"PictureInlaysModel", "isPlace", "(II)Z"⟩, 23) := ⟨⟨by decide +kernel, by decide +kernel⟩, List.mem_of_getElem? (i := 783) (by decide +kernel), List.mem_of_getElem? (i := 870) (by decide +kernel), List.mem_of_getElem? (i := 871) (by decide +kernel)⟩
theorem lw_p24 : lw_okq (⟨"PictureInlaysModel", "nearestKind", "(I)I"⟩, 23) := ⟨⟨by decide +kernel, by decide +kernel⟩, List.mem_of_getElem? (i := 783) (by decide +kernel), List.mem_of_getElem? (i := 885) (by decide +kernel), List.mem_of_getElem? (i := 886) (by decide +kernel)⟩
theorem lw_p25 : lw_okq (⟨"PictureInlaysModel", "apart", "(II)I"⟩, 23) := ⟨⟨by decide +kernel, by decide +kernel⟩, List.mem_of_getElem? (i := 783) (by decide +kernel), List.mem_of_getElem? (i := 889) (by decide +kernel), List.mem_of_getElem? (i := 890) (by decide +kernel)⟩
theorem lw_p26 : lw_okq (⟨"PictureInlaysModel", "makePieces", "()V"⟩, 23) := ⟨⟨by decide +kernel, by decide +kernel⟩, List.mem_of_getElem? (i := 783) (by decide +kernel), List.mem_of_getElem? (i := 893) (by decide +kernel), List.mem_of_getElem? (i := 894) (by decide +kernel)⟩
theorem lw_p27 : lw_okq (⟨"PictureInlaysModel", "lower", "(I)Z"⟩, 23) := ⟨⟨by decide +kernel, by decide +kernel⟩, List.mem_of_getElem? (i := 783) (by decide +kernel), List.mem_of_getElem? (i := 897) (by decide +kernel), List.mem_of_getElem? (i := 898) (by decide +kernel)⟩
theorem lw_p28 : lw_okq (⟨"PictureInlaysModel", "beside", "(II)I"⟩, 23) := ⟨⟨by decide +kernel, by decide +kernel⟩, List.mem_of_getElem? (i := 783) (by decide +kernel), List.mem_of_getElem? (i := 901) (by decide +kernel), List.mem_of_getElem? (i := 902) (by decide +kernel)⟩
theorem lw_p29 : lw_okq (⟨"PictureInlaysModel", "smallest", "(I)I"⟩, 23) := ⟨⟨by decide +kernel, by decide +kernel⟩, List.mem_of_getElem? (i := 783) (by decide +kernel), List.mem_of_getElem? (i := 905) (by decide +kernel), List.mem_of_getElem? (i := 906) (by decide +kernel)⟩
theorem lw_p30 : lw_okq (⟨"PictureInlaysModel", "join", "(I)V"⟩, 23) := ⟨⟨by decide +kernel, by decide +kernel⟩, List.mem_of_getElem? (i := 783) (by decide +kernel), List.mem_of_getElem? (i := 909) (by decide +kernel), List.mem_of_getElem? (i := 910) (by decide +kernel)⟩
theorem lw_p31 : lw_okq (⟨"PictureInlaysModel", "numberOf", "(I)I"⟩, 23) := ⟨⟨by decide +kernel, by decide +kernel⟩, List.mem_of_getElem? (i := 783) (by decide +kernel), List.mem_of_getElem? (i := 917) (by decide +kernel), List.mem_of_getElem? (i := 918) (by decide +kernel)⟩
def lw_privs_2 : List (MethodName × Nat) := [(⟨"PictureInlays$Walk", "isAhead", "(II)Z"⟩, 8), (⟨"PictureInlays$Tool", "fits", "(IIII)Z"⟩, 4), (⟨"PictureInlays$Tool", "mark", "(III)V"⟩, 4), (⟨"PictureInlays$Sheet", "rowFor", "(III)I"⟩, 9), (⟨"PictureInlays$Sheet", "newRow", "(I)I"⟩, 9), (⟨"PictureInlays$Sheet", "put", "(II)V"⟩, 9), (⟨"PictureInlays", "needNested", "()V"⟩, 12), (⟨"PictureInlaysModel", "isPlace", "(II)Z"⟩, 23), (⟨"PictureInlaysModel", "nearestKind", "(I)I"⟩, 23), (⟨"PictureInlaysModel", "apart", "(II)I"⟩, 23), (⟨"PictureInlaysModel", "makePieces", "()V"⟩, 23), (⟨"PictureInlaysModel", "lower", "(I)Z"⟩, 23), (⟨"PictureInlaysModel", "beside", "(II)I"⟩, 23), (⟨"PictureInlaysModel", "smallest", "(I)I"⟩, 23), (⟨"PictureInlaysModel", "join", "(I)V"⟩, 23), (⟨"PictureInlaysModel", "numberOf", "(I)I"⟩, 23)]
theorem lw_r2 : ∀ q ∈ lw_privs_2, lw_okq q := List.forall_mem_cons.mpr ⟨lw_p16, List.forall_mem_cons.mpr ⟨lw_p17, List.forall_mem_cons.mpr ⟨lw_p18, List.forall_mem_cons.mpr ⟨lw_p19, List.forall_mem_cons.mpr ⟨lw_p20, List.forall_mem_cons.mpr ⟨lw_p21, List.forall_mem_cons.mpr ⟨lw_p22, List.forall_mem_cons.mpr ⟨lw_p23, List.forall_mem_cons.mpr ⟨lw_p24, List.forall_mem_cons.mpr ⟨lw_p25, List.forall_mem_cons.mpr ⟨lw_p26, List.forall_mem_cons.mpr ⟨lw_p27, List.forall_mem_cons.mpr ⟨lw_p28, List.forall_mem_cons.mpr ⟨lw_p29, List.forall_mem_cons.mpr ⟨lw_p30, List.forall_mem_cons.mpr ⟨lw_p31, fun _ h => absurd h List.not_mem_nil⟩⟩⟩⟩⟩⟩⟩⟩⟩⟩⟩⟩⟩⟩⟩⟩
theorem lw_p32 : lw_okq (⟨"PictureInlaysModel", "noPiece", "(I)Z"⟩, 23) := ⟨⟨by decide +kernel, by decide +kernel⟩, List.mem_of_getElem? (i := 783) (by decide +kernel), List.mem_of_getElem? (i := 925) (by decide +kernel), List.mem_of_getElem? (i := 926) (by decide +kernel)⟩
theorem lw_p33 : lw_okq (⟨"PictureInlaysModel", "end", "(II)I"⟩, 23) := ⟨⟨by decide +kernel, by decide +kernel⟩, List.mem_of_getElem? (i := 783) (by decide +kernel), List.mem_of_getElem? (i := 929) (by decide +kernel), List.mem_of_getElem? (i := 930) (by decide +kernel)⟩
theorem lw_p34 : lw_okq (⟨"PictureInlaysModel", "isAtEdge", "(I)Z"⟩, 23) := ⟨⟨by decide +kernel, by decide +kernel⟩, List.mem_of_getElem? (i := 783) (by decide +kernel), List.mem_of_getElem? (i := 933) (by decide +kernel), List.mem_of_getElem? (i := 934) (by decide +kernel)⟩
theorem lw_p35 : lw_okq (⟨"PictureInlaysModel", "walk", "(I)V"⟩, 23) := ⟨⟨by decide +kernel, by decide +kernel⟩, List.mem_of_getElem? (i := 783) (by decide +kernel), List.mem_of_getElem? (i := 945) (by decide +kernel), List.mem_of_getElem? (i := 946) (by decide +kernel)⟩
theorem lw_p36 : lw_okq (⟨"PictureInlaysModel", "ahead", "(IIIIZ)Z"⟩, 23) := ⟨⟨by decide +kernel, by decide +kernel⟩, List.mem_of_getElem? (i := 783) (by decide +kernel), List.mem_of_getElem? (i := 949) (by decide +kernel), List.mem_of_getElem? (i := 950) (by decide +kernel)⟩
theorem lw_p37 : lw_okq (⟨"PictureInlaysModel", "isOf", "(III)Z"⟩, 23) := ⟨⟨by decide +kernel, by decide +kernel⟩, List.mem_of_getElem? (i := 783) (by decide +kernel), List.mem_of_getElem? (i := 953) (by decide +kernel), List.mem_of_getElem? (i := 954) (by decide +kernel)⟩
theorem lw_p38 : lw_okq (⟨"PictureInlaysModel", "isReached", "(IIII)Z"⟩, 23) := ⟨⟨by decide +kernel, by decide +kernel⟩, List.mem_of_getElem? (i := 783) (by decide +kernel), List.mem_of_getElem? (i := 965) (by decide +kernel), List.mem_of_getElem? (i := 966) (by decide +kernel)⟩
theorem lw_p39 : lw_okq (⟨"PictureInlaysModel", "isRoom", "(IIII)Z"⟩, 23) := ⟨⟨by decide +kernel, by decide +kernel⟩, List.mem_of_getElem? (i := 783) (by decide +kernel), List.mem_of_getElem? (i := 969) (by decide +kernel), List.mem_of_getElem? (i := 970) (by decide +kernel)⟩
theorem lw_p40 : lw_okq (⟨"PictureInlaysModel", "comesBefore", "(II)Z"⟩, 23) := ⟨⟨by decide +kernel, by decide +kernel⟩, List.mem_of_getElem? (i := 783) (by decide +kernel), List.mem_of_getElem? (i := 981) (by decide +kernel), List.mem_of_getElem? (i := 982) (by decide +kernel)⟩
theorem lw_p41 : lw_okq (⟨"PictureInlaysModel", "isLaidBefore", "(II)Z"⟩, 23) := ⟨⟨by decide +kernel, by decide +kernel⟩, List.mem_of_getElem? (i := 783) (by decide +kernel), List.mem_of_getElem? (i := 989) (by decide +kernel), List.mem_of_getElem? (i := 990) (by decide +kernel)⟩
theorem lw_p42 : lw_okq (⟨"PictureInlaysModel", "lay", "(III)Z"⟩, 23) := ⟨⟨by decide +kernel, by decide +kernel⟩, List.mem_of_getElem? (i := 783) (by decide +kernel), List.mem_of_getElem? (i := 993) (by decide +kernel), List.mem_of_getElem? (i := 994) (by decide +kernel)⟩
theorem lw_p43 : lw_okq (⟨"PictureInlaysModel", "brightness", "(I)I"⟩, 23) := ⟨⟨by decide +kernel, by decide +kernel⟩, List.mem_of_getElem? (i := 783) (by decide +kernel), List.mem_of_getElem? (i := 1013) (by decide +kernel), List.mem_of_getElem? (i := 1014) (by decide +kernel)⟩
def lw_privs_3 : List (MethodName × Nat) := [(⟨"PictureInlaysModel", "noPiece", "(I)Z"⟩, 23), (⟨"PictureInlaysModel", "end", "(II)I"⟩, 23), (⟨"PictureInlaysModel", "isAtEdge", "(I)Z"⟩, 23), (⟨"PictureInlaysModel", "walk", "(I)V"⟩, 23), (⟨"PictureInlaysModel", "ahead", "(IIIIZ)Z"⟩, 23), (⟨"PictureInlaysModel", "isOf", "(III)Z"⟩, 23), (⟨"PictureInlaysModel", "isReached", "(IIII)Z"⟩, 23), (⟨"PictureInlaysModel", "isRoom", "(IIII)Z"⟩, 23), (⟨"PictureInlaysModel", "comesBefore", "(II)Z"⟩, 23), (⟨"PictureInlaysModel", "isLaidBefore", "(II)Z"⟩, 23), (⟨"PictureInlaysModel", "lay", "(III)Z"⟩, 23), (⟨"PictureInlaysModel", "brightness", "(I)I"⟩, 23)]
theorem lw_r3 : ∀ q ∈ lw_privs_3, lw_okq q := List.forall_mem_cons.mpr ⟨lw_p32, List.forall_mem_cons.mpr ⟨lw_p33, List.forall_mem_cons.mpr ⟨lw_p34, List.forall_mem_cons.mpr ⟨lw_p35, List.forall_mem_cons.mpr ⟨lw_p36, List.forall_mem_cons.mpr ⟨lw_p37, List.forall_mem_cons.mpr ⟨lw_p38, List.forall_mem_cons.mpr ⟨lw_p39, List.forall_mem_cons.mpr ⟨lw_p40, List.forall_mem_cons.mpr ⟨lw_p41, List.forall_mem_cons.mpr ⟨lw_p42, List.forall_mem_cons.mpr ⟨lw_p43, fun _ h => absurd h List.not_mem_nil⟩⟩⟩⟩⟩⟩⟩⟩⟩⟩⟩⟩
def lw_privs : List (MethodName × Nat) := lw_privs_1 ++ (lw_privs_2 ++ (lw_privs_3))
def lw_tbl : List Cond := k2_sels lw_privs ++ tables_1
theorem lw_privs_ok : ∀ q ∈ lw_privs, lw_okq q := by
  show ∀ q ∈ lw_privs_1 ++ (lw_privs_2 ++ (lw_privs_3)), lw_okq q
  exact List.forall_mem_append.mpr ⟨lw_r1, List.forall_mem_append.mpr ⟨lw_r2, lw_r3⟩⟩
def pw_T : List Cond := lw_tbl.filter goodWord
theorem pw_mem {i : Nat} {w : Cond} (h : lw_tbl[i]? = some w) (hg : goodWord w = true) : w ∈ pw_T := List.mem_filter.mpr ⟨List.mem_of_getElem? h, hg⟩
theorem pw_good {c : Cond} {ws : List Cond} (h : ∀ w ∈ ws, w ∈ pw_T) : GoodIn (c :: pw_T) ws := fun w hw => ⟨List.mem_cons_of_mem _ (h w hw), good_of_word (List.mem_filter.mp (h w hw)).2⟩
theorem pw_all {k : Cond} (h : k ∈ pw_T) : ∀ w ∈ k :: pw_T, w ∈ pw_T := List.forall_mem_cons.mpr ⟨h, fun _ h => h⟩
end
section
def R_PI : String := "PictureInlays"
def R_Model : String := "PictureInlaysModel"
def R_Brightest : String := "PictureInlays$Brightest"
def R_Colours : String := "PictureInlays$Colours"
def R_Grid : String := "PictureInlays$Grid"
def R_Highest : String := "PictureInlays$Highest"
def R_Laying : String := "PictureInlays$Laying"
def R_Pieces : String := "PictureInlays$Pieces"
def R_Ranking : String := "PictureInlays$Ranking"
def R_Sheet : String := "PictureInlays$Sheet"
def R_Tool : String := "PictureInlays$Tool"
def R_Walk : String := "PictureInlays$Walk"
def R_Law : String := "PictureInlaysLaw"
def R_Integer : String := "java/lang/Integer"
def R_Arrays : String := "java/util/Arrays"
def T_PI : u_T := fun k => match k with
  | 0 => ("PictureInlays", "grid", "LPictureInlays$Grid;", true)
  | 1 => ("PictureInlays", "kinds", "I", true)
  | 2 => ("PictureInlays", "picture", "LPictureInlays$Colours;", true)
  | 3 => ("PictureInlays", "woods", "LPictureInlays$Colours;", true)
  | 4 => ("PictureInlays", "pieces", "LPictureInlays$Pieces;", true)
  | 5 => ("PictureInlays", "brightest", "LPictureInlays$Ranking;", true)
  | 6 => ("PictureInlays", "laying", "LPictureInlays$Ranking;", true)
  | 7 => ("PictureInlays", "walk", "LPictureInlays$Walk;", true)
  | 8 => ("PictureInlays", "tool", "LPictureInlays$Tool;", true)
  | 9 => ("PictureInlays", "sheet", "LPictureInlays$Sheet;", true)
  | 10 => ("PictureInlays", "parted", "Z", false)
  | _ => ("PictureInlays", "nested", "Z", false)
def ty_PI : Nat → FieldType := fun k => match k with
  | 0 => .object "PictureInlays$Grid"
  | 1 => .int
  | 2 => .object "PictureInlays$Colours"
  | 3 => .object "PictureInlays$Colours"
  | 4 => .object "PictureInlays$Pieces"
  | 5 => .object "PictureInlays$Ranking"
  | 6 => .object "PictureInlays$Ranking"
  | 7 => .object "PictureInlays$Walk"
  | 8 => .object "PictureInlays$Tool"
  | 9 => .object "PictureInlays$Sheet"
  | 10 => .boolean
  | _ => .boolean
theorem nm_PI : ∀ a, a < 12 → ∀ b, b < 12 → a ≠ b → (T_PI a).2.1 ≠ (T_PI b).2.1 := by decide +kernel
theorem tyok_PI : ∀ k, k < 12 → parseFieldDescriptor (T_PI k).2.2.1 = some (ty_PI k) := by decide +kernel
theorem in0_PI : ∀ w ∈ u_ws R_PI T_PI 12, w ∈ lw_tbl ∧ goodWord w = true := by decide +kernel
theorem in_PI {c : Cond} : ∀ w ∈ u_ws R_PI T_PI 12, w ∈ c :: pw_T := fun w h => List.mem_cons_of_mem _ (List.mem_filter.mpr (in0_PI w h))
def T_Model : u_T := fun k => match k with
  | 0 => ("PictureInlaysModel", "code", "I", false)
  | 1 => ("PictureInlaysModel", "wide", "I", true)
  | 2 => ("PictureInlaysModel", "high", "I", true)
  | 3 => ("PictureInlaysModel", "kinds", "I", true)
  | 4 => ("PictureInlaysModel", "colours", "[I", true)
  | 5 => ("PictureInlaysModel", "kindColours", "[I", true)
  | 6 => ("PictureInlaysModel", "kindOf", "[I", true)
  | 7 => ("PictureInlaysModel", "firstOf", "[I", true)
  | 8 => ("PictureInlaysModel", "pieces", "I", false)
  | 9 => ("PictureInlaysModel", "firsts", "[I", true)
  | 10 => ("PictureInlaysModel", "sizes", "[I", true)
  | 11 => ("PictureInlaysModel", "shared", "[I", true)
  | 12 => ("PictureInlaysModel", "parted", "Z", false)
  | 13 => ("PictureInlaysModel", "cornerX", "[I", true)
  | 14 => ("PictureInlaysModel", "cornerY", "[I", true)
  | 15 => ("PictureInlaysModel", "corners", "I", false)
  | 16 => ("PictureInlaysModel", "nested", "Z", false)
  | 17 => ("PictureInlaysModel", "atX", "[I", true)
  | 18 => ("PictureInlaysModel", "atY", "[I", true)
  | 19 => ("PictureInlaysModel", "rows", "I", false)
  | 20 => ("PictureInlaysModel", "rowTop", "[I", true)
  | 21 => ("PictureInlaysModel", "rowHigh", "[I", true)
  | _ => ("PictureInlaysModel", "rowUsed", "[I", true)
def ty_Model : Nat → FieldType := fun k => match k with
  | 0 => .int
  | 1 => .int
  | 2 => .int
  | 3 => .int
  | 4 => .array .int
  | 5 => .array .int
  | 6 => .array .int
  | 7 => .array .int
  | 8 => .int
  | 9 => .array .int
  | 10 => .array .int
  | 11 => .array .int
  | 12 => .boolean
  | 13 => .array .int
  | 14 => .array .int
  | 15 => .int
  | 16 => .boolean
  | 17 => .array .int
  | 18 => .array .int
  | 19 => .int
  | 20 => .array .int
  | 21 => .array .int
  | _ => .array .int
theorem nm_Model : ∀ a, a < 23 → ∀ b, b < 23 → a ≠ b → (T_Model a).2.1 ≠ (T_Model b).2.1 := by decide +kernel
theorem tyok_Model : ∀ k, k < 23 → parseFieldDescriptor (T_Model k).2.2.1 = some (ty_Model k) := by decide +kernel
theorem in0_Model : ∀ w ∈ u_ws R_Model T_Model 23, w ∈ lw_tbl ∧ goodWord w = true := by decide +kernel
theorem in_Model {c : Cond} : ∀ w ∈ u_ws R_Model T_Model 23, w ∈ c :: pw_T := fun w h => List.mem_cons_of_mem _ (List.mem_filter.mpr (in0_Model w h))
def T_Brightest : u_T := fun k => match k with
  | 0 => ("PictureInlays$Ranking", "row", "[I", true)
  | _ => ("PictureInlays$Brightest", "woods", "LPictureInlays$Colours;", true)
def ty_Brightest : Nat → FieldType := fun k => match k with
  | 0 => .array .int
  | _ => .object "PictureInlays$Colours"
theorem nm_Brightest : ∀ a, a < 2 → ∀ b, b < 2 → a ≠ b → (T_Brightest a).2.1 ≠ (T_Brightest b).2.1 := by decide +kernel
theorem tyok_Brightest : ∀ k, k < 2 → parseFieldDescriptor (T_Brightest k).2.2.1 = some (ty_Brightest k) := by decide +kernel
theorem in0_Brightest : ∀ w ∈ u_ws R_Brightest T_Brightest 2, w ∈ lw_tbl ∧ goodWord w = true := by decide +kernel
theorem in_Brightest {c : Cond} : ∀ w ∈ u_ws R_Brightest T_Brightest 2, w ∈ c :: pw_T := fun w h => List.mem_cons_of_mem _ (List.mem_filter.mpr (in0_Brightest w h))
def T_Colours : u_T := fun k => match k with
  | 0 => ("PictureInlays$Colours", "red", "[I", true)
  | 1 => ("PictureInlays$Colours", "green", "[I", true)
  | _ => ("PictureInlays$Colours", "blue", "[I", true)
def ty_Colours : Nat → FieldType := fun k => match k with
  | 0 => .array .int
  | 1 => .array .int
  | _ => .array .int
theorem nm_Colours : ∀ a, a < 3 → ∀ b, b < 3 → a ≠ b → (T_Colours a).2.1 ≠ (T_Colours b).2.1 := by decide +kernel
theorem tyok_Colours : ∀ k, k < 3 → parseFieldDescriptor (T_Colours k).2.2.1 = some (ty_Colours k) := by decide +kernel
theorem in0_Colours : ∀ w ∈ u_ws R_Colours T_Colours 3, w ∈ lw_tbl ∧ goodWord w = true := by decide +kernel
theorem in_Colours {c : Cond} : ∀ w ∈ u_ws R_Colours T_Colours 3, w ∈ c :: pw_T := fun w h => List.mem_cons_of_mem _ (List.mem_filter.mpr (in0_Colours w h))
def T_Grid : u_T := fun k => match k with
  | 0 => ("PictureInlays$Grid", "width", "I", true)
  | 1 => ("PictureInlays$Grid", "height", "I", true)
  | 2 => ("PictureInlays$Grid", "places", "I", true)
  | 3 => ("PictureInlays$Grid", "column", "[I", true)
  | 4 => ("PictureInlays$Grid", "row", "[I", true)
  | _ => ("PictureInlays$Grid", "beside", "[I", true)
def ty_Grid : Nat → FieldType := fun k => match k with
  | 0 => .int
  | 1 => .int
  | 2 => .int
  | 3 => .array .int
  | 4 => .array .int
  | _ => .array .int
theorem nm_Grid : ∀ a, a < 6 → ∀ b, b < 6 → a ≠ b → (T_Grid a).2.1 ≠ (T_Grid b).2.1 := by decide +kernel
theorem tyok_Grid : ∀ k, k < 6 → parseFieldDescriptor (T_Grid k).2.2.1 = some (ty_Grid k) := by decide +kernel
theorem in0_Grid : ∀ w ∈ u_ws R_Grid T_Grid 6, w ∈ lw_tbl ∧ goodWord w = true := by decide +kernel
theorem in_Grid {c : Cond} : ∀ w ∈ u_ws R_Grid T_Grid 6, w ∈ c :: pw_T := fun w h => List.mem_cons_of_mem _ (List.mem_filter.mpr (in0_Grid w h))
def T_Highest : u_T := fun k => match k with
  | 0 => ("PictureInlays$Ranking", "row", "[I", true)
  | _ => ("PictureInlays$Highest", "pieces", "LPictureInlays$Pieces;", true)
def ty_Highest : Nat → FieldType := fun k => match k with
  | 0 => .array .int
  | _ => .object "PictureInlays$Pieces"
theorem nm_Highest : ∀ a, a < 2 → ∀ b, b < 2 → a ≠ b → (T_Highest a).2.1 ≠ (T_Highest b).2.1 := by decide +kernel
theorem tyok_Highest : ∀ k, k < 2 → parseFieldDescriptor (T_Highest k).2.2.1 = some (ty_Highest k) := by decide +kernel
theorem in0_Highest : ∀ w ∈ u_ws R_Highest T_Highest 2, w ∈ lw_tbl ∧ goodWord w = true := by decide +kernel
theorem in_Highest {c : Cond} : ∀ w ∈ u_ws R_Highest T_Highest 2, w ∈ c :: pw_T := fun w h => List.mem_cons_of_mem _ (List.mem_filter.mpr (in0_Highest w h))
def T_Laying : u_T := fun k => match k with
  | 0 => ("PictureInlays$Ranking", "row", "[I", true)
  | _ => ("PictureInlays$Laying", "pieces", "LPictureInlays$Pieces;", true)
def ty_Laying : Nat → FieldType := fun k => match k with
  | 0 => .array .int
  | _ => .object "PictureInlays$Pieces"
theorem nm_Laying : ∀ a, a < 2 → ∀ b, b < 2 → a ≠ b → (T_Laying a).2.1 ≠ (T_Laying b).2.1 := by decide +kernel
theorem tyok_Laying : ∀ k, k < 2 → parseFieldDescriptor (T_Laying k).2.2.1 = some (ty_Laying k) := by decide +kernel
theorem in0_Laying : ∀ w ∈ u_ws R_Laying T_Laying 2, w ∈ lw_tbl ∧ goodWord w = true := by decide +kernel
theorem in_Laying {c : Cond} : ∀ w ∈ u_ws R_Laying T_Laying 2, w ∈ c :: pw_T := fun w h => List.mem_cons_of_mem _ (List.mem_filter.mpr (in0_Laying w h))
def T_Pieces : u_T := fun k => match k with
  | 0 => ("PictureInlays$Pieces", "grid", "LPictureInlays$Grid;", true)
  | 1 => ("PictureInlays$Pieces", "woodAt", "[I", true)
  | 2 => ("PictureInlays$Pieces", "numberAt", "[I", true)
  | 3 => ("PictureInlays$Pieces", "waiting", "[I", true)
  | 4 => ("PictureInlays$Pieces", "sides", "[I", true)
  | 5 => ("PictureInlays$Pieces", "first", "[I", true)
  | 6 => ("PictureInlays$Pieces", "size", "[I", true)
  | 7 => ("PictureInlays$Pieces", "leastX", "[I", true)
  | 8 => ("PictureInlays$Pieces", "mostX", "[I", true)
  | 9 => ("PictureInlays$Pieces", "mostY", "[I", true)
  | _ => ("PictureInlays$Pieces", "count", "I", false)
def ty_Pieces : Nat → FieldType := fun k => match k with
  | 0 => .object "PictureInlays$Grid"
  | 1 => .array .int
  | 2 => .array .int
  | 3 => .array .int
  | 4 => .array .int
  | 5 => .array .int
  | 6 => .array .int
  | 7 => .array .int
  | 8 => .array .int
  | 9 => .array .int
  | _ => .int
theorem nm_Pieces : ∀ a, a < 11 → ∀ b, b < 11 → a ≠ b → (T_Pieces a).2.1 ≠ (T_Pieces b).2.1 := by decide +kernel
theorem tyok_Pieces : ∀ k, k < 11 → parseFieldDescriptor (T_Pieces k).2.2.1 = some (ty_Pieces k) := by decide +kernel
theorem in0_Pieces : ∀ w ∈ u_ws R_Pieces T_Pieces 11, w ∈ lw_tbl ∧ goodWord w = true := by decide +kernel
theorem in_Pieces {c : Cond} : ∀ w ∈ u_ws R_Pieces T_Pieces 11, w ∈ c :: pw_T := fun w h => List.mem_cons_of_mem _ (List.mem_filter.mpr (in0_Pieces w h))
def T_Sheet : u_T := fun k => match k with
  | 0 => ("PictureInlays$Sheet", "pieces", "LPictureInlays$Pieces;", true)
  | 1 => ("PictureInlays$Sheet", "highest", "LPictureInlays$Ranking;", true)
  | 2 => ("PictureInlays$Sheet", "lyingX", "[I", true)
  | 3 => ("PictureInlays$Sheet", "lyingY", "[I", true)
  | 4 => ("PictureInlays$Sheet", "rowTop", "[I", true)
  | 5 => ("PictureInlays$Sheet", "rowHeight", "[I", true)
  | 6 => ("PictureInlays$Sheet", "rowUsed", "[I", true)
  | 7 => ("PictureInlays$Sheet", "rows", "I", false)
  | _ => ("PictureInlays$Sheet", "bottom", "I", false)
def ty_Sheet : Nat → FieldType := fun k => match k with
  | 0 => .object "PictureInlays$Pieces"
  | 1 => .object "PictureInlays$Ranking"
  | 2 => .array .int
  | 3 => .array .int
  | 4 => .array .int
  | 5 => .array .int
  | 6 => .array .int
  | 7 => .int
  | _ => .int
theorem nm_Sheet : ∀ a, a < 9 → ∀ b, b < 9 → a ≠ b → (T_Sheet a).2.1 ≠ (T_Sheet b).2.1 := by decide +kernel
theorem tyok_Sheet : ∀ k, k < 9 → parseFieldDescriptor (T_Sheet k).2.2.1 = some (ty_Sheet k) := by decide +kernel
theorem in0_Sheet : ∀ w ∈ u_ws R_Sheet T_Sheet 9, w ∈ lw_tbl ∧ goodWord w = true := by decide +kernel
theorem in_Sheet {c : Cond} : ∀ w ∈ u_ws R_Sheet T_Sheet 9, w ∈ c :: pw_T := fun w h => List.mem_cons_of_mem _ (List.mem_filter.mpr (in0_Sheet w h))
def T_Tool : u_T := fun k => match k with
  | 0 => ("PictureInlays$Tool", "grid", "LPictureInlays$Grid;", true)
  | 1 => ("PictureInlays$Tool", "pieces", "LPictureInlays$Pieces;", true)
  | 2 => ("PictureInlays$Tool", "marked", "[Z", true)
  | _ => ("PictureInlays$Tool", "covered", "I", false)
def ty_Tool : Nat → FieldType := fun k => match k with
  | 0 => .object "PictureInlays$Grid"
  | 1 => .object "PictureInlays$Pieces"
  | 2 => .array .boolean
  | _ => .int
theorem nm_Tool : ∀ a, a < 4 → ∀ b, b < 4 → a ≠ b → (T_Tool a).2.1 ≠ (T_Tool b).2.1 := by decide +kernel
theorem tyok_Tool : ∀ k, k < 4 → parseFieldDescriptor (T_Tool k).2.2.1 = some (ty_Tool k) := by decide +kernel
theorem in0_Tool : ∀ w ∈ u_ws R_Tool T_Tool 4, w ∈ lw_tbl ∧ goodWord w = true := by decide +kernel
theorem in_Tool {c : Cond} : ∀ w ∈ u_ws R_Tool T_Tool 4, w ∈ c :: pw_T := fun w h => List.mem_cons_of_mem _ (List.mem_filter.mpr (in0_Tool w h))
def T_Walk : u_T := fun k => match k with
  | 0 => ("PictureInlays$Walk", "pieces", "LPictureInlays$Pieces;", true)
  | 1 => ("PictureInlays$Walk", "mostSteps", "I", true)
  | 2 => ("PictureInlays$Walk", "turnX", "[I", true)
  | 3 => ("PictureInlays$Walk", "turnY", "[I", true)
  | 4 => ("PictureInlays$Walk", "x", "I", false)
  | 5 => ("PictureInlays$Walk", "y", "I", false)
  | 6 => ("PictureInlays$Walk", "way", "I", false)
  | _ => ("PictureInlays$Walk", "corners", "I", false)
def ty_Walk : Nat → FieldType := fun k => match k with
  | 0 => .object "PictureInlays$Pieces"
  | 1 => .int
  | 2 => .array .int
  | 3 => .array .int
  | 4 => .int
  | 5 => .int
  | 6 => .int
  | _ => .int
theorem nm_Walk : ∀ a, a < 8 → ∀ b, b < 8 → a ≠ b → (T_Walk a).2.1 ≠ (T_Walk b).2.1 := by decide +kernel
theorem tyok_Walk : ∀ k, k < 8 → parseFieldDescriptor (T_Walk k).2.2.1 = some (ty_Walk k) := by decide +kernel
theorem in0_Walk : ∀ w ∈ u_ws R_Walk T_Walk 8, w ∈ lw_tbl ∧ goodWord w = true := by decide +kernel
theorem in_Walk {c : Cond} : ∀ w ∈ u_ws R_Walk T_Walk 8, w ∈ c :: pw_T := fun w h => List.mem_cons_of_mem _ (List.mem_filter.mpr (in0_Walk w h))
abbrev vwCl : List vw_C := [(R_PI, T_PI, 12), (R_Model, T_Model, 23), (R_Brightest, T_Brightest, 2), (R_Colours, T_Colours, 3), (R_Grid, T_Grid, 6), (R_Highest, T_Highest, 2), (R_Laying, T_Laying, 2), (R_Pieces, T_Pieces, 11), (R_Sheet, T_Sheet, 9), (R_Tool, T_Tool, 4), (R_Walk, T_Walk, 8)]
end
section
/-! OWN ROWS: a world of fixed cells. u : pS is the state (ints by number, arrays by number); G : pG what never changes (lengths by cell, final ints, fixed arrays). -/
abbrev pS : Type := (Nat → Int32) × (Nat → Nat → Int32)
abbrev pG : Type := (Nat → Nat) × (Nat → Int32) × (Nat → Nat → Int32)
def pw_sa (u : pS) (k : Nat) (f : Nat → Int32) : pS := (u.1, va_up u.2 k f)
def pw_si (u : pS) (k : Nat) (x : Int32) : pS := (va_up u.1 k x, u.2)
/-- which cells a method over the n cells at a may change: those, and what is new -/
def pw_F (n : Nat) (a : Nat → Nat) (sz : Nat) : Nat → Prop := fun q => (∃ k, k < n ∧ q = a k) ∨ sz ≤ q
def pw_I (n : Nat) (a : Nat → Nat) : Prop := ∀ j k, j < n → k < n → a j = a k → j = k
abbrev pw_B (D : va_G) (wd : pS → va_W) (tys : List (ClassId × FieldType)) (u : pS) (t : State) : Prop := va_P D vwCl (wd u) t.heap ∧ va_K D vwCl tys t
abbrev pw_pre (D : va_G) (wd : pS → va_W) (tys : List (ClassId × FieldType)) (sz : Nat) (u : pS) (U : State) : Prop := U.heap.size = sz ∧ va_P D vwCl (wd u) U.heap ∧ va_K D vwCl tys U
abbrev pw_Ev (below : List Frame) (args : Array Value) (s : State) (D : va_G) (wd : pS → va_W) (tys : List (ClassId × FieldType)) (A : Nat → Prop) (Q : pS → Prop) : State → Prop := MQ below (va_Qv (fun u : pS => Q u) (pw_B D wd tys) A) args s 0 0 A
abbrev pw_Ei (below : List Frame) (args : Array Value) (s : State) (D : va_G) (wd : pS → va_W) (tys : List (ClassId × FieldType)) (A : Nat → Prop) (Q : Int32 → pS → Prop) : State → Prop := MQ below (va_Qi (fun (r : Int32) (u : pS) => Q r u) (pw_B D wd tys) A) args s 0 0 A
def pw_C (p : Program) (s : State) (m : MethodId) (args : Array Value) (meth : Method) (c : Code) (cc : ByteArray) (nL : Nat) (own : String) (ret : Option FieldType) (Ts : List Cond) (A : Nat → Prop) : Prop :=
  p.tables.exec = Jvm.exec ∧ c.code = cc ∧ meth.sig.returnType = ret ∧ c.maxLocals = nL ∧ s.vm.findClass own = some m.cls ∧ (∀ w ∈ Ts, w.before args s = true) ∧ meth.locks = false ∧ (∀ q : Nat, s.heap.size ≤ q → A q)
def pw_K (s : State) (D : va_G) (n : Nat) (a : Nat → Nat) (tys : List (ClassId × FieldType)) (A : Nat → Prop) : Prop := va_K D vwCl tys s ∧ pw_I n a ∧ ∀ k, k < n → A (a k)
theorem pw_FA {n : Nat} {a : Nat → Nat} {A : Nat → Prop} {H0 H : Heap} {locs : List Loc} (hS : va_S A H0 H locs) (hF : ∀ k, k < n → A (a k)) (hA : ∀ q : Nat, H0.size ≤ q → A q) : ∀ q : Nat, pw_F n a H.size q → A q := by
  intro q h
  rcases h with ⟨k, hk, rfl⟩ | h
  · exact hF k hk
  · exact hA q (Nat.le_trans hS.1 h)
theorem pw_blind {av : List Value} {D : va_G} {wd : pS → va_W} {tys : List (ClassId × FieldType)} {sz : Nat} {u : pS} : FrameBlind (va_Pc av (pw_pre D wd tys sz u)) := by
  intro a U g mk q
  obtain ⟨q0, q1, qP, qK⟩ := q
  exact ⟨q0, q1, qP, va_K.moved (u := U) (U := U.calling g mk a) (Vm.Alike.refl U.vm) qK⟩
theorem pw_addrs {n : Nat} {a : Nat → Nat} {ws : va_W} {A : Nat → Prop} (he : ws.map (fun q => q.1) = (List.range n).map a) (hI : pw_I n a) (hF : ∀ k, k < n → A (a k)) : va_D A ws := by
  have key : ∀ (k : Nat) (q : Nat × va_E), ws[k]? = some q → k < n ∧ q.1 = a k := by
    intro k q hk
    have h1 : (ws.map (fun q => q.1))[k]? = some q.1 := by rw [List.getElem?_map, hk]; rfl
    rw [he, List.getElem?_map] at h1
    by_cases hkn : k < n
    · rw [List.getElem?_range hkn] at h1
      exact ⟨hkn, (Option.some.inj h1).symm⟩
    · rw [List.getElem?_eq_none (by rw [List.length_range]; omega)] at h1
      cases h1
  refine ⟨fun i j p q hi hj hpq => ?_, fun k q hk => ?_⟩
  · obtain ⟨h1, h2⟩ := key i p hi
    obtain ⟨h3, h4⟩ := key j q hj
    exact hI i j h1 h3 (by rw [← h2, ← h4]; exact hpq)
  · obtain ⟨h1, h2⟩ := key k q hk
    rw [h2]
    exact hF k h1
section
variable {p : Program} {l : Launch} {e : Env} {R : Room} {s : State} {m : MethodId} {args : Array Value} {below : List Frame} {meth : Method} {c : Code} {H : Heap} {locs : List Loc} {cells slots : Nat} {Z : State → Prop}
variable {pc : Nat} {ls : Array Slot} {rest st0 : List Value} {aa : Array Value} {D : va_G} {n : Nat} {a : Nat → Nat} {wd : pS → va_W} {tys : List (ClassId × FieldType)} {A : Nat → Prop}
theorem cc_i {Q : Int32 → pS → Prop} (hr : va_Run p l e R s m args below meth c H locs cells slots 0 0 (F0 m pc ls st0) rest (va_Qi (fun (r : Int32) (u : pS) => Q r u) (pw_B D wd tys) (pw_F n a H.size) aa) (pw_F n a H.size)) (hS : va_S A s.heap H locs) (hF : ∀ k, k < n → A (a k)) (hA : ∀ q : Nat, s.heap.size ≤ q → A q)
    (kk : ∀ (r : Int32) (u : pS) (H : Heap) (locs : List Loc), va_P D vwCl (wd u) H → va_S A s.heap H locs → Q r u → W p l e R s m args below meth c H locs cells slots Z (F0 m (pc + 3) ls (.int r :: rest))) : W p l e R s m args below meth c H locs cells slots Z (F0 m pc ls st0) :=
  va_calli hr hS (fun q _ h => pw_FA hS hF hA q h) (pw_FA hS hF hA) (fun r u t H1 locs1 ht hvm hw hB hz1 hk1 hS1 => kk r u H1 locs1 (by rw [← ht]; exact hB.1) hS1 hw)
theorem cc_v {Q : pS → Prop} (hr : va_Run p l e R s m args below meth c H locs cells slots 0 0 (F0 m pc ls st0) rest (va_Qv (fun u : pS => Q u) (pw_B D wd tys) (pw_F n a H.size) aa) (pw_F n a H.size)) (hS : va_S A s.heap H locs) (hF : ∀ k, k < n → A (a k)) (hA : ∀ q : Nat, s.heap.size ≤ q → A q)
    (kk : ∀ (u : pS) (H : Heap) (locs : List Loc), va_P D vwCl (wd u) H → va_S A s.heap H locs → Q u → W p l e R s m args below meth c H locs cells slots Z (F0 m (pc + 3) ls rest)) : W p l e R s m args below meth c H locs cells slots Z (F0 m pc ls st0) :=
  va_callv hr hS (fun q _ h => pw_FA hS hF hA q h) (pw_FA hS hF hA) (fun u t H1 locs1 ht hvm hw hB hz1 hk1 hS1 => kk u H1 locs1 (by rw [← ht]; exact hB.1) hS1 hw)
end
section
variable {c1 : Cond} {R : Room} {s : State} {args : Array Value} {own C owner : String} {index maxL : Nat} {x y : MethodName} {bytes : ByteArray} {ret : Option FieldType} {rm : Room}
theorem pw_cwS (n : Nat) (hts : ∀ w ∈ c1 :: pw_T, w.before args s = true) (kc : Cond.code y bytes maxL ret ∈ pw_T) (ki : Cond.initialized y.cls ∈ pw_T) (kl : Cond.methodLink own index y ∈ pw_T) (kt : Cond.static y ∈ pw_T)
    (hd : y.cls ≠ "java/lang/invoke/MethodHandle" ∧ y.cls ≠ "java/lang/invoke/VarHandle" ∧ (parseMethodDescriptor y.desc).map (fun d => d.parameters.length) = some n) (hR : rm.frames + 1 ≤ R.frames ∧ 8 + (maxL + 11) + rm.locals ≤ R.locals) :
    CallB R s args own index y bytes maxL ret (Cond.code y bytes maxL ret :: pw_T) rm rm.cells rm.slots n ∧ (Cond.static y).before args s = true :=
  ⟨callB_of n hts (pw_good (pw_all kc)) rfl rfl rfl (hts _ (List.mem_cons_of_mem _ ki)) (hts _ (List.mem_cons_of_mem _ kl)) hd hR, hts _ (List.mem_cons_of_mem _ kt)⟩
theorem pw_cwV (n : Nat) (hts : ∀ w ∈ c1 :: pw_T, w.before args s = true) (kc : Cond.code y bytes maxL ret ∈ pw_T) (ki : Cond.initialized y.cls ∈ pw_T) (kl : Cond.methodLink own index y ∈ pw_T) (kn : Cond.instanceMethod y ∈ pw_T) (ks : Cond.selects C y y ∈ pw_T)
    (hd : y.cls ≠ "java/lang/invoke/MethodHandle" ∧ y.cls ≠ "java/lang/invoke/VarHandle" ∧ (parseMethodDescriptor y.desc).map (fun d => d.parameters.length) = some n) (hR : rm.frames + 1 ≤ R.frames ∧ 8 + (maxL + 11) + rm.locals ≤ R.locals) :
    CallW R s args own C index y bytes maxL ret (Cond.code y bytes maxL ret :: pw_T) rm rm.cells rm.slots n :=
  ⟨callB_of n hts (pw_good (pw_all kc)) rfl rfl rfl (hts _ (List.mem_cons_of_mem _ ki)) (hts _ (List.mem_cons_of_mem _ kl)) hd hR, hts _ (List.mem_cons_of_mem _ kn), hts _ (List.mem_cons_of_mem _ ks)⟩
theorem pw_wsU (kc : Cond.code y bytes maxL ret ∈ pw_T) (ki : Cond.initialized y.cls ∈ pw_T) (kl : Cond.methodLink own index x ∈ pw_T) (km : Cond.sameMethod x.cls owner x.name x.desc ∈ pw_T) (ks : Cond.selects C x y ∈ pw_T) (kn : Cond.instanceMethod y ∈ pw_T) :
    GoodIn (c1 :: pw_T) (va_wsU own index C owner x y (Cond.code y bytes maxL ret :: pw_T)) :=
  pw_good (show ∀ w ∈ ([.methodLink own index x, .sameMethod x.cls owner x.name x.desc, .selects C x y, .instanceMethod y, .initialized y.cls] : List Cond) ++ (Cond.code y bytes maxL ret :: pw_T), w ∈ pw_T from
    List.forall_mem_append.mpr ⟨List.forall_mem_cons.mpr ⟨kl, List.forall_mem_cons.mpr ⟨km, List.forall_mem_cons.mpr ⟨ks, List.forall_mem_cons.mpr ⟨kn, List.forall_mem_cons.mpr ⟨ki, fun _ h => absurd h List.not_mem_nil⟩⟩⟩⟩⟩, pw_all kc⟩)
theorem pw_cwU (n : Nat) (hts : ∀ w ∈ c1 :: pw_T, w.before args s = true) (kc : Cond.code y bytes maxL ret ∈ pw_T) (ki : Cond.initialized y.cls ∈ pw_T) (kl : Cond.methodLink own index x ∈ pw_T) (km : Cond.sameMethod x.cls owner x.name x.desc ∈ pw_T) (ks : Cond.selects C x y ∈ pw_T) (kn : Cond.instanceMethod y ∈ pw_T)
    (hyx : y = ⟨owner, x.name, x.desc⟩) (hd : owner ≠ "java/lang/invoke/MethodHandle" ∧ owner ≠ "java/lang/invoke/VarHandle" ∧ (parseMethodDescriptor x.desc).map (fun d => d.parameters.length) = some n) (hR : rm.frames + 1 ≤ R.frames ∧ 8 + (maxL + 11) + rm.locals ≤ R.locals) :
    va_CU R s args own C owner index x y bytes maxL ret (Cond.code y bytes maxL ret :: pw_T) rm rm.cells rm.slots n := va_cwU n hts (pw_wsU kc ki kl km ks kn) rfl rfl rfl hyx hd hR
theorem pw_cwO (n : Nat) (hts : ∀ w ∈ c1 :: pw_T, w.before args s = true) (kc : Cond.code y bytes maxL ret ∈ pw_T) (ki : Cond.initialized y.cls ∈ pw_T) (kl : Cond.methodLink own index x ∈ pw_T) (km : Cond.sameMethod x.cls owner x.name x.desc ∈ pw_T) (ks : Cond.selects C x y ∈ pw_T) (kn : Cond.instanceMethod y ∈ pw_T)
    (hz : va_Nw (.declares ⟨owner, x.name, x.desc⟩) s) (hd : owner ≠ "java/lang/invoke/MethodHandle" ∧ owner ≠ "java/lang/invoke/VarHandle" ∧ (parseMethodDescriptor x.desc).map (fun d => d.parameters.length) = some n) (hR : rm.frames + 1 ≤ R.frames ∧ 8 + (maxL + 11) + rm.locals ≤ R.locals) :
    va_CU R s args own C owner index x y bytes maxL ret (Cond.code y bytes maxL ret :: pw_T) rm rm.cells rm.slots n := va_cwA n hts (pw_wsU kc ki kl km ks kn) rfl rfl rfl hz hd hR
end
end
section
/-! OWN ROWS: methods that may throw. px_Met: a contract with two ends (it returns: at most mc cells of ms slots are new; it throws: mx of nx). -/
def px_End (st : State) (o : Outcome) (t : State) (L : List Loc) (mc ms mx nx : Nat) : Prop :=
  st.WarmedH t.vm ∧ (((∃ v, o = .returned v) ∧ st.sameButNew ({ t with vm := st.vm } : State) L mc ms) ∨ ((∃ x, o = .threw x) ∧ st.sameButNew ({ t with vm := st.vm } : State) L mx nx))
def px_Met (l : Launch) (y : MethodName) (ws : List Cond) (rm : Room) (Pc : Array Value → State → Prop) (Qc : Array Value → State → Outcome → State → Prop) (mc ms mx nx : Nat) (free : Addr → Prop) : Prop :=
  MetFree l y (headSpec ws rm) Pc (fun _ _ _ _ _ => True) (fun a st o t => Qc a st o t ∧ ∃ L, px_End st o t L mc ms mx nx ∧ ∀ q ∈ L, free q.base)
def px_MQ (below : List Frame) (Qc : Array Value → State → Outcome → State → Prop) (a : Array Value) (s : State) (mc ms mx nx : Nat) (free : Addr → Prop) : State → Prop := fun t =>
  ∃ o, t.status = .running ∧ Ended t below o ∧ Qc a s o t ∧ ∃ L, px_End s o t L mc ms mx nx ∧ ∀ q ∈ L, free q.base
theorem px_ofMQ {below : List Frame} {Qc Qd : Array Value → State → Outcome → State → Prop} {a : Array Value} {s : State} {mc ms mx nx : Nat} {free : Addr → Prop} (hq : ∀ o t, Qc a s o t → Qd a s o t) {t : State} (h : MQ below Qc a s mc ms free t) : px_MQ below Qd a s mc ms mx nx free t := by
  obtain ⟨o, h1, h2, h3, L, ⟨h4, h5, h6⟩, h7⟩ := h
  exact ⟨o, h1, h2, hq _ _ h3, L, ⟨h5, Or.inl ⟨h4, h6⟩⟩, h7⟩
section
variable {p : Program} {l : Launch} {e : Env} {R : Room} {s : State} {m : MethodId} {args : Array Value} {below : List Frame} {meth : Method} {c : Code} {H : Heap} {locs : List Loc} {cells slots : Nat} {Z Z' : State → Prop} {g : JFrame}
theorem px_mono (h : ∀ t, Z t → Z' t) (k : W p l e R s m args below meth c H locs cells slots Z g) : W p l e R s m args below meth c H locs cells slots Z' g := by
  intro T hT X
  obtain ⟨t, a, b⟩ := k T hT X
  exact ⟨t, a, h t b⟩
theorem px_ofW {y : MethodName} {ws ws' : List Cond} {rm : Room} {Pc : Array Value → State → Prop} {Qc : Array Value → State → Outcome → State → Prop} {mc ms mx nx : Nat} {free : Addr → Prop} {cc : ByteArray} {maxL : Nat} {ret : Option FieldType}
    (hy : plainName y.cls = true) (hw : ws = Cond.code y cc maxL ret :: ws')
    (body : ∀ p e s m args below meth c s₁, BodyLoose p l y (headSpec ws rm) cc maxL ret e s m args below meth c s₁ → c.maxLocals = maxL → c.exceptionTable.isEmpty = true → Pc args s →
      W p l e (headSpec ws rm).room s m args below meth c s.heap [] 0 0 (px_MQ below Qc args s mc ms mx nx free) (entryFrame m args maxL)) : px_Met l y ws rm Pc Qc mc ms mx nx free := by
  refine MetFree.of_bodyS (code := cc) (maxLocals := maxL) (ret := ret) hy ?_ ?_
  · intro args s m h hn
    obtain ⟨meth, c, h1, h2, h3, h4, h5, h6, -, -⟩ := Cond.code_spec hn (atoms_spec (ws := ws) h _ (by rw [hw]; exact List.mem_cons_self))
    exact ⟨meth, c, h1, h2, h3, h4, h5, h6⟩
  · intro p e s m args below meth c s₁ B hml hP _
    have hh0 : s₁.heap = s.heap := by rw [B.state]; rfl
    have he : c.exceptionTable.isEmpty = true := B.noHandlers (atoms_spec (ws := ws) B.pre _ (by rw [hw]; exact List.mem_cons_self))
    obtain ⟨t, a1, o, b1, b2, b3⟩ := body p e s m args below meth c s₁ B hml he hP s₁ hh0 (Stand.of_body B)
    exact ⟨t, o, a1, b1, b2, ⟨b3.1, b3.2⟩⟩
/-- behind the instruction that calls: the callee, by its contract, comes back or throws -/
theorem px_core {U : State} (X : Stand p l e R s m args below meth c U locs cells slots) {g : JFrame} (hg : g.method = m) (hsize : g.locals.size = c.maxLocals) {ig : Instr} {len : Nat} (hdg : decode c.code g.pc = .ok (ig, len)) {Wd : Nat} (hW : 2 * g.monitorRoom + (g.stack.map fun v => v.category).sum ≤ Wd)
    {y : MethodName} {mk : MethodId} {a : Array Value} {methY : Method} {cY : Code} {maxL : Nat} (hn : U.methodNamed? y = some mk) (hmY : U.vm.method? mk = some methY) (hcY : methY.code = some cY) (hlY : cY.maxLocals = maxL) (hini : (Cond.initialized y.cls).before a U = true)
    {ws : List Cond} {rm : Room} {Pc : Array Value → State → Prop} {Qc : Array Value → State → Outcome → State → Prop} {mc ms mx nx : Nat} {free : Addr → Prop} (hM : px_Met l y ws rm Pc Qc mc ms mx nx free)
    (hws : ∀ w ∈ ws, w.before a U = true) (hframes : rm.frames + 1 ≤ R.frames) (hlocals : Wd + (maxL + 11) + rm.locals ≤ R.locals) (hcells : cells + rm.cells ≤ R.cells) (hslots : slots + rm.slots ≤ R.slots) (hPc : Pc a (U.calling g mk a)) :
    ∃ (o : Outcome) (t : State) (L : List Loc), Qc a (U.calling g mk a) o t ∧ (∀ q ∈ L, free q.base) ∧
      ((∃ (v : Option Value) (T' : State), o = .returned v ∧ T'.heap = t.heap ∧ T'.vm = t.vm ∧ Stand p l e R s m args below meth c T' (locs ++ L) (cells + mc) (slots + ms) ∧ Steps p.tables e below (doInvoke e (U.setTop g) [] mk a).1 (T'.setTop { g with pc := g.pc + len, stack := v.toList ++ g.stack })) ∨
       (∃ (x : Addr) (T' : State), o = .threw x ∧ T'.heap = t.heap ∧ T'.vm = t.vm ∧ Stand p l e R s m args below meth c T' (locs ++ L) (cells + mx) (slots + nx) ∧ Steps p.tables e below (doInvoke e (U.setTop g) [] mk a).1 ((T'.setTop g).pushFrame (.throwing x)))) := by
  obtain ⟨kY, hkY, -⟩ := className_of_methodNamed hn
  have hinitY : kY.init = .initialized := Cond.initialized_spec (findClass_of_methodNamed hn) hkY hini
  have h : At U g.method c below := by rw [hg]; exact X.here
  have happ : (headSpec ws rm).appliesLoose y e.platform (U.calling g mk a) = true :=
    Spec.appliesLoose_calling (g := g) h hdg hn hkY hinitY (X.room_calling (g := g) (R' := rm) hsize hmY hcY hframes (by rw [hlY]; omega) hcells hslots) (atoms_intro hws)
  have hfr : (U.setTop g).frames = [.java g] ++ below := by rw [State.frames_setTop' g h.top, X.tail]; rfl
  obtain ⟨o, s₂, hsteps, -, hend, hq, L, hE, hL⟩ := Steps.callFree hM p X.admits X.cas X.clock (acts := []) hfr happ hPc trivial
  rw [hfr] at hend
  obtain ⟨hW2, hE⟩ := hE
  rcases hE with ⟨⟨v, rfl⟩, hs⟩ | ⟨⟨x, rfl⟩, hs⟩
  · obtain ⟨T', X', -, -, ht⟩ := X.outOf hg hdg hend hW2 hs
    refine ⟨_, s₂, L, hq, hL, Or.inl ⟨v, T', rfl, ?_, ?_, X', ?_⟩⟩
    · rw [ht]; rfl
    · rw [ht]; rfl
    · rw [← ht]; exact hsteps
  · obtain ⟨T', X', -, -, ht⟩ := X.outOfThrown hg hend hW2 hs
    refine ⟨_, s₂, L, hq, hL, Or.inr ⟨x, T', rfl, ?_, ?_, X', ?_⟩⟩
    · rw [ht]; rfl
    · rw [ht]; rfl
    · rw [← ht]; exact hsteps
end
/-- the launch makes no stack traces -/
def px_L (l : Launch) : Prop := ∀ e : Env, l.admits e → e.platform.stackTraces = false
theorem px_none {c : Code} (h : c.exceptionTable.isEmpty = true) : ∀ (pc : Nat), ∀ x ∈ c.exceptionTable.toList, covers x pc = false := by
  have h0 : c.exceptionTable.size = 0 := by simpa [Array.isEmpty] using h
  have h1 : c.exceptionTable.toList = [] := List.eq_nil_of_length_eq_zero (by simpa using h0)
  intro pc x hx
  rw [h1] at hx
  cases hx
/-- a call that may throw, as the caller's walk sees it -/
def px_Run (p : Program) (l : Launch) (e : Env) (R : Room) (s : State) (m : MethodId) (args : Array Value) (below : List Frame) (meth : Method) (c : Code) (H : Heap) (locs : List Loc) (cells slots mc ms mx nx : Nat) (g : JFrame) (rest : List Value) (Qa : State → Outcome → State → Prop) (free : Addr → Prop) : Prop :=
  ∀ T : State, T.heap = H → Stand p l e R s m args below meth c T locs cells slots → ∃ (o : Outcome) (st₀ t : State) (L : List Loc), st₀.heap = H ∧ Qa st₀ o t ∧ (∀ q ∈ L, free q.base) ∧
    ((∃ (v : Option Value) (T' : State), o = .returned v ∧ T'.heap = t.heap ∧ T'.vm = t.vm ∧ Stand p l e R s m args below meth c T' (locs ++ L) (cells + mc) (slots + ms) ∧ Goes p e below T g T' { g with pc := g.pc + 3, stack := v.toList ++ rest }) ∨
     (∃ (x : Addr) (T' : State), o = .threw x ∧ T'.heap = t.heap ∧ T'.vm = t.vm ∧ Stand p l e R s m args below meth c T' (locs ++ L) (cells + mx) (slots + nx) ∧ ∀ target, Steps p.tables e below ((T'.setTop { g with stack := rest }).pushFrame (.throwing x)) target → Steps p.tables e below (T.setTop g) target))
section
variable {p : Program} {l : Launch} {e : Env} {R : Room} {s : State} {m : MethodId} {args : Array Value} {below : List Frame} {meth : Method} {c : Code} {H : Heap} {locs : List Loc} {cells slots : Nat}
  {Ts ws ws' : List Cond} {cc bytes : ByteArray} {nL maxL index n mc ms mx nx k1 k2 : Nat} {own C : String} {y : MethodName} {ret : Option FieldType} {rm : Room} {Pc : Array Value → State → Prop} {Qc : Array Value → State → Outcome → State → Prop} {free : Addr → Prop}
  {b : Addr} {As rest : List Value} {g : JFrame}
theorem px_runS (S : CallFix p m c cc nL s args Ts own) (hM : px_Met l y ws rm Pc Qc mc ms mx nx free) (cw : CallB R s args own index y bytes maxL ret ws rm k1 k2 n ∧ (Cond.static y).before args s = true) (hp : PreS s H Pc As)
    (hg : g.method = m) (hn : As.length = n) (hsize : g.locals.size = nL) (hstack : g.stack = As.reverse ++ rest) (hW : 2 * g.monitorRoom + (rest.map fun v => v.category).sum ≤ 8) (hdg : decode cc g.pc = .ok (.invokestatic index, 3)) (hf : cells + rm.cells ≤ R.cells ∧ slots + rm.slots ≤ R.slots) :
    px_Run p l e R s m args below meth c H locs cells slots mc ms mx nx g rest (Qc As.toArray) free := by
  obtain ⟨⟨-, -, hfr, hlo, hws, -, hcode, hini, hy, hlen, hl⟩, hstt⟩ := cw
  obtain ⟨hx, hb, hml, ho, -⟩ := S
  intro T hT X
  obtain ⟨mk, hnamed⟩ := Cond.code_named hcode
  obtain ⟨methM, cM, hmethM, hcM, -, hlM, -, -, -, hsigM⟩ := Cond.code_spec hnamed hcode
  have hstatic : methM.isStatic = true := Cond.static_spec hnamed hmethM hstt
  obtain ⟨kP, hkP, -⟩ := className_of_methodNamed hnamed
  have hinitP : kP.init = .initialized := Cond.initialized_spec (findClass_of_methodNamed hnamed) hkP hini
  obtain ⟨vm₁, X₁, hstep₁⟩ := X.invokestatic hx ho hl hnamed hmethM hstatic hkP hinitP hy (g := g) hg (argsL := As) (rest := rest) (hn.trans (hlen _ hsigM)) hstack (by rw [hb]; exact hdg)
  obtain ⟨o, t, L, hq, hL, hE⟩ := px_core X₁ (g := { g with stack := rest }) hg (hsize.trans hml.symm) (ig := .invokestatic index) (len := 3) (by rw [hb]; exact hdg) hW (y := y) (mk := mk) (a := As.toArray) (X₁.named hnamed) (by rw [X₁.warmed.alike.method?]; exact hmethM) hcM hlM
    (word_at X₁.warmed (Or.inl (by first | rfl | simp [Cond.onTables, Cond.keeps, Cond.steady])) hini) hM (fun w hw => hws w hw _ _ X₁.warmed) hfr hlo hf.1 hf.2 (hp.1 _ _ _ _ (hp.2 (T.setVm vm₁) hT X₁.warmed))
  refine ⟨o, _, t, L, ?_, hq, hL, ?_⟩
  · exact hT
  rcases hE with ⟨v, T', h1, h2, h3, X', st⟩ | ⟨x, T', h1, h2, h3, X', st⟩
  · exact Or.inl ⟨v, T', h1, h2, h3, X', fun target h => hstep₁ _ fun acts => by rw [doInvoke_state]; exact st.trans h⟩
  · exact Or.inr ⟨x, T', h1, h2, h3, X', fun target h => hstep₁ _ fun acts => by rw [doInvoke_state]; exact st.trans h⟩
theorem px_runV (S : CallFix p m c cc nL s args Ts own) (hM : px_Met l y ws rm Pc Qc mc ms mx nx free) (cw : CallW R s args own C index y bytes maxL ret ws rm k1 k2 n) (hp : PreV s H C b Pc As)
    (hg : g.method = m) (hn : As.length = n) (hsize : g.locals.size = nL) (hstack : g.stack = As.reverse ++ .ref b :: rest) (hW : 2 * g.monitorRoom + (rest.map fun v => v.category).sum ≤ 8) (hdg : decode cc g.pc = .ok (.invokevirtual index, 3)) (hf : cells + rm.cells ≤ R.cells ∧ slots + rm.slots ≤ R.slots) :
    px_Run p l e R s m args below meth c H locs cells slots mc ms mx nx g rest (Qc (Value.ref b :: As).toArray) free := by
  obtain ⟨⟨-, -, hfr, hlo, hws, -, hcode, hini, hy, hlen, hl⟩, hin, hse⟩ := cw
  obtain ⟨hx, hb, hml, ho, -⟩ := S
  obtain ⟨hbl, ⟨cellB, hcB, hoB, hclB⟩, hPc⟩ := hp
  intro T hT X
  obtain ⟨mk, methM, hnamed, hmethM, hstM, habM⟩ := Cond.instanceMethod_spec hin
  obtain ⟨methM', cM, hmethM', hcM, -, hlM, -, -, -, hsigM⟩ := Cond.code_spec hnamed hcode
  cases hmethM.symm.trans hmethM'
  obtain ⟨c2, r2, m2, q1, q2, q3, q4, kP, hkP, hkPi⟩ := Cond.selects_spec hse
  cases hclB.symm.trans q1
  cases (State.methodFound?_of_named hnamed hy).symm.trans q2
  cases hnamed.symm.trans q3
  have hselP : selectMethod e.platform s.vm cellB.cls mk = .method mk := by rw [Launch.admits_selectMethod X.admits]; exact q4
  obtain ⟨vm₁, X₁, hstep₁⟩ := X.invokevirtual hx ho hl hnamed hmethM hstM hkP hkPi hy (a := b) (cell := cellB) (by rw [hT]; exact hcB)
    (fun z h => by rw [h] at hoB; cases hoB) hselP hmethM habM hkP hkPi (g := g) hg (argsL := As) (rest := rest) (hn.trans (hlen _ hsigM)) hstack (by rw [hb]; exact hdg)
  obtain ⟨o, t, L, hq, hL, hE⟩ := px_core X₁ (g := { g with stack := rest }) hg (hsize.trans hml.symm) (ig := .invokevirtual index) (len := 3) (by rw [hb]; exact hdg) hW (y := y) (mk := mk) (a := (Value.ref b :: As).toArray) (X₁.named hnamed) (by rw [X₁.warmed.alike.method?]; exact hmethM) hcM hlM
    (word_at X₁.warmed (Or.inl (by first | rfl | simp [Cond.onTables, Cond.keeps, Cond.steady])) hini) hM (fun w hw => hws w hw _ _ X₁.warmed) hfr hlo hf.1 hf.2 (hbl _ _ _ _ (hPc (T.setVm vm₁) hT X₁.warmed))
  refine ⟨o, _, t, L, ?_, hq, hL, ?_⟩
  · exact hT
  rcases hE with ⟨v, T', h1, h2, h3, X', st⟩ | ⟨x, T', h1, h2, h3, X', st⟩
  · exact Or.inl ⟨v, T', h1, h2, h3, X', fun target h => hstep₁ _ fun acts => by rw [doInvoke_state]; exact st.trans h⟩
  · exact Or.inr ⟨x, T', h1, h2, h3, X', fun target h => hstep₁ _ fun acts => by rw [doInvoke_state]; exact st.trans h⟩
end
/-- the kinds of exceptions, and an object of such a kind -/
def px_E : Nat → String
  | 0 => "java/lang/IllegalStateException"
  | 1 => "java/lang/IndexOutOfBoundsException"
  | _ => "java/lang/IllegalArgumentException"
def px_Ob (k : Nat) (x : Addr) (H : Heap) (U : State) : Prop := ∃ ce : Cell, H[x]? = some ce ∧ ce.vm = .none ∧ U.vm.findClass (px_E k) = some ce.cls
theorem px_Ob.moved {k : Nat} {x : Addr} {H : Heap} {u U : State} (hvm : u.vm.Alike U.vm) (h : px_Ob k x H u) : px_Ob k x H U := by
  obtain ⟨ce, h1, h2, h3⟩ := h
  exact ⟨ce, h1, h2, by rw [hvm.findClass]; exact h3⟩
abbrev px_T (X : Nat → pS → Prop) (B : pS → State → Prop) (oc : Outcome) (t : State) : Prop := ∃ (k : Nat) (x : Addr) (u : pS), oc = .threw x ∧ X k u ∧ B u t ∧ px_Ob k x t.heap t
def px_Qi (post : Int32 → pS → Prop) (X : Nat → pS → Prop) (B : pS → State → Prop) (A : Nat → Prop) : Array Value → State → Outcome → State → Prop := fun _ st oc t => ((∃ (r : Int32) (u : pS), oc = .returned (some (.int r)) ∧ post r u ∧ B u t) ∨ px_T X B oc t) ∧ va_F A st t
def px_Qv (post : pS → Prop) (X : Nat → pS → Prop) (B : pS → State → Prop) (A : Nat → Prop) : Array Value → State → Outcome → State → Prop := fun _ st oc t => ((∃ u : pS, oc = .returned none ∧ post u ∧ B u t) ∨ px_T X B oc t) ∧ va_F A st t
abbrev px_Ev (below : List Frame) (args : Array Value) (s : State) (D : va_G) (wd : pS → va_W) (tys : List (ClassId × FieldType)) (A : Nat → Prop) (Q : pS → Prop) (X : Nat → pS → Prop) : State → Prop := px_MQ below (px_Qv Q X (pw_B D wd tys) A) args s 0 0 1 6 A
abbrev px_Ei (below : List Frame) (args : Array Value) (s : State) (D : va_G) (wd : pS → va_W) (tys : List (ClassId × FieldType)) (A : Nat → Prop) (Q : Int32 → pS → Prop) (X : Nat → pS → Prop) : State → Prop := px_MQ below (px_Qi Q X (pw_B D wd tys) A) args s 0 0 1 6 A
theorem px_S {A A1 : Nat → Prop} {H0 H H1 : Heap} {locs L : List Loc} (hS : va_S A H0 H locs) (hz : H.size ≤ H1.size) (hk : ∀ q : Nat, q < H.size → ¬ A1 q → H1[q]? = H[q]?) (hA1 : ∀ q, A1 q → A q) (hL : ∀ q ∈ L, A1 q.base) : va_S A H0 H1 (locs ++ L) := by
  refine ⟨Nat.le_trans hS.1 hz, fun q h1 h2 => ?_, fun q hq => ?_⟩
  · rw [hk q (Nat.lt_of_lt_of_le h1 hS.1) (fun h => h2 (hA1 q h))]
    exact hS.2.1 q h1 h2
  · rcases List.mem_append.mp hq with h | h
    · exact hS.2.2 q h
    · exact hA1 _ (hL q h)
section
variable {p : Program} {l : Launch} {e : Env} {R : Room} {s : State} {m : MethodId} {args : Array Value} {below : List Frame} {meth : Method} {c : Code} {H : Heap} {locs : List Loc} {Z : State → Prop}
variable {pc : Nat} {ls : Array Slot} {rest st0 : List Value} {aa : Array Value} {D : va_G} {n : Nat} {a : Nat → Nat} {wd : pS → va_W} {tys : List (ClassId × FieldType)} {A : Nat → Prop} {X : Nat → pS → Prop} {Qc : Array Value → State → Outcome → State → Prop}
/-- the callee has thrown, and the caller catches nothing: it throws too -/
theorem px_out (hE : ∀ x ∈ c.exceptionTable.toList, covers x pc = false) (hlocks : meth.locks = false) (hz : ∀ oc t, px_T X (pw_B D wd tys) oc t → va_F A s t → Qc args s oc t) {T T' t : State} {x : Addr} {L : List Loc} {o : Outcome}
    (X' : Stand p l e R s m args below meth c T' L 1 6) (ho : o = .threw x) (h1 : T'.heap = t.heap) (h2 : T'.vm = t.vm) (hT : px_T X (pw_B D wd tys) o t) (hS : va_S A s.heap t.heap L)
    (st : ∀ target, Steps p.tables e below ((T'.setTop (F0 m pc ls rest)).pushFrame (.throwing x)) target → Steps p.tables e below (T.setTop (F0 m pc ls st0)) target) :
    ∃ t', Steps p.tables e below (T.setTop (F0 m pc ls st0)) t' ∧ px_MQ below Qc args s 0 0 1 6 A t' := by
  obtain ⟨w1, w2, w3, w4, w5⟩ := X'.leaveThrown x (g := F0 m pc ls rest) rfl rfl rfl hE hlocks
  refine ⟨_, st _ w1, .threw x, w2, w3, hz _ _ ?_ ?_, L, ⟨w4, Or.inr ⟨⟨x, rfl⟩, w5⟩⟩, hS.2.2⟩
  · obtain ⟨k, x', u, e1, e2, ⟨e3, e4⟩, e5⟩ := hT
    rw [ho] at e1
    cases e1
    have hvm : t.vm.Alike (T'.setFrames (.throwing x :: below)).vm := by
      show t.vm.Alike T'.vm
      rw [h2]; exact Vm.Alike.refl _
    refine ⟨k, x, u, rfl, e2, ⟨?_, va_K.moved hvm e4⟩, ?_⟩
    · show va_P D vwCl (wd u) T'.heap
      rw [h1]; exact e3
    · have : px_Ob k x T'.heap t := by rw [h1]; exact e5
      exact px_Ob.moved hvm this
  · exact hS.F (show (T'.setFrames (.throwing x :: below)).heap = t.heap from h1)
theorem cx_v {Q : pS → Prop} (hr : px_Run p l e R s m args below meth c H locs 0 0 0 0 1 6 (F0 m pc ls st0) rest (px_Qv Q X (pw_B D wd tys) (pw_F n a H.size) aa) (pw_F n a H.size)) (hS : va_S A s.heap H locs) (hF : ∀ k, k < n → A (a k)) (hA : ∀ q : Nat, s.heap.size ≤ q → A q)
    (hE : ∀ x ∈ c.exceptionTable.toList, covers x pc = false) (hlocks : meth.locks = false) (hz : ∀ oc t, px_T X (pw_B D wd tys) oc t → va_F A s t → Qc args s oc t)
    (kk : ∀ (u : pS) (H : Heap) (locs : List Loc), va_P D vwCl (wd u) H → va_S A s.heap H locs → Q u → W p l e R s m args below meth c H locs 0 0 (px_MQ below Qc args s 0 0 1 6 A) (F0 m (pc + 3) ls rest)) : W p l e R s m args below meth c H locs 0 0 (px_MQ below Qc args s 0 0 1 6 A) (F0 m pc ls st0) := by
  intro T hT Xs
  obtain ⟨o, st₀, t, L, h0, ⟨hq, hf1, hf2⟩, hL, hcase⟩ := hr T hT Xs
  have hS1 : va_S A s.heap t.heap (locs ++ L) := px_S hS (by rw [h0] at hf1; exact hf1) (by rw [h0] at hf2; exact hf2) (pw_FA hS hF hA) hL
  rcases hcase with ⟨v, T', ho, h1, h2, X', st⟩ | ⟨x, T', ho, h1, h2, X', st⟩
  · rcases hq with ⟨u, e1, e2, e3⟩ | ⟨k, x, u, e1, -⟩
    · rw [ho] at e1
      cases e1
      obtain ⟨t', a1, a2⟩ := kk u t.heap (locs ++ L) e3.1 hS1 e2 T' h1 X'
      exact ⟨t', st _ a1, a2⟩
    · rw [ho] at e1; cases e1
  · rcases hq with ⟨u, e1, -⟩ | hq
    · rw [ho] at e1; cases e1
    · exact px_out hE hlocks hz X' ho h1 h2 hq hS1 st
theorem cx_i {Q : Int32 → pS → Prop} (hr : px_Run p l e R s m args below meth c H locs 0 0 0 0 1 6 (F0 m pc ls st0) rest (px_Qi Q X (pw_B D wd tys) (pw_F n a H.size) aa) (pw_F n a H.size)) (hS : va_S A s.heap H locs) (hF : ∀ k, k < n → A (a k)) (hA : ∀ q : Nat, s.heap.size ≤ q → A q)
    (hE : ∀ x ∈ c.exceptionTable.toList, covers x pc = false) (hlocks : meth.locks = false) (hz : ∀ oc t, px_T X (pw_B D wd tys) oc t → va_F A s t → Qc args s oc t)
    (kk : ∀ (r : Int32) (u : pS) (H : Heap) (locs : List Loc), va_P D vwCl (wd u) H → va_S A s.heap H locs → Q r u → W p l e R s m args below meth c H locs 0 0 (px_MQ below Qc args s 0 0 1 6 A) (F0 m (pc + 3) ls (.int r :: rest))) : W p l e R s m args below meth c H locs 0 0 (px_MQ below Qc args s 0 0 1 6 A) (F0 m pc ls st0) := by
  intro T hT Xs
  obtain ⟨o, st₀, t, L, h0, ⟨hq, hf1, hf2⟩, hL, hcase⟩ := hr T hT Xs
  have hS1 : va_S A s.heap t.heap (locs ++ L) := px_S hS (by rw [h0] at hf1; exact hf1) (by rw [h0] at hf2; exact hf2) (pw_FA hS hF hA) hL
  rcases hcase with ⟨v, T', ho, h1, h2, X', st⟩ | ⟨x, T', ho, h1, h2, X', st⟩
  · rcases hq with ⟨r, u, e1, e2, e3⟩ | ⟨k, x, u, e1, -⟩
    · rw [ho] at e1
      cases e1
      obtain ⟨t', a1, a2⟩ := kk r u t.heap (locs ++ L) e3.1 hS1 e2 T' h1 X'
      exact ⟨t', st _ a1, a2⟩
    · rw [ho] at e1; cases e1
  · rcases hq with ⟨r, u, e1, -⟩ | hq
    · rw [ho] at e1; cases e1
    · exact px_out hE hlocks hz X' ho h1 h2 hq hS1 st
end
theorem px_old {s U : State} {k n : Nat} (h : s.sameButNew U [] k n) : s.heap.size ≤ U.heap.size ∧ ∀ q : Nat, q < s.heap.size → U.heap[q]? = s.heap[q]? := by
  obtain ⟨-, h2, -, -, -, h6⟩ := h
  refine ⟨h2, fun q hq => ?_⟩
  obtain ⟨c', e1, e2, -, e4⟩ := h6 q s.heap[q] (Array.getElem?_eq_getElem hq)
  have e5 : c'.slots = (s.heap[q]).slots := Array.ext_getElem? (fun i => e4 i List.not_mem_nil)
  rw [e1, Array.getElem?_eq_getElem hq, e2, e5]
section
variable {p : Program} {l : Launch} {e : Env} {R : Room} {s : State} {m : MethodId} {args : Array Value} {below : List Frame} {meth : Method} {c : Code} {Z : State → Prop}
variable {pc : Nat} {ls : Array Slot} {rest : List Value} {D : va_G} {wd : pS → va_W} {tys : List (ClassId × FieldType)} {A : Nat → Prop} {X : Nat → pS → Prop} {Qc : Array Value → State → Outcome → State → Prop}
/-- 'throw new E("..")', nothing written before it in this method: the method ends so -/
theorem px_thr {own tx : String} {cc : ByteArray} {ik is ic k q : Nat} {names : List String} {u : pS} (hx : p.tables.exec = Jvm.exec) (hb : c.code = cc) (hml : c.maxLocals = ls.size) (hown : s.vm.findClass own = some m.cls)
    (hclink : (Cond.classLink own ik (px_E k)).before args s = true) (hins : (Cond.instantiable (px_E k) 6).before args s = true) (hinit : (Cond.initialized (px_E k)).before args s = true) (hZ : vk_R own is tx q s)
    (hat : ∀ w ∈ Bundle.ownAtoms own ic (px_E k) names, w.before args s = true) (hfit : Bundle.fit (px_E k) = true) (hnames : ∀ n ∈ names, Bundle.fit n = true) (htr : e.platform.stackTraces = false)
    (hE : ∀ x ∈ c.exceptionTable.toList, covers x (pc + 9) = false) (hlocks : meth.locks = false) (hRf : names.length + 3 < R.frames) (hRl : (rest.map fun v => v.category).sum + 1 + (13 * (names.length + 1) + 42) ≤ R.locals) (hRc : 1 ≤ R.cells) (hRs : 6 ≤ R.slots)
    (hz : ∀ oc t, px_T X (pw_B D wd tys) oc t → va_F A s t → Qc args s oc t) (hP : va_P D vwCl (wd u) s.heap) (hK : va_K D vwCl tys s) (hX : X k u)
    (d0 : decode cc pc = .ok (.new ik, 3)) (d3 : decode cc (pc + 3) = .ok (.dup, 1)) (d4 : decode cc (pc + 4) = .ok (.ldc is, 2)) (d6 : decode cc (pc + 6) = .ok (.invokespecial ic, 3)) (d9 : decode cc (pc + 9) = .ok (.athrow, 1)) :
    W p l e R s m args below meth c s.heap [] 0 0 (px_MQ below Qc args s 0 0 1 6 A) (F0 m pc ls rest) := by
  refine W.newc (g := F0 m pc ls rest) hx hb hown hclink hins hinit rfl d0 (by omega) (by omega) (fun cC kC h1 h2 h3 h4 => ?_)
  refine W.eq (g2 := F0 m (pc + 3) ls (.ref s.heap.size :: rest)) rfl ?_
  refine lv_dup hx hb d3 rfl ?_
  refine va_ldcS hx hb hown hZ d4 ?_
  intro T hT Xs
  obtain ⟨U, st, hrun, hend, hW, hsame, ce, hce, hoc⟩ := Xs.ctorThrowS hx htr hown hfit hnames hat (fun x hx => by cases hx) h1 h2 (a := s.heap.size) (by rw [hT, Array.getElem?_push_size]) (Nat.le_refl _) (msg := .ref q) rfl
    (g := F0 m (pc + 6) ls (.ref q :: .ref s.heap.size :: .ref s.heap.size :: rest)) rfl hml.symm rfl rfl rfl (by rw [hb]; exact d6) (by rw [hb]; exact d9) hE hRf (by
      show 2 * 0 + _ + _ ≤ _
      simp only [List.map_cons, List.sum_cons]
      rw [show (Value.ref (Array.size s.heap)).category = 1 from rfl]
      omega) hlocks
  have hold := px_old hsame
  refine ⟨U, st, .threw s.heap.size, hrun, hend, hz _ _ ⟨k, s.heap.size, u, rfl, hX, ⟨?_, va_K.moved hW.alike hK⟩, ce, hce, hoc.vm, ?_⟩ ⟨hold.1, fun q hq _ => hold.2 q hq⟩, [], ⟨hW, Or.inr ⟨⟨_, rfl⟩, hsame⟩⟩, fun _ h => by cases h⟩
  · exact hP.kept (fun j r hj => hold.2 _ (hP j r hj).lt)
  · rw [hW.alike.findClass]; exact hoc.cls
end
end
section
/-! What holds of the start beside the good words: links in the nest, 'declares', castable classes, String constants, statics. px_Ex A U; it is handed on at every call. -/
def px_up : List String := ["java/lang/RuntimeException", "java/lang/Exception"]
def tb_of (a b c d : Int32) : Nat → Int32
  | 0 => a
  | 1 => b
  | 2 => c
  | _ => d
def tb_SX : Nat → Int32 := tb_of 1 0 (-1) 0
def tb_SY : Nat → Int32 := tb_of 0 1 0 (-1)
def tb_AX : Nat → Int32 := tb_of 0 (-1) (-1) 0
def tb_AY : Nat → Int32 := tb_of 0 0 (-1) (-1)
def pw_Nest : List (String × Nat × String) := [("PictureInlays$Grid", 31, "STEP_X"), ("PictureInlays$Grid", 34, "STEP_Y"), ("PictureInlays$Walk", 61, "STEP_X"), ("PictureInlays$Walk", 64, "STEP_Y"), ("PictureInlays$Walk", 75, "AHEAD_X"), ("PictureInlays$Walk", 78, "AHEAD_Y")]
def pw_Lit : List (String × Nat × String) := [("PictureInlays", 234, "there is no such one"), ("PictureInlays", 239, "a number is not as said"), ("PictureInlays", 219, "not parted since another colour was told"), ("PictureInlays", 224, "nothing was nested since it was parted")]
def pw_Dec : List MethodName := [⟨"PictureInlays$Ranking", "compare", "(II)I"⟩, ⟨"java/lang/RuntimeException", "<init>", "(Ljava/lang/String;)V"⟩, ⟨"java/lang/Exception", "<init>", "(Ljava/lang/String;)V"⟩, ⟨"java/lang/Throwable", "<init>", "(Ljava/lang/String;)V"⟩]
def px_Ca (X : String) (U : State) : Prop := ∃ c, U.vm.findClass X = some c ∧ U.vm.assignable c c = true
def px_ExA (U : State) : Prop := (∀ q ∈ pw_Nest, va_Nw (.fieldLinkNest q.1 q.2.1 "PictureInlays" q.2.2 "[I" "PictureInlays") U) ∧ ∀ y ∈ pw_Dec, va_Nw (.declares y) U
def px_ExB (U : State) : Prop := (∀ q ∈ pw_Lit, ∃ a, vk_R q.1 q.2.1 q.2.2 a U) ∧ ∀ k, k < 3 → px_Ca (px_E k) U
/-- 'laysStatic' of a static of a cell that no method writes -/
def px_LS (C n d : String) (A : Nat → Prop) (U : State) (H : Heap) : Prop := ∃ (c : ClassId) (k : Class) (i : Nat) (f : Field) (a : Nat) (cell : Cell), U.vm.findClass C = some c ∧ U.fieldFound? C n d = some (c, k, i, f) ∧ f.isStatic = true ∧ k.statics = some a ∧ H[a]? = some cell ∧ cell.vm.isStatics = true ∧ cell.cls = c ∧ f.slot < cell.slots.size ∧ k.staticTypes[f.slot]? = some f.type ∧ ¬ A a
theorem px_LS.of {C n d : String} {A : Nat → Prop} {args : Array Value} {s : State} (h : (Cond.laysStatic C n d).before args s = true) (hA : ∀ a : Nat, a < s.heap.size → ¬ A a) : px_LS C n d A s s.heap := by
  obtain ⟨c, k, i, f, a, cell, h1, h2, h3, h4, h5, h6, h7, h8, h9⟩ := Cond.laysStatic_spec h
  exact ⟨c, k, i, f, a, cell, h1, h2, h3, h4, h5, h6, h7, h8, h9, hA a (Array.getElem?_eq_some_iff.mp h5).1⟩
theorem px_LS.go {C n d : String} {A B : Nat → Prop} {u U : State} {H H1 : Heap} (hvm : u.vm.Alike U.vm) (hq : ∀ a : Nat, a < H.size → ¬ A a → H1[a]? = H[a]?) (hAB : ∀ q, B q → A q) (h : px_LS C n d A u H) : px_LS C n d B U H1 := by
  obtain ⟨c, k, i, f, a, cell, h1, h2, h3, h4, h5, h6, h7, h8, h9, h10⟩ := h
  obtain ⟨k', hi', he⟩ := State.fieldFound?_setVm hvm h2
  exact ⟨c, k', i, f, a, cell, by rw [hvm.findClass]; exact h1, hi', h3, by rw [he]; exact h4, by rw [hq a (Array.getElem?_eq_some_iff.mp h5).1 h10]; exact h5, h6, h7, h8, by rw [he]; exact h9, fun q => h10 (hAB a q)⟩
theorem px_LS.word {C n d : String} {A : Nat → Prop} {args : Array Value} {U : State} (h : px_LS C n d A U U.heap) : (Cond.laysStatic C n d).before args U = true := by
  obtain ⟨c, k, i, f, a, cell, h1, h2, h3, h4, h5, h6, h7, h8, h9, -⟩ := h
  simp [Cond.before, Cond.holds, Cond.value, h1, h2, h3, h4, h5, h6, h7, h8, h9]
def px_ExC (A : Nat → Prop) (U : State) : Prop := (px_LS Bundle.tN "UNASSIGNED_STACK" Bundle.steD A U U.heap ∧ px_LS Bundle.tN "SUPPRESSED_SENTINEL" Bundle.listD A U U.heap) ∧ va_Zq Bundle.tN "UNASSIGNED_STACK" Bundle.steD A U U.heap ∧ va_Zq Bundle.tN "SUPPRESSED_SENTINEL" Bundle.listD A U U.heap
def px_ExD (A : Nat → Prop) (U : State) : Prop := ∃ t1 t2 t3 t4 : Nat, va_Z "PictureInlays" "STEP_X" "[I" (.ref t1) A U U.heap ∧ va_Z "PictureInlays" "STEP_Y" "[I" (.ref t2) A U U.heap ∧ va_Z "PictureInlays" "AHEAD_X" "[I" (.ref t3) A U U.heap ∧ va_Z "PictureInlays" "AHEAD_Y" "[I" (.ref t4) A U U.heap ∧
  va_T .int t1 4 (fun j => .int (tb_SX j)) A U U.heap ∧ va_T .int t2 4 (fun j => .int (tb_SY j)) A U U.heap ∧ va_T .int t3 4 (fun j => .int (tb_AX j)) A U U.heap ∧ va_T .int t4 4 (fun j => .int (tb_AY j)) A U U.heap
def cw_Ex (A : Nat → Prop) (U : State) : Prop := (px_ExA U ∧ px_ExB U ∧ px_ExC A U) ∧ px_ExD A U
theorem px_Ca.moved {X : String} {u U : State} (hvm : u.vm.Alike U.vm) (h : px_Ca X u) : px_Ca X U := by
  obtain ⟨c, h1, h2⟩ := h
  exact ⟨c, by rw [hvm.findClass]; exact h1, by rw [hvm.assignable]; exact h2⟩
theorem px_ExA.same {u U : State} (hv : u.vm = U.vm) (h : px_ExA u) : px_ExA U := ⟨fun q hq => va_tabs rfl hv (h.1 q hq), fun y hy => va_tabs rfl hv (h.2 y hy)⟩
theorem px_ExA.warm {s U : State} (hW : s.WarmedH U.vm) (h : px_ExA s) : px_ExA U := ⟨fun q hq => va_Nw.warmF hW (h.1 q hq), fun y hy => va_Nw.warmD hW (h.2 y hy)⟩
theorem px_ExB.same {u U : State} (hv : u.vm = U.vm) (h : px_ExB u) : px_ExB U := ⟨fun q hq => by obtain ⟨a, ha⟩ := h.1 q hq; exact ⟨a, vk_R.same hv.symm ha⟩, fun k hk => px_Ca.moved (by rw [hv]; exact Vm.Alike.refl _) (h.2 k hk)⟩
theorem px_ExB.warm {s U : State} (hW : s.WarmedH U.vm) (h : px_ExB s) : px_ExB U := ⟨fun q hq => by obtain ⟨a, ha⟩ := h.1 q hq; exact ⟨a, vk_R.warm hW ha⟩, fun k hk => px_Ca.moved hW.alike (h.2 k hk)⟩
theorem cw_Ex.same {A : Nat → Prop} {u U : State} (hv : u.vm = U.vm) (hh : u.heap = U.heap) (h : cw_Ex A u) : cw_Ex A U := by
  obtain ⟨⟨hA, hB, hC⟩, t1, t2, t3, t4, z1, z2, z3, z4, y1, y2, y3, y4⟩ := h
  have hvm : u.vm.Alike U.vm := by rw [hv]; exact Vm.Alike.refl _
  refine ⟨⟨hA.same hv, hB.same hv, ?_⟩, t1, t2, t3, t4, ?_⟩
  · unfold px_ExC at hC ⊢
    rw [← hh]
    exact ⟨⟨px_LS.go hvm (fun _ _ _ => rfl) (fun _ h => h) hC.1.1, px_LS.go hvm (fun _ _ _ => rfl) (fun _ h => h) hC.1.2⟩, va_Zq.moved hvm hC.2.1, va_Zq.moved hvm hC.2.2⟩
  · rw [← hh]
    exact ⟨va_Z.moved hvm z1, va_Z.moved hvm z2, va_Z.moved hvm z3, va_Z.moved hvm z4, va_T.moved hvm y1, va_T.moved hvm y2, va_T.moved hvm y3, va_T.moved hvm y4⟩
theorem cw_Ex_call {A A1 : Nat → Prop} {s U : State} {H : Heap} {locs : List Loc} (h : cw_Ex A s) (hS : va_S A s.heap H locs) (hA : ∀ q, A1 q → A q) (hU : U.heap = H) (hW : s.WarmedH U.vm) : cw_Ex A1 U := by
  obtain ⟨⟨hA0, hB, hC⟩, t1, t2, t3, t4, z1, z2, z3, z4, y1, y2, y3, y4⟩ := h
  have hvm := hW.alike
  have hk : ∀ a : Nat, a < s.heap.size → ¬ A a → H[a]? = s.heap[a]? := fun a h1 h2 => hS.2.1 a h1 h2
  refine ⟨⟨hA0.warm hW, hB.warm hW, ?_⟩, t1, t2, t3, t4, ?_⟩
  · unfold px_ExC at hC ⊢
    rw [hU]
    exact ⟨⟨px_LS.go hvm hk hA hC.1.1, px_LS.go hvm hk hA hC.1.2⟩, va_Zq.narrow (va_Zq.moved hvm (va_Zq.kept hC.2.1 hk)) hA, va_Zq.narrow (va_Zq.moved hvm (va_Zq.kept hC.2.2 hk)) hA⟩
  · rw [hU]
    exact ⟨va_Z.narrow (va_Z.moved hvm (va_Z.kept z1 hk)) hA, va_Z.narrow (va_Z.moved hvm (va_Z.kept z2 hk)) hA, va_Z.narrow (va_Z.moved hvm (va_Z.kept z3 hk)) hA, va_Z.narrow (va_Z.moved hvm (va_Z.kept z4 hk)) hA,
      va_T.narrow (va_T.moved hvm (va_T.kept y1 hk)) hA, va_T.narrow (va_T.moved hvm (va_T.kept y2 hk)) hA, va_T.narrow (va_T.moved hvm (va_T.kept y3 hk)) hA, va_T.narrow (va_T.moved hvm (va_T.kept y4 hk)) hA⟩
theorem cw_blindX {av : List Value} {D : va_G} {wd : pS → va_W} {tys : List (ClassId × FieldType)} {sz : Nat} {u : pS} {A : Nat → Prop} : FrameBlind (va_Pc av (fun U => pw_pre D wd tys sz u U ∧ cw_Ex A U)) := by
  intro a U g mk q
  obtain ⟨q0, ⟨q1, qP, qK⟩, qE⟩ := q
  exact ⟨q0, ⟨q1, qP, va_K.moved (u := U) (U := U.calling g mk a) (Vm.Alike.refl U.vm) qK⟩, cw_Ex.same (u := U) (U := U.calling g mk a) rfl rfl qE⟩
theorem px_isRef {C n d : String} {A : Nat → Prop} {U : State} {args : Array Value} (h : va_Zq C n d A U U.heap) : (Cond.isRef (.static C n d)).before args U = true := by
  rcases h with h | ⟨t, h⟩ <;>
  · obtain ⟨cf, kf, fi, f, a, cell, h1, h2, h3, h4, h5, h6, h7, -⟩ := h
    have he : (Term.static C n d).eval args U none [] U = cell.slots[f.slot]? := by simp [Term.eval, State.fieldNamed?, h1, h2, h4, h5, h6]
    simp [Cond.before, Cond.holds, Cond.value, he, h7]
theorem px_castable {X : String} {U : State} {args : Array Value} (h : px_Ca X U) : (Cond.castable X X).before args U = true := by
  obtain ⟨c, h1, h2⟩ := h
  simp [Cond.before, Cond.holds, Cond.value, h1, h2]
def pw_LSw : List Cond := [.laysStatic Bundle.tN "UNASSIGNED_STACK" Bundle.steD, .laysStatic Bundle.tN "SUPPRESSED_SENTINEL" Bundle.listD]
def px_base (k : Nat) : List Cond := Bundle.throwableAtoms ++ Bundle.throwableSAtoms ++ Bundle.chainSAtoms (px_E k) px_up ++
  [.instantiable (px_E k) 6, .selects (px_E k) Bundle.tFill0 Bundle.tFill0, .selects (px_E k) Bundle.tFill Bundle.tFill,
   .lays (px_E k) Bundle.tN "cause" "Ljava/lang/Throwable;", .lays (px_E k) Bundle.tN "stackTrace" Bundle.steD, .lays (px_E k) Bundle.tN "suppressedExceptions" Bundle.listD, .lays (px_E k) Bundle.tN "detailMessage" "Ljava/lang/String;",
   .fieldLink Bundle.tN 198 Bundle.tN "backtrace" "Ljava/lang/Object;", .lays Bundle.tN Bundle.tN "backtrace" "Ljava/lang/Object;", .lays (px_E k) Bundle.tN "backtrace" "Ljava/lang/Object;"]
theorem px_base_0 : ∀ w ∈ px_base 0, (w ∈ lw_tbl ∧ goodWord w = true) ∨ w ∈ pw_Dec.map Cond.declares ∨ w ∈ pw_LSw := by decide +kernel
theorem px_base_1 : ∀ w ∈ px_base 1, (w ∈ lw_tbl ∧ goodWord w = true) ∨ w ∈ pw_Dec.map Cond.declares ∨ w ∈ pw_LSw := by decide +kernel
theorem px_base_2 : ∀ w ∈ px_base 2, (w ∈ lw_tbl ∧ goodWord w = true) ∨ w ∈ pw_Dec.map Cond.declares ∨ w ∈ pw_LSw := by decide +kernel
theorem px_base_ok {k : Nat} (hk : k < 3) : ∀ w ∈ px_base k, w ∈ pw_T ∨ w ∈ pw_Dec.map Cond.declares ∨ w ∈ pw_LSw := by
  rcases (show k = 0 ∨ k = 1 ∨ k = 2 by omega) with rfl | rfl | rfl
  · exact fun w h => (px_base_0 w h).imp List.mem_filter.mpr id
  · exact fun w h => (px_base_1 w h).imp List.mem_filter.mpr id
  · exact fun w h => (px_base_2 w h).imp List.mem_filter.mpr id
theorem px_own {c1 : Cond} {own : String} {args : Array Value} {s : State} {A : Nat → Prop} {k ic : Nat} (hk : k < 3) (kl : Cond.methodLink own ic (Bundle.initS (px_E k)) ∈ pw_T) (hts : ∀ w ∈ c1 :: pw_T, w.before args s = true) (EX : px_ExA s ∧ px_ExB s ∧ px_ExC A s) : ∀ w ∈ Bundle.ownAtoms own ic (px_E k) px_up, w.before args s = true := by
  obtain ⟨hA, hB, hC⟩ := EX
  have hb : ∀ w ∈ px_base k, w.before args s = true := by
    intro w h
    rcases px_base_ok hk w h with h1 | h1 | h1
    · exact hts w (List.mem_cons_of_mem _ h1)
    · obtain ⟨y, hy, rfl⟩ := List.mem_map.mp h1
      exact va_Nw.use rfl (hA.2 y hy)
    · rcases List.mem_cons.mp h1 with rfl | h2
      · exact hC.1.1.word
      · rcases List.mem_cons.mp h2 with rfl | h3
        · exact hC.1.2.word
        · cases h3
  have b1 : ∀ w ∈ Bundle.throwableAtoms ++ Bundle.throwableSAtoms ++ Bundle.chainSAtoms (px_E k) px_up, w.before args s = true := fun w h => hb w (List.mem_append_left _ h)
  have b2 := fun (w : Cond) h => hb w (List.mem_append_right _ h)
  refine List.forall_mem_append.mpr ⟨b1, ?_⟩
  refine List.forall_mem_cons.mpr ⟨hts _ (List.mem_cons_of_mem _ kl), ?_⟩
  refine List.forall_mem_cons.mpr ⟨b2 _ (by simp), ?_⟩
  refine List.forall_mem_cons.mpr ⟨px_castable (hB.2 k hk), ?_⟩
  refine List.forall_mem_cons.mpr ⟨b2 _ (by simp), ?_⟩
  refine List.forall_mem_cons.mpr ⟨b2 _ (by simp), ?_⟩
  refine List.forall_mem_cons.mpr ⟨b2 _ (by simp), ?_⟩
  refine List.forall_mem_cons.mpr ⟨b2 _ (by simp), ?_⟩
  refine List.forall_mem_cons.mpr ⟨b2 _ (by simp), ?_⟩
  refine List.forall_mem_cons.mpr ⟨b2 _ (by simp), ?_⟩
  refine List.forall_mem_cons.mpr ⟨px_isRef hC.2.1, ?_⟩
  refine List.forall_mem_cons.mpr ⟨px_isRef hC.2.2, ?_⟩
  refine List.forall_mem_cons.mpr ⟨b2 _ (by simp), ?_⟩
  refine List.forall_mem_cons.mpr ⟨b2 _ (by simp), ?_⟩
  refine List.forall_mem_cons.mpr ⟨b2 _ (by simp), ?_⟩
  exact fun _ h => absurd h List.not_mem_nil
end
section
def cT (cA cZ : ClassId) : List (ClassId × FieldType) := [(cA, .int), (cZ, .boolean)]
def cw (a : Nat → Nat) (cA cZ : ClassId) (G : pG) (u : pS) : va_W := [(a 0, .inr (0, [.ref (a 1), .int (G.2.1 0), .ref (a 2), .ref (a 3), .ref (a 4), .ref (a 5), .ref (a 6), .ref (a 7), .ref (a 8), .ref (a 9), .int (u.1 0), .int (u.1 1)])),
  (a 1, .inr (4, [.int (G.2.1 1), .int (G.2.1 2), .int (G.2.1 3), .ref (a 11), .ref (a 12), .ref (a 13)])),
  (a 2, .inr (3, [.ref (a 14), .ref (a 15), .ref (a 16)])),
  (a 3, .inr (3, [.ref (a 17), .ref (a 18), .ref (a 19)])),
  (a 4, .inr (7, [.ref (a 1), .ref (a 20), .ref (a 21), .ref (a 22), .ref (a 23), .ref (a 24), .ref (a 25), .ref (a 26), .ref (a 27), .ref (a 28), .int (u.1 2)])),
  (a 5, .inr (2, [.ref (a 29), .ref (a 3)])),
  (a 6, .inr (6, [.ref (a 30), .ref (a 4)])),
  (a 7, .inr (10, [.ref (a 4), .int (G.2.1 4), .ref (a 32), .ref (a 33), .int (u.1 3), .int (u.1 4), .int (u.1 5), .int (u.1 6)])),
  (a 8, .inr (9, [.ref (a 1), .ref (a 4), .ref (a 34), .int (u.1 7)])),
  (a 9, .inr (8, [.ref (a 4), .ref (a 10), .ref (a 35), .ref (a 36), .ref (a 37), .ref (a 38), .ref (a 39), .int (u.1 8), .int (u.1 9)])),
  (a 10, .inr (5, [.ref (a 31), .ref (a 4)])),
  (a 11, .inl (cA, G.1 11, .inl (G.2.2 0))),
  (a 12, .inl (cA, G.1 12, .inl (G.2.2 1))),
  (a 13, .inl (cA, G.1 13, .inl (G.2.2 2))),
  (a 14, .inl (cA, G.1 14, .inl (u.2 0))),
  (a 15, .inl (cA, G.1 15, .inl (u.2 1))),
  (a 16, .inl (cA, G.1 16, .inl (u.2 2))),
  (a 17, .inl (cA, G.1 17, .inl (u.2 3))),
  (a 18, .inl (cA, G.1 18, .inl (u.2 4))),
  (a 19, .inl (cA, G.1 19, .inl (u.2 5))),
  (a 20, .inl (cA, G.1 20, .inl (u.2 6))),
  (a 21, .inl (cA, G.1 21, .inl (u.2 7))),
  (a 22, .inl (cA, G.1 22, .inl (u.2 8))),
  (a 23, .inl (cA, G.1 23, .inl (u.2 9))),
  (a 24, .inl (cA, G.1 24, .inl (u.2 10))),
  (a 25, .inl (cA, G.1 25, .inl (u.2 11))),
  (a 26, .inl (cA, G.1 26, .inl (u.2 12))),
  (a 27, .inl (cA, G.1 27, .inl (u.2 13))),
  (a 28, .inl (cA, G.1 28, .inl (u.2 14))),
  (a 29, .inl (cA, G.1 29, .inl (u.2 15))),
  (a 30, .inl (cA, G.1 30, .inl (u.2 16))),
  (a 31, .inl (cA, G.1 31, .inl (u.2 17))),
  (a 32, .inl (cA, G.1 32, .inl (u.2 18))),
  (a 33, .inl (cA, G.1 33, .inl (u.2 19))),
  (a 34, .inl (cZ, G.1 34, .inl (u.2 20))),
  (a 35, .inl (cA, G.1 35, .inl (u.2 21))),
  (a 36, .inl (cA, G.1 36, .inl (u.2 22))),
  (a 37, .inl (cA, G.1 37, .inl (u.2 23))),
  (a 38, .inl (cA, G.1 38, .inl (u.2 24))),
  (a 39, .inl (cA, G.1 39, .inl (u.2 25)))]
theorem cw_at_0 {a : Nat → Nat} {cA cZ : ClassId} {G : pG} {u : pS} : (cw a cA cZ G u)[0]? = some (a 0, .inr (0, [.ref (a 1), .int (G.2.1 0), .ref (a 2), .ref (a 3), .ref (a 4), .ref (a 5), .ref (a 6), .ref (a 7), .ref (a 8), .ref (a 9), .int (u.1 0), .int (u.1 1)])) := rfl
theorem cw_si_0_10 {a : Nat → Nat} {cA cZ : ClassId} {G : pG} {u : pS} {x : Int32} : (cw a cA cZ G u).set 0 (a 0, .inr (0, ([.ref (a 1), .int (G.2.1 0), .ref (a 2), .ref (a 3), .ref (a 4), .ref (a 5), .ref (a 6), .ref (a 7), .ref (a 8), .ref (a 9), .int (u.1 0), .int (u.1 1)] : List Value).set 10 (.int x))) = cw a cA cZ G (pw_si u 0 x) := rfl
theorem cw_si_0_11 {a : Nat → Nat} {cA cZ : ClassId} {G : pG} {u : pS} {x : Int32} : (cw a cA cZ G u).set 0 (a 0, .inr (0, ([.ref (a 1), .int (G.2.1 0), .ref (a 2), .ref (a 3), .ref (a 4), .ref (a 5), .ref (a 6), .ref (a 7), .ref (a 8), .ref (a 9), .int (u.1 0), .int (u.1 1)] : List Value).set 11 (.int x))) = cw a cA cZ G (pw_si u 1 x) := rfl
theorem cw_at_1 {a : Nat → Nat} {cA cZ : ClassId} {G : pG} {u : pS} : (cw a cA cZ G u)[1]? = some (a 1, .inr (4, [.int (G.2.1 1), .int (G.2.1 2), .int (G.2.1 3), .ref (a 11), .ref (a 12), .ref (a 13)])) := rfl
theorem cw_at_2 {a : Nat → Nat} {cA cZ : ClassId} {G : pG} {u : pS} : (cw a cA cZ G u)[2]? = some (a 2, .inr (3, [.ref (a 14), .ref (a 15), .ref (a 16)])) := rfl
theorem cw_at_3 {a : Nat → Nat} {cA cZ : ClassId} {G : pG} {u : pS} : (cw a cA cZ G u)[3]? = some (a 3, .inr (3, [.ref (a 17), .ref (a 18), .ref (a 19)])) := rfl
theorem cw_at_4 {a : Nat → Nat} {cA cZ : ClassId} {G : pG} {u : pS} : (cw a cA cZ G u)[4]? = some (a 4, .inr (7, [.ref (a 1), .ref (a 20), .ref (a 21), .ref (a 22), .ref (a 23), .ref (a 24), .ref (a 25), .ref (a 26), .ref (a 27), .ref (a 28), .int (u.1 2)])) := rfl
theorem cw_si_4_10 {a : Nat → Nat} {cA cZ : ClassId} {G : pG} {u : pS} {x : Int32} : (cw a cA cZ G u).set 4 (a 4, .inr (7, ([.ref (a 1), .ref (a 20), .ref (a 21), .ref (a 22), .ref (a 23), .ref (a 24), .ref (a 25), .ref (a 26), .ref (a 27), .ref (a 28), .int (u.1 2)] : List Value).set 10 (.int x))) = cw a cA cZ G (pw_si u 2 x) := rfl
theorem cw_at_5 {a : Nat → Nat} {cA cZ : ClassId} {G : pG} {u : pS} : (cw a cA cZ G u)[5]? = some (a 5, .inr (2, [.ref (a 29), .ref (a 3)])) := rfl
theorem cw_at_6 {a : Nat → Nat} {cA cZ : ClassId} {G : pG} {u : pS} : (cw a cA cZ G u)[6]? = some (a 6, .inr (6, [.ref (a 30), .ref (a 4)])) := rfl
theorem cw_at_7 {a : Nat → Nat} {cA cZ : ClassId} {G : pG} {u : pS} : (cw a cA cZ G u)[7]? = some (a 7, .inr (10, [.ref (a 4), .int (G.2.1 4), .ref (a 32), .ref (a 33), .int (u.1 3), .int (u.1 4), .int (u.1 5), .int (u.1 6)])) := rfl
theorem cw_si_7_4 {a : Nat → Nat} {cA cZ : ClassId} {G : pG} {u : pS} {x : Int32} : (cw a cA cZ G u).set 7 (a 7, .inr (10, ([.ref (a 4), .int (G.2.1 4), .ref (a 32), .ref (a 33), .int (u.1 3), .int (u.1 4), .int (u.1 5), .int (u.1 6)] : List Value).set 4 (.int x))) = cw a cA cZ G (pw_si u 3 x) := rfl
theorem cw_si_7_5 {a : Nat → Nat} {cA cZ : ClassId} {G : pG} {u : pS} {x : Int32} : (cw a cA cZ G u).set 7 (a 7, .inr (10, ([.ref (a 4), .int (G.2.1 4), .ref (a 32), .ref (a 33), .int (u.1 3), .int (u.1 4), .int (u.1 5), .int (u.1 6)] : List Value).set 5 (.int x))) = cw a cA cZ G (pw_si u 4 x) := rfl
theorem cw_si_7_6 {a : Nat → Nat} {cA cZ : ClassId} {G : pG} {u : pS} {x : Int32} : (cw a cA cZ G u).set 7 (a 7, .inr (10, ([.ref (a 4), .int (G.2.1 4), .ref (a 32), .ref (a 33), .int (u.1 3), .int (u.1 4), .int (u.1 5), .int (u.1 6)] : List Value).set 6 (.int x))) = cw a cA cZ G (pw_si u 5 x) := rfl
theorem cw_si_7_7 {a : Nat → Nat} {cA cZ : ClassId} {G : pG} {u : pS} {x : Int32} : (cw a cA cZ G u).set 7 (a 7, .inr (10, ([.ref (a 4), .int (G.2.1 4), .ref (a 32), .ref (a 33), .int (u.1 3), .int (u.1 4), .int (u.1 5), .int (u.1 6)] : List Value).set 7 (.int x))) = cw a cA cZ G (pw_si u 6 x) := rfl
theorem cw_at_8 {a : Nat → Nat} {cA cZ : ClassId} {G : pG} {u : pS} : (cw a cA cZ G u)[8]? = some (a 8, .inr (9, [.ref (a 1), .ref (a 4), .ref (a 34), .int (u.1 7)])) := rfl
theorem cw_si_8_3 {a : Nat → Nat} {cA cZ : ClassId} {G : pG} {u : pS} {x : Int32} : (cw a cA cZ G u).set 8 (a 8, .inr (9, ([.ref (a 1), .ref (a 4), .ref (a 34), .int (u.1 7)] : List Value).set 3 (.int x))) = cw a cA cZ G (pw_si u 7 x) := rfl
theorem cw_at_9 {a : Nat → Nat} {cA cZ : ClassId} {G : pG} {u : pS} : (cw a cA cZ G u)[9]? = some (a 9, .inr (8, [.ref (a 4), .ref (a 10), .ref (a 35), .ref (a 36), .ref (a 37), .ref (a 38), .ref (a 39), .int (u.1 8), .int (u.1 9)])) := rfl
theorem cw_si_9_7 {a : Nat → Nat} {cA cZ : ClassId} {G : pG} {u : pS} {x : Int32} : (cw a cA cZ G u).set 9 (a 9, .inr (8, ([.ref (a 4), .ref (a 10), .ref (a 35), .ref (a 36), .ref (a 37), .ref (a 38), .ref (a 39), .int (u.1 8), .int (u.1 9)] : List Value).set 7 (.int x))) = cw a cA cZ G (pw_si u 8 x) := rfl
theorem cw_si_9_8 {a : Nat → Nat} {cA cZ : ClassId} {G : pG} {u : pS} {x : Int32} : (cw a cA cZ G u).set 9 (a 9, .inr (8, ([.ref (a 4), .ref (a 10), .ref (a 35), .ref (a 36), .ref (a 37), .ref (a 38), .ref (a 39), .int (u.1 8), .int (u.1 9)] : List Value).set 8 (.int x))) = cw a cA cZ G (pw_si u 9 x) := rfl
theorem cw_at_10 {a : Nat → Nat} {cA cZ : ClassId} {G : pG} {u : pS} : (cw a cA cZ G u)[10]? = some (a 10, .inr (5, [.ref (a 31), .ref (a 4)])) := rfl
theorem cw_at_11 {a : Nat → Nat} {cA cZ : ClassId} {G : pG} {u : pS} : (cw a cA cZ G u)[11]? = some (a 11, .inl (cA, G.1 11, .inl (G.2.2 0))) := rfl
theorem cw_at_12 {a : Nat → Nat} {cA cZ : ClassId} {G : pG} {u : pS} : (cw a cA cZ G u)[12]? = some (a 12, .inl (cA, G.1 12, .inl (G.2.2 1))) := rfl
theorem cw_at_13 {a : Nat → Nat} {cA cZ : ClassId} {G : pG} {u : pS} : (cw a cA cZ G u)[13]? = some (a 13, .inl (cA, G.1 13, .inl (G.2.2 2))) := rfl
theorem cw_at_14 {a : Nat → Nat} {cA cZ : ClassId} {G : pG} {u : pS} : (cw a cA cZ G u)[14]? = some (a 14, .inl (cA, G.1 14, .inl (u.2 0))) := rfl
theorem cw_sa_14 {a : Nat → Nat} {cA cZ : ClassId} {G : pG} {u : pS} {f : Nat → Int32} : (cw a cA cZ G u).set 14 (a 14, .inl (cA, G.1 14, .inl f)) = cw a cA cZ G (pw_sa u 0 f) := rfl
theorem cw_at_15 {a : Nat → Nat} {cA cZ : ClassId} {G : pG} {u : pS} : (cw a cA cZ G u)[15]? = some (a 15, .inl (cA, G.1 15, .inl (u.2 1))) := rfl
theorem cw_sa_15 {a : Nat → Nat} {cA cZ : ClassId} {G : pG} {u : pS} {f : Nat → Int32} : (cw a cA cZ G u).set 15 (a 15, .inl (cA, G.1 15, .inl f)) = cw a cA cZ G (pw_sa u 1 f) := rfl
theorem cw_at_16 {a : Nat → Nat} {cA cZ : ClassId} {G : pG} {u : pS} : (cw a cA cZ G u)[16]? = some (a 16, .inl (cA, G.1 16, .inl (u.2 2))) := rfl
theorem cw_sa_16 {a : Nat → Nat} {cA cZ : ClassId} {G : pG} {u : pS} {f : Nat → Int32} : (cw a cA cZ G u).set 16 (a 16, .inl (cA, G.1 16, .inl f)) = cw a cA cZ G (pw_sa u 2 f) := rfl
theorem cw_at_17 {a : Nat → Nat} {cA cZ : ClassId} {G : pG} {u : pS} : (cw a cA cZ G u)[17]? = some (a 17, .inl (cA, G.1 17, .inl (u.2 3))) := rfl
theorem cw_sa_17 {a : Nat → Nat} {cA cZ : ClassId} {G : pG} {u : pS} {f : Nat → Int32} : (cw a cA cZ G u).set 17 (a 17, .inl (cA, G.1 17, .inl f)) = cw a cA cZ G (pw_sa u 3 f) := rfl
theorem cw_at_18 {a : Nat → Nat} {cA cZ : ClassId} {G : pG} {u : pS} : (cw a cA cZ G u)[18]? = some (a 18, .inl (cA, G.1 18, .inl (u.2 4))) := rfl
theorem cw_sa_18 {a : Nat → Nat} {cA cZ : ClassId} {G : pG} {u : pS} {f : Nat → Int32} : (cw a cA cZ G u).set 18 (a 18, .inl (cA, G.1 18, .inl f)) = cw a cA cZ G (pw_sa u 4 f) := rfl
theorem cw_at_19 {a : Nat → Nat} {cA cZ : ClassId} {G : pG} {u : pS} : (cw a cA cZ G u)[19]? = some (a 19, .inl (cA, G.1 19, .inl (u.2 5))) := rfl
theorem cw_sa_19 {a : Nat → Nat} {cA cZ : ClassId} {G : pG} {u : pS} {f : Nat → Int32} : (cw a cA cZ G u).set 19 (a 19, .inl (cA, G.1 19, .inl f)) = cw a cA cZ G (pw_sa u 5 f) := rfl
theorem cw_at_20 {a : Nat → Nat} {cA cZ : ClassId} {G : pG} {u : pS} : (cw a cA cZ G u)[20]? = some (a 20, .inl (cA, G.1 20, .inl (u.2 6))) := rfl
theorem cw_sa_20 {a : Nat → Nat} {cA cZ : ClassId} {G : pG} {u : pS} {f : Nat → Int32} : (cw a cA cZ G u).set 20 (a 20, .inl (cA, G.1 20, .inl f)) = cw a cA cZ G (pw_sa u 6 f) := rfl
theorem cw_at_21 {a : Nat → Nat} {cA cZ : ClassId} {G : pG} {u : pS} : (cw a cA cZ G u)[21]? = some (a 21, .inl (cA, G.1 21, .inl (u.2 7))) := rfl
theorem cw_sa_21 {a : Nat → Nat} {cA cZ : ClassId} {G : pG} {u : pS} {f : Nat → Int32} : (cw a cA cZ G u).set 21 (a 21, .inl (cA, G.1 21, .inl f)) = cw a cA cZ G (pw_sa u 7 f) := rfl
theorem cw_at_22 {a : Nat → Nat} {cA cZ : ClassId} {G : pG} {u : pS} : (cw a cA cZ G u)[22]? = some (a 22, .inl (cA, G.1 22, .inl (u.2 8))) := rfl
theorem cw_sa_22 {a : Nat → Nat} {cA cZ : ClassId} {G : pG} {u : pS} {f : Nat → Int32} : (cw a cA cZ G u).set 22 (a 22, .inl (cA, G.1 22, .inl f)) = cw a cA cZ G (pw_sa u 8 f) := rfl
theorem cw_at_23 {a : Nat → Nat} {cA cZ : ClassId} {G : pG} {u : pS} : (cw a cA cZ G u)[23]? = some (a 23, .inl (cA, G.1 23, .inl (u.2 9))) := rfl
theorem cw_sa_23 {a : Nat → Nat} {cA cZ : ClassId} {G : pG} {u : pS} {f : Nat → Int32} : (cw a cA cZ G u).set 23 (a 23, .inl (cA, G.1 23, .inl f)) = cw a cA cZ G (pw_sa u 9 f) := rfl
theorem cw_at_24 {a : Nat → Nat} {cA cZ : ClassId} {G : pG} {u : pS} : (cw a cA cZ G u)[24]? = some (a 24, .inl (cA, G.1 24, .inl (u.2 10))) := rfl
theorem cw_sa_24 {a : Nat → Nat} {cA cZ : ClassId} {G : pG} {u : pS} {f : Nat → Int32} : (cw a cA cZ G u).set 24 (a 24, .inl (cA, G.1 24, .inl f)) = cw a cA cZ G (pw_sa u 10 f) := rfl
theorem cw_at_25 {a : Nat → Nat} {cA cZ : ClassId} {G : pG} {u : pS} : (cw a cA cZ G u)[25]? = some (a 25, .inl (cA, G.1 25, .inl (u.2 11))) := rfl
theorem cw_sa_25 {a : Nat → Nat} {cA cZ : ClassId} {G : pG} {u : pS} {f : Nat → Int32} : (cw a cA cZ G u).set 25 (a 25, .inl (cA, G.1 25, .inl f)) = cw a cA cZ G (pw_sa u 11 f) := rfl
theorem cw_at_26 {a : Nat → Nat} {cA cZ : ClassId} {G : pG} {u : pS} : (cw a cA cZ G u)[26]? = some (a 26, .inl (cA, G.1 26, .inl (u.2 12))) := rfl
theorem cw_sa_26 {a : Nat → Nat} {cA cZ : ClassId} {G : pG} {u : pS} {f : Nat → Int32} : (cw a cA cZ G u).set 26 (a 26, .inl (cA, G.1 26, .inl f)) = cw a cA cZ G (pw_sa u 12 f) := rfl
theorem cw_at_27 {a : Nat → Nat} {cA cZ : ClassId} {G : pG} {u : pS} : (cw a cA cZ G u)[27]? = some (a 27, .inl (cA, G.1 27, .inl (u.2 13))) := rfl
theorem cw_sa_27 {a : Nat → Nat} {cA cZ : ClassId} {G : pG} {u : pS} {f : Nat → Int32} : (cw a cA cZ G u).set 27 (a 27, .inl (cA, G.1 27, .inl f)) = cw a cA cZ G (pw_sa u 13 f) := rfl
theorem cw_at_28 {a : Nat → Nat} {cA cZ : ClassId} {G : pG} {u : pS} : (cw a cA cZ G u)[28]? = some (a 28, .inl (cA, G.1 28, .inl (u.2 14))) := rfl
theorem cw_sa_28 {a : Nat → Nat} {cA cZ : ClassId} {G : pG} {u : pS} {f : Nat → Int32} : (cw a cA cZ G u).set 28 (a 28, .inl (cA, G.1 28, .inl f)) = cw a cA cZ G (pw_sa u 14 f) := rfl
theorem cw_at_29 {a : Nat → Nat} {cA cZ : ClassId} {G : pG} {u : pS} : (cw a cA cZ G u)[29]? = some (a 29, .inl (cA, G.1 29, .inl (u.2 15))) := rfl
theorem cw_sa_29 {a : Nat → Nat} {cA cZ : ClassId} {G : pG} {u : pS} {f : Nat → Int32} : (cw a cA cZ G u).set 29 (a 29, .inl (cA, G.1 29, .inl f)) = cw a cA cZ G (pw_sa u 15 f) := rfl
theorem cw_at_30 {a : Nat → Nat} {cA cZ : ClassId} {G : pG} {u : pS} : (cw a cA cZ G u)[30]? = some (a 30, .inl (cA, G.1 30, .inl (u.2 16))) := rfl
theorem cw_sa_30 {a : Nat → Nat} {cA cZ : ClassId} {G : pG} {u : pS} {f : Nat → Int32} : (cw a cA cZ G u).set 30 (a 30, .inl (cA, G.1 30, .inl f)) = cw a cA cZ G (pw_sa u 16 f) := rfl
theorem cw_at_31 {a : Nat → Nat} {cA cZ : ClassId} {G : pG} {u : pS} : (cw a cA cZ G u)[31]? = some (a 31, .inl (cA, G.1 31, .inl (u.2 17))) := rfl
theorem cw_sa_31 {a : Nat → Nat} {cA cZ : ClassId} {G : pG} {u : pS} {f : Nat → Int32} : (cw a cA cZ G u).set 31 (a 31, .inl (cA, G.1 31, .inl f)) = cw a cA cZ G (pw_sa u 17 f) := rfl
theorem cw_at_32 {a : Nat → Nat} {cA cZ : ClassId} {G : pG} {u : pS} : (cw a cA cZ G u)[32]? = some (a 32, .inl (cA, G.1 32, .inl (u.2 18))) := rfl
theorem cw_sa_32 {a : Nat → Nat} {cA cZ : ClassId} {G : pG} {u : pS} {f : Nat → Int32} : (cw a cA cZ G u).set 32 (a 32, .inl (cA, G.1 32, .inl f)) = cw a cA cZ G (pw_sa u 18 f) := rfl
theorem cw_at_33 {a : Nat → Nat} {cA cZ : ClassId} {G : pG} {u : pS} : (cw a cA cZ G u)[33]? = some (a 33, .inl (cA, G.1 33, .inl (u.2 19))) := rfl
theorem cw_sa_33 {a : Nat → Nat} {cA cZ : ClassId} {G : pG} {u : pS} {f : Nat → Int32} : (cw a cA cZ G u).set 33 (a 33, .inl (cA, G.1 33, .inl f)) = cw a cA cZ G (pw_sa u 19 f) := rfl
theorem cw_at_34 {a : Nat → Nat} {cA cZ : ClassId} {G : pG} {u : pS} : (cw a cA cZ G u)[34]? = some (a 34, .inl (cZ, G.1 34, .inl (u.2 20))) := rfl
theorem cw_sa_34 {a : Nat → Nat} {cA cZ : ClassId} {G : pG} {u : pS} {f : Nat → Int32} : (cw a cA cZ G u).set 34 (a 34, .inl (cZ, G.1 34, .inl f)) = cw a cA cZ G (pw_sa u 20 f) := rfl
theorem cw_at_35 {a : Nat → Nat} {cA cZ : ClassId} {G : pG} {u : pS} : (cw a cA cZ G u)[35]? = some (a 35, .inl (cA, G.1 35, .inl (u.2 21))) := rfl
theorem cw_sa_35 {a : Nat → Nat} {cA cZ : ClassId} {G : pG} {u : pS} {f : Nat → Int32} : (cw a cA cZ G u).set 35 (a 35, .inl (cA, G.1 35, .inl f)) = cw a cA cZ G (pw_sa u 21 f) := rfl
theorem cw_at_36 {a : Nat → Nat} {cA cZ : ClassId} {G : pG} {u : pS} : (cw a cA cZ G u)[36]? = some (a 36, .inl (cA, G.1 36, .inl (u.2 22))) := rfl
theorem cw_sa_36 {a : Nat → Nat} {cA cZ : ClassId} {G : pG} {u : pS} {f : Nat → Int32} : (cw a cA cZ G u).set 36 (a 36, .inl (cA, G.1 36, .inl f)) = cw a cA cZ G (pw_sa u 22 f) := rfl
theorem cw_at_37 {a : Nat → Nat} {cA cZ : ClassId} {G : pG} {u : pS} : (cw a cA cZ G u)[37]? = some (a 37, .inl (cA, G.1 37, .inl (u.2 23))) := rfl
theorem cw_sa_37 {a : Nat → Nat} {cA cZ : ClassId} {G : pG} {u : pS} {f : Nat → Int32} : (cw a cA cZ G u).set 37 (a 37, .inl (cA, G.1 37, .inl f)) = cw a cA cZ G (pw_sa u 23 f) := rfl
theorem cw_at_38 {a : Nat → Nat} {cA cZ : ClassId} {G : pG} {u : pS} : (cw a cA cZ G u)[38]? = some (a 38, .inl (cA, G.1 38, .inl (u.2 24))) := rfl
theorem cw_sa_38 {a : Nat → Nat} {cA cZ : ClassId} {G : pG} {u : pS} {f : Nat → Int32} : (cw a cA cZ G u).set 38 (a 38, .inl (cA, G.1 38, .inl f)) = cw a cA cZ G (pw_sa u 24 f) := rfl
theorem cw_at_39 {a : Nat → Nat} {cA cZ : ClassId} {G : pG} {u : pS} : (cw a cA cZ G u)[39]? = some (a 39, .inl (cA, G.1 39, .inl (u.2 25))) := rfl
theorem cw_sa_39 {a : Nat → Nat} {cA cZ : ClassId} {G : pG} {u : pS} {f : Nat → Int32} : (cw a cA cZ G u).set 39 (a 39, .inl (cA, G.1 39, .inl f)) = cw a cA cZ G (pw_sa u 25 f) := rfl
theorem cw_D {a : Nat → Nat} {cA cZ : ClassId} {G : pG} {u : pS} {A : Nat → Prop} (hI : pw_I 40 a) (hF : ∀ k, k < 40 → A (a k)) : va_D A (cw a cA cZ G u) := pw_addrs rfl hI hF
end
section
abbrev b_PI_at : ByteArray := prog_1_method_14_code
abbrev y_PI_at : MethodName := ⟨"PictureInlays", "at", "(II)I"⟩
abbrev w_PI_at : List Cond := .code ⟨"PictureInlays", "at", "(II)I"⟩ prog_1_method_14_code 3 (some .int) :: pw_T
abbrev b_PI_border : ByteArray := prog_1_method_15_code
abbrev y_PI_border : MethodName := ⟨"PictureInlays", "border", "(III)I"⟩
abbrev w_PI_border : List Cond := .code ⟨"PictureInlays", "border", "(III)I"⟩ prog_1_method_15_code 9 (some .int) :: pw_T
abbrev b_PI_commonDivisor : ByteArray := prog_1_method_18_code
abbrev y_PI_commonDivisor : MethodName := ⟨"PictureInlays", "commonDivisor", "(II)I"⟩
abbrev w_PI_commonDivisor : List Cond := .code ⟨"PictureInlays", "commonDivisor", "(II)I"⟩ prog_1_method_18_code 6 (some .int) :: pw_T
abbrev b_PI_corner : ByteArray := prog_1_method_9_code
abbrev y_PI_corner : MethodName := ⟨"PictureInlays", "corner", "(III)I"⟩
abbrev w_PI_corner : List Cond := .code ⟨"PictureInlays", "corner", "(III)I"⟩ prog_1_method_9_code 4 (some .int) :: pw_T
abbrev b_PI_joined : ByteArray := prog_1_method_7_code
abbrev y_PI_joined : MethodName := ⟨"PictureInlays", "joined", "(II)I"⟩
abbrev w_PI_joined : List Cond := .code ⟨"PictureInlays", "joined", "(II)I"⟩ prog_1_method_7_code 3 (some .int) :: pw_T
abbrev b_PI_kind : ByteArray := prog_1_method_3_code
abbrev y_PI_kind : MethodName := ⟨"PictureInlays", "kind", "(IIII)Z"⟩
abbrev w_PI_kind : List Cond := .code ⟨"PictureInlays", "kind", "(IIII)Z"⟩ prog_1_method_3_code 5 (some .boolean) :: pw_T
abbrev b_PI_left : ByteArray := prog_1_method_10_code
abbrev y_PI_left : MethodName := ⟨"PictureInlays", "left", "(II)I"⟩
abbrev w_PI_left : List Cond := .code ⟨"PictureInlays", "left", "(II)I"⟩ prog_1_method_10_code 3 (some .int) :: pw_T
abbrev b_PI_needColour : ByteArray := prog_1_method_24_code
abbrev y_PI_needColour : MethodName := ⟨"PictureInlays", "needColour", "(III)V"⟩
abbrev w_PI_needColour : List Cond := .code ⟨"PictureInlays", "needColour", "(III)V"⟩ prog_1_method_24_code 3 none :: pw_T
abbrev b_PI_needIndex : ByteArray := prog_1_method_25_code
abbrev y_PI_needIndex : MethodName := ⟨"PictureInlays", "needIndex", "(II)V"⟩
abbrev w_PI_needIndex : List Cond := .code ⟨"PictureInlays", "needIndex", "(II)V"⟩ prog_1_method_25_code 2 none :: pw_T
abbrev b_PI_needNested : ByteArray := prog_1_method_21_code
abbrev y_PI_needNested : MethodName := ⟨"PictureInlays", "needNested", "()V"⟩
abbrev w_PI_needNested : List Cond := .code ⟨"PictureInlays", "needNested", "()V"⟩ prog_1_method_21_code 1 none :: pw_T
abbrev b_PI_needNumber : ByteArray := prog_1_method_26_code
abbrev y_PI_needNumber : MethodName := ⟨"PictureInlays", "needNumber", "(III)V"⟩
abbrev w_PI_needNumber : List Cond := .code ⟨"PictureInlays", "needNumber", "(III)V"⟩ prog_1_method_26_code 3 none :: pw_T
abbrev b_PI_needParted : ByteArray := prog_1_method_20_code
abbrev y_PI_needParted : MethodName := ⟨"PictureInlays", "needParted", "()V"⟩
abbrev w_PI_needParted : List Cond := .code ⟨"PictureInlays", "needParted", "()V"⟩ prog_1_method_20_code 1 none :: pw_T
abbrev b_PI_needPiece : ByteArray := prog_1_method_22_code
abbrev y_PI_needPiece : MethodName := ⟨"PictureInlays", "needPiece", "(I)V"⟩
abbrev w_PI_needPiece : List Cond := .code ⟨"PictureInlays", "needPiece", "(I)V"⟩ prog_1_method_22_code 2 none :: pw_T
abbrev b_PI_needPlace : ByteArray := prog_1_method_23_code
abbrev y_PI_needPlace : MethodName := ⟨"PictureInlays", "needPlace", "(II)V"⟩
abbrev w_PI_needPlace : List Cond := .code ⟨"PictureInlays", "needPlace", "(II)V"⟩ prog_1_method_23_code 3 none :: pw_T
abbrev b_PI_nest : ByteArray := prog_1_method_13_code
abbrev y_PI_nest : MethodName := ⟨"PictureInlays", "nest", "(II)I"⟩
abbrev w_PI_nest : List Cond := .code ⟨"PictureInlays", "nest", "(II)I"⟩ prog_1_method_13_code 3 (some .int) :: pw_T
abbrev b_PI_order : ByteArray := prog_1_method_12_code
abbrev y_PI_order : MethodName := ⟨"PictureInlays", "order", "(I)I"⟩
abbrev w_PI_order : List Cond := .code ⟨"PictureInlays", "order", "(I)I"⟩ prog_1_method_12_code 2 (some .int) :: pw_T
abbrev b_PI_outline : ByteArray := prog_1_method_8_code
abbrev y_PI_outline : MethodName := ⟨"PictureInlays", "outline", "(I)I"⟩
abbrev w_PI_outline : List Cond := .code ⟨"PictureInlays", "outline", "(I)I"⟩ prog_1_method_8_code 2 (some .int) :: pw_T
abbrev b_PI_part : ByteArray := prog_1_method_4_code
abbrev y_PI_part : MethodName := ⟨"PictureInlays", "part", "(I)I"⟩
abbrev w_PI_part : List Cond := .code ⟨"PictureInlays", "part", "(I)I"⟩ prog_1_method_4_code 2 (some .int) :: pw_T
abbrev b_PI_piece : ByteArray := prog_1_method_6_code
abbrev y_PI_piece : MethodName := ⟨"PictureInlays", "piece", "(II)I"⟩
abbrev w_PI_piece : List Cond := .code ⟨"PictureInlays", "piece", "(II)I"⟩ prog_1_method_6_code 3 (some .int) :: pw_T
abbrev b_PI_pieceOf : ByteArray := prog_1_method_5_code
abbrev y_PI_pieceOf : MethodName := ⟨"PictureInlays", "pieceOf", "(II)I"⟩
abbrev w_PI_pieceOf : List Cond := .code ⟨"PictureInlays", "pieceOf", "(II)I"⟩ prog_1_method_5_code 3 (some .int) :: pw_T
abbrev b_PI_pixel : ByteArray := prog_1_method_2_code
abbrev y_PI_pixel : MethodName := ⟨"PictureInlays", "pixel", "(IIIII)Z"⟩
abbrev w_PI_pixel : List Cond := .code ⟨"PictureInlays", "pixel", "(IIIII)Z"⟩ prog_1_method_2_code 6 (some .boolean) :: pw_T
abbrev b_PI_reached : ByteArray := prog_1_method_11_code
abbrev y_PI_reached : MethodName := ⟨"PictureInlays", "reached", "(III)Z"⟩
abbrev w_PI_reached : List Cond := .code ⟨"PictureInlays", "reached", "(III)Z"⟩ prog_1_method_11_code 4 (some .boolean) :: pw_T
abbrev b_PI_sorted : ByteArray := prog_1_method_16_code
abbrev y_PI_sorted : MethodName := ⟨"PictureInlays", "sorted", "(I)I"⟩
abbrev w_PI_sorted : List Cond := .code ⟨"PictureInlays", "sorted", "(I)I"⟩ prog_1_method_16_code 2 (some .int) :: pw_T
abbrev b_PI_told : ByteArray := prog_1_method_19_code
abbrev y_PI_told : MethodName := ⟨"PictureInlays", "told", "(Z)Z"⟩
abbrev w_PI_told : List Cond := .code ⟨"PictureInlays", "told", "(Z)Z"⟩ prog_1_method_19_code 2 (some .boolean) :: pw_T
abbrev b_Brightest_compare : ByteArray := prog_2_method_2_code
abbrev y_Brightest_compare : MethodName := ⟨"PictureInlays$Brightest", "compare", "(II)I"⟩
abbrev w_Brightest_compare : List Cond := .code ⟨"PictureInlays$Brightest", "compare", "(II)I"⟩ prog_2_method_2_code 3 (some .int) :: pw_T
abbrev b_Colours_brightness : ByteArray := prog_3_method_4_code
abbrev y_Colours_brightness : MethodName := ⟨"PictureInlays$Colours", "brightness", "(I)I"⟩
abbrev w_Colours_brightness : List Cond := .code ⟨"PictureInlays$Colours", "brightness", "(I)I"⟩ prog_3_method_4_code 2 (some .int) :: pw_T
abbrev b_Colours_distance : ByteArray := prog_3_method_3_code
abbrev y_Colours_distance : MethodName := ⟨"PictureInlays$Colours", "distance", "(ILPictureInlays$Colours;I)I"⟩
abbrev w_Colours_distance : List Cond := .code ⟨"PictureInlays$Colours", "distance", "(ILPictureInlays$Colours;I)I"⟩ prog_3_method_3_code 4 (some .int) :: pw_T
abbrev b_Colours_tell : ByteArray := prog_3_method_2_code
abbrev y_Colours_tell : MethodName := ⟨"PictureInlays$Colours", "tell", "(IIII)Z"⟩
abbrev w_Colours_tell : List Cond := .code ⟨"PictureInlays$Colours", "tell", "(IIII)Z"⟩ prog_3_method_2_code 5 (some .boolean) :: pw_T
abbrev b_Grid_besideOf : ByteArray := prog_4_method_5_code
abbrev y_Grid_besideOf : MethodName := ⟨"PictureInlays$Grid", "besideOf", "(II)I"⟩
abbrev w_Grid_besideOf : List Cond := .code ⟨"PictureInlays$Grid", "besideOf", "(II)I"⟩ prog_4_method_5_code 3 (some .int) :: pw_T
abbrev b_Grid_columnOf : ByteArray := prog_4_method_3_code
abbrev y_Grid_columnOf : MethodName := ⟨"PictureInlays$Grid", "columnOf", "(I)I"⟩
abbrev w_Grid_columnOf : List Cond := .code ⟨"PictureInlays$Grid", "columnOf", "(I)I"⟩ prog_4_method_3_code 2 (some .int) :: pw_T
abbrev b_Grid_placeOf : ByteArray := prog_4_method_2_code
abbrev y_Grid_placeOf : MethodName := ⟨"PictureInlays$Grid", "placeOf", "(II)I"⟩
abbrev w_Grid_placeOf : List Cond := .code ⟨"PictureInlays$Grid", "placeOf", "(II)I"⟩ prog_4_method_2_code 4 (some .int) :: pw_T
abbrev b_Grid_rowOf : ByteArray := prog_4_method_4_code
abbrev y_Grid_rowOf : MethodName := ⟨"PictureInlays$Grid", "rowOf", "(I)I"⟩
abbrev w_Grid_rowOf : List Cond := .code ⟨"PictureInlays$Grid", "rowOf", "(I)I"⟩ prog_4_method_4_code 2 (some .int) :: pw_T
abbrev b_Highest_compare : ByteArray := prog_5_method_2_code
abbrev y_Highest_compare : MethodName := ⟨"PictureInlays$Highest", "compare", "(II)I"⟩
abbrev w_Highest_compare : List Cond := .code ⟨"PictureInlays$Highest", "compare", "(II)I"⟩ prog_5_method_2_code 3 (some .int) :: pw_T
abbrev b_Laying_compare : ByteArray := prog_6_method_2_code
abbrev y_Laying_compare : MethodName := ⟨"PictureInlays$Laying", "compare", "(II)I"⟩
abbrev w_Laying_compare : List Cond := .code ⟨"PictureInlays$Laying", "compare", "(II)I"⟩ prog_6_method_2_code 3 (some .int) :: pw_T
abbrev b_Pieces_begin : ByteArray := prog_7_method_6_code
abbrev y_Pieces_begin : MethodName := ⟨"PictureInlays$Pieces", "begin", "(II)V"⟩
abbrev w_Pieces_begin : List Cond := .code ⟨"PictureInlays$Pieces", "begin", "(II)V"⟩ prog_7_method_6_code 3 none :: pw_T
abbrev b_Pieces_closestTo : ByteArray := prog_7_method_10_code
abbrev y_Pieces_closestTo : MethodName := ⟨"PictureInlays$Pieces", "closestTo", "(I)I"⟩
abbrev w_Pieces_closestTo : List Cond := .code ⟨"PictureInlays$Pieces", "closestTo", "(I)I"⟩ prog_7_method_10_code 4 (some .int) :: pw_T
abbrev b_Pieces_columnsOf : ByteArray := prog_7_method_20_code
abbrev y_Pieces_columnsOf : MethodName := ⟨"PictureInlays$Pieces", "columnsOf", "(I)I"⟩
abbrev w_Pieces_columnsOf : List Cond := .code ⟨"PictureInlays$Pieces", "columnsOf", "(I)I"⟩ prog_7_method_20_code 2 (some .int) :: pw_T
abbrev b_Pieces_countSidesAt : ByteArray := prog_7_method_12_code
abbrev y_Pieces_countSidesAt : MethodName := ⟨"PictureInlays$Pieces", "countSidesAt", "(I)V"⟩
abbrev w_Pieces_countSidesAt : List Cond := .code ⟨"PictureInlays$Pieces", "countSidesAt", "(I)V"⟩ prog_7_method_12_code 4 none :: pw_T
abbrev b_Pieces_countSidesOf : ByteArray := prog_7_method_11_code
abbrev y_Pieces_countSidesOf : MethodName := ⟨"PictureInlays$Pieces", "countSidesOf", "(I)V"⟩
abbrev w_Pieces_countSidesOf : List Cond := .code ⟨"PictureInlays$Pieces", "countSidesOf", "(I)V"⟩ prog_7_method_11_code 3 none :: pw_T
abbrev b_Pieces_firstXOf : ByteArray := prog_7_method_17_code
abbrev y_Pieces_firstXOf : MethodName := ⟨"PictureInlays$Pieces", "firstXOf", "(I)I"⟩
abbrev w_Pieces_firstXOf : List Cond := .code ⟨"PictureInlays$Pieces", "firstXOf", "(I)I"⟩ prog_7_method_17_code 2 (some .int) :: pw_T
abbrev b_Pieces_gather : ByteArray := prog_7_method_5_code
abbrev y_Pieces_gather : MethodName := ⟨"PictureInlays$Pieces", "gather", "(II)V"⟩
abbrev w_Pieces_gather : List Cond := .code ⟨"PictureInlays$Pieces", "gather", "(II)V"⟩ prog_7_method_5_code 8 none :: pw_T
abbrev b_Pieces_gatherAll : ByteArray := prog_7_method_4_code
abbrev y_Pieces_gatherAll : MethodName := ⟨"PictureInlays$Pieces", "gatherAll", "()V"⟩
abbrev w_Pieces_gatherAll : List Cond := .code ⟨"PictureInlays$Pieces", "gatherAll", "()V"⟩ prog_7_method_4_code 2 none :: pw_T
abbrev b_Pieces_include : ByteArray := prog_7_method_7_code
abbrev y_Pieces_include : MethodName := ⟨"PictureInlays$Pieces", "include", "(II)V"⟩
abbrev w_Pieces_include : List Cond := .code ⟨"PictureInlays$Pieces", "include", "(II)V"⟩ prog_7_method_7_code 3 none :: pw_T
abbrev b_Pieces_isAtEdge : ByteArray := prog_7_method_22_code
abbrev y_Pieces_isAtEdge : MethodName := ⟨"PictureInlays$Pieces", "isAtEdge", "(I)Z"⟩
abbrev w_Pieces_isAtEdge : List Cond := .code ⟨"PictureInlays$Pieces", "isAtEdge", "(I)Z"⟩ prog_7_method_22_code 2 (some .boolean) :: pw_T
abbrev b_Pieces_joinSmallest : ByteArray := prog_7_method_8_code
abbrev y_Pieces_joinSmallest : MethodName := ⟨"PictureInlays$Pieces", "joinSmallest", "(I)Z"⟩
abbrev w_Pieces_joinSmallest : List Cond := .code ⟨"PictureInlays$Pieces", "joinSmallest", "(I)Z"⟩ prog_7_method_8_code 5 (some .boolean) :: pw_T
abbrev b_Pieces_leastXOf : ByteArray := prog_7_method_18_code
abbrev y_Pieces_leastXOf : MethodName := ⟨"PictureInlays$Pieces", "leastXOf", "(I)I"⟩
abbrev w_Pieces_leastXOf : List Cond := .code ⟨"PictureInlays$Pieces", "leastXOf", "(I)I"⟩ prog_7_method_18_code 2 (some .int) :: pw_T
abbrev b_Pieces_leastYOf : ByteArray := prog_7_method_19_code
abbrev y_Pieces_leastYOf : MethodName := ⟨"PictureInlays$Pieces", "leastYOf", "(I)I"⟩
abbrev w_Pieces_leastYOf : List Cond := .code ⟨"PictureInlays$Pieces", "leastYOf", "(I)I"⟩ prog_7_method_19_code 2 (some .int) :: pw_T
abbrev b_Pieces_make : ByteArray := prog_7_method_2_code
abbrev y_Pieces_make : MethodName := ⟨"PictureInlays$Pieces", "make", "(LPictureInlays$Colours;LPictureInlays$Colours;II)V"⟩
abbrev w_Pieces_make : List Cond := .code ⟨"PictureInlays$Pieces", "make", "(LPictureInlays$Colours;LPictureInlays$Colours;II)V"⟩ prog_7_method_2_code 6 none :: pw_T
abbrev b_Pieces_nearestWood : ByteArray := prog_7_method_3_code
abbrev y_Pieces_nearestWood : MethodName := ⟨"PictureInlays$Pieces", "nearestWood", "(LPictureInlays$Colours;ILPictureInlays$Colours;I)I"⟩
abbrev w_Pieces_nearestWood : List Cond := .code ⟨"PictureInlays$Pieces", "nearestWood", "(LPictureInlays$Colours;ILPictureInlays$Colours;I)I"⟩ prog_7_method_3_code 8 (some .int) :: pw_T
abbrev b_Pieces_numberOf : ByteArray := prog_7_method_14_code
abbrev y_Pieces_numberOf : MethodName := ⟨"PictureInlays$Pieces", "numberOf", "(II)I"⟩
abbrev w_Pieces_numberOf : List Cond := .code ⟨"PictureInlays$Pieces", "numberOf", "(II)I"⟩ prog_7_method_14_code 4 (some .int) :: pw_T
abbrev b_Pieces_rowsOf : ByteArray := prog_7_method_21_code
abbrev y_Pieces_rowsOf : MethodName := ⟨"PictureInlays$Pieces", "rowsOf", "(I)I"⟩
abbrev w_Pieces_rowsOf : List Cond := .code ⟨"PictureInlays$Pieces", "rowsOf", "(I)I"⟩ prog_7_method_21_code 2 (some .int) :: pw_T
abbrev b_Pieces_sidesBetween : ByteArray := prog_7_method_13_code
abbrev y_Pieces_sidesBetween : MethodName := ⟨"PictureInlays$Pieces", "sidesBetween", "(II)I"⟩
abbrev w_Pieces_sidesBetween : List Cond := .code ⟨"PictureInlays$Pieces", "sidesBetween", "(II)I"⟩ prog_7_method_13_code 3 (some .int) :: pw_T
abbrev b_Pieces_sizeOf : ByteArray := prog_7_method_16_code
abbrev y_Pieces_sizeOf : MethodName := ⟨"PictureInlays$Pieces", "sizeOf", "(I)I"⟩
abbrev w_Pieces_sizeOf : List Cond := .code ⟨"PictureInlays$Pieces", "sizeOf", "(I)I"⟩ prog_7_method_16_code 2 (some .int) :: pw_T
abbrev b_Pieces_smallest : ByteArray := prog_7_method_9_code
abbrev y_Pieces_smallest : MethodName := ⟨"PictureInlays$Pieces", "smallest", "()I"⟩
abbrev w_Pieces_smallest : List Cond := .code ⟨"PictureInlays$Pieces", "smallest", "()I"⟩ prog_7_method_9_code 3 (some .int) :: pw_T
abbrev b_Pieces_woodOf : ByteArray := prog_7_method_15_code
abbrev y_Pieces_woodOf : MethodName := ⟨"PictureInlays$Pieces", "woodOf", "(I)I"⟩
abbrev w_Pieces_woodOf : List Cond := .code ⟨"PictureInlays$Pieces", "woodOf", "(I)I"⟩ prog_7_method_15_code 2 (some .int) :: pw_T
abbrev b_Ranking_rank : ByteArray := prog_8_method_3_code
abbrev y_Ranking_rank : MethodName := ⟨"PictureInlays$Ranking", "rank", "(I)V"⟩
abbrev w_Ranking_rank : List Cond := .code ⟨"PictureInlays$Ranking", "rank", "(I)V"⟩ prog_8_method_3_code 4 none :: pw_T
abbrev b_Ranking_ranked : ByteArray := prog_8_method_4_code
abbrev y_Ranking_ranked : MethodName := ⟨"PictureInlays$Ranking", "ranked", "(I)I"⟩
abbrev w_Ranking_ranked : List Cond := .code ⟨"PictureInlays$Ranking", "ranked", "(I)I"⟩ prog_8_method_4_code 2 (some .int) :: pw_T
abbrev b_Sheet_fill : ByteArray := prog_9_method_2_code
abbrev y_Sheet_fill : MethodName := ⟨"PictureInlays$Sheet", "fill", "(II)I"⟩
abbrev w_Sheet_fill : List Cond := .code ⟨"PictureInlays$Sheet", "fill", "(II)I"⟩ prog_9_method_2_code 7 (some .int) :: pw_T
abbrev b_Sheet_newRow : ByteArray := prog_9_method_4_code
abbrev y_Sheet_newRow : MethodName := ⟨"PictureInlays$Sheet", "newRow", "(I)I"⟩
abbrev w_Sheet_newRow : List Cond := .code ⟨"PictureInlays$Sheet", "newRow", "(I)I"⟩ prog_9_method_4_code 2 (some .int) :: pw_T
abbrev b_Sheet_put : ByteArray := prog_9_method_5_code
abbrev y_Sheet_put : MethodName := ⟨"PictureInlays$Sheet", "put", "(II)V"⟩
abbrev w_Sheet_put : List Cond := .code ⟨"PictureInlays$Sheet", "put", "(II)V"⟩ prog_9_method_5_code 3 none :: pw_T
abbrev b_Sheet_rowFor : ByteArray := prog_9_method_3_code
abbrev y_Sheet_rowFor : MethodName := ⟨"PictureInlays$Sheet", "rowFor", "(III)I"⟩
abbrev w_Sheet_rowFor : List Cond := .code ⟨"PictureInlays$Sheet", "rowFor", "(III)I"⟩ prog_9_method_3_code 7 (some .int) :: pw_T
abbrev b_Sheet_xOf : ByteArray := prog_9_method_6_code
abbrev y_Sheet_xOf : MethodName := ⟨"PictureInlays$Sheet", "xOf", "(I)I"⟩
abbrev w_Sheet_xOf : List Cond := .code ⟨"PictureInlays$Sheet", "xOf", "(I)I"⟩ prog_9_method_6_code 2 (some .int) :: pw_T
abbrev b_Sheet_yOf : ByteArray := prog_9_method_7_code
abbrev y_Sheet_yOf : MethodName := ⟨"PictureInlays$Sheet", "yOf", "(I)I"⟩
abbrev w_Sheet_yOf : List Cond := .code ⟨"PictureInlays$Sheet", "yOf", "(I)I"⟩ prog_9_method_7_code 2 (some .int) :: pw_T
abbrev b_Tool_cover : ByteArray := prog_10_method_2_code
abbrev y_Tool_cover : MethodName := ⟨"PictureInlays$Tool", "cover", "(II)V"⟩
abbrev w_Tool_cover : List Cond := .code ⟨"PictureInlays$Tool", "cover", "(II)V"⟩ prog_10_method_2_code 5 none :: pw_T
abbrev b_Tool_covers : ByteArray := prog_10_method_5_code
abbrev y_Tool_covers : MethodName := ⟨"PictureInlays$Tool", "covers", "(II)Z"⟩
abbrev w_Tool_covers : List Cond := .code ⟨"PictureInlays$Tool", "covers", "(II)Z"⟩ prog_10_method_5_code 4 (some .boolean) :: pw_T
abbrev b_Tool_fits : ByteArray := prog_10_method_3_code
abbrev y_Tool_fits : MethodName := ⟨"PictureInlays$Tool", "fits", "(IIII)Z"⟩
abbrev w_Tool_fits : List Cond := .code ⟨"PictureInlays$Tool", "fits", "(IIII)Z"⟩ prog_10_method_3_code 7 (some .boolean) :: pw_T
abbrev b_Tool_mark : ByteArray := prog_10_method_4_code
abbrev y_Tool_mark : MethodName := ⟨"PictureInlays$Tool", "mark", "(III)V"⟩
abbrev w_Tool_mark : List Cond := .code ⟨"PictureInlays$Tool", "mark", "(III)V"⟩ prog_10_method_4_code 7 none :: pw_T
abbrev b_Walk_cornerX : ByteArray := prog_11_method_6_code
abbrev y_Walk_cornerX : MethodName := ⟨"PictureInlays$Walk", "cornerX", "(I)I"⟩
abbrev w_Walk_cornerX : List Cond := .code ⟨"PictureInlays$Walk", "cornerX", "(I)I"⟩ prog_11_method_6_code 2 (some .int) :: pw_T
abbrev b_Walk_cornerY : ByteArray := prog_11_method_7_code
abbrev y_Walk_cornerY : MethodName := ⟨"PictureInlays$Walk", "cornerY", "(I)I"⟩
abbrev w_Walk_cornerY : List Cond := .code ⟨"PictureInlays$Walk", "cornerY", "(I)I"⟩ prog_11_method_7_code 2 (some .int) :: pw_T
abbrev b_Walk_isAhead : ByteArray := prog_11_method_4_code
abbrev y_Walk_isAhead : MethodName := ⟨"PictureInlays$Walk", "isAhead", "(II)Z"⟩
abbrev w_Walk_isAhead : List Cond := .code ⟨"PictureInlays$Walk", "isAhead", "(II)Z"⟩ prog_11_method_4_code 3 (some .boolean) :: pw_T
abbrev b_Walk_noteCorner : ByteArray := prog_11_method_5_code
abbrev y_Walk_noteCorner : MethodName := ⟨"PictureInlays$Walk", "noteCorner", "()V"⟩
abbrev w_Walk_noteCorner : List Cond := .code ⟨"PictureInlays$Walk", "noteCorner", "()V"⟩ prog_11_method_5_code 1 none :: pw_T
abbrev b_Walk_round : ByteArray := prog_11_method_2_code
abbrev y_Walk_round : MethodName := ⟨"PictureInlays$Walk", "round", "(I)V"⟩
abbrev w_Walk_round : List Cond := .code ⟨"PictureInlays$Walk", "round", "(I)V"⟩ prog_11_method_2_code 5 none :: pw_T
abbrev b_Walk_turn : ByteArray := prog_11_method_3_code
abbrev y_Walk_turn : MethodName := ⟨"PictureInlays$Walk", "turn", "(I)V"⟩
abbrev w_Walk_turn : List Cond := .code ⟨"PictureInlays$Walk", "turn", "(I)V"⟩ prog_11_method_3_code 3 none :: pw_T
abbrev b_Integer_compare : ByteArray := prog_18_method_40_code
abbrev y_Integer_compare : MethodName := ⟨"java/lang/Integer", "compare", "(II)I"⟩
abbrev w_Integer_compare : List Cond := .code ⟨"java/lang/Integer", "compare", "(II)I"⟩ prog_18_method_40_code 2 (some .int) :: pw_T
abbrev b_Arrays_fill : ByteArray := prog_23_method_103_code
abbrev y_Arrays_fill : MethodName := ⟨"java/util/Arrays", "fill", "([II)V"⟩
abbrev w_Arrays_fill : List Cond := .code ⟨"java/util/Arrays", "fill", "([II)V"⟩ prog_23_method_103_code 4 none :: pw_T
theorem kw_0 : (.selects "PictureInlays" ⟨"PictureInlays", "needPlace", "(II)V"⟩ ⟨"PictureInlays", "needPlace", "(II)V"⟩ : Cond) ∈ pw_T := pw_mem (i := 0) (by decide +kernel) (by decide +kernel)
theorem kw_2 : (.selects "PictureInlays" ⟨"PictureInlays", "told", "(Z)Z"⟩ ⟨"PictureInlays", "told", "(Z)Z"⟩ : Cond) ∈ pw_T := pw_mem (i := 2) (by decide +kernel) (by decide +kernel)
theorem kw_3 : (.selects "PictureInlays$Pieces" ⟨"PictureInlays$Pieces", "gatherAll", "()V"⟩ ⟨"PictureInlays$Pieces", "gatherAll", "()V"⟩ : Cond) ∈ pw_T := pw_mem (i := 3) (by decide +kernel) (by decide +kernel)
theorem kw_4 : (.selects "PictureInlays$Pieces" ⟨"PictureInlays$Pieces", "gather", "(II)V"⟩ ⟨"PictureInlays$Pieces", "gather", "(II)V"⟩ : Cond) ∈ pw_T := pw_mem (i := 4) (by decide +kernel) (by decide +kernel)
theorem kw_5 : (.selects "PictureInlays$Pieces" ⟨"PictureInlays$Pieces", "begin", "(II)V"⟩ ⟨"PictureInlays$Pieces", "begin", "(II)V"⟩ : Cond) ∈ pw_T := pw_mem (i := 5) (by decide +kernel) (by decide +kernel)
theorem kw_6 : (.selects "PictureInlays$Pieces" ⟨"PictureInlays$Pieces", "include", "(II)V"⟩ ⟨"PictureInlays$Pieces", "include", "(II)V"⟩ : Cond) ∈ pw_T := pw_mem (i := 6) (by decide +kernel) (by decide +kernel)
theorem kw_7 : (.selects "PictureInlays$Pieces" ⟨"PictureInlays$Pieces", "joinSmallest", "(I)Z"⟩ ⟨"PictureInlays$Pieces", "joinSmallest", "(I)Z"⟩ : Cond) ∈ pw_T := pw_mem (i := 7) (by decide +kernel) (by decide +kernel)
theorem kw_8 : (.selects "PictureInlays$Pieces" ⟨"PictureInlays$Pieces", "smallest", "()I"⟩ ⟨"PictureInlays$Pieces", "smallest", "()I"⟩ : Cond) ∈ pw_T := pw_mem (i := 8) (by decide +kernel) (by decide +kernel)
theorem kw_9 : (.selects "PictureInlays$Pieces" ⟨"PictureInlays$Pieces", "closestTo", "(I)I"⟩ ⟨"PictureInlays$Pieces", "closestTo", "(I)I"⟩ : Cond) ∈ pw_T := pw_mem (i := 9) (by decide +kernel) (by decide +kernel)
theorem kw_10 : (.selects "PictureInlays$Pieces" ⟨"PictureInlays$Pieces", "countSidesOf", "(I)V"⟩ ⟨"PictureInlays$Pieces", "countSidesOf", "(I)V"⟩ : Cond) ∈ pw_T := pw_mem (i := 10) (by decide +kernel) (by decide +kernel)
theorem kw_11 : (.selects "PictureInlays$Pieces" ⟨"PictureInlays$Pieces", "countSidesAt", "(I)V"⟩ ⟨"PictureInlays$Pieces", "countSidesAt", "(I)V"⟩ : Cond) ∈ pw_T := pw_mem (i := 11) (by decide +kernel) (by decide +kernel)
theorem kw_12 : (.selects "PictureInlays" ⟨"PictureInlays", "needParted", "()V"⟩ ⟨"PictureInlays", "needParted", "()V"⟩ : Cond) ∈ pw_T := pw_mem (i := 12) (by decide +kernel) (by decide +kernel)
theorem kw_13 : (.selects "PictureInlays" ⟨"PictureInlays", "needPiece", "(I)V"⟩ ⟨"PictureInlays", "needPiece", "(I)V"⟩ : Cond) ∈ pw_T := pw_mem (i := 13) (by decide +kernel) (by decide +kernel)
theorem kw_14 : (.selects "PictureInlays$Walk" ⟨"PictureInlays$Walk", "noteCorner", "()V"⟩ ⟨"PictureInlays$Walk", "noteCorner", "()V"⟩ : Cond) ∈ pw_T := pw_mem (i := 14) (by decide +kernel) (by decide +kernel)
theorem kw_15 : (.selects "PictureInlays$Walk" ⟨"PictureInlays$Walk", "turn", "(I)V"⟩ ⟨"PictureInlays$Walk", "turn", "(I)V"⟩ : Cond) ∈ pw_T := pw_mem (i := 15) (by decide +kernel) (by decide +kernel)
theorem kw_16 : (.selects "PictureInlays$Walk" ⟨"PictureInlays$Walk", "isAhead", "(II)Z"⟩ ⟨"PictureInlays$Walk", "isAhead", "(II)Z"⟩ : Cond) ∈ pw_T := pw_mem (i := 16) (by decide +kernel) (by decide +kernel)
theorem kw_17 : (.selects "PictureInlays$Tool" ⟨"PictureInlays$Tool", "fits", "(IIII)Z"⟩ ⟨"PictureInlays$Tool", "fits", "(IIII)Z"⟩ : Cond) ∈ pw_T := pw_mem (i := 17) (by decide +kernel) (by decide +kernel)
theorem kw_18 : (.selects "PictureInlays$Tool" ⟨"PictureInlays$Tool", "mark", "(III)V"⟩ ⟨"PictureInlays$Tool", "mark", "(III)V"⟩ : Cond) ∈ pw_T := pw_mem (i := 18) (by decide +kernel) (by decide +kernel)
theorem kw_19 : (.selects "PictureInlays$Sheet" ⟨"PictureInlays$Sheet", "rowFor", "(III)I"⟩ ⟨"PictureInlays$Sheet", "rowFor", "(III)I"⟩ : Cond) ∈ pw_T := pw_mem (i := 19) (by decide +kernel) (by decide +kernel)
theorem kw_20 : (.selects "PictureInlays$Sheet" ⟨"PictureInlays$Sheet", "newRow", "(I)I"⟩ ⟨"PictureInlays$Sheet", "newRow", "(I)I"⟩ : Cond) ∈ pw_T := pw_mem (i := 20) (by decide +kernel) (by decide +kernel)
theorem kw_21 : (.selects "PictureInlays$Sheet" ⟨"PictureInlays$Sheet", "put", "(II)V"⟩ ⟨"PictureInlays$Sheet", "put", "(II)V"⟩ : Cond) ∈ pw_T := pw_mem (i := 21) (by decide +kernel) (by decide +kernel)
theorem kw_22 : (.selects "PictureInlays" ⟨"PictureInlays", "needNested", "()V"⟩ ⟨"PictureInlays", "needNested", "()V"⟩ : Cond) ∈ pw_T := pw_mem (i := 22) (by decide +kernel) (by decide +kernel)
theorem kw_45 : (.initialized "PictureInlays" : Cond) ∈ pw_T := pw_mem (i := 45) (by decide +kernel) (by decide +kernel)
theorem kw_46 : (.initialized "PictureInlays$Grid" : Cond) ∈ pw_T := pw_mem (i := 46) (by decide +kernel) (by decide +kernel)
theorem kw_47 : (.initialized "java/lang/Math" : Cond) ∈ pw_T := pw_mem (i := 47) (by decide +kernel) (by decide +kernel)
theorem kw_48 : (.initialized "PictureInlays$Colours" : Cond) ∈ pw_T := pw_mem (i := 48) (by decide +kernel) (by decide +kernel)
theorem kw_49 : (.initialized "PictureInlays$Pieces" : Cond) ∈ pw_T := pw_mem (i := 49) (by decide +kernel) (by decide +kernel)
theorem kw_50 : (.initialized "PictureInlays$Ranking" : Cond) ∈ pw_T := pw_mem (i := 50) (by decide +kernel) (by decide +kernel)
theorem kw_51 : (.initialized "PictureInlays$Brightest" : Cond) ∈ pw_T := pw_mem (i := 51) (by decide +kernel) (by decide +kernel)
theorem kw_52 : (.initialized "PictureInlays$Laying" : Cond) ∈ pw_T := pw_mem (i := 52) (by decide +kernel) (by decide +kernel)
theorem kw_53 : (.initialized "PictureInlays$Walk" : Cond) ∈ pw_T := pw_mem (i := 53) (by decide +kernel) (by decide +kernel)
theorem kw_54 : (.initialized "PictureInlays$Tool" : Cond) ∈ pw_T := pw_mem (i := 54) (by decide +kernel) (by decide +kernel)
theorem kw_55 : (.initialized "PictureInlays$Sheet" : Cond) ∈ pw_T := pw_mem (i := 55) (by decide +kernel) (by decide +kernel)
theorem kw_56 : (.initialized "PictureInlays$Highest" : Cond) ∈ pw_T := pw_mem (i := 56) (by decide +kernel) (by decide +kernel)
theorem kw_61 : (.initialized "java/lang/IndexOutOfBoundsException" : Cond) ∈ pw_T := pw_mem (i := 61) (by decide +kernel) (by decide +kernel)
theorem kw_62 : (.initialized "java/lang/IllegalArgumentException" : Cond) ∈ pw_T := pw_mem (i := 62) (by decide +kernel) (by decide +kernel)
theorem kw_63 : (.initialized "java/util/Arrays" : Cond) ∈ pw_T := pw_mem (i := 63) (by decide +kernel) (by decide +kernel)
theorem kw_64 : (.initialized "java/lang/Integer" : Cond) ∈ pw_T := pw_mem (i := 64) (by decide +kernel) (by decide +kernel)
theorem kw_65 : (.initialized "java/lang/IllegalStateException" : Cond) ∈ pw_T := pw_mem (i := 65) (by decide +kernel) (by decide +kernel)
theorem kw_80 : (.static ⟨"java/lang/Math", "min", "(II)I"⟩ : Cond) ∈ pw_T := pw_mem (i := 80) (by decide +kernel) (by decide +kernel)
theorem kw_81 : (.code ⟨"java/lang/Math", "min", "(II)I"⟩ prog_19_method_69_code 2 (some .int) : Cond) ∈ pw_T := pw_mem (i := 81) (by decide +kernel) (by decide +kernel)
theorem kw_82 : (.methodLink "PictureInlays" 206 ⟨"java/lang/Math", "max", "(II)I"⟩ : Cond) ∈ pw_T := pw_mem (i := 82) (by decide +kernel) (by decide +kernel)
theorem kw_83 : (.static ⟨"java/lang/Math", "max", "(II)I"⟩ : Cond) ∈ pw_T := pw_mem (i := 83) (by decide +kernel) (by decide +kernel)
theorem kw_84 : (.code ⟨"java/lang/Math", "max", "(II)I"⟩ prog_19_method_65_code 2 (some .int) : Cond) ∈ pw_T := pw_mem (i := 84) (by decide +kernel) (by decide +kernel)
theorem kw_94 : (.instanceMethod ⟨"PictureInlays$Grid", "placeOf", "(II)I"⟩ : Cond) ∈ pw_T := pw_mem (i := 94) (by decide +kernel) (by decide +kernel)
theorem kw_95 : (.selects "PictureInlays$Grid" ⟨"PictureInlays$Grid", "placeOf", "(II)I"⟩ ⟨"PictureInlays$Grid", "placeOf", "(II)I"⟩ : Cond) ∈ pw_T := pw_mem (i := 95) (by decide +kernel) (by decide +kernel)
theorem kw_96 : (.code ⟨"PictureInlays$Grid", "placeOf", "(II)I"⟩ prog_4_method_2_code 4 (some .int) : Cond) ∈ pw_T := pw_mem (i := 96) (by decide +kernel) (by decide +kernel)
theorem kw_97 : (.fieldLink "PictureInlays$Grid" 9 "PictureInlays$Grid" "width" "I" : Cond) ∈ pw_T := pw_mem (i := 97) (by decide +kernel) (by decide +kernel)
theorem kw_99 : (.fieldLink "PictureInlays$Tool" 35 "PictureInlays$Grid" "width" "I" : Cond) ∈ pw_T := pw_mem (i := 99) (by decide +kernel) (by decide +kernel)
theorem kw_100 : (.fieldLink "PictureInlays$Pieces" 127 "PictureInlays$Grid" "width" "I" : Cond) ∈ pw_T := pw_mem (i := 100) (by decide +kernel) (by decide +kernel)
theorem kw_101 : (.fieldLink "PictureInlays" 226 "PictureInlays$Grid" "width" "I" : Cond) ∈ pw_T := pw_mem (i := 101) (by decide +kernel) (by decide +kernel)
theorem kw_102 : (.fieldLink "PictureInlays$Grid" 15 "PictureInlays$Grid" "height" "I" : Cond) ∈ pw_T := pw_mem (i := 102) (by decide +kernel) (by decide +kernel)
theorem kw_104 : (.fieldLink "PictureInlays$Tool" 32 "PictureInlays$Grid" "height" "I" : Cond) ∈ pw_T := pw_mem (i := 104) (by decide +kernel) (by decide +kernel)
theorem kw_105 : (.fieldLink "PictureInlays$Pieces" 130 "PictureInlays$Grid" "height" "I" : Cond) ∈ pw_T := pw_mem (i := 105) (by decide +kernel) (by decide +kernel)
theorem kw_106 : (.fieldLink "PictureInlays" 229 "PictureInlays$Grid" "height" "I" : Cond) ∈ pw_T := pw_mem (i := 106) (by decide +kernel) (by decide +kernel)
theorem kw_107 : (.fieldLink "PictureInlays$Pieces" 15 "PictureInlays$Grid" "places" "I" : Cond) ∈ pw_T := pw_mem (i := 107) (by decide +kernel) (by decide +kernel)
theorem kw_109 : (.fieldLink "PictureInlays$Tool" 19 "PictureInlays$Grid" "places" "I" : Cond) ∈ pw_T := pw_mem (i := 109) (by decide +kernel) (by decide +kernel)
theorem kw_112 : (.fieldLink "PictureInlays$Grid" 21 "PictureInlays$Grid" "column" "[I" : Cond) ∈ pw_T := pw_mem (i := 112) (by decide +kernel) (by decide +kernel)
theorem kw_113 : (.fieldLink "PictureInlays$Grid" 25 "PictureInlays$Grid" "row" "[I" : Cond) ∈ pw_T := pw_mem (i := 113) (by decide +kernel) (by decide +kernel)
theorem kw_114 : (.fieldLink "PictureInlays$Grid" 28 "PictureInlays$Grid" "beside" "[I" : Cond) ∈ pw_T := pw_mem (i := 114) (by decide +kernel) (by decide +kernel)
theorem kw_135 : (.fieldLink "PictureInlays$Colours" 7 "PictureInlays$Colours" "red" "[I" : Cond) ∈ pw_T := pw_mem (i := 135) (by decide +kernel) (by decide +kernel)
theorem kw_136 : (.fieldLink "PictureInlays$Colours" 13 "PictureInlays$Colours" "green" "[I" : Cond) ∈ pw_T := pw_mem (i := 136) (by decide +kernel) (by decide +kernel)
theorem kw_137 : (.fieldLink "PictureInlays$Colours" 16 "PictureInlays$Colours" "blue" "[I" : Cond) ∈ pw_T := pw_mem (i := 137) (by decide +kernel) (by decide +kernel)
theorem kw_151 : (.fieldLink "PictureInlays$Pieces" 9 "PictureInlays$Pieces" "grid" "LPictureInlays$Grid;" : Cond) ∈ pw_T := pw_mem (i := 151) (by decide +kernel) (by decide +kernel)
theorem kw_152 : (.fieldLink "PictureInlays$Pieces" 21 "PictureInlays$Pieces" "woodAt" "[I" : Cond) ∈ pw_T := pw_mem (i := 152) (by decide +kernel) (by decide +kernel)
theorem kw_153 : (.fieldLink "PictureInlays$Pieces" 25 "PictureInlays$Pieces" "numberAt" "[I" : Cond) ∈ pw_T := pw_mem (i := 153) (by decide +kernel) (by decide +kernel)
theorem kw_154 : (.fieldLink "PictureInlays$Pieces" 28 "PictureInlays$Pieces" "waiting" "[I" : Cond) ∈ pw_T := pw_mem (i := 154) (by decide +kernel) (by decide +kernel)
theorem kw_155 : (.fieldLink "PictureInlays$Pieces" 31 "PictureInlays$Pieces" "sides" "[I" : Cond) ∈ pw_T := pw_mem (i := 155) (by decide +kernel) (by decide +kernel)
theorem kw_156 : (.fieldLink "PictureInlays$Pieces" 34 "PictureInlays$Pieces" "first" "[I" : Cond) ∈ pw_T := pw_mem (i := 156) (by decide +kernel) (by decide +kernel)
theorem kw_157 : (.fieldLink "PictureInlays$Pieces" 37 "PictureInlays$Pieces" "size" "[I" : Cond) ∈ pw_T := pw_mem (i := 157) (by decide +kernel) (by decide +kernel)
theorem kw_158 : (.fieldLink "PictureInlays$Pieces" 40 "PictureInlays$Pieces" "leastX" "[I" : Cond) ∈ pw_T := pw_mem (i := 158) (by decide +kernel) (by decide +kernel)
theorem kw_159 : (.fieldLink "PictureInlays$Pieces" 43 "PictureInlays$Pieces" "mostX" "[I" : Cond) ∈ pw_T := pw_mem (i := 159) (by decide +kernel) (by decide +kernel)
theorem kw_160 : (.fieldLink "PictureInlays$Pieces" 46 "PictureInlays$Pieces" "mostY" "[I" : Cond) ∈ pw_T := pw_mem (i := 160) (by decide +kernel) (by decide +kernel)
theorem kw_161 : (.fieldLink "PictureInlays$Pieces" 49 "PictureInlays$Pieces" "count" "I" : Cond) ∈ pw_T := pw_mem (i := 161) (by decide +kernel) (by decide +kernel)
theorem kw_162 : (.fieldLink "PictureInlays$Sheet" 47 "PictureInlays$Pieces" "count" "I" : Cond) ∈ pw_T := pw_mem (i := 162) (by decide +kernel) (by decide +kernel)
theorem kw_163 : (.fieldLink "PictureInlays" 125 "PictureInlays$Pieces" "count" "I" : Cond) ∈ pw_T := pw_mem (i := 163) (by decide +kernel) (by decide +kernel)
theorem kw_196 : (.fieldLink "PictureInlays$Brightest" 7 "PictureInlays$Brightest" "woods" "LPictureInlays$Colours;" : Cond) ∈ pw_T := pw_mem (i := 196) (by decide +kernel) (by decide +kernel)
theorem kw_197 : (.fieldLink "PictureInlays$Ranking" 7 "PictureInlays$Ranking" "row" "[I" : Cond) ∈ pw_T := pw_mem (i := 197) (by decide +kernel) (by decide +kernel)
theorem kw_209 : (.fieldLink "PictureInlays$Laying" 7 "PictureInlays$Laying" "pieces" "LPictureInlays$Pieces;" : Cond) ∈ pw_T := pw_mem (i := 209) (by decide +kernel) (by decide +kernel)
theorem kw_220 : (.fieldLink "PictureInlays$Walk" 9 "PictureInlays$Walk" "pieces" "LPictureInlays$Pieces;" : Cond) ∈ pw_T := pw_mem (i := 220) (by decide +kernel) (by decide +kernel)
theorem kw_221 : (.fieldLink "PictureInlays$Walk" 21 "PictureInlays$Walk" "mostSteps" "I" : Cond) ∈ pw_T := pw_mem (i := 221) (by decide +kernel) (by decide +kernel)
theorem kw_222 : (.fieldLink "PictureInlays$Walk" 30 "PictureInlays$Walk" "turnX" "[I" : Cond) ∈ pw_T := pw_mem (i := 222) (by decide +kernel) (by decide +kernel)
theorem kw_223 : (.fieldLink "PictureInlays$Walk" 34 "PictureInlays$Walk" "turnY" "[I" : Cond) ∈ pw_T := pw_mem (i := 223) (by decide +kernel) (by decide +kernel)
theorem kw_224 : (.fieldLink "PictureInlays$Walk" 37 "PictureInlays$Walk" "x" "I" : Cond) ∈ pw_T := pw_mem (i := 224) (by decide +kernel) (by decide +kernel)
theorem kw_225 : (.fieldLink "PictureInlays$Walk" 40 "PictureInlays$Walk" "y" "I" : Cond) ∈ pw_T := pw_mem (i := 225) (by decide +kernel) (by decide +kernel)
theorem kw_226 : (.fieldLink "PictureInlays$Walk" 43 "PictureInlays$Walk" "way" "I" : Cond) ∈ pw_T := pw_mem (i := 226) (by decide +kernel) (by decide +kernel)
theorem kw_227 : (.fieldLink "PictureInlays$Walk" 46 "PictureInlays$Walk" "corners" "I" : Cond) ∈ pw_T := pw_mem (i := 227) (by decide +kernel) (by decide +kernel)
theorem kw_228 : (.fieldLink "PictureInlays" 171 "PictureInlays$Walk" "corners" "I" : Cond) ∈ pw_T := pw_mem (i := 228) (by decide +kernel) (by decide +kernel)
theorem kw_252 : (.fieldLink "PictureInlays$Tool" 9 "PictureInlays$Tool" "grid" "LPictureInlays$Grid;" : Cond) ∈ pw_T := pw_mem (i := 252) (by decide +kernel) (by decide +kernel)
theorem kw_253 : (.fieldLink "PictureInlays$Tool" 15 "PictureInlays$Tool" "pieces" "LPictureInlays$Pieces;" : Cond) ∈ pw_T := pw_mem (i := 253) (by decide +kernel) (by decide +kernel)
theorem kw_254 : (.fieldLink "PictureInlays$Tool" 25 "PictureInlays$Tool" "marked" "[Z" : Cond) ∈ pw_T := pw_mem (i := 254) (by decide +kernel) (by decide +kernel)
theorem kw_255 : (.fieldLink "PictureInlays$Tool" 29 "PictureInlays$Tool" "covered" "I" : Cond) ∈ pw_T := pw_mem (i := 255) (by decide +kernel) (by decide +kernel)
theorem kw_256 : (.fieldLink "PictureInlays" 183 "PictureInlays$Tool" "covered" "I" : Cond) ∈ pw_T := pw_mem (i := 256) (by decide +kernel) (by decide +kernel)
theorem kw_279 : (.fieldLink "PictureInlays$Highest" 7 "PictureInlays$Highest" "pieces" "LPictureInlays$Pieces;" : Cond) ∈ pw_T := pw_mem (i := 279) (by decide +kernel) (by decide +kernel)
theorem kw_284 : (.fieldLink "PictureInlays$Sheet" 9 "PictureInlays$Sheet" "pieces" "LPictureInlays$Pieces;" : Cond) ∈ pw_T := pw_mem (i := 284) (by decide +kernel) (by decide +kernel)
theorem kw_285 : (.fieldLink "PictureInlays$Sheet" 20 "PictureInlays$Sheet" "highest" "LPictureInlays$Ranking;" : Cond) ∈ pw_T := pw_mem (i := 285) (by decide +kernel) (by decide +kernel)
theorem kw_286 : (.fieldLink "PictureInlays$Sheet" 24 "PictureInlays$Sheet" "lyingX" "[I" : Cond) ∈ pw_T := pw_mem (i := 286) (by decide +kernel) (by decide +kernel)
theorem kw_287 : (.fieldLink "PictureInlays$Sheet" 28 "PictureInlays$Sheet" "lyingY" "[I" : Cond) ∈ pw_T := pw_mem (i := 287) (by decide +kernel) (by decide +kernel)
theorem kw_288 : (.fieldLink "PictureInlays$Sheet" 31 "PictureInlays$Sheet" "rowTop" "[I" : Cond) ∈ pw_T := pw_mem (i := 288) (by decide +kernel) (by decide +kernel)
theorem kw_289 : (.fieldLink "PictureInlays$Sheet" 34 "PictureInlays$Sheet" "rowHeight" "[I" : Cond) ∈ pw_T := pw_mem (i := 289) (by decide +kernel) (by decide +kernel)
theorem kw_290 : (.fieldLink "PictureInlays$Sheet" 37 "PictureInlays$Sheet" "rowUsed" "[I" : Cond) ∈ pw_T := pw_mem (i := 290) (by decide +kernel) (by decide +kernel)
theorem kw_291 : (.fieldLink "PictureInlays$Sheet" 40 "PictureInlays$Sheet" "rows" "I" : Cond) ∈ pw_T := pw_mem (i := 291) (by decide +kernel) (by decide +kernel)
theorem kw_292 : (.fieldLink "PictureInlays$Sheet" 44 "PictureInlays$Sheet" "bottom" "I" : Cond) ∈ pw_T := pw_mem (i := 292) (by decide +kernel) (by decide +kernel)
theorem kw_312 : (.fieldLink "PictureInlays" 18 "PictureInlays" "grid" "LPictureInlays$Grid;" : Cond) ∈ pw_T := pw_mem (i := 312) (by decide +kernel) (by decide +kernel)
theorem kw_313 : (.fieldLink "PictureInlays" 22 "PictureInlays" "kinds" "I" : Cond) ∈ pw_T := pw_mem (i := 313) (by decide +kernel) (by decide +kernel)
theorem kw_314 : (.fieldLink "PictureInlays" 34 "PictureInlays" "picture" "LPictureInlays$Colours;" : Cond) ∈ pw_T := pw_mem (i := 314) (by decide +kernel) (by decide +kernel)
theorem kw_315 : (.fieldLink "PictureInlays" 38 "PictureInlays" "woods" "LPictureInlays$Colours;" : Cond) ∈ pw_T := pw_mem (i := 315) (by decide +kernel) (by decide +kernel)
theorem kw_316 : (.fieldLink "PictureInlays" 46 "PictureInlays" "pieces" "LPictureInlays$Pieces;" : Cond) ∈ pw_T := pw_mem (i := 316) (by decide +kernel) (by decide +kernel)
theorem kw_317 : (.fieldLink "PictureInlays" 55 "PictureInlays" "brightest" "LPictureInlays$Ranking;" : Cond) ∈ pw_T := pw_mem (i := 317) (by decide +kernel) (by decide +kernel)
theorem kw_318 : (.fieldLink "PictureInlays" 64 "PictureInlays" "laying" "LPictureInlays$Ranking;" : Cond) ∈ pw_T := pw_mem (i := 318) (by decide +kernel) (by decide +kernel)
theorem kw_319 : (.fieldLink "PictureInlays" 72 "PictureInlays" "walk" "LPictureInlays$Walk;" : Cond) ∈ pw_T := pw_mem (i := 319) (by decide +kernel) (by decide +kernel)
theorem kw_320 : (.fieldLink "PictureInlays" 79 "PictureInlays" "tool" "LPictureInlays$Tool;" : Cond) ∈ pw_T := pw_mem (i := 320) (by decide +kernel) (by decide +kernel)
theorem kw_321 : (.fieldLink "PictureInlays" 86 "PictureInlays" "sheet" "LPictureInlays$Sheet;" : Cond) ∈ pw_T := pw_mem (i := 321) (by decide +kernel) (by decide +kernel)
theorem kw_322 : (.fieldLink "PictureInlays" 90 "PictureInlays" "parted" "Z" : Cond) ∈ pw_T := pw_mem (i := 322) (by decide +kernel) (by decide +kernel)
theorem kw_323 : (.fieldLink "PictureInlays" 94 "PictureInlays" "nested" "Z" : Cond) ∈ pw_T := pw_mem (i := 323) (by decide +kernel) (by decide +kernel)
theorem kw_361 : (.methodLink "PictureInlays" 97 ⟨"PictureInlays", "needPlace", "(II)V"⟩ : Cond) ∈ pw_T := pw_mem (i := 361) (by decide +kernel) (by decide +kernel)
theorem kw_363 : (.instanceMethod ⟨"PictureInlays", "needPlace", "(II)V"⟩ : Cond) ∈ pw_T := pw_mem (i := 363) (by decide +kernel) (by decide +kernel)
theorem kw_364 : (.code ⟨"PictureInlays", "needPlace", "(II)V"⟩ prog_1_method_23_code 3 none : Cond) ∈ pw_T := pw_mem (i := 364) (by decide +kernel) (by decide +kernel)
theorem kw_365 : (.methodLink "PictureInlays" 115 ⟨"PictureInlays", "needIndex", "(II)V"⟩ : Cond) ∈ pw_T := pw_mem (i := 365) (by decide +kernel) (by decide +kernel)
theorem kw_366 : (.static ⟨"PictureInlays", "needIndex", "(II)V"⟩ : Cond) ∈ pw_T := pw_mem (i := 366) (by decide +kernel) (by decide +kernel)
theorem kw_367 : (.code ⟨"PictureInlays", "needIndex", "(II)V"⟩ prog_1_method_25_code 2 none : Cond) ∈ pw_T := pw_mem (i := 367) (by decide +kernel) (by decide +kernel)
theorem kw_368 : (.classLink "PictureInlays" 232 "java/lang/IndexOutOfBoundsException" : Cond) ∈ pw_T := pw_mem (i := 368) (by decide +kernel) (by decide +kernel)
theorem kw_369 : (.instantiable "java/lang/IndexOutOfBoundsException" 6 : Cond) ∈ pw_T := pw_mem (i := 369) (by decide +kernel) (by decide +kernel)
theorem kw_410 : (.methodLink "PictureInlays" 236 ⟨"java/lang/IndexOutOfBoundsException", "<init>", "(Ljava/lang/String;)V"⟩ : Cond) ∈ pw_T := pw_mem (i := 410) (by decide +kernel) (by decide +kernel)
theorem kw_436 : (.methodLink "PictureInlays" 100 ⟨"PictureInlays", "needColour", "(III)V"⟩ : Cond) ∈ pw_T := pw_mem (i := 436) (by decide +kernel) (by decide +kernel)
theorem kw_437 : (.static ⟨"PictureInlays", "needColour", "(III)V"⟩ : Cond) ∈ pw_T := pw_mem (i := 437) (by decide +kernel) (by decide +kernel)
theorem kw_438 : (.code ⟨"PictureInlays", "needColour", "(III)V"⟩ prog_1_method_24_code 3 none : Cond) ∈ pw_T := pw_mem (i := 438) (by decide +kernel) (by decide +kernel)
theorem kw_439 : (.methodLink "PictureInlays" 118 ⟨"PictureInlays", "needNumber", "(III)V"⟩ : Cond) ∈ pw_T := pw_mem (i := 439) (by decide +kernel) (by decide +kernel)
theorem kw_440 : (.static ⟨"PictureInlays", "needNumber", "(III)V"⟩ : Cond) ∈ pw_T := pw_mem (i := 440) (by decide +kernel) (by decide +kernel)
theorem kw_441 : (.code ⟨"PictureInlays", "needNumber", "(III)V"⟩ prog_1_method_26_code 3 none : Cond) ∈ pw_T := pw_mem (i := 441) (by decide +kernel) (by decide +kernel)
theorem kw_442 : (.classLink "PictureInlays" 237 "java/lang/IllegalArgumentException" : Cond) ∈ pw_T := pw_mem (i := 442) (by decide +kernel) (by decide +kernel)
theorem kw_443 : (.instantiable "java/lang/IllegalArgumentException" 6 : Cond) ∈ pw_T := pw_mem (i := 443) (by decide +kernel) (by decide +kernel)
theorem kw_452 : (.methodLink "PictureInlays" 241 ⟨"java/lang/IllegalArgumentException", "<init>", "(Ljava/lang/String;)V"⟩ : Cond) ∈ pw_T := pw_mem (i := 452) (by decide +kernel) (by decide +kernel)
theorem kw_458 : (.methodLink "PictureInlays" 104 ⟨"PictureInlays$Grid", "placeOf", "(II)I"⟩ : Cond) ∈ pw_T := pw_mem (i := 458) (by decide +kernel) (by decide +kernel)
theorem kw_459 : (.methodLink "PictureInlays" 107 ⟨"PictureInlays$Colours", "tell", "(IIII)Z"⟩ : Cond) ∈ pw_T := pw_mem (i := 459) (by decide +kernel) (by decide +kernel)
theorem kw_460 : (.instanceMethod ⟨"PictureInlays$Colours", "tell", "(IIII)Z"⟩ : Cond) ∈ pw_T := pw_mem (i := 460) (by decide +kernel) (by decide +kernel)
theorem kw_461 : (.selects "PictureInlays$Colours" ⟨"PictureInlays$Colours", "tell", "(IIII)Z"⟩ ⟨"PictureInlays$Colours", "tell", "(IIII)Z"⟩ : Cond) ∈ pw_T := pw_mem (i := 461) (by decide +kernel) (by decide +kernel)
theorem kw_462 : (.code ⟨"PictureInlays$Colours", "tell", "(IIII)Z"⟩ prog_3_method_2_code 5 (some .boolean) : Cond) ∈ pw_T := pw_mem (i := 462) (by decide +kernel) (by decide +kernel)
theorem kw_463 : (.methodLink "PictureInlays" 111 ⟨"PictureInlays", "told", "(Z)Z"⟩ : Cond) ∈ pw_T := pw_mem (i := 463) (by decide +kernel) (by decide +kernel)
theorem kw_465 : (.instanceMethod ⟨"PictureInlays", "told", "(Z)Z"⟩ : Cond) ∈ pw_T := pw_mem (i := 465) (by decide +kernel) (by decide +kernel)
theorem kw_466 : (.code ⟨"PictureInlays", "told", "(Z)Z"⟩ prog_1_method_19_code 2 (some .boolean) : Cond) ∈ pw_T := pw_mem (i := 466) (by decide +kernel) (by decide +kernel)
theorem kw_481 : (.methodLink "PictureInlays" 121 ⟨"PictureInlays$Pieces", "make", "(LPictureInlays$Colours;LPictureInlays$Colours;II)V"⟩ : Cond) ∈ pw_T := pw_mem (i := 481) (by decide +kernel) (by decide +kernel)
theorem kw_482 : (.instanceMethod ⟨"PictureInlays$Pieces", "make", "(LPictureInlays$Colours;LPictureInlays$Colours;II)V"⟩ : Cond) ∈ pw_T := pw_mem (i := 482) (by decide +kernel) (by decide +kernel)
theorem kw_483 : (.selects "PictureInlays$Pieces" ⟨"PictureInlays$Pieces", "make", "(LPictureInlays$Colours;LPictureInlays$Colours;II)V"⟩ ⟨"PictureInlays$Pieces", "make", "(LPictureInlays$Colours;LPictureInlays$Colours;II)V"⟩ : Cond) ∈ pw_T := pw_mem (i := 483) (by decide +kernel) (by decide +kernel)
theorem kw_484 : (.code ⟨"PictureInlays$Pieces", "make", "(LPictureInlays$Colours;LPictureInlays$Colours;II)V"⟩ prog_7_method_2_code 6 none : Cond) ∈ pw_T := pw_mem (i := 484) (by decide +kernel) (by decide +kernel)
theorem kw_485 : (.methodLink "PictureInlays$Pieces" 52 ⟨"PictureInlays$Pieces", "nearestWood", "(LPictureInlays$Colours;ILPictureInlays$Colours;I)I"⟩ : Cond) ∈ pw_T := pw_mem (i := 485) (by decide +kernel) (by decide +kernel)
theorem kw_486 : (.static ⟨"PictureInlays$Pieces", "nearestWood", "(LPictureInlays$Colours;ILPictureInlays$Colours;I)I"⟩ : Cond) ∈ pw_T := pw_mem (i := 486) (by decide +kernel) (by decide +kernel)
theorem kw_487 : (.code ⟨"PictureInlays$Pieces", "nearestWood", "(LPictureInlays$Colours;ILPictureInlays$Colours;I)I"⟩ prog_7_method_3_code 8 (some .int) : Cond) ∈ pw_T := pw_mem (i := 487) (by decide +kernel) (by decide +kernel)
theorem kw_488 : (.methodLink "PictureInlays$Pieces" 63 ⟨"PictureInlays$Colours", "distance", "(ILPictureInlays$Colours;I)I"⟩ : Cond) ∈ pw_T := pw_mem (i := 488) (by decide +kernel) (by decide +kernel)
theorem kw_489 : (.instanceMethod ⟨"PictureInlays$Colours", "distance", "(ILPictureInlays$Colours;I)I"⟩ : Cond) ∈ pw_T := pw_mem (i := 489) (by decide +kernel) (by decide +kernel)
theorem kw_490 : (.selects "PictureInlays$Colours" ⟨"PictureInlays$Colours", "distance", "(ILPictureInlays$Colours;I)I"⟩ ⟨"PictureInlays$Colours", "distance", "(ILPictureInlays$Colours;I)I"⟩ : Cond) ∈ pw_T := pw_mem (i := 490) (by decide +kernel) (by decide +kernel)
theorem kw_491 : (.code ⟨"PictureInlays$Colours", "distance", "(ILPictureInlays$Colours;I)I"⟩ prog_3_method_3_code 4 (some .int) : Cond) ∈ pw_T := pw_mem (i := 491) (by decide +kernel) (by decide +kernel)
theorem kw_492 : (.methodLink "PictureInlays$Colours" 19 ⟨"java/lang/Math", "abs", "(I)I"⟩ : Cond) ∈ pw_T := pw_mem (i := 492) (by decide +kernel) (by decide +kernel)
theorem kw_493 : (.static ⟨"java/lang/Math", "abs", "(I)I"⟩ : Cond) ∈ pw_T := pw_mem (i := 493) (by decide +kernel) (by decide +kernel)
theorem kw_494 : (.code ⟨"java/lang/Math", "abs", "(I)I"⟩ prog_19_method_59_code 1 (some .int) : Cond) ∈ pw_T := pw_mem (i := 494) (by decide +kernel) (by decide +kernel)
theorem kw_495 : (.methodLink "PictureInlays$Pieces" 56 ⟨"PictureInlays$Pieces", "gatherAll", "()V"⟩ : Cond) ∈ pw_T := pw_mem (i := 495) (by decide +kernel) (by decide +kernel)
theorem kw_497 : (.instanceMethod ⟨"PictureInlays$Pieces", "gatherAll", "()V"⟩ : Cond) ∈ pw_T := pw_mem (i := 497) (by decide +kernel) (by decide +kernel)
theorem kw_498 : (.code ⟨"PictureInlays$Pieces", "gatherAll", "()V"⟩ prog_7_method_4_code 2 none : Cond) ∈ pw_T := pw_mem (i := 498) (by decide +kernel) (by decide +kernel)
theorem kw_499 : (.methodLink "PictureInlays$Pieces" 69 ⟨"java/util/Arrays", "fill", "([II)V"⟩ : Cond) ∈ pw_T := pw_mem (i := 499) (by decide +kernel) (by decide +kernel)
theorem kw_500 : (.static ⟨"java/util/Arrays", "fill", "([II)V"⟩ : Cond) ∈ pw_T := pw_mem (i := 500) (by decide +kernel) (by decide +kernel)
theorem kw_501 : (.code ⟨"java/util/Arrays", "fill", "([II)V"⟩ prog_23_method_103_code 4 none : Cond) ∈ pw_T := pw_mem (i := 501) (by decide +kernel) (by decide +kernel)
theorem kw_502 : (.methodLink "PictureInlays$Pieces" 75 ⟨"PictureInlays$Pieces", "gather", "(II)V"⟩ : Cond) ∈ pw_T := pw_mem (i := 502) (by decide +kernel) (by decide +kernel)
theorem kw_504 : (.instanceMethod ⟨"PictureInlays$Pieces", "gather", "(II)V"⟩ : Cond) ∈ pw_T := pw_mem (i := 504) (by decide +kernel) (by decide +kernel)
theorem kw_505 : (.code ⟨"PictureInlays$Pieces", "gather", "(II)V"⟩ prog_7_method_5_code 8 none : Cond) ∈ pw_T := pw_mem (i := 505) (by decide +kernel) (by decide +kernel)
theorem kw_506 : (.methodLink "PictureInlays$Pieces" 79 ⟨"PictureInlays$Pieces", "begin", "(II)V"⟩ : Cond) ∈ pw_T := pw_mem (i := 506) (by decide +kernel) (by decide +kernel)
theorem kw_508 : (.instanceMethod ⟨"PictureInlays$Pieces", "begin", "(II)V"⟩ : Cond) ∈ pw_T := pw_mem (i := 508) (by decide +kernel) (by decide +kernel)
theorem kw_509 : (.code ⟨"PictureInlays$Pieces", "begin", "(II)V"⟩ prog_7_method_6_code 3 none : Cond) ∈ pw_T := pw_mem (i := 509) (by decide +kernel) (by decide +kernel)
theorem kw_510 : (.methodLink "PictureInlays$Pieces" 89 ⟨"PictureInlays$Grid", "columnOf", "(I)I"⟩ : Cond) ∈ pw_T := pw_mem (i := 510) (by decide +kernel) (by decide +kernel)
theorem kw_511 : (.instanceMethod ⟨"PictureInlays$Grid", "columnOf", "(I)I"⟩ : Cond) ∈ pw_T := pw_mem (i := 511) (by decide +kernel) (by decide +kernel)
theorem kw_512 : (.selects "PictureInlays$Grid" ⟨"PictureInlays$Grid", "columnOf", "(I)I"⟩ ⟨"PictureInlays$Grid", "columnOf", "(I)I"⟩ : Cond) ∈ pw_T := pw_mem (i := 512) (by decide +kernel) (by decide +kernel)
theorem kw_513 : (.code ⟨"PictureInlays$Grid", "columnOf", "(I)I"⟩ prog_4_method_3_code 2 (some .int) : Cond) ∈ pw_T := pw_mem (i := 513) (by decide +kernel) (by decide +kernel)
theorem kw_514 : (.methodLink "PictureInlays$Pieces" 93 ⟨"PictureInlays$Grid", "rowOf", "(I)I"⟩ : Cond) ∈ pw_T := pw_mem (i := 514) (by decide +kernel) (by decide +kernel)
theorem kw_515 : (.instanceMethod ⟨"PictureInlays$Grid", "rowOf", "(I)I"⟩ : Cond) ∈ pw_T := pw_mem (i := 515) (by decide +kernel) (by decide +kernel)
theorem kw_516 : (.selects "PictureInlays$Grid" ⟨"PictureInlays$Grid", "rowOf", "(I)I"⟩ ⟨"PictureInlays$Grid", "rowOf", "(I)I"⟩ : Cond) ∈ pw_T := pw_mem (i := 516) (by decide +kernel) (by decide +kernel)
theorem kw_517 : (.code ⟨"PictureInlays$Grid", "rowOf", "(I)I"⟩ prog_4_method_4_code 2 (some .int) : Cond) ∈ pw_T := pw_mem (i := 517) (by decide +kernel) (by decide +kernel)
theorem kw_518 : (.methodLink "PictureInlays$Pieces" 82 ⟨"PictureInlays$Pieces", "include", "(II)V"⟩ : Cond) ∈ pw_T := pw_mem (i := 518) (by decide +kernel) (by decide +kernel)
theorem kw_520 : (.instanceMethod ⟨"PictureInlays$Pieces", "include", "(II)V"⟩ : Cond) ∈ pw_T := pw_mem (i := 520) (by decide +kernel) (by decide +kernel)
theorem kw_521 : (.code ⟨"PictureInlays$Pieces", "include", "(II)V"⟩ prog_7_method_7_code 3 none : Cond) ∈ pw_T := pw_mem (i := 521) (by decide +kernel) (by decide +kernel)
theorem kw_522 : (.methodLink "PictureInlays$Pieces" 96 ⟨"java/lang/Math", "min", "(II)I"⟩ : Cond) ∈ pw_T := pw_mem (i := 522) (by decide +kernel) (by decide +kernel)
theorem kw_523 : (.methodLink "PictureInlays$Pieces" 101 ⟨"java/lang/Math", "max", "(II)I"⟩ : Cond) ∈ pw_T := pw_mem (i := 523) (by decide +kernel) (by decide +kernel)
theorem kw_524 : (.methodLink "PictureInlays$Pieces" 85 ⟨"PictureInlays$Grid", "besideOf", "(II)I"⟩ : Cond) ∈ pw_T := pw_mem (i := 524) (by decide +kernel) (by decide +kernel)
theorem kw_525 : (.instanceMethod ⟨"PictureInlays$Grid", "besideOf", "(II)I"⟩ : Cond) ∈ pw_T := pw_mem (i := 525) (by decide +kernel) (by decide +kernel)
theorem kw_526 : (.selects "PictureInlays$Grid" ⟨"PictureInlays$Grid", "besideOf", "(II)I"⟩ ⟨"PictureInlays$Grid", "besideOf", "(II)I"⟩ : Cond) ∈ pw_T := pw_mem (i := 526) (by decide +kernel) (by decide +kernel)
theorem kw_527 : (.code ⟨"PictureInlays$Grid", "besideOf", "(II)I"⟩ prog_4_method_5_code 3 (some .int) : Cond) ∈ pw_T := pw_mem (i := 527) (by decide +kernel) (by decide +kernel)
theorem kw_528 : (.methodLink "PictureInlays$Pieces" 59 ⟨"PictureInlays$Pieces", "joinSmallest", "(I)Z"⟩ : Cond) ∈ pw_T := pw_mem (i := 528) (by decide +kernel) (by decide +kernel)
theorem kw_530 : (.instanceMethod ⟨"PictureInlays$Pieces", "joinSmallest", "(I)Z"⟩ : Cond) ∈ pw_T := pw_mem (i := 530) (by decide +kernel) (by decide +kernel)
theorem kw_531 : (.code ⟨"PictureInlays$Pieces", "joinSmallest", "(I)Z"⟩ prog_7_method_8_code 5 (some .boolean) : Cond) ∈ pw_T := pw_mem (i := 531) (by decide +kernel) (by decide +kernel)
theorem kw_532 : (.methodLink "PictureInlays$Pieces" 104 ⟨"PictureInlays$Pieces", "smallest", "()I"⟩ : Cond) ∈ pw_T := pw_mem (i := 532) (by decide +kernel) (by decide +kernel)
theorem kw_534 : (.instanceMethod ⟨"PictureInlays$Pieces", "smallest", "()I"⟩ : Cond) ∈ pw_T := pw_mem (i := 534) (by decide +kernel) (by decide +kernel)
theorem kw_535 : (.code ⟨"PictureInlays$Pieces", "smallest", "()I"⟩ prog_7_method_9_code 3 (some .int) : Cond) ∈ pw_T := pw_mem (i := 535) (by decide +kernel) (by decide +kernel)
theorem kw_536 : (.methodLink "PictureInlays$Pieces" 108 ⟨"PictureInlays$Pieces", "closestTo", "(I)I"⟩ : Cond) ∈ pw_T := pw_mem (i := 536) (by decide +kernel) (by decide +kernel)
theorem kw_538 : (.instanceMethod ⟨"PictureInlays$Pieces", "closestTo", "(I)I"⟩ : Cond) ∈ pw_T := pw_mem (i := 538) (by decide +kernel) (by decide +kernel)
theorem kw_539 : (.code ⟨"PictureInlays$Pieces", "closestTo", "(I)I"⟩ prog_7_method_10_code 4 (some .int) : Cond) ∈ pw_T := pw_mem (i := 539) (by decide +kernel) (by decide +kernel)
theorem kw_540 : (.methodLink "PictureInlays$Pieces" 114 ⟨"PictureInlays$Pieces", "countSidesOf", "(I)V"⟩ : Cond) ∈ pw_T := pw_mem (i := 540) (by decide +kernel) (by decide +kernel)
theorem kw_542 : (.instanceMethod ⟨"PictureInlays$Pieces", "countSidesOf", "(I)V"⟩ : Cond) ∈ pw_T := pw_mem (i := 542) (by decide +kernel) (by decide +kernel)
theorem kw_543 : (.code ⟨"PictureInlays$Pieces", "countSidesOf", "(I)V"⟩ prog_7_method_11_code 3 none : Cond) ∈ pw_T := pw_mem (i := 543) (by decide +kernel) (by decide +kernel)
theorem kw_544 : (.methodLink "PictureInlays$Pieces" 118 ⟨"PictureInlays$Pieces", "countSidesAt", "(I)V"⟩ : Cond) ∈ pw_T := pw_mem (i := 544) (by decide +kernel) (by decide +kernel)
theorem kw_546 : (.instanceMethod ⟨"PictureInlays$Pieces", "countSidesAt", "(I)V"⟩ : Cond) ∈ pw_T := pw_mem (i := 546) (by decide +kernel) (by decide +kernel)
theorem kw_547 : (.code ⟨"PictureInlays$Pieces", "countSidesAt", "(I)V"⟩ prog_7_method_12_code 4 none : Cond) ∈ pw_T := pw_mem (i := 547) (by decide +kernel) (by decide +kernel)
theorem kw_548 : (.methodLink "PictureInlays$Pieces" 111 ⟨"PictureInlays$Pieces", "woodOf", "(I)I"⟩ : Cond) ∈ pw_T := pw_mem (i := 548) (by decide +kernel) (by decide +kernel)
theorem kw_549 : (.instanceMethod ⟨"PictureInlays$Pieces", "woodOf", "(I)I"⟩ : Cond) ∈ pw_T := pw_mem (i := 549) (by decide +kernel) (by decide +kernel)
theorem kw_550 : (.selects "PictureInlays$Pieces" ⟨"PictureInlays$Pieces", "woodOf", "(I)I"⟩ ⟨"PictureInlays$Pieces", "woodOf", "(I)I"⟩ : Cond) ∈ pw_T := pw_mem (i := 550) (by decide +kernel) (by decide +kernel)
theorem kw_551 : (.code ⟨"PictureInlays$Pieces", "woodOf", "(I)I"⟩ prog_7_method_15_code 2 (some .int) : Cond) ∈ pw_T := pw_mem (i := 551) (by decide +kernel) (by decide +kernel)
theorem kw_552 : (.methodLink "PictureInlays" 128 ⟨"PictureInlays$Ranking", "rank", "(I)V"⟩ : Cond) ∈ pw_T := pw_mem (i := 552) (by decide +kernel) (by decide +kernel)
theorem kw_553 : (.instanceMethod ⟨"PictureInlays$Ranking", "rank", "(I)V"⟩ : Cond) ∈ pw_T := pw_mem (i := 553) (by decide +kernel) (by decide +kernel)
theorem kw_554 : (.sameMethod "PictureInlays$Ranking" "PictureInlays$Ranking" "rank" "(I)V" : Cond) ∈ pw_T := pw_mem (i := 554) (by decide +kernel) (by decide +kernel)
theorem kw_555 : (.selects "PictureInlays$Brightest" ⟨"PictureInlays$Ranking", "rank", "(I)V"⟩ ⟨"PictureInlays$Ranking", "rank", "(I)V"⟩ : Cond) ∈ pw_T := pw_mem (i := 555) (by decide +kernel) (by decide +kernel)
theorem kw_556 : (.selects "PictureInlays$Highest" ⟨"PictureInlays$Ranking", "rank", "(I)V"⟩ ⟨"PictureInlays$Ranking", "rank", "(I)V"⟩ : Cond) ∈ pw_T := pw_mem (i := 556) (by decide +kernel) (by decide +kernel)
theorem kw_557 : (.selects "PictureInlays$Laying" ⟨"PictureInlays$Ranking", "rank", "(I)V"⟩ ⟨"PictureInlays$Ranking", "rank", "(I)V"⟩ : Cond) ∈ pw_T := pw_mem (i := 557) (by decide +kernel) (by decide +kernel)
theorem kw_558 : (.code ⟨"PictureInlays$Ranking", "rank", "(I)V"⟩ prog_8_method_3_code 4 none : Cond) ∈ pw_T := pw_mem (i := 558) (by decide +kernel) (by decide +kernel)
theorem kw_559 : (.methodLink "PictureInlays$Ranking" 13 ⟨"PictureInlays$Ranking", "compare", "(II)I"⟩ : Cond) ∈ pw_T := pw_mem (i := 559) (by decide +kernel) (by decide +kernel)
theorem kw_561 : (.sameMethod "PictureInlays$Ranking" "PictureInlays$Ranking" "compare" "(II)I" : Cond) ∈ pw_T := pw_mem (i := 561) (by decide +kernel) (by decide +kernel)
theorem kw_562 : (.selects "PictureInlays$Brightest" ⟨"PictureInlays$Ranking", "compare", "(II)I"⟩ ⟨"PictureInlays$Brightest", "compare", "(II)I"⟩ : Cond) ∈ pw_T := pw_mem (i := 562) (by decide +kernel) (by decide +kernel)
theorem kw_563 : (.instanceMethod ⟨"PictureInlays$Brightest", "compare", "(II)I"⟩ : Cond) ∈ pw_T := pw_mem (i := 563) (by decide +kernel) (by decide +kernel)
theorem kw_564 : (.code ⟨"PictureInlays$Brightest", "compare", "(II)I"⟩ prog_2_method_2_code 3 (some .int) : Cond) ∈ pw_T := pw_mem (i := 564) (by decide +kernel) (by decide +kernel)
theorem kw_565 : (.methodLink "PictureInlays$Brightest" 13 ⟨"PictureInlays$Colours", "brightness", "(I)I"⟩ : Cond) ∈ pw_T := pw_mem (i := 565) (by decide +kernel) (by decide +kernel)
theorem kw_566 : (.instanceMethod ⟨"PictureInlays$Colours", "brightness", "(I)I"⟩ : Cond) ∈ pw_T := pw_mem (i := 566) (by decide +kernel) (by decide +kernel)
theorem kw_567 : (.selects "PictureInlays$Colours" ⟨"PictureInlays$Colours", "brightness", "(I)I"⟩ ⟨"PictureInlays$Colours", "brightness", "(I)I"⟩ : Cond) ∈ pw_T := pw_mem (i := 567) (by decide +kernel) (by decide +kernel)
theorem kw_568 : (.code ⟨"PictureInlays$Colours", "brightness", "(I)I"⟩ prog_3_method_4_code 2 (some .int) : Cond) ∈ pw_T := pw_mem (i := 568) (by decide +kernel) (by decide +kernel)
theorem kw_569 : (.methodLink "PictureInlays$Brightest" 19 ⟨"java/lang/Integer", "compare", "(II)I"⟩ : Cond) ∈ pw_T := pw_mem (i := 569) (by decide +kernel) (by decide +kernel)
theorem kw_570 : (.static ⟨"java/lang/Integer", "compare", "(II)I"⟩ : Cond) ∈ pw_T := pw_mem (i := 570) (by decide +kernel) (by decide +kernel)
theorem kw_571 : (.code ⟨"java/lang/Integer", "compare", "(II)I"⟩ prog_18_method_40_code 2 (some .int) : Cond) ∈ pw_T := pw_mem (i := 571) (by decide +kernel) (by decide +kernel)
theorem kw_572 : (.selects "PictureInlays$Highest" ⟨"PictureInlays$Ranking", "compare", "(II)I"⟩ ⟨"PictureInlays$Highest", "compare", "(II)I"⟩ : Cond) ∈ pw_T := pw_mem (i := 572) (by decide +kernel) (by decide +kernel)
theorem kw_573 : (.instanceMethod ⟨"PictureInlays$Highest", "compare", "(II)I"⟩ : Cond) ∈ pw_T := pw_mem (i := 573) (by decide +kernel) (by decide +kernel)
theorem kw_574 : (.code ⟨"PictureInlays$Highest", "compare", "(II)I"⟩ prog_5_method_2_code 3 (some .int) : Cond) ∈ pw_T := pw_mem (i := 574) (by decide +kernel) (by decide +kernel)
theorem kw_575 : (.methodLink "PictureInlays$Highest" 13 ⟨"PictureInlays$Pieces", "rowsOf", "(I)I"⟩ : Cond) ∈ pw_T := pw_mem (i := 575) (by decide +kernel) (by decide +kernel)
theorem kw_576 : (.instanceMethod ⟨"PictureInlays$Pieces", "rowsOf", "(I)I"⟩ : Cond) ∈ pw_T := pw_mem (i := 576) (by decide +kernel) (by decide +kernel)
theorem kw_577 : (.selects "PictureInlays$Pieces" ⟨"PictureInlays$Pieces", "rowsOf", "(I)I"⟩ ⟨"PictureInlays$Pieces", "rowsOf", "(I)I"⟩ : Cond) ∈ pw_T := pw_mem (i := 577) (by decide +kernel) (by decide +kernel)
theorem kw_578 : (.code ⟨"PictureInlays$Pieces", "rowsOf", "(I)I"⟩ prog_7_method_21_code 2 (some .int) : Cond) ∈ pw_T := pw_mem (i := 578) (by decide +kernel) (by decide +kernel)
theorem kw_579 : (.methodLink "PictureInlays$Pieces" 124 ⟨"PictureInlays$Pieces", "leastYOf", "(I)I"⟩ : Cond) ∈ pw_T := pw_mem (i := 579) (by decide +kernel) (by decide +kernel)
theorem kw_580 : (.instanceMethod ⟨"PictureInlays$Pieces", "leastYOf", "(I)I"⟩ : Cond) ∈ pw_T := pw_mem (i := 580) (by decide +kernel) (by decide +kernel)
theorem kw_581 : (.selects "PictureInlays$Pieces" ⟨"PictureInlays$Pieces", "leastYOf", "(I)I"⟩ ⟨"PictureInlays$Pieces", "leastYOf", "(I)I"⟩ : Cond) ∈ pw_T := pw_mem (i := 581) (by decide +kernel) (by decide +kernel)
theorem kw_582 : (.code ⟨"PictureInlays$Pieces", "leastYOf", "(I)I"⟩ prog_7_method_19_code 2 (some .int) : Cond) ∈ pw_T := pw_mem (i := 582) (by decide +kernel) (by decide +kernel)
theorem kw_583 : (.methodLink "PictureInlays$Highest" 19 ⟨"java/lang/Integer", "compare", "(II)I"⟩ : Cond) ∈ pw_T := pw_mem (i := 583) (by decide +kernel) (by decide +kernel)
theorem kw_584 : (.methodLink "PictureInlays$Highest" 25 ⟨"PictureInlays$Pieces", "columnsOf", "(I)I"⟩ : Cond) ∈ pw_T := pw_mem (i := 584) (by decide +kernel) (by decide +kernel)
theorem kw_585 : (.instanceMethod ⟨"PictureInlays$Pieces", "columnsOf", "(I)I"⟩ : Cond) ∈ pw_T := pw_mem (i := 585) (by decide +kernel) (by decide +kernel)
theorem kw_586 : (.selects "PictureInlays$Pieces" ⟨"PictureInlays$Pieces", "columnsOf", "(I)I"⟩ ⟨"PictureInlays$Pieces", "columnsOf", "(I)I"⟩ : Cond) ∈ pw_T := pw_mem (i := 586) (by decide +kernel) (by decide +kernel)
theorem kw_587 : (.code ⟨"PictureInlays$Pieces", "columnsOf", "(I)I"⟩ prog_7_method_20_code 2 (some .int) : Cond) ∈ pw_T := pw_mem (i := 587) (by decide +kernel) (by decide +kernel)
theorem kw_588 : (.selects "PictureInlays$Laying" ⟨"PictureInlays$Ranking", "compare", "(II)I"⟩ ⟨"PictureInlays$Laying", "compare", "(II)I"⟩ : Cond) ∈ pw_T := pw_mem (i := 588) (by decide +kernel) (by decide +kernel)
theorem kw_589 : (.instanceMethod ⟨"PictureInlays$Laying", "compare", "(II)I"⟩ : Cond) ∈ pw_T := pw_mem (i := 589) (by decide +kernel) (by decide +kernel)
theorem kw_590 : (.code ⟨"PictureInlays$Laying", "compare", "(II)I"⟩ prog_6_method_2_code 3 (some .int) : Cond) ∈ pw_T := pw_mem (i := 590) (by decide +kernel) (by decide +kernel)
theorem kw_591 : (.methodLink "PictureInlays$Laying" 13 ⟨"PictureInlays$Pieces", "isAtEdge", "(I)Z"⟩ : Cond) ∈ pw_T := pw_mem (i := 591) (by decide +kernel) (by decide +kernel)
theorem kw_592 : (.instanceMethod ⟨"PictureInlays$Pieces", "isAtEdge", "(I)Z"⟩ : Cond) ∈ pw_T := pw_mem (i := 592) (by decide +kernel) (by decide +kernel)
theorem kw_593 : (.selects "PictureInlays$Pieces" ⟨"PictureInlays$Pieces", "isAtEdge", "(I)Z"⟩ ⟨"PictureInlays$Pieces", "isAtEdge", "(I)Z"⟩ : Cond) ∈ pw_T := pw_mem (i := 593) (by decide +kernel) (by decide +kernel)
theorem kw_594 : (.code ⟨"PictureInlays$Pieces", "isAtEdge", "(I)Z"⟩ prog_7_method_22_code 2 (some .boolean) : Cond) ∈ pw_T := pw_mem (i := 594) (by decide +kernel) (by decide +kernel)
theorem kw_595 : (.methodLink "PictureInlays$Laying" 19 ⟨"PictureInlays$Pieces", "sizeOf", "(I)I"⟩ : Cond) ∈ pw_T := pw_mem (i := 595) (by decide +kernel) (by decide +kernel)
theorem kw_596 : (.instanceMethod ⟨"PictureInlays$Pieces", "sizeOf", "(I)I"⟩ : Cond) ∈ pw_T := pw_mem (i := 596) (by decide +kernel) (by decide +kernel)
theorem kw_597 : (.selects "PictureInlays$Pieces" ⟨"PictureInlays$Pieces", "sizeOf", "(I)I"⟩ ⟨"PictureInlays$Pieces", "sizeOf", "(I)I"⟩ : Cond) ∈ pw_T := pw_mem (i := 597) (by decide +kernel) (by decide +kernel)
theorem kw_598 : (.code ⟨"PictureInlays$Pieces", "sizeOf", "(I)I"⟩ prog_7_method_16_code 2 (some .int) : Cond) ∈ pw_T := pw_mem (i := 598) (by decide +kernel) (by decide +kernel)
theorem kw_599 : (.methodLink "PictureInlays$Laying" 23 ⟨"java/lang/Integer", "compare", "(II)I"⟩ : Cond) ∈ pw_T := pw_mem (i := 599) (by decide +kernel) (by decide +kernel)
theorem kw_608 : (.methodLink "PictureInlays" 133 ⟨"PictureInlays", "needParted", "()V"⟩ : Cond) ∈ pw_T := pw_mem (i := 608) (by decide +kernel) (by decide +kernel)
theorem kw_610 : (.instanceMethod ⟨"PictureInlays", "needParted", "()V"⟩ : Cond) ∈ pw_T := pw_mem (i := 610) (by decide +kernel) (by decide +kernel)
theorem kw_611 : (.code ⟨"PictureInlays", "needParted", "()V"⟩ prog_1_method_20_code 1 none : Cond) ∈ pw_T := pw_mem (i := 611) (by decide +kernel) (by decide +kernel)
theorem kw_612 : (.classLink "PictureInlays" 217 "java/lang/IllegalStateException" : Cond) ∈ pw_T := pw_mem (i := 612) (by decide +kernel) (by decide +kernel)
theorem kw_613 : (.instantiable "java/lang/IllegalStateException" 6 : Cond) ∈ pw_T := pw_mem (i := 613) (by decide +kernel) (by decide +kernel)
theorem kw_622 : (.methodLink "PictureInlays" 221 ⟨"java/lang/IllegalStateException", "<init>", "(Ljava/lang/String;)V"⟩ : Cond) ∈ pw_T := pw_mem (i := 622) (by decide +kernel) (by decide +kernel)
theorem kw_628 : (.methodLink "PictureInlays" 136 ⟨"PictureInlays$Pieces", "numberOf", "(II)I"⟩ : Cond) ∈ pw_T := pw_mem (i := 628) (by decide +kernel) (by decide +kernel)
theorem kw_629 : (.instanceMethod ⟨"PictureInlays$Pieces", "numberOf", "(II)I"⟩ : Cond) ∈ pw_T := pw_mem (i := 629) (by decide +kernel) (by decide +kernel)
theorem kw_630 : (.selects "PictureInlays$Pieces" ⟨"PictureInlays$Pieces", "numberOf", "(II)I"⟩ ⟨"PictureInlays$Pieces", "numberOf", "(II)I"⟩ : Cond) ∈ pw_T := pw_mem (i := 630) (by decide +kernel) (by decide +kernel)
theorem kw_631 : (.code ⟨"PictureInlays$Pieces", "numberOf", "(II)I"⟩ prog_7_method_14_code 4 (some .int) : Cond) ∈ pw_T := pw_mem (i := 631) (by decide +kernel) (by decide +kernel)
theorem kw_632 : (.methodLink "PictureInlays$Pieces" 121 ⟨"PictureInlays$Grid", "placeOf", "(II)I"⟩ : Cond) ∈ pw_T := pw_mem (i := 632) (by decide +kernel) (by decide +kernel)
theorem kw_640 : (.methodLink "PictureInlays" 139 ⟨"PictureInlays", "needPiece", "(I)V"⟩ : Cond) ∈ pw_T := pw_mem (i := 640) (by decide +kernel) (by decide +kernel)
theorem kw_642 : (.instanceMethod ⟨"PictureInlays", "needPiece", "(I)V"⟩ : Cond) ∈ pw_T := pw_mem (i := 642) (by decide +kernel) (by decide +kernel)
theorem kw_643 : (.code ⟨"PictureInlays", "needPiece", "(I)V"⟩ prog_1_method_22_code 2 none : Cond) ∈ pw_T := pw_mem (i := 643) (by decide +kernel) (by decide +kernel)
theorem kw_644 : (.methodLink "PictureInlays" 142 ⟨"PictureInlays$Pieces", "woodOf", "(I)I"⟩ : Cond) ∈ pw_T := pw_mem (i := 644) (by decide +kernel) (by decide +kernel)
theorem kw_645 : (.methodLink "PictureInlays" 146 ⟨"PictureInlays$Pieces", "sizeOf", "(I)I"⟩ : Cond) ∈ pw_T := pw_mem (i := 645) (by decide +kernel) (by decide +kernel)
theorem kw_646 : (.methodLink "PictureInlays" 149 ⟨"PictureInlays$Pieces", "leastXOf", "(I)I"⟩ : Cond) ∈ pw_T := pw_mem (i := 646) (by decide +kernel) (by decide +kernel)
theorem kw_647 : (.instanceMethod ⟨"PictureInlays$Pieces", "leastXOf", "(I)I"⟩ : Cond) ∈ pw_T := pw_mem (i := 647) (by decide +kernel) (by decide +kernel)
theorem kw_648 : (.selects "PictureInlays$Pieces" ⟨"PictureInlays$Pieces", "leastXOf", "(I)I"⟩ ⟨"PictureInlays$Pieces", "leastXOf", "(I)I"⟩ : Cond) ∈ pw_T := pw_mem (i := 648) (by decide +kernel) (by decide +kernel)
theorem kw_649 : (.code ⟨"PictureInlays$Pieces", "leastXOf", "(I)I"⟩ prog_7_method_18_code 2 (some .int) : Cond) ∈ pw_T := pw_mem (i := 649) (by decide +kernel) (by decide +kernel)
theorem kw_650 : (.methodLink "PictureInlays" 152 ⟨"PictureInlays$Pieces", "leastYOf", "(I)I"⟩ : Cond) ∈ pw_T := pw_mem (i := 650) (by decide +kernel) (by decide +kernel)
theorem kw_651 : (.methodLink "PictureInlays" 155 ⟨"PictureInlays$Pieces", "columnsOf", "(I)I"⟩ : Cond) ∈ pw_T := pw_mem (i := 651) (by decide +kernel) (by decide +kernel)
theorem kw_652 : (.methodLink "PictureInlays" 158 ⟨"PictureInlays$Pieces", "rowsOf", "(I)I"⟩ : Cond) ∈ pw_T := pw_mem (i := 652) (by decide +kernel) (by decide +kernel)
theorem kw_653 : (.methodLink "PictureInlays" 161 ⟨"PictureInlays$Pieces", "isAtEdge", "(I)Z"⟩ : Cond) ∈ pw_T := pw_mem (i := 653) (by decide +kernel) (by decide +kernel)
theorem kw_661 : (.methodLink "PictureInlays" 165 ⟨"PictureInlays$Pieces", "sidesBetween", "(II)I"⟩ : Cond) ∈ pw_T := pw_mem (i := 661) (by decide +kernel) (by decide +kernel)
theorem kw_662 : (.instanceMethod ⟨"PictureInlays$Pieces", "sidesBetween", "(II)I"⟩ : Cond) ∈ pw_T := pw_mem (i := 662) (by decide +kernel) (by decide +kernel)
theorem kw_663 : (.selects "PictureInlays$Pieces" ⟨"PictureInlays$Pieces", "sidesBetween", "(II)I"⟩ ⟨"PictureInlays$Pieces", "sidesBetween", "(II)I"⟩ : Cond) ∈ pw_T := pw_mem (i := 663) (by decide +kernel) (by decide +kernel)
theorem kw_664 : (.code ⟨"PictureInlays$Pieces", "sidesBetween", "(II)I"⟩ prog_7_method_13_code 3 (some .int) : Cond) ∈ pw_T := pw_mem (i := 664) (by decide +kernel) (by decide +kernel)
theorem kw_672 : (.methodLink "PictureInlays" 168 ⟨"PictureInlays$Walk", "round", "(I)V"⟩ : Cond) ∈ pw_T := pw_mem (i := 672) (by decide +kernel) (by decide +kernel)
theorem kw_673 : (.instanceMethod ⟨"PictureInlays$Walk", "round", "(I)V"⟩ : Cond) ∈ pw_T := pw_mem (i := 673) (by decide +kernel) (by decide +kernel)
theorem kw_674 : (.selects "PictureInlays$Walk" ⟨"PictureInlays$Walk", "round", "(I)V"⟩ ⟨"PictureInlays$Walk", "round", "(I)V"⟩ : Cond) ∈ pw_T := pw_mem (i := 674) (by decide +kernel) (by decide +kernel)
theorem kw_675 : (.code ⟨"PictureInlays$Walk", "round", "(I)V"⟩ prog_11_method_2_code 5 none : Cond) ∈ pw_T := pw_mem (i := 675) (by decide +kernel) (by decide +kernel)
theorem kw_676 : (.methodLink "PictureInlays$Walk" 49 ⟨"PictureInlays$Pieces", "firstXOf", "(I)I"⟩ : Cond) ∈ pw_T := pw_mem (i := 676) (by decide +kernel) (by decide +kernel)
theorem kw_677 : (.instanceMethod ⟨"PictureInlays$Pieces", "firstXOf", "(I)I"⟩ : Cond) ∈ pw_T := pw_mem (i := 677) (by decide +kernel) (by decide +kernel)
theorem kw_678 : (.selects "PictureInlays$Pieces" ⟨"PictureInlays$Pieces", "firstXOf", "(I)I"⟩ ⟨"PictureInlays$Pieces", "firstXOf", "(I)I"⟩ : Cond) ∈ pw_T := pw_mem (i := 678) (by decide +kernel) (by decide +kernel)
theorem kw_679 : (.code ⟨"PictureInlays$Pieces", "firstXOf", "(I)I"⟩ prog_7_method_17_code 2 (some .int) : Cond) ∈ pw_T := pw_mem (i := 679) (by decide +kernel) (by decide +kernel)
theorem kw_680 : (.methodLink "PictureInlays$Walk" 55 ⟨"PictureInlays$Pieces", "leastYOf", "(I)I"⟩ : Cond) ∈ pw_T := pw_mem (i := 680) (by decide +kernel) (by decide +kernel)
theorem kw_681 : (.methodLink "PictureInlays$Walk" 58 ⟨"PictureInlays$Walk", "noteCorner", "()V"⟩ : Cond) ∈ pw_T := pw_mem (i := 681) (by decide +kernel) (by decide +kernel)
theorem kw_683 : (.instanceMethod ⟨"PictureInlays$Walk", "noteCorner", "()V"⟩ : Cond) ∈ pw_T := pw_mem (i := 683) (by decide +kernel) (by decide +kernel)
theorem kw_684 : (.code ⟨"PictureInlays$Walk", "noteCorner", "()V"⟩ prog_11_method_5_code 1 none : Cond) ∈ pw_T := pw_mem (i := 684) (by decide +kernel) (by decide +kernel)
theorem kw_687 : (.methodLink "PictureInlays$Walk" 67 ⟨"PictureInlays$Walk", "turn", "(I)V"⟩ : Cond) ∈ pw_T := pw_mem (i := 687) (by decide +kernel) (by decide +kernel)
theorem kw_689 : (.instanceMethod ⟨"PictureInlays$Walk", "turn", "(I)V"⟩ : Cond) ∈ pw_T := pw_mem (i := 689) (by decide +kernel) (by decide +kernel)
theorem kw_690 : (.code ⟨"PictureInlays$Walk", "turn", "(I)V"⟩ prog_11_method_3_code 3 none : Cond) ∈ pw_T := pw_mem (i := 690) (by decide +kernel) (by decide +kernel)
theorem kw_691 : (.methodLink "PictureInlays$Walk" 71 ⟨"PictureInlays$Walk", "isAhead", "(II)Z"⟩ : Cond) ∈ pw_T := pw_mem (i := 691) (by decide +kernel) (by decide +kernel)
theorem kw_693 : (.instanceMethod ⟨"PictureInlays$Walk", "isAhead", "(II)Z"⟩ : Cond) ∈ pw_T := pw_mem (i := 693) (by decide +kernel) (by decide +kernel)
theorem kw_694 : (.code ⟨"PictureInlays$Walk", "isAhead", "(II)Z"⟩ prog_11_method_4_code 3 (some .boolean) : Cond) ∈ pw_T := pw_mem (i := 694) (by decide +kernel) (by decide +kernel)
theorem kw_699 : (.methodLink "PictureInlays$Walk" 81 ⟨"PictureInlays$Pieces", "numberOf", "(II)I"⟩ : Cond) ∈ pw_T := pw_mem (i := 699) (by decide +kernel) (by decide +kernel)
theorem kw_707 : (.methodLink "PictureInlays" 174 ⟨"PictureInlays$Walk", "cornerX", "(I)I"⟩ : Cond) ∈ pw_T := pw_mem (i := 707) (by decide +kernel) (by decide +kernel)
theorem kw_708 : (.instanceMethod ⟨"PictureInlays$Walk", "cornerX", "(I)I"⟩ : Cond) ∈ pw_T := pw_mem (i := 708) (by decide +kernel) (by decide +kernel)
theorem kw_709 : (.selects "PictureInlays$Walk" ⟨"PictureInlays$Walk", "cornerX", "(I)I"⟩ ⟨"PictureInlays$Walk", "cornerX", "(I)I"⟩ : Cond) ∈ pw_T := pw_mem (i := 709) (by decide +kernel) (by decide +kernel)
theorem kw_710 : (.code ⟨"PictureInlays$Walk", "cornerX", "(I)I"⟩ prog_11_method_6_code 2 (some .int) : Cond) ∈ pw_T := pw_mem (i := 710) (by decide +kernel) (by decide +kernel)
theorem kw_711 : (.methodLink "PictureInlays" 177 ⟨"PictureInlays$Walk", "cornerY", "(I)I"⟩ : Cond) ∈ pw_T := pw_mem (i := 711) (by decide +kernel) (by decide +kernel)
theorem kw_712 : (.instanceMethod ⟨"PictureInlays$Walk", "cornerY", "(I)I"⟩ : Cond) ∈ pw_T := pw_mem (i := 712) (by decide +kernel) (by decide +kernel)
theorem kw_713 : (.selects "PictureInlays$Walk" ⟨"PictureInlays$Walk", "cornerY", "(I)I"⟩ ⟨"PictureInlays$Walk", "cornerY", "(I)I"⟩ : Cond) ∈ pw_T := pw_mem (i := 713) (by decide +kernel) (by decide +kernel)
theorem kw_714 : (.code ⟨"PictureInlays$Walk", "cornerY", "(I)I"⟩ prog_11_method_7_code 2 (some .int) : Cond) ∈ pw_T := pw_mem (i := 714) (by decide +kernel) (by decide +kernel)
theorem kw_722 : (.methodLink "PictureInlays" 180 ⟨"PictureInlays$Tool", "cover", "(II)V"⟩ : Cond) ∈ pw_T := pw_mem (i := 722) (by decide +kernel) (by decide +kernel)
theorem kw_723 : (.instanceMethod ⟨"PictureInlays$Tool", "cover", "(II)V"⟩ : Cond) ∈ pw_T := pw_mem (i := 723) (by decide +kernel) (by decide +kernel)
theorem kw_724 : (.selects "PictureInlays$Tool" ⟨"PictureInlays$Tool", "cover", "(II)V"⟩ ⟨"PictureInlays$Tool", "cover", "(II)V"⟩ : Cond) ∈ pw_T := pw_mem (i := 724) (by decide +kernel) (by decide +kernel)
theorem kw_725 : (.code ⟨"PictureInlays$Tool", "cover", "(II)V"⟩ prog_10_method_2_code 5 none : Cond) ∈ pw_T := pw_mem (i := 725) (by decide +kernel) (by decide +kernel)
theorem kw_726 : (.methodLink "PictureInlays$Tool" 38 ⟨"PictureInlays$Tool", "fits", "(IIII)Z"⟩ : Cond) ∈ pw_T := pw_mem (i := 726) (by decide +kernel) (by decide +kernel)
theorem kw_728 : (.instanceMethod ⟨"PictureInlays$Tool", "fits", "(IIII)Z"⟩ : Cond) ∈ pw_T := pw_mem (i := 728) (by decide +kernel) (by decide +kernel)
theorem kw_729 : (.code ⟨"PictureInlays$Tool", "fits", "(IIII)Z"⟩ prog_10_method_3_code 7 (some .boolean) : Cond) ∈ pw_T := pw_mem (i := 729) (by decide +kernel) (by decide +kernel)
theorem kw_730 : (.methodLink "PictureInlays$Tool" 46 ⟨"PictureInlays$Pieces", "numberOf", "(II)I"⟩ : Cond) ∈ pw_T := pw_mem (i := 730) (by decide +kernel) (by decide +kernel)
theorem kw_731 : (.methodLink "PictureInlays$Tool" 42 ⟨"PictureInlays$Tool", "mark", "(III)V"⟩ : Cond) ∈ pw_T := pw_mem (i := 731) (by decide +kernel) (by decide +kernel)
theorem kw_733 : (.instanceMethod ⟨"PictureInlays$Tool", "mark", "(III)V"⟩ : Cond) ∈ pw_T := pw_mem (i := 733) (by decide +kernel) (by decide +kernel)
theorem kw_734 : (.code ⟨"PictureInlays$Tool", "mark", "(III)V"⟩ prog_10_method_4_code 7 none : Cond) ∈ pw_T := pw_mem (i := 734) (by decide +kernel) (by decide +kernel)
theorem kw_735 : (.methodLink "PictureInlays$Tool" 52 ⟨"PictureInlays$Grid", "placeOf", "(II)I"⟩ : Cond) ∈ pw_T := pw_mem (i := 735) (by decide +kernel) (by decide +kernel)
theorem kw_743 : (.methodLink "PictureInlays" 186 ⟨"PictureInlays$Tool", "covers", "(II)Z"⟩ : Cond) ∈ pw_T := pw_mem (i := 743) (by decide +kernel) (by decide +kernel)
theorem kw_744 : (.instanceMethod ⟨"PictureInlays$Tool", "covers", "(II)Z"⟩ : Cond) ∈ pw_T := pw_mem (i := 744) (by decide +kernel) (by decide +kernel)
theorem kw_745 : (.selects "PictureInlays$Tool" ⟨"PictureInlays$Tool", "covers", "(II)Z"⟩ ⟨"PictureInlays$Tool", "covers", "(II)Z"⟩ : Cond) ∈ pw_T := pw_mem (i := 745) (by decide +kernel) (by decide +kernel)
theorem kw_746 : (.code ⟨"PictureInlays$Tool", "covers", "(II)Z"⟩ prog_10_method_5_code 4 (some .boolean) : Cond) ∈ pw_T := pw_mem (i := 746) (by decide +kernel) (by decide +kernel)
theorem kw_754 : (.methodLink "PictureInlays" 190 ⟨"PictureInlays$Ranking", "ranked", "(I)I"⟩ : Cond) ∈ pw_T := pw_mem (i := 754) (by decide +kernel) (by decide +kernel)
theorem kw_755 : (.instanceMethod ⟨"PictureInlays$Ranking", "ranked", "(I)I"⟩ : Cond) ∈ pw_T := pw_mem (i := 755) (by decide +kernel) (by decide +kernel)
theorem kw_756 : (.sameMethod "PictureInlays$Ranking" "PictureInlays$Ranking" "ranked" "(I)I" : Cond) ∈ pw_T := pw_mem (i := 756) (by decide +kernel) (by decide +kernel)
theorem kw_757 : (.selects "PictureInlays$Brightest" ⟨"PictureInlays$Ranking", "ranked", "(I)I"⟩ ⟨"PictureInlays$Ranking", "ranked", "(I)I"⟩ : Cond) ∈ pw_T := pw_mem (i := 757) (by decide +kernel) (by decide +kernel)
theorem kw_758 : (.selects "PictureInlays$Highest" ⟨"PictureInlays$Ranking", "ranked", "(I)I"⟩ ⟨"PictureInlays$Ranking", "ranked", "(I)I"⟩ : Cond) ∈ pw_T := pw_mem (i := 758) (by decide +kernel) (by decide +kernel)
theorem kw_759 : (.selects "PictureInlays$Laying" ⟨"PictureInlays$Ranking", "ranked", "(I)I"⟩ ⟨"PictureInlays$Ranking", "ranked", "(I)I"⟩ : Cond) ∈ pw_T := pw_mem (i := 759) (by decide +kernel) (by decide +kernel)
theorem kw_760 : (.code ⟨"PictureInlays$Ranking", "ranked", "(I)I"⟩ prog_8_method_4_code 2 (some .int) : Cond) ∈ pw_T := pw_mem (i := 760) (by decide +kernel) (by decide +kernel)
theorem kw_768 : (.methodLink "PictureInlays" 193 ⟨"PictureInlays$Sheet", "fill", "(II)I"⟩ : Cond) ∈ pw_T := pw_mem (i := 768) (by decide +kernel) (by decide +kernel)
theorem kw_769 : (.instanceMethod ⟨"PictureInlays$Sheet", "fill", "(II)I"⟩ : Cond) ∈ pw_T := pw_mem (i := 769) (by decide +kernel) (by decide +kernel)
theorem kw_770 : (.selects "PictureInlays$Sheet" ⟨"PictureInlays$Sheet", "fill", "(II)I"⟩ ⟨"PictureInlays$Sheet", "fill", "(II)I"⟩ : Cond) ∈ pw_T := pw_mem (i := 770) (by decide +kernel) (by decide +kernel)
theorem kw_771 : (.code ⟨"PictureInlays$Sheet", "fill", "(II)I"⟩ prog_9_method_2_code 7 (some .int) : Cond) ∈ pw_T := pw_mem (i := 771) (by decide +kernel) (by decide +kernel)
theorem kw_772 : (.methodLink "PictureInlays$Sheet" 52 ⟨"PictureInlays$Ranking", "rank", "(I)V"⟩ : Cond) ∈ pw_T := pw_mem (i := 772) (by decide +kernel) (by decide +kernel)
theorem kw_773 : (.methodLink "PictureInlays$Sheet" 58 ⟨"PictureInlays$Ranking", "ranked", "(I)I"⟩ : Cond) ∈ pw_T := pw_mem (i := 773) (by decide +kernel) (by decide +kernel)
theorem kw_774 : (.methodLink "PictureInlays$Sheet" 62 ⟨"PictureInlays$Sheet", "rowFor", "(III)I"⟩ : Cond) ∈ pw_T := pw_mem (i := 774) (by decide +kernel) (by decide +kernel)
theorem kw_776 : (.instanceMethod ⟨"PictureInlays$Sheet", "rowFor", "(III)I"⟩ : Cond) ∈ pw_T := pw_mem (i := 776) (by decide +kernel) (by decide +kernel)
theorem kw_777 : (.code ⟨"PictureInlays$Sheet", "rowFor", "(III)I"⟩ prog_9_method_3_code 7 (some .int) : Cond) ∈ pw_T := pw_mem (i := 777) (by decide +kernel) (by decide +kernel)
theorem kw_778 : (.methodLink "PictureInlays$Sheet" 70 ⟨"PictureInlays$Pieces", "columnsOf", "(I)I"⟩ : Cond) ∈ pw_T := pw_mem (i := 778) (by decide +kernel) (by decide +kernel)
theorem kw_779 : (.methodLink "PictureInlays$Sheet" 73 ⟨"PictureInlays$Pieces", "rowsOf", "(I)I"⟩ : Cond) ∈ pw_T := pw_mem (i := 779) (by decide +kernel) (by decide +kernel)
theorem kw_780 : (.methodLink "PictureInlays$Sheet" 76 ⟨"PictureInlays$Sheet", "newRow", "(I)I"⟩ : Cond) ∈ pw_T := pw_mem (i := 780) (by decide +kernel) (by decide +kernel)
theorem kw_782 : (.instanceMethod ⟨"PictureInlays$Sheet", "newRow", "(I)I"⟩ : Cond) ∈ pw_T := pw_mem (i := 782) (by decide +kernel) (by decide +kernel)
theorem kw_783 : (.code ⟨"PictureInlays$Sheet", "newRow", "(I)I"⟩ prog_9_method_4_code 2 (some .int) : Cond) ∈ pw_T := pw_mem (i := 783) (by decide +kernel) (by decide +kernel)
theorem kw_784 : (.methodLink "PictureInlays$Sheet" 66 ⟨"PictureInlays$Sheet", "put", "(II)V"⟩ : Cond) ∈ pw_T := pw_mem (i := 784) (by decide +kernel) (by decide +kernel)
theorem kw_786 : (.instanceMethod ⟨"PictureInlays$Sheet", "put", "(II)V"⟩ : Cond) ∈ pw_T := pw_mem (i := 786) (by decide +kernel) (by decide +kernel)
theorem kw_787 : (.code ⟨"PictureInlays$Sheet", "put", "(II)V"⟩ prog_9_method_5_code 3 none : Cond) ∈ pw_T := pw_mem (i := 787) (by decide +kernel) (by decide +kernel)
theorem kw_795 : (.methodLink "PictureInlays" 196 ⟨"PictureInlays", "needNested", "()V"⟩ : Cond) ∈ pw_T := pw_mem (i := 795) (by decide +kernel) (by decide +kernel)
theorem kw_797 : (.instanceMethod ⟨"PictureInlays", "needNested", "()V"⟩ : Cond) ∈ pw_T := pw_mem (i := 797) (by decide +kernel) (by decide +kernel)
theorem kw_798 : (.code ⟨"PictureInlays", "needNested", "()V"⟩ prog_1_method_21_code 1 none : Cond) ∈ pw_T := pw_mem (i := 798) (by decide +kernel) (by decide +kernel)
theorem kw_800 : (.methodLink "PictureInlays" 199 ⟨"PictureInlays$Sheet", "xOf", "(I)I"⟩ : Cond) ∈ pw_T := pw_mem (i := 800) (by decide +kernel) (by decide +kernel)
theorem kw_801 : (.instanceMethod ⟨"PictureInlays$Sheet", "xOf", "(I)I"⟩ : Cond) ∈ pw_T := pw_mem (i := 801) (by decide +kernel) (by decide +kernel)
theorem kw_802 : (.selects "PictureInlays$Sheet" ⟨"PictureInlays$Sheet", "xOf", "(I)I"⟩ ⟨"PictureInlays$Sheet", "xOf", "(I)I"⟩ : Cond) ∈ pw_T := pw_mem (i := 802) (by decide +kernel) (by decide +kernel)
theorem kw_803 : (.code ⟨"PictureInlays$Sheet", "xOf", "(I)I"⟩ prog_9_method_6_code 2 (some .int) : Cond) ∈ pw_T := pw_mem (i := 803) (by decide +kernel) (by decide +kernel)
theorem kw_804 : (.methodLink "PictureInlays" 202 ⟨"PictureInlays$Sheet", "yOf", "(I)I"⟩ : Cond) ∈ pw_T := pw_mem (i := 804) (by decide +kernel) (by decide +kernel)
theorem kw_805 : (.instanceMethod ⟨"PictureInlays$Sheet", "yOf", "(I)I"⟩ : Cond) ∈ pw_T := pw_mem (i := 805) (by decide +kernel) (by decide +kernel)
theorem kw_806 : (.selects "PictureInlays$Sheet" ⟨"PictureInlays$Sheet", "yOf", "(I)I"⟩ ⟨"PictureInlays$Sheet", "yOf", "(I)I"⟩ : Cond) ∈ pw_T := pw_mem (i := 806) (by decide +kernel) (by decide +kernel)
theorem kw_807 : (.code ⟨"PictureInlays$Sheet", "yOf", "(I)I"⟩ prog_9_method_7_code 2 (some .int) : Cond) ∈ pw_T := pw_mem (i := 807) (by decide +kernel) (by decide +kernel)
theorem kw_815 : (.constant "PictureInlays" 205 1000000 : Cond) ∈ pw_T := pw_mem (i := 815) (by decide +kernel) (by decide +kernel)
theorem kw_816 : (.methodLink "PictureInlays" 211 ⟨"PictureInlays", "commonDivisor", "(II)I"⟩ : Cond) ∈ pw_T := pw_mem (i := 816) (by decide +kernel) (by decide +kernel)
theorem kw_817 : (.static ⟨"PictureInlays", "commonDivisor", "(II)I"⟩ : Cond) ∈ pw_T := pw_mem (i := 817) (by decide +kernel) (by decide +kernel)
theorem kw_818 : (.code ⟨"PictureInlays", "commonDivisor", "(II)I"⟩ prog_1_method_18_code 6 (some .int) : Cond) ∈ pw_T := pw_mem (i := 818) (by decide +kernel) (by decide +kernel)
end
section
theorem d_PI_at_0 : decode prog_1_method_14_code 0 = .ok (.aload_n 0, 1) := by decide +kernel
theorem d_PI_at_1 : decode prog_1_method_14_code 1 = .ok (.invokevirtual 196, 3) := by decide +kernel
theorem d_PI_at_4 : decode prog_1_method_14_code 4 = .ok (.aload_n 0, 1) := by decide +kernel
theorem d_PI_at_5 : decode prog_1_method_14_code 5 = .ok (.iload_n 1, 1) := by decide +kernel
theorem d_PI_at_6 : decode prog_1_method_14_code 6 = .ok (.invokevirtual 139, 3) := by decide +kernel
theorem d_PI_at_9 : decode prog_1_method_14_code 9 = .ok (.iload_n 2, 1) := by decide +kernel
theorem d_PI_at_10 : decode prog_1_method_14_code 10 = .ok (.iconst 2, 1) := by decide +kernel
theorem d_PI_at_11 : decode prog_1_method_14_code 11 = .ok (.invokestatic 115, 3) := by decide +kernel
theorem d_PI_at_14 : decode prog_1_method_14_code 14 = .ok (.iload_n 2, 1) := by decide +kernel
theorem d_PI_at_15 : decode prog_1_method_14_code 15 = .ok (.ifCond .ne 14, 3) := by decide +kernel
theorem d_PI_at_18 : decode prog_1_method_14_code 18 = .ok (.aload_n 0, 1) := by decide +kernel
theorem d_PI_at_19 : decode prog_1_method_14_code 19 = .ok (.getfield 86, 3) := by decide +kernel
theorem d_PI_at_22 : decode prog_1_method_14_code 22 = .ok (.iload_n 1, 1) := by decide +kernel
theorem d_PI_at_23 : decode prog_1_method_14_code 23 = .ok (.invokevirtual 199, 3) := by decide +kernel
theorem d_PI_at_26 : decode prog_1_method_14_code 26 = .ok (.goto 11, 3) := by decide +kernel
theorem d_PI_at_29 : decode prog_1_method_14_code 29 = .ok (.aload_n 0, 1) := by decide +kernel
theorem d_PI_at_30 : decode prog_1_method_14_code 30 = .ok (.getfield 86, 3) := by decide +kernel
theorem d_PI_at_33 : decode prog_1_method_14_code 33 = .ok (.iload_n 1, 1) := by decide +kernel
theorem d_PI_at_34 : decode prog_1_method_14_code 34 = .ok (.invokevirtual 202, 3) := by decide +kernel
theorem d_PI_at_37 : decode prog_1_method_14_code 37 = .ok (.ireturn, 1) := by decide +kernel
theorem d_PI_border_0 : decode prog_1_method_15_code 0 = .ok (.iload_n 3, 1) := by decide +kernel
theorem d_PI_border_1 : decode prog_1_method_15_code 1 = .ok (.iconst 3, 1) := by decide +kernel
theorem d_PI_border_2 : decode prog_1_method_15_code 2 = .ok (.invokestatic 115, 3) := by decide +kernel
theorem d_PI_border_5 : decode prog_1_method_15_code 5 = .ok (.iload_n 1, 1) := by decide +kernel
theorem d_PI_border_6 : decode prog_1_method_15_code 6 = .ok (.iconst 1, 1) := by decide +kernel
theorem d_PI_border_7 : decode prog_1_method_15_code 7 = .ok (.ldc 205, 2) := by decide +kernel
theorem d_PI_border_9 : decode prog_1_method_15_code 9 = .ok (.invokestatic 118, 3) := by decide +kernel
theorem d_PI_border_12 : decode prog_1_method_15_code 12 = .ok (.iload_n 2, 1) := by decide +kernel
theorem d_PI_border_13 : decode prog_1_method_15_code 13 = .ok (.iconst 1, 1) := by decide +kernel
theorem d_PI_border_14 : decode prog_1_method_15_code 14 = .ok (.ldc 205, 2) := by decide +kernel
theorem d_PI_border_16 : decode prog_1_method_15_code 16 = .ok (.invokestatic 118, 3) := by decide +kernel
theorem d_PI_border_19 : decode prog_1_method_15_code 19 = .ok (.iload_n 2, 1) := by decide +kernel
theorem d_PI_border_20 : decode prog_1_method_15_code 20 = .ok (.ifCond .le 9, 3) := by decide +kernel
theorem d_PI_border_23 : decode prog_1_method_15_code 23 = .ok (.iload_n 1, 1) := by decide +kernel
theorem d_PI_border_24 : decode prog_1_method_15_code 24 = .ok (.iload_n 2, 1) := by decide +kernel
theorem d_PI_border_25 : decode prog_1_method_15_code 25 = .ok (.idiv, 1) := by decide +kernel
theorem d_PI_border_26 : decode prog_1_method_15_code 26 = .ok (.goto 4, 3) := by decide +kernel
theorem d_PI_border_29 : decode prog_1_method_15_code 29 = .ok (.iconst 0, 1) := by decide +kernel
theorem d_PI_border_30 : decode prog_1_method_15_code 30 = .ok (.istore 4, 2) := by decide +kernel
theorem d_PI_border_32 : decode prog_1_method_15_code 32 = .ok (.iload_n 3, 1) := by decide +kernel
theorem d_PI_border_33 : decode prog_1_method_15_code 33 = .ok (.ifCond .ne 6, 3) := by decide +kernel
theorem d_PI_border_36 : decode prog_1_method_15_code 36 = .ok (.iload 4, 2) := by decide +kernel
theorem d_PI_border_38 : decode prog_1_method_15_code 38 = .ok (.ireturn, 1) := by decide +kernel
theorem d_PI_border_39 : decode prog_1_method_15_code 39 = .ok (.iload 4, 2) := by decide +kernel
theorem d_PI_border_41 : decode prog_1_method_15_code 41 = .ok (.ifCond .le 12, 3) := by decide +kernel
theorem d_PI_border_44 : decode prog_1_method_15_code 44 = .ok (.iload_n 1, 1) := by decide +kernel
theorem d_PI_border_45 : decode prog_1_method_15_code 45 = .ok (.iload 4, 2) := by decide +kernel
theorem d_PI_border_47 : decode prog_1_method_15_code 47 = .ok (.iload_n 2, 1) := by decide +kernel
theorem d_PI_border_48 : decode prog_1_method_15_code 48 = .ok (.imul, 1) := by decide +kernel
theorem d_PI_border_49 : decode prog_1_method_15_code 49 = .ok (.isub, 1) := by decide +kernel
theorem d_PI_border_50 : decode prog_1_method_15_code 50 = .ok (.goto 4, 3) := by decide +kernel
theorem d_PI_border_53 : decode prog_1_method_15_code 53 = .ok (.iconst 0, 1) := by decide +kernel
theorem d_PI_border_54 : decode prog_1_method_15_code 54 = .ok (.istore 5, 2) := by decide +kernel
theorem d_PI_border_56 : decode prog_1_method_15_code 56 = .ok (.iload 4, 2) := by decide +kernel
theorem d_PI_border_58 : decode prog_1_method_15_code 58 = .ok (.iconst 1, 1) := by decide +kernel
theorem d_PI_border_59 : decode prog_1_method_15_code 59 = .ok (.invokestatic 206, 3) := by decide +kernel
theorem d_PI_border_62 : decode prog_1_method_15_code 62 = .ok (.istore 6, 2) := by decide +kernel
theorem d_PI_border_64 : decode prog_1_method_15_code 64 = .ok (.iload 6, 2) := by decide +kernel
theorem d_PI_border_66 : decode prog_1_method_15_code 66 = .ok (.iload 5, 2) := by decide +kernel
theorem d_PI_border_68 : decode prog_1_method_15_code 68 = .ok (.invokestatic 211, 3) := by decide +kernel
theorem d_PI_border_71 : decode prog_1_method_15_code 71 = .ok (.istore 7, 2) := by decide +kernel
theorem d_PI_border_73 : decode prog_1_method_15_code 73 = .ok (.iload_n 3, 1) := by decide +kernel
theorem d_PI_border_74 : decode prog_1_method_15_code 74 = .ok (.iconst 1, 1) := by decide +kernel
theorem d_PI_border_75 : decode prog_1_method_15_code 75 = .ok (.if_icmp .ne 8, 3) := by decide +kernel
theorem d_PI_border_78 : decode prog_1_method_15_code 78 = .ok (.iload 5, 2) := by decide +kernel
theorem d_PI_border_80 : decode prog_1_method_15_code 80 = .ok (.goto 5, 3) := by decide +kernel
theorem d_PI_border_83 : decode prog_1_method_15_code 83 = .ok (.iload 6, 2) := by decide +kernel
theorem d_PI_border_85 : decode prog_1_method_15_code 85 = .ok (.istore 8, 2) := by decide +kernel
theorem d_PI_border_87 : decode prog_1_method_15_code 87 = .ok (.iload 7, 2) := by decide +kernel
theorem d_PI_border_89 : decode prog_1_method_15_code 89 = .ok (.ifCond .le 11, 3) := by decide +kernel
theorem d_PI_border_92 : decode prog_1_method_15_code 92 = .ok (.iload 8, 2) := by decide +kernel
theorem d_PI_border_94 : decode prog_1_method_15_code 94 = .ok (.iload 7, 2) := by decide +kernel
theorem d_PI_border_96 : decode prog_1_method_15_code 96 = .ok (.idiv, 1) := by decide +kernel
theorem d_PI_border_97 : decode prog_1_method_15_code 97 = .ok (.goto 5, 3) := by decide +kernel
theorem d_PI_border_100 : decode prog_1_method_15_code 100 = .ok (.iload 8, 2) := by decide +kernel
theorem d_PI_border_102 : decode prog_1_method_15_code 102 = .ok (.ireturn, 1) := by decide +kernel
theorem d_PI_commonDivisor_0 : decode prog_1_method_18_code 0 = .ok (.iload_n 0, 1) := by decide +kernel
theorem d_PI_commonDivisor_1 : decode prog_1_method_18_code 1 = .ok (.istore_n 2, 1) := by decide +kernel
theorem d_PI_commonDivisor_2 : decode prog_1_method_18_code 2 = .ok (.iload_n 1, 1) := by decide +kernel
theorem d_PI_commonDivisor_3 : decode prog_1_method_18_code 3 = .ok (.istore_n 3, 1) := by decide +kernel
theorem d_PI_commonDivisor_4 : decode prog_1_method_18_code 4 = .ok (.iconst 0, 1) := by decide +kernel
theorem d_PI_commonDivisor_5 : decode prog_1_method_18_code 5 = .ok (.istore 4, 2) := by decide +kernel
theorem d_PI_commonDivisor_7 : decode prog_1_method_18_code 7 = .ok (.iload 4, 2) := by decide +kernel
theorem d_PI_commonDivisor_9 : decode prog_1_method_18_code 9 = .ok (.ldc 205, 2) := by decide +kernel
theorem d_PI_commonDivisor_11 : decode prog_1_method_18_code 11 = .ok (.if_icmp .ge 23, 3) := by decide +kernel
theorem d_PI_commonDivisor_14 : decode prog_1_method_18_code 14 = .ok (.iload_n 3, 1) := by decide +kernel
theorem d_PI_commonDivisor_15 : decode prog_1_method_18_code 15 = .ok (.ifCond .eq 19, 3) := by decide +kernel
theorem d_PI_commonDivisor_18 : decode prog_1_method_18_code 18 = .ok (.iload_n 2, 1) := by decide +kernel
theorem d_PI_commonDivisor_19 : decode prog_1_method_18_code 19 = .ok (.iload_n 3, 1) := by decide +kernel
theorem d_PI_commonDivisor_20 : decode prog_1_method_18_code 20 = .ok (.irem, 1) := by decide +kernel
theorem d_PI_commonDivisor_21 : decode prog_1_method_18_code 21 = .ok (.istore 5, 2) := by decide +kernel
theorem d_PI_commonDivisor_23 : decode prog_1_method_18_code 23 = .ok (.iload_n 3, 1) := by decide +kernel
theorem d_PI_commonDivisor_24 : decode prog_1_method_18_code 24 = .ok (.istore_n 2, 1) := by decide +kernel
theorem d_PI_commonDivisor_25 : decode prog_1_method_18_code 25 = .ok (.iload 5, 2) := by decide +kernel
theorem d_PI_commonDivisor_27 : decode prog_1_method_18_code 27 = .ok (.istore_n 3, 1) := by decide +kernel
theorem d_PI_commonDivisor_28 : decode prog_1_method_18_code 28 = .ok (.iinc 4 1, 3) := by decide +kernel
theorem d_PI_commonDivisor_31 : decode prog_1_method_18_code 31 = .ok (.goto (-24), 3) := by decide +kernel
theorem d_PI_commonDivisor_34 : decode prog_1_method_18_code 34 = .ok (.iload_n 2, 1) := by decide +kernel
theorem d_PI_commonDivisor_35 : decode prog_1_method_18_code 35 = .ok (.ireturn, 1) := by decide +kernel
theorem d_PI_corner_0 : decode prog_1_method_9_code 0 = .ok (.aload_n 0, 1) := by decide +kernel
theorem d_PI_corner_1 : decode prog_1_method_9_code 1 = .ok (.iload_n 1, 1) := by decide +kernel
theorem d_PI_corner_2 : decode prog_1_method_9_code 2 = .ok (.invokevirtual 139, 3) := by decide +kernel
theorem d_PI_corner_5 : decode prog_1_method_9_code 5 = .ok (.iload_n 3, 1) := by decide +kernel
theorem d_PI_corner_6 : decode prog_1_method_9_code 6 = .ok (.iconst 2, 1) := by decide +kernel
theorem d_PI_corner_7 : decode prog_1_method_9_code 7 = .ok (.invokestatic 115, 3) := by decide +kernel
theorem d_PI_corner_10 : decode prog_1_method_9_code 10 = .ok (.aload_n 0, 1) := by decide +kernel
theorem d_PI_corner_11 : decode prog_1_method_9_code 11 = .ok (.getfield 72, 3) := by decide +kernel
theorem d_PI_corner_14 : decode prog_1_method_9_code 14 = .ok (.iload_n 1, 1) := by decide +kernel
theorem d_PI_corner_15 : decode prog_1_method_9_code 15 = .ok (.invokevirtual 168, 3) := by decide +kernel
theorem d_PI_corner_18 : decode prog_1_method_9_code 18 = .ok (.iload_n 2, 1) := by decide +kernel
theorem d_PI_corner_19 : decode prog_1_method_9_code 19 = .ok (.aload_n 0, 1) := by decide +kernel
theorem d_PI_corner_20 : decode prog_1_method_9_code 20 = .ok (.getfield 72, 3) := by decide +kernel
theorem d_PI_corner_23 : decode prog_1_method_9_code 23 = .ok (.getfield 171, 3) := by decide +kernel
theorem d_PI_corner_26 : decode prog_1_method_9_code 26 = .ok (.invokestatic 115, 3) := by decide +kernel
theorem d_PI_corner_29 : decode prog_1_method_9_code 29 = .ok (.iload_n 3, 1) := by decide +kernel
theorem d_PI_corner_30 : decode prog_1_method_9_code 30 = .ok (.ifCond .ne 14, 3) := by decide +kernel
theorem d_PI_corner_33 : decode prog_1_method_9_code 33 = .ok (.aload_n 0, 1) := by decide +kernel
theorem d_PI_corner_34 : decode prog_1_method_9_code 34 = .ok (.getfield 72, 3) := by decide +kernel
theorem d_PI_corner_37 : decode prog_1_method_9_code 37 = .ok (.iload_n 2, 1) := by decide +kernel
theorem d_PI_corner_38 : decode prog_1_method_9_code 38 = .ok (.invokevirtual 174, 3) := by decide +kernel
theorem d_PI_corner_41 : decode prog_1_method_9_code 41 = .ok (.goto 11, 3) := by decide +kernel
theorem d_PI_corner_44 : decode prog_1_method_9_code 44 = .ok (.aload_n 0, 1) := by decide +kernel
theorem d_PI_corner_45 : decode prog_1_method_9_code 45 = .ok (.getfield 72, 3) := by decide +kernel
theorem d_PI_corner_48 : decode prog_1_method_9_code 48 = .ok (.iload_n 2, 1) := by decide +kernel
theorem d_PI_corner_49 : decode prog_1_method_9_code 49 = .ok (.invokevirtual 177, 3) := by decide +kernel
theorem d_PI_corner_52 : decode prog_1_method_9_code 52 = .ok (.ireturn, 1) := by decide +kernel
theorem d_PI_joined_0 : decode prog_1_method_7_code 0 = .ok (.aload_n 0, 1) := by decide +kernel
theorem d_PI_joined_1 : decode prog_1_method_7_code 1 = .ok (.iload_n 1, 1) := by decide +kernel
theorem d_PI_joined_2 : decode prog_1_method_7_code 2 = .ok (.invokevirtual 139, 3) := by decide +kernel
theorem d_PI_joined_5 : decode prog_1_method_7_code 5 = .ok (.aload_n 0, 1) := by decide +kernel
theorem d_PI_joined_6 : decode prog_1_method_7_code 6 = .ok (.iload_n 2, 1) := by decide +kernel
theorem d_PI_joined_7 : decode prog_1_method_7_code 7 = .ok (.invokevirtual 139, 3) := by decide +kernel
theorem d_PI_joined_10 : decode prog_1_method_7_code 10 = .ok (.aload_n 0, 1) := by decide +kernel
theorem d_PI_joined_11 : decode prog_1_method_7_code 11 = .ok (.getfield 46, 3) := by decide +kernel
theorem d_PI_joined_14 : decode prog_1_method_7_code 14 = .ok (.iload_n 1, 1) := by decide +kernel
theorem d_PI_joined_15 : decode prog_1_method_7_code 15 = .ok (.iload_n 2, 1) := by decide +kernel
theorem d_PI_joined_16 : decode prog_1_method_7_code 16 = .ok (.invokevirtual 165, 3) := by decide +kernel
theorem d_PI_joined_19 : decode prog_1_method_7_code 19 = .ok (.ireturn, 1) := by decide +kernel
theorem d_PI_kind_0 : decode prog_1_method_3_code 0 = .ok (.iload_n 1, 1) := by decide +kernel
theorem d_PI_kind_1 : decode prog_1_method_3_code 1 = .ok (.aload_n 0, 1) := by decide +kernel
theorem d_PI_kind_2 : decode prog_1_method_3_code 2 = .ok (.getfield 22, 3) := by decide +kernel
theorem d_PI_kind_5 : decode prog_1_method_3_code 5 = .ok (.invokestatic 115, 3) := by decide +kernel
theorem d_PI_kind_8 : decode prog_1_method_3_code 8 = .ok (.iload_n 2, 1) := by decide +kernel
theorem d_PI_kind_9 : decode prog_1_method_3_code 9 = .ok (.iload_n 3, 1) := by decide +kernel
theorem d_PI_kind_10 : decode prog_1_method_3_code 10 = .ok (.iload 4, 2) := by decide +kernel
theorem d_PI_kind_12 : decode prog_1_method_3_code 12 = .ok (.invokestatic 100, 3) := by decide +kernel
theorem d_PI_kind_15 : decode prog_1_method_3_code 15 = .ok (.aload_n 0, 1) := by decide +kernel
theorem d_PI_kind_16 : decode prog_1_method_3_code 16 = .ok (.aload_n 0, 1) := by decide +kernel
theorem d_PI_kind_17 : decode prog_1_method_3_code 17 = .ok (.getfield 38, 3) := by decide +kernel
theorem d_PI_kind_20 : decode prog_1_method_3_code 20 = .ok (.iload_n 1, 1) := by decide +kernel
theorem d_PI_kind_21 : decode prog_1_method_3_code 21 = .ok (.iload_n 2, 1) := by decide +kernel
theorem d_PI_kind_22 : decode prog_1_method_3_code 22 = .ok (.iload_n 3, 1) := by decide +kernel
theorem d_PI_kind_23 : decode prog_1_method_3_code 23 = .ok (.iload 4, 2) := by decide +kernel
theorem d_PI_kind_25 : decode prog_1_method_3_code 25 = .ok (.invokevirtual 107, 3) := by decide +kernel
theorem d_PI_kind_28 : decode prog_1_method_3_code 28 = .ok (.invokevirtual 111, 3) := by decide +kernel
theorem d_PI_kind_31 : decode prog_1_method_3_code 31 = .ok (.ireturn, 1) := by decide +kernel
theorem d_PI_left_0 : decode prog_1_method_10_code 0 = .ok (.aload_n 0, 1) := by decide +kernel
theorem d_PI_left_1 : decode prog_1_method_10_code 1 = .ok (.iload_n 1, 1) := by decide +kernel
theorem d_PI_left_2 : decode prog_1_method_10_code 2 = .ok (.invokevirtual 139, 3) := by decide +kernel
theorem d_PI_left_5 : decode prog_1_method_10_code 5 = .ok (.iload_n 2, 1) := by decide +kernel
theorem d_PI_left_6 : decode prog_1_method_10_code 6 = .ok (.iconst 0, 1) := by decide +kernel
theorem d_PI_left_7 : decode prog_1_method_10_code 7 = .ok (.bipush 10, 2) := by decide +kernel
theorem d_PI_left_9 : decode prog_1_method_10_code 9 = .ok (.invokestatic 118, 3) := by decide +kernel
theorem d_PI_left_12 : decode prog_1_method_10_code 12 = .ok (.aload_n 0, 1) := by decide +kernel
theorem d_PI_left_13 : decode prog_1_method_10_code 13 = .ok (.getfield 79, 3) := by decide +kernel
theorem d_PI_left_16 : decode prog_1_method_10_code 16 = .ok (.iload_n 1, 1) := by decide +kernel
theorem d_PI_left_17 : decode prog_1_method_10_code 17 = .ok (.iload_n 2, 1) := by decide +kernel
theorem d_PI_left_18 : decode prog_1_method_10_code 18 = .ok (.invokevirtual 180, 3) := by decide +kernel
theorem d_PI_left_21 : decode prog_1_method_10_code 21 = .ok (.aload_n 0, 1) := by decide +kernel
theorem d_PI_left_22 : decode prog_1_method_10_code 22 = .ok (.getfield 46, 3) := by decide +kernel
theorem d_PI_left_25 : decode prog_1_method_10_code 25 = .ok (.iload_n 1, 1) := by decide +kernel
theorem d_PI_left_26 : decode prog_1_method_10_code 26 = .ok (.invokevirtual 146, 3) := by decide +kernel
theorem d_PI_left_29 : decode prog_1_method_10_code 29 = .ok (.aload_n 0, 1) := by decide +kernel
theorem d_PI_left_30 : decode prog_1_method_10_code 30 = .ok (.getfield 79, 3) := by decide +kernel
theorem d_PI_left_33 : decode prog_1_method_10_code 33 = .ok (.getfield 183, 3) := by decide +kernel
theorem d_PI_left_36 : decode prog_1_method_10_code 36 = .ok (.isub, 1) := by decide +kernel
theorem d_PI_left_37 : decode prog_1_method_10_code 37 = .ok (.ireturn, 1) := by decide +kernel
theorem d_PI_needColour_0 : decode prog_1_method_24_code 0 = .ok (.iload_n 0, 1) := by decide +kernel
theorem d_PI_needColour_1 : decode prog_1_method_24_code 1 = .ok (.iconst 0, 1) := by decide +kernel
theorem d_PI_needColour_2 : decode prog_1_method_24_code 2 = .ok (.sipush 255, 3) := by decide +kernel
theorem d_PI_needColour_5 : decode prog_1_method_24_code 5 = .ok (.invokestatic 118, 3) := by decide +kernel
theorem d_PI_needColour_8 : decode prog_1_method_24_code 8 = .ok (.iload_n 1, 1) := by decide +kernel
theorem d_PI_needColour_9 : decode prog_1_method_24_code 9 = .ok (.iconst 0, 1) := by decide +kernel
theorem d_PI_needColour_10 : decode prog_1_method_24_code 10 = .ok (.sipush 255, 3) := by decide +kernel
theorem d_PI_needColour_13 : decode prog_1_method_24_code 13 = .ok (.invokestatic 118, 3) := by decide +kernel
theorem d_PI_needColour_16 : decode prog_1_method_24_code 16 = .ok (.iload_n 2, 1) := by decide +kernel
theorem d_PI_needColour_17 : decode prog_1_method_24_code 17 = .ok (.iconst 0, 1) := by decide +kernel
theorem d_PI_needColour_18 : decode prog_1_method_24_code 18 = .ok (.sipush 255, 3) := by decide +kernel
theorem d_PI_needColour_21 : decode prog_1_method_24_code 21 = .ok (.invokestatic 118, 3) := by decide +kernel
theorem d_PI_needColour_24 : decode prog_1_method_24_code 24 = .ok (.return_, 1) := by decide +kernel
theorem d_PI_needIndex_0 : decode prog_1_method_25_code 0 = .ok (.iload_n 0, 1) := by decide +kernel
theorem d_PI_needIndex_1 : decode prog_1_method_25_code 1 = .ok (.ifCond .lt 8, 3) := by decide +kernel
theorem d_PI_needIndex_4 : decode prog_1_method_25_code 4 = .ok (.iload_n 0, 1) := by decide +kernel
theorem d_PI_needIndex_5 : decode prog_1_method_25_code 5 = .ok (.iload_n 1, 1) := by decide +kernel
theorem d_PI_needIndex_6 : decode prog_1_method_25_code 6 = .ok (.if_icmp .lt 13, 3) := by decide +kernel
theorem d_PI_needIndex_9 : decode prog_1_method_25_code 9 = .ok (.new 232, 3) := by decide +kernel
theorem d_PI_needIndex_12 : decode prog_1_method_25_code 12 = .ok (.dup, 1) := by decide +kernel
theorem d_PI_needIndex_13 : decode prog_1_method_25_code 13 = .ok (.ldc 234, 2) := by decide +kernel
theorem d_PI_needIndex_15 : decode prog_1_method_25_code 15 = .ok (.invokespecial 236, 3) := by decide +kernel
theorem d_PI_needIndex_18 : decode prog_1_method_25_code 18 = .ok (.athrow, 1) := by decide +kernel
theorem d_PI_needIndex_19 : decode prog_1_method_25_code 19 = .ok (.return_, 1) := by decide +kernel
theorem d_PI_needNested_0 : decode prog_1_method_21_code 0 = .ok (.aload_n 0, 1) := by decide +kernel
theorem d_PI_needNested_1 : decode prog_1_method_21_code 1 = .ok (.getfield 94, 3) := by decide +kernel
theorem d_PI_needNested_4 : decode prog_1_method_21_code 4 = .ok (.ifCond .ne 13, 3) := by decide +kernel
theorem d_PI_needNested_7 : decode prog_1_method_21_code 7 = .ok (.new 217, 3) := by decide +kernel
theorem d_PI_needNested_10 : decode prog_1_method_21_code 10 = .ok (.dup, 1) := by decide +kernel
theorem d_PI_needNested_11 : decode prog_1_method_21_code 11 = .ok (.ldc 224, 2) := by decide +kernel
theorem d_PI_needNested_13 : decode prog_1_method_21_code 13 = .ok (.invokespecial 221, 3) := by decide +kernel
theorem d_PI_needNested_16 : decode prog_1_method_21_code 16 = .ok (.athrow, 1) := by decide +kernel
theorem d_PI_needNested_17 : decode prog_1_method_21_code 17 = .ok (.return_, 1) := by decide +kernel
theorem d_PI_needNumber_0 : decode prog_1_method_26_code 0 = .ok (.iload_n 0, 1) := by decide +kernel
theorem d_PI_needNumber_1 : decode prog_1_method_26_code 1 = .ok (.iload_n 1, 1) := by decide +kernel
theorem d_PI_needNumber_2 : decode prog_1_method_26_code 2 = .ok (.if_icmp .lt 8, 3) := by decide +kernel
theorem d_PI_needNumber_5 : decode prog_1_method_26_code 5 = .ok (.iload_n 0, 1) := by decide +kernel
theorem d_PI_needNumber_6 : decode prog_1_method_26_code 6 = .ok (.iload_n 2, 1) := by decide +kernel
theorem d_PI_needNumber_7 : decode prog_1_method_26_code 7 = .ok (.if_icmp .le 13, 3) := by decide +kernel
theorem d_PI_needNumber_10 : decode prog_1_method_26_code 10 = .ok (.new 237, 3) := by decide +kernel
theorem d_PI_needNumber_13 : decode prog_1_method_26_code 13 = .ok (.dup, 1) := by decide +kernel
theorem d_PI_needNumber_14 : decode prog_1_method_26_code 14 = .ok (.ldc 239, 2) := by decide +kernel
theorem d_PI_needNumber_16 : decode prog_1_method_26_code 16 = .ok (.invokespecial 241, 3) := by decide +kernel
theorem d_PI_needNumber_19 : decode prog_1_method_26_code 19 = .ok (.athrow, 1) := by decide +kernel
theorem d_PI_needNumber_20 : decode prog_1_method_26_code 20 = .ok (.return_, 1) := by decide +kernel
theorem d_PI_needParted_0 : decode prog_1_method_20_code 0 = .ok (.aload_n 0, 1) := by decide +kernel
theorem d_PI_needParted_1 : decode prog_1_method_20_code 1 = .ok (.getfield 90, 3) := by decide +kernel
theorem d_PI_needParted_4 : decode prog_1_method_20_code 4 = .ok (.ifCond .ne 13, 3) := by decide +kernel
theorem d_PI_needParted_7 : decode prog_1_method_20_code 7 = .ok (.new 217, 3) := by decide +kernel
theorem d_PI_needParted_10 : decode prog_1_method_20_code 10 = .ok (.dup, 1) := by decide +kernel
theorem d_PI_needParted_11 : decode prog_1_method_20_code 11 = .ok (.ldc 219, 2) := by decide +kernel
theorem d_PI_needParted_13 : decode prog_1_method_20_code 13 = .ok (.invokespecial 221, 3) := by decide +kernel
theorem d_PI_needParted_16 : decode prog_1_method_20_code 16 = .ok (.athrow, 1) := by decide +kernel
theorem d_PI_needParted_17 : decode prog_1_method_20_code 17 = .ok (.return_, 1) := by decide +kernel
theorem d_PI_needPiece_0 : decode prog_1_method_22_code 0 = .ok (.aload_n 0, 1) := by decide +kernel
theorem d_PI_needPiece_1 : decode prog_1_method_22_code 1 = .ok (.invokevirtual 133, 3) := by decide +kernel
theorem d_PI_needPiece_4 : decode prog_1_method_22_code 4 = .ok (.iload_n 1, 1) := by decide +kernel
theorem d_PI_needPiece_5 : decode prog_1_method_22_code 5 = .ok (.aload_n 0, 1) := by decide +kernel
theorem d_PI_needPiece_6 : decode prog_1_method_22_code 6 = .ok (.getfield 46, 3) := by decide +kernel
theorem d_PI_needPiece_9 : decode prog_1_method_22_code 9 = .ok (.getfield 125, 3) := by decide +kernel
theorem d_PI_needPiece_12 : decode prog_1_method_22_code 12 = .ok (.invokestatic 115, 3) := by decide +kernel
theorem d_PI_needPiece_15 : decode prog_1_method_22_code 15 = .ok (.return_, 1) := by decide +kernel
theorem d_PI_needPlace_0 : decode prog_1_method_23_code 0 = .ok (.iload_n 1, 1) := by decide +kernel
theorem d_PI_needPlace_1 : decode prog_1_method_23_code 1 = .ok (.aload_n 0, 1) := by decide +kernel
theorem d_PI_needPlace_2 : decode prog_1_method_23_code 2 = .ok (.getfield 18, 3) := by decide +kernel
theorem d_PI_needPlace_5 : decode prog_1_method_23_code 5 = .ok (.getfield 226, 3) := by decide +kernel
theorem d_PI_needPlace_8 : decode prog_1_method_23_code 8 = .ok (.invokestatic 115, 3) := by decide +kernel
theorem d_PI_needPlace_11 : decode prog_1_method_23_code 11 = .ok (.iload_n 2, 1) := by decide +kernel
theorem d_PI_needPlace_12 : decode prog_1_method_23_code 12 = .ok (.aload_n 0, 1) := by decide +kernel
theorem d_PI_needPlace_13 : decode prog_1_method_23_code 13 = .ok (.getfield 18, 3) := by decide +kernel
theorem d_PI_needPlace_16 : decode prog_1_method_23_code 16 = .ok (.getfield 229, 3) := by decide +kernel
theorem d_PI_needPlace_19 : decode prog_1_method_23_code 19 = .ok (.invokestatic 115, 3) := by decide +kernel
theorem d_PI_needPlace_22 : decode prog_1_method_23_code 22 = .ok (.return_, 1) := by decide +kernel
theorem d_PI_nest_0 : decode prog_1_method_13_code 0 = .ok (.aload_n 0, 1) := by decide +kernel
theorem d_PI_nest_1 : decode prog_1_method_13_code 1 = .ok (.invokevirtual 133, 3) := by decide +kernel
theorem d_PI_nest_4 : decode prog_1_method_13_code 4 = .ok (.iload_n 1, 1) := by decide +kernel
theorem d_PI_nest_5 : decode prog_1_method_13_code 5 = .ok (.iconst 1, 1) := by decide +kernel
theorem d_PI_nest_6 : decode prog_1_method_13_code 6 = .ok (.bipush 100, 2) := by decide +kernel
theorem d_PI_nest_8 : decode prog_1_method_13_code 8 = .ok (.invokestatic 118, 3) := by decide +kernel
theorem d_PI_nest_11 : decode prog_1_method_13_code 11 = .ok (.iload_n 2, 1) := by decide +kernel
theorem d_PI_nest_12 : decode prog_1_method_13_code 12 = .ok (.iconst 1, 1) := by decide +kernel
theorem d_PI_nest_13 : decode prog_1_method_13_code 13 = .ok (.bipush 100, 2) := by decide +kernel
theorem d_PI_nest_15 : decode prog_1_method_13_code 15 = .ok (.invokestatic 118, 3) := by decide +kernel
theorem d_PI_nest_18 : decode prog_1_method_13_code 18 = .ok (.aload_n 0, 1) := by decide +kernel
theorem d_PI_nest_19 : decode prog_1_method_13_code 19 = .ok (.iconst 1, 1) := by decide +kernel
theorem d_PI_nest_20 : decode prog_1_method_13_code 20 = .ok (.putfield 94, 3) := by decide +kernel
theorem d_PI_nest_23 : decode prog_1_method_13_code 23 = .ok (.aload_n 0, 1) := by decide +kernel
theorem d_PI_nest_24 : decode prog_1_method_13_code 24 = .ok (.getfield 86, 3) := by decide +kernel
theorem d_PI_nest_27 : decode prog_1_method_13_code 27 = .ok (.iload_n 1, 1) := by decide +kernel
theorem d_PI_nest_28 : decode prog_1_method_13_code 28 = .ok (.iload_n 2, 1) := by decide +kernel
theorem d_PI_nest_29 : decode prog_1_method_13_code 29 = .ok (.invokevirtual 193, 3) := by decide +kernel
theorem d_PI_nest_32 : decode prog_1_method_13_code 32 = .ok (.ireturn, 1) := by decide +kernel
theorem d_PI_order_0 : decode prog_1_method_12_code 0 = .ok (.aload_n 0, 1) := by decide +kernel
theorem d_PI_order_1 : decode prog_1_method_12_code 1 = .ok (.iload_n 1, 1) := by decide +kernel
theorem d_PI_order_2 : decode prog_1_method_12_code 2 = .ok (.invokevirtual 139, 3) := by decide +kernel
theorem d_PI_order_5 : decode prog_1_method_12_code 5 = .ok (.aload_n 0, 1) := by decide +kernel
theorem d_PI_order_6 : decode prog_1_method_12_code 6 = .ok (.getfield 64, 3) := by decide +kernel
theorem d_PI_order_9 : decode prog_1_method_12_code 9 = .ok (.iload_n 1, 1) := by decide +kernel
theorem d_PI_order_10 : decode prog_1_method_12_code 10 = .ok (.invokevirtual 190, 3) := by decide +kernel
theorem d_PI_order_13 : decode prog_1_method_12_code 13 = .ok (.ireturn, 1) := by decide +kernel
theorem d_PI_outline_0 : decode prog_1_method_8_code 0 = .ok (.aload_n 0, 1) := by decide +kernel
theorem d_PI_outline_1 : decode prog_1_method_8_code 1 = .ok (.iload_n 1, 1) := by decide +kernel
theorem d_PI_outline_2 : decode prog_1_method_8_code 2 = .ok (.invokevirtual 139, 3) := by decide +kernel
theorem d_PI_outline_5 : decode prog_1_method_8_code 5 = .ok (.aload_n 0, 1) := by decide +kernel
theorem d_PI_outline_6 : decode prog_1_method_8_code 6 = .ok (.getfield 72, 3) := by decide +kernel
theorem d_PI_outline_9 : decode prog_1_method_8_code 9 = .ok (.iload_n 1, 1) := by decide +kernel
theorem d_PI_outline_10 : decode prog_1_method_8_code 10 = .ok (.invokevirtual 168, 3) := by decide +kernel
theorem d_PI_outline_13 : decode prog_1_method_8_code 13 = .ok (.aload_n 0, 1) := by decide +kernel
theorem d_PI_outline_14 : decode prog_1_method_8_code 14 = .ok (.getfield 72, 3) := by decide +kernel
theorem d_PI_outline_17 : decode prog_1_method_8_code 17 = .ok (.getfield 171, 3) := by decide +kernel
theorem d_PI_outline_20 : decode prog_1_method_8_code 20 = .ok (.ireturn, 1) := by decide +kernel
theorem d_PI_part_0 : decode prog_1_method_4_code 0 = .ok (.iload_n 1, 1) := by decide +kernel
theorem d_PI_part_1 : decode prog_1_method_4_code 1 = .ok (.iconst 1, 1) := by decide +kernel
theorem d_PI_part_2 : decode prog_1_method_4_code 2 = .ok (.sipush 400, 3) := by decide +kernel
theorem d_PI_part_5 : decode prog_1_method_4_code 5 = .ok (.invokestatic 118, 3) := by decide +kernel
theorem d_PI_part_8 : decode prog_1_method_4_code 8 = .ok (.aload_n 0, 1) := by decide +kernel
theorem d_PI_part_9 : decode prog_1_method_4_code 9 = .ok (.getfield 46, 3) := by decide +kernel
theorem d_PI_part_12 : decode prog_1_method_4_code 12 = .ok (.aload_n 0, 1) := by decide +kernel
theorem d_PI_part_13 : decode prog_1_method_4_code 13 = .ok (.getfield 34, 3) := by decide +kernel
theorem d_PI_part_16 : decode prog_1_method_4_code 16 = .ok (.aload_n 0, 1) := by decide +kernel
theorem d_PI_part_17 : decode prog_1_method_4_code 17 = .ok (.getfield 38, 3) := by decide +kernel
theorem d_PI_part_20 : decode prog_1_method_4_code 20 = .ok (.aload_n 0, 1) := by decide +kernel
theorem d_PI_part_21 : decode prog_1_method_4_code 21 = .ok (.getfield 22, 3) := by decide +kernel
end
section
theorem d_PI_part_24 : decode prog_1_method_4_code 24 = .ok (.iload_n 1, 1) := by decide +kernel
theorem d_PI_part_25 : decode prog_1_method_4_code 25 = .ok (.invokevirtual 121, 3) := by decide +kernel
theorem d_PI_part_28 : decode prog_1_method_4_code 28 = .ok (.aload_n 0, 1) := by decide +kernel
theorem d_PI_part_29 : decode prog_1_method_4_code 29 = .ok (.getfield 64, 3) := by decide +kernel
theorem d_PI_part_32 : decode prog_1_method_4_code 32 = .ok (.aload_n 0, 1) := by decide +kernel
theorem d_PI_part_33 : decode prog_1_method_4_code 33 = .ok (.getfield 46, 3) := by decide +kernel
theorem d_PI_part_36 : decode prog_1_method_4_code 36 = .ok (.getfield 125, 3) := by decide +kernel
theorem d_PI_part_39 : decode prog_1_method_4_code 39 = .ok (.invokevirtual 128, 3) := by decide +kernel
theorem d_PI_part_42 : decode prog_1_method_4_code 42 = .ok (.aload_n 0, 1) := by decide +kernel
theorem d_PI_part_43 : decode prog_1_method_4_code 43 = .ok (.iconst 1, 1) := by decide +kernel
theorem d_PI_part_44 : decode prog_1_method_4_code 44 = .ok (.putfield 90, 3) := by decide +kernel
theorem d_PI_part_47 : decode prog_1_method_4_code 47 = .ok (.aload_n 0, 1) := by decide +kernel
theorem d_PI_part_48 : decode prog_1_method_4_code 48 = .ok (.iconst 0, 1) := by decide +kernel
theorem d_PI_part_49 : decode prog_1_method_4_code 49 = .ok (.putfield 94, 3) := by decide +kernel
theorem d_PI_part_52 : decode prog_1_method_4_code 52 = .ok (.aload_n 0, 1) := by decide +kernel
theorem d_PI_part_53 : decode prog_1_method_4_code 53 = .ok (.getfield 46, 3) := by decide +kernel
theorem d_PI_part_56 : decode prog_1_method_4_code 56 = .ok (.getfield 125, 3) := by decide +kernel
theorem d_PI_part_59 : decode prog_1_method_4_code 59 = .ok (.ireturn, 1) := by decide +kernel
theorem d_PI_piece_0 : decode prog_1_method_6_code 0 = .ok (.aload_n 0, 1) := by decide +kernel
theorem d_PI_piece_1 : decode prog_1_method_6_code 1 = .ok (.iload_n 1, 1) := by decide +kernel
theorem d_PI_piece_2 : decode prog_1_method_6_code 2 = .ok (.invokevirtual 139, 3) := by decide +kernel
theorem d_PI_piece_5 : decode prog_1_method_6_code 5 = .ok (.iload_n 2, 1) := by decide +kernel
theorem d_PI_piece_6 : decode prog_1_method_6_code 6 = .ok (.iconst 0, 1) := by decide +kernel
theorem d_PI_piece_7 : decode prog_1_method_6_code 7 = .ok (.bipush 6, 2) := by decide +kernel
theorem d_PI_piece_9 : decode prog_1_method_6_code 9 = .ok (.invokestatic 118, 3) := by decide +kernel
theorem d_PI_piece_12 : decode prog_1_method_6_code 12 = .ok (.iload_n 2, 1) := by decide +kernel
theorem d_PI_piece_13 : decode prog_1_method_6_code 13 = .ok (.tableswitch 93 0 5 #[39, 48, 57, 66, 75, 84], 39) := by decide +kernel
theorem d_PI_piece_52 : decode prog_1_method_6_code 52 = .ok (.aload_n 0, 1) := by decide +kernel
theorem d_PI_piece_53 : decode prog_1_method_6_code 53 = .ok (.getfield 46, 3) := by decide +kernel
theorem d_PI_piece_56 : decode prog_1_method_6_code 56 = .ok (.iload_n 1, 1) := by decide +kernel
theorem d_PI_piece_57 : decode prog_1_method_6_code 57 = .ok (.invokevirtual 142, 3) := by decide +kernel
theorem d_PI_piece_60 : decode prog_1_method_6_code 60 = .ok (.ireturn, 1) := by decide +kernel
theorem d_PI_piece_61 : decode prog_1_method_6_code 61 = .ok (.aload_n 0, 1) := by decide +kernel
theorem d_PI_piece_62 : decode prog_1_method_6_code 62 = .ok (.getfield 46, 3) := by decide +kernel
theorem d_PI_piece_65 : decode prog_1_method_6_code 65 = .ok (.iload_n 1, 1) := by decide +kernel
theorem d_PI_piece_66 : decode prog_1_method_6_code 66 = .ok (.invokevirtual 146, 3) := by decide +kernel
theorem d_PI_piece_69 : decode prog_1_method_6_code 69 = .ok (.ireturn, 1) := by decide +kernel
theorem d_PI_piece_70 : decode prog_1_method_6_code 70 = .ok (.aload_n 0, 1) := by decide +kernel
theorem d_PI_piece_71 : decode prog_1_method_6_code 71 = .ok (.getfield 46, 3) := by decide +kernel
theorem d_PI_piece_74 : decode prog_1_method_6_code 74 = .ok (.iload_n 1, 1) := by decide +kernel
theorem d_PI_piece_75 : decode prog_1_method_6_code 75 = .ok (.invokevirtual 149, 3) := by decide +kernel
theorem d_PI_piece_78 : decode prog_1_method_6_code 78 = .ok (.ireturn, 1) := by decide +kernel
theorem d_PI_piece_79 : decode prog_1_method_6_code 79 = .ok (.aload_n 0, 1) := by decide +kernel
theorem d_PI_piece_80 : decode prog_1_method_6_code 80 = .ok (.getfield 46, 3) := by decide +kernel
theorem d_PI_piece_83 : decode prog_1_method_6_code 83 = .ok (.iload_n 1, 1) := by decide +kernel
theorem d_PI_piece_84 : decode prog_1_method_6_code 84 = .ok (.invokevirtual 152, 3) := by decide +kernel
theorem d_PI_piece_87 : decode prog_1_method_6_code 87 = .ok (.ireturn, 1) := by decide +kernel
theorem d_PI_piece_88 : decode prog_1_method_6_code 88 = .ok (.aload_n 0, 1) := by decide +kernel
theorem d_PI_piece_89 : decode prog_1_method_6_code 89 = .ok (.getfield 46, 3) := by decide +kernel
theorem d_PI_piece_92 : decode prog_1_method_6_code 92 = .ok (.iload_n 1, 1) := by decide +kernel
theorem d_PI_piece_93 : decode prog_1_method_6_code 93 = .ok (.invokevirtual 155, 3) := by decide +kernel
theorem d_PI_piece_96 : decode prog_1_method_6_code 96 = .ok (.ireturn, 1) := by decide +kernel
theorem d_PI_piece_97 : decode prog_1_method_6_code 97 = .ok (.aload_n 0, 1) := by decide +kernel
theorem d_PI_piece_98 : decode prog_1_method_6_code 98 = .ok (.getfield 46, 3) := by decide +kernel
theorem d_PI_piece_101 : decode prog_1_method_6_code 101 = .ok (.iload_n 1, 1) := by decide +kernel
theorem d_PI_piece_102 : decode prog_1_method_6_code 102 = .ok (.invokevirtual 158, 3) := by decide +kernel
theorem d_PI_piece_105 : decode prog_1_method_6_code 105 = .ok (.ireturn, 1) := by decide +kernel
theorem d_PI_piece_106 : decode prog_1_method_6_code 106 = .ok (.aload_n 0, 1) := by decide +kernel
theorem d_PI_piece_107 : decode prog_1_method_6_code 107 = .ok (.getfield 46, 3) := by decide +kernel
theorem d_PI_piece_110 : decode prog_1_method_6_code 110 = .ok (.iload_n 1, 1) := by decide +kernel
theorem d_PI_piece_111 : decode prog_1_method_6_code 111 = .ok (.invokevirtual 161, 3) := by decide +kernel
theorem d_PI_piece_114 : decode prog_1_method_6_code 114 = .ok (.ifCond .eq 7, 3) := by decide +kernel
theorem d_PI_piece_117 : decode prog_1_method_6_code 117 = .ok (.iconst 1, 1) := by decide +kernel
theorem d_PI_piece_118 : decode prog_1_method_6_code 118 = .ok (.goto 4, 3) := by decide +kernel
theorem d_PI_piece_121 : decode prog_1_method_6_code 121 = .ok (.iconst 0, 1) := by decide +kernel
theorem d_PI_piece_122 : decode prog_1_method_6_code 122 = .ok (.ireturn, 1) := by decide +kernel
theorem d_PI_pieceOf_0 : decode prog_1_method_5_code 0 = .ok (.aload_n 0, 1) := by decide +kernel
theorem d_PI_pieceOf_1 : decode prog_1_method_5_code 1 = .ok (.invokevirtual 133, 3) := by decide +kernel
theorem d_PI_pieceOf_4 : decode prog_1_method_5_code 4 = .ok (.aload_n 0, 1) := by decide +kernel
theorem d_PI_pieceOf_5 : decode prog_1_method_5_code 5 = .ok (.iload_n 1, 1) := by decide +kernel
theorem d_PI_pieceOf_6 : decode prog_1_method_5_code 6 = .ok (.iload_n 2, 1) := by decide +kernel
theorem d_PI_pieceOf_7 : decode prog_1_method_5_code 7 = .ok (.invokevirtual 97, 3) := by decide +kernel
theorem d_PI_pieceOf_10 : decode prog_1_method_5_code 10 = .ok (.aload_n 0, 1) := by decide +kernel
theorem d_PI_pieceOf_11 : decode prog_1_method_5_code 11 = .ok (.getfield 46, 3) := by decide +kernel
theorem d_PI_pieceOf_14 : decode prog_1_method_5_code 14 = .ok (.iload_n 1, 1) := by decide +kernel
theorem d_PI_pieceOf_15 : decode prog_1_method_5_code 15 = .ok (.iload_n 2, 1) := by decide +kernel
theorem d_PI_pieceOf_16 : decode prog_1_method_5_code 16 = .ok (.invokevirtual 136, 3) := by decide +kernel
theorem d_PI_pieceOf_19 : decode prog_1_method_5_code 19 = .ok (.ireturn, 1) := by decide +kernel
theorem d_PI_pixel_0 : decode prog_1_method_2_code 0 = .ok (.aload_n 0, 1) := by decide +kernel
theorem d_PI_pixel_1 : decode prog_1_method_2_code 1 = .ok (.iload_n 1, 1) := by decide +kernel
theorem d_PI_pixel_2 : decode prog_1_method_2_code 2 = .ok (.iload_n 2, 1) := by decide +kernel
theorem d_PI_pixel_3 : decode prog_1_method_2_code 3 = .ok (.invokevirtual 97, 3) := by decide +kernel
theorem d_PI_pixel_6 : decode prog_1_method_2_code 6 = .ok (.iload_n 3, 1) := by decide +kernel
theorem d_PI_pixel_7 : decode prog_1_method_2_code 7 = .ok (.iload 4, 2) := by decide +kernel
theorem d_PI_pixel_9 : decode prog_1_method_2_code 9 = .ok (.iload 5, 2) := by decide +kernel
theorem d_PI_pixel_11 : decode prog_1_method_2_code 11 = .ok (.invokestatic 100, 3) := by decide +kernel
theorem d_PI_pixel_14 : decode prog_1_method_2_code 14 = .ok (.aload_n 0, 1) := by decide +kernel
theorem d_PI_pixel_15 : decode prog_1_method_2_code 15 = .ok (.aload_n 0, 1) := by decide +kernel
theorem d_PI_pixel_16 : decode prog_1_method_2_code 16 = .ok (.getfield 34, 3) := by decide +kernel
theorem d_PI_pixel_19 : decode prog_1_method_2_code 19 = .ok (.aload_n 0, 1) := by decide +kernel
theorem d_PI_pixel_20 : decode prog_1_method_2_code 20 = .ok (.getfield 18, 3) := by decide +kernel
theorem d_PI_pixel_23 : decode prog_1_method_2_code 23 = .ok (.iload_n 1, 1) := by decide +kernel
theorem d_PI_pixel_24 : decode prog_1_method_2_code 24 = .ok (.iload_n 2, 1) := by decide +kernel
theorem d_PI_pixel_25 : decode prog_1_method_2_code 25 = .ok (.invokevirtual 104, 3) := by decide +kernel
theorem d_PI_pixel_28 : decode prog_1_method_2_code 28 = .ok (.iload_n 3, 1) := by decide +kernel
theorem d_PI_pixel_29 : decode prog_1_method_2_code 29 = .ok (.iload 4, 2) := by decide +kernel
theorem d_PI_pixel_31 : decode prog_1_method_2_code 31 = .ok (.iload 5, 2) := by decide +kernel
theorem d_PI_pixel_33 : decode prog_1_method_2_code 33 = .ok (.invokevirtual 107, 3) := by decide +kernel
theorem d_PI_pixel_36 : decode prog_1_method_2_code 36 = .ok (.invokevirtual 111, 3) := by decide +kernel
theorem d_PI_pixel_39 : decode prog_1_method_2_code 39 = .ok (.ireturn, 1) := by decide +kernel
theorem d_PI_reached_0 : decode prog_1_method_11_code 0 = .ok (.aload_n 0, 1) := by decide +kernel
theorem d_PI_reached_1 : decode prog_1_method_11_code 1 = .ok (.invokevirtual 133, 3) := by decide +kernel
theorem d_PI_reached_4 : decode prog_1_method_11_code 4 = .ok (.aload_n 0, 1) := by decide +kernel
theorem d_PI_reached_5 : decode prog_1_method_11_code 5 = .ok (.iload_n 1, 1) := by decide +kernel
theorem d_PI_reached_6 : decode prog_1_method_11_code 6 = .ok (.iload_n 2, 1) := by decide +kernel
theorem d_PI_reached_7 : decode prog_1_method_11_code 7 = .ok (.invokevirtual 97, 3) := by decide +kernel
theorem d_PI_reached_10 : decode prog_1_method_11_code 10 = .ok (.iload_n 3, 1) := by decide +kernel
theorem d_PI_reached_11 : decode prog_1_method_11_code 11 = .ok (.iconst 0, 1) := by decide +kernel
theorem d_PI_reached_12 : decode prog_1_method_11_code 12 = .ok (.bipush 10, 2) := by decide +kernel
theorem d_PI_reached_14 : decode prog_1_method_11_code 14 = .ok (.invokestatic 118, 3) := by decide +kernel
theorem d_PI_reached_17 : decode prog_1_method_11_code 17 = .ok (.aload_n 0, 1) := by decide +kernel
theorem d_PI_reached_18 : decode prog_1_method_11_code 18 = .ok (.getfield 79, 3) := by decide +kernel
theorem d_PI_reached_21 : decode prog_1_method_11_code 21 = .ok (.aload_n 0, 1) := by decide +kernel
theorem d_PI_reached_22 : decode prog_1_method_11_code 22 = .ok (.getfield 46, 3) := by decide +kernel
theorem d_PI_reached_25 : decode prog_1_method_11_code 25 = .ok (.iload_n 1, 1) := by decide +kernel
theorem d_PI_reached_26 : decode prog_1_method_11_code 26 = .ok (.iload_n 2, 1) := by decide +kernel
theorem d_PI_reached_27 : decode prog_1_method_11_code 27 = .ok (.invokevirtual 136, 3) := by decide +kernel
theorem d_PI_reached_30 : decode prog_1_method_11_code 30 = .ok (.iload_n 3, 1) := by decide +kernel
theorem d_PI_reached_31 : decode prog_1_method_11_code 31 = .ok (.invokevirtual 180, 3) := by decide +kernel
theorem d_PI_reached_34 : decode prog_1_method_11_code 34 = .ok (.aload_n 0, 1) := by decide +kernel
theorem d_PI_reached_35 : decode prog_1_method_11_code 35 = .ok (.getfield 79, 3) := by decide +kernel
theorem d_PI_reached_38 : decode prog_1_method_11_code 38 = .ok (.iload_n 1, 1) := by decide +kernel
theorem d_PI_reached_39 : decode prog_1_method_11_code 39 = .ok (.iload_n 2, 1) := by decide +kernel
theorem d_PI_reached_40 : decode prog_1_method_11_code 40 = .ok (.invokevirtual 186, 3) := by decide +kernel
theorem d_PI_reached_43 : decode prog_1_method_11_code 43 = .ok (.ireturn, 1) := by decide +kernel
theorem d_PI_sorted_0 : decode prog_1_method_16_code 0 = .ok (.iload_n 1, 1) := by decide +kernel
theorem d_PI_sorted_1 : decode prog_1_method_16_code 1 = .ok (.aload_n 0, 1) := by decide +kernel
theorem d_PI_sorted_2 : decode prog_1_method_16_code 2 = .ok (.getfield 22, 3) := by decide +kernel
theorem d_PI_sorted_5 : decode prog_1_method_16_code 5 = .ok (.invokestatic 115, 3) := by decide +kernel
theorem d_PI_sorted_8 : decode prog_1_method_16_code 8 = .ok (.aload_n 0, 1) := by decide +kernel
theorem d_PI_sorted_9 : decode prog_1_method_16_code 9 = .ok (.getfield 55, 3) := by decide +kernel
theorem d_PI_sorted_12 : decode prog_1_method_16_code 12 = .ok (.aload_n 0, 1) := by decide +kernel
theorem d_PI_sorted_13 : decode prog_1_method_16_code 13 = .ok (.getfield 22, 3) := by decide +kernel
theorem d_PI_sorted_16 : decode prog_1_method_16_code 16 = .ok (.invokevirtual 128, 3) := by decide +kernel
theorem d_PI_sorted_19 : decode prog_1_method_16_code 19 = .ok (.aload_n 0, 1) := by decide +kernel
theorem d_PI_sorted_20 : decode prog_1_method_16_code 20 = .ok (.getfield 55, 3) := by decide +kernel
theorem d_PI_sorted_23 : decode prog_1_method_16_code 23 = .ok (.iload_n 1, 1) := by decide +kernel
theorem d_PI_sorted_24 : decode prog_1_method_16_code 24 = .ok (.invokevirtual 190, 3) := by decide +kernel
theorem d_PI_sorted_27 : decode prog_1_method_16_code 27 = .ok (.ireturn, 1) := by decide +kernel
theorem d_PI_told_0 : decode prog_1_method_19_code 0 = .ok (.iload_n 1, 1) := by decide +kernel
theorem d_PI_told_1 : decode prog_1_method_19_code 1 = .ok (.ifCond .eq 13, 3) := by decide +kernel
theorem d_PI_told_4 : decode prog_1_method_19_code 4 = .ok (.aload_n 0, 1) := by decide +kernel
theorem d_PI_told_5 : decode prog_1_method_19_code 5 = .ok (.iconst 0, 1) := by decide +kernel
theorem d_PI_told_6 : decode prog_1_method_19_code 6 = .ok (.putfield 90, 3) := by decide +kernel
theorem d_PI_told_9 : decode prog_1_method_19_code 9 = .ok (.aload_n 0, 1) := by decide +kernel
theorem d_PI_told_10 : decode prog_1_method_19_code 10 = .ok (.iconst 0, 1) := by decide +kernel
theorem d_PI_told_11 : decode prog_1_method_19_code 11 = .ok (.putfield 94, 3) := by decide +kernel
theorem d_PI_told_14 : decode prog_1_method_19_code 14 = .ok (.iload_n 1, 1) := by decide +kernel
theorem d_PI_told_15 : decode prog_1_method_19_code 15 = .ok (.ireturn, 1) := by decide +kernel
theorem d_Brightest_compare_0 : decode prog_2_method_2_code 0 = .ok (.aload_n 0, 1) := by decide +kernel
theorem d_Brightest_compare_1 : decode prog_2_method_2_code 1 = .ok (.getfield 7, 3) := by decide +kernel
theorem d_Brightest_compare_4 : decode prog_2_method_2_code 4 = .ok (.iload_n 2, 1) := by decide +kernel
theorem d_Brightest_compare_5 : decode prog_2_method_2_code 5 = .ok (.invokevirtual 13, 3) := by decide +kernel
theorem d_Brightest_compare_8 : decode prog_2_method_2_code 8 = .ok (.aload_n 0, 1) := by decide +kernel
theorem d_Brightest_compare_9 : decode prog_2_method_2_code 9 = .ok (.getfield 7, 3) := by decide +kernel
theorem d_Brightest_compare_12 : decode prog_2_method_2_code 12 = .ok (.iload_n 1, 1) := by decide +kernel
theorem d_Brightest_compare_13 : decode prog_2_method_2_code 13 = .ok (.invokevirtual 13, 3) := by decide +kernel
theorem d_Brightest_compare_16 : decode prog_2_method_2_code 16 = .ok (.invokestatic 19, 3) := by decide +kernel
theorem d_Brightest_compare_19 : decode prog_2_method_2_code 19 = .ok (.ireturn, 1) := by decide +kernel
theorem d_Colours_brightness_0 : decode prog_3_method_4_code 0 = .ok (.iconst 2, 1) := by decide +kernel
theorem d_Colours_brightness_1 : decode prog_3_method_4_code 1 = .ok (.aload_n 0, 1) := by decide +kernel
theorem d_Colours_brightness_2 : decode prog_3_method_4_code 2 = .ok (.getfield 7, 3) := by decide +kernel
theorem d_Colours_brightness_5 : decode prog_3_method_4_code 5 = .ok (.iload_n 1, 1) := by decide +kernel
theorem d_Colours_brightness_6 : decode prog_3_method_4_code 6 = .ok (.iaload, 1) := by decide +kernel
theorem d_Colours_brightness_7 : decode prog_3_method_4_code 7 = .ok (.imul, 1) := by decide +kernel
theorem d_Colours_brightness_8 : decode prog_3_method_4_code 8 = .ok (.iconst 5, 1) := by decide +kernel
theorem d_Colours_brightness_9 : decode prog_3_method_4_code 9 = .ok (.aload_n 0, 1) := by decide +kernel
theorem d_Colours_brightness_10 : decode prog_3_method_4_code 10 = .ok (.getfield 13, 3) := by decide +kernel
theorem d_Colours_brightness_13 : decode prog_3_method_4_code 13 = .ok (.iload_n 1, 1) := by decide +kernel
theorem d_Colours_brightness_14 : decode prog_3_method_4_code 14 = .ok (.iaload, 1) := by decide +kernel
theorem d_Colours_brightness_15 : decode prog_3_method_4_code 15 = .ok (.imul, 1) := by decide +kernel
theorem d_Colours_brightness_16 : decode prog_3_method_4_code 16 = .ok (.iadd, 1) := by decide +kernel
theorem d_Colours_brightness_17 : decode prog_3_method_4_code 17 = .ok (.aload_n 0, 1) := by decide +kernel
theorem d_Colours_brightness_18 : decode prog_3_method_4_code 18 = .ok (.getfield 16, 3) := by decide +kernel
theorem d_Colours_brightness_21 : decode prog_3_method_4_code 21 = .ok (.iload_n 1, 1) := by decide +kernel
theorem d_Colours_brightness_22 : decode prog_3_method_4_code 22 = .ok (.iaload, 1) := by decide +kernel
theorem d_Colours_brightness_23 : decode prog_3_method_4_code 23 = .ok (.iadd, 1) := by decide +kernel
theorem d_Colours_brightness_24 : decode prog_3_method_4_code 24 = .ok (.ireturn, 1) := by decide +kernel
theorem d_Colours_distance_0 : decode prog_3_method_3_code 0 = .ok (.aload_n 0, 1) := by decide +kernel
theorem d_Colours_distance_1 : decode prog_3_method_3_code 1 = .ok (.getfield 7, 3) := by decide +kernel
theorem d_Colours_distance_4 : decode prog_3_method_3_code 4 = .ok (.iload_n 1, 1) := by decide +kernel
theorem d_Colours_distance_5 : decode prog_3_method_3_code 5 = .ok (.iaload, 1) := by decide +kernel
theorem d_Colours_distance_6 : decode prog_3_method_3_code 6 = .ok (.aload_n 2, 1) := by decide +kernel
theorem d_Colours_distance_7 : decode prog_3_method_3_code 7 = .ok (.getfield 7, 3) := by decide +kernel
theorem d_Colours_distance_10 : decode prog_3_method_3_code 10 = .ok (.iload_n 3, 1) := by decide +kernel
theorem d_Colours_distance_11 : decode prog_3_method_3_code 11 = .ok (.iaload, 1) := by decide +kernel
theorem d_Colours_distance_12 : decode prog_3_method_3_code 12 = .ok (.isub, 1) := by decide +kernel
theorem d_Colours_distance_13 : decode prog_3_method_3_code 13 = .ok (.invokestatic 19, 3) := by decide +kernel
theorem d_Colours_distance_16 : decode prog_3_method_3_code 16 = .ok (.aload_n 0, 1) := by decide +kernel
theorem d_Colours_distance_17 : decode prog_3_method_3_code 17 = .ok (.getfield 13, 3) := by decide +kernel
theorem d_Colours_distance_20 : decode prog_3_method_3_code 20 = .ok (.iload_n 1, 1) := by decide +kernel
theorem d_Colours_distance_21 : decode prog_3_method_3_code 21 = .ok (.iaload, 1) := by decide +kernel
theorem d_Colours_distance_22 : decode prog_3_method_3_code 22 = .ok (.aload_n 2, 1) := by decide +kernel
theorem d_Colours_distance_23 : decode prog_3_method_3_code 23 = .ok (.getfield 13, 3) := by decide +kernel
theorem d_Colours_distance_26 : decode prog_3_method_3_code 26 = .ok (.iload_n 3, 1) := by decide +kernel
theorem d_Colours_distance_27 : decode prog_3_method_3_code 27 = .ok (.iaload, 1) := by decide +kernel
theorem d_Colours_distance_28 : decode prog_3_method_3_code 28 = .ok (.isub, 1) := by decide +kernel
theorem d_Colours_distance_29 : decode prog_3_method_3_code 29 = .ok (.invokestatic 19, 3) := by decide +kernel
theorem d_Colours_distance_32 : decode prog_3_method_3_code 32 = .ok (.iadd, 1) := by decide +kernel
theorem d_Colours_distance_33 : decode prog_3_method_3_code 33 = .ok (.aload_n 0, 1) := by decide +kernel
theorem d_Colours_distance_34 : decode prog_3_method_3_code 34 = .ok (.getfield 16, 3) := by decide +kernel
theorem d_Colours_distance_37 : decode prog_3_method_3_code 37 = .ok (.iload_n 1, 1) := by decide +kernel
theorem d_Colours_distance_38 : decode prog_3_method_3_code 38 = .ok (.iaload, 1) := by decide +kernel
theorem d_Colours_distance_39 : decode prog_3_method_3_code 39 = .ok (.aload_n 2, 1) := by decide +kernel
theorem d_Colours_distance_40 : decode prog_3_method_3_code 40 = .ok (.getfield 16, 3) := by decide +kernel
theorem d_Colours_distance_43 : decode prog_3_method_3_code 43 = .ok (.iload_n 3, 1) := by decide +kernel
theorem d_Colours_distance_44 : decode prog_3_method_3_code 44 = .ok (.iaload, 1) := by decide +kernel
theorem d_Colours_distance_45 : decode prog_3_method_3_code 45 = .ok (.isub, 1) := by decide +kernel
theorem d_Colours_distance_46 : decode prog_3_method_3_code 46 = .ok (.invokestatic 19, 3) := by decide +kernel
theorem d_Colours_distance_49 : decode prog_3_method_3_code 49 = .ok (.iadd, 1) := by decide +kernel
theorem d_Colours_distance_50 : decode prog_3_method_3_code 50 = .ok (.ireturn, 1) := by decide +kernel
theorem d_Colours_tell_0 : decode prog_3_method_2_code 0 = .ok (.iload_n 1, 1) := by decide +kernel
theorem d_Colours_tell_1 : decode prog_3_method_2_code 1 = .ok (.ifCond .lt 43, 3) := by decide +kernel
theorem d_Colours_tell_4 : decode prog_3_method_2_code 4 = .ok (.iload_n 1, 1) := by decide +kernel
theorem d_Colours_tell_5 : decode prog_3_method_2_code 5 = .ok (.aload_n 0, 1) := by decide +kernel
theorem d_Colours_tell_6 : decode prog_3_method_2_code 6 = .ok (.getfield 7, 3) := by decide +kernel
theorem d_Colours_tell_9 : decode prog_3_method_2_code 9 = .ok (.arraylength, 1) := by decide +kernel
theorem d_Colours_tell_10 : decode prog_3_method_2_code 10 = .ok (.if_icmp .ge 34, 3) := by decide +kernel
theorem d_Colours_tell_13 : decode prog_3_method_2_code 13 = .ok (.aload_n 0, 1) := by decide +kernel
theorem d_Colours_tell_14 : decode prog_3_method_2_code 14 = .ok (.getfield 7, 3) := by decide +kernel
theorem d_Colours_tell_17 : decode prog_3_method_2_code 17 = .ok (.iload_n 1, 1) := by decide +kernel
theorem d_Colours_tell_18 : decode prog_3_method_2_code 18 = .ok (.iaload, 1) := by decide +kernel
theorem d_Colours_tell_19 : decode prog_3_method_2_code 19 = .ok (.iload_n 2, 1) := by decide +kernel
theorem d_Colours_tell_20 : decode prog_3_method_2_code 20 = .ok (.if_icmp .ne 26, 3) := by decide +kernel
theorem d_Colours_tell_23 : decode prog_3_method_2_code 23 = .ok (.aload_n 0, 1) := by decide +kernel
theorem d_Colours_tell_24 : decode prog_3_method_2_code 24 = .ok (.getfield 13, 3) := by decide +kernel
theorem d_Colours_tell_27 : decode prog_3_method_2_code 27 = .ok (.iload_n 1, 1) := by decide +kernel
theorem d_Colours_tell_28 : decode prog_3_method_2_code 28 = .ok (.iaload, 1) := by decide +kernel
theorem d_Colours_tell_29 : decode prog_3_method_2_code 29 = .ok (.iload_n 3, 1) := by decide +kernel
theorem d_Colours_tell_30 : decode prog_3_method_2_code 30 = .ok (.if_icmp .ne 16, 3) := by decide +kernel
theorem d_Colours_tell_33 : decode prog_3_method_2_code 33 = .ok (.aload_n 0, 1) := by decide +kernel
theorem d_Colours_tell_34 : decode prog_3_method_2_code 34 = .ok (.getfield 16, 3) := by decide +kernel
theorem d_Colours_tell_37 : decode prog_3_method_2_code 37 = .ok (.iload_n 1, 1) := by decide +kernel
theorem d_Colours_tell_38 : decode prog_3_method_2_code 38 = .ok (.iaload, 1) := by decide +kernel
theorem d_Colours_tell_39 : decode prog_3_method_2_code 39 = .ok (.iload 4, 2) := by decide +kernel
theorem d_Colours_tell_41 : decode prog_3_method_2_code 41 = .ok (.if_icmp .ne 5, 3) := by decide +kernel
theorem d_Colours_tell_44 : decode prog_3_method_2_code 44 = .ok (.iconst 0, 1) := by decide +kernel
theorem d_Colours_tell_45 : decode prog_3_method_2_code 45 = .ok (.ireturn, 1) := by decide +kernel
theorem d_Colours_tell_46 : decode prog_3_method_2_code 46 = .ok (.aload_n 0, 1) := by decide +kernel
theorem d_Colours_tell_47 : decode prog_3_method_2_code 47 = .ok (.getfield 7, 3) := by decide +kernel
theorem d_Colours_tell_50 : decode prog_3_method_2_code 50 = .ok (.iload_n 1, 1) := by decide +kernel
theorem d_Colours_tell_51 : decode prog_3_method_2_code 51 = .ok (.iload_n 2, 1) := by decide +kernel
theorem d_Colours_tell_52 : decode prog_3_method_2_code 52 = .ok (.iastore, 1) := by decide +kernel
theorem d_Colours_tell_53 : decode prog_3_method_2_code 53 = .ok (.aload_n 0, 1) := by decide +kernel
theorem d_Colours_tell_54 : decode prog_3_method_2_code 54 = .ok (.getfield 13, 3) := by decide +kernel
theorem d_Colours_tell_57 : decode prog_3_method_2_code 57 = .ok (.iload_n 1, 1) := by decide +kernel
theorem d_Colours_tell_58 : decode prog_3_method_2_code 58 = .ok (.iload_n 3, 1) := by decide +kernel
theorem d_Colours_tell_59 : decode prog_3_method_2_code 59 = .ok (.iastore, 1) := by decide +kernel
theorem d_Colours_tell_60 : decode prog_3_method_2_code 60 = .ok (.aload_n 0, 1) := by decide +kernel
theorem d_Colours_tell_61 : decode prog_3_method_2_code 61 = .ok (.getfield 16, 3) := by decide +kernel
theorem d_Colours_tell_64 : decode prog_3_method_2_code 64 = .ok (.iload_n 1, 1) := by decide +kernel
theorem d_Colours_tell_65 : decode prog_3_method_2_code 65 = .ok (.iload 4, 2) := by decide +kernel
theorem d_Colours_tell_67 : decode prog_3_method_2_code 67 = .ok (.iastore, 1) := by decide +kernel
theorem d_Colours_tell_68 : decode prog_3_method_2_code 68 = .ok (.iconst 1, 1) := by decide +kernel
theorem d_Colours_tell_69 : decode prog_3_method_2_code 69 = .ok (.ireturn, 1) := by decide +kernel
theorem d_Grid_besideOf_0 : decode prog_4_method_5_code 0 = .ok (.aload_n 0, 1) := by decide +kernel
theorem d_Grid_besideOf_1 : decode prog_4_method_5_code 1 = .ok (.getfield 28, 3) := by decide +kernel
theorem d_Grid_besideOf_4 : decode prog_4_method_5_code 4 = .ok (.iload_n 1, 1) := by decide +kernel
theorem d_Grid_besideOf_5 : decode prog_4_method_5_code 5 = .ok (.iconst 4, 1) := by decide +kernel
theorem d_Grid_besideOf_6 : decode prog_4_method_5_code 6 = .ok (.imul, 1) := by decide +kernel
theorem d_Grid_besideOf_7 : decode prog_4_method_5_code 7 = .ok (.iload_n 2, 1) := by decide +kernel
theorem d_Grid_besideOf_8 : decode prog_4_method_5_code 8 = .ok (.iadd, 1) := by decide +kernel
theorem d_Grid_besideOf_9 : decode prog_4_method_5_code 9 = .ok (.iaload, 1) := by decide +kernel
theorem d_Grid_besideOf_10 : decode prog_4_method_5_code 10 = .ok (.ireturn, 1) := by decide +kernel
theorem d_Grid_columnOf_0 : decode prog_4_method_3_code 0 = .ok (.aload_n 0, 1) := by decide +kernel
theorem d_Grid_columnOf_1 : decode prog_4_method_3_code 1 = .ok (.getfield 21, 3) := by decide +kernel
theorem d_Grid_columnOf_4 : decode prog_4_method_3_code 4 = .ok (.iload_n 1, 1) := by decide +kernel
theorem d_Grid_columnOf_5 : decode prog_4_method_3_code 5 = .ok (.iaload, 1) := by decide +kernel
theorem d_Grid_columnOf_6 : decode prog_4_method_3_code 6 = .ok (.ireturn, 1) := by decide +kernel
theorem d_Grid_placeOf_0 : decode prog_4_method_2_code 0 = .ok (.iload_n 1, 1) := by decide +kernel
theorem d_Grid_placeOf_1 : decode prog_4_method_2_code 1 = .ok (.ifCond .lt 27, 3) := by decide +kernel
theorem d_Grid_placeOf_4 : decode prog_4_method_2_code 4 = .ok (.iload_n 1, 1) := by decide +kernel
theorem d_Grid_placeOf_5 : decode prog_4_method_2_code 5 = .ok (.aload_n 0, 1) := by decide +kernel
theorem d_Grid_placeOf_6 : decode prog_4_method_2_code 6 = .ok (.getfield 9, 3) := by decide +kernel
theorem d_Grid_placeOf_9 : decode prog_4_method_2_code 9 = .ok (.if_icmp .ge 19, 3) := by decide +kernel
theorem d_Grid_placeOf_12 : decode prog_4_method_2_code 12 = .ok (.iload_n 2, 1) := by decide +kernel
theorem d_Grid_placeOf_13 : decode prog_4_method_2_code 13 = .ok (.ifCond .lt 15, 3) := by decide +kernel
theorem d_Grid_placeOf_16 : decode prog_4_method_2_code 16 = .ok (.iload_n 2, 1) := by decide +kernel
theorem d_Grid_placeOf_17 : decode prog_4_method_2_code 17 = .ok (.aload_n 0, 1) := by decide +kernel
theorem d_Grid_placeOf_18 : decode prog_4_method_2_code 18 = .ok (.getfield 15, 3) := by decide +kernel
theorem d_Grid_placeOf_21 : decode prog_4_method_2_code 21 = .ok (.if_icmp .ge 7, 3) := by decide +kernel
theorem d_Grid_placeOf_24 : decode prog_4_method_2_code 24 = .ok (.iconst 1, 1) := by decide +kernel
theorem d_Grid_placeOf_25 : decode prog_4_method_2_code 25 = .ok (.goto 4, 3) := by decide +kernel
theorem d_Grid_placeOf_28 : decode prog_4_method_2_code 28 = .ok (.iconst 0, 1) := by decide +kernel
theorem d_Grid_placeOf_29 : decode prog_4_method_2_code 29 = .ok (.istore_n 3, 1) := by decide +kernel
theorem d_Grid_placeOf_30 : decode prog_4_method_2_code 30 = .ok (.iload_n 3, 1) := by decide +kernel
theorem d_Grid_placeOf_31 : decode prog_4_method_2_code 31 = .ok (.ifCond .eq 14, 3) := by decide +kernel
theorem d_Grid_placeOf_34 : decode prog_4_method_2_code 34 = .ok (.iload_n 2, 1) := by decide +kernel
theorem d_Grid_placeOf_35 : decode prog_4_method_2_code 35 = .ok (.aload_n 0, 1) := by decide +kernel
theorem d_Grid_placeOf_36 : decode prog_4_method_2_code 36 = .ok (.getfield 9, 3) := by decide +kernel
theorem d_Grid_placeOf_39 : decode prog_4_method_2_code 39 = .ok (.imul, 1) := by decide +kernel
theorem d_Grid_placeOf_40 : decode prog_4_method_2_code 40 = .ok (.iload_n 1, 1) := by decide +kernel
theorem d_Grid_placeOf_41 : decode prog_4_method_2_code 41 = .ok (.iadd, 1) := by decide +kernel
theorem d_Grid_placeOf_42 : decode prog_4_method_2_code 42 = .ok (.goto 4, 3) := by decide +kernel
theorem d_Grid_placeOf_45 : decode prog_4_method_2_code 45 = .ok (.iconst (-1), 1) := by decide +kernel
theorem d_Grid_placeOf_46 : decode prog_4_method_2_code 46 = .ok (.ireturn, 1) := by decide +kernel
theorem d_Grid_rowOf_0 : decode prog_4_method_4_code 0 = .ok (.aload_n 0, 1) := by decide +kernel
theorem d_Grid_rowOf_1 : decode prog_4_method_4_code 1 = .ok (.getfield 25, 3) := by decide +kernel
theorem d_Grid_rowOf_4 : decode prog_4_method_4_code 4 = .ok (.iload_n 1, 1) := by decide +kernel
theorem d_Grid_rowOf_5 : decode prog_4_method_4_code 5 = .ok (.iaload, 1) := by decide +kernel
end
section
theorem d_Grid_rowOf_6 : decode prog_4_method_4_code 6 = .ok (.ireturn, 1) := by decide +kernel
theorem d_Highest_compare_0 : decode prog_5_method_2_code 0 = .ok (.aload_n 0, 1) := by decide +kernel
theorem d_Highest_compare_1 : decode prog_5_method_2_code 1 = .ok (.getfield 7, 3) := by decide +kernel
theorem d_Highest_compare_4 : decode prog_5_method_2_code 4 = .ok (.iload_n 1, 1) := by decide +kernel
theorem d_Highest_compare_5 : decode prog_5_method_2_code 5 = .ok (.invokevirtual 13, 3) := by decide +kernel
theorem d_Highest_compare_8 : decode prog_5_method_2_code 8 = .ok (.aload_n 0, 1) := by decide +kernel
theorem d_Highest_compare_9 : decode prog_5_method_2_code 9 = .ok (.getfield 7, 3) := by decide +kernel
theorem d_Highest_compare_12 : decode prog_5_method_2_code 12 = .ok (.iload_n 2, 1) := by decide +kernel
theorem d_Highest_compare_13 : decode prog_5_method_2_code 13 = .ok (.invokevirtual 13, 3) := by decide +kernel
theorem d_Highest_compare_16 : decode prog_5_method_2_code 16 = .ok (.if_icmp .eq 23, 3) := by decide +kernel
theorem d_Highest_compare_19 : decode prog_5_method_2_code 19 = .ok (.aload_n 0, 1) := by decide +kernel
theorem d_Highest_compare_20 : decode prog_5_method_2_code 20 = .ok (.getfield 7, 3) := by decide +kernel
theorem d_Highest_compare_23 : decode prog_5_method_2_code 23 = .ok (.iload_n 2, 1) := by decide +kernel
theorem d_Highest_compare_24 : decode prog_5_method_2_code 24 = .ok (.invokevirtual 13, 3) := by decide +kernel
theorem d_Highest_compare_27 : decode prog_5_method_2_code 27 = .ok (.aload_n 0, 1) := by decide +kernel
theorem d_Highest_compare_28 : decode prog_5_method_2_code 28 = .ok (.getfield 7, 3) := by decide +kernel
theorem d_Highest_compare_31 : decode prog_5_method_2_code 31 = .ok (.iload_n 1, 1) := by decide +kernel
theorem d_Highest_compare_32 : decode prog_5_method_2_code 32 = .ok (.invokevirtual 13, 3) := by decide +kernel
theorem d_Highest_compare_35 : decode prog_5_method_2_code 35 = .ok (.invokestatic 19, 3) := by decide +kernel
theorem d_Highest_compare_38 : decode prog_5_method_2_code 38 = .ok (.ireturn, 1) := by decide +kernel
theorem d_Highest_compare_39 : decode prog_5_method_2_code 39 = .ok (.aload_n 0, 1) := by decide +kernel
theorem d_Highest_compare_40 : decode prog_5_method_2_code 40 = .ok (.getfield 7, 3) := by decide +kernel
theorem d_Highest_compare_43 : decode prog_5_method_2_code 43 = .ok (.iload_n 2, 1) := by decide +kernel
theorem d_Highest_compare_44 : decode prog_5_method_2_code 44 = .ok (.invokevirtual 25, 3) := by decide +kernel
theorem d_Highest_compare_47 : decode prog_5_method_2_code 47 = .ok (.aload_n 0, 1) := by decide +kernel
theorem d_Highest_compare_48 : decode prog_5_method_2_code 48 = .ok (.getfield 7, 3) := by decide +kernel
theorem d_Highest_compare_51 : decode prog_5_method_2_code 51 = .ok (.iload_n 1, 1) := by decide +kernel
theorem d_Highest_compare_52 : decode prog_5_method_2_code 52 = .ok (.invokevirtual 25, 3) := by decide +kernel
theorem d_Highest_compare_55 : decode prog_5_method_2_code 55 = .ok (.invokestatic 19, 3) := by decide +kernel
theorem d_Highest_compare_58 : decode prog_5_method_2_code 58 = .ok (.ireturn, 1) := by decide +kernel
theorem d_Laying_compare_0 : decode prog_6_method_2_code 0 = .ok (.aload_n 0, 1) := by decide +kernel
theorem d_Laying_compare_1 : decode prog_6_method_2_code 1 = .ok (.getfield 7, 3) := by decide +kernel
theorem d_Laying_compare_4 : decode prog_6_method_2_code 4 = .ok (.iload_n 1, 1) := by decide +kernel
theorem d_Laying_compare_5 : decode prog_6_method_2_code 5 = .ok (.invokevirtual 13, 3) := by decide +kernel
theorem d_Laying_compare_8 : decode prog_6_method_2_code 8 = .ok (.aload_n 0, 1) := by decide +kernel
theorem d_Laying_compare_9 : decode prog_6_method_2_code 9 = .ok (.getfield 7, 3) := by decide +kernel
theorem d_Laying_compare_12 : decode prog_6_method_2_code 12 = .ok (.iload_n 2, 1) := by decide +kernel
theorem d_Laying_compare_13 : decode prog_6_method_2_code 13 = .ok (.invokevirtual 13, 3) := by decide +kernel
theorem d_Laying_compare_16 : decode prog_6_method_2_code 16 = .ok (.if_icmp .eq 20, 3) := by decide +kernel
theorem d_Laying_compare_19 : decode prog_6_method_2_code 19 = .ok (.aload_n 0, 1) := by decide +kernel
theorem d_Laying_compare_20 : decode prog_6_method_2_code 20 = .ok (.getfield 7, 3) := by decide +kernel
theorem d_Laying_compare_23 : decode prog_6_method_2_code 23 = .ok (.iload_n 2, 1) := by decide +kernel
theorem d_Laying_compare_24 : decode prog_6_method_2_code 24 = .ok (.invokevirtual 13, 3) := by decide +kernel
theorem d_Laying_compare_27 : decode prog_6_method_2_code 27 = .ok (.ifCond .eq 7, 3) := by decide +kernel
theorem d_Laying_compare_30 : decode prog_6_method_2_code 30 = .ok (.iconst (-1), 1) := by decide +kernel
theorem d_Laying_compare_31 : decode prog_6_method_2_code 31 = .ok (.goto 4, 3) := by decide +kernel
theorem d_Laying_compare_34 : decode prog_6_method_2_code 34 = .ok (.iconst 1, 1) := by decide +kernel
theorem d_Laying_compare_35 : decode prog_6_method_2_code 35 = .ok (.ireturn, 1) := by decide +kernel
theorem d_Laying_compare_36 : decode prog_6_method_2_code 36 = .ok (.aload_n 0, 1) := by decide +kernel
theorem d_Laying_compare_37 : decode prog_6_method_2_code 37 = .ok (.getfield 7, 3) := by decide +kernel
theorem d_Laying_compare_40 : decode prog_6_method_2_code 40 = .ok (.iload_n 2, 1) := by decide +kernel
theorem d_Laying_compare_41 : decode prog_6_method_2_code 41 = .ok (.invokevirtual 19, 3) := by decide +kernel
theorem d_Laying_compare_44 : decode prog_6_method_2_code 44 = .ok (.aload_n 0, 1) := by decide +kernel
theorem d_Laying_compare_45 : decode prog_6_method_2_code 45 = .ok (.getfield 7, 3) := by decide +kernel
theorem d_Laying_compare_48 : decode prog_6_method_2_code 48 = .ok (.iload_n 1, 1) := by decide +kernel
theorem d_Laying_compare_49 : decode prog_6_method_2_code 49 = .ok (.invokevirtual 19, 3) := by decide +kernel
theorem d_Laying_compare_52 : decode prog_6_method_2_code 52 = .ok (.invokestatic 23, 3) := by decide +kernel
theorem d_Laying_compare_55 : decode prog_6_method_2_code 55 = .ok (.ireturn, 1) := by decide +kernel
theorem d_Pieces_begin_0 : decode prog_7_method_6_code 0 = .ok (.aload_n 0, 1) := by decide +kernel
theorem d_Pieces_begin_1 : decode prog_7_method_6_code 1 = .ok (.getfield 34, 3) := by decide +kernel
theorem d_Pieces_begin_4 : decode prog_7_method_6_code 4 = .ok (.iload_n 2, 1) := by decide +kernel
theorem d_Pieces_begin_5 : decode prog_7_method_6_code 5 = .ok (.iload_n 1, 1) := by decide +kernel
theorem d_Pieces_begin_6 : decode prog_7_method_6_code 6 = .ok (.iastore, 1) := by decide +kernel
theorem d_Pieces_begin_7 : decode prog_7_method_6_code 7 = .ok (.aload_n 0, 1) := by decide +kernel
theorem d_Pieces_begin_8 : decode prog_7_method_6_code 8 = .ok (.getfield 37, 3) := by decide +kernel
theorem d_Pieces_begin_11 : decode prog_7_method_6_code 11 = .ok (.iload_n 2, 1) := by decide +kernel
theorem d_Pieces_begin_12 : decode prog_7_method_6_code 12 = .ok (.iconst 0, 1) := by decide +kernel
theorem d_Pieces_begin_13 : decode prog_7_method_6_code 13 = .ok (.iastore, 1) := by decide +kernel
theorem d_Pieces_begin_14 : decode prog_7_method_6_code 14 = .ok (.aload_n 0, 1) := by decide +kernel
theorem d_Pieces_begin_15 : decode prog_7_method_6_code 15 = .ok (.getfield 40, 3) := by decide +kernel
theorem d_Pieces_begin_18 : decode prog_7_method_6_code 18 = .ok (.iload_n 2, 1) := by decide +kernel
theorem d_Pieces_begin_19 : decode prog_7_method_6_code 19 = .ok (.aload_n 0, 1) := by decide +kernel
theorem d_Pieces_begin_20 : decode prog_7_method_6_code 20 = .ok (.getfield 9, 3) := by decide +kernel
theorem d_Pieces_begin_23 : decode prog_7_method_6_code 23 = .ok (.iload_n 1, 1) := by decide +kernel
theorem d_Pieces_begin_24 : decode prog_7_method_6_code 24 = .ok (.invokevirtual 89, 3) := by decide +kernel
theorem d_Pieces_begin_27 : decode prog_7_method_6_code 27 = .ok (.iastore, 1) := by decide +kernel
theorem d_Pieces_begin_28 : decode prog_7_method_6_code 28 = .ok (.aload_n 0, 1) := by decide +kernel
theorem d_Pieces_begin_29 : decode prog_7_method_6_code 29 = .ok (.getfield 43, 3) := by decide +kernel
theorem d_Pieces_begin_32 : decode prog_7_method_6_code 32 = .ok (.iload_n 2, 1) := by decide +kernel
theorem d_Pieces_begin_33 : decode prog_7_method_6_code 33 = .ok (.aload_n 0, 1) := by decide +kernel
theorem d_Pieces_begin_34 : decode prog_7_method_6_code 34 = .ok (.getfield 9, 3) := by decide +kernel
theorem d_Pieces_begin_37 : decode prog_7_method_6_code 37 = .ok (.iload_n 1, 1) := by decide +kernel
theorem d_Pieces_begin_38 : decode prog_7_method_6_code 38 = .ok (.invokevirtual 89, 3) := by decide +kernel
theorem d_Pieces_begin_41 : decode prog_7_method_6_code 41 = .ok (.iastore, 1) := by decide +kernel
theorem d_Pieces_begin_42 : decode prog_7_method_6_code 42 = .ok (.aload_n 0, 1) := by decide +kernel
theorem d_Pieces_begin_43 : decode prog_7_method_6_code 43 = .ok (.getfield 46, 3) := by decide +kernel
theorem d_Pieces_begin_46 : decode prog_7_method_6_code 46 = .ok (.iload_n 2, 1) := by decide +kernel
theorem d_Pieces_begin_47 : decode prog_7_method_6_code 47 = .ok (.aload_n 0, 1) := by decide +kernel
theorem d_Pieces_begin_48 : decode prog_7_method_6_code 48 = .ok (.getfield 9, 3) := by decide +kernel
theorem d_Pieces_begin_51 : decode prog_7_method_6_code 51 = .ok (.iload_n 1, 1) := by decide +kernel
theorem d_Pieces_begin_52 : decode prog_7_method_6_code 52 = .ok (.invokevirtual 93, 3) := by decide +kernel
theorem d_Pieces_begin_55 : decode prog_7_method_6_code 55 = .ok (.iastore, 1) := by decide +kernel
theorem d_Pieces_begin_56 : decode prog_7_method_6_code 56 = .ok (.return_, 1) := by decide +kernel
theorem d_Pieces_closestTo_0 : decode prog_7_method_10_code 0 = .ok (.aload_n 0, 1) := by decide +kernel
theorem d_Pieces_closestTo_1 : decode prog_7_method_10_code 1 = .ok (.iload_n 1, 1) := by decide +kernel
theorem d_Pieces_closestTo_2 : decode prog_7_method_10_code 2 = .ok (.invokevirtual 114, 3) := by decide +kernel
theorem d_Pieces_closestTo_5 : decode prog_7_method_10_code 5 = .ok (.iconst 0, 1) := by decide +kernel
theorem d_Pieces_closestTo_6 : decode prog_7_method_10_code 6 = .ok (.istore_n 2, 1) := by decide +kernel
theorem d_Pieces_closestTo_7 : decode prog_7_method_10_code 7 = .ok (.iconst 1, 1) := by decide +kernel
theorem d_Pieces_closestTo_8 : decode prog_7_method_10_code 8 = .ok (.istore_n 3, 1) := by decide +kernel
theorem d_Pieces_closestTo_9 : decode prog_7_method_10_code 9 = .ok (.iload_n 3, 1) := by decide +kernel
theorem d_Pieces_closestTo_10 : decode prog_7_method_10_code 10 = .ok (.aload_n 0, 1) := by decide +kernel
theorem d_Pieces_closestTo_11 : decode prog_7_method_10_code 11 = .ok (.getfield 49, 3) := by decide +kernel
theorem d_Pieces_closestTo_14 : decode prog_7_method_10_code 14 = .ok (.if_icmp .ge 26, 3) := by decide +kernel
theorem d_Pieces_closestTo_17 : decode prog_7_method_10_code 17 = .ok (.aload_n 0, 1) := by decide +kernel
theorem d_Pieces_closestTo_18 : decode prog_7_method_10_code 18 = .ok (.getfield 31, 3) := by decide +kernel
theorem d_Pieces_closestTo_21 : decode prog_7_method_10_code 21 = .ok (.iload_n 3, 1) := by decide +kernel
theorem d_Pieces_closestTo_22 : decode prog_7_method_10_code 22 = .ok (.iaload, 1) := by decide +kernel
theorem d_Pieces_closestTo_23 : decode prog_7_method_10_code 23 = .ok (.aload_n 0, 1) := by decide +kernel
theorem d_Pieces_closestTo_24 : decode prog_7_method_10_code 24 = .ok (.getfield 31, 3) := by decide +kernel
theorem d_Pieces_closestTo_27 : decode prog_7_method_10_code 27 = .ok (.iload_n 2, 1) := by decide +kernel
theorem d_Pieces_closestTo_28 : decode prog_7_method_10_code 28 = .ok (.iaload, 1) := by decide +kernel
theorem d_Pieces_closestTo_29 : decode prog_7_method_10_code 29 = .ok (.if_icmp .le 5, 3) := by decide +kernel
theorem d_Pieces_closestTo_32 : decode prog_7_method_10_code 32 = .ok (.iload_n 3, 1) := by decide +kernel
theorem d_Pieces_closestTo_33 : decode prog_7_method_10_code 33 = .ok (.istore_n 2, 1) := by decide +kernel
theorem d_Pieces_closestTo_34 : decode prog_7_method_10_code 34 = .ok (.iinc 3 1, 3) := by decide +kernel
theorem d_Pieces_closestTo_37 : decode prog_7_method_10_code 37 = .ok (.goto (-28), 3) := by decide +kernel
theorem d_Pieces_closestTo_40 : decode prog_7_method_10_code 40 = .ok (.iload_n 2, 1) := by decide +kernel
theorem d_Pieces_closestTo_41 : decode prog_7_method_10_code 41 = .ok (.ireturn, 1) := by decide +kernel
theorem d_Pieces_columnsOf_0 : decode prog_7_method_20_code 0 = .ok (.aload_n 0, 1) := by decide +kernel
theorem d_Pieces_columnsOf_1 : decode prog_7_method_20_code 1 = .ok (.getfield 43, 3) := by decide +kernel
theorem d_Pieces_columnsOf_4 : decode prog_7_method_20_code 4 = .ok (.iload_n 1, 1) := by decide +kernel
theorem d_Pieces_columnsOf_5 : decode prog_7_method_20_code 5 = .ok (.iaload, 1) := by decide +kernel
theorem d_Pieces_columnsOf_6 : decode prog_7_method_20_code 6 = .ok (.aload_n 0, 1) := by decide +kernel
theorem d_Pieces_columnsOf_7 : decode prog_7_method_20_code 7 = .ok (.getfield 40, 3) := by decide +kernel
theorem d_Pieces_columnsOf_10 : decode prog_7_method_20_code 10 = .ok (.iload_n 1, 1) := by decide +kernel
theorem d_Pieces_columnsOf_11 : decode prog_7_method_20_code 11 = .ok (.iaload, 1) := by decide +kernel
theorem d_Pieces_columnsOf_12 : decode prog_7_method_20_code 12 = .ok (.isub, 1) := by decide +kernel
theorem d_Pieces_columnsOf_13 : decode prog_7_method_20_code 13 = .ok (.iconst 1, 1) := by decide +kernel
theorem d_Pieces_columnsOf_14 : decode prog_7_method_20_code 14 = .ok (.iadd, 1) := by decide +kernel
theorem d_Pieces_columnsOf_15 : decode prog_7_method_20_code 15 = .ok (.ireturn, 1) := by decide +kernel
theorem d_Pieces_countSidesAt_0 : decode prog_7_method_12_code 0 = .ok (.iconst 0, 1) := by decide +kernel
theorem d_Pieces_countSidesAt_1 : decode prog_7_method_12_code 1 = .ok (.istore_n 2, 1) := by decide +kernel
theorem d_Pieces_countSidesAt_2 : decode prog_7_method_12_code 2 = .ok (.iload_n 2, 1) := by decide +kernel
theorem d_Pieces_countSidesAt_3 : decode prog_7_method_12_code 3 = .ok (.iconst 4, 1) := by decide +kernel
theorem d_Pieces_countSidesAt_4 : decode prog_7_method_12_code 4 = .ok (.if_icmp .ge 54, 3) := by decide +kernel
theorem d_Pieces_countSidesAt_7 : decode prog_7_method_12_code 7 = .ok (.aload_n 0, 1) := by decide +kernel
theorem d_Pieces_countSidesAt_8 : decode prog_7_method_12_code 8 = .ok (.getfield 9, 3) := by decide +kernel
theorem d_Pieces_countSidesAt_11 : decode prog_7_method_12_code 11 = .ok (.iload_n 1, 1) := by decide +kernel
theorem d_Pieces_countSidesAt_12 : decode prog_7_method_12_code 12 = .ok (.iload_n 2, 1) := by decide +kernel
theorem d_Pieces_countSidesAt_13 : decode prog_7_method_12_code 13 = .ok (.invokevirtual 85, 3) := by decide +kernel
theorem d_Pieces_countSidesAt_16 : decode prog_7_method_12_code 16 = .ok (.istore_n 3, 1) := by decide +kernel
theorem d_Pieces_countSidesAt_17 : decode prog_7_method_12_code 17 = .ok (.iload_n 3, 1) := by decide +kernel
theorem d_Pieces_countSidesAt_18 : decode prog_7_method_12_code 18 = .ok (.iconst (-1), 1) := by decide +kernel
theorem d_Pieces_countSidesAt_19 : decode prog_7_method_12_code 19 = .ok (.if_icmp .eq 33, 3) := by decide +kernel
theorem d_Pieces_countSidesAt_22 : decode prog_7_method_12_code 22 = .ok (.aload_n 0, 1) := by decide +kernel
theorem d_Pieces_countSidesAt_23 : decode prog_7_method_12_code 23 = .ok (.getfield 25, 3) := by decide +kernel
theorem d_Pieces_countSidesAt_26 : decode prog_7_method_12_code 26 = .ok (.iload_n 3, 1) := by decide +kernel
theorem d_Pieces_countSidesAt_27 : decode prog_7_method_12_code 27 = .ok (.iaload, 1) := by decide +kernel
theorem d_Pieces_countSidesAt_28 : decode prog_7_method_12_code 28 = .ok (.aload_n 0, 1) := by decide +kernel
theorem d_Pieces_countSidesAt_29 : decode prog_7_method_12_code 29 = .ok (.getfield 25, 3) := by decide +kernel
theorem d_Pieces_countSidesAt_32 : decode prog_7_method_12_code 32 = .ok (.iload_n 1, 1) := by decide +kernel
theorem d_Pieces_countSidesAt_33 : decode prog_7_method_12_code 33 = .ok (.iaload, 1) := by decide +kernel
theorem d_Pieces_countSidesAt_34 : decode prog_7_method_12_code 34 = .ok (.if_icmp .eq 18, 3) := by decide +kernel
theorem d_Pieces_countSidesAt_37 : decode prog_7_method_12_code 37 = .ok (.aload_n 0, 1) := by decide +kernel
theorem d_Pieces_countSidesAt_38 : decode prog_7_method_12_code 38 = .ok (.getfield 31, 3) := by decide +kernel
theorem d_Pieces_countSidesAt_41 : decode prog_7_method_12_code 41 = .ok (.aload_n 0, 1) := by decide +kernel
theorem d_Pieces_countSidesAt_42 : decode prog_7_method_12_code 42 = .ok (.getfield 25, 3) := by decide +kernel
theorem d_Pieces_countSidesAt_45 : decode prog_7_method_12_code 45 = .ok (.iload_n 3, 1) := by decide +kernel
theorem d_Pieces_countSidesAt_46 : decode prog_7_method_12_code 46 = .ok (.iaload, 1) := by decide +kernel
theorem d_Pieces_countSidesAt_47 : decode prog_7_method_12_code 47 = .ok (.dup2, 1) := by decide +kernel
theorem d_Pieces_countSidesAt_48 : decode prog_7_method_12_code 48 = .ok (.iaload, 1) := by decide +kernel
theorem d_Pieces_countSidesAt_49 : decode prog_7_method_12_code 49 = .ok (.iconst 1, 1) := by decide +kernel
theorem d_Pieces_countSidesAt_50 : decode prog_7_method_12_code 50 = .ok (.iadd, 1) := by decide +kernel
theorem d_Pieces_countSidesAt_51 : decode prog_7_method_12_code 51 = .ok (.iastore, 1) := by decide +kernel
theorem d_Pieces_countSidesAt_52 : decode prog_7_method_12_code 52 = .ok (.iinc 2 1, 3) := by decide +kernel
theorem d_Pieces_countSidesAt_55 : decode prog_7_method_12_code 55 = .ok (.goto (-53), 3) := by decide +kernel
theorem d_Pieces_countSidesAt_58 : decode prog_7_method_12_code 58 = .ok (.return_, 1) := by decide +kernel
theorem d_Pieces_countSidesOf_0 : decode prog_7_method_11_code 0 = .ok (.aload_n 0, 1) := by decide +kernel
theorem d_Pieces_countSidesOf_1 : decode prog_7_method_11_code 1 = .ok (.getfield 31, 3) := by decide +kernel
theorem d_Pieces_countSidesOf_4 : decode prog_7_method_11_code 4 = .ok (.iconst 0, 1) := by decide +kernel
theorem d_Pieces_countSidesOf_5 : decode prog_7_method_11_code 5 = .ok (.invokestatic 69, 3) := by decide +kernel
theorem d_Pieces_countSidesOf_8 : decode prog_7_method_11_code 8 = .ok (.iconst 0, 1) := by decide +kernel
theorem d_Pieces_countSidesOf_9 : decode prog_7_method_11_code 9 = .ok (.istore_n 2, 1) := by decide +kernel
theorem d_Pieces_countSidesOf_10 : decode prog_7_method_11_code 10 = .ok (.iload_n 2, 1) := by decide +kernel
theorem d_Pieces_countSidesOf_11 : decode prog_7_method_11_code 11 = .ok (.aload_n 0, 1) := by decide +kernel
theorem d_Pieces_countSidesOf_12 : decode prog_7_method_11_code 12 = .ok (.getfield 9, 3) := by decide +kernel
theorem d_Pieces_countSidesOf_15 : decode prog_7_method_11_code 15 = .ok (.getfield 15, 3) := by decide +kernel
theorem d_Pieces_countSidesOf_18 : decode prog_7_method_11_code 18 = .ok (.if_icmp .ge 24, 3) := by decide +kernel
theorem d_Pieces_countSidesOf_21 : decode prog_7_method_11_code 21 = .ok (.aload_n 0, 1) := by decide +kernel
theorem d_Pieces_countSidesOf_22 : decode prog_7_method_11_code 22 = .ok (.getfield 25, 3) := by decide +kernel
theorem d_Pieces_countSidesOf_25 : decode prog_7_method_11_code 25 = .ok (.iload_n 2, 1) := by decide +kernel
theorem d_Pieces_countSidesOf_26 : decode prog_7_method_11_code 26 = .ok (.iaload, 1) := by decide +kernel
theorem d_Pieces_countSidesOf_27 : decode prog_7_method_11_code 27 = .ok (.iload_n 1, 1) := by decide +kernel
theorem d_Pieces_countSidesOf_28 : decode prog_7_method_11_code 28 = .ok (.if_icmp .ne 8, 3) := by decide +kernel
theorem d_Pieces_countSidesOf_31 : decode prog_7_method_11_code 31 = .ok (.aload_n 0, 1) := by decide +kernel
theorem d_Pieces_countSidesOf_32 : decode prog_7_method_11_code 32 = .ok (.iload_n 2, 1) := by decide +kernel
theorem d_Pieces_countSidesOf_33 : decode prog_7_method_11_code 33 = .ok (.invokevirtual 118, 3) := by decide +kernel
theorem d_Pieces_countSidesOf_36 : decode prog_7_method_11_code 36 = .ok (.iinc 2 1, 3) := by decide +kernel
theorem d_Pieces_countSidesOf_39 : decode prog_7_method_11_code 39 = .ok (.goto (-29), 3) := by decide +kernel
theorem d_Pieces_countSidesOf_42 : decode prog_7_method_11_code 42 = .ok (.return_, 1) := by decide +kernel
theorem d_Pieces_firstXOf_0 : decode prog_7_method_17_code 0 = .ok (.aload_n 0, 1) := by decide +kernel
theorem d_Pieces_firstXOf_1 : decode prog_7_method_17_code 1 = .ok (.getfield 9, 3) := by decide +kernel
theorem d_Pieces_firstXOf_4 : decode prog_7_method_17_code 4 = .ok (.aload_n 0, 1) := by decide +kernel
theorem d_Pieces_firstXOf_5 : decode prog_7_method_17_code 5 = .ok (.getfield 34, 3) := by decide +kernel
theorem d_Pieces_firstXOf_8 : decode prog_7_method_17_code 8 = .ok (.iload_n 1, 1) := by decide +kernel
theorem d_Pieces_firstXOf_9 : decode prog_7_method_17_code 9 = .ok (.iaload, 1) := by decide +kernel
theorem d_Pieces_firstXOf_10 : decode prog_7_method_17_code 10 = .ok (.invokevirtual 89, 3) := by decide +kernel
theorem d_Pieces_firstXOf_13 : decode prog_7_method_17_code 13 = .ok (.ireturn, 1) := by decide +kernel
theorem d_Pieces_gather_0 : decode prog_7_method_5_code 0 = .ok (.aload_n 0, 1) := by decide +kernel
theorem d_Pieces_gather_1 : decode prog_7_method_5_code 1 = .ok (.iload_n 1, 1) := by decide +kernel
theorem d_Pieces_gather_2 : decode prog_7_method_5_code 2 = .ok (.iload_n 2, 1) := by decide +kernel
theorem d_Pieces_gather_3 : decode prog_7_method_5_code 3 = .ok (.invokevirtual 79, 3) := by decide +kernel
theorem d_Pieces_gather_6 : decode prog_7_method_5_code 6 = .ok (.aload_n 0, 1) := by decide +kernel
theorem d_Pieces_gather_7 : decode prog_7_method_5_code 7 = .ok (.getfield 25, 3) := by decide +kernel
theorem d_Pieces_gather_10 : decode prog_7_method_5_code 10 = .ok (.iload_n 1, 1) := by decide +kernel
theorem d_Pieces_gather_11 : decode prog_7_method_5_code 11 = .ok (.iload_n 2, 1) := by decide +kernel
theorem d_Pieces_gather_12 : decode prog_7_method_5_code 12 = .ok (.iastore, 1) := by decide +kernel
theorem d_Pieces_gather_13 : decode prog_7_method_5_code 13 = .ok (.aload_n 0, 1) := by decide +kernel
theorem d_Pieces_gather_14 : decode prog_7_method_5_code 14 = .ok (.getfield 28, 3) := by decide +kernel
theorem d_Pieces_gather_17 : decode prog_7_method_5_code 17 = .ok (.iconst 0, 1) := by decide +kernel
theorem d_Pieces_gather_18 : decode prog_7_method_5_code 18 = .ok (.iload_n 1, 1) := by decide +kernel
theorem d_Pieces_gather_19 : decode prog_7_method_5_code 19 = .ok (.iastore, 1) := by decide +kernel
theorem d_Pieces_gather_20 : decode prog_7_method_5_code 20 = .ok (.iconst 1, 1) := by decide +kernel
theorem d_Pieces_gather_21 : decode prog_7_method_5_code 21 = .ok (.istore_n 3, 1) := by decide +kernel
theorem d_Pieces_gather_22 : decode prog_7_method_5_code 22 = .ok (.iconst 0, 1) := by decide +kernel
theorem d_Pieces_gather_23 : decode prog_7_method_5_code 23 = .ok (.istore 4, 2) := by decide +kernel
theorem d_Pieces_gather_25 : decode prog_7_method_5_code 25 = .ok (.iload 4, 2) := by decide +kernel
theorem d_Pieces_gather_27 : decode prog_7_method_5_code 27 = .ok (.iload_n 3, 1) := by decide +kernel
theorem d_Pieces_gather_28 : decode prog_7_method_5_code 28 = .ok (.if_icmp .ge 128, 3) := by decide +kernel
theorem d_Pieces_gather_31 : decode prog_7_method_5_code 31 = .ok (.iload 4, 2) := by decide +kernel
theorem d_Pieces_gather_33 : decode prog_7_method_5_code 33 = .ok (.aload_n 0, 1) := by decide +kernel
theorem d_Pieces_gather_34 : decode prog_7_method_5_code 34 = .ok (.getfield 9, 3) := by decide +kernel
theorem d_Pieces_gather_37 : decode prog_7_method_5_code 37 = .ok (.getfield 15, 3) := by decide +kernel
theorem d_Pieces_gather_40 : decode prog_7_method_5_code 40 = .ok (.if_icmp .ge 116, 3) := by decide +kernel
theorem d_Pieces_gather_43 : decode prog_7_method_5_code 43 = .ok (.aload_n 0, 1) := by decide +kernel
theorem d_Pieces_gather_44 : decode prog_7_method_5_code 44 = .ok (.getfield 28, 3) := by decide +kernel
theorem d_Pieces_gather_47 : decode prog_7_method_5_code 47 = .ok (.iload 4, 2) := by decide +kernel
theorem d_Pieces_gather_49 : decode prog_7_method_5_code 49 = .ok (.iaload, 1) := by decide +kernel
theorem d_Pieces_gather_50 : decode prog_7_method_5_code 50 = .ok (.istore 5, 2) := by decide +kernel
theorem d_Pieces_gather_52 : decode prog_7_method_5_code 52 = .ok (.aload_n 0, 1) := by decide +kernel
theorem d_Pieces_gather_53 : decode prog_7_method_5_code 53 = .ok (.iload 5, 2) := by decide +kernel
theorem d_Pieces_gather_55 : decode prog_7_method_5_code 55 = .ok (.iload_n 2, 1) := by decide +kernel
theorem d_Pieces_gather_56 : decode prog_7_method_5_code 56 = .ok (.invokevirtual 82, 3) := by decide +kernel
theorem d_Pieces_gather_59 : decode prog_7_method_5_code 59 = .ok (.iconst 0, 1) := by decide +kernel
theorem d_Pieces_gather_60 : decode prog_7_method_5_code 60 = .ok (.istore 6, 2) := by decide +kernel
theorem d_Pieces_gather_62 : decode prog_7_method_5_code 62 = .ok (.iload 6, 2) := by decide +kernel
theorem d_Pieces_gather_64 : decode prog_7_method_5_code 64 = .ok (.iconst 4, 1) := by decide +kernel
theorem d_Pieces_gather_65 : decode prog_7_method_5_code 65 = .ok (.if_icmp .ge 85, 3) := by decide +kernel
theorem d_Pieces_gather_68 : decode prog_7_method_5_code 68 = .ok (.aload_n 0, 1) := by decide +kernel
theorem d_Pieces_gather_69 : decode prog_7_method_5_code 69 = .ok (.getfield 9, 3) := by decide +kernel
theorem d_Pieces_gather_72 : decode prog_7_method_5_code 72 = .ok (.iload 5, 2) := by decide +kernel
theorem d_Pieces_gather_74 : decode prog_7_method_5_code 74 = .ok (.iload 6, 2) := by decide +kernel
theorem d_Pieces_gather_76 : decode prog_7_method_5_code 76 = .ok (.invokevirtual 85, 3) := by decide +kernel
theorem d_Pieces_gather_79 : decode prog_7_method_5_code 79 = .ok (.istore 7, 2) := by decide +kernel
theorem d_Pieces_gather_81 : decode prog_7_method_5_code 81 = .ok (.iload 7, 2) := by decide +kernel
theorem d_Pieces_gather_83 : decode prog_7_method_5_code 83 = .ok (.iconst (-1), 1) := by decide +kernel
theorem d_Pieces_gather_84 : decode prog_7_method_5_code 84 = .ok (.if_icmp .eq 60, 3) := by decide +kernel
theorem d_Pieces_gather_87 : decode prog_7_method_5_code 87 = .ok (.aload_n 0, 1) := by decide +kernel
theorem d_Pieces_gather_88 : decode prog_7_method_5_code 88 = .ok (.getfield 25, 3) := by decide +kernel
theorem d_Pieces_gather_91 : decode prog_7_method_5_code 91 = .ok (.iload 7, 2) := by decide +kernel
theorem d_Pieces_gather_93 : decode prog_7_method_5_code 93 = .ok (.iaload, 1) := by decide +kernel
theorem d_Pieces_gather_94 : decode prog_7_method_5_code 94 = .ok (.iconst (-1), 1) := by decide +kernel
theorem d_Pieces_gather_95 : decode prog_7_method_5_code 95 = .ok (.if_icmp .ne 49, 3) := by decide +kernel
theorem d_Pieces_gather_98 : decode prog_7_method_5_code 98 = .ok (.aload_n 0, 1) := by decide +kernel
theorem d_Pieces_gather_99 : decode prog_7_method_5_code 99 = .ok (.getfield 21, 3) := by decide +kernel
theorem d_Pieces_gather_102 : decode prog_7_method_5_code 102 = .ok (.iload 7, 2) := by decide +kernel
theorem d_Pieces_gather_104 : decode prog_7_method_5_code 104 = .ok (.iaload, 1) := by decide +kernel
theorem d_Pieces_gather_105 : decode prog_7_method_5_code 105 = .ok (.aload_n 0, 1) := by decide +kernel
theorem d_Pieces_gather_106 : decode prog_7_method_5_code 106 = .ok (.getfield 21, 3) := by decide +kernel
theorem d_Pieces_gather_109 : decode prog_7_method_5_code 109 = .ok (.iload_n 1, 1) := by decide +kernel
theorem d_Pieces_gather_110 : decode prog_7_method_5_code 110 = .ok (.iaload, 1) := by decide +kernel
theorem d_Pieces_gather_111 : decode prog_7_method_5_code 111 = .ok (.if_icmp .ne 33, 3) := by decide +kernel
theorem d_Pieces_gather_114 : decode prog_7_method_5_code 114 = .ok (.iload_n 3, 1) := by decide +kernel
theorem d_Pieces_gather_115 : decode prog_7_method_5_code 115 = .ok (.aload_n 0, 1) := by decide +kernel
theorem d_Pieces_gather_116 : decode prog_7_method_5_code 116 = .ok (.getfield 9, 3) := by decide +kernel
theorem d_Pieces_gather_119 : decode prog_7_method_5_code 119 = .ok (.getfield 15, 3) := by decide +kernel
theorem d_Pieces_gather_122 : decode prog_7_method_5_code 122 = .ok (.if_icmp .ge 22, 3) := by decide +kernel
theorem d_Pieces_gather_125 : decode prog_7_method_5_code 125 = .ok (.aload_n 0, 1) := by decide +kernel
theorem d_Pieces_gather_126 : decode prog_7_method_5_code 126 = .ok (.getfield 25, 3) := by decide +kernel
theorem d_Pieces_gather_129 : decode prog_7_method_5_code 129 = .ok (.iload 7, 2) := by decide +kernel
theorem d_Pieces_gather_131 : decode prog_7_method_5_code 131 = .ok (.iload_n 2, 1) := by decide +kernel
theorem d_Pieces_gather_132 : decode prog_7_method_5_code 132 = .ok (.iastore, 1) := by decide +kernel
theorem d_Pieces_gather_133 : decode prog_7_method_5_code 133 = .ok (.aload_n 0, 1) := by decide +kernel
theorem d_Pieces_gather_134 : decode prog_7_method_5_code 134 = .ok (.getfield 28, 3) := by decide +kernel
theorem d_Pieces_gather_137 : decode prog_7_method_5_code 137 = .ok (.iload_n 3, 1) := by decide +kernel
theorem d_Pieces_gather_138 : decode prog_7_method_5_code 138 = .ok (.iload 7, 2) := by decide +kernel
theorem d_Pieces_gather_140 : decode prog_7_method_5_code 140 = .ok (.iastore, 1) := by decide +kernel
theorem d_Pieces_gather_141 : decode prog_7_method_5_code 141 = .ok (.iinc 3 1, 3) := by decide +kernel
theorem d_Pieces_gather_144 : decode prog_7_method_5_code 144 = .ok (.iinc 6 1, 3) := by decide +kernel
theorem d_Pieces_gather_147 : decode prog_7_method_5_code 147 = .ok (.goto (-85), 3) := by decide +kernel
theorem d_Pieces_gather_150 : decode prog_7_method_5_code 150 = .ok (.iinc 4 1, 3) := by decide +kernel
theorem d_Pieces_gather_153 : decode prog_7_method_5_code 153 = .ok (.goto (-128), 3) := by decide +kernel
theorem d_Pieces_gather_156 : decode prog_7_method_5_code 156 = .ok (.return_, 1) := by decide +kernel
theorem d_Pieces_gatherAll_0 : decode prog_7_method_4_code 0 = .ok (.aload_n 0, 1) := by decide +kernel
theorem d_Pieces_gatherAll_1 : decode prog_7_method_4_code 1 = .ok (.getfield 25, 3) := by decide +kernel
theorem d_Pieces_gatherAll_4 : decode prog_7_method_4_code 4 = .ok (.iconst (-1), 1) := by decide +kernel
theorem d_Pieces_gatherAll_5 : decode prog_7_method_4_code 5 = .ok (.invokestatic 69, 3) := by decide +kernel
theorem d_Pieces_gatherAll_8 : decode prog_7_method_4_code 8 = .ok (.aload_n 0, 1) := by decide +kernel
theorem d_Pieces_gatherAll_9 : decode prog_7_method_4_code 9 = .ok (.iconst 0, 1) := by decide +kernel
theorem d_Pieces_gatherAll_10 : decode prog_7_method_4_code 10 = .ok (.putfield 49, 3) := by decide +kernel
theorem d_Pieces_gatherAll_13 : decode prog_7_method_4_code 13 = .ok (.iconst 0, 1) := by decide +kernel
theorem d_Pieces_gatherAll_14 : decode prog_7_method_4_code 14 = .ok (.istore_n 1, 1) := by decide +kernel
theorem d_Pieces_gatherAll_15 : decode prog_7_method_4_code 15 = .ok (.iload_n 1, 1) := by decide +kernel
theorem d_Pieces_gatherAll_16 : decode prog_7_method_4_code 16 = .ok (.aload_n 0, 1) := by decide +kernel
theorem d_Pieces_gatherAll_17 : decode prog_7_method_4_code 17 = .ok (.getfield 9, 3) := by decide +kernel
theorem d_Pieces_gatherAll_20 : decode prog_7_method_4_code 20 = .ok (.getfield 15, 3) := by decide +kernel
theorem d_Pieces_gatherAll_23 : decode prog_7_method_4_code 23 = .ok (.if_icmp .ge 38, 3) := by decide +kernel
theorem d_Pieces_gatherAll_26 : decode prog_7_method_4_code 26 = .ok (.aload_n 0, 1) := by decide +kernel
theorem d_Pieces_gatherAll_27 : decode prog_7_method_4_code 27 = .ok (.getfield 25, 3) := by decide +kernel
end
section
theorem d_Pieces_gatherAll_30 : decode prog_7_method_4_code 30 = .ok (.iload_n 1, 1) := by decide +kernel
theorem d_Pieces_gatherAll_31 : decode prog_7_method_4_code 31 = .ok (.iaload, 1) := by decide +kernel
theorem d_Pieces_gatherAll_32 : decode prog_7_method_4_code 32 = .ok (.iconst (-1), 1) := by decide +kernel
theorem d_Pieces_gatherAll_33 : decode prog_7_method_4_code 33 = .ok (.if_icmp .ne 22, 3) := by decide +kernel
theorem d_Pieces_gatherAll_36 : decode prog_7_method_4_code 36 = .ok (.aload_n 0, 1) := by decide +kernel
theorem d_Pieces_gatherAll_37 : decode prog_7_method_4_code 37 = .ok (.iload_n 1, 1) := by decide +kernel
theorem d_Pieces_gatherAll_38 : decode prog_7_method_4_code 38 = .ok (.aload_n 0, 1) := by decide +kernel
theorem d_Pieces_gatherAll_39 : decode prog_7_method_4_code 39 = .ok (.getfield 49, 3) := by decide +kernel
theorem d_Pieces_gatherAll_42 : decode prog_7_method_4_code 42 = .ok (.invokevirtual 75, 3) := by decide +kernel
theorem d_Pieces_gatherAll_45 : decode prog_7_method_4_code 45 = .ok (.aload_n 0, 1) := by decide +kernel
theorem d_Pieces_gatherAll_46 : decode prog_7_method_4_code 46 = .ok (.dup, 1) := by decide +kernel
theorem d_Pieces_gatherAll_47 : decode prog_7_method_4_code 47 = .ok (.getfield 49, 3) := by decide +kernel
theorem d_Pieces_gatherAll_50 : decode prog_7_method_4_code 50 = .ok (.iconst 1, 1) := by decide +kernel
theorem d_Pieces_gatherAll_51 : decode prog_7_method_4_code 51 = .ok (.iadd, 1) := by decide +kernel
theorem d_Pieces_gatherAll_52 : decode prog_7_method_4_code 52 = .ok (.putfield 49, 3) := by decide +kernel
theorem d_Pieces_gatherAll_55 : decode prog_7_method_4_code 55 = .ok (.iinc 1 1, 3) := by decide +kernel
theorem d_Pieces_gatherAll_58 : decode prog_7_method_4_code 58 = .ok (.goto (-43), 3) := by decide +kernel
theorem d_Pieces_gatherAll_61 : decode prog_7_method_4_code 61 = .ok (.return_, 1) := by decide +kernel
theorem d_Pieces_include_0 : decode prog_7_method_7_code 0 = .ok (.aload_n 0, 1) := by decide +kernel
theorem d_Pieces_include_1 : decode prog_7_method_7_code 1 = .ok (.getfield 37, 3) := by decide +kernel
theorem d_Pieces_include_4 : decode prog_7_method_7_code 4 = .ok (.iload_n 2, 1) := by decide +kernel
theorem d_Pieces_include_5 : decode prog_7_method_7_code 5 = .ok (.dup2, 1) := by decide +kernel
theorem d_Pieces_include_6 : decode prog_7_method_7_code 6 = .ok (.iaload, 1) := by decide +kernel
theorem d_Pieces_include_7 : decode prog_7_method_7_code 7 = .ok (.iconst 1, 1) := by decide +kernel
theorem d_Pieces_include_8 : decode prog_7_method_7_code 8 = .ok (.iadd, 1) := by decide +kernel
theorem d_Pieces_include_9 : decode prog_7_method_7_code 9 = .ok (.iastore, 1) := by decide +kernel
theorem d_Pieces_include_10 : decode prog_7_method_7_code 10 = .ok (.aload_n 0, 1) := by decide +kernel
theorem d_Pieces_include_11 : decode prog_7_method_7_code 11 = .ok (.getfield 40, 3) := by decide +kernel
theorem d_Pieces_include_14 : decode prog_7_method_7_code 14 = .ok (.iload_n 2, 1) := by decide +kernel
theorem d_Pieces_include_15 : decode prog_7_method_7_code 15 = .ok (.aload_n 0, 1) := by decide +kernel
theorem d_Pieces_include_16 : decode prog_7_method_7_code 16 = .ok (.getfield 40, 3) := by decide +kernel
theorem d_Pieces_include_19 : decode prog_7_method_7_code 19 = .ok (.iload_n 2, 1) := by decide +kernel
theorem d_Pieces_include_20 : decode prog_7_method_7_code 20 = .ok (.iaload, 1) := by decide +kernel
theorem d_Pieces_include_21 : decode prog_7_method_7_code 21 = .ok (.aload_n 0, 1) := by decide +kernel
theorem d_Pieces_include_22 : decode prog_7_method_7_code 22 = .ok (.getfield 9, 3) := by decide +kernel
theorem d_Pieces_include_25 : decode prog_7_method_7_code 25 = .ok (.iload_n 1, 1) := by decide +kernel
theorem d_Pieces_include_26 : decode prog_7_method_7_code 26 = .ok (.invokevirtual 89, 3) := by decide +kernel
theorem d_Pieces_include_29 : decode prog_7_method_7_code 29 = .ok (.invokestatic 96, 3) := by decide +kernel
theorem d_Pieces_include_32 : decode prog_7_method_7_code 32 = .ok (.iastore, 1) := by decide +kernel
theorem d_Pieces_include_33 : decode prog_7_method_7_code 33 = .ok (.aload_n 0, 1) := by decide +kernel
theorem d_Pieces_include_34 : decode prog_7_method_7_code 34 = .ok (.getfield 43, 3) := by decide +kernel
theorem d_Pieces_include_37 : decode prog_7_method_7_code 37 = .ok (.iload_n 2, 1) := by decide +kernel
theorem d_Pieces_include_38 : decode prog_7_method_7_code 38 = .ok (.aload_n 0, 1) := by decide +kernel
theorem d_Pieces_include_39 : decode prog_7_method_7_code 39 = .ok (.getfield 43, 3) := by decide +kernel
theorem d_Pieces_include_42 : decode prog_7_method_7_code 42 = .ok (.iload_n 2, 1) := by decide +kernel
theorem d_Pieces_include_43 : decode prog_7_method_7_code 43 = .ok (.iaload, 1) := by decide +kernel
theorem d_Pieces_include_44 : decode prog_7_method_7_code 44 = .ok (.aload_n 0, 1) := by decide +kernel
theorem d_Pieces_include_45 : decode prog_7_method_7_code 45 = .ok (.getfield 9, 3) := by decide +kernel
theorem d_Pieces_include_48 : decode prog_7_method_7_code 48 = .ok (.iload_n 1, 1) := by decide +kernel
theorem d_Pieces_include_49 : decode prog_7_method_7_code 49 = .ok (.invokevirtual 89, 3) := by decide +kernel
theorem d_Pieces_include_52 : decode prog_7_method_7_code 52 = .ok (.invokestatic 101, 3) := by decide +kernel
theorem d_Pieces_include_55 : decode prog_7_method_7_code 55 = .ok (.iastore, 1) := by decide +kernel
theorem d_Pieces_include_56 : decode prog_7_method_7_code 56 = .ok (.aload_n 0, 1) := by decide +kernel
theorem d_Pieces_include_57 : decode prog_7_method_7_code 57 = .ok (.getfield 46, 3) := by decide +kernel
theorem d_Pieces_include_60 : decode prog_7_method_7_code 60 = .ok (.iload_n 2, 1) := by decide +kernel
theorem d_Pieces_include_61 : decode prog_7_method_7_code 61 = .ok (.aload_n 0, 1) := by decide +kernel
theorem d_Pieces_include_62 : decode prog_7_method_7_code 62 = .ok (.getfield 46, 3) := by decide +kernel
theorem d_Pieces_include_65 : decode prog_7_method_7_code 65 = .ok (.iload_n 2, 1) := by decide +kernel
theorem d_Pieces_include_66 : decode prog_7_method_7_code 66 = .ok (.iaload, 1) := by decide +kernel
theorem d_Pieces_include_67 : decode prog_7_method_7_code 67 = .ok (.aload_n 0, 1) := by decide +kernel
theorem d_Pieces_include_68 : decode prog_7_method_7_code 68 = .ok (.getfield 9, 3) := by decide +kernel
theorem d_Pieces_include_71 : decode prog_7_method_7_code 71 = .ok (.iload_n 1, 1) := by decide +kernel
theorem d_Pieces_include_72 : decode prog_7_method_7_code 72 = .ok (.invokevirtual 93, 3) := by decide +kernel
theorem d_Pieces_include_75 : decode prog_7_method_7_code 75 = .ok (.invokestatic 101, 3) := by decide +kernel
theorem d_Pieces_include_78 : decode prog_7_method_7_code 78 = .ok (.iastore, 1) := by decide +kernel
theorem d_Pieces_include_79 : decode prog_7_method_7_code 79 = .ok (.return_, 1) := by decide +kernel
theorem d_Pieces_isAtEdge_0 : decode prog_7_method_22_code 0 = .ok (.aload_n 0, 1) := by decide +kernel
theorem d_Pieces_isAtEdge_1 : decode prog_7_method_22_code 1 = .ok (.getfield 40, 3) := by decide +kernel
theorem d_Pieces_isAtEdge_4 : decode prog_7_method_22_code 4 = .ok (.iload_n 1, 1) := by decide +kernel
theorem d_Pieces_isAtEdge_5 : decode prog_7_method_22_code 5 = .ok (.iaload, 1) := by decide +kernel
theorem d_Pieces_isAtEdge_6 : decode prog_7_method_22_code 6 = .ok (.ifCond .eq 47, 3) := by decide +kernel
theorem d_Pieces_isAtEdge_9 : decode prog_7_method_22_code 9 = .ok (.aload_n 0, 1) := by decide +kernel
theorem d_Pieces_isAtEdge_10 : decode prog_7_method_22_code 10 = .ok (.getfield 43, 3) := by decide +kernel
theorem d_Pieces_isAtEdge_13 : decode prog_7_method_22_code 13 = .ok (.iload_n 1, 1) := by decide +kernel
theorem d_Pieces_isAtEdge_14 : decode prog_7_method_22_code 14 = .ok (.iaload, 1) := by decide +kernel
theorem d_Pieces_isAtEdge_15 : decode prog_7_method_22_code 15 = .ok (.aload_n 0, 1) := by decide +kernel
theorem d_Pieces_isAtEdge_16 : decode prog_7_method_22_code 16 = .ok (.getfield 9, 3) := by decide +kernel
theorem d_Pieces_isAtEdge_19 : decode prog_7_method_22_code 19 = .ok (.getfield 127, 3) := by decide +kernel
theorem d_Pieces_isAtEdge_22 : decode prog_7_method_22_code 22 = .ok (.iconst 1, 1) := by decide +kernel
theorem d_Pieces_isAtEdge_23 : decode prog_7_method_22_code 23 = .ok (.isub, 1) := by decide +kernel
theorem d_Pieces_isAtEdge_24 : decode prog_7_method_22_code 24 = .ok (.if_icmp .eq 29, 3) := by decide +kernel
theorem d_Pieces_isAtEdge_27 : decode prog_7_method_22_code 27 = .ok (.aload_n 0, 1) := by decide +kernel
theorem d_Pieces_isAtEdge_28 : decode prog_7_method_22_code 28 = .ok (.iload_n 1, 1) := by decide +kernel
theorem d_Pieces_isAtEdge_29 : decode prog_7_method_22_code 29 = .ok (.invokevirtual 124, 3) := by decide +kernel
theorem d_Pieces_isAtEdge_32 : decode prog_7_method_22_code 32 = .ok (.ifCond .eq 21, 3) := by decide +kernel
theorem d_Pieces_isAtEdge_35 : decode prog_7_method_22_code 35 = .ok (.aload_n 0, 1) := by decide +kernel
theorem d_Pieces_isAtEdge_36 : decode prog_7_method_22_code 36 = .ok (.getfield 46, 3) := by decide +kernel
theorem d_Pieces_isAtEdge_39 : decode prog_7_method_22_code 39 = .ok (.iload_n 1, 1) := by decide +kernel
theorem d_Pieces_isAtEdge_40 : decode prog_7_method_22_code 40 = .ok (.iaload, 1) := by decide +kernel
theorem d_Pieces_isAtEdge_41 : decode prog_7_method_22_code 41 = .ok (.aload_n 0, 1) := by decide +kernel
theorem d_Pieces_isAtEdge_42 : decode prog_7_method_22_code 42 = .ok (.getfield 9, 3) := by decide +kernel
theorem d_Pieces_isAtEdge_45 : decode prog_7_method_22_code 45 = .ok (.getfield 130, 3) := by decide +kernel
theorem d_Pieces_isAtEdge_48 : decode prog_7_method_22_code 48 = .ok (.iconst 1, 1) := by decide +kernel
theorem d_Pieces_isAtEdge_49 : decode prog_7_method_22_code 49 = .ok (.isub, 1) := by decide +kernel
theorem d_Pieces_isAtEdge_50 : decode prog_7_method_22_code 50 = .ok (.if_icmp .ne 7, 3) := by decide +kernel
theorem d_Pieces_isAtEdge_53 : decode prog_7_method_22_code 53 = .ok (.iconst 1, 1) := by decide +kernel
theorem d_Pieces_isAtEdge_54 : decode prog_7_method_22_code 54 = .ok (.goto 4, 3) := by decide +kernel
theorem d_Pieces_isAtEdge_57 : decode prog_7_method_22_code 57 = .ok (.iconst 0, 1) := by decide +kernel
theorem d_Pieces_isAtEdge_58 : decode prog_7_method_22_code 58 = .ok (.ireturn, 1) := by decide +kernel
theorem d_Pieces_joinSmallest_0 : decode prog_7_method_8_code 0 = .ok (.aload_n 0, 1) := by decide +kernel
theorem d_Pieces_joinSmallest_1 : decode prog_7_method_8_code 1 = .ok (.invokevirtual 104, 3) := by decide +kernel
theorem d_Pieces_joinSmallest_4 : decode prog_7_method_8_code 4 = .ok (.istore_n 2, 1) := by decide +kernel
theorem d_Pieces_joinSmallest_5 : decode prog_7_method_8_code 5 = .ok (.aload_n 0, 1) := by decide +kernel
theorem d_Pieces_joinSmallest_6 : decode prog_7_method_8_code 6 = .ok (.getfield 49, 3) := by decide +kernel
theorem d_Pieces_joinSmallest_9 : decode prog_7_method_8_code 9 = .ok (.iconst 2, 1) := by decide +kernel
theorem d_Pieces_joinSmallest_10 : decode prog_7_method_8_code 10 = .ok (.if_icmp .lt 13, 3) := by decide +kernel
theorem d_Pieces_joinSmallest_13 : decode prog_7_method_8_code 13 = .ok (.aload_n 0, 1) := by decide +kernel
theorem d_Pieces_joinSmallest_14 : decode prog_7_method_8_code 14 = .ok (.getfield 37, 3) := by decide +kernel
theorem d_Pieces_joinSmallest_17 : decode prog_7_method_8_code 17 = .ok (.iload_n 2, 1) := by decide +kernel
theorem d_Pieces_joinSmallest_18 : decode prog_7_method_8_code 18 = .ok (.iaload, 1) := by decide +kernel
theorem d_Pieces_joinSmallest_19 : decode prog_7_method_8_code 19 = .ok (.iload_n 1, 1) := by decide +kernel
theorem d_Pieces_joinSmallest_20 : decode prog_7_method_8_code 20 = .ok (.if_icmp .lt 5, 3) := by decide +kernel
theorem d_Pieces_joinSmallest_23 : decode prog_7_method_8_code 23 = .ok (.iconst 0, 1) := by decide +kernel
theorem d_Pieces_joinSmallest_24 : decode prog_7_method_8_code 24 = .ok (.ireturn, 1) := by decide +kernel
theorem d_Pieces_joinSmallest_25 : decode prog_7_method_8_code 25 = .ok (.aload_n 0, 1) := by decide +kernel
theorem d_Pieces_joinSmallest_26 : decode prog_7_method_8_code 26 = .ok (.aload_n 0, 1) := by decide +kernel
theorem d_Pieces_joinSmallest_27 : decode prog_7_method_8_code 27 = .ok (.iload_n 2, 1) := by decide +kernel
theorem d_Pieces_joinSmallest_28 : decode prog_7_method_8_code 28 = .ok (.invokevirtual 108, 3) := by decide +kernel
theorem d_Pieces_joinSmallest_31 : decode prog_7_method_8_code 31 = .ok (.invokevirtual 111, 3) := by decide +kernel
theorem d_Pieces_joinSmallest_34 : decode prog_7_method_8_code 34 = .ok (.istore_n 3, 1) := by decide +kernel
theorem d_Pieces_joinSmallest_35 : decode prog_7_method_8_code 35 = .ok (.iconst 0, 1) := by decide +kernel
theorem d_Pieces_joinSmallest_36 : decode prog_7_method_8_code 36 = .ok (.istore 4, 2) := by decide +kernel
theorem d_Pieces_joinSmallest_38 : decode prog_7_method_8_code 38 = .ok (.iload 4, 2) := by decide +kernel
theorem d_Pieces_joinSmallest_40 : decode prog_7_method_8_code 40 = .ok (.aload_n 0, 1) := by decide +kernel
theorem d_Pieces_joinSmallest_41 : decode prog_7_method_8_code 41 = .ok (.getfield 9, 3) := by decide +kernel
theorem d_Pieces_joinSmallest_44 : decode prog_7_method_8_code 44 = .ok (.getfield 15, 3) := by decide +kernel
theorem d_Pieces_joinSmallest_47 : decode prog_7_method_8_code 47 = .ok (.if_icmp .ge 28, 3) := by decide +kernel
theorem d_Pieces_joinSmallest_50 : decode prog_7_method_8_code 50 = .ok (.aload_n 0, 1) := by decide +kernel
theorem d_Pieces_joinSmallest_51 : decode prog_7_method_8_code 51 = .ok (.getfield 25, 3) := by decide +kernel
theorem d_Pieces_joinSmallest_54 : decode prog_7_method_8_code 54 = .ok (.iload 4, 2) := by decide +kernel
theorem d_Pieces_joinSmallest_56 : decode prog_7_method_8_code 56 = .ok (.iaload, 1) := by decide +kernel
theorem d_Pieces_joinSmallest_57 : decode prog_7_method_8_code 57 = .ok (.iload_n 2, 1) := by decide +kernel
theorem d_Pieces_joinSmallest_58 : decode prog_7_method_8_code 58 = .ok (.if_icmp .ne 11, 3) := by decide +kernel
theorem d_Pieces_joinSmallest_61 : decode prog_7_method_8_code 61 = .ok (.aload_n 0, 1) := by decide +kernel
theorem d_Pieces_joinSmallest_62 : decode prog_7_method_8_code 62 = .ok (.getfield 21, 3) := by decide +kernel
theorem d_Pieces_joinSmallest_65 : decode prog_7_method_8_code 65 = .ok (.iload 4, 2) := by decide +kernel
theorem d_Pieces_joinSmallest_67 : decode prog_7_method_8_code 67 = .ok (.iload_n 3, 1) := by decide +kernel
theorem d_Pieces_joinSmallest_68 : decode prog_7_method_8_code 68 = .ok (.iastore, 1) := by decide +kernel
theorem d_Pieces_joinSmallest_69 : decode prog_7_method_8_code 69 = .ok (.iinc 4 1, 3) := by decide +kernel
theorem d_Pieces_joinSmallest_72 : decode prog_7_method_8_code 72 = .ok (.goto (-34), 3) := by decide +kernel
theorem d_Pieces_joinSmallest_75 : decode prog_7_method_8_code 75 = .ok (.iconst 1, 1) := by decide +kernel
theorem d_Pieces_joinSmallest_76 : decode prog_7_method_8_code 76 = .ok (.ireturn, 1) := by decide +kernel
theorem d_Pieces_leastXOf_0 : decode prog_7_method_18_code 0 = .ok (.aload_n 0, 1) := by decide +kernel
theorem d_Pieces_leastXOf_1 : decode prog_7_method_18_code 1 = .ok (.getfield 40, 3) := by decide +kernel
theorem d_Pieces_leastXOf_4 : decode prog_7_method_18_code 4 = .ok (.iload_n 1, 1) := by decide +kernel
theorem d_Pieces_leastXOf_5 : decode prog_7_method_18_code 5 = .ok (.iaload, 1) := by decide +kernel
theorem d_Pieces_leastXOf_6 : decode prog_7_method_18_code 6 = .ok (.ireturn, 1) := by decide +kernel
theorem d_Pieces_leastYOf_0 : decode prog_7_method_19_code 0 = .ok (.aload_n 0, 1) := by decide +kernel
theorem d_Pieces_leastYOf_1 : decode prog_7_method_19_code 1 = .ok (.getfield 9, 3) := by decide +kernel
theorem d_Pieces_leastYOf_4 : decode prog_7_method_19_code 4 = .ok (.aload_n 0, 1) := by decide +kernel
theorem d_Pieces_leastYOf_5 : decode prog_7_method_19_code 5 = .ok (.getfield 34, 3) := by decide +kernel
theorem d_Pieces_leastYOf_8 : decode prog_7_method_19_code 8 = .ok (.iload_n 1, 1) := by decide +kernel
theorem d_Pieces_leastYOf_9 : decode prog_7_method_19_code 9 = .ok (.iaload, 1) := by decide +kernel
theorem d_Pieces_leastYOf_10 : decode prog_7_method_19_code 10 = .ok (.invokevirtual 93, 3) := by decide +kernel
theorem d_Pieces_leastYOf_13 : decode prog_7_method_19_code 13 = .ok (.ireturn, 1) := by decide +kernel
theorem d_Pieces_make_0 : decode prog_7_method_2_code 0 = .ok (.iconst 0, 1) := by decide +kernel
theorem d_Pieces_make_1 : decode prog_7_method_2_code 1 = .ok (.istore 5, 2) := by decide +kernel
theorem d_Pieces_make_3 : decode prog_7_method_2_code 3 = .ok (.iload 5, 2) := by decide +kernel
theorem d_Pieces_make_5 : decode prog_7_method_2_code 5 = .ok (.aload_n 0, 1) := by decide +kernel
theorem d_Pieces_make_6 : decode prog_7_method_2_code 6 = .ok (.getfield 9, 3) := by decide +kernel
theorem d_Pieces_make_9 : decode prog_7_method_2_code 9 = .ok (.getfield 15, 3) := by decide +kernel
theorem d_Pieces_make_12 : decode prog_7_method_2_code 12 = .ok (.if_icmp .ge 24, 3) := by decide +kernel
theorem d_Pieces_make_15 : decode prog_7_method_2_code 15 = .ok (.aload_n 0, 1) := by decide +kernel
theorem d_Pieces_make_16 : decode prog_7_method_2_code 16 = .ok (.getfield 21, 3) := by decide +kernel
theorem d_Pieces_make_19 : decode prog_7_method_2_code 19 = .ok (.iload 5, 2) := by decide +kernel
theorem d_Pieces_make_21 : decode prog_7_method_2_code 21 = .ok (.aload_n 1, 1) := by decide +kernel
theorem d_Pieces_make_22 : decode prog_7_method_2_code 22 = .ok (.iload 5, 2) := by decide +kernel
theorem d_Pieces_make_24 : decode prog_7_method_2_code 24 = .ok (.aload_n 2, 1) := by decide +kernel
theorem d_Pieces_make_25 : decode prog_7_method_2_code 25 = .ok (.iload_n 3, 1) := by decide +kernel
theorem d_Pieces_make_26 : decode prog_7_method_2_code 26 = .ok (.invokestatic 52, 3) := by decide +kernel
theorem d_Pieces_make_29 : decode prog_7_method_2_code 29 = .ok (.iastore, 1) := by decide +kernel
theorem d_Pieces_make_30 : decode prog_7_method_2_code 30 = .ok (.iinc 5 1, 3) := by decide +kernel
theorem d_Pieces_make_33 : decode prog_7_method_2_code 33 = .ok (.goto (-30), 3) := by decide +kernel
theorem d_Pieces_make_36 : decode prog_7_method_2_code 36 = .ok (.aload_n 0, 1) := by decide +kernel
theorem d_Pieces_make_37 : decode prog_7_method_2_code 37 = .ok (.invokevirtual 56, 3) := by decide +kernel
theorem d_Pieces_make_40 : decode prog_7_method_2_code 40 = .ok (.iconst 0, 1) := by decide +kernel
theorem d_Pieces_make_41 : decode prog_7_method_2_code 41 = .ok (.istore 5, 2) := by decide +kernel
theorem d_Pieces_make_43 : decode prog_7_method_2_code 43 = .ok (.iload 5, 2) := by decide +kernel
theorem d_Pieces_make_45 : decode prog_7_method_2_code 45 = .ok (.aload_n 0, 1) := by decide +kernel
theorem d_Pieces_make_46 : decode prog_7_method_2_code 46 = .ok (.getfield 9, 3) := by decide +kernel
theorem d_Pieces_make_49 : decode prog_7_method_2_code 49 = .ok (.getfield 15, 3) := by decide +kernel
theorem d_Pieces_make_52 : decode prog_7_method_2_code 52 = .ok (.if_icmp .ge 22, 3) := by decide +kernel
theorem d_Pieces_make_55 : decode prog_7_method_2_code 55 = .ok (.aload_n 0, 1) := by decide +kernel
theorem d_Pieces_make_56 : decode prog_7_method_2_code 56 = .ok (.iload 4, 2) := by decide +kernel
theorem d_Pieces_make_58 : decode prog_7_method_2_code 58 = .ok (.invokevirtual 59, 3) := by decide +kernel
theorem d_Pieces_make_61 : decode prog_7_method_2_code 61 = .ok (.ifCond .eq 13, 3) := by decide +kernel
theorem d_Pieces_make_64 : decode prog_7_method_2_code 64 = .ok (.aload_n 0, 1) := by decide +kernel
theorem d_Pieces_make_65 : decode prog_7_method_2_code 65 = .ok (.invokevirtual 56, 3) := by decide +kernel
theorem d_Pieces_make_68 : decode prog_7_method_2_code 68 = .ok (.iinc 5 1, 3) := by decide +kernel
theorem d_Pieces_make_71 : decode prog_7_method_2_code 71 = .ok (.goto (-28), 3) := by decide +kernel
theorem d_Pieces_make_74 : decode prog_7_method_2_code 74 = .ok (.return_, 1) := by decide +kernel
theorem d_Pieces_nearestWood_0 : decode prog_7_method_3_code 0 = .ok (.iconst 0, 1) := by decide +kernel
theorem d_Pieces_nearestWood_1 : decode prog_7_method_3_code 1 = .ok (.istore 4, 2) := by decide +kernel
theorem d_Pieces_nearestWood_3 : decode prog_7_method_3_code 3 = .ok (.aload_n 0, 1) := by decide +kernel
theorem d_Pieces_nearestWood_4 : decode prog_7_method_3_code 4 = .ok (.iload_n 1, 1) := by decide +kernel
theorem d_Pieces_nearestWood_5 : decode prog_7_method_3_code 5 = .ok (.aload_n 2, 1) := by decide +kernel
theorem d_Pieces_nearestWood_6 : decode prog_7_method_3_code 6 = .ok (.iconst 0, 1) := by decide +kernel
theorem d_Pieces_nearestWood_7 : decode prog_7_method_3_code 7 = .ok (.invokevirtual 63, 3) := by decide +kernel
theorem d_Pieces_nearestWood_10 : decode prog_7_method_3_code 10 = .ok (.istore 5, 2) := by decide +kernel
theorem d_Pieces_nearestWood_12 : decode prog_7_method_3_code 12 = .ok (.iconst 1, 1) := by decide +kernel
theorem d_Pieces_nearestWood_13 : decode prog_7_method_3_code 13 = .ok (.istore 6, 2) := by decide +kernel
theorem d_Pieces_nearestWood_15 : decode prog_7_method_3_code 15 = .ok (.iload 6, 2) := by decide +kernel
theorem d_Pieces_nearestWood_17 : decode prog_7_method_3_code 17 = .ok (.iload_n 3, 1) := by decide +kernel
theorem d_Pieces_nearestWood_18 : decode prog_7_method_3_code 18 = .ok (.if_icmp .ge 34, 3) := by decide +kernel
theorem d_Pieces_nearestWood_21 : decode prog_7_method_3_code 21 = .ok (.aload_n 0, 1) := by decide +kernel
theorem d_Pieces_nearestWood_22 : decode prog_7_method_3_code 22 = .ok (.iload_n 1, 1) := by decide +kernel
theorem d_Pieces_nearestWood_23 : decode prog_7_method_3_code 23 = .ok (.aload_n 2, 1) := by decide +kernel
theorem d_Pieces_nearestWood_24 : decode prog_7_method_3_code 24 = .ok (.iload 6, 2) := by decide +kernel
theorem d_Pieces_nearestWood_26 : decode prog_7_method_3_code 26 = .ok (.invokevirtual 63, 3) := by decide +kernel
theorem d_Pieces_nearestWood_29 : decode prog_7_method_3_code 29 = .ok (.istore 7, 2) := by decide +kernel
theorem d_Pieces_nearestWood_31 : decode prog_7_method_3_code 31 = .ok (.iload 7, 2) := by decide +kernel
theorem d_Pieces_nearestWood_33 : decode prog_7_method_3_code 33 = .ok (.iload 5, 2) := by decide +kernel
theorem d_Pieces_nearestWood_35 : decode prog_7_method_3_code 35 = .ok (.if_icmp .ge 11, 3) := by decide +kernel
theorem d_Pieces_nearestWood_38 : decode prog_7_method_3_code 38 = .ok (.iload 6, 2) := by decide +kernel
theorem d_Pieces_nearestWood_40 : decode prog_7_method_3_code 40 = .ok (.istore 4, 2) := by decide +kernel
theorem d_Pieces_nearestWood_42 : decode prog_7_method_3_code 42 = .ok (.iload 7, 2) := by decide +kernel
theorem d_Pieces_nearestWood_44 : decode prog_7_method_3_code 44 = .ok (.istore 5, 2) := by decide +kernel
theorem d_Pieces_nearestWood_46 : decode prog_7_method_3_code 46 = .ok (.iinc 6 1, 3) := by decide +kernel
theorem d_Pieces_nearestWood_49 : decode prog_7_method_3_code 49 = .ok (.goto (-34), 3) := by decide +kernel
theorem d_Pieces_nearestWood_52 : decode prog_7_method_3_code 52 = .ok (.iload 4, 2) := by decide +kernel
theorem d_Pieces_nearestWood_54 : decode prog_7_method_3_code 54 = .ok (.ireturn, 1) := by decide +kernel
theorem d_Pieces_numberOf_0 : decode prog_7_method_14_code 0 = .ok (.aload_n 0, 1) := by decide +kernel
theorem d_Pieces_numberOf_1 : decode prog_7_method_14_code 1 = .ok (.getfield 9, 3) := by decide +kernel
theorem d_Pieces_numberOf_4 : decode prog_7_method_14_code 4 = .ok (.iload_n 1, 1) := by decide +kernel
theorem d_Pieces_numberOf_5 : decode prog_7_method_14_code 5 = .ok (.iload_n 2, 1) := by decide +kernel
theorem d_Pieces_numberOf_6 : decode prog_7_method_14_code 6 = .ok (.invokevirtual 121, 3) := by decide +kernel
theorem d_Pieces_numberOf_9 : decode prog_7_method_14_code 9 = .ok (.istore_n 3, 1) := by decide +kernel
theorem d_Pieces_numberOf_10 : decode prog_7_method_14_code 10 = .ok (.iload_n 3, 1) := by decide +kernel
theorem d_Pieces_numberOf_11 : decode prog_7_method_14_code 11 = .ok (.iconst (-1), 1) := by decide +kernel
theorem d_Pieces_numberOf_12 : decode prog_7_method_14_code 12 = .ok (.if_icmp .ne 7, 3) := by decide +kernel
theorem d_Pieces_numberOf_15 : decode prog_7_method_14_code 15 = .ok (.iconst (-1), 1) := by decide +kernel
theorem d_Pieces_numberOf_16 : decode prog_7_method_14_code 16 = .ok (.goto 9, 3) := by decide +kernel
theorem d_Pieces_numberOf_19 : decode prog_7_method_14_code 19 = .ok (.aload_n 0, 1) := by decide +kernel
theorem d_Pieces_numberOf_20 : decode prog_7_method_14_code 20 = .ok (.getfield 25, 3) := by decide +kernel
theorem d_Pieces_numberOf_23 : decode prog_7_method_14_code 23 = .ok (.iload_n 3, 1) := by decide +kernel
theorem d_Pieces_numberOf_24 : decode prog_7_method_14_code 24 = .ok (.iaload, 1) := by decide +kernel
theorem d_Pieces_numberOf_25 : decode prog_7_method_14_code 25 = .ok (.ireturn, 1) := by decide +kernel
theorem d_Pieces_rowsOf_0 : decode prog_7_method_21_code 0 = .ok (.aload_n 0, 1) := by decide +kernel
theorem d_Pieces_rowsOf_1 : decode prog_7_method_21_code 1 = .ok (.getfield 46, 3) := by decide +kernel
theorem d_Pieces_rowsOf_4 : decode prog_7_method_21_code 4 = .ok (.iload_n 1, 1) := by decide +kernel
theorem d_Pieces_rowsOf_5 : decode prog_7_method_21_code 5 = .ok (.iaload, 1) := by decide +kernel
theorem d_Pieces_rowsOf_6 : decode prog_7_method_21_code 6 = .ok (.aload_n 0, 1) := by decide +kernel
theorem d_Pieces_rowsOf_7 : decode prog_7_method_21_code 7 = .ok (.iload_n 1, 1) := by decide +kernel
theorem d_Pieces_rowsOf_8 : decode prog_7_method_21_code 8 = .ok (.invokevirtual 124, 3) := by decide +kernel
theorem d_Pieces_rowsOf_11 : decode prog_7_method_21_code 11 = .ok (.isub, 1) := by decide +kernel
theorem d_Pieces_rowsOf_12 : decode prog_7_method_21_code 12 = .ok (.iconst 1, 1) := by decide +kernel
theorem d_Pieces_rowsOf_13 : decode prog_7_method_21_code 13 = .ok (.iadd, 1) := by decide +kernel
theorem d_Pieces_rowsOf_14 : decode prog_7_method_21_code 14 = .ok (.ireturn, 1) := by decide +kernel
theorem d_Pieces_sidesBetween_0 : decode prog_7_method_13_code 0 = .ok (.aload_n 0, 1) := by decide +kernel
theorem d_Pieces_sidesBetween_1 : decode prog_7_method_13_code 1 = .ok (.iload_n 1, 1) := by decide +kernel
theorem d_Pieces_sidesBetween_2 : decode prog_7_method_13_code 2 = .ok (.invokevirtual 114, 3) := by decide +kernel
theorem d_Pieces_sidesBetween_5 : decode prog_7_method_13_code 5 = .ok (.aload_n 0, 1) := by decide +kernel
theorem d_Pieces_sidesBetween_6 : decode prog_7_method_13_code 6 = .ok (.getfield 31, 3) := by decide +kernel
theorem d_Pieces_sidesBetween_9 : decode prog_7_method_13_code 9 = .ok (.iload_n 2, 1) := by decide +kernel
theorem d_Pieces_sidesBetween_10 : decode prog_7_method_13_code 10 = .ok (.iaload, 1) := by decide +kernel
theorem d_Pieces_sidesBetween_11 : decode prog_7_method_13_code 11 = .ok (.ireturn, 1) := by decide +kernel
theorem d_Pieces_sizeOf_0 : decode prog_7_method_16_code 0 = .ok (.aload_n 0, 1) := by decide +kernel
theorem d_Pieces_sizeOf_1 : decode prog_7_method_16_code 1 = .ok (.getfield 37, 3) := by decide +kernel
theorem d_Pieces_sizeOf_4 : decode prog_7_method_16_code 4 = .ok (.iload_n 1, 1) := by decide +kernel
theorem d_Pieces_sizeOf_5 : decode prog_7_method_16_code 5 = .ok (.iaload, 1) := by decide +kernel
theorem d_Pieces_sizeOf_6 : decode prog_7_method_16_code 6 = .ok (.ireturn, 1) := by decide +kernel
theorem d_Pieces_smallest_0 : decode prog_7_method_9_code 0 = .ok (.iconst 0, 1) := by decide +kernel
theorem d_Pieces_smallest_1 : decode prog_7_method_9_code 1 = .ok (.istore_n 1, 1) := by decide +kernel
theorem d_Pieces_smallest_2 : decode prog_7_method_9_code 2 = .ok (.iconst 1, 1) := by decide +kernel
theorem d_Pieces_smallest_3 : decode prog_7_method_9_code 3 = .ok (.istore_n 2, 1) := by decide +kernel
theorem d_Pieces_smallest_4 : decode prog_7_method_9_code 4 = .ok (.iload_n 2, 1) := by decide +kernel
theorem d_Pieces_smallest_5 : decode prog_7_method_9_code 5 = .ok (.aload_n 0, 1) := by decide +kernel
theorem d_Pieces_smallest_6 : decode prog_7_method_9_code 6 = .ok (.getfield 49, 3) := by decide +kernel
theorem d_Pieces_smallest_9 : decode prog_7_method_9_code 9 = .ok (.if_icmp .ge 26, 3) := by decide +kernel
theorem d_Pieces_smallest_12 : decode prog_7_method_9_code 12 = .ok (.aload_n 0, 1) := by decide +kernel
theorem d_Pieces_smallest_13 : decode prog_7_method_9_code 13 = .ok (.getfield 37, 3) := by decide +kernel
theorem d_Pieces_smallest_16 : decode prog_7_method_9_code 16 = .ok (.iload_n 2, 1) := by decide +kernel
theorem d_Pieces_smallest_17 : decode prog_7_method_9_code 17 = .ok (.iaload, 1) := by decide +kernel
theorem d_Pieces_smallest_18 : decode prog_7_method_9_code 18 = .ok (.aload_n 0, 1) := by decide +kernel
theorem d_Pieces_smallest_19 : decode prog_7_method_9_code 19 = .ok (.getfield 37, 3) := by decide +kernel
theorem d_Pieces_smallest_22 : decode prog_7_method_9_code 22 = .ok (.iload_n 1, 1) := by decide +kernel
theorem d_Pieces_smallest_23 : decode prog_7_method_9_code 23 = .ok (.iaload, 1) := by decide +kernel
theorem d_Pieces_smallest_24 : decode prog_7_method_9_code 24 = .ok (.if_icmp .ge 5, 3) := by decide +kernel
theorem d_Pieces_smallest_27 : decode prog_7_method_9_code 27 = .ok (.iload_n 2, 1) := by decide +kernel
theorem d_Pieces_smallest_28 : decode prog_7_method_9_code 28 = .ok (.istore_n 1, 1) := by decide +kernel
theorem d_Pieces_smallest_29 : decode prog_7_method_9_code 29 = .ok (.iinc 2 1, 3) := by decide +kernel
theorem d_Pieces_smallest_32 : decode prog_7_method_9_code 32 = .ok (.goto (-28), 3) := by decide +kernel
theorem d_Pieces_smallest_35 : decode prog_7_method_9_code 35 = .ok (.iload_n 1, 1) := by decide +kernel
theorem d_Pieces_smallest_36 : decode prog_7_method_9_code 36 = .ok (.ireturn, 1) := by decide +kernel
theorem d_Pieces_woodOf_0 : decode prog_7_method_15_code 0 = .ok (.aload_n 0, 1) := by decide +kernel
theorem d_Pieces_woodOf_1 : decode prog_7_method_15_code 1 = .ok (.getfield 21, 3) := by decide +kernel
theorem d_Pieces_woodOf_4 : decode prog_7_method_15_code 4 = .ok (.aload_n 0, 1) := by decide +kernel
theorem d_Pieces_woodOf_5 : decode prog_7_method_15_code 5 = .ok (.getfield 34, 3) := by decide +kernel
theorem d_Pieces_woodOf_8 : decode prog_7_method_15_code 8 = .ok (.iload_n 1, 1) := by decide +kernel
theorem d_Pieces_woodOf_9 : decode prog_7_method_15_code 9 = .ok (.iaload, 1) := by decide +kernel
theorem d_Pieces_woodOf_10 : decode prog_7_method_15_code 10 = .ok (.iaload, 1) := by decide +kernel
theorem d_Pieces_woodOf_11 : decode prog_7_method_15_code 11 = .ok (.ireturn, 1) := by decide +kernel
theorem d_Ranking_rank_0 : decode prog_8_method_3_code 0 = .ok (.iconst 0, 1) := by decide +kernel
theorem d_Ranking_rank_1 : decode prog_8_method_3_code 1 = .ok (.istore_n 2, 1) := by decide +kernel
theorem d_Ranking_rank_2 : decode prog_8_method_3_code 2 = .ok (.iload_n 2, 1) := by decide +kernel
theorem d_Ranking_rank_3 : decode prog_8_method_3_code 3 = .ok (.iload_n 1, 1) := by decide +kernel
theorem d_Ranking_rank_4 : decode prog_8_method_3_code 4 = .ok (.if_icmp .ge 67, 3) := by decide +kernel
theorem d_Ranking_rank_7 : decode prog_8_method_3_code 7 = .ok (.iload_n 2, 1) := by decide +kernel
theorem d_Ranking_rank_8 : decode prog_8_method_3_code 8 = .ok (.aload_n 0, 1) := by decide +kernel
theorem d_Ranking_rank_9 : decode prog_8_method_3_code 9 = .ok (.getfield 7, 3) := by decide +kernel
end
section
theorem d_Ranking_rank_12 : decode prog_8_method_3_code 12 = .ok (.arraylength, 1) := by decide +kernel
theorem d_Ranking_rank_13 : decode prog_8_method_3_code 13 = .ok (.if_icmp .ge 58, 3) := by decide +kernel
theorem d_Ranking_rank_16 : decode prog_8_method_3_code 16 = .ok (.iload_n 2, 1) := by decide +kernel
theorem d_Ranking_rank_17 : decode prog_8_method_3_code 17 = .ok (.istore_n 3, 1) := by decide +kernel
theorem d_Ranking_rank_18 : decode prog_8_method_3_code 18 = .ok (.iload_n 3, 1) := by decide +kernel
theorem d_Ranking_rank_19 : decode prog_8_method_3_code 19 = .ok (.ifCond .le 39, 3) := by decide +kernel
theorem d_Ranking_rank_22 : decode prog_8_method_3_code 22 = .ok (.aload_n 0, 1) := by decide +kernel
theorem d_Ranking_rank_23 : decode prog_8_method_3_code 23 = .ok (.iload_n 2, 1) := by decide +kernel
theorem d_Ranking_rank_24 : decode prog_8_method_3_code 24 = .ok (.aload_n 0, 1) := by decide +kernel
theorem d_Ranking_rank_25 : decode prog_8_method_3_code 25 = .ok (.getfield 7, 3) := by decide +kernel
theorem d_Ranking_rank_28 : decode prog_8_method_3_code 28 = .ok (.iload_n 3, 1) := by decide +kernel
theorem d_Ranking_rank_29 : decode prog_8_method_3_code 29 = .ok (.iconst 1, 1) := by decide +kernel
theorem d_Ranking_rank_30 : decode prog_8_method_3_code 30 = .ok (.isub, 1) := by decide +kernel
theorem d_Ranking_rank_31 : decode prog_8_method_3_code 31 = .ok (.iaload, 1) := by decide +kernel
theorem d_Ranking_rank_32 : decode prog_8_method_3_code 32 = .ok (.invokevirtual 13, 3) := by decide +kernel
theorem d_Ranking_rank_35 : decode prog_8_method_3_code 35 = .ok (.ifCond .ge 23, 3) := by decide +kernel
theorem d_Ranking_rank_38 : decode prog_8_method_3_code 38 = .ok (.aload_n 0, 1) := by decide +kernel
theorem d_Ranking_rank_39 : decode prog_8_method_3_code 39 = .ok (.getfield 7, 3) := by decide +kernel
theorem d_Ranking_rank_42 : decode prog_8_method_3_code 42 = .ok (.iload_n 3, 1) := by decide +kernel
theorem d_Ranking_rank_43 : decode prog_8_method_3_code 43 = .ok (.aload_n 0, 1) := by decide +kernel
theorem d_Ranking_rank_44 : decode prog_8_method_3_code 44 = .ok (.getfield 7, 3) := by decide +kernel
theorem d_Ranking_rank_47 : decode prog_8_method_3_code 47 = .ok (.iload_n 3, 1) := by decide +kernel
theorem d_Ranking_rank_48 : decode prog_8_method_3_code 48 = .ok (.iconst 1, 1) := by decide +kernel
theorem d_Ranking_rank_49 : decode prog_8_method_3_code 49 = .ok (.isub, 1) := by decide +kernel
theorem d_Ranking_rank_50 : decode prog_8_method_3_code 50 = .ok (.iaload, 1) := by decide +kernel
theorem d_Ranking_rank_51 : decode prog_8_method_3_code 51 = .ok (.iastore, 1) := by decide +kernel
theorem d_Ranking_rank_52 : decode prog_8_method_3_code 52 = .ok (.iinc 3 (-1), 3) := by decide +kernel
theorem d_Ranking_rank_55 : decode prog_8_method_3_code 55 = .ok (.goto (-37), 3) := by decide +kernel
theorem d_Ranking_rank_58 : decode prog_8_method_3_code 58 = .ok (.aload_n 0, 1) := by decide +kernel
theorem d_Ranking_rank_59 : decode prog_8_method_3_code 59 = .ok (.getfield 7, 3) := by decide +kernel
theorem d_Ranking_rank_62 : decode prog_8_method_3_code 62 = .ok (.iload_n 3, 1) := by decide +kernel
theorem d_Ranking_rank_63 : decode prog_8_method_3_code 63 = .ok (.iload_n 2, 1) := by decide +kernel
theorem d_Ranking_rank_64 : decode prog_8_method_3_code 64 = .ok (.iastore, 1) := by decide +kernel
theorem d_Ranking_rank_65 : decode prog_8_method_3_code 65 = .ok (.iinc 2 1, 3) := by decide +kernel
theorem d_Ranking_rank_68 : decode prog_8_method_3_code 68 = .ok (.goto (-66), 3) := by decide +kernel
theorem d_Ranking_rank_71 : decode prog_8_method_3_code 71 = .ok (.return_, 1) := by decide +kernel
theorem d_Ranking_ranked_0 : decode prog_8_method_4_code 0 = .ok (.aload_n 0, 1) := by decide +kernel
theorem d_Ranking_ranked_1 : decode prog_8_method_4_code 1 = .ok (.getfield 7, 3) := by decide +kernel
theorem d_Ranking_ranked_4 : decode prog_8_method_4_code 4 = .ok (.iload_n 1, 1) := by decide +kernel
theorem d_Ranking_ranked_5 : decode prog_8_method_4_code 5 = .ok (.iaload, 1) := by decide +kernel
theorem d_Ranking_ranked_6 : decode prog_8_method_4_code 6 = .ok (.ireturn, 1) := by decide +kernel
theorem d_Sheet_fill_0 : decode prog_9_method_2_code 0 = .ok (.aload_n 0, 1) := by decide +kernel
theorem d_Sheet_fill_1 : decode prog_9_method_2_code 1 = .ok (.getfield 20, 3) := by decide +kernel
theorem d_Sheet_fill_4 : decode prog_9_method_2_code 4 = .ok (.aload_n 0, 1) := by decide +kernel
theorem d_Sheet_fill_5 : decode prog_9_method_2_code 5 = .ok (.getfield 9, 3) := by decide +kernel
theorem d_Sheet_fill_8 : decode prog_9_method_2_code 8 = .ok (.getfield 47, 3) := by decide +kernel
theorem d_Sheet_fill_11 : decode prog_9_method_2_code 11 = .ok (.invokevirtual 52, 3) := by decide +kernel
theorem d_Sheet_fill_14 : decode prog_9_method_2_code 14 = .ok (.aload_n 0, 1) := by decide +kernel
theorem d_Sheet_fill_15 : decode prog_9_method_2_code 15 = .ok (.iconst 0, 1) := by decide +kernel
theorem d_Sheet_fill_16 : decode prog_9_method_2_code 16 = .ok (.putfield 40, 3) := by decide +kernel
theorem d_Sheet_fill_19 : decode prog_9_method_2_code 19 = .ok (.aload_n 0, 1) := by decide +kernel
theorem d_Sheet_fill_20 : decode prog_9_method_2_code 20 = .ok (.iconst 0, 1) := by decide +kernel
theorem d_Sheet_fill_21 : decode prog_9_method_2_code 21 = .ok (.putfield 44, 3) := by decide +kernel
theorem d_Sheet_fill_24 : decode prog_9_method_2_code 24 = .ok (.iconst 0, 1) := by decide +kernel
theorem d_Sheet_fill_25 : decode prog_9_method_2_code 25 = .ok (.istore_n 3, 1) := by decide +kernel
theorem d_Sheet_fill_26 : decode prog_9_method_2_code 26 = .ok (.iconst 0, 1) := by decide +kernel
theorem d_Sheet_fill_27 : decode prog_9_method_2_code 27 = .ok (.istore 4, 2) := by decide +kernel
theorem d_Sheet_fill_29 : decode prog_9_method_2_code 29 = .ok (.iload 4, 2) := by decide +kernel
theorem d_Sheet_fill_31 : decode prog_9_method_2_code 31 = .ok (.aload_n 0, 1) := by decide +kernel
theorem d_Sheet_fill_32 : decode prog_9_method_2_code 32 = .ok (.getfield 9, 3) := by decide +kernel
theorem d_Sheet_fill_35 : decode prog_9_method_2_code 35 = .ok (.getfield 47, 3) := by decide +kernel
theorem d_Sheet_fill_38 : decode prog_9_method_2_code 38 = .ok (.if_icmp .ge 66, 3) := by decide +kernel
theorem d_Sheet_fill_41 : decode prog_9_method_2_code 41 = .ok (.aload_n 0, 1) := by decide +kernel
theorem d_Sheet_fill_42 : decode prog_9_method_2_code 42 = .ok (.getfield 20, 3) := by decide +kernel
theorem d_Sheet_fill_45 : decode prog_9_method_2_code 45 = .ok (.iload 4, 2) := by decide +kernel
theorem d_Sheet_fill_47 : decode prog_9_method_2_code 47 = .ok (.invokevirtual 58, 3) := by decide +kernel
theorem d_Sheet_fill_50 : decode prog_9_method_2_code 50 = .ok (.istore 5, 2) := by decide +kernel
theorem d_Sheet_fill_52 : decode prog_9_method_2_code 52 = .ok (.aload_n 0, 1) := by decide +kernel
theorem d_Sheet_fill_53 : decode prog_9_method_2_code 53 = .ok (.iload 5, 2) := by decide +kernel
theorem d_Sheet_fill_55 : decode prog_9_method_2_code 55 = .ok (.iload_n 1, 1) := by decide +kernel
theorem d_Sheet_fill_56 : decode prog_9_method_2_code 56 = .ok (.iload_n 2, 1) := by decide +kernel
theorem d_Sheet_fill_57 : decode prog_9_method_2_code 57 = .ok (.invokevirtual 62, 3) := by decide +kernel
theorem d_Sheet_fill_60 : decode prog_9_method_2_code 60 = .ok (.istore 6, 2) := by decide +kernel
theorem d_Sheet_fill_62 : decode prog_9_method_2_code 62 = .ok (.iload 6, 2) := by decide +kernel
theorem d_Sheet_fill_64 : decode prog_9_method_2_code 64 = .ok (.iconst (-1), 1) := by decide +kernel
theorem d_Sheet_fill_65 : decode prog_9_method_2_code 65 = .ok (.if_icmp .ne 22, 3) := by decide +kernel
theorem d_Sheet_fill_68 : decode prog_9_method_2_code 68 = .ok (.aload_n 0, 1) := by decide +kernel
theorem d_Sheet_fill_69 : decode prog_9_method_2_code 69 = .ok (.getfield 24, 3) := by decide +kernel
theorem d_Sheet_fill_72 : decode prog_9_method_2_code 72 = .ok (.iload 5, 2) := by decide +kernel
theorem d_Sheet_fill_74 : decode prog_9_method_2_code 74 = .ok (.iconst (-1), 1) := by decide +kernel
theorem d_Sheet_fill_75 : decode prog_9_method_2_code 75 = .ok (.iastore, 1) := by decide +kernel
theorem d_Sheet_fill_76 : decode prog_9_method_2_code 76 = .ok (.aload_n 0, 1) := by decide +kernel
theorem d_Sheet_fill_77 : decode prog_9_method_2_code 77 = .ok (.getfield 28, 3) := by decide +kernel
theorem d_Sheet_fill_80 : decode prog_9_method_2_code 80 = .ok (.iload 5, 2) := by decide +kernel
theorem d_Sheet_fill_82 : decode prog_9_method_2_code 82 = .ok (.iconst (-1), 1) := by decide +kernel
theorem d_Sheet_fill_83 : decode prog_9_method_2_code 83 = .ok (.iastore, 1) := by decide +kernel
theorem d_Sheet_fill_84 : decode prog_9_method_2_code 84 = .ok (.goto 14, 3) := by decide +kernel
theorem d_Sheet_fill_87 : decode prog_9_method_2_code 87 = .ok (.aload_n 0, 1) := by decide +kernel
theorem d_Sheet_fill_88 : decode prog_9_method_2_code 88 = .ok (.iload 5, 2) := by decide +kernel
theorem d_Sheet_fill_90 : decode prog_9_method_2_code 90 = .ok (.iload 6, 2) := by decide +kernel
theorem d_Sheet_fill_92 : decode prog_9_method_2_code 92 = .ok (.invokevirtual 66, 3) := by decide +kernel
theorem d_Sheet_fill_95 : decode prog_9_method_2_code 95 = .ok (.iinc 3 1, 3) := by decide +kernel
theorem d_Sheet_fill_98 : decode prog_9_method_2_code 98 = .ok (.iinc 4 1, 3) := by decide +kernel
theorem d_Sheet_fill_101 : decode prog_9_method_2_code 101 = .ok (.goto (-72), 3) := by decide +kernel
theorem d_Sheet_fill_104 : decode prog_9_method_2_code 104 = .ok (.iload_n 3, 1) := by decide +kernel
theorem d_Sheet_fill_105 : decode prog_9_method_2_code 105 = .ok (.ireturn, 1) := by decide +kernel
theorem d_Sheet_newRow_0 : decode prog_9_method_4_code 0 = .ok (.aload_n 0, 1) := by decide +kernel
theorem d_Sheet_newRow_1 : decode prog_9_method_4_code 1 = .ok (.getfield 40, 3) := by decide +kernel
theorem d_Sheet_newRow_4 : decode prog_9_method_4_code 4 = .ok (.aload_n 0, 1) := by decide +kernel
theorem d_Sheet_newRow_5 : decode prog_9_method_4_code 5 = .ok (.getfield 31, 3) := by decide +kernel
theorem d_Sheet_newRow_8 : decode prog_9_method_4_code 8 = .ok (.arraylength, 1) := by decide +kernel
theorem d_Sheet_newRow_9 : decode prog_9_method_4_code 9 = .ok (.if_icmp .lt 5, 3) := by decide +kernel
theorem d_Sheet_newRow_12 : decode prog_9_method_4_code 12 = .ok (.iconst (-1), 1) := by decide +kernel
theorem d_Sheet_newRow_13 : decode prog_9_method_4_code 13 = .ok (.ireturn, 1) := by decide +kernel
theorem d_Sheet_newRow_14 : decode prog_9_method_4_code 14 = .ok (.aload_n 0, 1) := by decide +kernel
theorem d_Sheet_newRow_15 : decode prog_9_method_4_code 15 = .ok (.getfield 31, 3) := by decide +kernel
theorem d_Sheet_newRow_18 : decode prog_9_method_4_code 18 = .ok (.aload_n 0, 1) := by decide +kernel
theorem d_Sheet_newRow_19 : decode prog_9_method_4_code 19 = .ok (.getfield 40, 3) := by decide +kernel
theorem d_Sheet_newRow_22 : decode prog_9_method_4_code 22 = .ok (.aload_n 0, 1) := by decide +kernel
theorem d_Sheet_newRow_23 : decode prog_9_method_4_code 23 = .ok (.getfield 44, 3) := by decide +kernel
theorem d_Sheet_newRow_26 : decode prog_9_method_4_code 26 = .ok (.iastore, 1) := by decide +kernel
theorem d_Sheet_newRow_27 : decode prog_9_method_4_code 27 = .ok (.aload_n 0, 1) := by decide +kernel
theorem d_Sheet_newRow_28 : decode prog_9_method_4_code 28 = .ok (.getfield 34, 3) := by decide +kernel
theorem d_Sheet_newRow_31 : decode prog_9_method_4_code 31 = .ok (.aload_n 0, 1) := by decide +kernel
theorem d_Sheet_newRow_32 : decode prog_9_method_4_code 32 = .ok (.getfield 40, 3) := by decide +kernel
theorem d_Sheet_newRow_35 : decode prog_9_method_4_code 35 = .ok (.iload_n 1, 1) := by decide +kernel
theorem d_Sheet_newRow_36 : decode prog_9_method_4_code 36 = .ok (.iastore, 1) := by decide +kernel
theorem d_Sheet_newRow_37 : decode prog_9_method_4_code 37 = .ok (.aload_n 0, 1) := by decide +kernel
theorem d_Sheet_newRow_38 : decode prog_9_method_4_code 38 = .ok (.getfield 37, 3) := by decide +kernel
theorem d_Sheet_newRow_41 : decode prog_9_method_4_code 41 = .ok (.aload_n 0, 1) := by decide +kernel
theorem d_Sheet_newRow_42 : decode prog_9_method_4_code 42 = .ok (.getfield 40, 3) := by decide +kernel
theorem d_Sheet_newRow_45 : decode prog_9_method_4_code 45 = .ok (.iconst 0, 1) := by decide +kernel
theorem d_Sheet_newRow_46 : decode prog_9_method_4_code 46 = .ok (.iastore, 1) := by decide +kernel
theorem d_Sheet_newRow_47 : decode prog_9_method_4_code 47 = .ok (.aload_n 0, 1) := by decide +kernel
theorem d_Sheet_newRow_48 : decode prog_9_method_4_code 48 = .ok (.dup, 1) := by decide +kernel
theorem d_Sheet_newRow_49 : decode prog_9_method_4_code 49 = .ok (.getfield 44, 3) := by decide +kernel
theorem d_Sheet_newRow_52 : decode prog_9_method_4_code 52 = .ok (.iload_n 1, 1) := by decide +kernel
theorem d_Sheet_newRow_53 : decode prog_9_method_4_code 53 = .ok (.iadd, 1) := by decide +kernel
theorem d_Sheet_newRow_54 : decode prog_9_method_4_code 54 = .ok (.putfield 44, 3) := by decide +kernel
theorem d_Sheet_newRow_57 : decode prog_9_method_4_code 57 = .ok (.aload_n 0, 1) := by decide +kernel
theorem d_Sheet_newRow_58 : decode prog_9_method_4_code 58 = .ok (.dup, 1) := by decide +kernel
theorem d_Sheet_newRow_59 : decode prog_9_method_4_code 59 = .ok (.getfield 40, 3) := by decide +kernel
theorem d_Sheet_newRow_62 : decode prog_9_method_4_code 62 = .ok (.iconst 1, 1) := by decide +kernel
theorem d_Sheet_newRow_63 : decode prog_9_method_4_code 63 = .ok (.iadd, 1) := by decide +kernel
theorem d_Sheet_newRow_64 : decode prog_9_method_4_code 64 = .ok (.putfield 40, 3) := by decide +kernel
theorem d_Sheet_newRow_67 : decode prog_9_method_4_code 67 = .ok (.aload_n 0, 1) := by decide +kernel
theorem d_Sheet_newRow_68 : decode prog_9_method_4_code 68 = .ok (.getfield 40, 3) := by decide +kernel
theorem d_Sheet_newRow_71 : decode prog_9_method_4_code 71 = .ok (.iconst 1, 1) := by decide +kernel
theorem d_Sheet_newRow_72 : decode prog_9_method_4_code 72 = .ok (.isub, 1) := by decide +kernel
theorem d_Sheet_newRow_73 : decode prog_9_method_4_code 73 = .ok (.ireturn, 1) := by decide +kernel
theorem d_Sheet_put_0 : decode prog_9_method_5_code 0 = .ok (.aload_n 0, 1) := by decide +kernel
theorem d_Sheet_put_1 : decode prog_9_method_5_code 1 = .ok (.getfield 24, 3) := by decide +kernel
theorem d_Sheet_put_4 : decode prog_9_method_5_code 4 = .ok (.iload_n 1, 1) := by decide +kernel
theorem d_Sheet_put_5 : decode prog_9_method_5_code 5 = .ok (.aload_n 0, 1) := by decide +kernel
theorem d_Sheet_put_6 : decode prog_9_method_5_code 6 = .ok (.getfield 37, 3) := by decide +kernel
theorem d_Sheet_put_9 : decode prog_9_method_5_code 9 = .ok (.iload_n 2, 1) := by decide +kernel
theorem d_Sheet_put_10 : decode prog_9_method_5_code 10 = .ok (.iaload, 1) := by decide +kernel
theorem d_Sheet_put_11 : decode prog_9_method_5_code 11 = .ok (.iastore, 1) := by decide +kernel
theorem d_Sheet_put_12 : decode prog_9_method_5_code 12 = .ok (.aload_n 0, 1) := by decide +kernel
theorem d_Sheet_put_13 : decode prog_9_method_5_code 13 = .ok (.getfield 28, 3) := by decide +kernel
theorem d_Sheet_put_16 : decode prog_9_method_5_code 16 = .ok (.iload_n 1, 1) := by decide +kernel
theorem d_Sheet_put_17 : decode prog_9_method_5_code 17 = .ok (.aload_n 0, 1) := by decide +kernel
theorem d_Sheet_put_18 : decode prog_9_method_5_code 18 = .ok (.getfield 31, 3) := by decide +kernel
theorem d_Sheet_put_21 : decode prog_9_method_5_code 21 = .ok (.iload_n 2, 1) := by decide +kernel
theorem d_Sheet_put_22 : decode prog_9_method_5_code 22 = .ok (.iaload, 1) := by decide +kernel
theorem d_Sheet_put_23 : decode prog_9_method_5_code 23 = .ok (.iastore, 1) := by decide +kernel
theorem d_Sheet_put_24 : decode prog_9_method_5_code 24 = .ok (.aload_n 0, 1) := by decide +kernel
theorem d_Sheet_put_25 : decode prog_9_method_5_code 25 = .ok (.getfield 37, 3) := by decide +kernel
theorem d_Sheet_put_28 : decode prog_9_method_5_code 28 = .ok (.iload_n 2, 1) := by decide +kernel
theorem d_Sheet_put_29 : decode prog_9_method_5_code 29 = .ok (.dup2, 1) := by decide +kernel
theorem d_Sheet_put_30 : decode prog_9_method_5_code 30 = .ok (.iaload, 1) := by decide +kernel
theorem d_Sheet_put_31 : decode prog_9_method_5_code 31 = .ok (.aload_n 0, 1) := by decide +kernel
theorem d_Sheet_put_32 : decode prog_9_method_5_code 32 = .ok (.getfield 9, 3) := by decide +kernel
theorem d_Sheet_put_35 : decode prog_9_method_5_code 35 = .ok (.iload_n 1, 1) := by decide +kernel
theorem d_Sheet_put_36 : decode prog_9_method_5_code 36 = .ok (.invokevirtual 70, 3) := by decide +kernel
theorem d_Sheet_put_39 : decode prog_9_method_5_code 39 = .ok (.iadd, 1) := by decide +kernel
theorem d_Sheet_put_40 : decode prog_9_method_5_code 40 = .ok (.iastore, 1) := by decide +kernel
theorem d_Sheet_put_41 : decode prog_9_method_5_code 41 = .ok (.return_, 1) := by decide +kernel
theorem d_Sheet_rowFor_0 : decode prog_9_method_3_code 0 = .ok (.aload_n 0, 1) := by decide +kernel
theorem d_Sheet_rowFor_1 : decode prog_9_method_3_code 1 = .ok (.getfield 9, 3) := by decide +kernel
theorem d_Sheet_rowFor_4 : decode prog_9_method_3_code 4 = .ok (.iload_n 1, 1) := by decide +kernel
theorem d_Sheet_rowFor_5 : decode prog_9_method_3_code 5 = .ok (.invokevirtual 70, 3) := by decide +kernel
theorem d_Sheet_rowFor_8 : decode prog_9_method_3_code 8 = .ok (.istore 4, 2) := by decide +kernel
theorem d_Sheet_rowFor_10 : decode prog_9_method_3_code 10 = .ok (.aload_n 0, 1) := by decide +kernel
theorem d_Sheet_rowFor_11 : decode prog_9_method_3_code 11 = .ok (.getfield 9, 3) := by decide +kernel
theorem d_Sheet_rowFor_14 : decode prog_9_method_3_code 14 = .ok (.iload_n 1, 1) := by decide +kernel
theorem d_Sheet_rowFor_15 : decode prog_9_method_3_code 15 = .ok (.invokevirtual 73, 3) := by decide +kernel
theorem d_Sheet_rowFor_18 : decode prog_9_method_3_code 18 = .ok (.istore 5, 2) := by decide +kernel
theorem d_Sheet_rowFor_20 : decode prog_9_method_3_code 20 = .ok (.iconst 0, 1) := by decide +kernel
theorem d_Sheet_rowFor_21 : decode prog_9_method_3_code 21 = .ok (.istore 6, 2) := by decide +kernel
theorem d_Sheet_rowFor_23 : decode prog_9_method_3_code 23 = .ok (.iload 6, 2) := by decide +kernel
theorem d_Sheet_rowFor_25 : decode prog_9_method_3_code 25 = .ok (.aload_n 0, 1) := by decide +kernel
theorem d_Sheet_rowFor_26 : decode prog_9_method_3_code 26 = .ok (.getfield 40, 3) := by decide +kernel
theorem d_Sheet_rowFor_29 : decode prog_9_method_3_code 29 = .ok (.if_icmp .ge 38, 3) := by decide +kernel
theorem d_Sheet_rowFor_32 : decode prog_9_method_3_code 32 = .ok (.aload_n 0, 1) := by decide +kernel
theorem d_Sheet_rowFor_33 : decode prog_9_method_3_code 33 = .ok (.getfield 37, 3) := by decide +kernel
theorem d_Sheet_rowFor_36 : decode prog_9_method_3_code 36 = .ok (.iload 6, 2) := by decide +kernel
theorem d_Sheet_rowFor_38 : decode prog_9_method_3_code 38 = .ok (.iaload, 1) := by decide +kernel
theorem d_Sheet_rowFor_39 : decode prog_9_method_3_code 39 = .ok (.iload 4, 2) := by decide +kernel
theorem d_Sheet_rowFor_41 : decode prog_9_method_3_code 41 = .ok (.iadd, 1) := by decide +kernel
theorem d_Sheet_rowFor_42 : decode prog_9_method_3_code 42 = .ok (.iload_n 2, 1) := by decide +kernel
theorem d_Sheet_rowFor_43 : decode prog_9_method_3_code 43 = .ok (.if_icmp .gt 18, 3) := by decide +kernel
theorem d_Sheet_rowFor_46 : decode prog_9_method_3_code 46 = .ok (.iload 5, 2) := by decide +kernel
theorem d_Sheet_rowFor_48 : decode prog_9_method_3_code 48 = .ok (.aload_n 0, 1) := by decide +kernel
theorem d_Sheet_rowFor_49 : decode prog_9_method_3_code 49 = .ok (.getfield 34, 3) := by decide +kernel
theorem d_Sheet_rowFor_52 : decode prog_9_method_3_code 52 = .ok (.iload 6, 2) := by decide +kernel
theorem d_Sheet_rowFor_54 : decode prog_9_method_3_code 54 = .ok (.iaload, 1) := by decide +kernel
theorem d_Sheet_rowFor_55 : decode prog_9_method_3_code 55 = .ok (.if_icmp .gt 6, 3) := by decide +kernel
theorem d_Sheet_rowFor_58 : decode prog_9_method_3_code 58 = .ok (.iload 6, 2) := by decide +kernel
theorem d_Sheet_rowFor_60 : decode prog_9_method_3_code 60 = .ok (.ireturn, 1) := by decide +kernel
theorem d_Sheet_rowFor_61 : decode prog_9_method_3_code 61 = .ok (.iinc 6 1, 3) := by decide +kernel
theorem d_Sheet_rowFor_64 : decode prog_9_method_3_code 64 = .ok (.goto (-41), 3) := by decide +kernel
theorem d_Sheet_rowFor_67 : decode prog_9_method_3_code 67 = .ok (.iload 4, 2) := by decide +kernel
theorem d_Sheet_rowFor_69 : decode prog_9_method_3_code 69 = .ok (.iload_n 2, 1) := by decide +kernel
theorem d_Sheet_rowFor_70 : decode prog_9_method_3_code 70 = .ok (.if_icmp .gt 23, 3) := by decide +kernel
theorem d_Sheet_rowFor_73 : decode prog_9_method_3_code 73 = .ok (.aload_n 0, 1) := by decide +kernel
theorem d_Sheet_rowFor_74 : decode prog_9_method_3_code 74 = .ok (.getfield 44, 3) := by decide +kernel
theorem d_Sheet_rowFor_77 : decode prog_9_method_3_code 77 = .ok (.iload 5, 2) := by decide +kernel
theorem d_Sheet_rowFor_79 : decode prog_9_method_3_code 79 = .ok (.iadd, 1) := by decide +kernel
theorem d_Sheet_rowFor_80 : decode prog_9_method_3_code 80 = .ok (.iload_n 3, 1) := by decide +kernel
theorem d_Sheet_rowFor_81 : decode prog_9_method_3_code 81 = .ok (.if_icmp .gt 12, 3) := by decide +kernel
theorem d_Sheet_rowFor_84 : decode prog_9_method_3_code 84 = .ok (.aload_n 0, 1) := by decide +kernel
theorem d_Sheet_rowFor_85 : decode prog_9_method_3_code 85 = .ok (.iload 5, 2) := by decide +kernel
theorem d_Sheet_rowFor_87 : decode prog_9_method_3_code 87 = .ok (.invokevirtual 76, 3) := by decide +kernel
theorem d_Sheet_rowFor_90 : decode prog_9_method_3_code 90 = .ok (.goto 4, 3) := by decide +kernel
theorem d_Sheet_rowFor_93 : decode prog_9_method_3_code 93 = .ok (.iconst (-1), 1) := by decide +kernel
theorem d_Sheet_rowFor_94 : decode prog_9_method_3_code 94 = .ok (.ireturn, 1) := by decide +kernel
theorem d_Sheet_xOf_0 : decode prog_9_method_6_code 0 = .ok (.aload_n 0, 1) := by decide +kernel
theorem d_Sheet_xOf_1 : decode prog_9_method_6_code 1 = .ok (.getfield 24, 3) := by decide +kernel
theorem d_Sheet_xOf_4 : decode prog_9_method_6_code 4 = .ok (.iload_n 1, 1) := by decide +kernel
theorem d_Sheet_xOf_5 : decode prog_9_method_6_code 5 = .ok (.iaload, 1) := by decide +kernel
theorem d_Sheet_xOf_6 : decode prog_9_method_6_code 6 = .ok (.ireturn, 1) := by decide +kernel
theorem d_Sheet_yOf_0 : decode prog_9_method_7_code 0 = .ok (.aload_n 0, 1) := by decide +kernel
theorem d_Sheet_yOf_1 : decode prog_9_method_7_code 1 = .ok (.getfield 28, 3) := by decide +kernel
theorem d_Sheet_yOf_4 : decode prog_9_method_7_code 4 = .ok (.iload_n 1, 1) := by decide +kernel
theorem d_Sheet_yOf_5 : decode prog_9_method_7_code 5 = .ok (.iaload, 1) := by decide +kernel
theorem d_Sheet_yOf_6 : decode prog_9_method_7_code 6 = .ok (.ireturn, 1) := by decide +kernel
theorem d_Tool_cover_0 : decode prog_10_method_2_code 0 = .ok (.iconst 0, 1) := by decide +kernel
theorem d_Tool_cover_1 : decode prog_10_method_2_code 1 = .ok (.istore_n 3, 1) := by decide +kernel
theorem d_Tool_cover_2 : decode prog_10_method_2_code 2 = .ok (.iload_n 3, 1) := by decide +kernel
theorem d_Tool_cover_3 : decode prog_10_method_2_code 3 = .ok (.aload_n 0, 1) := by decide +kernel
theorem d_Tool_cover_4 : decode prog_10_method_2_code 4 = .ok (.getfield 9, 3) := by decide +kernel
theorem d_Tool_cover_7 : decode prog_10_method_2_code 7 = .ok (.getfield 19, 3) := by decide +kernel
theorem d_Tool_cover_10 : decode prog_10_method_2_code 10 = .ok (.if_icmp .ge 16, 3) := by decide +kernel
theorem d_Tool_cover_13 : decode prog_10_method_2_code 13 = .ok (.aload_n 0, 1) := by decide +kernel
theorem d_Tool_cover_14 : decode prog_10_method_2_code 14 = .ok (.getfield 25, 3) := by decide +kernel
theorem d_Tool_cover_17 : decode prog_10_method_2_code 17 = .ok (.iload_n 3, 1) := by decide +kernel
theorem d_Tool_cover_18 : decode prog_10_method_2_code 18 = .ok (.iconst 0, 1) := by decide +kernel
theorem d_Tool_cover_19 : decode prog_10_method_2_code 19 = .ok (.bastore, 1) := by decide +kernel
theorem d_Tool_cover_20 : decode prog_10_method_2_code 20 = .ok (.iinc 3 1, 3) := by decide +kernel
theorem d_Tool_cover_23 : decode prog_10_method_2_code 23 = .ok (.goto (-21), 3) := by decide +kernel
theorem d_Tool_cover_26 : decode prog_10_method_2_code 26 = .ok (.aload_n 0, 1) := by decide +kernel
theorem d_Tool_cover_27 : decode prog_10_method_2_code 27 = .ok (.iconst 0, 1) := by decide +kernel
theorem d_Tool_cover_28 : decode prog_10_method_2_code 28 = .ok (.putfield 29, 3) := by decide +kernel
theorem d_Tool_cover_31 : decode prog_10_method_2_code 31 = .ok (.iload_n 2, 1) := by decide +kernel
theorem d_Tool_cover_32 : decode prog_10_method_2_code 32 = .ok (.istore_n 3, 1) := by decide +kernel
theorem d_Tool_cover_33 : decode prog_10_method_2_code 33 = .ok (.iload_n 3, 1) := by decide +kernel
theorem d_Tool_cover_34 : decode prog_10_method_2_code 34 = .ok (.aload_n 0, 1) := by decide +kernel
theorem d_Tool_cover_35 : decode prog_10_method_2_code 35 = .ok (.getfield 9, 3) := by decide +kernel
theorem d_Tool_cover_38 : decode prog_10_method_2_code 38 = .ok (.getfield 32, 3) := by decide +kernel
theorem d_Tool_cover_41 : decode prog_10_method_2_code 41 = .ok (.iload_n 2, 1) := by decide +kernel
theorem d_Tool_cover_42 : decode prog_10_method_2_code 42 = .ok (.isub, 1) := by decide +kernel
theorem d_Tool_cover_43 : decode prog_10_method_2_code 43 = .ok (.if_icmp .ge 52, 3) := by decide +kernel
theorem d_Tool_cover_46 : decode prog_10_method_2_code 46 = .ok (.iload_n 2, 1) := by decide +kernel
theorem d_Tool_cover_47 : decode prog_10_method_2_code 47 = .ok (.istore 4, 2) := by decide +kernel
theorem d_Tool_cover_49 : decode prog_10_method_2_code 49 = .ok (.iload 4, 2) := by decide +kernel
theorem d_Tool_cover_51 : decode prog_10_method_2_code 51 = .ok (.aload_n 0, 1) := by decide +kernel
theorem d_Tool_cover_52 : decode prog_10_method_2_code 52 = .ok (.getfield 9, 3) := by decide +kernel
theorem d_Tool_cover_55 : decode prog_10_method_2_code 55 = .ok (.getfield 35, 3) := by decide +kernel
theorem d_Tool_cover_58 : decode prog_10_method_2_code 58 = .ok (.iload_n 2, 1) := by decide +kernel
theorem d_Tool_cover_59 : decode prog_10_method_2_code 59 = .ok (.isub, 1) := by decide +kernel
theorem d_Tool_cover_60 : decode prog_10_method_2_code 60 = .ok (.if_icmp .ge 29, 3) := by decide +kernel
theorem d_Tool_cover_63 : decode prog_10_method_2_code 63 = .ok (.aload_n 0, 1) := by decide +kernel
theorem d_Tool_cover_64 : decode prog_10_method_2_code 64 = .ok (.iload_n 1, 1) := by decide +kernel
theorem d_Tool_cover_65 : decode prog_10_method_2_code 65 = .ok (.iload 4, 2) := by decide +kernel
theorem d_Tool_cover_67 : decode prog_10_method_2_code 67 = .ok (.iload_n 3, 1) := by decide +kernel
theorem d_Tool_cover_68 : decode prog_10_method_2_code 68 = .ok (.iload_n 2, 1) := by decide +kernel
theorem d_Tool_cover_69 : decode prog_10_method_2_code 69 = .ok (.invokevirtual 38, 3) := by decide +kernel
theorem d_Tool_cover_72 : decode prog_10_method_2_code 72 = .ok (.ifCond .eq 11, 3) := by decide +kernel
theorem d_Tool_cover_75 : decode prog_10_method_2_code 75 = .ok (.aload_n 0, 1) := by decide +kernel
theorem d_Tool_cover_76 : decode prog_10_method_2_code 76 = .ok (.iload 4, 2) := by decide +kernel
theorem d_Tool_cover_78 : decode prog_10_method_2_code 78 = .ok (.iload_n 3, 1) := by decide +kernel
theorem d_Tool_cover_79 : decode prog_10_method_2_code 79 = .ok (.iload_n 2, 1) := by decide +kernel
theorem d_Tool_cover_80 : decode prog_10_method_2_code 80 = .ok (.invokevirtual 42, 3) := by decide +kernel
theorem d_Tool_cover_83 : decode prog_10_method_2_code 83 = .ok (.iinc 4 1, 3) := by decide +kernel
theorem d_Tool_cover_86 : decode prog_10_method_2_code 86 = .ok (.goto (-37), 3) := by decide +kernel
theorem d_Tool_cover_89 : decode prog_10_method_2_code 89 = .ok (.iinc 3 1, 3) := by decide +kernel
theorem d_Tool_cover_92 : decode prog_10_method_2_code 92 = .ok (.goto (-59), 3) := by decide +kernel
theorem d_Tool_cover_95 : decode prog_10_method_2_code 95 = .ok (.return_, 1) := by decide +kernel
theorem d_Tool_covers_0 : decode prog_10_method_5_code 0 = .ok (.aload_n 0, 1) := by decide +kernel
theorem d_Tool_covers_1 : decode prog_10_method_5_code 1 = .ok (.getfield 9, 3) := by decide +kernel
theorem d_Tool_covers_4 : decode prog_10_method_5_code 4 = .ok (.iload_n 1, 1) := by decide +kernel
theorem d_Tool_covers_5 : decode prog_10_method_5_code 5 = .ok (.iload_n 2, 1) := by decide +kernel
theorem d_Tool_covers_6 : decode prog_10_method_5_code 6 = .ok (.invokevirtual 52, 3) := by decide +kernel
theorem d_Tool_covers_9 : decode prog_10_method_5_code 9 = .ok (.istore_n 3, 1) := by decide +kernel
theorem d_Tool_covers_10 : decode prog_10_method_5_code 10 = .ok (.iload_n 3, 1) := by decide +kernel
theorem d_Tool_covers_11 : decode prog_10_method_5_code 11 = .ok (.iconst (-1), 1) := by decide +kernel
theorem d_Tool_covers_12 : decode prog_10_method_5_code 12 = .ok (.if_icmp .eq 16, 3) := by decide +kernel
theorem d_Tool_covers_15 : decode prog_10_method_5_code 15 = .ok (.aload_n 0, 1) := by decide +kernel
theorem d_Tool_covers_16 : decode prog_10_method_5_code 16 = .ok (.getfield 25, 3) := by decide +kernel
theorem d_Tool_covers_19 : decode prog_10_method_5_code 19 = .ok (.iload_n 3, 1) := by decide +kernel
theorem d_Tool_covers_20 : decode prog_10_method_5_code 20 = .ok (.baload, 1) := by decide +kernel
theorem d_Tool_covers_21 : decode prog_10_method_5_code 21 = .ok (.ifCond .eq 7, 3) := by decide +kernel
theorem d_Tool_covers_24 : decode prog_10_method_5_code 24 = .ok (.iconst 1, 1) := by decide +kernel
theorem d_Tool_covers_25 : decode prog_10_method_5_code 25 = .ok (.goto 4, 3) := by decide +kernel
theorem d_Tool_covers_28 : decode prog_10_method_5_code 28 = .ok (.iconst 0, 1) := by decide +kernel
theorem d_Tool_covers_29 : decode prog_10_method_5_code 29 = .ok (.ireturn, 1) := by decide +kernel
theorem d_Tool_fits_0 : decode prog_10_method_3_code 0 = .ok (.iload_n 3, 1) := by decide +kernel
theorem d_Tool_fits_1 : decode prog_10_method_3_code 1 = .ok (.iload 4, 2) := by decide +kernel
theorem d_Tool_fits_3 : decode prog_10_method_3_code 3 = .ok (.isub, 1) := by decide +kernel
end
section
theorem d_Tool_fits_4 : decode prog_10_method_3_code 4 = .ok (.istore 5, 2) := by decide +kernel
theorem d_Tool_fits_6 : decode prog_10_method_3_code 6 = .ok (.iload 5, 2) := by decide +kernel
theorem d_Tool_fits_8 : decode prog_10_method_3_code 8 = .ok (.iload_n 3, 1) := by decide +kernel
theorem d_Tool_fits_9 : decode prog_10_method_3_code 9 = .ok (.iload 4, 2) := by decide +kernel
theorem d_Tool_fits_11 : decode prog_10_method_3_code 11 = .ok (.iadd, 1) := by decide +kernel
theorem d_Tool_fits_12 : decode prog_10_method_3_code 12 = .ok (.if_icmp .gt 47, 3) := by decide +kernel
theorem d_Tool_fits_15 : decode prog_10_method_3_code 15 = .ok (.iload_n 2, 1) := by decide +kernel
theorem d_Tool_fits_16 : decode prog_10_method_3_code 16 = .ok (.iload 4, 2) := by decide +kernel
theorem d_Tool_fits_18 : decode prog_10_method_3_code 18 = .ok (.isub, 1) := by decide +kernel
theorem d_Tool_fits_19 : decode prog_10_method_3_code 19 = .ok (.istore 6, 2) := by decide +kernel
theorem d_Tool_fits_21 : decode prog_10_method_3_code 21 = .ok (.iload 6, 2) := by decide +kernel
theorem d_Tool_fits_23 : decode prog_10_method_3_code 23 = .ok (.iload_n 2, 1) := by decide +kernel
theorem d_Tool_fits_24 : decode prog_10_method_3_code 24 = .ok (.iload 4, 2) := by decide +kernel
theorem d_Tool_fits_26 : decode prog_10_method_3_code 26 = .ok (.iadd, 1) := by decide +kernel
theorem d_Tool_fits_27 : decode prog_10_method_3_code 27 = .ok (.if_icmp .gt 26, 3) := by decide +kernel
theorem d_Tool_fits_30 : decode prog_10_method_3_code 30 = .ok (.aload_n 0, 1) := by decide +kernel
theorem d_Tool_fits_31 : decode prog_10_method_3_code 31 = .ok (.getfield 15, 3) := by decide +kernel
theorem d_Tool_fits_34 : decode prog_10_method_3_code 34 = .ok (.iload 6, 2) := by decide +kernel
theorem d_Tool_fits_36 : decode prog_10_method_3_code 36 = .ok (.iload 5, 2) := by decide +kernel
theorem d_Tool_fits_38 : decode prog_10_method_3_code 38 = .ok (.invokevirtual 46, 3) := by decide +kernel
theorem d_Tool_fits_41 : decode prog_10_method_3_code 41 = .ok (.iload_n 1, 1) := by decide +kernel
theorem d_Tool_fits_42 : decode prog_10_method_3_code 42 = .ok (.if_icmp .eq 5, 3) := by decide +kernel
theorem d_Tool_fits_45 : decode prog_10_method_3_code 45 = .ok (.iconst 0, 1) := by decide +kernel
theorem d_Tool_fits_46 : decode prog_10_method_3_code 46 = .ok (.ireturn, 1) := by decide +kernel
theorem d_Tool_fits_47 : decode prog_10_method_3_code 47 = .ok (.iinc 6 1, 3) := by decide +kernel
theorem d_Tool_fits_50 : decode prog_10_method_3_code 50 = .ok (.goto (-29), 3) := by decide +kernel
theorem d_Tool_fits_53 : decode prog_10_method_3_code 53 = .ok (.iinc 5 1, 3) := by decide +kernel
theorem d_Tool_fits_56 : decode prog_10_method_3_code 56 = .ok (.goto (-50), 3) := by decide +kernel
theorem d_Tool_fits_59 : decode prog_10_method_3_code 59 = .ok (.iconst 1, 1) := by decide +kernel
theorem d_Tool_fits_60 : decode prog_10_method_3_code 60 = .ok (.ireturn, 1) := by decide +kernel
theorem d_Tool_mark_0 : decode prog_10_method_4_code 0 = .ok (.iload_n 2, 1) := by decide +kernel
theorem d_Tool_mark_1 : decode prog_10_method_4_code 1 = .ok (.iload_n 3, 1) := by decide +kernel
theorem d_Tool_mark_2 : decode prog_10_method_4_code 2 = .ok (.isub, 1) := by decide +kernel
theorem d_Tool_mark_3 : decode prog_10_method_4_code 3 = .ok (.istore 4, 2) := by decide +kernel
theorem d_Tool_mark_5 : decode prog_10_method_4_code 5 = .ok (.iload 4, 2) := by decide +kernel
theorem d_Tool_mark_7 : decode prog_10_method_4_code 7 = .ok (.iload_n 2, 1) := by decide +kernel
theorem d_Tool_mark_8 : decode prog_10_method_4_code 8 = .ok (.iload_n 3, 1) := by decide +kernel
theorem d_Tool_mark_9 : decode prog_10_method_4_code 9 = .ok (.iadd, 1) := by decide +kernel
theorem d_Tool_mark_10 : decode prog_10_method_4_code 10 = .ok (.if_icmp .gt 75, 3) := by decide +kernel
theorem d_Tool_mark_13 : decode prog_10_method_4_code 13 = .ok (.iload_n 1, 1) := by decide +kernel
theorem d_Tool_mark_14 : decode prog_10_method_4_code 14 = .ok (.iload_n 3, 1) := by decide +kernel
theorem d_Tool_mark_15 : decode prog_10_method_4_code 15 = .ok (.isub, 1) := by decide +kernel
theorem d_Tool_mark_16 : decode prog_10_method_4_code 16 = .ok (.istore 5, 2) := by decide +kernel
theorem d_Tool_mark_18 : decode prog_10_method_4_code 18 = .ok (.iload 5, 2) := by decide +kernel
theorem d_Tool_mark_20 : decode prog_10_method_4_code 20 = .ok (.iload_n 1, 1) := by decide +kernel
theorem d_Tool_mark_21 : decode prog_10_method_4_code 21 = .ok (.iload_n 3, 1) := by decide +kernel
theorem d_Tool_mark_22 : decode prog_10_method_4_code 22 = .ok (.iadd, 1) := by decide +kernel
theorem d_Tool_mark_23 : decode prog_10_method_4_code 23 = .ok (.if_icmp .gt 56, 3) := by decide +kernel
theorem d_Tool_mark_26 : decode prog_10_method_4_code 26 = .ok (.aload_n 0, 1) := by decide +kernel
theorem d_Tool_mark_27 : decode prog_10_method_4_code 27 = .ok (.getfield 9, 3) := by decide +kernel
theorem d_Tool_mark_30 : decode prog_10_method_4_code 30 = .ok (.iload 5, 2) := by decide +kernel
theorem d_Tool_mark_32 : decode prog_10_method_4_code 32 = .ok (.iload 4, 2) := by decide +kernel
theorem d_Tool_mark_34 : decode prog_10_method_4_code 34 = .ok (.invokevirtual 52, 3) := by decide +kernel
theorem d_Tool_mark_37 : decode prog_10_method_4_code 37 = .ok (.istore 6, 2) := by decide +kernel
theorem d_Tool_mark_39 : decode prog_10_method_4_code 39 = .ok (.iload 6, 2) := by decide +kernel
theorem d_Tool_mark_41 : decode prog_10_method_4_code 41 = .ok (.iconst (-1), 1) := by decide +kernel
theorem d_Tool_mark_42 : decode prog_10_method_4_code 42 = .ok (.if_icmp .eq 31, 3) := by decide +kernel
theorem d_Tool_mark_45 : decode prog_10_method_4_code 45 = .ok (.aload_n 0, 1) := by decide +kernel
theorem d_Tool_mark_46 : decode prog_10_method_4_code 46 = .ok (.getfield 25, 3) := by decide +kernel
theorem d_Tool_mark_49 : decode prog_10_method_4_code 49 = .ok (.iload 6, 2) := by decide +kernel
theorem d_Tool_mark_51 : decode prog_10_method_4_code 51 = .ok (.baload, 1) := by decide +kernel
theorem d_Tool_mark_52 : decode prog_10_method_4_code 52 = .ok (.ifCond .ne 21, 3) := by decide +kernel
theorem d_Tool_mark_55 : decode prog_10_method_4_code 55 = .ok (.aload_n 0, 1) := by decide +kernel
theorem d_Tool_mark_56 : decode prog_10_method_4_code 56 = .ok (.getfield 25, 3) := by decide +kernel
theorem d_Tool_mark_59 : decode prog_10_method_4_code 59 = .ok (.iload 6, 2) := by decide +kernel
theorem d_Tool_mark_61 : decode prog_10_method_4_code 61 = .ok (.iconst 1, 1) := by decide +kernel
theorem d_Tool_mark_62 : decode prog_10_method_4_code 62 = .ok (.bastore, 1) := by decide +kernel
theorem d_Tool_mark_63 : decode prog_10_method_4_code 63 = .ok (.aload_n 0, 1) := by decide +kernel
theorem d_Tool_mark_64 : decode prog_10_method_4_code 64 = .ok (.dup, 1) := by decide +kernel
theorem d_Tool_mark_65 : decode prog_10_method_4_code 65 = .ok (.getfield 29, 3) := by decide +kernel
theorem d_Tool_mark_68 : decode prog_10_method_4_code 68 = .ok (.iconst 1, 1) := by decide +kernel
theorem d_Tool_mark_69 : decode prog_10_method_4_code 69 = .ok (.iadd, 1) := by decide +kernel
theorem d_Tool_mark_70 : decode prog_10_method_4_code 70 = .ok (.putfield 29, 3) := by decide +kernel
theorem d_Tool_mark_73 : decode prog_10_method_4_code 73 = .ok (.iinc 5 1, 3) := by decide +kernel
theorem d_Tool_mark_76 : decode prog_10_method_4_code 76 = .ok (.goto (-58), 3) := by decide +kernel
theorem d_Tool_mark_79 : decode prog_10_method_4_code 79 = .ok (.iinc 4 1, 3) := by decide +kernel
theorem d_Tool_mark_82 : decode prog_10_method_4_code 82 = .ok (.goto (-77), 3) := by decide +kernel
theorem d_Tool_mark_85 : decode prog_10_method_4_code 85 = .ok (.return_, 1) := by decide +kernel
theorem d_Walk_cornerX_0 : decode prog_11_method_6_code 0 = .ok (.aload_n 0, 1) := by decide +kernel
theorem d_Walk_cornerX_1 : decode prog_11_method_6_code 1 = .ok (.getfield 30, 3) := by decide +kernel
theorem d_Walk_cornerX_4 : decode prog_11_method_6_code 4 = .ok (.iload_n 1, 1) := by decide +kernel
theorem d_Walk_cornerX_5 : decode prog_11_method_6_code 5 = .ok (.iaload, 1) := by decide +kernel
theorem d_Walk_cornerX_6 : decode prog_11_method_6_code 6 = .ok (.ireturn, 1) := by decide +kernel
theorem d_Walk_cornerY_0 : decode prog_11_method_7_code 0 = .ok (.aload_n 0, 1) := by decide +kernel
theorem d_Walk_cornerY_1 : decode prog_11_method_7_code 1 = .ok (.getfield 34, 3) := by decide +kernel
theorem d_Walk_cornerY_4 : decode prog_11_method_7_code 4 = .ok (.iload_n 1, 1) := by decide +kernel
theorem d_Walk_cornerY_5 : decode prog_11_method_7_code 5 = .ok (.iaload, 1) := by decide +kernel
theorem d_Walk_cornerY_6 : decode prog_11_method_7_code 6 = .ok (.ireturn, 1) := by decide +kernel
theorem d_Walk_isAhead_0 : decode prog_11_method_4_code 0 = .ok (.aload_n 0, 1) := by decide +kernel
theorem d_Walk_isAhead_1 : decode prog_11_method_4_code 1 = .ok (.getfield 9, 3) := by decide +kernel
theorem d_Walk_isAhead_4 : decode prog_11_method_4_code 4 = .ok (.aload_n 0, 1) := by decide +kernel
theorem d_Walk_isAhead_5 : decode prog_11_method_4_code 5 = .ok (.getfield 37, 3) := by decide +kernel
theorem d_Walk_isAhead_8 : decode prog_11_method_4_code 8 = .ok (.getstatic 75, 3) := by decide +kernel
theorem d_Walk_isAhead_11 : decode prog_11_method_4_code 11 = .ok (.iload_n 2, 1) := by decide +kernel
theorem d_Walk_isAhead_12 : decode prog_11_method_4_code 12 = .ok (.iaload, 1) := by decide +kernel
theorem d_Walk_isAhead_13 : decode prog_11_method_4_code 13 = .ok (.iadd, 1) := by decide +kernel
theorem d_Walk_isAhead_14 : decode prog_11_method_4_code 14 = .ok (.aload_n 0, 1) := by decide +kernel
theorem d_Walk_isAhead_15 : decode prog_11_method_4_code 15 = .ok (.getfield 40, 3) := by decide +kernel
theorem d_Walk_isAhead_18 : decode prog_11_method_4_code 18 = .ok (.getstatic 78, 3) := by decide +kernel
theorem d_Walk_isAhead_21 : decode prog_11_method_4_code 21 = .ok (.iload_n 2, 1) := by decide +kernel
theorem d_Walk_isAhead_22 : decode prog_11_method_4_code 22 = .ok (.iaload, 1) := by decide +kernel
theorem d_Walk_isAhead_23 : decode prog_11_method_4_code 23 = .ok (.iadd, 1) := by decide +kernel
theorem d_Walk_isAhead_24 : decode prog_11_method_4_code 24 = .ok (.invokevirtual 81, 3) := by decide +kernel
theorem d_Walk_isAhead_27 : decode prog_11_method_4_code 27 = .ok (.iload_n 1, 1) := by decide +kernel
theorem d_Walk_isAhead_28 : decode prog_11_method_4_code 28 = .ok (.if_icmp .ne 7, 3) := by decide +kernel
theorem d_Walk_isAhead_31 : decode prog_11_method_4_code 31 = .ok (.iconst 1, 1) := by decide +kernel
theorem d_Walk_isAhead_32 : decode prog_11_method_4_code 32 = .ok (.goto 4, 3) := by decide +kernel
theorem d_Walk_isAhead_35 : decode prog_11_method_4_code 35 = .ok (.iconst 0, 1) := by decide +kernel
theorem d_Walk_isAhead_36 : decode prog_11_method_4_code 36 = .ok (.ireturn, 1) := by decide +kernel
theorem d_Walk_noteCorner_0 : decode prog_11_method_5_code 0 = .ok (.aload_n 0, 1) := by decide +kernel
theorem d_Walk_noteCorner_1 : decode prog_11_method_5_code 1 = .ok (.getfield 46, 3) := by decide +kernel
theorem d_Walk_noteCorner_4 : decode prog_11_method_5_code 4 = .ok (.aload_n 0, 1) := by decide +kernel
theorem d_Walk_noteCorner_5 : decode prog_11_method_5_code 5 = .ok (.getfield 30, 3) := by decide +kernel
theorem d_Walk_noteCorner_8 : decode prog_11_method_5_code 8 = .ok (.arraylength, 1) := by decide +kernel
theorem d_Walk_noteCorner_9 : decode prog_11_method_5_code 9 = .ok (.if_icmp .ge 39, 3) := by decide +kernel
theorem d_Walk_noteCorner_12 : decode prog_11_method_5_code 12 = .ok (.aload_n 0, 1) := by decide +kernel
theorem d_Walk_noteCorner_13 : decode prog_11_method_5_code 13 = .ok (.getfield 30, 3) := by decide +kernel
theorem d_Walk_noteCorner_16 : decode prog_11_method_5_code 16 = .ok (.aload_n 0, 1) := by decide +kernel
theorem d_Walk_noteCorner_17 : decode prog_11_method_5_code 17 = .ok (.getfield 46, 3) := by decide +kernel
theorem d_Walk_noteCorner_20 : decode prog_11_method_5_code 20 = .ok (.aload_n 0, 1) := by decide +kernel
theorem d_Walk_noteCorner_21 : decode prog_11_method_5_code 21 = .ok (.getfield 37, 3) := by decide +kernel
theorem d_Walk_noteCorner_24 : decode prog_11_method_5_code 24 = .ok (.iastore, 1) := by decide +kernel
theorem d_Walk_noteCorner_25 : decode prog_11_method_5_code 25 = .ok (.aload_n 0, 1) := by decide +kernel
theorem d_Walk_noteCorner_26 : decode prog_11_method_5_code 26 = .ok (.getfield 34, 3) := by decide +kernel
theorem d_Walk_noteCorner_29 : decode prog_11_method_5_code 29 = .ok (.aload_n 0, 1) := by decide +kernel
theorem d_Walk_noteCorner_30 : decode prog_11_method_5_code 30 = .ok (.getfield 46, 3) := by decide +kernel
theorem d_Walk_noteCorner_33 : decode prog_11_method_5_code 33 = .ok (.aload_n 0, 1) := by decide +kernel
theorem d_Walk_noteCorner_34 : decode prog_11_method_5_code 34 = .ok (.getfield 40, 3) := by decide +kernel
theorem d_Walk_noteCorner_37 : decode prog_11_method_5_code 37 = .ok (.iastore, 1) := by decide +kernel
theorem d_Walk_noteCorner_38 : decode prog_11_method_5_code 38 = .ok (.aload_n 0, 1) := by decide +kernel
theorem d_Walk_noteCorner_39 : decode prog_11_method_5_code 39 = .ok (.dup, 1) := by decide +kernel
theorem d_Walk_noteCorner_40 : decode prog_11_method_5_code 40 = .ok (.getfield 46, 3) := by decide +kernel
theorem d_Walk_noteCorner_43 : decode prog_11_method_5_code 43 = .ok (.iconst 1, 1) := by decide +kernel
theorem d_Walk_noteCorner_44 : decode prog_11_method_5_code 44 = .ok (.iadd, 1) := by decide +kernel
theorem d_Walk_noteCorner_45 : decode prog_11_method_5_code 45 = .ok (.putfield 46, 3) := by decide +kernel
theorem d_Walk_noteCorner_48 : decode prog_11_method_5_code 48 = .ok (.return_, 1) := by decide +kernel
theorem d_Walk_round_0 : decode prog_11_method_2_code 0 = .ok (.aload_n 0, 1) := by decide +kernel
theorem d_Walk_round_1 : decode prog_11_method_2_code 1 = .ok (.getfield 9, 3) := by decide +kernel
theorem d_Walk_round_4 : decode prog_11_method_2_code 4 = .ok (.iload_n 1, 1) := by decide +kernel
theorem d_Walk_round_5 : decode prog_11_method_2_code 5 = .ok (.invokevirtual 49, 3) := by decide +kernel
theorem d_Walk_round_8 : decode prog_11_method_2_code 8 = .ok (.istore_n 2, 1) := by decide +kernel
theorem d_Walk_round_9 : decode prog_11_method_2_code 9 = .ok (.aload_n 0, 1) := by decide +kernel
theorem d_Walk_round_10 : decode prog_11_method_2_code 10 = .ok (.getfield 9, 3) := by decide +kernel
theorem d_Walk_round_13 : decode prog_11_method_2_code 13 = .ok (.iload_n 1, 1) := by decide +kernel
theorem d_Walk_round_14 : decode prog_11_method_2_code 14 = .ok (.invokevirtual 55, 3) := by decide +kernel
theorem d_Walk_round_17 : decode prog_11_method_2_code 17 = .ok (.istore_n 3, 1) := by decide +kernel
theorem d_Walk_round_18 : decode prog_11_method_2_code 18 = .ok (.aload_n 0, 1) := by decide +kernel
theorem d_Walk_round_19 : decode prog_11_method_2_code 19 = .ok (.iload_n 2, 1) := by decide +kernel
theorem d_Walk_round_20 : decode prog_11_method_2_code 20 = .ok (.putfield 37, 3) := by decide +kernel
theorem d_Walk_round_23 : decode prog_11_method_2_code 23 = .ok (.aload_n 0, 1) := by decide +kernel
theorem d_Walk_round_24 : decode prog_11_method_2_code 24 = .ok (.iload_n 3, 1) := by decide +kernel
theorem d_Walk_round_25 : decode prog_11_method_2_code 25 = .ok (.putfield 40, 3) := by decide +kernel
theorem d_Walk_round_28 : decode prog_11_method_2_code 28 = .ok (.aload_n 0, 1) := by decide +kernel
theorem d_Walk_round_29 : decode prog_11_method_2_code 29 = .ok (.iconst 0, 1) := by decide +kernel
theorem d_Walk_round_30 : decode prog_11_method_2_code 30 = .ok (.putfield 43, 3) := by decide +kernel
theorem d_Walk_round_33 : decode prog_11_method_2_code 33 = .ok (.aload_n 0, 1) := by decide +kernel
theorem d_Walk_round_34 : decode prog_11_method_2_code 34 = .ok (.iconst 0, 1) := by decide +kernel
theorem d_Walk_round_35 : decode prog_11_method_2_code 35 = .ok (.putfield 46, 3) := by decide +kernel
theorem d_Walk_round_38 : decode prog_11_method_2_code 38 = .ok (.aload_n 0, 1) := by decide +kernel
theorem d_Walk_round_39 : decode prog_11_method_2_code 39 = .ok (.invokevirtual 58, 3) := by decide +kernel
theorem d_Walk_round_42 : decode prog_11_method_2_code 42 = .ok (.iconst 0, 1) := by decide +kernel
theorem d_Walk_round_43 : decode prog_11_method_2_code 43 = .ok (.istore 4, 2) := by decide +kernel
theorem d_Walk_round_45 : decode prog_11_method_2_code 45 = .ok (.iload 4, 2) := by decide +kernel
theorem d_Walk_round_47 : decode prog_11_method_2_code 47 = .ok (.aload_n 0, 1) := by decide +kernel
theorem d_Walk_round_48 : decode prog_11_method_2_code 48 = .ok (.getfield 21, 3) := by decide +kernel
theorem d_Walk_round_51 : decode prog_11_method_2_code 51 = .ok (.if_icmp .ge 67, 3) := by decide +kernel
theorem d_Walk_round_54 : decode prog_11_method_2_code 54 = .ok (.aload_n 0, 1) := by decide +kernel
theorem d_Walk_round_55 : decode prog_11_method_2_code 55 = .ok (.dup, 1) := by decide +kernel
theorem d_Walk_round_56 : decode prog_11_method_2_code 56 = .ok (.getfield 37, 3) := by decide +kernel
theorem d_Walk_round_59 : decode prog_11_method_2_code 59 = .ok (.getstatic 61, 3) := by decide +kernel
theorem d_Walk_round_62 : decode prog_11_method_2_code 62 = .ok (.aload_n 0, 1) := by decide +kernel
theorem d_Walk_round_63 : decode prog_11_method_2_code 63 = .ok (.getfield 43, 3) := by decide +kernel
theorem d_Walk_round_66 : decode prog_11_method_2_code 66 = .ok (.iaload, 1) := by decide +kernel
theorem d_Walk_round_67 : decode prog_11_method_2_code 67 = .ok (.iadd, 1) := by decide +kernel
theorem d_Walk_round_68 : decode prog_11_method_2_code 68 = .ok (.putfield 37, 3) := by decide +kernel
theorem d_Walk_round_71 : decode prog_11_method_2_code 71 = .ok (.aload_n 0, 1) := by decide +kernel
theorem d_Walk_round_72 : decode prog_11_method_2_code 72 = .ok (.dup, 1) := by decide +kernel
theorem d_Walk_round_73 : decode prog_11_method_2_code 73 = .ok (.getfield 40, 3) := by decide +kernel
theorem d_Walk_round_76 : decode prog_11_method_2_code 76 = .ok (.getstatic 64, 3) := by decide +kernel
theorem d_Walk_round_79 : decode prog_11_method_2_code 79 = .ok (.aload_n 0, 1) := by decide +kernel
theorem d_Walk_round_80 : decode prog_11_method_2_code 80 = .ok (.getfield 43, 3) := by decide +kernel
theorem d_Walk_round_83 : decode prog_11_method_2_code 83 = .ok (.iaload, 1) := by decide +kernel
theorem d_Walk_round_84 : decode prog_11_method_2_code 84 = .ok (.iadd, 1) := by decide +kernel
theorem d_Walk_round_85 : decode prog_11_method_2_code 85 = .ok (.putfield 40, 3) := by decide +kernel
theorem d_Walk_round_88 : decode prog_11_method_2_code 88 = .ok (.aload_n 0, 1) := by decide +kernel
theorem d_Walk_round_89 : decode prog_11_method_2_code 89 = .ok (.getfield 37, 3) := by decide +kernel
theorem d_Walk_round_92 : decode prog_11_method_2_code 92 = .ok (.iload_n 2, 1) := by decide +kernel
theorem d_Walk_round_93 : decode prog_11_method_2_code 93 = .ok (.if_icmp .ne 14, 3) := by decide +kernel
theorem d_Walk_round_96 : decode prog_11_method_2_code 96 = .ok (.aload_n 0, 1) := by decide +kernel
theorem d_Walk_round_97 : decode prog_11_method_2_code 97 = .ok (.getfield 40, 3) := by decide +kernel
theorem d_Walk_round_100 : decode prog_11_method_2_code 100 = .ok (.iload_n 3, 1) := by decide +kernel
theorem d_Walk_round_101 : decode prog_11_method_2_code 101 = .ok (.if_icmp .ne 6, 3) := by decide +kernel
theorem d_Walk_round_104 : decode prog_11_method_2_code 104 = .ok (.goto 14, 3) := by decide +kernel
theorem d_Walk_round_107 : decode prog_11_method_2_code 107 = .ok (.aload_n 0, 1) := by decide +kernel
theorem d_Walk_round_108 : decode prog_11_method_2_code 108 = .ok (.iload_n 1, 1) := by decide +kernel
theorem d_Walk_round_109 : decode prog_11_method_2_code 109 = .ok (.invokevirtual 67, 3) := by decide +kernel
theorem d_Walk_round_112 : decode prog_11_method_2_code 112 = .ok (.iinc 4 1, 3) := by decide +kernel
theorem d_Walk_round_115 : decode prog_11_method_2_code 115 = .ok (.goto (-70), 3) := by decide +kernel
theorem d_Walk_round_118 : decode prog_11_method_2_code 118 = .ok (.return_, 1) := by decide +kernel
theorem d_Walk_turn_0 : decode prog_11_method_3_code 0 = .ok (.aload_n 0, 1) := by decide +kernel
theorem d_Walk_turn_1 : decode prog_11_method_3_code 1 = .ok (.getfield 43, 3) := by decide +kernel
theorem d_Walk_turn_4 : decode prog_11_method_3_code 4 = .ok (.iconst 4, 1) := by decide +kernel
theorem d_Walk_turn_5 : decode prog_11_method_3_code 5 = .ok (.iadd, 1) := by decide +kernel
theorem d_Walk_turn_6 : decode prog_11_method_3_code 6 = .ok (.iconst 1, 1) := by decide +kernel
theorem d_Walk_turn_7 : decode prog_11_method_3_code 7 = .ok (.isub, 1) := by decide +kernel
theorem d_Walk_turn_8 : decode prog_11_method_3_code 8 = .ok (.iconst 4, 1) := by decide +kernel
theorem d_Walk_turn_9 : decode prog_11_method_3_code 9 = .ok (.irem, 1) := by decide +kernel
theorem d_Walk_turn_10 : decode prog_11_method_3_code 10 = .ok (.istore_n 2, 1) := by decide +kernel
theorem d_Walk_turn_11 : decode prog_11_method_3_code 11 = .ok (.aload_n 0, 1) := by decide +kernel
theorem d_Walk_turn_12 : decode prog_11_method_3_code 12 = .ok (.iload_n 1, 1) := by decide +kernel
theorem d_Walk_turn_13 : decode prog_11_method_3_code 13 = .ok (.aload_n 0, 1) := by decide +kernel
theorem d_Walk_turn_14 : decode prog_11_method_3_code 14 = .ok (.getfield 43, 3) := by decide +kernel
theorem d_Walk_turn_17 : decode prog_11_method_3_code 17 = .ok (.invokevirtual 71, 3) := by decide +kernel
theorem d_Walk_turn_20 : decode prog_11_method_3_code 20 = .ok (.ifCond .ne 22, 3) := by decide +kernel
theorem d_Walk_turn_23 : decode prog_11_method_3_code 23 = .ok (.aload_n 0, 1) := by decide +kernel
theorem d_Walk_turn_24 : decode prog_11_method_3_code 24 = .ok (.aload_n 0, 1) := by decide +kernel
theorem d_Walk_turn_25 : decode prog_11_method_3_code 25 = .ok (.getfield 43, 3) := by decide +kernel
theorem d_Walk_turn_28 : decode prog_11_method_3_code 28 = .ok (.iconst 1, 1) := by decide +kernel
theorem d_Walk_turn_29 : decode prog_11_method_3_code 29 = .ok (.iadd, 1) := by decide +kernel
theorem d_Walk_turn_30 : decode prog_11_method_3_code 30 = .ok (.iconst 4, 1) := by decide +kernel
theorem d_Walk_turn_31 : decode prog_11_method_3_code 31 = .ok (.irem, 1) := by decide +kernel
theorem d_Walk_turn_32 : decode prog_11_method_3_code 32 = .ok (.putfield 43, 3) := by decide +kernel
theorem d_Walk_turn_35 : decode prog_11_method_3_code 35 = .ok (.aload_n 0, 1) := by decide +kernel
theorem d_Walk_turn_36 : decode prog_11_method_3_code 36 = .ok (.invokevirtual 58, 3) := by decide +kernel
theorem d_Walk_turn_39 : decode prog_11_method_3_code 39 = .ok (.goto 21, 3) := by decide +kernel
theorem d_Walk_turn_42 : decode prog_11_method_3_code 42 = .ok (.aload_n 0, 1) := by decide +kernel
theorem d_Walk_turn_43 : decode prog_11_method_3_code 43 = .ok (.iload_n 1, 1) := by decide +kernel
theorem d_Walk_turn_44 : decode prog_11_method_3_code 44 = .ok (.iload_n 2, 1) := by decide +kernel
theorem d_Walk_turn_45 : decode prog_11_method_3_code 45 = .ok (.invokevirtual 71, 3) := by decide +kernel
theorem d_Walk_turn_48 : decode prog_11_method_3_code 48 = .ok (.ifCond .eq 12, 3) := by decide +kernel
theorem d_Walk_turn_51 : decode prog_11_method_3_code 51 = .ok (.aload_n 0, 1) := by decide +kernel
theorem d_Walk_turn_52 : decode prog_11_method_3_code 52 = .ok (.iload_n 2, 1) := by decide +kernel
theorem d_Walk_turn_53 : decode prog_11_method_3_code 53 = .ok (.putfield 43, 3) := by decide +kernel
theorem d_Walk_turn_56 : decode prog_11_method_3_code 56 = .ok (.aload_n 0, 1) := by decide +kernel
theorem d_Walk_turn_57 : decode prog_11_method_3_code 57 = .ok (.invokevirtual 58, 3) := by decide +kernel
theorem d_Walk_turn_60 : decode prog_11_method_3_code 60 = .ok (.return_, 1) := by decide +kernel
theorem d_Integer_compare_0 : decode prog_18_method_40_code 0 = .ok (.iload_n 0, 1) := by decide +kernel
theorem d_Integer_compare_1 : decode prog_18_method_40_code 1 = .ok (.iload_n 1, 1) := by decide +kernel
theorem d_Integer_compare_2 : decode prog_18_method_40_code 2 = .ok (.if_icmp .ge 7, 3) := by decide +kernel
theorem d_Integer_compare_5 : decode prog_18_method_40_code 5 = .ok (.iconst (-1), 1) := by decide +kernel
theorem d_Integer_compare_6 : decode prog_18_method_40_code 6 = .ok (.goto 13, 3) := by decide +kernel
theorem d_Integer_compare_9 : decode prog_18_method_40_code 9 = .ok (.iload_n 0, 1) := by decide +kernel
theorem d_Integer_compare_10 : decode prog_18_method_40_code 10 = .ok (.iload_n 1, 1) := by decide +kernel
theorem d_Integer_compare_11 : decode prog_18_method_40_code 11 = .ok (.if_icmp .ne 7, 3) := by decide +kernel
theorem d_Integer_compare_14 : decode prog_18_method_40_code 14 = .ok (.iconst 0, 1) := by decide +kernel
theorem d_Integer_compare_15 : decode prog_18_method_40_code 15 = .ok (.goto 4, 3) := by decide +kernel
theorem d_Integer_compare_18 : decode prog_18_method_40_code 18 = .ok (.iconst 1, 1) := by decide +kernel
theorem d_Integer_compare_19 : decode prog_18_method_40_code 19 = .ok (.ireturn, 1) := by decide +kernel
theorem d_Arrays_fill_0 : decode prog_23_method_103_code 0 = .ok (.iconst 0, 1) := by decide +kernel
theorem d_Arrays_fill_1 : decode prog_23_method_103_code 1 = .ok (.istore_n 2, 1) := by decide +kernel
theorem d_Arrays_fill_2 : decode prog_23_method_103_code 2 = .ok (.aload_n 0, 1) := by decide +kernel
theorem d_Arrays_fill_3 : decode prog_23_method_103_code 3 = .ok (.arraylength, 1) := by decide +kernel
theorem d_Arrays_fill_4 : decode prog_23_method_103_code 4 = .ok (.istore_n 3, 1) := by decide +kernel
theorem d_Arrays_fill_5 : decode prog_23_method_103_code 5 = .ok (.iload_n 2, 1) := by decide +kernel
theorem d_Arrays_fill_6 : decode prog_23_method_103_code 6 = .ok (.iload_n 3, 1) := by decide +kernel
theorem d_Arrays_fill_7 : decode prog_23_method_103_code 7 = .ok (.if_icmp .ge 13, 3) := by decide +kernel
theorem d_Arrays_fill_10 : decode prog_23_method_103_code 10 = .ok (.aload_n 0, 1) := by decide +kernel
theorem d_Arrays_fill_11 : decode prog_23_method_103_code 11 = .ok (.iload_n 2, 1) := by decide +kernel
theorem d_Arrays_fill_12 : decode prog_23_method_103_code 12 = .ok (.iload_n 1, 1) := by decide +kernel
theorem d_Arrays_fill_13 : decode prog_23_method_103_code 13 = .ok (.iastore, 1) := by decide +kernel
theorem d_Arrays_fill_14 : decode prog_23_method_103_code 14 = .ok (.iinc 2 1, 3) := by decide +kernel
theorem d_Arrays_fill_17 : decode prog_23_method_103_code 17 = .ok (.goto (-12), 3) := by decide +kernel
theorem d_Arrays_fill_20 : decode prog_23_method_103_code 20 = .ok (.return_, 1) := by decide +kernel
end
section
theorem sw_ne {x : Int32} {k : Int32} (h : ¬ x = k) {n : Int} (hn : k.toInt = n) : x.toInt ≠ n := fun q => h (Int32.toInt_inj.mp (by rw [q, hn]))
theorem sw_out0_5 {x : Int32} (h0 : ¬ x = 0) (h1 : ¬ x = 1) (h2 : ¬ x = 2) (h3 : ¬ x = 3) (h4 : ¬ x = 4) (h5 : ¬ x = 5) : x.toInt < 0 ∨ 5 < x.toInt := by
  have a0 := sw_ne h0 (n := 0) (by decide)
  have a1 := sw_ne h1 (n := 1) (by decide)
  have a2 := sw_ne h2 (n := 2) (by decide)
  have a3 := sw_ne h3 (n := 3) (by decide)
  have a4 := sw_ne h4 (n := 4) (by decide)
  have a5 := sw_ne h5 (n := 5) (by decide)
  omega
end
section
def wp_PI_needIndex (G : pG) (x0 x1 : Int32) (u : pS) (Q : pS → Prop) (X : Nat → pS → Prop) : Prop := (x0 < 0 → X 1 u) ∧ (¬ x0 < 0 → ((x0 < x1 → Q u) ∧ (¬ x0 < x1 → X 1 u)))
def wp_PI_needPlace (G : pG) (x1 x2 : Int32) (u : pS) (Q : pS → Prop) (X : Nat → pS → Prop) : Prop := wp_PI_needIndex G x1 (G.2.1 1) u (fun u1 => wp_PI_needIndex G x2 (G.2.1 2) u1 (fun u2 => Q u2) X) X
def wp_PI_needNumber (G : pG) (x0 x1 x2 : Int32) (u : pS) (Q : pS → Prop) (X : Nat → pS → Prop) : Prop := (x0 < x1 → X 2 u) ∧ (¬ x0 < x1 → ((x0 ≤ x2 → Q u) ∧ (¬ x0 ≤ x2 → X 2 u)))
def wp_PI_needColour (G : pG) (x0 x1 x2 : Int32) (u : pS) (Q : pS → Prop) (X : Nat → pS → Prop) : Prop := wp_PI_needNumber G x0 0 255 u (fun u1 => wp_PI_needNumber G x1 0 255 u1 (fun u2 => wp_PI_needNumber G x2 0 255 u2 (fun u3 => Q u3) X) X) X
def wp_Grid_placeOf (G : pG) (x1 x2 : Int32) (u : pS) (Q : Int32 → pS → Prop) : Prop := (x1 < 0 → (Q (-1) u)) ∧ (¬ x1 < 0 → (((G.2.1 1) ≤ x1 → (Q (-1) u)) ∧ (¬ (G.2.1 1) ≤ x1 → ((x2 < 0 → (Q (-1) u)) ∧ (¬ x2 < 0 → (((G.2.1 2) ≤ x2 → (Q (-1) u)) ∧ (¬ (G.2.1 2) ≤ x2 → (Q ((x2 * (G.2.1 1)) + x1) u))))))))
def jn_Colours_tell_picture_46 (G : pG) (Q : Int32 → pS → Prop) (x1 x2 x3 x4 : Int32) (u : pS) : Prop := vp_in x1 (G.1 14) ∧ ∀ u4 : pS, u4 = pw_sa u 0 (upd (u.2 0) x1.toNatClampNeg x2) → vp_in x1 (G.1 15) ∧ ∀ u5 : pS, u5 = pw_sa u4 1 (upd (u4.2 1) x1.toNatClampNeg x3) → vp_in x1 (G.1 16) ∧ ∀ u6 : pS, u6 = pw_sa u5 2 (upd (u5.2 2) x1.toNatClampNeg x4) → Q 1 u6
def wp_Colours_tell_picture (G : pG) (x1 x2 x3 x4 : Int32) (u : pS) (Q : Int32 → pS → Prop) : Prop := (x1 < 0 → Q 0 u) ∧ (¬ x1 < 0 → (((nI (G.1 14)) ≤ x1 → Q 0 u) ∧ (¬ (nI (G.1 14)) ≤ x1 → (vp_in x1 (G.1 14) ∧ (((u.2 0 x1.toNatClampNeg) = x2 → (vp_in x1 (G.1 15) ∧ (((u.2 1 x1.toNatClampNeg) = x3 → (vp_in x1 (G.1 16) ∧ (((u.2 2 x1.toNatClampNeg) = x4 → Q 0 u) ∧ (¬ (u.2 2 x1.toNatClampNeg) = x4 → (jn_Colours_tell_picture_46 G Q x1 x2 x3 x4 u))))) ∧ (¬ (u.2 1 x1.toNatClampNeg) = x3 → (jn_Colours_tell_picture_46 G Q x1 x2 x3 x4 u))))) ∧ (¬ (u.2 0 x1.toNatClampNeg) = x2 → (jn_Colours_tell_picture_46 G Q x1 x2 x3 x4 u)))))))
def wp_PI_told (G : pG) (x1 : Int32) (u : pS) (Q : Int32 → pS → Prop) : Prop := (x1 = 0 → (narrow .boolean (.int x1) = .int x1 ∧ Q x1 u)) ∧ (¬ x1 = 0 → (∀ u2 : pS, u2 = pw_si u 0 0 → ∀ u3 : pS, u3 = pw_si u2 1 0 → narrow .boolean (.int x1) = .int x1 ∧ Q x1 u3))
def wp_PI_pixel (G : pG) (x1 x2 x3 x4 x5 : Int32) (u : pS) (Q : Int32 → pS → Prop) (X : Nat → pS → Prop) : Prop := wp_PI_needPlace G x1 x2 u (fun u1 => wp_PI_needColour G x3 x4 x5 u1 (fun u2 => wp_Grid_placeOf G x1 x2 u2 (fun r4 u3 => wp_Colours_tell_picture G r4 x3 x4 x5 u3 (fun r6 u5 => wp_PI_told G r6 u5 (fun r8 u7 => narrow .boolean (.int r8) = .int r8 ∧ Q r8 u7)))) X) X
def jn_Colours_tell_woods_46 (G : pG) (Q : Int32 → pS → Prop) (x1 x2 x3 x4 : Int32) (u : pS) : Prop := vp_in x1 (G.1 17) ∧ ∀ u4 : pS, u4 = pw_sa u 3 (upd (u.2 3) x1.toNatClampNeg x2) → vp_in x1 (G.1 18) ∧ ∀ u5 : pS, u5 = pw_sa u4 4 (upd (u4.2 4) x1.toNatClampNeg x3) → vp_in x1 (G.1 19) ∧ ∀ u6 : pS, u6 = pw_sa u5 5 (upd (u5.2 5) x1.toNatClampNeg x4) → Q 1 u6
def wp_Colours_tell_woods (G : pG) (x1 x2 x3 x4 : Int32) (u : pS) (Q : Int32 → pS → Prop) : Prop := (x1 < 0 → Q 0 u) ∧ (¬ x1 < 0 → (((nI (G.1 17)) ≤ x1 → Q 0 u) ∧ (¬ (nI (G.1 17)) ≤ x1 → (vp_in x1 (G.1 17) ∧ (((u.2 3 x1.toNatClampNeg) = x2 → (vp_in x1 (G.1 18) ∧ (((u.2 4 x1.toNatClampNeg) = x3 → (vp_in x1 (G.1 19) ∧ (((u.2 5 x1.toNatClampNeg) = x4 → Q 0 u) ∧ (¬ (u.2 5 x1.toNatClampNeg) = x4 → (jn_Colours_tell_woods_46 G Q x1 x2 x3 x4 u))))) ∧ (¬ (u.2 4 x1.toNatClampNeg) = x3 → (jn_Colours_tell_woods_46 G Q x1 x2 x3 x4 u))))) ∧ (¬ (u.2 3 x1.toNatClampNeg) = x2 → (jn_Colours_tell_woods_46 G Q x1 x2 x3 x4 u)))))))
def wp_PI_kind (G : pG) (x1 x2 x3 x4 : Int32) (u : pS) (Q : Int32 → pS → Prop) (X : Nat → pS → Prop) : Prop := wp_PI_needIndex G x1 (G.2.1 0) u (fun u1 => wp_PI_needColour G x2 x3 x4 u1 (fun u2 => wp_Colours_tell_woods G x1 x2 x3 x4 u2 (fun r4 u3 => wp_PI_told G r4 u3 (fun r6 u5 => narrow .boolean (.int r6) = .int r6 ∧ Q r6 u5))) X) X
def wp_PI_needParted (G : pG) (u : pS) (Q : pS → Prop) (X : Nat → pS → Prop) : Prop := ((u.1 0) = 0 → X 0 u) ∧ (¬ (u.1 0) = 0 → Q u)
def wp_Pieces_numberOf (G : pG) (x1 x2 : Int32) (u : pS) (Q : Int32 → pS → Prop) : Prop := wp_Grid_placeOf G x1 x2 u (fun r2 u1 => (r2 = (-1) → (Q (-1) u1)) ∧ (¬ r2 = (-1) → (vp_in r2 (G.1 21) ∧ (Q (u1.2 7 r2.toNatClampNeg) u1))))
def wp_PI_pieceOf (G : pG) (x1 x2 : Int32) (u : pS) (Q : Int32 → pS → Prop) (X : Nat → pS → Prop) : Prop := wp_PI_needParted G  u (fun u1 => wp_PI_needPlace G x1 x2 u1 (fun u2 => wp_Pieces_numberOf G x1 x2 u2 (fun r4 u3 => Q r4 u3)) X) X
def wp_PI_needPiece (G : pG) (x1 : Int32) (u : pS) (Q : pS → Prop) (X : Nat → pS → Prop) : Prop := wp_PI_needParted G  u (fun u1 => wp_PI_needIndex G x1 (u1.1 2) u1 (fun u2 => Q u2) X) X
def wp_Pieces_woodOf (G : pG) (x1 : Int32) (u : pS) (Q : Int32 → pS → Prop) : Prop := vp_in x1 (G.1 24) ∧ (vp_in (u.2 10 x1.toNatClampNeg) (G.1 20) ∧ (Q (u.2 6 (u.2 10 x1.toNatClampNeg).toNatClampNeg) u))
def wp_Pieces_sizeOf (G : pG) (x1 : Int32) (u : pS) (Q : Int32 → pS → Prop) : Prop := vp_in x1 (G.1 25) ∧ (Q (u.2 11 x1.toNatClampNeg) u)
def wp_Pieces_leastXOf (G : pG) (x1 : Int32) (u : pS) (Q : Int32 → pS → Prop) : Prop := vp_in x1 (G.1 26) ∧ (Q (u.2 12 x1.toNatClampNeg) u)
def wp_Grid_rowOf (G : pG) (x1 : Int32) (u : pS) (Q : Int32 → pS → Prop) : Prop := vp_in x1 (G.1 12) ∧ (Q (G.2.2 1 x1.toNatClampNeg) u)
def wp_Pieces_leastYOf (G : pG) (x1 : Int32) (u : pS) (Q : Int32 → pS → Prop) : Prop := vp_in x1 (G.1 24) ∧ (wp_Grid_rowOf G (u.2 10 x1.toNatClampNeg) u (fun r2 u1 => Q r2 u1))
def wp_Pieces_columnsOf (G : pG) (x1 : Int32) (u : pS) (Q : Int32 → pS → Prop) : Prop := vp_in x1 (G.1 27) ∧ (vp_in x1 (G.1 26) ∧ (Q (((u.2 13 x1.toNatClampNeg) - (u.2 12 x1.toNatClampNeg)) + 1) u))
def wp_Pieces_rowsOf (G : pG) (x1 : Int32) (u : pS) (Q : Int32 → pS → Prop) : Prop := vp_in x1 (G.1 28) ∧ (wp_Pieces_leastYOf G x1 u (fun r2 u1 => Q (((u.2 14 x1.toNatClampNeg) - r2) + 1) u1))
def wp_Pieces_isAtEdge (G : pG) (x1 : Int32) (u : pS) (Q : Int32 → pS → Prop) : Prop := vp_in x1 (G.1 26) ∧ (((u.2 12 x1.toNatClampNeg) = 0 → Q 1 u) ∧ (¬ (u.2 12 x1.toNatClampNeg) = 0 → (vp_in x1 (G.1 27) ∧ (((u.2 13 x1.toNatClampNeg) = ((G.2.1 1) - 1) → Q 1 u) ∧ (¬ (u.2 13 x1.toNatClampNeg) = ((G.2.1 1) - 1) → (wp_Pieces_leastYOf G x1 u (fun r4 u3 => (r4 = 0 → Q 1 u3) ∧ (¬ r4 = 0 → (vp_in x1 (G.1 28) ∧ (((u3.2 14 x1.toNatClampNeg) = ((G.2.1 2) - 1) → Q 1 u3) ∧ (¬ (u3.2 14 x1.toNatClampNeg) = ((G.2.1 2) - 1) → Q 0 u3)))))))))))
def wp_PI_piece (G : pG) (x1 x2 : Int32) (u : pS) (Q : Int32 → pS → Prop) (X : Nat → pS → Prop) : Prop := wp_PI_needPiece G x1 u (fun u1 => wp_PI_needNumber G x2 0 6 u1 (fun u2 => (x2 = 0 → (wp_Pieces_woodOf G x1 u2 (fun r4 u3 => Q r4 u3))) ∧ (¬ x2 = 0 → ((x2 = 1 → (wp_Pieces_sizeOf G x1 u2 (fun r6 u5 => Q r6 u5))) ∧ (¬ x2 = 1 → ((x2 = 2 → (wp_Pieces_leastXOf G x1 u2 (fun r8 u7 => Q r8 u7))) ∧ (¬ x2 = 2 → ((x2 = 3 → (wp_Pieces_leastYOf G x1 u2 (fun r10 u9 => Q r10 u9))) ∧ (¬ x2 = 3 → ((x2 = 4 → (wp_Pieces_columnsOf G x1 u2 (fun r12 u11 => Q r12 u11))) ∧ (¬ x2 = 4 → ((x2 = 5 → (wp_Pieces_rowsOf G x1 u2 (fun r14 u13 => Q r14 u13))) ∧ (¬ x2 = 5 → (wp_Pieces_isAtEdge G x1 u2 (fun r16 u15 => (r16 = 0 → Q 0 u15) ∧ (¬ r16 = 0 → Q 1 u15))))))))))))))) X) X
def lp_Arrays_fill_sides_5 (G : pG) (Q : pS → Prop) : Nat → Int32 → Int32 → Int32 → pS → Prop
  | 0 => fun _ _ _ _ => False
  | n + 1 => fun x1 x2 x3 u => (x3 ≤ x2 → Q u) ∧ (¬ x3 ≤ x2 → (vp_in x2 (G.1 23) ∧ ∀ u3 : pS, u3 = pw_sa u 9 (upd (u.2 9) x2.toNatClampNeg x1) → ∀ t4 : Int32, t4 = x2 + 1 → lp_Arrays_fill_sides_5 G Q n x1 t4 x3 u3))
def wp_Arrays_fill_sides (G : pG) (x1 : Int32) (u : pS) (Q : pS → Prop) : Prop := ∀ t1 : Int32, t1 = (nI (G.1 23)) → (∃ n1, lp_Arrays_fill_sides_5 G Q n1 x1 0 t1 u)
def wp_Grid_besideOf (G : pG) (x1 x2 : Int32) (u : pS) (Q : Int32 → pS → Prop) : Prop := vp_in ((x1 * 4) + x2) (G.1 13) ∧ (Q (G.2.2 2 ((x1 * 4) + x2).toNatClampNeg) u)
def lp_Pieces_countSidesAt_2 (G : pG) (Q : pS → Prop) : Nat → Int32 → Int32 → pS → Prop
  | 0 => fun _ _ _ => False
  | n + 1 => fun x1 x2 u => (4 ≤ x2 → Q u) ∧ (¬ 4 ≤ x2 → (wp_Grid_besideOf G x1 x2 u (fun r3 u2 => (r3 = (-1) → (∀ t5 : Int32, t5 = x2 + 1 → lp_Pieces_countSidesAt_2 G Q n x1 t5 u2)) ∧ (¬ r3 = (-1) → (vp_in r3 (G.1 21) ∧ (vp_in x1 (G.1 21) ∧ (((u2.2 7 r3.toNatClampNeg) = (u2.2 7 x1.toNatClampNeg) → (∀ t7 : Int32, t7 = x2 + 1 → lp_Pieces_countSidesAt_2 G Q n x1 t7 u2)) ∧ (¬ (u2.2 7 r3.toNatClampNeg) = (u2.2 7 x1.toNatClampNeg) → (vp_in r3 (G.1 21) ∧ (vp_in (u2.2 7 r3.toNatClampNeg) (G.1 23) ∧ (vp_in (u2.2 7 r3.toNatClampNeg) (G.1 23) ∧ ∀ u8 : pS, u8 = pw_sa u2 9 (upd (u2.2 9) (u2.2 7 r3.toNatClampNeg).toNatClampNeg ((u2.2 9 (u2.2 7 r3.toNatClampNeg).toNatClampNeg) + 1)) → ∀ t9 : Int32, t9 = x2 + 1 → lp_Pieces_countSidesAt_2 G Q n x1 t9 u8)))))))))))
def wp_Pieces_countSidesAt (G : pG) (x1 : Int32) (u : pS) (Q : pS → Prop) : Prop := (∃ n1, lp_Pieces_countSidesAt_2 G Q n1 x1 0 u)
def lp_Pieces_countSidesOf_10 (G : pG) (Q : pS → Prop) : Nat → Int32 → Int32 → pS → Prop
  | 0 => fun _ _ _ => False
  | n + 1 => fun x1 x2 u => ((G.2.1 3) ≤ x2 → Q u) ∧ (¬ (G.2.1 3) ≤ x2 → (vp_in x2 (G.1 21) ∧ (((u.2 7 x2.toNatClampNeg) = x1 → (wp_Pieces_countSidesAt G x2 u (fun u5 => ∀ t6 : Int32, t6 = x2 + 1 → lp_Pieces_countSidesOf_10 G Q n x1 t6 u5))) ∧ (¬ (u.2 7 x2.toNatClampNeg) = x1 → (∀ t4 : Int32, t4 = x2 + 1 → lp_Pieces_countSidesOf_10 G Q n x1 t4 u)))))
def wp_Pieces_countSidesOf (G : pG) (x1 : Int32) (u : pS) (Q : pS → Prop) : Prop := wp_Arrays_fill_sides G 0 u (fun u1 => (∃ n1, lp_Pieces_countSidesOf_10 G Q n1 x1 0 u1))
def wp_Pieces_sidesBetween (G : pG) (x1 x2 : Int32) (u : pS) (Q : Int32 → pS → Prop) : Prop := wp_Pieces_countSidesOf G x1 u (fun u1 => vp_in x2 (G.1 23) ∧ (Q (u1.2 9 x2.toNatClampNeg) u1))
def wp_PI_joined (G : pG) (x1 x2 : Int32) (u : pS) (Q : Int32 → pS → Prop) (X : Nat → pS → Prop) : Prop := wp_PI_needPiece G x1 u (fun u1 => wp_PI_needPiece G x2 u1 (fun u2 => wp_Pieces_sidesBetween G x1 x2 u2 (fun r4 u3 => Q r4 u3)) X) X
def wp_Grid_columnOf (G : pG) (x1 : Int32) (u : pS) (Q : Int32 → pS → Prop) : Prop := vp_in x1 (G.1 11) ∧ (Q (G.2.2 0 x1.toNatClampNeg) u)
def wp_Pieces_firstXOf (G : pG) (x1 : Int32) (u : pS) (Q : Int32 → pS → Prop) : Prop := vp_in x1 (G.1 24) ∧ (wp_Grid_columnOf G (u.2 10 x1.toNatClampNeg) u (fun r2 u1 => Q r2 u1))
def wp_Walk_noteCorner (G : pG) (u : pS) (Q : pS → Prop) : Prop := ((nI (G.1 32)) ≤ (u.1 6) → Q u) ∧ (¬ (nI (G.1 32)) ≤ (u.1 6) → (vp_in (u.1 6) (G.1 32) ∧ ∀ u2 : pS, u2 = pw_sa u 18 (upd (u.2 18) (u.1 6).toNatClampNeg (u.1 3)) → vp_in (u2.1 6) (G.1 33) ∧ ∀ u3 : pS, u3 = pw_sa u2 19 (upd (u2.2 19) (u2.1 6).toNatClampNeg (u2.1 4)) → ∀ u4 : pS, u4 = pw_si u3 6 ((u3.1 6) + 1) → Q u4))
def wp_Walk_isAhead (G : pG) (x1 x2 : Int32) (u : pS) (Q : Int32 → pS → Prop) : Prop := vp_in x2 4 ∧ (vp_in x2 4 ∧ (wp_Pieces_numberOf G ((u.1 3) + (tb_AX x2.toNatClampNeg)) ((u.1 4) + (tb_AY x2.toNatClampNeg)) u (fun r2 u1 => (r2 = x1 → Q 1 u1) ∧ (¬ r2 = x1 → Q 0 u1))))
def wp_Walk_turn (G : pG) (x1 : Int32) (u : pS) (Q : pS → Prop) : Prop := ∀ t1 : Int32, t1 = ((((u.1 5) + 4) - 1) - (((u.1 5) + 4) - 1) / 4 * 4) → wp_Walk_isAhead G x1 (u.1 5) u (fun r3 u2 => (r3 = 0 → (∀ u10 : pS, u10 = pw_si u2 5 (((u2.1 5) + 1) - ((u2.1 5) + 1) / 4 * 4) → wp_Walk_noteCorner G  u10 (fun u11 => Q u11))) ∧ (¬ r3 = 0 → (wp_Walk_isAhead G x1 t1 u2 (fun r6 u5 => (r6 = 0 → Q u5) ∧ (¬ r6 = 0 → (∀ u8 : pS, u8 = pw_si u5 5 t1 → wp_Walk_noteCorner G  u8 (fun u9 => Q u9)))))))
def jn_Walk_round_107 (G : pG) (Q : pS → Prop) (k45 : Int32 → Int32 → Int32 → Int32 → pS → Prop) (x1 x2 x3 x4 : Int32) (u : pS) : Prop := wp_Walk_turn G x1 u (fun u14 => ∀ t15 : Int32, t15 = x4 + 1 → k45 x1 x2 x3 t15 u14)
def lp_Walk_round_45 (G : pG) (Q : pS → Prop) : Nat → Int32 → Int32 → Int32 → Int32 → pS → Prop
  | 0 => fun _ _ _ _ _ => False
  | n + 1 => fun x1 x2 x3 x4 u => ((G.2.1 4) ≤ x4 → Q u) ∧ (¬ (G.2.1 4) ≤ x4 → (vp_in (u.1 5) 4 ∧ (∀ u11 : pS, u11 = pw_si u 3 ((u.1 3) + (tb_SX (u.1 5).toNatClampNeg)) → vp_in (u11.1 5) 4 ∧ (∀ u12 : pS, u12 = pw_si u11 4 ((u11.1 4) + (tb_SY (u11.1 5).toNatClampNeg)) → ((u12.1 3) = x2 → (((u12.1 4) = x3 → Q u12) ∧ (¬ (u12.1 4) = x3 → (jn_Walk_round_107 G Q (lp_Walk_round_45 G Q n) x1 x2 x3 x4 u12)))) ∧ (¬ (u12.1 3) = x2 → (jn_Walk_round_107 G Q (lp_Walk_round_45 G Q n) x1 x2 x3 x4 u12))))))
def wp_Walk_round (G : pG) (x1 : Int32) (u : pS) (Q : pS → Prop) : Prop := wp_Pieces_firstXOf G x1 u (fun r2 u1 => wp_Pieces_leastYOf G x1 u1 (fun r4 u3 => ∀ u5 : pS, u5 = pw_si u3 3 r2 → ∀ u6 : pS, u6 = pw_si u5 4 r4 → ∀ u7 : pS, u7 = pw_si u6 5 0 → ∀ u8 : pS, u8 = pw_si u7 6 0 → wp_Walk_noteCorner G  u8 (fun u9 => (∃ n1, lp_Walk_round_45 G Q n1 x1 r2 r4 0 u9))))
def wp_PI_outline (G : pG) (x1 : Int32) (u : pS) (Q : Int32 → pS → Prop) (X : Nat → pS → Prop) : Prop := wp_PI_needPiece G x1 u (fun u1 => wp_Walk_round G x1 u1 (fun u2 => Q (u2.1 6) u2)) X
def wp_Walk_cornerY (G : pG) (x1 : Int32) (u : pS) (Q : Int32 → pS → Prop) : Prop := vp_in x1 (G.1 33) ∧ (Q (u.2 19 x1.toNatClampNeg) u)
def wp_Walk_cornerX (G : pG) (x1 : Int32) (u : pS) (Q : Int32 → pS → Prop) : Prop := vp_in x1 (G.1 32) ∧ (Q (u.2 18 x1.toNatClampNeg) u)
def wp_PI_corner (G : pG) (x1 x2 x3 : Int32) (u : pS) (Q : Int32 → pS → Prop) (X : Nat → pS → Prop) : Prop := wp_PI_needPiece G x1 u (fun u1 => wp_PI_needIndex G x3 2 u1 (fun u2 => wp_Walk_round G x1 u2 (fun u3 => wp_PI_needIndex G x2 (u3.1 6) u3 (fun u4 => (x3 = 0 → (wp_Walk_cornerX G x2 u4 (fun r9 u8 => Q r9 u8))) ∧ (¬ x3 = 0 → (wp_Walk_cornerY G x2 u4 (fun r7 u6 => Q r7 u6)))) X)) X) X
def lp_Tool_fits_21 (G : pG) (Q : Int32 → pS → Prop) (k6 : Int32 → Int32 → Int32 → Int32 → Int32 → pS → Prop) : Nat → Int32 → Int32 → Int32 → Int32 → Int32 → Int32 → pS → Prop
  | 0 => fun _ _ _ _ _ _ _ => False
  | n + 1 => fun x1 x2 x3 x4 x5 x6 u => ((x2 + x4) < x6 → (∀ t5 : Int32, t5 = x5 + 1 → k6 x1 x2 x3 x4 t5 u)) ∧ (¬ (x2 + x4) < x6 → (wp_Pieces_numberOf G x6 x5 u (fun r7 u6 => (r7 = x1 → (∀ t9 : Int32, t9 = x6 + 1 → lp_Tool_fits_21 G Q k6 n x1 x2 x3 x4 x5 t9 u6)) ∧ (¬ r7 = x1 → Q 0 u6))))
def lp_Tool_fits_6 (G : pG) (Q : Int32 → pS → Prop) : Nat → Int32 → Int32 → Int32 → Int32 → Int32 → pS → Prop
  | 0 => fun _ _ _ _ _ _ => False
  | n + 1 => fun x1 x2 x3 x4 x5 u => ((x3 + x4) < x5 → Q 1 u) ∧ (¬ (x3 + x4) < x5 → (∀ t3 : Int32, t3 = (x2 - x4) → (∃ n1, lp_Tool_fits_21 G Q (lp_Tool_fits_6 G Q n) n1 x1 x2 x3 x4 x5 t3 u)))
def wp_Tool_fits (G : pG) (x1 x2 x3 x4 : Int32) (u : pS) (Q : Int32 → pS → Prop) : Prop := ∀ t1 : Int32, t1 = (x3 - x4) → (∃ n1, lp_Tool_fits_6 G Q n1 x1 x2 x3 x4 t1 u)
def lp_Tool_mark_18 (G : pG) (Q : pS → Prop) (k5 : Int32 → Int32 → Int32 → Int32 → pS → Prop) : Nat → Int32 → Int32 → Int32 → Int32 → Int32 → pS → Prop
  | 0 => fun _ _ _ _ _ _ => False
  | n + 1 => fun x1 x2 x3 x4 x5 u => ((x1 + x3) < x5 → (∀ t5 : Int32, t5 = x4 + 1 → k5 x1 x2 x3 t5 u)) ∧ (¬ (x1 + x3) < x5 → (wp_Grid_placeOf G x5 x4 u (fun r7 u6 => (r7 = (-1) → (∀ t9 : Int32, t9 = x5 + 1 → lp_Tool_mark_18 G Q k5 n x1 x2 x3 x4 t9 u6)) ∧ (¬ r7 = (-1) → (vp_in r7 (G.1 34) ∧ (((u6.2 20 r7.toNatClampNeg) = 0 → (vp_in r7 (G.1 34) ∧ ∀ u12 : pS, u12 = pw_sa u6 20 (upd (u6.2 20) r7.toNatClampNeg (vp_nar .boolean 1)) → ∀ u13 : pS, u13 = pw_si u12 7 ((u12.1 7) + 1) → ∀ t14 : Int32, t14 = x5 + 1 → lp_Tool_mark_18 G Q k5 n x1 x2 x3 x4 t14 u13)) ∧ (¬ (u6.2 20 r7.toNatClampNeg) = 0 → (∀ t11 : Int32, t11 = x5 + 1 → lp_Tool_mark_18 G Q k5 n x1 x2 x3 x4 t11 u6))))))))
def lp_Tool_mark_5 (G : pG) (Q : pS → Prop) : Nat → Int32 → Int32 → Int32 → Int32 → pS → Prop
  | 0 => fun _ _ _ _ _ => False
  | n + 1 => fun x1 x2 x3 x4 u => ((x2 + x3) < x4 → Q u) ∧ (¬ (x2 + x3) < x4 → (∀ t3 : Int32, t3 = (x1 - x3) → (∃ n1, lp_Tool_mark_18 G Q (lp_Tool_mark_5 G Q n) n1 x1 x2 x3 x4 t3 u)))
def wp_Tool_mark (G : pG) (x1 x2 x3 : Int32) (u : pS) (Q : pS → Prop) : Prop := ∀ t1 : Int32, t1 = (x2 - x3) → (∃ n1, lp_Tool_mark_5 G Q n1 x1 x2 x3 t1 u)
def lp_Tool_cover_49 (G : pG) (Q : pS → Prop) (k33 : Int32 → Int32 → Int32 → pS → Prop) : Nat → Int32 → Int32 → Int32 → Int32 → pS → Prop
  | 0 => fun _ _ _ _ _ => False
  | n + 1 => fun x1 x2 x3 x4 u => (((G.2.1 1) - x2) ≤ x4 → (∀ t5 : Int32, t5 = x3 + 1 → k33 x1 x2 t5 u)) ∧ (¬ ((G.2.1 1) - x2) ≤ x4 → (wp_Tool_fits G x1 x4 x3 x2 u (fun r7 u6 => (r7 = 0 → (∀ t9 : Int32, t9 = x4 + 1 → lp_Tool_cover_49 G Q k33 n x1 x2 x3 t9 u6)) ∧ (¬ r7 = 0 → (wp_Tool_mark G x4 x3 x2 u6 (fun u10 => ∀ t11 : Int32, t11 = x4 + 1 → lp_Tool_cover_49 G Q k33 n x1 x2 x3 t11 u10))))))
def lp_Tool_cover_33 (G : pG) (Q : pS → Prop) : Nat → Int32 → Int32 → Int32 → pS → Prop
  | 0 => fun _ _ _ _ => False
  | n + 1 => fun x1 x2 x3 u => (((G.2.1 2) - x2) ≤ x3 → Q u) ∧ (¬ ((G.2.1 2) - x2) ≤ x3 → ((∃ n1, lp_Tool_cover_49 G Q (lp_Tool_cover_33 G Q n) n1 x1 x2 x3 x2 u)))
def lp_Tool_cover_2 (G : pG) (Q : pS → Prop) : Nat → Int32 → Int32 → Int32 → pS → Prop
  | 0 => fun _ _ _ _ => False
  | n + 1 => fun x1 x2 x3 u => ((G.2.1 3) ≤ x3 → (∀ u2 : pS, u2 = pw_si u 7 0 → (∃ n1, lp_Tool_cover_33 G Q n1 x1 x2 x2 u2))) ∧ (¬ (G.2.1 3) ≤ x3 → (vp_in x3 (G.1 34) ∧ ∀ u12 : pS, u12 = pw_sa u 20 (upd (u.2 20) x3.toNatClampNeg (vp_nar .boolean 0)) → ∀ t13 : Int32, t13 = x3 + 1 → lp_Tool_cover_2 G Q n x1 x2 t13 u12))
def wp_Tool_cover (G : pG) (x1 x2 : Int32) (u : pS) (Q : pS → Prop) : Prop := (∃ n1, lp_Tool_cover_2 G Q n1 x1 x2 0 u)
def wp_PI_left (G : pG) (x1 x2 : Int32) (u : pS) (Q : Int32 → pS → Prop) (X : Nat → pS → Prop) : Prop := wp_PI_needPiece G x1 u (fun u1 => wp_PI_needNumber G x2 0 10 u1 (fun u2 => wp_Tool_cover G x1 x2 u2 (fun u3 => wp_Pieces_sizeOf G x1 u3 (fun r5 u4 => Q (r5 - (u4.1 7)) u4))) X) X
def wp_Tool_covers (G : pG) (x1 x2 : Int32) (u : pS) (Q : Int32 → pS → Prop) : Prop := wp_Grid_placeOf G x1 x2 u (fun r2 u1 => (r2 = (-1) → Q 0 u1) ∧ (¬ r2 = (-1) → (vp_in r2 (G.1 34) ∧ (((u1.2 20 r2.toNatClampNeg) = 0 → Q 0 u1) ∧ (¬ (u1.2 20 r2.toNatClampNeg) = 0 → Q 1 u1)))))
def wp_PI_reached (G : pG) (x1 x2 x3 : Int32) (u : pS) (Q : Int32 → pS → Prop) (X : Nat → pS → Prop) : Prop := wp_PI_needParted G  u (fun u1 => wp_PI_needPlace G x1 x2 u1 (fun u2 => wp_PI_needNumber G x3 0 10 u2 (fun u3 => wp_Pieces_numberOf G x1 x2 u3 (fun r5 u4 => wp_Tool_cover G r5 x3 u4 (fun u6 => wp_Tool_covers G x1 x2 u6 (fun r8 u7 => narrow .boolean (.int r8) = .int r8 ∧ Q r8 u7)))) X) X) X
def wp_Ranking_ranked_laying (G : pG) (x1 : Int32) (u : pS) (Q : Int32 → pS → Prop) : Prop := vp_in x1 (G.1 30) ∧ (Q (u.2 16 x1.toNatClampNeg) u)
def wp_PI_order (G : pG) (x1 : Int32) (u : pS) (Q : Int32 → pS → Prop) (X : Nat → pS → Prop) : Prop := wp_PI_needPiece G x1 u (fun u1 => wp_Ranking_ranked_laying G x1 u1 (fun r3 u2 => Q r3 u2)) X
def wp_Integer_compare (G : pG) (x0 x1 : Int32) (u : pS) (Q : Int32 → pS → Prop) : Prop := (x1 ≤ x0 → ((x0 = x1 → Q 0 u) ∧ (¬ x0 = x1 → Q 1 u))) ∧ (¬ x1 ≤ x0 → (Q (-1) u))
def wp_Highest_compare (G : pG) (x1 x2 : Int32) (u : pS) (Q : Int32 → pS → Prop) : Prop := wp_Pieces_rowsOf G x1 u (fun r2 u1 => wp_Pieces_rowsOf G x2 u1 (fun r4 u3 => (r2 = r4 → (wp_Pieces_columnsOf G x2 u3 (fun r7 u6 => wp_Pieces_columnsOf G x1 u6 (fun r9 u8 => wp_Integer_compare G r7 r9 u8 (fun r11 u10 => Q r11 u10))))) ∧ (¬ r2 = r4 → (wp_Pieces_rowsOf G x2 u3 (fun r13 u12 => wp_Pieces_rowsOf G x1 u12 (fun r15 u14 => wp_Integer_compare G r13 r15 u14 (fun r17 u16 => Q r17 u16)))))))
def lp_Ranking_rank_highest_18 (G : pG) (Q : pS → Prop) (k2 : Int32 → Int32 → pS → Prop) : Nat → Int32 → Int32 → Int32 → pS → Prop
  | 0 => fun _ _ _ _ => False
  | n + 1 => fun x1 x2 x3 u => (x3 ≤ 0 → (vp_in x3 (G.1 31) ∧ ∀ u4 : pS, u4 = pw_sa u 17 (upd (u.2 17) x3.toNatClampNeg x2) → ∀ t5 : Int32, t5 = x2 + 1 → k2 x1 t5 u4)) ∧ (¬ x3 ≤ 0 → (vp_in (x3 - 1) (G.1 31) ∧ (wp_Highest_compare G x2 (u.2 17 (x3 - 1).toNatClampNeg) u (fun r7 u6 => (0 ≤ r7 → (vp_in x3 (G.1 31) ∧ ∀ u9 : pS, u9 = pw_sa u6 17 (upd (u6.2 17) x3.toNatClampNeg x2) → ∀ t10 : Int32, t10 = x2 + 1 → k2 x1 t10 u9)) ∧ (¬ 0 ≤ r7 → (vp_in (x3 - 1) (G.1 31) ∧ (vp_in x3 (G.1 31) ∧ ∀ u11 : pS, u11 = pw_sa u6 17 (upd (u6.2 17) x3.toNatClampNeg (u6.2 17 (x3 - 1).toNatClampNeg)) → ∀ t12 : Int32, t12 = x3 + (-1) → lp_Ranking_rank_highest_18 G Q k2 n x1 x2 t12 u11)))))))
def lp_Ranking_rank_highest_2 (G : pG) (Q : pS → Prop) : Nat → Int32 → Int32 → pS → Prop
  | 0 => fun _ _ _ => False
  | n + 1 => fun x1 x2 u => (x1 ≤ x2 → Q u) ∧ (¬ x1 ≤ x2 → (((nI (G.1 31)) ≤ x2 → Q u) ∧ (¬ (nI (G.1 31)) ≤ x2 → ((∃ n1, lp_Ranking_rank_highest_18 G Q (lp_Ranking_rank_highest_2 G Q n) n1 x1 x2 x2 u)))))
def wp_Ranking_rank_highest (G : pG) (x1 : Int32) (u : pS) (Q : pS → Prop) : Prop := (∃ n1, lp_Ranking_rank_highest_2 G Q n1 x1 0 u)
def wp_Ranking_ranked_highest (G : pG) (x1 : Int32) (u : pS) (Q : Int32 → pS → Prop) : Prop := vp_in x1 (G.1 31) ∧ (Q (u.2 17 x1.toNatClampNeg) u)
def wp_Sheet_newRow (G : pG) (x1 : Int32) (u : pS) (Q : Int32 → pS → Prop) : Prop := ((u.1 8) < (nI (G.1 37)) → (vp_in (u.1 8) (G.1 37) ∧ ∀ u2 : pS, u2 = pw_sa u 23 (upd (u.2 23) (u.1 8).toNatClampNeg (u.1 9)) → vp_in (u2.1 8) (G.1 38) ∧ ∀ u3 : pS, u3 = pw_sa u2 24 (upd (u2.2 24) (u2.1 8).toNatClampNeg x1) → vp_in (u3.1 8) (G.1 39) ∧ ∀ u4 : pS, u4 = pw_sa u3 25 (upd (u3.2 25) (u3.1 8).toNatClampNeg 0) → ∀ u5 : pS, u5 = pw_si u4 9 ((u4.1 9) + x1) → ∀ u6 : pS, u6 = pw_si u5 8 ((u5.1 8) + 1) → Q ((u6.1 8) - 1) u6)) ∧ (¬ (u.1 8) < (nI (G.1 37)) → (Q (-1) u))
def lp_Sheet_rowFor_23 (G : pG) (Q : Int32 → pS → Prop) : Nat → Int32 → Int32 → Int32 → Int32 → Int32 → pS → Prop
  | 0 => fun _ _ _ _ _ _ => False
  | n + 1 => fun x2 x3 x4 x5 x6 u => ((u.1 8) ≤ x6 → ((x2 < x4 → (Q (-1) u)) ∧ (¬ x2 < x4 → ((x3 < ((u.1 9) + x5) → (Q (-1) u)) ∧ (¬ x3 < ((u.1 9) + x5) → (wp_Sheet_newRow G x5 u (fun r9 u8 => Q r9 u8))))))) ∧ (¬ (u.1 8) ≤ x6 → (vp_in x6 (G.1 39) ∧ ((x2 < ((u.2 25 x6.toNatClampNeg) + x4) → (∀ t11 : Int32, t11 = x6 + 1 → lp_Sheet_rowFor_23 G Q n x2 x3 x4 x5 t11 u)) ∧ (¬ x2 < ((u.2 25 x6.toNatClampNeg) + x4) → (vp_in x6 (G.1 38) ∧ (((u.2 24 x6.toNatClampNeg) < x5 → (∀ t13 : Int32, t13 = x6 + 1 → lp_Sheet_rowFor_23 G Q n x2 x3 x4 x5 t13 u)) ∧ (¬ (u.2 24 x6.toNatClampNeg) < x5 → Q x6 u)))))))
def wp_Sheet_rowFor (G : pG) (x1 x2 x3 : Int32) (u : pS) (Q : Int32 → pS → Prop) : Prop := wp_Pieces_columnsOf G x1 u (fun r2 u1 => wp_Pieces_rowsOf G x1 u1 (fun r4 u3 => (∃ n1, lp_Sheet_rowFor_23 G Q n1 x2 x3 r2 r4 0 u3)))
def wp_Sheet_put (G : pG) (x1 x2 : Int32) (u : pS) (Q : pS → Prop) : Prop := vp_in x2 (G.1 39) ∧ (vp_in x1 (G.1 35) ∧ ∀ u1 : pS, u1 = pw_sa u 21 (upd (u.2 21) x1.toNatClampNeg (u.2 25 x2.toNatClampNeg)) → vp_in x2 (G.1 37) ∧ (vp_in x1 (G.1 36) ∧ ∀ u2 : pS, u2 = pw_sa u1 22 (upd (u1.2 22) x1.toNatClampNeg (u1.2 23 x2.toNatClampNeg)) → vp_in x2 (G.1 39) ∧ (wp_Pieces_columnsOf G x1 u2 (fun r4 u3 => vp_in x2 (G.1 39) ∧ ∀ u5 : pS, u5 = pw_sa u3 25 (upd (u3.2 25) x2.toNatClampNeg ((u2.2 25 x2.toNatClampNeg) + r4)) → Q u5))))
def lp_Sheet_fill_29 (G : pG) (Q : Int32 → pS → Prop) : Nat → Int32 → Int32 → Int32 → Int32 → pS → Prop
  | 0 => fun _ _ _ _ _ => False
  | n + 1 => fun x1 x2 x3 x4 u => ((u.1 2) ≤ x4 → Q x3 u) ∧ (¬ (u.1 2) ≤ x4 → (wp_Ranking_ranked_highest G x4 u (fun r6 u5 => wp_Sheet_rowFor G r6 x1 x2 u5 (fun r8 u7 => (r8 = (-1) → (vp_in r6 (G.1 35) ∧ ∀ u13 : pS, u13 = pw_sa u7 21 (upd (u7.2 21) r6.toNatClampNeg (-1)) → vp_in r6 (G.1 36) ∧ ∀ u14 : pS, u14 = pw_sa u13 22 (upd (u13.2 22) r6.toNatClampNeg (-1)) → ∀ t15 : Int32, t15 = x4 + 1 → lp_Sheet_fill_29 G Q n x1 x2 x3 t15 u14)) ∧ (¬ r8 = (-1) → (wp_Sheet_put G r6 r8 u7 (fun u10 => ∀ t11 : Int32, t11 = x3 + 1 → ∀ t12 : Int32, t12 = x4 + 1 → lp_Sheet_fill_29 G Q n x1 x2 t11 t12 u10)))))))
def wp_Sheet_fill (G : pG) (x1 x2 : Int32) (u : pS) (Q : Int32 → pS → Prop) : Prop := wp_Ranking_rank_highest G (u.1 2) u (fun u1 => ∀ u2 : pS, u2 = pw_si u1 8 0 → ∀ u3 : pS, u3 = pw_si u2 9 0 → (∃ n1, lp_Sheet_fill_29 G Q n1 x1 x2 0 0 u3))
def wp_PI_nest (G : pG) (x1 x2 : Int32) (u : pS) (Q : Int32 → pS → Prop) (X : Nat → pS → Prop) : Prop := wp_PI_needParted G  u (fun u1 => wp_PI_needNumber G x1 1 100 u1 (fun u2 => wp_PI_needNumber G x2 1 100 u2 (fun u3 => ∀ u4 : pS, u4 = pw_si u3 1 1 → wp_Sheet_fill G x1 x2 u4 (fun r6 u5 => Q r6 u5)) X) X) X
def wp_PI_needNested (G : pG) (u : pS) (Q : pS → Prop) (X : Nat → pS → Prop) : Prop := ((u.1 1) = 0 → X 0 u) ∧ (¬ (u.1 1) = 0 → Q u)
def wp_Sheet_yOf (G : pG) (x1 : Int32) (u : pS) (Q : Int32 → pS → Prop) : Prop := vp_in x1 (G.1 36) ∧ (Q (u.2 22 x1.toNatClampNeg) u)
def wp_Sheet_xOf (G : pG) (x1 : Int32) (u : pS) (Q : Int32 → pS → Prop) : Prop := vp_in x1 (G.1 35) ∧ (Q (u.2 21 x1.toNatClampNeg) u)
def wp_PI_at (G : pG) (x1 x2 : Int32) (u : pS) (Q : Int32 → pS → Prop) (X : Nat → pS → Prop) : Prop := wp_PI_needNested G  u (fun u1 => wp_PI_needPiece G x1 u1 (fun u2 => wp_PI_needIndex G x2 2 u2 (fun u3 => (x2 = 0 → (wp_Sheet_xOf G x1 u3 (fun r8 u7 => Q r8 u7))) ∧ (¬ x2 = 0 → (wp_Sheet_yOf G x1 u3 (fun r6 u5 => Q r6 u5)))) X) X) X
def lp_PI_commonDivisor_7 (G : pG) (Q : Int32 → pS → Prop) : Nat → Int32 → Int32 → Int32 → pS → Prop
  | 0 => fun _ _ _ _ => False
  | n + 1 => fun x2 x3 x4 u => (1000000 ≤ x4 → Q x2 u) ∧ (¬ 1000000 ≤ x4 → ((x3 = 0 → Q x2 u) ∧ (¬ x3 = 0 → (¬ x3 = 0 ∧ (∀ t3 : Int32, t3 = (x2 - x2 / x3 * x3) → ∀ t4 : Int32, t4 = x4 + 1 → lp_PI_commonDivisor_7 G Q n x3 t3 t4 u)))))
def wp_PI_commonDivisor (G : pG) (x0 x1 : Int32) (u : pS) (Q : Int32 → pS → Prop) : Prop := (∃ n1, lp_PI_commonDivisor_7 G Q n1 x0 x1 0 u)
def jn_PI_border_54 (G : pG) (Q : Int32 → pS → Prop) (X : Nat → pS → Prop) (x3 x4 y2 : Int32) (u : pS) : Prop := ∀ t7 : Int32, t7 = (if x4 < 1 then 1 else x4) → wp_PI_commonDivisor G t7 y2 u (fun r9 u8 => (x3 = 1 → ((r9 ≤ 0 → Q y2 u8) ∧ (¬ r9 ≤ 0 → (¬ r9 = 0 ∧ (Q (y2 / r9) u8))))) ∧ (¬ x3 = 1 → ((r9 ≤ 0 → Q t7 u8) ∧ (¬ r9 ≤ 0 → (¬ r9 = 0 ∧ (Q (t7 / r9) u8))))))
def jn_PI_border_30 (G : pG) (Q : Int32 → pS → Prop) (X : Nat → pS → Prop) (x1 x2 x3 y3 : Int32) (u : pS) : Prop := (x3 = 0 → Q y3 u) ∧ (¬ x3 = 0 → ((y3 ≤ 0 → (jn_PI_border_54 G Q X x3 y3 0 u)) ∧ (¬ y3 ≤ 0 → (jn_PI_border_54 G Q X x3 y3 (x1 - (y3 * x2)) u))))
def wp_PI_border (G : pG) (x1 x2 x3 : Int32) (u : pS) (Q : Int32 → pS → Prop) (X : Nat → pS → Prop) : Prop := wp_PI_needIndex G x3 3 u (fun u1 => wp_PI_needNumber G x1 1 1000000 u1 (fun u2 => wp_PI_needNumber G x2 1 1000000 u2 (fun u3 => (x2 ≤ 0 → (jn_PI_border_30 G Q X x1 x2 x3 0 u3)) ∧ (¬ x2 ≤ 0 → (¬ x2 = 0 ∧ (jn_PI_border_30 G Q X x1 x2 x3 (x1 / x2) u3)))) X) X) X
def wp_Colours_brightness_woods (G : pG) (x1 : Int32) (u : pS) (Q : Int32 → pS → Prop) : Prop := vp_in x1 (G.1 17) ∧ (vp_in x1 (G.1 18) ∧ (vp_in x1 (G.1 19) ∧ (Q (((2 * (u.2 3 x1.toNatClampNeg)) + (5 * (u.2 4 x1.toNatClampNeg))) + (u.2 5 x1.toNatClampNeg)) u)))
def wp_Brightest_compare (G : pG) (x1 x2 : Int32) (u : pS) (Q : Int32 → pS → Prop) : Prop := wp_Colours_brightness_woods G x2 u (fun r2 u1 => wp_Colours_brightness_woods G x1 u1 (fun r4 u3 => wp_Integer_compare G r2 r4 u3 (fun r6 u5 => Q r6 u5)))
def lp_Ranking_rank_brightest_18 (G : pG) (Q : pS → Prop) (k2 : Int32 → Int32 → pS → Prop) : Nat → Int32 → Int32 → Int32 → pS → Prop
  | 0 => fun _ _ _ _ => False
  | n + 1 => fun x1 x2 x3 u => (x3 ≤ 0 → (vp_in x3 (G.1 29) ∧ ∀ u4 : pS, u4 = pw_sa u 15 (upd (u.2 15) x3.toNatClampNeg x2) → ∀ t5 : Int32, t5 = x2 + 1 → k2 x1 t5 u4)) ∧ (¬ x3 ≤ 0 → (vp_in (x3 - 1) (G.1 29) ∧ (wp_Brightest_compare G x2 (u.2 15 (x3 - 1).toNatClampNeg) u (fun r7 u6 => (0 ≤ r7 → (vp_in x3 (G.1 29) ∧ ∀ u9 : pS, u9 = pw_sa u6 15 (upd (u6.2 15) x3.toNatClampNeg x2) → ∀ t10 : Int32, t10 = x2 + 1 → k2 x1 t10 u9)) ∧ (¬ 0 ≤ r7 → (vp_in (x3 - 1) (G.1 29) ∧ (vp_in x3 (G.1 29) ∧ ∀ u11 : pS, u11 = pw_sa u6 15 (upd (u6.2 15) x3.toNatClampNeg (u6.2 15 (x3 - 1).toNatClampNeg)) → ∀ t12 : Int32, t12 = x3 + (-1) → lp_Ranking_rank_brightest_18 G Q k2 n x1 x2 t12 u11)))))))
def lp_Ranking_rank_brightest_2 (G : pG) (Q : pS → Prop) : Nat → Int32 → Int32 → pS → Prop
  | 0 => fun _ _ _ => False
  | n + 1 => fun x1 x2 u => (x1 ≤ x2 → Q u) ∧ (¬ x1 ≤ x2 → (((nI (G.1 29)) ≤ x2 → Q u) ∧ (¬ (nI (G.1 29)) ≤ x2 → ((∃ n1, lp_Ranking_rank_brightest_18 G Q (lp_Ranking_rank_brightest_2 G Q n) n1 x1 x2 x2 u)))))
def wp_Ranking_rank_brightest (G : pG) (x1 : Int32) (u : pS) (Q : pS → Prop) : Prop := (∃ n1, lp_Ranking_rank_brightest_2 G Q n1 x1 0 u)
def wp_Ranking_ranked_brightest (G : pG) (x1 : Int32) (u : pS) (Q : Int32 → pS → Prop) : Prop := vp_in x1 (G.1 29) ∧ (Q (u.2 15 x1.toNatClampNeg) u)
def wp_PI_sorted (G : pG) (x1 : Int32) (u : pS) (Q : Int32 → pS → Prop) (X : Nat → pS → Prop) : Prop := wp_PI_needIndex G x1 (G.2.1 0) u (fun u1 => wp_Ranking_rank_brightest G (G.2.1 0) u1 (fun u2 => wp_Ranking_ranked_brightest G x1 u2 (fun r4 u3 => Q r4 u3))) X
def lp_Arrays_fill_numberAt_5 (G : pG) (Q : pS → Prop) : Nat → Int32 → Int32 → Int32 → pS → Prop
  | 0 => fun _ _ _ _ => False
  | n + 1 => fun x1 x2 x3 u => (x3 ≤ x2 → Q u) ∧ (¬ x3 ≤ x2 → (vp_in x2 (G.1 21) ∧ ∀ u3 : pS, u3 = pw_sa u 7 (upd (u.2 7) x2.toNatClampNeg x1) → ∀ t4 : Int32, t4 = x2 + 1 → lp_Arrays_fill_numberAt_5 G Q n x1 t4 x3 u3))
def wp_Arrays_fill_numberAt (G : pG) (x1 : Int32) (u : pS) (Q : pS → Prop) : Prop := ∀ t1 : Int32, t1 = (nI (G.1 21)) → (∃ n1, lp_Arrays_fill_numberAt_5 G Q n1 x1 0 t1 u)
def wp_Pieces_begin (G : pG) (x1 x2 : Int32) (u : pS) (Q : pS → Prop) : Prop := vp_in x2 (G.1 24) ∧ ∀ u1 : pS, u1 = pw_sa u 10 (upd (u.2 10) x2.toNatClampNeg x1) → vp_in x2 (G.1 25) ∧ ∀ u2 : pS, u2 = pw_sa u1 11 (upd (u1.2 11) x2.toNatClampNeg 0) → wp_Grid_columnOf G x1 u2 (fun r4 u3 => vp_in x2 (G.1 26) ∧ ∀ u5 : pS, u5 = pw_sa u3 12 (upd (u3.2 12) x2.toNatClampNeg r4) → wp_Grid_columnOf G x1 u5 (fun r7 u6 => vp_in x2 (G.1 27) ∧ ∀ u8 : pS, u8 = pw_sa u6 13 (upd (u6.2 13) x2.toNatClampNeg r7) → wp_Grid_rowOf G x1 u8 (fun r10 u9 => vp_in x2 (G.1 28) ∧ ∀ u11 : pS, u11 = pw_sa u9 14 (upd (u9.2 14) x2.toNatClampNeg r10) → Q u11)))
def wp_Pieces_include (G : pG) (x1 x2 : Int32) (u : pS) (Q : pS → Prop) : Prop := vp_in x2 (G.1 25) ∧ (vp_in x2 (G.1 25) ∧ ∀ u1 : pS, u1 = pw_sa u 11 (upd (u.2 11) x2.toNatClampNeg ((u.2 11 x2.toNatClampNeg) + 1)) → vp_in x2 (G.1 26) ∧ (wp_Grid_columnOf G x1 u1 (fun r3 u2 => ∀ t4 : Int32, t4 = (if r3 < (u1.2 12 x2.toNatClampNeg) then r3 else (u1.2 12 x2.toNatClampNeg)) → vp_in x2 (G.1 26) ∧ ∀ u5 : pS, u5 = pw_sa u2 12 (upd (u2.2 12) x2.toNatClampNeg t4) → vp_in x2 (G.1 27) ∧ (wp_Grid_columnOf G x1 u5 (fun r7 u6 => ∀ t8 : Int32, t8 = (if (u5.2 13 x2.toNatClampNeg) < r7 then r7 else (u5.2 13 x2.toNatClampNeg)) → vp_in x2 (G.1 27) ∧ ∀ u9 : pS, u9 = pw_sa u6 13 (upd (u6.2 13) x2.toNatClampNeg t8) → vp_in x2 (G.1 28) ∧ (wp_Grid_rowOf G x1 u9 (fun r11 u10 => ∀ t12 : Int32, t12 = (if (u9.2 14 x2.toNatClampNeg) < r11 then r11 else (u9.2 14 x2.toNatClampNeg)) → vp_in x2 (G.1 28) ∧ ∀ u13 : pS, u13 = pw_sa u10 14 (upd (u10.2 14) x2.toNatClampNeg t12) → Q u13)))))))
def lp_Pieces_gather_62 (G : pG) (Q : pS → Prop) (k25 : Int32 → Int32 → Int32 → Int32 → pS → Prop) : Nat → Int32 → Int32 → Int32 → Int32 → Int32 → Int32 → pS → Prop
  | 0 => fun _ _ _ _ _ _ _ => False
  | n + 1 => fun x1 x2 x3 x4 x5 x6 u => (4 ≤ x6 → (∀ t9 : Int32, t9 = x4 + 1 → k25 x1 x2 x3 t9 u)) ∧ (¬ 4 ≤ x6 → (wp_Grid_besideOf G x5 x6 u (fun r11 u10 => (r11 = (-1) → (∀ t13 : Int32, t13 = x6 + 1 → lp_Pieces_gather_62 G Q k25 n x1 x2 x3 x4 x5 t13 u10)) ∧ (¬ r11 = (-1) → (vp_in r11 (G.1 21) ∧ (((u10.2 7 r11.toNatClampNeg) = (-1) → (vp_in r11 (G.1 20) ∧ (vp_in x1 (G.1 20) ∧ (((u10.2 6 r11.toNatClampNeg) = (u10.2 6 x1.toNatClampNeg) → (((G.2.1 3) ≤ x3 → (∀ t19 : Int32, t19 = x6 + 1 → lp_Pieces_gather_62 G Q k25 n x1 x2 x3 x4 x5 t19 u10)) ∧ (¬ (G.2.1 3) ≤ x3 → (vp_in r11 (G.1 21) ∧ ∀ u20 : pS, u20 = pw_sa u10 7 (upd (u10.2 7) r11.toNatClampNeg x2) → vp_in x3 (G.1 22) ∧ ∀ u21 : pS, u21 = pw_sa u20 8 (upd (u20.2 8) x3.toNatClampNeg r11) → ∀ t22 : Int32, t22 = x3 + 1 → ∀ t23 : Int32, t23 = x6 + 1 → lp_Pieces_gather_62 G Q k25 n x1 x2 t22 x4 x5 t23 u21)))) ∧ (¬ (u10.2 6 r11.toNatClampNeg) = (u10.2 6 x1.toNatClampNeg) → (∀ t17 : Int32, t17 = x6 + 1 → lp_Pieces_gather_62 G Q k25 n x1 x2 x3 x4 x5 t17 u10)))))) ∧ (¬ (u10.2 7 r11.toNatClampNeg) = (-1) → (∀ t15 : Int32, t15 = x6 + 1 → lp_Pieces_gather_62 G Q k25 n x1 x2 x3 x4 x5 t15 u10))))))))
def lp_Pieces_gather_25 (G : pG) (Q : pS → Prop) : Nat → Int32 → Int32 → Int32 → Int32 → pS → Prop
  | 0 => fun _ _ _ _ _ => False
  | n + 1 => fun x1 x2 x3 x4 u => (x3 ≤ x4 → Q u) ∧ (¬ x3 ≤ x4 → (((G.2.1 3) ≤ x4 → Q u) ∧ (¬ (G.2.1 3) ≤ x4 → (vp_in x4 (G.1 22) ∧ (∀ t6 : Int32, t6 = (u.2 8 x4.toNatClampNeg) → wp_Pieces_include G t6 x2 u (fun u7 => (∃ n1, lp_Pieces_gather_62 G Q (lp_Pieces_gather_25 G Q n) n1 x1 x2 x3 x4 t6 0 u7)))))))
def wp_Pieces_gather (G : pG) (x1 x2 : Int32) (u : pS) (Q : pS → Prop) : Prop := wp_Pieces_begin G x1 x2 u (fun u1 => vp_in x1 (G.1 21) ∧ ∀ u2 : pS, u2 = pw_sa u1 7 (upd (u1.2 7) x1.toNatClampNeg x2) → vp_in 0 (G.1 22) ∧ ∀ u3 : pS, u3 = pw_sa u2 8 (upd (u2.2 8) (0 : Int32).toNatClampNeg x1) → (∃ n1, lp_Pieces_gather_25 G Q n1 x1 x2 1 0 u3))
def lp_Pieces_gatherAll_15 (G : pG) (Q : pS → Prop) : Nat → Int32 → pS → Prop
  | 0 => fun _ _ => False
  | n + 1 => fun x1 u => ((G.2.1 3) ≤ x1 → Q u) ∧ (¬ (G.2.1 3) ≤ x1 → (vp_in x1 (G.1 21) ∧ (((u.2 7 x1.toNatClampNeg) = (-1) → (wp_Pieces_gather G x1 (u.1 2) u (fun u6 => ∀ u7 : pS, u7 = pw_si u6 2 ((u6.1 2) + 1) → ∀ t8 : Int32, t8 = x1 + 1 → lp_Pieces_gatherAll_15 G Q n t8 u7))) ∧ (¬ (u.2 7 x1.toNatClampNeg) = (-1) → (∀ t5 : Int32, t5 = x1 + 1 → lp_Pieces_gatherAll_15 G Q n t5 u)))))
def wp_Pieces_gatherAll (G : pG) (u : pS) (Q : pS → Prop) : Prop := wp_Arrays_fill_numberAt G (-1) u (fun u1 => ∀ u2 : pS, u2 = pw_si u1 2 0 → (∃ n1, lp_Pieces_gatherAll_15 G Q n1 0 u2))
def lp_Pieces_smallest_4 (G : pG) (Q : Int32 → pS → Prop) : Nat → Int32 → Int32 → pS → Prop
  | 0 => fun _ _ _ => False
  | n + 1 => fun x1 x2 u => ((u.1 2) ≤ x2 → Q x1 u) ∧ (¬ (u.1 2) ≤ x2 → (vp_in x2 (G.1 25) ∧ (vp_in x1 (G.1 25) ∧ (((u.2 11 x1.toNatClampNeg) ≤ (u.2 11 x2.toNatClampNeg) → (∀ t3 : Int32, t3 = x2 + 1 → lp_Pieces_smallest_4 G Q n x1 t3 u)) ∧ (¬ (u.2 11 x1.toNatClampNeg) ≤ (u.2 11 x2.toNatClampNeg) → (∀ t4 : Int32, t4 = x2 + 1 → lp_Pieces_smallest_4 G Q n x2 t4 u))))))
def wp_Pieces_smallest (G : pG) (u : pS) (Q : Int32 → pS → Prop) : Prop := (∃ n1, lp_Pieces_smallest_4 G Q n1 0 1 u)
def lp_Pieces_closestTo_9 (G : pG) (Q : Int32 → pS → Prop) : Nat → Int32 → Int32 → pS → Prop
  | 0 => fun _ _ _ => False
  | n + 1 => fun x2 x3 u => ((u.1 2) ≤ x3 → Q x2 u) ∧ (¬ (u.1 2) ≤ x3 → (vp_in x3 (G.1 23) ∧ (vp_in x2 (G.1 23) ∧ (((u.2 9 x3.toNatClampNeg) ≤ (u.2 9 x2.toNatClampNeg) → (∀ t4 : Int32, t4 = x3 + 1 → lp_Pieces_closestTo_9 G Q n x2 t4 u)) ∧ (¬ (u.2 9 x3.toNatClampNeg) ≤ (u.2 9 x2.toNatClampNeg) → (∀ t5 : Int32, t5 = x3 + 1 → lp_Pieces_closestTo_9 G Q n x3 t5 u))))))
def wp_Pieces_closestTo (G : pG) (x1 : Int32) (u : pS) (Q : Int32 → pS → Prop) : Prop := wp_Pieces_countSidesOf G x1 u (fun u1 => (∃ n1, lp_Pieces_closestTo_9 G Q n1 0 1 u1))
def lp_Pieces_joinSmallest_38 (G : pG) (Q : Int32 → pS → Prop) : Nat → Int32 → Int32 → Int32 → pS → Prop
  | 0 => fun _ _ _ _ => False
  | n + 1 => fun x2 x3 x4 u => ((G.2.1 3) ≤ x4 → Q 1 u) ∧ (¬ (G.2.1 3) ≤ x4 → (vp_in x4 (G.1 21) ∧ (((u.2 7 x4.toNatClampNeg) = x2 → (vp_in x4 (G.1 20) ∧ ∀ u12 : pS, u12 = pw_sa u 6 (upd (u.2 6) x4.toNatClampNeg x3) → ∀ t13 : Int32, t13 = x4 + 1 → lp_Pieces_joinSmallest_38 G Q n x2 x3 t13 u12)) ∧ (¬ (u.2 7 x4.toNatClampNeg) = x2 → (∀ t11 : Int32, t11 = x4 + 1 → lp_Pieces_joinSmallest_38 G Q n x2 x3 t11 u)))))
def wp_Pieces_joinSmallest (G : pG) (x1 : Int32) (u : pS) (Q : Int32 → pS → Prop) : Prop := wp_Pieces_smallest G  u (fun r2 u1 => ((u1.1 2) < 2 → Q 0 u1) ∧ (¬ (u1.1 2) < 2 → (vp_in r2 (G.1 25) ∧ (((u1.2 11 r2.toNatClampNeg) < x1 → (wp_Pieces_closestTo G r2 u1 (fun r6 u5 => wp_Pieces_woodOf G r6 u5 (fun r8 u7 => (∃ n1, lp_Pieces_joinSmallest_38 G Q n1 r2 r8 0 u7))))) ∧ (¬ (u1.2 11 r2.toNatClampNeg) < x1 → Q 0 u1)))))
def wp_Colours_distance_picture_woods (G : pG) (x1 x3 : Int32) (u : pS) (Q : Int32 → pS → Prop) : Prop := vp_in x1 (G.1 14) ∧ (vp_in x3 (G.1 17) ∧ (∀ t1 : Int32, t1 = (if 0 ≤ ((u.2 0 x1.toNatClampNeg) - (u.2 3 x3.toNatClampNeg)) then ((u.2 0 x1.toNatClampNeg) - (u.2 3 x3.toNatClampNeg)) else 0 - ((u.2 0 x1.toNatClampNeg) - (u.2 3 x3.toNatClampNeg))) → vp_in x1 (G.1 15) ∧ (vp_in x3 (G.1 18) ∧ (∀ t2 : Int32, t2 = (if 0 ≤ ((u.2 1 x1.toNatClampNeg) - (u.2 4 x3.toNatClampNeg)) then ((u.2 1 x1.toNatClampNeg) - (u.2 4 x3.toNatClampNeg)) else 0 - ((u.2 1 x1.toNatClampNeg) - (u.2 4 x3.toNatClampNeg))) → vp_in x1 (G.1 16) ∧ (vp_in x3 (G.1 19) ∧ (∀ t3 : Int32, t3 = (if 0 ≤ ((u.2 2 x1.toNatClampNeg) - (u.2 5 x3.toNatClampNeg)) then ((u.2 2 x1.toNatClampNeg) - (u.2 5 x3.toNatClampNeg)) else 0 - ((u.2 2 x1.toNatClampNeg) - (u.2 5 x3.toNatClampNeg))) → Q ((t1 + t2) + t3) u))))))
def lp_Pieces_nearestWood_15 (G : pG) (Q : Int32 → pS → Prop) : Nat → Int32 → Int32 → Int32 → Int32 → Int32 → pS → Prop
  | 0 => fun _ _ _ _ _ _ => False
  | n + 1 => fun x1 x3 x4 x5 x6 u => (x3 ≤ x6 → Q x4 u) ∧ (¬ x3 ≤ x6 → (wp_Colours_distance_picture_woods G x1 x6 u (fun r5 u4 => (x5 ≤ r5 → (∀ t7 : Int32, t7 = x6 + 1 → lp_Pieces_nearestWood_15 G Q n x1 x3 x4 x5 t7 u4)) ∧ (¬ x5 ≤ r5 → (∀ t8 : Int32, t8 = x6 + 1 → lp_Pieces_nearestWood_15 G Q n x1 x3 x6 r5 t8 u4)))))
def wp_Pieces_nearestWood (G : pG) (x1 x3 : Int32) (u : pS) (Q : Int32 → pS → Prop) : Prop := wp_Colours_distance_picture_woods G x1 0 u (fun r2 u1 => (∃ n1, lp_Pieces_nearestWood_15 G Q n1 x1 x3 0 r2 1 u1))
def lp_Pieces_make_43 (G : pG) (Q : pS → Prop) : Nat → Int32 → Int32 → pS → Prop
  | 0 => fun _ _ _ => False
  | n + 1 => fun x4 x5 u => ((G.2.1 3) ≤ x5 → Q u) ∧ (¬ (G.2.1 3) ≤ x5 → (wp_Pieces_joinSmallest G x4 u (fun r5 u4 => (r5 = 0 → Q u4) ∧ (¬ r5 = 0 → (wp_Pieces_gatherAll G  u4 (fun u7 => ∀ t8 : Int32, t8 = x5 + 1 → lp_Pieces_make_43 G Q n x4 t8 u7))))))
def lp_Pieces_make_3 (G : pG) (Q : pS → Prop) : Nat → Int32 → Int32 → Int32 → pS → Prop
  | 0 => fun _ _ _ _ => False
  | n + 1 => fun x3 x4 x5 u => ((G.2.1 3) ≤ x5 → (wp_Pieces_gatherAll G  u (fun u2 => (∃ n1, lp_Pieces_make_43 G Q n1 x4 0 u2)))) ∧ (¬ (G.2.1 3) ≤ x5 → (wp_Pieces_nearestWood G x5 x3 u (fun r10 u9 => vp_in x5 (G.1 20) ∧ ∀ u11 : pS, u11 = pw_sa u9 6 (upd (u9.2 6) x5.toNatClampNeg r10) → ∀ t12 : Int32, t12 = x5 + 1 → lp_Pieces_make_3 G Q n x3 x4 t12 u11)))
def wp_Pieces_make (G : pG) (x3 x4 : Int32) (u : pS) (Q : pS → Prop) : Prop := (∃ n1, lp_Pieces_make_3 G Q n1 x3 x4 0 u)
def wp_Laying_compare (G : pG) (x1 x2 : Int32) (u : pS) (Q : Int32 → pS → Prop) : Prop := wp_Pieces_isAtEdge G x1 u (fun r2 u1 => wp_Pieces_isAtEdge G x2 u1 (fun r4 u3 => (r2 = r4 → (wp_Pieces_sizeOf G x2 u3 (fun r7 u6 => wp_Pieces_sizeOf G x1 u6 (fun r9 u8 => wp_Integer_compare G r7 r9 u8 (fun r11 u10 => Q r11 u10))))) ∧ (¬ r2 = r4 → (wp_Pieces_isAtEdge G x2 u3 (fun r13 u12 => (r13 = 0 → Q 1 u12) ∧ (¬ r13 = 0 → (Q (-1) u12)))))))
def lp_Ranking_rank_laying_18 (G : pG) (Q : pS → Prop) (k2 : Int32 → Int32 → pS → Prop) : Nat → Int32 → Int32 → Int32 → pS → Prop
  | 0 => fun _ _ _ _ => False
  | n + 1 => fun x1 x2 x3 u => (x3 ≤ 0 → (vp_in x3 (G.1 30) ∧ ∀ u4 : pS, u4 = pw_sa u 16 (upd (u.2 16) x3.toNatClampNeg x2) → ∀ t5 : Int32, t5 = x2 + 1 → k2 x1 t5 u4)) ∧ (¬ x3 ≤ 0 → (vp_in (x3 - 1) (G.1 30) ∧ (wp_Laying_compare G x2 (u.2 16 (x3 - 1).toNatClampNeg) u (fun r7 u6 => (0 ≤ r7 → (vp_in x3 (G.1 30) ∧ ∀ u9 : pS, u9 = pw_sa u6 16 (upd (u6.2 16) x3.toNatClampNeg x2) → ∀ t10 : Int32, t10 = x2 + 1 → k2 x1 t10 u9)) ∧ (¬ 0 ≤ r7 → (vp_in (x3 - 1) (G.1 30) ∧ (vp_in x3 (G.1 30) ∧ ∀ u11 : pS, u11 = pw_sa u6 16 (upd (u6.2 16) x3.toNatClampNeg (u6.2 16 (x3 - 1).toNatClampNeg)) → ∀ t12 : Int32, t12 = x3 + (-1) → lp_Ranking_rank_laying_18 G Q k2 n x1 x2 t12 u11)))))))
def lp_Ranking_rank_laying_2 (G : pG) (Q : pS → Prop) : Nat → Int32 → Int32 → pS → Prop
  | 0 => fun _ _ _ => False
  | n + 1 => fun x1 x2 u => (x1 ≤ x2 → Q u) ∧ (¬ x1 ≤ x2 → (((nI (G.1 30)) ≤ x2 → Q u) ∧ (¬ (nI (G.1 30)) ≤ x2 → ((∃ n1, lp_Ranking_rank_laying_18 G Q (lp_Ranking_rank_laying_2 G Q n) n1 x1 x2 x2 u)))))
def wp_Ranking_rank_laying (G : pG) (x1 : Int32) (u : pS) (Q : pS → Prop) : Prop := (∃ n1, lp_Ranking_rank_laying_2 G Q n1 x1 0 u)
def wp_PI_part (G : pG) (x1 : Int32) (u : pS) (Q : Int32 → pS → Prop) (X : Nat → pS → Prop) : Prop := wp_PI_needNumber G x1 1 400 u (fun u1 => wp_Pieces_make G (G.2.1 0) x1 u1 (fun u2 => wp_Ranking_rank_laying G (u2.1 2) u2 (fun u3 => ∀ u4 : pS, u4 = pw_si u3 0 1 → ∀ u5 : pS, u5 = pw_si u4 1 0 → Q (u5.1 2) u5))) X
end
section
set_option maxHeartbeats 4000000 in
set_option maxRecDepth 100000 in
theorem st_PI_needIndex {p : Program} {l : Launch} {e : Env} {s : State} {m : MethodId} {args : Array Value} {below : List Frame} {meth : Method} {c : Code} {D : va_G} {a : Nat → Nat} {cA cZ : ClassId} {G : pG} {A : Nat → Prop} {Q : pS → Prop} {X : Nat → pS → Prop} (C : pw_C p s m args meth c b_PI_needIndex 2 R_PI none w_PI_needIndex A) (K : pw_K s D 40 a (cT cA cZ) A) (EX : cw_Ex A s) (hL : px_L l) (htr : e.platform.stackTraces = false) (hE : ∀ (pc : Nat), ∀ x ∈ c.exceptionTable.toList, covers x pc = false) (x0 x1 : Int32) (u : pS) (ls : Array Slot) (hP : va_P D vwCl (cw a cA cZ G u) s.heap) (hl : lv_has ls 2 [(0, .int x0), (1, .int x1)]) (h : wp_PI_needIndex G x0 x1 u Q X) : W p l e ({ frames := 6, cells := 1, slots := 6, locals := 82 } : Room) s m args below meth c s.heap [] 0 0 (px_Ev below args s D (cw a cA cZ G) (cT cA cZ) A Q X) (F0 m 0 ls []) := by
 obtain ⟨hx, hb, hr, hml, hown, hts, hlocks, hA⟩ := id C
 obtain ⟨hK, hI, hF⟩ := id K
 have hD : ∀ u, va_D A (cw a cA cZ G u) := fun u => cw_D hI hF
 have hz : ∀ oc t, px_T X (pw_B D (cw a cA cZ G) (cT cA cZ)) oc t → va_F A s t → (px_Qv Q X (pw_B D (cw a cA cZ G) (cT cA cZ)) A) args s oc t := fun oc t h1 h2 => ⟨Or.inr h1, h2⟩
 have hS : va_S A s.heap s.heap [] := va_S.rf
 have h : wp_PI_needIndex G x0 x1 u Q X := h
 refine lv_iload_n hx hb d_PI_needIndex_0 rfl (lv_at hl 0 rfl) ?_
 refine lv_if_lt (tgt := 9) hx hb d_PI_needIndex_1 (by decide) (fun c1 => ?_) (fun c1 => ?_)
 · have h := h.1 c1
   obtain ⟨q0, hq0⟩ := EX.1.2.1.1 ("PictureInlays", 234, "there is no such one") (by decide)
   exact px_thr (k := 1) (u := u) (tx := "there is no such one") (names := px_up) hx hb (by rw [hml]; exact hl.1.symm) hown (hts _ (List.mem_cons_of_mem _ kw_368)) (hts _ (List.mem_cons_of_mem _ kw_369)) (hts _ (List.mem_cons_of_mem _ kw_61)) hq0 (px_own (by decide) kw_410 hts EX.1) (by decide +kernel) (by decide +kernel) htr (hE _) hlocks (Nat.le_of_ble_eq_true rfl) (Nat.le_of_ble_eq_true rfl) (Nat.le_of_ble_eq_true rfl) (Nat.le_of_ble_eq_true rfl) hz hP hK h d_PI_needIndex_9 d_PI_needIndex_12 d_PI_needIndex_13 d_PI_needIndex_15 d_PI_needIndex_18
 · have h := h.2 c1
   refine lv_iload_n hx hb d_PI_needIndex_4 rfl (lv_at hl 0 rfl) ?_
   refine lv_iload_n hx hb d_PI_needIndex_5 rfl (lv_at hl 1 rfl) ?_
   refine lv_icmp_lt (tgt := 19) hx hb d_PI_needIndex_6 (by decide) (fun c2 => ?_) (fun c2 => ?_)
   · have h := h.1 c2
     exact px_mono (fun t h => px_ofMQ (fun _ _ h => h) h) (W.vret (Qc := px_Qv Q X (pw_B D (cw a cA cZ G) (cT cA cZ)) A) hx hb hr (fun t ht hW => ⟨Or.inl ⟨u, rfl, h, by rw [ht]; exact hP, va_K.moved hW.alike hK⟩, hS.F ht⟩) hS.2.2 d_PI_needIndex_19 hlocks)
   · have h := h.2 c2
     obtain ⟨q0, hq0⟩ := EX.1.2.1.1 ("PictureInlays", 234, "there is no such one") (by decide)
     exact px_thr (k := 1) (u := u) (tx := "there is no such one") (names := px_up) hx hb (by rw [hml]; exact hl.1.symm) hown (hts _ (List.mem_cons_of_mem _ kw_368)) (hts _ (List.mem_cons_of_mem _ kw_369)) (hts _ (List.mem_cons_of_mem _ kw_61)) hq0 (px_own (by decide) kw_410 hts EX.1) (by decide +kernel) (by decide +kernel) htr (hE _) hlocks (Nat.le_of_ble_eq_true rfl) (Nat.le_of_ble_eq_true rfl) (Nat.le_of_ble_eq_true rfl) (Nat.le_of_ble_eq_true rfl) hz hP hK h d_PI_needIndex_9 d_PI_needIndex_12 d_PI_needIndex_13 d_PI_needIndex_15 d_PI_needIndex_18
set_option maxHeartbeats 4000000 in
set_option maxRecDepth 100000 in
theorem ct_PI_needIndex (l : Launch) (D : va_G) (a : Nat → Nat) (cA cZ : ClassId) (G : pG) (sz : Nat) (x0 x1 : Int32) (u : pS) (Q : pS → Prop) (X : Nat → pS → Prop) (hL : px_L l) (hI : pw_I 40 a) (h : wp_PI_needIndex G x0 x1 u Q X) : px_Met l y_PI_needIndex w_PI_needIndex ({ frames := 6, cells := 1, slots := 6, locals := 82 } : Room) (va_Pc [.int x0, .int x1] (fun U => pw_pre D (cw a cA cZ G) (cT cA cZ) sz u U ∧ cw_Ex (pw_F 40 a sz) U)) (px_Qv Q X (pw_B D (cw a cA cZ G) (cT cA cZ)) (pw_F 40 a sz)) 0 0 1 6 (pw_F 40 a sz) := by
 refine px_ofW (cc := b_PI_needIndex) (maxL := 2) (ret := none) (by decide) rfl ?_
 intro p e s m args below meth c s₁ B hml hE hv
 obtain ⟨rfl, ⟨hsz, hP, hK⟩, EX⟩ := hv
 subst hsz
 have hl := lv_entry ([.int x0, .int x1]) (n := 2) (Nat.le_of_ble_eq_true rfl)
 rw [lg_entry_eq]
 generalize (lg_sl ([.int x0, .int x1]) ++ List.replicate (2 - (lg_sl ([.int x0, .int x1])).length) Slot.unset).toArray = ls at hl ⊢
 exact st_PI_needIndex (A := (pw_F 40 a s.heap.size)) ⟨B.exec, B.bytes, B.returns, hml, findClass_of_methodNamed B.named, atoms_spec (ws := w_PI_needIndex) B.pre, B.notSynchronized, fun q hq => Or.inr hq⟩ ⟨hK, hI, fun k hk => Or.inl ⟨k, hk, rfl⟩⟩ EX hL (hL e B.admits) (px_none hE) x0 x1 u ls hP hl h
set_option maxHeartbeats 4000000 in
set_option maxRecDepth 100000 in
theorem st_PI_needPlace {p : Program} {l : Launch} {e : Env} {s : State} {m : MethodId} {args : Array Value} {below : List Frame} {meth : Method} {c : Code} {D : va_G} {a : Nat → Nat} {cA cZ : ClassId} {G : pG} {A : Nat → Prop} {Q : pS → Prop} {X : Nat → pS → Prop} (C : pw_C p s m args meth c b_PI_needPlace 3 R_PI none w_PI_needPlace A) (K : pw_K s D 40 a (cT cA cZ) A) (EX : cw_Ex A s) (hL : px_L l) (htr : e.platform.stackTraces = false) (hE : ∀ (pc : Nat), ∀ x ∈ c.exceptionTable.toList, covers x pc = false) (x1 x2 : Int32) (u : pS) (ls : Array Slot) (hP : va_P D vwCl (cw a cA cZ G u) s.heap) (hl : lv_has ls 3 [(0, .ref (a 0)), (1, .int x1), (2, .int x2)]) (h : wp_PI_needPlace G x1 x2 u Q X) : W p l e ({ frames := 7, cells := 1, slots := 6, locals := 103 } : Room) s m args below meth c s.heap [] 0 0 (px_Ev below args s D (cw a cA cZ G) (cT cA cZ) A Q X) (F0 m 0 ls []) := by
 obtain ⟨hx, hb, hr, hml, hown, hts, hlocks, hA⟩ := id C
 obtain ⟨hK, hI, hF⟩ := id K
 have hD : ∀ u, va_D A (cw a cA cZ G u) := fun u => cw_D hI hF
 have hz : ∀ oc t, px_T X (pw_B D (cw a cA cZ G) (cT cA cZ)) oc t → va_F A s t → (px_Qv Q X (pw_B D (cw a cA cZ G) (cT cA cZ)) A) args s oc t := fun oc t h1 h2 => ⟨Or.inr h1, h2⟩
 have hS : va_S A s.heap s.heap [] := va_S.rf
 have h : wp_PI_needPlace G x1 x2 u Q X := h
 refine lv_iload_n hx hb d_PI_needPlace_0 rfl (lv_at hl 1 rfl) ?_
 refine lv_aload_n hx hb d_PI_needPlace_1 rfl (lv_at hl 0 rfl) ?_
 refine va_get (D := D) (ci := 0) (v := .ref (a 1)) (C := R_PI) (T := T_PI) (N := 12) hx hb hts in_PI hown hK hP 0 cw_at_0 rfl 0 (by decide) (hts _ (List.mem_cons_of_mem _ kw_312)) (fun _ h9 => h9) rfl d_PI_needPlace_2 ?_
 refine va_get (D := D) (ci := 4) (v := .int (G.2.1 1)) (C := R_Grid) (T := T_Grid) (N := 6) hx hb hts in_Grid hown hK hP 1 cw_at_1 rfl 0 (by decide) (hts _ (List.mem_cons_of_mem _ kw_101)) (fun _ h9 => h9) rfl d_PI_needPlace_5 ?_
 refine cx_v (px_runS (As := [.int x1, .int (G.2.1 1)]) (rest := []) ⟨hx, hb, hml, hown, hts⟩ (ct_PI_needIndex l D a cA cZ G _ x1 (G.2.1 1) u _ _ hL hI h) (pw_cwS 2 hts kw_367 kw_45 kw_365 kw_366 (by decide +kernel) ⟨Nat.le_of_ble_eq_true rfl, Nat.le_of_ble_eq_true rfl⟩) ⟨cw_blindX, fun U hU hW => ⟨rfl, ⟨by rw [hU], by rw [hU]; exact hP, va_K.moved hW.alike hK⟩, cw_Ex_call EX hS (pw_FA hS hF hA) hU hW⟩⟩ rfl rfl hl.1 rfl (lv_room (Nat.le_of_ble_eq_true rfl)) d_PI_needPlace_8 ⟨Nat.le_of_ble_eq_true rfl, Nat.le_of_ble_eq_true rfl⟩) hS hF hA (hE _) hlocks hz (fun u1 H locs hP hS h => ?_)
 refine lv_iload_n hx hb d_PI_needPlace_11 rfl (lv_at hl 2 rfl) ?_
 refine lv_aload_n hx hb d_PI_needPlace_12 rfl (lv_at hl 0 rfl) ?_
 refine va_get (D := D) (ci := 0) (v := .ref (a 1)) (C := R_PI) (T := T_PI) (N := 12) hx hb hts in_PI hown hK hP 0 cw_at_0 rfl 0 (by decide) (hts _ (List.mem_cons_of_mem _ kw_312)) (fun _ h9 => h9) rfl d_PI_needPlace_13 ?_
 refine va_get (D := D) (ci := 4) (v := .int (G.2.1 2)) (C := R_Grid) (T := T_Grid) (N := 6) hx hb hts in_Grid hown hK hP 1 cw_at_1 rfl 1 (by decide) (hts _ (List.mem_cons_of_mem _ kw_106)) (fun _ h9 => h9) rfl d_PI_needPlace_16 ?_
 refine cx_v (px_runS (As := [.int x2, .int (G.2.1 2)]) (rest := []) ⟨hx, hb, hml, hown, hts⟩ (ct_PI_needIndex l D a cA cZ G _ x2 (G.2.1 2) u1 _ _ hL hI h) (pw_cwS 2 hts kw_367 kw_45 kw_365 kw_366 (by decide +kernel) ⟨Nat.le_of_ble_eq_true rfl, Nat.le_of_ble_eq_true rfl⟩) ⟨cw_blindX, fun U hU hW => ⟨rfl, ⟨by rw [hU], by rw [hU]; exact hP, va_K.moved hW.alike hK⟩, cw_Ex_call EX hS (pw_FA hS hF hA) hU hW⟩⟩ rfl rfl hl.1 rfl (lv_room (Nat.le_of_ble_eq_true rfl)) d_PI_needPlace_19 ⟨Nat.le_of_ble_eq_true rfl, Nat.le_of_ble_eq_true rfl⟩) hS hF hA (hE _) hlocks hz (fun u2 H locs hP hS h => ?_)
 exact px_mono (fun t h => px_ofMQ (fun _ _ h => h) h) (W.vret (Qc := px_Qv Q X (pw_B D (cw a cA cZ G) (cT cA cZ)) A) hx hb hr (fun t ht hW => ⟨Or.inl ⟨u2, rfl, h, by rw [ht]; exact hP, va_K.moved hW.alike hK⟩, hS.F ht⟩) hS.2.2 d_PI_needPlace_22 hlocks)
set_option maxHeartbeats 4000000 in
set_option maxRecDepth 100000 in
theorem ct_PI_needPlace (l : Launch) (D : va_G) (a : Nat → Nat) (cA cZ : ClassId) (G : pG) (sz : Nat) (x1 x2 : Int32) (u : pS) (Q : pS → Prop) (X : Nat → pS → Prop) (hL : px_L l) (hI : pw_I 40 a) (h : wp_PI_needPlace G x1 x2 u Q X) : px_Met l y_PI_needPlace w_PI_needPlace ({ frames := 7, cells := 1, slots := 6, locals := 103 } : Room) (va_Pc [.ref (a 0), .int x1, .int x2] (fun U => pw_pre D (cw a cA cZ G) (cT cA cZ) sz u U ∧ cw_Ex (pw_F 40 a sz) U)) (px_Qv Q X (pw_B D (cw a cA cZ G) (cT cA cZ)) (pw_F 40 a sz)) 0 0 1 6 (pw_F 40 a sz) := by
 refine px_ofW (cc := b_PI_needPlace) (maxL := 3) (ret := none) (by decide) rfl ?_
 intro p e s m args below meth c s₁ B hml hE hv
 obtain ⟨rfl, ⟨hsz, hP, hK⟩, EX⟩ := hv
 subst hsz
 have hl := lv_entry ([.ref (a 0), .int x1, .int x2]) (n := 3) (Nat.le_of_ble_eq_true rfl)
 rw [lg_entry_eq]
 generalize (lg_sl ([.ref (a 0), .int x1, .int x2]) ++ List.replicate (3 - (lg_sl ([.ref (a 0), .int x1, .int x2])).length) Slot.unset).toArray = ls at hl ⊢
 exact st_PI_needPlace (A := (pw_F 40 a s.heap.size)) ⟨B.exec, B.bytes, B.returns, hml, findClass_of_methodNamed B.named, atoms_spec (ws := w_PI_needPlace) B.pre, B.notSynchronized, fun q hq => Or.inr hq⟩ ⟨hK, hI, fun k hk => Or.inl ⟨k, hk, rfl⟩⟩ EX hL (hL e B.admits) (px_none hE) x1 x2 u ls hP hl h
set_option maxHeartbeats 4000000 in
set_option maxRecDepth 100000 in
theorem st_PI_needNumber {p : Program} {l : Launch} {e : Env} {s : State} {m : MethodId} {args : Array Value} {below : List Frame} {meth : Method} {c : Code} {D : va_G} {a : Nat → Nat} {cA cZ : ClassId} {G : pG} {A : Nat → Prop} {Q : pS → Prop} {X : Nat → pS → Prop} (C : pw_C p s m args meth c b_PI_needNumber 3 R_PI none w_PI_needNumber A) (K : pw_K s D 40 a (cT cA cZ) A) (EX : cw_Ex A s) (hL : px_L l) (htr : e.platform.stackTraces = false) (hE : ∀ (pc : Nat), ∀ x ∈ c.exceptionTable.toList, covers x pc = false) (x0 x1 x2 : Int32) (u : pS) (ls : Array Slot) (hP : va_P D vwCl (cw a cA cZ G u) s.heap) (hl : lv_has ls 3 [(0, .int x0), (1, .int x1), (2, .int x2)]) (h : wp_PI_needNumber G x0 x1 x2 u Q X) : W p l e ({ frames := 6, cells := 1, slots := 6, locals := 82 } : Room) s m args below meth c s.heap [] 0 0 (px_Ev below args s D (cw a cA cZ G) (cT cA cZ) A Q X) (F0 m 0 ls []) := by
 obtain ⟨hx, hb, hr, hml, hown, hts, hlocks, hA⟩ := id C
 obtain ⟨hK, hI, hF⟩ := id K
 have hD : ∀ u, va_D A (cw a cA cZ G u) := fun u => cw_D hI hF
 have hz : ∀ oc t, px_T X (pw_B D (cw a cA cZ G) (cT cA cZ)) oc t → va_F A s t → (px_Qv Q X (pw_B D (cw a cA cZ G) (cT cA cZ)) A) args s oc t := fun oc t h1 h2 => ⟨Or.inr h1, h2⟩
 have hS : va_S A s.heap s.heap [] := va_S.rf
 have h : wp_PI_needNumber G x0 x1 x2 u Q X := h
 refine lv_iload_n hx hb d_PI_needNumber_0 rfl (lv_at hl 0 rfl) ?_
 refine lv_iload_n hx hb d_PI_needNumber_1 rfl (lv_at hl 1 rfl) ?_
 refine lv_icmp_lt (tgt := 10) hx hb d_PI_needNumber_2 (by decide) (fun c1 => ?_) (fun c1 => ?_)
 · have h := h.1 c1
   obtain ⟨q0, hq0⟩ := EX.1.2.1.1 ("PictureInlays", 239, "a number is not as said") (by decide)
   exact px_thr (k := 2) (u := u) (tx := "a number is not as said") (names := px_up) hx hb (by rw [hml]; exact hl.1.symm) hown (hts _ (List.mem_cons_of_mem _ kw_442)) (hts _ (List.mem_cons_of_mem _ kw_443)) (hts _ (List.mem_cons_of_mem _ kw_62)) hq0 (px_own (by decide) kw_452 hts EX.1) (by decide +kernel) (by decide +kernel) htr (hE _) hlocks (Nat.le_of_ble_eq_true rfl) (Nat.le_of_ble_eq_true rfl) (Nat.le_of_ble_eq_true rfl) (Nat.le_of_ble_eq_true rfl) hz hP hK h d_PI_needNumber_10 d_PI_needNumber_13 d_PI_needNumber_14 d_PI_needNumber_16 d_PI_needNumber_19
 · have h := h.2 c1
   refine lv_iload_n hx hb d_PI_needNumber_5 rfl (lv_at hl 0 rfl) ?_
   refine lv_iload_n hx hb d_PI_needNumber_6 rfl (lv_at hl 2 rfl) ?_
   refine lv_icmp_le (tgt := 20) hx hb d_PI_needNumber_7 (by decide) (fun c2 => ?_) (fun c2 => ?_)
   · have h := h.1 c2
     exact px_mono (fun t h => px_ofMQ (fun _ _ h => h) h) (W.vret (Qc := px_Qv Q X (pw_B D (cw a cA cZ G) (cT cA cZ)) A) hx hb hr (fun t ht hW => ⟨Or.inl ⟨u, rfl, h, by rw [ht]; exact hP, va_K.moved hW.alike hK⟩, hS.F ht⟩) hS.2.2 d_PI_needNumber_20 hlocks)
   · have h := h.2 c2
     obtain ⟨q0, hq0⟩ := EX.1.2.1.1 ("PictureInlays", 239, "a number is not as said") (by decide)
     exact px_thr (k := 2) (u := u) (tx := "a number is not as said") (names := px_up) hx hb (by rw [hml]; exact hl.1.symm) hown (hts _ (List.mem_cons_of_mem _ kw_442)) (hts _ (List.mem_cons_of_mem _ kw_443)) (hts _ (List.mem_cons_of_mem _ kw_62)) hq0 (px_own (by decide) kw_452 hts EX.1) (by decide +kernel) (by decide +kernel) htr (hE _) hlocks (Nat.le_of_ble_eq_true rfl) (Nat.le_of_ble_eq_true rfl) (Nat.le_of_ble_eq_true rfl) (Nat.le_of_ble_eq_true rfl) hz hP hK h d_PI_needNumber_10 d_PI_needNumber_13 d_PI_needNumber_14 d_PI_needNumber_16 d_PI_needNumber_19
set_option maxHeartbeats 4000000 in
set_option maxRecDepth 100000 in
theorem ct_PI_needNumber (l : Launch) (D : va_G) (a : Nat → Nat) (cA cZ : ClassId) (G : pG) (sz : Nat) (x0 x1 x2 : Int32) (u : pS) (Q : pS → Prop) (X : Nat → pS → Prop) (hL : px_L l) (hI : pw_I 40 a) (h : wp_PI_needNumber G x0 x1 x2 u Q X) : px_Met l y_PI_needNumber w_PI_needNumber ({ frames := 6, cells := 1, slots := 6, locals := 82 } : Room) (va_Pc [.int x0, .int x1, .int x2] (fun U => pw_pre D (cw a cA cZ G) (cT cA cZ) sz u U ∧ cw_Ex (pw_F 40 a sz) U)) (px_Qv Q X (pw_B D (cw a cA cZ G) (cT cA cZ)) (pw_F 40 a sz)) 0 0 1 6 (pw_F 40 a sz) := by
 refine px_ofW (cc := b_PI_needNumber) (maxL := 3) (ret := none) (by decide) rfl ?_
 intro p e s m args below meth c s₁ B hml hE hv
 obtain ⟨rfl, ⟨hsz, hP, hK⟩, EX⟩ := hv
 subst hsz
 have hl := lv_entry ([.int x0, .int x1, .int x2]) (n := 3) (Nat.le_of_ble_eq_true rfl)
 rw [lg_entry_eq]
 generalize (lg_sl ([.int x0, .int x1, .int x2]) ++ List.replicate (3 - (lg_sl ([.int x0, .int x1, .int x2])).length) Slot.unset).toArray = ls at hl ⊢
 exact st_PI_needNumber (A := (pw_F 40 a s.heap.size)) ⟨B.exec, B.bytes, B.returns, hml, findClass_of_methodNamed B.named, atoms_spec (ws := w_PI_needNumber) B.pre, B.notSynchronized, fun q hq => Or.inr hq⟩ ⟨hK, hI, fun k hk => Or.inl ⟨k, hk, rfl⟩⟩ EX hL (hL e B.admits) (px_none hE) x0 x1 x2 u ls hP hl h
set_option maxHeartbeats 4000000 in
set_option maxRecDepth 100000 in
theorem st_PI_needColour {p : Program} {l : Launch} {e : Env} {s : State} {m : MethodId} {args : Array Value} {below : List Frame} {meth : Method} {c : Code} {D : va_G} {a : Nat → Nat} {cA cZ : ClassId} {G : pG} {A : Nat → Prop} {Q : pS → Prop} {X : Nat → pS → Prop} (C : pw_C p s m args meth c b_PI_needColour 3 R_PI none w_PI_needColour A) (K : pw_K s D 40 a (cT cA cZ) A) (EX : cw_Ex A s) (hL : px_L l) (htr : e.platform.stackTraces = false) (hE : ∀ (pc : Nat), ∀ x ∈ c.exceptionTable.toList, covers x pc = false) (x0 x1 x2 : Int32) (u : pS) (ls : Array Slot) (hP : va_P D vwCl (cw a cA cZ G u) s.heap) (hl : lv_has ls 3 [(0, .int x0), (1, .int x1), (2, .int x2)]) (h : wp_PI_needColour G x0 x1 x2 u Q X) : W p l e ({ frames := 7, cells := 1, slots := 6, locals := 104 } : Room) s m args below meth c s.heap [] 0 0 (px_Ev below args s D (cw a cA cZ G) (cT cA cZ) A Q X) (F0 m 0 ls []) := by
 obtain ⟨hx, hb, hr, hml, hown, hts, hlocks, hA⟩ := id C
 obtain ⟨hK, hI, hF⟩ := id K
 have hD : ∀ u, va_D A (cw a cA cZ G u) := fun u => cw_D hI hF
 have hz : ∀ oc t, px_T X (pw_B D (cw a cA cZ G) (cT cA cZ)) oc t → va_F A s t → (px_Qv Q X (pw_B D (cw a cA cZ G) (cT cA cZ)) A) args s oc t := fun oc t h1 h2 => ⟨Or.inr h1, h2⟩
 have hS : va_S A s.heap s.heap [] := va_S.rf
 have h : wp_PI_needColour G x0 x1 x2 u Q X := h
 refine lv_iload_n hx hb d_PI_needColour_0 rfl (lv_at hl 0 rfl) ?_
 refine lv_iconst (v := 0) hx hb d_PI_needColour_1 (by decide) ?_
 refine lv_sipush (v := 255) hx hb d_PI_needColour_2 (by decide) ?_
 refine cx_v (px_runS (As := [.int x0, .int 0, .int 255]) (rest := []) ⟨hx, hb, hml, hown, hts⟩ (ct_PI_needNumber l D a cA cZ G _ x0 0 255 u _ _ hL hI h) (pw_cwS 3 hts kw_441 kw_45 kw_439 kw_440 (by decide +kernel) ⟨Nat.le_of_ble_eq_true rfl, Nat.le_of_ble_eq_true rfl⟩) ⟨cw_blindX, fun U hU hW => ⟨rfl, ⟨by rw [hU], by rw [hU]; exact hP, va_K.moved hW.alike hK⟩, cw_Ex_call EX hS (pw_FA hS hF hA) hU hW⟩⟩ rfl rfl hl.1 rfl (lv_room (Nat.le_of_ble_eq_true rfl)) d_PI_needColour_5 ⟨Nat.le_of_ble_eq_true rfl, Nat.le_of_ble_eq_true rfl⟩) hS hF hA (hE _) hlocks hz (fun u1 H locs hP hS h => ?_)
 refine lv_iload_n hx hb d_PI_needColour_8 rfl (lv_at hl 1 rfl) ?_
 refine lv_iconst (v := 0) hx hb d_PI_needColour_9 (by decide) ?_
 refine lv_sipush (v := 255) hx hb d_PI_needColour_10 (by decide) ?_
 refine cx_v (px_runS (As := [.int x1, .int 0, .int 255]) (rest := []) ⟨hx, hb, hml, hown, hts⟩ (ct_PI_needNumber l D a cA cZ G _ x1 0 255 u1 _ _ hL hI h) (pw_cwS 3 hts kw_441 kw_45 kw_439 kw_440 (by decide +kernel) ⟨Nat.le_of_ble_eq_true rfl, Nat.le_of_ble_eq_true rfl⟩) ⟨cw_blindX, fun U hU hW => ⟨rfl, ⟨by rw [hU], by rw [hU]; exact hP, va_K.moved hW.alike hK⟩, cw_Ex_call EX hS (pw_FA hS hF hA) hU hW⟩⟩ rfl rfl hl.1 rfl (lv_room (Nat.le_of_ble_eq_true rfl)) d_PI_needColour_13 ⟨Nat.le_of_ble_eq_true rfl, Nat.le_of_ble_eq_true rfl⟩) hS hF hA (hE _) hlocks hz (fun u2 H locs hP hS h => ?_)
 refine lv_iload_n hx hb d_PI_needColour_16 rfl (lv_at hl 2 rfl) ?_
 refine lv_iconst (v := 0) hx hb d_PI_needColour_17 (by decide) ?_
 refine lv_sipush (v := 255) hx hb d_PI_needColour_18 (by decide) ?_
 refine cx_v (px_runS (As := [.int x2, .int 0, .int 255]) (rest := []) ⟨hx, hb, hml, hown, hts⟩ (ct_PI_needNumber l D a cA cZ G _ x2 0 255 u2 _ _ hL hI h) (pw_cwS 3 hts kw_441 kw_45 kw_439 kw_440 (by decide +kernel) ⟨Nat.le_of_ble_eq_true rfl, Nat.le_of_ble_eq_true rfl⟩) ⟨cw_blindX, fun U hU hW => ⟨rfl, ⟨by rw [hU], by rw [hU]; exact hP, va_K.moved hW.alike hK⟩, cw_Ex_call EX hS (pw_FA hS hF hA) hU hW⟩⟩ rfl rfl hl.1 rfl (lv_room (Nat.le_of_ble_eq_true rfl)) d_PI_needColour_21 ⟨Nat.le_of_ble_eq_true rfl, Nat.le_of_ble_eq_true rfl⟩) hS hF hA (hE _) hlocks hz (fun u3 H locs hP hS h => ?_)
 exact px_mono (fun t h => px_ofMQ (fun _ _ h => h) h) (W.vret (Qc := px_Qv Q X (pw_B D (cw a cA cZ G) (cT cA cZ)) A) hx hb hr (fun t ht hW => ⟨Or.inl ⟨u3, rfl, h, by rw [ht]; exact hP, va_K.moved hW.alike hK⟩, hS.F ht⟩) hS.2.2 d_PI_needColour_24 hlocks)
set_option maxHeartbeats 4000000 in
set_option maxRecDepth 100000 in
theorem ct_PI_needColour (l : Launch) (D : va_G) (a : Nat → Nat) (cA cZ : ClassId) (G : pG) (sz : Nat) (x0 x1 x2 : Int32) (u : pS) (Q : pS → Prop) (X : Nat → pS → Prop) (hL : px_L l) (hI : pw_I 40 a) (h : wp_PI_needColour G x0 x1 x2 u Q X) : px_Met l y_PI_needColour w_PI_needColour ({ frames := 7, cells := 1, slots := 6, locals := 104 } : Room) (va_Pc [.int x0, .int x1, .int x2] (fun U => pw_pre D (cw a cA cZ G) (cT cA cZ) sz u U ∧ cw_Ex (pw_F 40 a sz) U)) (px_Qv Q X (pw_B D (cw a cA cZ G) (cT cA cZ)) (pw_F 40 a sz)) 0 0 1 6 (pw_F 40 a sz) := by
 refine px_ofW (cc := b_PI_needColour) (maxL := 3) (ret := none) (by decide) rfl ?_
 intro p e s m args below meth c s₁ B hml hE hv
 obtain ⟨rfl, ⟨hsz, hP, hK⟩, EX⟩ := hv
 subst hsz
 have hl := lv_entry ([.int x0, .int x1, .int x2]) (n := 3) (Nat.le_of_ble_eq_true rfl)
 rw [lg_entry_eq]
 generalize (lg_sl ([.int x0, .int x1, .int x2]) ++ List.replicate (3 - (lg_sl ([.int x0, .int x1, .int x2])).length) Slot.unset).toArray = ls at hl ⊢
 exact st_PI_needColour (A := (pw_F 40 a s.heap.size)) ⟨B.exec, B.bytes, B.returns, hml, findClass_of_methodNamed B.named, atoms_spec (ws := w_PI_needColour) B.pre, B.notSynchronized, fun q hq => Or.inr hq⟩ ⟨hK, hI, fun k hk => Or.inl ⟨k, hk, rfl⟩⟩ EX hL (hL e B.admits) (px_none hE) x0 x1 x2 u ls hP hl h
set_option maxHeartbeats 4000000 in
set_option maxRecDepth 100000 in
theorem st_Grid_placeOf {p : Program} {l : Launch} {e : Env} {s : State} {m : MethodId} {args : Array Value} {below : List Frame} {meth : Method} {c : Code} {D : va_G} {a : Nat → Nat} {cA cZ : ClassId} {G : pG} {A : Nat → Prop} {Q : Int32 → pS → Prop} (C : pw_C p s m args meth c b_Grid_placeOf 4 R_Grid (some .int) w_Grid_placeOf A) (K : pw_K s D 40 a (cT cA cZ) A) (x1 x2 : Int32) (u : pS) (ls : Array Slot) (hP : va_P D vwCl (cw a cA cZ G u) s.heap) (hl : lv_has ls 4 [(0, .ref (a 1)), (1, .int x1), (2, .int x2)]) (h : wp_Grid_placeOf G x1 x2 u Q) : W p l e ({ frames := 0, cells := 0, slots := 0, locals := 0 } : Room) s m args below meth c s.heap [] 0 0 (pw_Ei below args s D (cw a cA cZ G) (cT cA cZ) A Q) (F0 m 0 ls []) := by
 obtain ⟨hx, hb, hr, hml, hown, hts, hlocks, hA⟩ := id C
 obtain ⟨hK, hI, hF⟩ := id K
 have hD : ∀ u, va_D A (cw a cA cZ G u) := fun u => cw_D hI hF
 have hS : va_S A s.heap s.heap [] := va_S.rf
 have h : wp_Grid_placeOf G x1 x2 u Q := h
 refine lv_iload_n hx hb d_Grid_placeOf_0 rfl (lv_at hl 1 rfl) ?_
 refine lv_if_lt (tgt := 28) hx hb d_Grid_placeOf_1 (by decide) (fun c1 => ?_) (fun c1 => ?_)
 · have h := h.1 c1
   refine lv_iconst (v := 0) hx hb d_Grid_placeOf_28 (by decide) ?_
   refine lv_istore_n (lv' := [(3, .int 0), (0, .ref (a 1)), (1, .int x1), (2, .int x2)]) hx hb d_Grid_placeOf_29 rfl hl (by decide) rfl (fun ls hl => ?_)
   refine lv_iload_n hx hb d_Grid_placeOf_30 rfl (lv_at hl 0 rfl) ?_
   refine lv_if_eq (tgt := 45) hx hb d_Grid_placeOf_31 (by decide) (fun _ => ?_) (fun q => absurd q (by decide))
   refine lv_iconst (v := -1) hx hb d_Grid_placeOf_45 (by decide) ?_
   exact W.iret (v := (-1)) hx hb hr (fun t ht hW => ⟨⟨(-1), u, rfl, h, by rw [ht]; exact hP, va_K.moved hW.alike hK⟩, hS.F ht⟩) hS.2.2 d_Grid_placeOf_46 hlocks
 · have h := h.2 c1
   refine lv_iload_n hx hb d_Grid_placeOf_4 rfl (lv_at hl 1 rfl) ?_
   refine lv_aload_n hx hb d_Grid_placeOf_5 rfl (lv_at hl 0 rfl) ?_
   refine va_get (D := D) (ci := 4) (v := .int (G.2.1 1)) (C := R_Grid) (T := T_Grid) (N := 6) hx hb hts in_Grid hown hK hP 1 cw_at_1 rfl 0 (by decide) (hts _ (List.mem_cons_of_mem _ kw_97)) (fun _ h9 => h9) rfl d_Grid_placeOf_6 ?_
   refine lv_icmp_ge (tgt := 28) hx hb d_Grid_placeOf_9 (by decide) (fun c3 => ?_) (fun c3 => ?_)
   · have h := h.1 c3
     refine lv_iconst (v := 0) hx hb d_Grid_placeOf_28 (by decide) ?_
     refine lv_istore_n (lv' := [(3, .int 0), (0, .ref (a 1)), (1, .int x1), (2, .int x2)]) hx hb d_Grid_placeOf_29 rfl hl (by decide) rfl (fun ls hl => ?_)
     refine lv_iload_n hx hb d_Grid_placeOf_30 rfl (lv_at hl 0 rfl) ?_
     refine lv_if_eq (tgt := 45) hx hb d_Grid_placeOf_31 (by decide) (fun _ => ?_) (fun q => absurd q (by decide))
     refine lv_iconst (v := -1) hx hb d_Grid_placeOf_45 (by decide) ?_
     exact W.iret (v := (-1)) hx hb hr (fun t ht hW => ⟨⟨(-1), u, rfl, h, by rw [ht]; exact hP, va_K.moved hW.alike hK⟩, hS.F ht⟩) hS.2.2 d_Grid_placeOf_46 hlocks
   · have h := h.2 c3
     refine lv_iload_n hx hb d_Grid_placeOf_12 rfl (lv_at hl 2 rfl) ?_
     refine lv_if_lt (tgt := 28) hx hb d_Grid_placeOf_13 (by decide) (fun c5 => ?_) (fun c5 => ?_)
     · have h := h.1 c5
       refine lv_iconst (v := 0) hx hb d_Grid_placeOf_28 (by decide) ?_
       refine lv_istore_n (lv' := [(3, .int 0), (0, .ref (a 1)), (1, .int x1), (2, .int x2)]) hx hb d_Grid_placeOf_29 rfl hl (by decide) rfl (fun ls hl => ?_)
       refine lv_iload_n hx hb d_Grid_placeOf_30 rfl (lv_at hl 0 rfl) ?_
       refine lv_if_eq (tgt := 45) hx hb d_Grid_placeOf_31 (by decide) (fun _ => ?_) (fun q => absurd q (by decide))
       refine lv_iconst (v := -1) hx hb d_Grid_placeOf_45 (by decide) ?_
       exact W.iret (v := (-1)) hx hb hr (fun t ht hW => ⟨⟨(-1), u, rfl, h, by rw [ht]; exact hP, va_K.moved hW.alike hK⟩, hS.F ht⟩) hS.2.2 d_Grid_placeOf_46 hlocks
     · have h := h.2 c5
       refine lv_iload_n hx hb d_Grid_placeOf_16 rfl (lv_at hl 2 rfl) ?_
       refine lv_aload_n hx hb d_Grid_placeOf_17 rfl (lv_at hl 0 rfl) ?_
       refine va_get (D := D) (ci := 4) (v := .int (G.2.1 2)) (C := R_Grid) (T := T_Grid) (N := 6) hx hb hts in_Grid hown hK hP 1 cw_at_1 rfl 1 (by decide) (hts _ (List.mem_cons_of_mem _ kw_102)) (fun _ h9 => h9) rfl d_Grid_placeOf_18 ?_
       refine lv_icmp_ge (tgt := 28) hx hb d_Grid_placeOf_21 (by decide) (fun c7 => ?_) (fun c7 => ?_)
       · have h := h.1 c7
         refine lv_iconst (v := 0) hx hb d_Grid_placeOf_28 (by decide) ?_
         refine lv_istore_n (lv' := [(3, .int 0), (0, .ref (a 1)), (1, .int x1), (2, .int x2)]) hx hb d_Grid_placeOf_29 rfl hl (by decide) rfl (fun ls hl => ?_)
         refine lv_iload_n hx hb d_Grid_placeOf_30 rfl (lv_at hl 0 rfl) ?_
         refine lv_if_eq (tgt := 45) hx hb d_Grid_placeOf_31 (by decide) (fun _ => ?_) (fun q => absurd q (by decide))
         refine lv_iconst (v := -1) hx hb d_Grid_placeOf_45 (by decide) ?_
         exact W.iret (v := (-1)) hx hb hr (fun t ht hW => ⟨⟨(-1), u, rfl, h, by rw [ht]; exact hP, va_K.moved hW.alike hK⟩, hS.F ht⟩) hS.2.2 d_Grid_placeOf_46 hlocks
       · have h := h.2 c7
         refine lv_iconst (v := 1) hx hb d_Grid_placeOf_24 (by decide) ?_
         refine lv_goto (tgt := 29) hx hb d_Grid_placeOf_25 (by decide) ?_
         refine lv_istore_n (lv' := [(3, .int 1), (0, .ref (a 1)), (1, .int x1), (2, .int x2)]) hx hb d_Grid_placeOf_29 rfl hl (by decide) rfl (fun ls hl => ?_)
         refine lv_iload_n hx hb d_Grid_placeOf_30 rfl (lv_at hl 0 rfl) ?_
         refine lv_if_eq (tgt := 45) hx hb d_Grid_placeOf_31 (by decide) (fun q => absurd q (by decide)) (fun _ => ?_)
         refine lv_iload_n hx hb d_Grid_placeOf_34 rfl (lv_at hl 3 rfl) ?_
         refine lv_aload_n hx hb d_Grid_placeOf_35 rfl (lv_at hl 1 rfl) ?_
         refine va_get (D := D) (ci := 4) (v := .int (G.2.1 1)) (C := R_Grid) (T := T_Grid) (N := 6) hx hb hts in_Grid hown hK hP 1 cw_at_1 rfl 0 (by decide) (hts _ (List.mem_cons_of_mem _ kw_97)) (fun _ h9 => h9) rfl d_Grid_placeOf_36 ?_
         refine lv_imul hx hb d_Grid_placeOf_39 ?_
         refine lv_iload_n hx hb d_Grid_placeOf_40 rfl (lv_at hl 2 rfl) ?_
         refine lv_iadd hx hb d_Grid_placeOf_41 ?_
         refine lv_goto (tgt := 46) hx hb d_Grid_placeOf_42 (by decide) ?_
         exact W.iret (v := ((x2 * (G.2.1 1)) + x1)) hx hb hr (fun t ht hW => ⟨⟨((x2 * (G.2.1 1)) + x1), u, rfl, h, by rw [ht]; exact hP, va_K.moved hW.alike hK⟩, hS.F ht⟩) hS.2.2 d_Grid_placeOf_46 hlocks
set_option maxHeartbeats 4000000 in
set_option maxRecDepth 100000 in
theorem ct_Grid_placeOf (l : Launch) (D : va_G) (a : Nat → Nat) (cA cZ : ClassId) (G : pG) (sz : Nat) (x1 x2 : Int32) (u : pS) (Q : Int32 → pS → Prop) (hI : pw_I 40 a) (h : wp_Grid_placeOf G x1 x2 u Q) : Met l y_Grid_placeOf w_Grid_placeOf ({ frames := 0, cells := 0, slots := 0, locals := 0 } : Room) (va_Pc [.ref (a 1), .int x1, .int x2] (pw_pre D (cw a cA cZ G) (cT cA cZ) sz u)) (va_Qi (fun (r : Int32) (u : pS) => Q r u) (pw_B D (cw a cA cZ G) (cT cA cZ)) (pw_F 40 a sz)) 0 0 (pw_F 40 a sz) := by
 refine Met.ofW (cc := b_Grid_placeOf) (maxL := 4) (ret := (some .int)) (by decide) rfl ?_
 intro p e s m args below meth c s₁ B hml hv
 obtain ⟨rfl, hsz, hP, hK⟩ := hv
 subst hsz
 have hl := lv_entry ([.ref (a 1), .int x1, .int x2]) (n := 4) (Nat.le_of_ble_eq_true rfl)
 rw [lg_entry_eq]
 generalize (lg_sl ([.ref (a 1), .int x1, .int x2]) ++ List.replicate (4 - (lg_sl ([.ref (a 1), .int x1, .int x2])).length) Slot.unset).toArray = ls at hl ⊢
 exact st_Grid_placeOf (A := (pw_F 40 a s.heap.size)) ⟨B.exec, B.bytes, B.returns, hml, findClass_of_methodNamed B.named, atoms_spec (ws := w_Grid_placeOf) B.pre, B.notSynchronized, fun q hq => Or.inr hq⟩ ⟨hK, hI, fun k hk => Or.inl ⟨k, hk, rfl⟩⟩ x1 x2 u ls hP hl h
set_option maxHeartbeats 4000000 in
set_option maxRecDepth 100000 in
theorem cp_Colours_tell_picture_46 {p : Program} {l : Launch} {e : Env} {s : State} {m : MethodId} {args : Array Value} {below : List Frame} {meth : Method} {c : Code} {D : va_G} {a : Nat → Nat} {cA cZ : ClassId} {G : pG} {A : Nat → Prop} {Q : Int32 → pS → Prop} (C : pw_C p s m args meth c b_Colours_tell 5 R_Colours (some .boolean) w_Colours_tell A) (K : pw_K s D 40 a (cT cA cZ) A) : ∀ (x1 x2 x3 x4 : Int32) (u : pS) (H : Heap) (locs : List Loc) (ls : Array Slot), va_P D vwCl (cw a cA cZ G u) H → va_S A s.heap H locs → lv_has ls 5 [(0, .ref (a 2)), (1, .int x1), (2, .int x2), (3, .int x3), (4, .int x4)] → jn_Colours_tell_picture_46 G Q x1 x2 x3 x4 u → W p l e ({ frames := 0, cells := 0, slots := 0, locals := 0 } : Room) s m args below meth c H locs 0 0 (pw_Ei below args s D (cw a cA cZ G) (cT cA cZ) A Q) (F0 m 46 ls []) := by
 obtain ⟨hx, hb, hr, hml, hown, hts, hlocks, hA⟩ := id C
 obtain ⟨hK, hI, hF⟩ := id K
 have hD : ∀ u, va_D A (cw a cA cZ G u) := fun u => cw_D hI hF
 intro x1 x2 x3 x4 u H locs ls hP hS hl h
 refine lv_aload_n hx hb d_Colours_tell_46 rfl (lv_at hl 0 rfl) ?_
 refine va_get (D := D) (ci := 3) (v := .ref (a 14)) (C := R_Colours) (T := T_Colours) (N := 3) hx hb hts in_Colours hown hK hP 2 cw_at_2 rfl 0 (by decide) (hts _ (List.mem_cons_of_mem _ kw_135)) (fun _ h9 => h9) rfl d_Colours_tell_47 ?_
 refine lv_iload_n hx hb d_Colours_tell_50 rfl (lv_at hl 1 rfl) ?_
 refine lv_iload_n hx hb d_Colours_tell_51 rfl (lv_at hl 2 rfl) ?_
 refine va_iast hx hb hK hP (hD _) hS 14 0 cw_at_14 rfl h.1 d_Colours_tell_52 (fun H locs hP _ hS => ?_)
 obtain ⟨u4, eu4⟩ : ∃ z, z = pw_sa u 0 (upd (u.2 0) x1.toNatClampNeg x2) := ⟨_, rfl⟩
 rw [cw_sa_14, ← eu4] at hP
 have h := h.2 u4 eu4
 refine lv_aload_n hx hb d_Colours_tell_53 rfl (lv_at hl 0 rfl) ?_
 refine va_get (D := D) (ci := 3) (v := .ref (a 15)) (C := R_Colours) (T := T_Colours) (N := 3) hx hb hts in_Colours hown hK hP 2 cw_at_2 rfl 1 (by decide) (hts _ (List.mem_cons_of_mem _ kw_136)) (fun _ h9 => h9) rfl d_Colours_tell_54 ?_
 refine lv_iload_n hx hb d_Colours_tell_57 rfl (lv_at hl 1 rfl) ?_
 refine lv_iload_n hx hb d_Colours_tell_58 rfl (lv_at hl 3 rfl) ?_
 refine va_iast hx hb hK hP (hD _) hS 15 0 cw_at_15 rfl h.1 d_Colours_tell_59 (fun H locs hP _ hS => ?_)
 obtain ⟨u5, eu5⟩ : ∃ z, z = pw_sa u4 1 (upd (u4.2 1) x1.toNatClampNeg x3) := ⟨_, rfl⟩
 rw [cw_sa_15, ← eu5] at hP
 have h := h.2 u5 eu5
 refine lv_aload_n hx hb d_Colours_tell_60 rfl (lv_at hl 0 rfl) ?_
 refine va_get (D := D) (ci := 3) (v := .ref (a 16)) (C := R_Colours) (T := T_Colours) (N := 3) hx hb hts in_Colours hown hK hP 2 cw_at_2 rfl 2 (by decide) (hts _ (List.mem_cons_of_mem _ kw_137)) (fun _ h9 => h9) rfl d_Colours_tell_61 ?_
 refine lv_iload_n hx hb d_Colours_tell_64 rfl (lv_at hl 1 rfl) ?_
 refine lv_iload hx hb d_Colours_tell_65 (lv_at hl 4 rfl) ?_
 refine va_iast hx hb hK hP (hD _) hS 16 0 cw_at_16 rfl h.1 d_Colours_tell_67 (fun H locs hP _ hS => ?_)
 obtain ⟨u6, eu6⟩ : ∃ z, z = pw_sa u5 2 (upd (u5.2 2) x1.toNatClampNeg x4) := ⟨_, rfl⟩
 rw [cw_sa_16, ← eu6] at hP
 have h := h.2 u6 eu6
 refine lv_iconst (v := 1) hx hb d_Colours_tell_68 (by decide) ?_
 exact W.zret (v := 1) hx hb hr rfl (fun t ht hW => ⟨⟨1, u6, rfl, h, by rw [ht]; exact hP, va_K.moved hW.alike hK⟩, hS.F ht⟩) hS.2.2 d_Colours_tell_69 hlocks
set_option maxHeartbeats 4000000 in
set_option maxRecDepth 100000 in
theorem st_Colours_tell_picture {p : Program} {l : Launch} {e : Env} {s : State} {m : MethodId} {args : Array Value} {below : List Frame} {meth : Method} {c : Code} {D : va_G} {a : Nat → Nat} {cA cZ : ClassId} {G : pG} {A : Nat → Prop} {Q : Int32 → pS → Prop} (C : pw_C p s m args meth c b_Colours_tell 5 R_Colours (some .boolean) w_Colours_tell A) (K : pw_K s D 40 a (cT cA cZ) A) (x1 x2 x3 x4 : Int32) (u : pS) (ls : Array Slot) (hP : va_P D vwCl (cw a cA cZ G u) s.heap) (hl : lv_has ls 5 [(0, .ref (a 2)), (1, .int x1), (2, .int x2), (3, .int x3), (4, .int x4)]) (h : wp_Colours_tell_picture G x1 x2 x3 x4 u Q) : W p l e ({ frames := 0, cells := 0, slots := 0, locals := 0 } : Room) s m args below meth c s.heap [] 0 0 (pw_Ei below args s D (cw a cA cZ G) (cT cA cZ) A Q) (F0 m 0 ls []) := by
 obtain ⟨hx, hb, hr, hml, hown, hts, hlocks, hA⟩ := id C
 obtain ⟨hK, hI, hF⟩ := id K
 have hD : ∀ u, va_D A (cw a cA cZ G u) := fun u => cw_D hI hF
 have hS : va_S A s.heap s.heap [] := va_S.rf
 have h : wp_Colours_tell_picture G x1 x2 x3 x4 u Q := h
 refine lv_iload_n hx hb d_Colours_tell_0 rfl (lv_at hl 1 rfl) ?_
 refine lv_if_lt (tgt := 44) hx hb d_Colours_tell_1 (by decide) (fun c1 => ?_) (fun c1 => ?_)
 · have h := h.1 c1
   refine lv_iconst (v := 0) hx hb d_Colours_tell_44 (by decide) ?_
   exact W.zret (v := 0) hx hb hr rfl (fun t ht hW => ⟨⟨0, u, rfl, h, by rw [ht]; exact hP, va_K.moved hW.alike hK⟩, hS.F ht⟩) hS.2.2 d_Colours_tell_45 hlocks
 · have h := h.2 c1
   refine lv_iload_n hx hb d_Colours_tell_4 rfl (lv_at hl 1 rfl) ?_
   refine lv_aload_n hx hb d_Colours_tell_5 rfl (lv_at hl 0 rfl) ?_
   refine va_get (D := D) (ci := 3) (v := .ref (a 14)) (C := R_Colours) (T := T_Colours) (N := 3) hx hb hts in_Colours hown hK hP 2 cw_at_2 rfl 0 (by decide) (hts _ (List.mem_cons_of_mem _ kw_135)) (fun _ h9 => h9) rfl d_Colours_tell_6 ?_
   refine va_alen (v := nI (G.1 14)) hx hb hK hP 14 0 cw_at_14 rfl rfl d_Colours_tell_9 ?_
   refine lv_icmp_ge (tgt := 44) hx hb d_Colours_tell_10 (by decide) (fun c2 => ?_) (fun c2 => ?_)
   · have h := h.1 c2
     refine lv_iconst (v := 0) hx hb d_Colours_tell_44 (by decide) ?_
     exact W.zret (v := 0) hx hb hr rfl (fun t ht hW => ⟨⟨0, u, rfl, h, by rw [ht]; exact hP, va_K.moved hW.alike hK⟩, hS.F ht⟩) hS.2.2 d_Colours_tell_45 hlocks
   · have h := h.2 c2
     refine lv_aload_n hx hb d_Colours_tell_13 rfl (lv_at hl 0 rfl) ?_
     refine va_get (D := D) (ci := 3) (v := .ref (a 14)) (C := R_Colours) (T := T_Colours) (N := 3) hx hb hts in_Colours hown hK hP 2 cw_at_2 rfl 0 (by decide) (hts _ (List.mem_cons_of_mem _ kw_135)) (fun _ h9 => h9) rfl d_Colours_tell_14 ?_
     refine lv_iload_n hx hb d_Colours_tell_17 rfl (lv_at hl 1 rfl) ?_
     refine va_iald hx hb hK hP 14 0 cw_at_14 rfl h.1 d_Colours_tell_18 ?_
     have h := h.2
     refine lv_iload_n hx hb d_Colours_tell_19 rfl (lv_at hl 2 rfl) ?_
     refine lv_icmp_ne (tgt := 46) hx hb d_Colours_tell_20 (by decide) (fun c3 => ?_) (fun c3 => ?_)
     · have h := h.2 c3
       exact cp_Colours_tell_picture_46 C K x1 x2 x3 x4 u _ _ _ hP hS (lv_sub hl [0, 1, 2, 3, 4] rfl) h
     · have h := h.1 c3
       refine lv_aload_n hx hb d_Colours_tell_23 rfl (lv_at hl 0 rfl) ?_
       refine va_get (D := D) (ci := 3) (v := .ref (a 15)) (C := R_Colours) (T := T_Colours) (N := 3) hx hb hts in_Colours hown hK hP 2 cw_at_2 rfl 1 (by decide) (hts _ (List.mem_cons_of_mem _ kw_136)) (fun _ h9 => h9) rfl d_Colours_tell_24 ?_
       refine lv_iload_n hx hb d_Colours_tell_27 rfl (lv_at hl 1 rfl) ?_
       refine va_iald hx hb hK hP 15 0 cw_at_15 rfl h.1 d_Colours_tell_28 ?_
       have h := h.2
       refine lv_iload_n hx hb d_Colours_tell_29 rfl (lv_at hl 3 rfl) ?_
       refine lv_icmp_ne (tgt := 46) hx hb d_Colours_tell_30 (by decide) (fun c7 => ?_) (fun c7 => ?_)
       · have h := h.2 c7
         exact cp_Colours_tell_picture_46 C K x1 x2 x3 x4 u _ _ _ hP hS (lv_sub hl [0, 1, 2, 3, 4] rfl) h
       · have h := h.1 c7
         refine lv_aload_n hx hb d_Colours_tell_33 rfl (lv_at hl 0 rfl) ?_
         refine va_get (D := D) (ci := 3) (v := .ref (a 16)) (C := R_Colours) (T := T_Colours) (N := 3) hx hb hts in_Colours hown hK hP 2 cw_at_2 rfl 2 (by decide) (hts _ (List.mem_cons_of_mem _ kw_137)) (fun _ h9 => h9) rfl d_Colours_tell_34 ?_
         refine lv_iload_n hx hb d_Colours_tell_37 rfl (lv_at hl 1 rfl) ?_
         refine va_iald hx hb hK hP 16 0 cw_at_16 rfl h.1 d_Colours_tell_38 ?_
         have h := h.2
         refine lv_iload hx hb d_Colours_tell_39 (lv_at hl 4 rfl) ?_
         refine lv_icmp_ne (tgt := 46) hx hb d_Colours_tell_41 (by decide) (fun c8 => ?_) (fun c8 => ?_)
         · have h := h.2 c8
           exact cp_Colours_tell_picture_46 C K x1 x2 x3 x4 u _ _ _ hP hS (lv_sub hl [0, 1, 2, 3, 4] rfl) h
         · have h := h.1 c8
           refine lv_iconst (v := 0) hx hb d_Colours_tell_44 (by decide) ?_
           exact W.zret (v := 0) hx hb hr rfl (fun t ht hW => ⟨⟨0, u, rfl, h, by rw [ht]; exact hP, va_K.moved hW.alike hK⟩, hS.F ht⟩) hS.2.2 d_Colours_tell_45 hlocks
set_option maxHeartbeats 4000000 in
set_option maxRecDepth 100000 in
theorem ct_Colours_tell_picture (l : Launch) (D : va_G) (a : Nat → Nat) (cA cZ : ClassId) (G : pG) (sz : Nat) (x1 x2 x3 x4 : Int32) (u : pS) (Q : Int32 → pS → Prop) (hI : pw_I 40 a) (h : wp_Colours_tell_picture G x1 x2 x3 x4 u Q) : Met l y_Colours_tell w_Colours_tell ({ frames := 0, cells := 0, slots := 0, locals := 0 } : Room) (va_Pc [.ref (a 2), .int x1, .int x2, .int x3, .int x4] (pw_pre D (cw a cA cZ G) (cT cA cZ) sz u)) (va_Qi (fun (r : Int32) (u : pS) => Q r u) (pw_B D (cw a cA cZ G) (cT cA cZ)) (pw_F 40 a sz)) 0 0 (pw_F 40 a sz) := by
 refine Met.ofW (cc := b_Colours_tell) (maxL := 5) (ret := (some .boolean)) (by decide) rfl ?_
 intro p e s m args below meth c s₁ B hml hv
 obtain ⟨rfl, hsz, hP, hK⟩ := hv
 subst hsz
 have hl := lv_entry ([.ref (a 2), .int x1, .int x2, .int x3, .int x4]) (n := 5) (Nat.le_of_ble_eq_true rfl)
 rw [lg_entry_eq]
 generalize (lg_sl ([.ref (a 2), .int x1, .int x2, .int x3, .int x4]) ++ List.replicate (5 - (lg_sl ([.ref (a 2), .int x1, .int x2, .int x3, .int x4])).length) Slot.unset).toArray = ls at hl ⊢
 exact st_Colours_tell_picture (A := (pw_F 40 a s.heap.size)) ⟨B.exec, B.bytes, B.returns, hml, findClass_of_methodNamed B.named, atoms_spec (ws := w_Colours_tell) B.pre, B.notSynchronized, fun q hq => Or.inr hq⟩ ⟨hK, hI, fun k hk => Or.inl ⟨k, hk, rfl⟩⟩ x1 x2 x3 x4 u ls hP hl h
set_option maxHeartbeats 4000000 in
set_option maxRecDepth 100000 in
theorem st_PI_told {p : Program} {l : Launch} {e : Env} {s : State} {m : MethodId} {args : Array Value} {below : List Frame} {meth : Method} {c : Code} {D : va_G} {a : Nat → Nat} {cA cZ : ClassId} {G : pG} {A : Nat → Prop} {Q : Int32 → pS → Prop} (C : pw_C p s m args meth c b_PI_told 2 R_PI (some .boolean) w_PI_told A) (K : pw_K s D 40 a (cT cA cZ) A) (x1 : Int32) (u : pS) (ls : Array Slot) (hP : va_P D vwCl (cw a cA cZ G u) s.heap) (hl : lv_has ls 2 [(0, .ref (a 0)), (1, .int x1)]) (h : wp_PI_told G x1 u Q) : W p l e ({ frames := 0, cells := 0, slots := 0, locals := 0 } : Room) s m args below meth c s.heap [] 0 0 (pw_Ei below args s D (cw a cA cZ G) (cT cA cZ) A Q) (F0 m 0 ls []) := by
 obtain ⟨hx, hb, hr, hml, hown, hts, hlocks, hA⟩ := id C
 obtain ⟨hK, hI, hF⟩ := id K
 have hD : ∀ u, va_D A (cw a cA cZ G u) := fun u => cw_D hI hF
 have hS : va_S A s.heap s.heap [] := va_S.rf
 have h : wp_PI_told G x1 u Q := h
 refine lv_iload_n hx hb d_PI_told_0 rfl (lv_at hl 1 rfl) ?_
 refine lv_if_eq (tgt := 14) hx hb d_PI_told_1 (by decide) (fun c1 => ?_) (fun c1 => ?_)
 · have h := h.1 c1
   refine lv_iload_n hx hb d_PI_told_14 rfl (lv_at hl 1 rfl) ?_
   exact W.zret (v := x1) hx hb hr h.1 (fun t ht hW => ⟨⟨x1, u, rfl, h.2, by rw [ht]; exact hP, va_K.moved hW.alike hK⟩, hS.F ht⟩) hS.2.2 d_PI_told_15 hlocks
 · have h := h.2 c1
   refine lv_aload_n hx hb d_PI_told_4 rfl (lv_at hl 0 rfl) ?_
   refine lv_iconst (v := 0) hx hb d_PI_told_5 (by decide) ?_
   refine va_put (D := D) (ci := 0) (v := .int 0) (ty := .boolean) (C := R_PI) (T := T_PI) (N := 12) hx hb hts in_PI ty_PI tyok_PI nm_PI hown hK hP (hD _) hS 0 cw_at_0 rfl 10 (by decide) (hts _ (List.mem_cons_of_mem _ kw_322)) (fun _ h9 => h9) rfl (by decide +kernel) rfl rfl (Nat.le_of_ble_eq_true rfl) d_PI_told_6 (fun H locs hP _ hS => ?_)
   obtain ⟨u2, eu2⟩ : ∃ z, z = pw_si u 0 0 := ⟨_, rfl⟩
   rw [cw_si_0_10, ← eu2] at hP
   have h := h u2 eu2
   refine lv_aload_n hx hb d_PI_told_9 rfl (lv_at hl 0 rfl) ?_
   refine lv_iconst (v := 0) hx hb d_PI_told_10 (by decide) ?_
   refine va_put (D := D) (ci := 0) (v := .int 0) (ty := .boolean) (C := R_PI) (T := T_PI) (N := 12) hx hb hts in_PI ty_PI tyok_PI nm_PI hown hK hP (hD _) hS 0 cw_at_0 rfl 11 (by decide) (hts _ (List.mem_cons_of_mem _ kw_323)) (fun _ h9 => h9) rfl (by decide +kernel) rfl rfl (Nat.le_of_ble_eq_true rfl) d_PI_told_11 (fun H locs hP _ hS => ?_)
   obtain ⟨u3, eu3⟩ : ∃ z, z = pw_si u2 1 0 := ⟨_, rfl⟩
   rw [cw_si_0_11, ← eu3] at hP
   have h := h u3 eu3
   refine lv_iload_n hx hb d_PI_told_14 rfl (lv_at hl 1 rfl) ?_
   exact W.zret (v := x1) hx hb hr h.1 (fun t ht hW => ⟨⟨x1, u3, rfl, h.2, by rw [ht]; exact hP, va_K.moved hW.alike hK⟩, hS.F ht⟩) hS.2.2 d_PI_told_15 hlocks
set_option maxHeartbeats 4000000 in
set_option maxRecDepth 100000 in
theorem ct_PI_told (l : Launch) (D : va_G) (a : Nat → Nat) (cA cZ : ClassId) (G : pG) (sz : Nat) (x1 : Int32) (u : pS) (Q : Int32 → pS → Prop) (hI : pw_I 40 a) (h : wp_PI_told G x1 u Q) : Met l y_PI_told w_PI_told ({ frames := 0, cells := 0, slots := 0, locals := 0 } : Room) (va_Pc [.ref (a 0), .int x1] (pw_pre D (cw a cA cZ G) (cT cA cZ) sz u)) (va_Qi (fun (r : Int32) (u : pS) => Q r u) (pw_B D (cw a cA cZ G) (cT cA cZ)) (pw_F 40 a sz)) 0 0 (pw_F 40 a sz) := by
 refine Met.ofW (cc := b_PI_told) (maxL := 2) (ret := (some .boolean)) (by decide) rfl ?_
 intro p e s m args below meth c s₁ B hml hv
 obtain ⟨rfl, hsz, hP, hK⟩ := hv
 subst hsz
 have hl := lv_entry ([.ref (a 0), .int x1]) (n := 2) (Nat.le_of_ble_eq_true rfl)
 rw [lg_entry_eq]
 generalize (lg_sl ([.ref (a 0), .int x1]) ++ List.replicate (2 - (lg_sl ([.ref (a 0), .int x1])).length) Slot.unset).toArray = ls at hl ⊢
 exact st_PI_told (A := (pw_F 40 a s.heap.size)) ⟨B.exec, B.bytes, B.returns, hml, findClass_of_methodNamed B.named, atoms_spec (ws := w_PI_told) B.pre, B.notSynchronized, fun q hq => Or.inr hq⟩ ⟨hK, hI, fun k hk => Or.inl ⟨k, hk, rfl⟩⟩ x1 u ls hP hl h
set_option maxHeartbeats 4000000 in
set_option maxRecDepth 100000 in
theorem st_PI_pixel {p : Program} {l : Launch} {e : Env} {s : State} {m : MethodId} {args : Array Value} {below : List Frame} {meth : Method} {c : Code} {D : va_G} {a : Nat → Nat} {cA cZ : ClassId} {G : pG} {A : Nat → Prop} {Q : Int32 → pS → Prop} {X : Nat → pS → Prop} (C : pw_C p s m args meth c b_PI_pixel 6 R_PI (some .boolean) w_PI_pixel A) (K : pw_K s D 40 a (cT cA cZ) A) (EX : cw_Ex A s) (hL : px_L l) (htr : e.platform.stackTraces = false) (hE : ∀ (pc : Nat), ∀ x ∈ c.exceptionTable.toList, covers x pc = false) (x1 x2 x3 x4 x5 : Int32) (u : pS) (ls : Array Slot) (hP : va_P D vwCl (cw a cA cZ G u) s.heap) (hl : lv_has ls 6 [(0, .ref (a 0)), (1, .int x1), (2, .int x2), (3, .int x3), (4, .int x4), (5, .int x5)]) (h : wp_PI_pixel G x1 x2 x3 x4 x5 u Q X) : W p l e ({ frames := 8, cells := 1, slots := 6, locals := 126 } : Room) s m args below meth c s.heap [] 0 0 (px_Ei below args s D (cw a cA cZ G) (cT cA cZ) A Q X) (F0 m 0 ls []) := by
 obtain ⟨hx, hb, hr, hml, hown, hts, hlocks, hA⟩ := id C
 obtain ⟨hK, hI, hF⟩ := id K
 have hD : ∀ u, va_D A (cw a cA cZ G u) := fun u => cw_D hI hF
 have hz : ∀ oc t, px_T X (pw_B D (cw a cA cZ G) (cT cA cZ)) oc t → va_F A s t → (px_Qi Q X (pw_B D (cw a cA cZ G) (cT cA cZ)) A) args s oc t := fun oc t h1 h2 => ⟨Or.inr h1, h2⟩
 have hS : va_S A s.heap s.heap [] := va_S.rf
 have h : wp_PI_pixel G x1 x2 x3 x4 x5 u Q X := h
 refine lv_aload_n hx hb d_PI_pixel_0 rfl (lv_at hl 0 rfl) ?_
 refine lv_iload_n hx hb d_PI_pixel_1 rfl (lv_at hl 1 rfl) ?_
 refine lv_iload_n hx hb d_PI_pixel_2 rfl (lv_at hl 2 rfl) ?_
 refine cx_v (px_runV (As := [.int x1, .int x2]) (rest := []) ⟨hx, hb, hml, hown, hts⟩ (ct_PI_needPlace l D a cA cZ G _ x1 x2 u _ _ hL hI h) (pw_cwV 2 hts kw_364 kw_45 kw_361 kw_363 kw_0 (by decide +kernel) ⟨Nat.le_of_ble_eq_true rfl, Nat.le_of_ble_eq_true rfl⟩) ⟨cw_blindX, va_recv hK hP (ci := 0) (q0 := 0) rfl cw_at_0, fun U hU hW => ⟨rfl, ⟨by rw [hU], by rw [hU]; exact hP, va_K.moved hW.alike hK⟩, cw_Ex_call EX hS (pw_FA hS hF hA) hU hW⟩⟩ rfl rfl hl.1 rfl (lv_room (Nat.le_of_ble_eq_true rfl)) d_PI_pixel_3 ⟨Nat.le_of_ble_eq_true rfl, Nat.le_of_ble_eq_true rfl⟩) hS hF hA (hE _) hlocks hz (fun u1 H locs hP hS h => ?_)
 refine lv_iload_n hx hb d_PI_pixel_6 rfl (lv_at hl 3 rfl) ?_
 refine lv_iload hx hb d_PI_pixel_7 (lv_at hl 4 rfl) ?_
 refine lv_iload hx hb d_PI_pixel_9 (lv_at hl 5 rfl) ?_
 refine cx_v (px_runS (As := [.int x3, .int x4, .int x5]) (rest := []) ⟨hx, hb, hml, hown, hts⟩ (ct_PI_needColour l D a cA cZ G _ x3 x4 x5 u1 _ _ hL hI h) (pw_cwS 3 hts kw_438 kw_45 kw_436 kw_437 (by decide +kernel) ⟨Nat.le_of_ble_eq_true rfl, Nat.le_of_ble_eq_true rfl⟩) ⟨cw_blindX, fun U hU hW => ⟨rfl, ⟨by rw [hU], by rw [hU]; exact hP, va_K.moved hW.alike hK⟩, cw_Ex_call EX hS (pw_FA hS hF hA) hU hW⟩⟩ rfl rfl hl.1 rfl (lv_room (Nat.le_of_ble_eq_true rfl)) d_PI_pixel_11 ⟨Nat.le_of_ble_eq_true rfl, Nat.le_of_ble_eq_true rfl⟩) hS hF hA (hE _) hlocks hz (fun u2 H locs hP hS h => ?_)
 refine lv_aload_n hx hb d_PI_pixel_14 rfl (lv_at hl 0 rfl) ?_
 refine lv_aload_n hx hb d_PI_pixel_15 rfl (lv_at hl 0 rfl) ?_
 refine va_get (D := D) (ci := 0) (v := .ref (a 2)) (C := R_PI) (T := T_PI) (N := 12) hx hb hts in_PI hown hK hP 0 cw_at_0 rfl 2 (by decide) (hts _ (List.mem_cons_of_mem _ kw_314)) (fun _ h9 => h9) rfl d_PI_pixel_16 ?_
 refine lv_aload_n hx hb d_PI_pixel_19 rfl (lv_at hl 0 rfl) ?_
 refine va_get (D := D) (ci := 0) (v := .ref (a 1)) (C := R_PI) (T := T_PI) (N := 12) hx hb hts in_PI hown hK hP 0 cw_at_0 rfl 0 (by decide) (hts _ (List.mem_cons_of_mem _ kw_312)) (fun _ h9 => h9) rfl d_PI_pixel_20 ?_
 refine lv_iload_n hx hb d_PI_pixel_23 rfl (lv_at hl 1 rfl) ?_
 refine lv_iload_n hx hb d_PI_pixel_24 rfl (lv_at hl 2 rfl) ?_
 refine cc_i (va_runV (As := [.int x1, .int x2]) (rest := [.ref (a 2), .ref (a 0)]) ⟨hx, hb, hml, hown, hts⟩ (ct_Grid_placeOf l D a cA cZ G _ x1 x2 u2 _ hI h) (pw_cwV 2 hts kw_96 kw_46 kw_458 kw_94 kw_95 (by decide +kernel) ⟨Nat.le_of_ble_eq_true rfl, Nat.le_of_ble_eq_true rfl⟩) ⟨pw_blind, va_recv hK hP (ci := 4) (q0 := 1) rfl cw_at_1, fun U hU hW => ⟨rfl, by rw [hU], by rw [hU]; exact hP, va_K.moved hW.alike hK⟩⟩ rfl rfl hl.1 rfl (lv_room (Nat.le_of_ble_eq_true rfl)) d_PI_pixel_25 ⟨Nat.le_of_ble_eq_true rfl, Nat.le_of_ble_eq_true rfl⟩) hS hF hA (fun r4 u3 H locs hP hS h => ?_)
 refine lv_iload_n hx hb d_PI_pixel_28 rfl (lv_at hl 3 rfl) ?_
 refine lv_iload hx hb d_PI_pixel_29 (lv_at hl 4 rfl) ?_
 refine lv_iload hx hb d_PI_pixel_31 (lv_at hl 5 rfl) ?_
 refine cc_i (va_runV (As := [.int r4, .int x3, .int x4, .int x5]) (rest := [.ref (a 0)]) ⟨hx, hb, hml, hown, hts⟩ (ct_Colours_tell_picture l D a cA cZ G _ r4 x3 x4 x5 u3 _ hI h) (pw_cwV 4 hts kw_462 kw_48 kw_459 kw_460 kw_461 (by decide +kernel) ⟨Nat.le_of_ble_eq_true rfl, Nat.le_of_ble_eq_true rfl⟩) ⟨pw_blind, va_recv hK hP (ci := 3) (q0 := 2) rfl cw_at_2, fun U hU hW => ⟨rfl, by rw [hU], by rw [hU]; exact hP, va_K.moved hW.alike hK⟩⟩ rfl rfl hl.1 rfl (lv_room (Nat.le_of_ble_eq_true rfl)) d_PI_pixel_33 ⟨Nat.le_of_ble_eq_true rfl, Nat.le_of_ble_eq_true rfl⟩) hS hF hA (fun r6 u5 H locs hP hS h => ?_)
 refine cc_i (va_runV (As := [.int r6]) (rest := []) ⟨hx, hb, hml, hown, hts⟩ (ct_PI_told l D a cA cZ G _ r6 u5 _ hI h) (pw_cwV 1 hts kw_466 kw_45 kw_463 kw_465 kw_2 (by decide +kernel) ⟨Nat.le_of_ble_eq_true rfl, Nat.le_of_ble_eq_true rfl⟩) ⟨pw_blind, va_recv hK hP (ci := 0) (q0 := 0) rfl cw_at_0, fun U hU hW => ⟨rfl, by rw [hU], by rw [hU]; exact hP, va_K.moved hW.alike hK⟩⟩ rfl rfl hl.1 rfl (lv_room (Nat.le_of_ble_eq_true rfl)) d_PI_pixel_36 ⟨Nat.le_of_ble_eq_true rfl, Nat.le_of_ble_eq_true rfl⟩) hS hF hA (fun r8 u7 H locs hP hS h => ?_)
 exact px_mono (fun t h => px_ofMQ (fun _ _ h => h) h) (W.zret (Qc := px_Qi Q X (pw_B D (cw a cA cZ G) (cT cA cZ)) A) (v := r8) hx hb hr h.1 (fun t ht hW => ⟨Or.inl ⟨r8, u7, rfl, h.2, by rw [ht]; exact hP, va_K.moved hW.alike hK⟩, hS.F ht⟩) hS.2.2 d_PI_pixel_39 hlocks)
set_option maxHeartbeats 4000000 in
set_option maxRecDepth 100000 in
theorem ct_PI_pixel (l : Launch) (D : va_G) (a : Nat → Nat) (cA cZ : ClassId) (G : pG) (sz : Nat) (x1 x2 x3 x4 x5 : Int32) (u : pS) (Q : Int32 → pS → Prop) (X : Nat → pS → Prop) (hL : px_L l) (hI : pw_I 40 a) (h : wp_PI_pixel G x1 x2 x3 x4 x5 u Q X) : px_Met l y_PI_pixel w_PI_pixel ({ frames := 8, cells := 1, slots := 6, locals := 126 } : Room) (va_Pc [.ref (a 0), .int x1, .int x2, .int x3, .int x4, .int x5] (fun U => pw_pre D (cw a cA cZ G) (cT cA cZ) sz u U ∧ cw_Ex (pw_F 40 a sz) U)) (px_Qi Q X (pw_B D (cw a cA cZ G) (cT cA cZ)) (pw_F 40 a sz)) 0 0 1 6 (pw_F 40 a sz) := by
 refine px_ofW (cc := b_PI_pixel) (maxL := 6) (ret := (some .boolean)) (by decide) rfl ?_
 intro p e s m args below meth c s₁ B hml hE hv
 obtain ⟨rfl, ⟨hsz, hP, hK⟩, EX⟩ := hv
 subst hsz
 have hl := lv_entry ([.ref (a 0), .int x1, .int x2, .int x3, .int x4, .int x5]) (n := 6) (Nat.le_of_ble_eq_true rfl)
 rw [lg_entry_eq]
 generalize (lg_sl ([.ref (a 0), .int x1, .int x2, .int x3, .int x4, .int x5]) ++ List.replicate (6 - (lg_sl ([.ref (a 0), .int x1, .int x2, .int x3, .int x4, .int x5])).length) Slot.unset).toArray = ls at hl ⊢
 exact st_PI_pixel (A := (pw_F 40 a s.heap.size)) ⟨B.exec, B.bytes, B.returns, hml, findClass_of_methodNamed B.named, atoms_spec (ws := w_PI_pixel) B.pre, B.notSynchronized, fun q hq => Or.inr hq⟩ ⟨hK, hI, fun k hk => Or.inl ⟨k, hk, rfl⟩⟩ EX hL (hL e B.admits) (px_none hE) x1 x2 x3 x4 x5 u ls hP hl h
set_option maxHeartbeats 4000000 in
set_option maxRecDepth 100000 in
theorem cp_Colours_tell_woods_46 {p : Program} {l : Launch} {e : Env} {s : State} {m : MethodId} {args : Array Value} {below : List Frame} {meth : Method} {c : Code} {D : va_G} {a : Nat → Nat} {cA cZ : ClassId} {G : pG} {A : Nat → Prop} {Q : Int32 → pS → Prop} (C : pw_C p s m args meth c b_Colours_tell 5 R_Colours (some .boolean) w_Colours_tell A) (K : pw_K s D 40 a (cT cA cZ) A) : ∀ (x1 x2 x3 x4 : Int32) (u : pS) (H : Heap) (locs : List Loc) (ls : Array Slot), va_P D vwCl (cw a cA cZ G u) H → va_S A s.heap H locs → lv_has ls 5 [(0, .ref (a 3)), (1, .int x1), (2, .int x2), (3, .int x3), (4, .int x4)] → jn_Colours_tell_woods_46 G Q x1 x2 x3 x4 u → W p l e ({ frames := 0, cells := 0, slots := 0, locals := 0 } : Room) s m args below meth c H locs 0 0 (pw_Ei below args s D (cw a cA cZ G) (cT cA cZ) A Q) (F0 m 46 ls []) := by
 obtain ⟨hx, hb, hr, hml, hown, hts, hlocks, hA⟩ := id C
 obtain ⟨hK, hI, hF⟩ := id K
 have hD : ∀ u, va_D A (cw a cA cZ G u) := fun u => cw_D hI hF
 intro x1 x2 x3 x4 u H locs ls hP hS hl h
 refine lv_aload_n hx hb d_Colours_tell_46 rfl (lv_at hl 0 rfl) ?_
 refine va_get (D := D) (ci := 3) (v := .ref (a 17)) (C := R_Colours) (T := T_Colours) (N := 3) hx hb hts in_Colours hown hK hP 3 cw_at_3 rfl 0 (by decide) (hts _ (List.mem_cons_of_mem _ kw_135)) (fun _ h9 => h9) rfl d_Colours_tell_47 ?_
 refine lv_iload_n hx hb d_Colours_tell_50 rfl (lv_at hl 1 rfl) ?_
 refine lv_iload_n hx hb d_Colours_tell_51 rfl (lv_at hl 2 rfl) ?_
 refine va_iast hx hb hK hP (hD _) hS 17 0 cw_at_17 rfl h.1 d_Colours_tell_52 (fun H locs hP _ hS => ?_)
 obtain ⟨u4, eu4⟩ : ∃ z, z = pw_sa u 3 (upd (u.2 3) x1.toNatClampNeg x2) := ⟨_, rfl⟩
 rw [cw_sa_17, ← eu4] at hP
 have h := h.2 u4 eu4
 refine lv_aload_n hx hb d_Colours_tell_53 rfl (lv_at hl 0 rfl) ?_
 refine va_get (D := D) (ci := 3) (v := .ref (a 18)) (C := R_Colours) (T := T_Colours) (N := 3) hx hb hts in_Colours hown hK hP 3 cw_at_3 rfl 1 (by decide) (hts _ (List.mem_cons_of_mem _ kw_136)) (fun _ h9 => h9) rfl d_Colours_tell_54 ?_
 refine lv_iload_n hx hb d_Colours_tell_57 rfl (lv_at hl 1 rfl) ?_
 refine lv_iload_n hx hb d_Colours_tell_58 rfl (lv_at hl 3 rfl) ?_
 refine va_iast hx hb hK hP (hD _) hS 18 0 cw_at_18 rfl h.1 d_Colours_tell_59 (fun H locs hP _ hS => ?_)
 obtain ⟨u5, eu5⟩ : ∃ z, z = pw_sa u4 4 (upd (u4.2 4) x1.toNatClampNeg x3) := ⟨_, rfl⟩
 rw [cw_sa_18, ← eu5] at hP
 have h := h.2 u5 eu5
 refine lv_aload_n hx hb d_Colours_tell_60 rfl (lv_at hl 0 rfl) ?_
 refine va_get (D := D) (ci := 3) (v := .ref (a 19)) (C := R_Colours) (T := T_Colours) (N := 3) hx hb hts in_Colours hown hK hP 3 cw_at_3 rfl 2 (by decide) (hts _ (List.mem_cons_of_mem _ kw_137)) (fun _ h9 => h9) rfl d_Colours_tell_61 ?_
 refine lv_iload_n hx hb d_Colours_tell_64 rfl (lv_at hl 1 rfl) ?_
 refine lv_iload hx hb d_Colours_tell_65 (lv_at hl 4 rfl) ?_
 refine va_iast hx hb hK hP (hD _) hS 19 0 cw_at_19 rfl h.1 d_Colours_tell_67 (fun H locs hP _ hS => ?_)
 obtain ⟨u6, eu6⟩ : ∃ z, z = pw_sa u5 5 (upd (u5.2 5) x1.toNatClampNeg x4) := ⟨_, rfl⟩
 rw [cw_sa_19, ← eu6] at hP
 have h := h.2 u6 eu6
 refine lv_iconst (v := 1) hx hb d_Colours_tell_68 (by decide) ?_
 exact W.zret (v := 1) hx hb hr rfl (fun t ht hW => ⟨⟨1, u6, rfl, h, by rw [ht]; exact hP, va_K.moved hW.alike hK⟩, hS.F ht⟩) hS.2.2 d_Colours_tell_69 hlocks
set_option maxHeartbeats 4000000 in
set_option maxRecDepth 100000 in
theorem st_Colours_tell_woods {p : Program} {l : Launch} {e : Env} {s : State} {m : MethodId} {args : Array Value} {below : List Frame} {meth : Method} {c : Code} {D : va_G} {a : Nat → Nat} {cA cZ : ClassId} {G : pG} {A : Nat → Prop} {Q : Int32 → pS → Prop} (C : pw_C p s m args meth c b_Colours_tell 5 R_Colours (some .boolean) w_Colours_tell A) (K : pw_K s D 40 a (cT cA cZ) A) (x1 x2 x3 x4 : Int32) (u : pS) (ls : Array Slot) (hP : va_P D vwCl (cw a cA cZ G u) s.heap) (hl : lv_has ls 5 [(0, .ref (a 3)), (1, .int x1), (2, .int x2), (3, .int x3), (4, .int x4)]) (h : wp_Colours_tell_woods G x1 x2 x3 x4 u Q) : W p l e ({ frames := 0, cells := 0, slots := 0, locals := 0 } : Room) s m args below meth c s.heap [] 0 0 (pw_Ei below args s D (cw a cA cZ G) (cT cA cZ) A Q) (F0 m 0 ls []) := by
 obtain ⟨hx, hb, hr, hml, hown, hts, hlocks, hA⟩ := id C
 obtain ⟨hK, hI, hF⟩ := id K
 have hD : ∀ u, va_D A (cw a cA cZ G u) := fun u => cw_D hI hF
 have hS : va_S A s.heap s.heap [] := va_S.rf
 have h : wp_Colours_tell_woods G x1 x2 x3 x4 u Q := h
 refine lv_iload_n hx hb d_Colours_tell_0 rfl (lv_at hl 1 rfl) ?_
 refine lv_if_lt (tgt := 44) hx hb d_Colours_tell_1 (by decide) (fun c1 => ?_) (fun c1 => ?_)
 · have h := h.1 c1
   refine lv_iconst (v := 0) hx hb d_Colours_tell_44 (by decide) ?_
   exact W.zret (v := 0) hx hb hr rfl (fun t ht hW => ⟨⟨0, u, rfl, h, by rw [ht]; exact hP, va_K.moved hW.alike hK⟩, hS.F ht⟩) hS.2.2 d_Colours_tell_45 hlocks
 · have h := h.2 c1
   refine lv_iload_n hx hb d_Colours_tell_4 rfl (lv_at hl 1 rfl) ?_
   refine lv_aload_n hx hb d_Colours_tell_5 rfl (lv_at hl 0 rfl) ?_
   refine va_get (D := D) (ci := 3) (v := .ref (a 17)) (C := R_Colours) (T := T_Colours) (N := 3) hx hb hts in_Colours hown hK hP 3 cw_at_3 rfl 0 (by decide) (hts _ (List.mem_cons_of_mem _ kw_135)) (fun _ h9 => h9) rfl d_Colours_tell_6 ?_
   refine va_alen (v := nI (G.1 17)) hx hb hK hP 17 0 cw_at_17 rfl rfl d_Colours_tell_9 ?_
   refine lv_icmp_ge (tgt := 44) hx hb d_Colours_tell_10 (by decide) (fun c2 => ?_) (fun c2 => ?_)
   · have h := h.1 c2
     refine lv_iconst (v := 0) hx hb d_Colours_tell_44 (by decide) ?_
     exact W.zret (v := 0) hx hb hr rfl (fun t ht hW => ⟨⟨0, u, rfl, h, by rw [ht]; exact hP, va_K.moved hW.alike hK⟩, hS.F ht⟩) hS.2.2 d_Colours_tell_45 hlocks
   · have h := h.2 c2
     refine lv_aload_n hx hb d_Colours_tell_13 rfl (lv_at hl 0 rfl) ?_
     refine va_get (D := D) (ci := 3) (v := .ref (a 17)) (C := R_Colours) (T := T_Colours) (N := 3) hx hb hts in_Colours hown hK hP 3 cw_at_3 rfl 0 (by decide) (hts _ (List.mem_cons_of_mem _ kw_135)) (fun _ h9 => h9) rfl d_Colours_tell_14 ?_
     refine lv_iload_n hx hb d_Colours_tell_17 rfl (lv_at hl 1 rfl) ?_
     refine va_iald hx hb hK hP 17 0 cw_at_17 rfl h.1 d_Colours_tell_18 ?_
     have h := h.2
     refine lv_iload_n hx hb d_Colours_tell_19 rfl (lv_at hl 2 rfl) ?_
     refine lv_icmp_ne (tgt := 46) hx hb d_Colours_tell_20 (by decide) (fun c3 => ?_) (fun c3 => ?_)
     · have h := h.2 c3
       exact cp_Colours_tell_woods_46 C K x1 x2 x3 x4 u _ _ _ hP hS (lv_sub hl [0, 1, 2, 3, 4] rfl) h
     · have h := h.1 c3
       refine lv_aload_n hx hb d_Colours_tell_23 rfl (lv_at hl 0 rfl) ?_
       refine va_get (D := D) (ci := 3) (v := .ref (a 18)) (C := R_Colours) (T := T_Colours) (N := 3) hx hb hts in_Colours hown hK hP 3 cw_at_3 rfl 1 (by decide) (hts _ (List.mem_cons_of_mem _ kw_136)) (fun _ h9 => h9) rfl d_Colours_tell_24 ?_
       refine lv_iload_n hx hb d_Colours_tell_27 rfl (lv_at hl 1 rfl) ?_
       refine va_iald hx hb hK hP 18 0 cw_at_18 rfl h.1 d_Colours_tell_28 ?_
       have h := h.2
       refine lv_iload_n hx hb d_Colours_tell_29 rfl (lv_at hl 3 rfl) ?_
       refine lv_icmp_ne (tgt := 46) hx hb d_Colours_tell_30 (by decide) (fun c7 => ?_) (fun c7 => ?_)
       · have h := h.2 c7
         exact cp_Colours_tell_woods_46 C K x1 x2 x3 x4 u _ _ _ hP hS (lv_sub hl [0, 1, 2, 3, 4] rfl) h
       · have h := h.1 c7
         refine lv_aload_n hx hb d_Colours_tell_33 rfl (lv_at hl 0 rfl) ?_
         refine va_get (D := D) (ci := 3) (v := .ref (a 19)) (C := R_Colours) (T := T_Colours) (N := 3) hx hb hts in_Colours hown hK hP 3 cw_at_3 rfl 2 (by decide) (hts _ (List.mem_cons_of_mem _ kw_137)) (fun _ h9 => h9) rfl d_Colours_tell_34 ?_
         refine lv_iload_n hx hb d_Colours_tell_37 rfl (lv_at hl 1 rfl) ?_
         refine va_iald hx hb hK hP 19 0 cw_at_19 rfl h.1 d_Colours_tell_38 ?_
         have h := h.2
         refine lv_iload hx hb d_Colours_tell_39 (lv_at hl 4 rfl) ?_
         refine lv_icmp_ne (tgt := 46) hx hb d_Colours_tell_41 (by decide) (fun c8 => ?_) (fun c8 => ?_)
         · have h := h.2 c8
           exact cp_Colours_tell_woods_46 C K x1 x2 x3 x4 u _ _ _ hP hS (lv_sub hl [0, 1, 2, 3, 4] rfl) h
         · have h := h.1 c8
           refine lv_iconst (v := 0) hx hb d_Colours_tell_44 (by decide) ?_
           exact W.zret (v := 0) hx hb hr rfl (fun t ht hW => ⟨⟨0, u, rfl, h, by rw [ht]; exact hP, va_K.moved hW.alike hK⟩, hS.F ht⟩) hS.2.2 d_Colours_tell_45 hlocks
set_option maxHeartbeats 4000000 in
set_option maxRecDepth 100000 in
theorem ct_Colours_tell_woods (l : Launch) (D : va_G) (a : Nat → Nat) (cA cZ : ClassId) (G : pG) (sz : Nat) (x1 x2 x3 x4 : Int32) (u : pS) (Q : Int32 → pS → Prop) (hI : pw_I 40 a) (h : wp_Colours_tell_woods G x1 x2 x3 x4 u Q) : Met l y_Colours_tell w_Colours_tell ({ frames := 0, cells := 0, slots := 0, locals := 0 } : Room) (va_Pc [.ref (a 3), .int x1, .int x2, .int x3, .int x4] (pw_pre D (cw a cA cZ G) (cT cA cZ) sz u)) (va_Qi (fun (r : Int32) (u : pS) => Q r u) (pw_B D (cw a cA cZ G) (cT cA cZ)) (pw_F 40 a sz)) 0 0 (pw_F 40 a sz) := by
 refine Met.ofW (cc := b_Colours_tell) (maxL := 5) (ret := (some .boolean)) (by decide) rfl ?_
 intro p e s m args below meth c s₁ B hml hv
 obtain ⟨rfl, hsz, hP, hK⟩ := hv
 subst hsz
 have hl := lv_entry ([.ref (a 3), .int x1, .int x2, .int x3, .int x4]) (n := 5) (Nat.le_of_ble_eq_true rfl)
 rw [lg_entry_eq]
 generalize (lg_sl ([.ref (a 3), .int x1, .int x2, .int x3, .int x4]) ++ List.replicate (5 - (lg_sl ([.ref (a 3), .int x1, .int x2, .int x3, .int x4])).length) Slot.unset).toArray = ls at hl ⊢
 exact st_Colours_tell_woods (A := (pw_F 40 a s.heap.size)) ⟨B.exec, B.bytes, B.returns, hml, findClass_of_methodNamed B.named, atoms_spec (ws := w_Colours_tell) B.pre, B.notSynchronized, fun q hq => Or.inr hq⟩ ⟨hK, hI, fun k hk => Or.inl ⟨k, hk, rfl⟩⟩ x1 x2 x3 x4 u ls hP hl h
end
section
set_option maxHeartbeats 4000000 in
set_option maxRecDepth 100000 in
theorem st_PI_kind {p : Program} {l : Launch} {e : Env} {s : State} {m : MethodId} {args : Array Value} {below : List Frame} {meth : Method} {c : Code} {D : va_G} {a : Nat → Nat} {cA cZ : ClassId} {G : pG} {A : Nat → Prop} {Q : Int32 → pS → Prop} {X : Nat → pS → Prop} (C : pw_C p s m args meth c b_PI_kind 5 R_PI (some .boolean) w_PI_kind A) (K : pw_K s D 40 a (cT cA cZ) A) (EX : cw_Ex A s) (hL : px_L l) (htr : e.platform.stackTraces = false) (hE : ∀ (pc : Nat), ∀ x ∈ c.exceptionTable.toList, covers x pc = false) (x1 x2 x3 x4 : Int32) (u : pS) (ls : Array Slot) (hP : va_P D vwCl (cw a cA cZ G u) s.heap) (hl : lv_has ls 5 [(0, .ref (a 0)), (1, .int x1), (2, .int x2), (3, .int x3), (4, .int x4)]) (h : wp_PI_kind G x1 x2 x3 x4 u Q X) : W p l e ({ frames := 8, cells := 1, slots := 6, locals := 126 } : Room) s m args below meth c s.heap [] 0 0 (px_Ei below args s D (cw a cA cZ G) (cT cA cZ) A Q X) (F0 m 0 ls []) := by
 obtain ⟨hx, hb, hr, hml, hown, hts, hlocks, hA⟩ := id C
 obtain ⟨hK, hI, hF⟩ := id K
 have hD : ∀ u, va_D A (cw a cA cZ G u) := fun u => cw_D hI hF
 have hz : ∀ oc t, px_T X (pw_B D (cw a cA cZ G) (cT cA cZ)) oc t → va_F A s t → (px_Qi Q X (pw_B D (cw a cA cZ G) (cT cA cZ)) A) args s oc t := fun oc t h1 h2 => ⟨Or.inr h1, h2⟩
 have hS : va_S A s.heap s.heap [] := va_S.rf
 have h : wp_PI_kind G x1 x2 x3 x4 u Q X := h
 refine lv_iload_n hx hb d_PI_kind_0 rfl (lv_at hl 1 rfl) ?_
 refine lv_aload_n hx hb d_PI_kind_1 rfl (lv_at hl 0 rfl) ?_
 refine va_get (D := D) (ci := 0) (v := .int (G.2.1 0)) (C := R_PI) (T := T_PI) (N := 12) hx hb hts in_PI hown hK hP 0 cw_at_0 rfl 1 (by decide) (hts _ (List.mem_cons_of_mem _ kw_313)) (fun _ h9 => h9) rfl d_PI_kind_2 ?_
 refine cx_v (px_runS (As := [.int x1, .int (G.2.1 0)]) (rest := []) ⟨hx, hb, hml, hown, hts⟩ (ct_PI_needIndex l D a cA cZ G _ x1 (G.2.1 0) u _ _ hL hI h) (pw_cwS 2 hts kw_367 kw_45 kw_365 kw_366 (by decide +kernel) ⟨Nat.le_of_ble_eq_true rfl, Nat.le_of_ble_eq_true rfl⟩) ⟨cw_blindX, fun U hU hW => ⟨rfl, ⟨by rw [hU], by rw [hU]; exact hP, va_K.moved hW.alike hK⟩, cw_Ex_call EX hS (pw_FA hS hF hA) hU hW⟩⟩ rfl rfl hl.1 rfl (lv_room (Nat.le_of_ble_eq_true rfl)) d_PI_kind_5 ⟨Nat.le_of_ble_eq_true rfl, Nat.le_of_ble_eq_true rfl⟩) hS hF hA (hE _) hlocks hz (fun u1 H locs hP hS h => ?_)
 refine lv_iload_n hx hb d_PI_kind_8 rfl (lv_at hl 2 rfl) ?_
 refine lv_iload_n hx hb d_PI_kind_9 rfl (lv_at hl 3 rfl) ?_
 refine lv_iload hx hb d_PI_kind_10 (lv_at hl 4 rfl) ?_
 refine cx_v (px_runS (As := [.int x2, .int x3, .int x4]) (rest := []) ⟨hx, hb, hml, hown, hts⟩ (ct_PI_needColour l D a cA cZ G _ x2 x3 x4 u1 _ _ hL hI h) (pw_cwS 3 hts kw_438 kw_45 kw_436 kw_437 (by decide +kernel) ⟨Nat.le_of_ble_eq_true rfl, Nat.le_of_ble_eq_true rfl⟩) ⟨cw_blindX, fun U hU hW => ⟨rfl, ⟨by rw [hU], by rw [hU]; exact hP, va_K.moved hW.alike hK⟩, cw_Ex_call EX hS (pw_FA hS hF hA) hU hW⟩⟩ rfl rfl hl.1 rfl (lv_room (Nat.le_of_ble_eq_true rfl)) d_PI_kind_12 ⟨Nat.le_of_ble_eq_true rfl, Nat.le_of_ble_eq_true rfl⟩) hS hF hA (hE _) hlocks hz (fun u2 H locs hP hS h => ?_)
 refine lv_aload_n hx hb d_PI_kind_15 rfl (lv_at hl 0 rfl) ?_
 refine lv_aload_n hx hb d_PI_kind_16 rfl (lv_at hl 0 rfl) ?_
 refine va_get (D := D) (ci := 0) (v := .ref (a 3)) (C := R_PI) (T := T_PI) (N := 12) hx hb hts in_PI hown hK hP 0 cw_at_0 rfl 3 (by decide) (hts _ (List.mem_cons_of_mem _ kw_315)) (fun _ h9 => h9) rfl d_PI_kind_17 ?_
 refine lv_iload_n hx hb d_PI_kind_20 rfl (lv_at hl 1 rfl) ?_
 refine lv_iload_n hx hb d_PI_kind_21 rfl (lv_at hl 2 rfl) ?_
 refine lv_iload_n hx hb d_PI_kind_22 rfl (lv_at hl 3 rfl) ?_
 refine lv_iload hx hb d_PI_kind_23 (lv_at hl 4 rfl) ?_
 refine cc_i (va_runV (As := [.int x1, .int x2, .int x3, .int x4]) (rest := [.ref (a 0)]) ⟨hx, hb, hml, hown, hts⟩ (ct_Colours_tell_woods l D a cA cZ G _ x1 x2 x3 x4 u2 _ hI h) (pw_cwV 4 hts kw_462 kw_48 kw_459 kw_460 kw_461 (by decide +kernel) ⟨Nat.le_of_ble_eq_true rfl, Nat.le_of_ble_eq_true rfl⟩) ⟨pw_blind, va_recv hK hP (ci := 3) (q0 := 3) rfl cw_at_3, fun U hU hW => ⟨rfl, by rw [hU], by rw [hU]; exact hP, va_K.moved hW.alike hK⟩⟩ rfl rfl hl.1 rfl (lv_room (Nat.le_of_ble_eq_true rfl)) d_PI_kind_25 ⟨Nat.le_of_ble_eq_true rfl, Nat.le_of_ble_eq_true rfl⟩) hS hF hA (fun r4 u3 H locs hP hS h => ?_)
 refine cc_i (va_runV (As := [.int r4]) (rest := []) ⟨hx, hb, hml, hown, hts⟩ (ct_PI_told l D a cA cZ G _ r4 u3 _ hI h) (pw_cwV 1 hts kw_466 kw_45 kw_463 kw_465 kw_2 (by decide +kernel) ⟨Nat.le_of_ble_eq_true rfl, Nat.le_of_ble_eq_true rfl⟩) ⟨pw_blind, va_recv hK hP (ci := 0) (q0 := 0) rfl cw_at_0, fun U hU hW => ⟨rfl, by rw [hU], by rw [hU]; exact hP, va_K.moved hW.alike hK⟩⟩ rfl rfl hl.1 rfl (lv_room (Nat.le_of_ble_eq_true rfl)) d_PI_kind_28 ⟨Nat.le_of_ble_eq_true rfl, Nat.le_of_ble_eq_true rfl⟩) hS hF hA (fun r6 u5 H locs hP hS h => ?_)
 exact px_mono (fun t h => px_ofMQ (fun _ _ h => h) h) (W.zret (Qc := px_Qi Q X (pw_B D (cw a cA cZ G) (cT cA cZ)) A) (v := r6) hx hb hr h.1 (fun t ht hW => ⟨Or.inl ⟨r6, u5, rfl, h.2, by rw [ht]; exact hP, va_K.moved hW.alike hK⟩, hS.F ht⟩) hS.2.2 d_PI_kind_31 hlocks)
set_option maxHeartbeats 4000000 in
set_option maxRecDepth 100000 in
theorem ct_PI_kind (l : Launch) (D : va_G) (a : Nat → Nat) (cA cZ : ClassId) (G : pG) (sz : Nat) (x1 x2 x3 x4 : Int32) (u : pS) (Q : Int32 → pS → Prop) (X : Nat → pS → Prop) (hL : px_L l) (hI : pw_I 40 a) (h : wp_PI_kind G x1 x2 x3 x4 u Q X) : px_Met l y_PI_kind w_PI_kind ({ frames := 8, cells := 1, slots := 6, locals := 126 } : Room) (va_Pc [.ref (a 0), .int x1, .int x2, .int x3, .int x4] (fun U => pw_pre D (cw a cA cZ G) (cT cA cZ) sz u U ∧ cw_Ex (pw_F 40 a sz) U)) (px_Qi Q X (pw_B D (cw a cA cZ G) (cT cA cZ)) (pw_F 40 a sz)) 0 0 1 6 (pw_F 40 a sz) := by
 refine px_ofW (cc := b_PI_kind) (maxL := 5) (ret := (some .boolean)) (by decide) rfl ?_
 intro p e s m args below meth c s₁ B hml hE hv
 obtain ⟨rfl, ⟨hsz, hP, hK⟩, EX⟩ := hv
 subst hsz
 have hl := lv_entry ([.ref (a 0), .int x1, .int x2, .int x3, .int x4]) (n := 5) (Nat.le_of_ble_eq_true rfl)
 rw [lg_entry_eq]
 generalize (lg_sl ([.ref (a 0), .int x1, .int x2, .int x3, .int x4]) ++ List.replicate (5 - (lg_sl ([.ref (a 0), .int x1, .int x2, .int x3, .int x4])).length) Slot.unset).toArray = ls at hl ⊢
 exact st_PI_kind (A := (pw_F 40 a s.heap.size)) ⟨B.exec, B.bytes, B.returns, hml, findClass_of_methodNamed B.named, atoms_spec (ws := w_PI_kind) B.pre, B.notSynchronized, fun q hq => Or.inr hq⟩ ⟨hK, hI, fun k hk => Or.inl ⟨k, hk, rfl⟩⟩ EX hL (hL e B.admits) (px_none hE) x1 x2 x3 x4 u ls hP hl h
set_option maxHeartbeats 4000000 in
set_option maxRecDepth 100000 in
theorem st_PI_needParted {p : Program} {l : Launch} {e : Env} {s : State} {m : MethodId} {args : Array Value} {below : List Frame} {meth : Method} {c : Code} {D : va_G} {a : Nat → Nat} {cA cZ : ClassId} {G : pG} {A : Nat → Prop} {Q : pS → Prop} {X : Nat → pS → Prop} (C : pw_C p s m args meth c b_PI_needParted 1 R_PI none w_PI_needParted A) (K : pw_K s D 40 a (cT cA cZ) A) (EX : cw_Ex A s) (hL : px_L l) (htr : e.platform.stackTraces = false) (hE : ∀ (pc : Nat), ∀ x ∈ c.exceptionTable.toList, covers x pc = false) (u : pS) (ls : Array Slot) (hP : va_P D vwCl (cw a cA cZ G u) s.heap) (hl : lv_has ls 1 [(0, .ref (a 0))]) (h : wp_PI_needParted G u Q X) : W p l e ({ frames := 6, cells := 1, slots := 6, locals := 82 } : Room) s m args below meth c s.heap [] 0 0 (px_Ev below args s D (cw a cA cZ G) (cT cA cZ) A Q X) (F0 m 0 ls []) := by
 obtain ⟨hx, hb, hr, hml, hown, hts, hlocks, hA⟩ := id C
 obtain ⟨hK, hI, hF⟩ := id K
 have hD : ∀ u, va_D A (cw a cA cZ G u) := fun u => cw_D hI hF
 have hz : ∀ oc t, px_T X (pw_B D (cw a cA cZ G) (cT cA cZ)) oc t → va_F A s t → (px_Qv Q X (pw_B D (cw a cA cZ G) (cT cA cZ)) A) args s oc t := fun oc t h1 h2 => ⟨Or.inr h1, h2⟩
 have hS : va_S A s.heap s.heap [] := va_S.rf
 have h : wp_PI_needParted G u Q X := h
 refine lv_aload_n hx hb d_PI_needParted_0 rfl (lv_at hl 0 rfl) ?_
 refine va_get (D := D) (ci := 0) (v := .int (u.1 0)) (C := R_PI) (T := T_PI) (N := 12) hx hb hts in_PI hown hK hP 0 cw_at_0 rfl 10 (by decide) (hts _ (List.mem_cons_of_mem _ kw_322)) (fun _ h9 => h9) rfl d_PI_needParted_1 ?_
 refine lv_if_ne (tgt := 17) hx hb d_PI_needParted_4 (by decide) (fun c1 => ?_) (fun c1 => ?_)
 · have h := h.2 c1
   exact px_mono (fun t h => px_ofMQ (fun _ _ h => h) h) (W.vret (Qc := px_Qv Q X (pw_B D (cw a cA cZ G) (cT cA cZ)) A) hx hb hr (fun t ht hW => ⟨Or.inl ⟨u, rfl, h, by rw [ht]; exact hP, va_K.moved hW.alike hK⟩, hS.F ht⟩) hS.2.2 d_PI_needParted_17 hlocks)
 · have h := h.1 c1
   obtain ⟨q0, hq0⟩ := EX.1.2.1.1 ("PictureInlays", 219, "not parted since another colour was told") (by decide)
   exact px_thr (k := 0) (u := u) (tx := "not parted since another colour was told") (names := px_up) hx hb (by rw [hml]; exact hl.1.symm) hown (hts _ (List.mem_cons_of_mem _ kw_612)) (hts _ (List.mem_cons_of_mem _ kw_613)) (hts _ (List.mem_cons_of_mem _ kw_65)) hq0 (px_own (by decide) kw_622 hts EX.1) (by decide +kernel) (by decide +kernel) htr (hE _) hlocks (Nat.le_of_ble_eq_true rfl) (Nat.le_of_ble_eq_true rfl) (Nat.le_of_ble_eq_true rfl) (Nat.le_of_ble_eq_true rfl) hz hP hK h d_PI_needParted_7 d_PI_needParted_10 d_PI_needParted_11 d_PI_needParted_13 d_PI_needParted_16
set_option maxHeartbeats 4000000 in
set_option maxRecDepth 100000 in
theorem ct_PI_needParted (l : Launch) (D : va_G) (a : Nat → Nat) (cA cZ : ClassId) (G : pG) (sz : Nat) (u : pS) (Q : pS → Prop) (X : Nat → pS → Prop) (hL : px_L l) (hI : pw_I 40 a) (h : wp_PI_needParted G u Q X) : px_Met l y_PI_needParted w_PI_needParted ({ frames := 6, cells := 1, slots := 6, locals := 82 } : Room) (va_Pc [.ref (a 0)] (fun U => pw_pre D (cw a cA cZ G) (cT cA cZ) sz u U ∧ cw_Ex (pw_F 40 a sz) U)) (px_Qv Q X (pw_B D (cw a cA cZ G) (cT cA cZ)) (pw_F 40 a sz)) 0 0 1 6 (pw_F 40 a sz) := by
 refine px_ofW (cc := b_PI_needParted) (maxL := 1) (ret := none) (by decide) rfl ?_
 intro p e s m args below meth c s₁ B hml hE hv
 obtain ⟨rfl, ⟨hsz, hP, hK⟩, EX⟩ := hv
 subst hsz
 have hl := lv_entry ([.ref (a 0)]) (n := 1) (Nat.le_of_ble_eq_true rfl)
 rw [lg_entry_eq]
 generalize (lg_sl ([.ref (a 0)]) ++ List.replicate (1 - (lg_sl ([.ref (a 0)])).length) Slot.unset).toArray = ls at hl ⊢
 exact st_PI_needParted (A := (pw_F 40 a s.heap.size)) ⟨B.exec, B.bytes, B.returns, hml, findClass_of_methodNamed B.named, atoms_spec (ws := w_PI_needParted) B.pre, B.notSynchronized, fun q hq => Or.inr hq⟩ ⟨hK, hI, fun k hk => Or.inl ⟨k, hk, rfl⟩⟩ EX hL (hL e B.admits) (px_none hE) u ls hP hl h
set_option maxHeartbeats 4000000 in
set_option maxRecDepth 100000 in
theorem st_Pieces_numberOf {p : Program} {l : Launch} {e : Env} {s : State} {m : MethodId} {args : Array Value} {below : List Frame} {meth : Method} {c : Code} {D : va_G} {a : Nat → Nat} {cA cZ : ClassId} {G : pG} {A : Nat → Prop} {Q : Int32 → pS → Prop} (C : pw_C p s m args meth c b_Pieces_numberOf 4 R_Pieces (some .int) w_Pieces_numberOf A) (K : pw_K s D 40 a (cT cA cZ) A) (x1 x2 : Int32) (u : pS) (ls : Array Slot) (hP : va_P D vwCl (cw a cA cZ G u) s.heap) (hl : lv_has ls 4 [(0, .ref (a 4)), (1, .int x1), (2, .int x2)]) (h : wp_Pieces_numberOf G x1 x2 u Q) : W p l e ({ frames := 1, cells := 0, slots := 0, locals := 23 } : Room) s m args below meth c s.heap [] 0 0 (pw_Ei below args s D (cw a cA cZ G) (cT cA cZ) A Q) (F0 m 0 ls []) := by
 obtain ⟨hx, hb, hr, hml, hown, hts, hlocks, hA⟩ := id C
 obtain ⟨hK, hI, hF⟩ := id K
 have hD : ∀ u, va_D A (cw a cA cZ G u) := fun u => cw_D hI hF
 have hS : va_S A s.heap s.heap [] := va_S.rf
 have h : wp_Pieces_numberOf G x1 x2 u Q := h
 refine lv_aload_n hx hb d_Pieces_numberOf_0 rfl (lv_at hl 0 rfl) ?_
 refine va_get (D := D) (ci := 7) (v := .ref (a 1)) (C := R_Pieces) (T := T_Pieces) (N := 11) hx hb hts in_Pieces hown hK hP 4 cw_at_4 rfl 0 (by decide) (hts _ (List.mem_cons_of_mem _ kw_151)) (fun _ h9 => h9) rfl d_Pieces_numberOf_1 ?_
 refine lv_iload_n hx hb d_Pieces_numberOf_4 rfl (lv_at hl 1 rfl) ?_
 refine lv_iload_n hx hb d_Pieces_numberOf_5 rfl (lv_at hl 2 rfl) ?_
 refine cc_i (va_runV (As := [.int x1, .int x2]) (rest := []) ⟨hx, hb, hml, hown, hts⟩ (ct_Grid_placeOf l D a cA cZ G _ x1 x2 u _ hI h) (pw_cwV 2 hts kw_96 kw_46 kw_632 kw_94 kw_95 (by decide +kernel) ⟨Nat.le_of_ble_eq_true rfl, Nat.le_of_ble_eq_true rfl⟩) ⟨pw_blind, va_recv hK hP (ci := 4) (q0 := 1) rfl cw_at_1, fun U hU hW => ⟨rfl, by rw [hU], by rw [hU]; exact hP, va_K.moved hW.alike hK⟩⟩ rfl rfl hl.1 rfl (lv_room (Nat.le_of_ble_eq_true rfl)) d_Pieces_numberOf_6 ⟨Nat.le_of_ble_eq_true rfl, Nat.le_of_ble_eq_true rfl⟩) hS hF hA (fun r2 u1 H locs hP hS h => ?_)
 refine lv_istore_n (lv' := [(3, .int r2), (0, .ref (a 4)), (1, .int x1), (2, .int x2)]) hx hb d_Pieces_numberOf_9 rfl hl (by decide) rfl (fun ls hl => ?_)
 refine lv_iload_n hx hb d_Pieces_numberOf_10 rfl (lv_at hl 0 rfl) ?_
 refine lv_iconst (v := -1) hx hb d_Pieces_numberOf_11 (by decide) ?_
 refine lv_icmp_ne (tgt := 19) hx hb d_Pieces_numberOf_12 (by decide) (fun c3 => ?_) (fun c3 => ?_)
 · have h := h.2 c3
   refine lv_aload_n hx hb d_Pieces_numberOf_19 rfl (lv_at hl 1 rfl) ?_
   refine va_get (D := D) (ci := 7) (v := .ref (a 21)) (C := R_Pieces) (T := T_Pieces) (N := 11) hx hb hts in_Pieces hown hK hP 4 cw_at_4 rfl 2 (by decide) (hts _ (List.mem_cons_of_mem _ kw_153)) (fun _ h9 => h9) rfl d_Pieces_numberOf_20 ?_
   refine lv_iload_n hx hb d_Pieces_numberOf_23 rfl (lv_at hl 0 rfl) ?_
   refine va_iald hx hb hK hP 21 0 cw_at_21 rfl h.1 d_Pieces_numberOf_24 ?_
   have h := h.2
   exact W.iret (v := (u1.2 7 r2.toNatClampNeg)) hx hb hr (fun t ht hW => ⟨⟨(u1.2 7 r2.toNatClampNeg), u1, rfl, h, by rw [ht]; exact hP, va_K.moved hW.alike hK⟩, hS.F ht⟩) hS.2.2 d_Pieces_numberOf_25 hlocks
 · have h := h.1 c3
   refine lv_iconst (v := -1) hx hb d_Pieces_numberOf_15 (by decide) ?_
   refine lv_goto (tgt := 25) hx hb d_Pieces_numberOf_16 (by decide) ?_
   exact W.iret (v := (-1)) hx hb hr (fun t ht hW => ⟨⟨(-1), u1, rfl, h, by rw [ht]; exact hP, va_K.moved hW.alike hK⟩, hS.F ht⟩) hS.2.2 d_Pieces_numberOf_25 hlocks
set_option maxHeartbeats 4000000 in
set_option maxRecDepth 100000 in
theorem ct_Pieces_numberOf (l : Launch) (D : va_G) (a : Nat → Nat) (cA cZ : ClassId) (G : pG) (sz : Nat) (x1 x2 : Int32) (u : pS) (Q : Int32 → pS → Prop) (hI : pw_I 40 a) (h : wp_Pieces_numberOf G x1 x2 u Q) : Met l y_Pieces_numberOf w_Pieces_numberOf ({ frames := 1, cells := 0, slots := 0, locals := 23 } : Room) (va_Pc [.ref (a 4), .int x1, .int x2] (pw_pre D (cw a cA cZ G) (cT cA cZ) sz u)) (va_Qi (fun (r : Int32) (u : pS) => Q r u) (pw_B D (cw a cA cZ G) (cT cA cZ)) (pw_F 40 a sz)) 0 0 (pw_F 40 a sz) := by
 refine Met.ofW (cc := b_Pieces_numberOf) (maxL := 4) (ret := (some .int)) (by decide) rfl ?_
 intro p e s m args below meth c s₁ B hml hv
 obtain ⟨rfl, hsz, hP, hK⟩ := hv
 subst hsz
 have hl := lv_entry ([.ref (a 4), .int x1, .int x2]) (n := 4) (Nat.le_of_ble_eq_true rfl)
 rw [lg_entry_eq]
 generalize (lg_sl ([.ref (a 4), .int x1, .int x2]) ++ List.replicate (4 - (lg_sl ([.ref (a 4), .int x1, .int x2])).length) Slot.unset).toArray = ls at hl ⊢
 exact st_Pieces_numberOf (A := (pw_F 40 a s.heap.size)) ⟨B.exec, B.bytes, B.returns, hml, findClass_of_methodNamed B.named, atoms_spec (ws := w_Pieces_numberOf) B.pre, B.notSynchronized, fun q hq => Or.inr hq⟩ ⟨hK, hI, fun k hk => Or.inl ⟨k, hk, rfl⟩⟩ x1 x2 u ls hP hl h
set_option maxHeartbeats 4000000 in
set_option maxRecDepth 100000 in
theorem st_PI_pieceOf {p : Program} {l : Launch} {e : Env} {s : State} {m : MethodId} {args : Array Value} {below : List Frame} {meth : Method} {c : Code} {D : va_G} {a : Nat → Nat} {cA cZ : ClassId} {G : pG} {A : Nat → Prop} {Q : Int32 → pS → Prop} {X : Nat → pS → Prop} (C : pw_C p s m args meth c b_PI_pieceOf 3 R_PI (some .int) w_PI_pieceOf A) (K : pw_K s D 40 a (cT cA cZ) A) (EX : cw_Ex A s) (hL : px_L l) (htr : e.platform.stackTraces = false) (hE : ∀ (pc : Nat), ∀ x ∈ c.exceptionTable.toList, covers x pc = false) (x1 x2 : Int32) (u : pS) (ls : Array Slot) (hP : va_P D vwCl (cw a cA cZ G u) s.heap) (hl : lv_has ls 3 [(0, .ref (a 0)), (1, .int x1), (2, .int x2)]) (h : wp_PI_pieceOf G x1 x2 u Q X) : W p l e ({ frames := 8, cells := 1, slots := 6, locals := 125 } : Room) s m args below meth c s.heap [] 0 0 (px_Ei below args s D (cw a cA cZ G) (cT cA cZ) A Q X) (F0 m 0 ls []) := by
 obtain ⟨hx, hb, hr, hml, hown, hts, hlocks, hA⟩ := id C
 obtain ⟨hK, hI, hF⟩ := id K
 have hD : ∀ u, va_D A (cw a cA cZ G u) := fun u => cw_D hI hF
 have hz : ∀ oc t, px_T X (pw_B D (cw a cA cZ G) (cT cA cZ)) oc t → va_F A s t → (px_Qi Q X (pw_B D (cw a cA cZ G) (cT cA cZ)) A) args s oc t := fun oc t h1 h2 => ⟨Or.inr h1, h2⟩
 have hS : va_S A s.heap s.heap [] := va_S.rf
 have h : wp_PI_pieceOf G x1 x2 u Q X := h
 refine lv_aload_n hx hb d_PI_pieceOf_0 rfl (lv_at hl 0 rfl) ?_
 refine cx_v (px_runV (As := []) (rest := []) ⟨hx, hb, hml, hown, hts⟩ (ct_PI_needParted l D a cA cZ G _  u _ _ hL hI h) (pw_cwV 0 hts kw_611 kw_45 kw_608 kw_610 kw_12 (by decide +kernel) ⟨Nat.le_of_ble_eq_true rfl, Nat.le_of_ble_eq_true rfl⟩) ⟨cw_blindX, va_recv hK hP (ci := 0) (q0 := 0) rfl cw_at_0, fun U hU hW => ⟨rfl, ⟨by rw [hU], by rw [hU]; exact hP, va_K.moved hW.alike hK⟩, cw_Ex_call EX hS (pw_FA hS hF hA) hU hW⟩⟩ rfl rfl hl.1 rfl (lv_room (Nat.le_of_ble_eq_true rfl)) d_PI_pieceOf_1 ⟨Nat.le_of_ble_eq_true rfl, Nat.le_of_ble_eq_true rfl⟩) hS hF hA (hE _) hlocks hz (fun u1 H locs hP hS h => ?_)
 refine lv_aload_n hx hb d_PI_pieceOf_4 rfl (lv_at hl 0 rfl) ?_
 refine lv_iload_n hx hb d_PI_pieceOf_5 rfl (lv_at hl 1 rfl) ?_
 refine lv_iload_n hx hb d_PI_pieceOf_6 rfl (lv_at hl 2 rfl) ?_
 refine cx_v (px_runV (As := [.int x1, .int x2]) (rest := []) ⟨hx, hb, hml, hown, hts⟩ (ct_PI_needPlace l D a cA cZ G _ x1 x2 u1 _ _ hL hI h) (pw_cwV 2 hts kw_364 kw_45 kw_361 kw_363 kw_0 (by decide +kernel) ⟨Nat.le_of_ble_eq_true rfl, Nat.le_of_ble_eq_true rfl⟩) ⟨cw_blindX, va_recv hK hP (ci := 0) (q0 := 0) rfl cw_at_0, fun U hU hW => ⟨rfl, ⟨by rw [hU], by rw [hU]; exact hP, va_K.moved hW.alike hK⟩, cw_Ex_call EX hS (pw_FA hS hF hA) hU hW⟩⟩ rfl rfl hl.1 rfl (lv_room (Nat.le_of_ble_eq_true rfl)) d_PI_pieceOf_7 ⟨Nat.le_of_ble_eq_true rfl, Nat.le_of_ble_eq_true rfl⟩) hS hF hA (hE _) hlocks hz (fun u2 H locs hP hS h => ?_)
 refine lv_aload_n hx hb d_PI_pieceOf_10 rfl (lv_at hl 0 rfl) ?_
 refine va_get (D := D) (ci := 0) (v := .ref (a 4)) (C := R_PI) (T := T_PI) (N := 12) hx hb hts in_PI hown hK hP 0 cw_at_0 rfl 4 (by decide) (hts _ (List.mem_cons_of_mem _ kw_316)) (fun _ h9 => h9) rfl d_PI_pieceOf_11 ?_
 refine lv_iload_n hx hb d_PI_pieceOf_14 rfl (lv_at hl 1 rfl) ?_
 refine lv_iload_n hx hb d_PI_pieceOf_15 rfl (lv_at hl 2 rfl) ?_
 refine cc_i (va_runV (As := [.int x1, .int x2]) (rest := []) ⟨hx, hb, hml, hown, hts⟩ (ct_Pieces_numberOf l D a cA cZ G _ x1 x2 u2 _ hI h) (pw_cwV 2 hts kw_631 kw_49 kw_628 kw_629 kw_630 (by decide +kernel) ⟨Nat.le_of_ble_eq_true rfl, Nat.le_of_ble_eq_true rfl⟩) ⟨pw_blind, va_recv hK hP (ci := 7) (q0 := 4) rfl cw_at_4, fun U hU hW => ⟨rfl, by rw [hU], by rw [hU]; exact hP, va_K.moved hW.alike hK⟩⟩ rfl rfl hl.1 rfl (lv_room (Nat.le_of_ble_eq_true rfl)) d_PI_pieceOf_16 ⟨Nat.le_of_ble_eq_true rfl, Nat.le_of_ble_eq_true rfl⟩) hS hF hA (fun r4 u3 H locs hP hS h => ?_)
 exact px_mono (fun t h => px_ofMQ (fun _ _ h => h) h) (W.iret (Qc := px_Qi Q X (pw_B D (cw a cA cZ G) (cT cA cZ)) A) (v := r4) hx hb hr (fun t ht hW => ⟨Or.inl ⟨r4, u3, rfl, h, by rw [ht]; exact hP, va_K.moved hW.alike hK⟩, hS.F ht⟩) hS.2.2 d_PI_pieceOf_19 hlocks)
set_option maxHeartbeats 4000000 in
set_option maxRecDepth 100000 in
theorem ct_PI_pieceOf (l : Launch) (D : va_G) (a : Nat → Nat) (cA cZ : ClassId) (G : pG) (sz : Nat) (x1 x2 : Int32) (u : pS) (Q : Int32 → pS → Prop) (X : Nat → pS → Prop) (hL : px_L l) (hI : pw_I 40 a) (h : wp_PI_pieceOf G x1 x2 u Q X) : px_Met l y_PI_pieceOf w_PI_pieceOf ({ frames := 8, cells := 1, slots := 6, locals := 125 } : Room) (va_Pc [.ref (a 0), .int x1, .int x2] (fun U => pw_pre D (cw a cA cZ G) (cT cA cZ) sz u U ∧ cw_Ex (pw_F 40 a sz) U)) (px_Qi Q X (pw_B D (cw a cA cZ G) (cT cA cZ)) (pw_F 40 a sz)) 0 0 1 6 (pw_F 40 a sz) := by
 refine px_ofW (cc := b_PI_pieceOf) (maxL := 3) (ret := (some .int)) (by decide) rfl ?_
 intro p e s m args below meth c s₁ B hml hE hv
 obtain ⟨rfl, ⟨hsz, hP, hK⟩, EX⟩ := hv
 subst hsz
 have hl := lv_entry ([.ref (a 0), .int x1, .int x2]) (n := 3) (Nat.le_of_ble_eq_true rfl)
 rw [lg_entry_eq]
 generalize (lg_sl ([.ref (a 0), .int x1, .int x2]) ++ List.replicate (3 - (lg_sl ([.ref (a 0), .int x1, .int x2])).length) Slot.unset).toArray = ls at hl ⊢
 exact st_PI_pieceOf (A := (pw_F 40 a s.heap.size)) ⟨B.exec, B.bytes, B.returns, hml, findClass_of_methodNamed B.named, atoms_spec (ws := w_PI_pieceOf) B.pre, B.notSynchronized, fun q hq => Or.inr hq⟩ ⟨hK, hI, fun k hk => Or.inl ⟨k, hk, rfl⟩⟩ EX hL (hL e B.admits) (px_none hE) x1 x2 u ls hP hl h
set_option maxHeartbeats 4000000 in
set_option maxRecDepth 100000 in
theorem st_PI_needPiece {p : Program} {l : Launch} {e : Env} {s : State} {m : MethodId} {args : Array Value} {below : List Frame} {meth : Method} {c : Code} {D : va_G} {a : Nat → Nat} {cA cZ : ClassId} {G : pG} {A : Nat → Prop} {Q : pS → Prop} {X : Nat → pS → Prop} (C : pw_C p s m args meth c b_PI_needPiece 2 R_PI none w_PI_needPiece A) (K : pw_K s D 40 a (cT cA cZ) A) (EX : cw_Ex A s) (hL : px_L l) (htr : e.platform.stackTraces = false) (hE : ∀ (pc : Nat), ∀ x ∈ c.exceptionTable.toList, covers x pc = false) (x1 : Int32) (u : pS) (ls : Array Slot) (hP : va_P D vwCl (cw a cA cZ G u) s.heap) (hl : lv_has ls 2 [(0, .ref (a 0)), (1, .int x1)]) (h : wp_PI_needPiece G x1 u Q X) : W p l e ({ frames := 7, cells := 1, slots := 6, locals := 103 } : Room) s m args below meth c s.heap [] 0 0 (px_Ev below args s D (cw a cA cZ G) (cT cA cZ) A Q X) (F0 m 0 ls []) := by
 obtain ⟨hx, hb, hr, hml, hown, hts, hlocks, hA⟩ := id C
 obtain ⟨hK, hI, hF⟩ := id K
 have hD : ∀ u, va_D A (cw a cA cZ G u) := fun u => cw_D hI hF
 have hz : ∀ oc t, px_T X (pw_B D (cw a cA cZ G) (cT cA cZ)) oc t → va_F A s t → (px_Qv Q X (pw_B D (cw a cA cZ G) (cT cA cZ)) A) args s oc t := fun oc t h1 h2 => ⟨Or.inr h1, h2⟩
 have hS : va_S A s.heap s.heap [] := va_S.rf
 have h : wp_PI_needPiece G x1 u Q X := h
 refine lv_aload_n hx hb d_PI_needPiece_0 rfl (lv_at hl 0 rfl) ?_
 refine cx_v (px_runV (As := []) (rest := []) ⟨hx, hb, hml, hown, hts⟩ (ct_PI_needParted l D a cA cZ G _  u _ _ hL hI h) (pw_cwV 0 hts kw_611 kw_45 kw_608 kw_610 kw_12 (by decide +kernel) ⟨Nat.le_of_ble_eq_true rfl, Nat.le_of_ble_eq_true rfl⟩) ⟨cw_blindX, va_recv hK hP (ci := 0) (q0 := 0) rfl cw_at_0, fun U hU hW => ⟨rfl, ⟨by rw [hU], by rw [hU]; exact hP, va_K.moved hW.alike hK⟩, cw_Ex_call EX hS (pw_FA hS hF hA) hU hW⟩⟩ rfl rfl hl.1 rfl (lv_room (Nat.le_of_ble_eq_true rfl)) d_PI_needPiece_1 ⟨Nat.le_of_ble_eq_true rfl, Nat.le_of_ble_eq_true rfl⟩) hS hF hA (hE _) hlocks hz (fun u1 H locs hP hS h => ?_)
 refine lv_iload_n hx hb d_PI_needPiece_4 rfl (lv_at hl 1 rfl) ?_
 refine lv_aload_n hx hb d_PI_needPiece_5 rfl (lv_at hl 0 rfl) ?_
 refine va_get (D := D) (ci := 0) (v := .ref (a 4)) (C := R_PI) (T := T_PI) (N := 12) hx hb hts in_PI hown hK hP 0 cw_at_0 rfl 4 (by decide) (hts _ (List.mem_cons_of_mem _ kw_316)) (fun _ h9 => h9) rfl d_PI_needPiece_6 ?_
 refine va_get (D := D) (ci := 7) (v := .int (u1.1 2)) (C := R_Pieces) (T := T_Pieces) (N := 11) hx hb hts in_Pieces hown hK hP 4 cw_at_4 rfl 10 (by decide) (hts _ (List.mem_cons_of_mem _ kw_163)) (fun _ h9 => h9) rfl d_PI_needPiece_9 ?_
 refine cx_v (px_runS (As := [.int x1, .int (u1.1 2)]) (rest := []) ⟨hx, hb, hml, hown, hts⟩ (ct_PI_needIndex l D a cA cZ G _ x1 (u1.1 2) u1 _ _ hL hI h) (pw_cwS 2 hts kw_367 kw_45 kw_365 kw_366 (by decide +kernel) ⟨Nat.le_of_ble_eq_true rfl, Nat.le_of_ble_eq_true rfl⟩) ⟨cw_blindX, fun U hU hW => ⟨rfl, ⟨by rw [hU], by rw [hU]; exact hP, va_K.moved hW.alike hK⟩, cw_Ex_call EX hS (pw_FA hS hF hA) hU hW⟩⟩ rfl rfl hl.1 rfl (lv_room (Nat.le_of_ble_eq_true rfl)) d_PI_needPiece_12 ⟨Nat.le_of_ble_eq_true rfl, Nat.le_of_ble_eq_true rfl⟩) hS hF hA (hE _) hlocks hz (fun u2 H locs hP hS h => ?_)
 exact px_mono (fun t h => px_ofMQ (fun _ _ h => h) h) (W.vret (Qc := px_Qv Q X (pw_B D (cw a cA cZ G) (cT cA cZ)) A) hx hb hr (fun t ht hW => ⟨Or.inl ⟨u2, rfl, h, by rw [ht]; exact hP, va_K.moved hW.alike hK⟩, hS.F ht⟩) hS.2.2 d_PI_needPiece_15 hlocks)
set_option maxHeartbeats 4000000 in
set_option maxRecDepth 100000 in
theorem ct_PI_needPiece (l : Launch) (D : va_G) (a : Nat → Nat) (cA cZ : ClassId) (G : pG) (sz : Nat) (x1 : Int32) (u : pS) (Q : pS → Prop) (X : Nat → pS → Prop) (hL : px_L l) (hI : pw_I 40 a) (h : wp_PI_needPiece G x1 u Q X) : px_Met l y_PI_needPiece w_PI_needPiece ({ frames := 7, cells := 1, slots := 6, locals := 103 } : Room) (va_Pc [.ref (a 0), .int x1] (fun U => pw_pre D (cw a cA cZ G) (cT cA cZ) sz u U ∧ cw_Ex (pw_F 40 a sz) U)) (px_Qv Q X (pw_B D (cw a cA cZ G) (cT cA cZ)) (pw_F 40 a sz)) 0 0 1 6 (pw_F 40 a sz) := by
 refine px_ofW (cc := b_PI_needPiece) (maxL := 2) (ret := none) (by decide) rfl ?_
 intro p e s m args below meth c s₁ B hml hE hv
 obtain ⟨rfl, ⟨hsz, hP, hK⟩, EX⟩ := hv
 subst hsz
 have hl := lv_entry ([.ref (a 0), .int x1]) (n := 2) (Nat.le_of_ble_eq_true rfl)
 rw [lg_entry_eq]
 generalize (lg_sl ([.ref (a 0), .int x1]) ++ List.replicate (2 - (lg_sl ([.ref (a 0), .int x1])).length) Slot.unset).toArray = ls at hl ⊢
 exact st_PI_needPiece (A := (pw_F 40 a s.heap.size)) ⟨B.exec, B.bytes, B.returns, hml, findClass_of_methodNamed B.named, atoms_spec (ws := w_PI_needPiece) B.pre, B.notSynchronized, fun q hq => Or.inr hq⟩ ⟨hK, hI, fun k hk => Or.inl ⟨k, hk, rfl⟩⟩ EX hL (hL e B.admits) (px_none hE) x1 u ls hP hl h
set_option maxHeartbeats 4000000 in
set_option maxRecDepth 100000 in
theorem st_Pieces_woodOf {p : Program} {l : Launch} {e : Env} {s : State} {m : MethodId} {args : Array Value} {below : List Frame} {meth : Method} {c : Code} {D : va_G} {a : Nat → Nat} {cA cZ : ClassId} {G : pG} {A : Nat → Prop} {Q : Int32 → pS → Prop} (C : pw_C p s m args meth c b_Pieces_woodOf 2 R_Pieces (some .int) w_Pieces_woodOf A) (K : pw_K s D 40 a (cT cA cZ) A) (x1 : Int32) (u : pS) (ls : Array Slot) (hP : va_P D vwCl (cw a cA cZ G u) s.heap) (hl : lv_has ls 2 [(0, .ref (a 4)), (1, .int x1)]) (h : wp_Pieces_woodOf G x1 u Q) : W p l e ({ frames := 0, cells := 0, slots := 0, locals := 0 } : Room) s m args below meth c s.heap [] 0 0 (pw_Ei below args s D (cw a cA cZ G) (cT cA cZ) A Q) (F0 m 0 ls []) := by
 obtain ⟨hx, hb, hr, hml, hown, hts, hlocks, hA⟩ := id C
 obtain ⟨hK, hI, hF⟩ := id K
 have hD : ∀ u, va_D A (cw a cA cZ G u) := fun u => cw_D hI hF
 have hS : va_S A s.heap s.heap [] := va_S.rf
 have h : wp_Pieces_woodOf G x1 u Q := h
 refine lv_aload_n hx hb d_Pieces_woodOf_0 rfl (lv_at hl 0 rfl) ?_
 refine va_get (D := D) (ci := 7) (v := .ref (a 20)) (C := R_Pieces) (T := T_Pieces) (N := 11) hx hb hts in_Pieces hown hK hP 4 cw_at_4 rfl 1 (by decide) (hts _ (List.mem_cons_of_mem _ kw_152)) (fun _ h9 => h9) rfl d_Pieces_woodOf_1 ?_
 refine lv_aload_n hx hb d_Pieces_woodOf_4 rfl (lv_at hl 0 rfl) ?_
 refine va_get (D := D) (ci := 7) (v := .ref (a 24)) (C := R_Pieces) (T := T_Pieces) (N := 11) hx hb hts in_Pieces hown hK hP 4 cw_at_4 rfl 5 (by decide) (hts _ (List.mem_cons_of_mem _ kw_156)) (fun _ h9 => h9) rfl d_Pieces_woodOf_5 ?_
 refine lv_iload_n hx hb d_Pieces_woodOf_8 rfl (lv_at hl 1 rfl) ?_
 refine va_iald hx hb hK hP 24 0 cw_at_24 rfl h.1 d_Pieces_woodOf_9 ?_
 have h := h.2
 refine va_iald hx hb hK hP 20 0 cw_at_20 rfl h.1 d_Pieces_woodOf_10 ?_
 have h := h.2
 exact W.iret (v := (u.2 6 (u.2 10 x1.toNatClampNeg).toNatClampNeg)) hx hb hr (fun t ht hW => ⟨⟨(u.2 6 (u.2 10 x1.toNatClampNeg).toNatClampNeg), u, rfl, h, by rw [ht]; exact hP, va_K.moved hW.alike hK⟩, hS.F ht⟩) hS.2.2 d_Pieces_woodOf_11 hlocks
set_option maxHeartbeats 4000000 in
set_option maxRecDepth 100000 in
theorem ct_Pieces_woodOf (l : Launch) (D : va_G) (a : Nat → Nat) (cA cZ : ClassId) (G : pG) (sz : Nat) (x1 : Int32) (u : pS) (Q : Int32 → pS → Prop) (hI : pw_I 40 a) (h : wp_Pieces_woodOf G x1 u Q) : Met l y_Pieces_woodOf w_Pieces_woodOf ({ frames := 0, cells := 0, slots := 0, locals := 0 } : Room) (va_Pc [.ref (a 4), .int x1] (pw_pre D (cw a cA cZ G) (cT cA cZ) sz u)) (va_Qi (fun (r : Int32) (u : pS) => Q r u) (pw_B D (cw a cA cZ G) (cT cA cZ)) (pw_F 40 a sz)) 0 0 (pw_F 40 a sz) := by
 refine Met.ofW (cc := b_Pieces_woodOf) (maxL := 2) (ret := (some .int)) (by decide) rfl ?_
 intro p e s m args below meth c s₁ B hml hv
 obtain ⟨rfl, hsz, hP, hK⟩ := hv
 subst hsz
 have hl := lv_entry ([.ref (a 4), .int x1]) (n := 2) (Nat.le_of_ble_eq_true rfl)
 rw [lg_entry_eq]
 generalize (lg_sl ([.ref (a 4), .int x1]) ++ List.replicate (2 - (lg_sl ([.ref (a 4), .int x1])).length) Slot.unset).toArray = ls at hl ⊢
 exact st_Pieces_woodOf (A := (pw_F 40 a s.heap.size)) ⟨B.exec, B.bytes, B.returns, hml, findClass_of_methodNamed B.named, atoms_spec (ws := w_Pieces_woodOf) B.pre, B.notSynchronized, fun q hq => Or.inr hq⟩ ⟨hK, hI, fun k hk => Or.inl ⟨k, hk, rfl⟩⟩ x1 u ls hP hl h
set_option maxHeartbeats 4000000 in
set_option maxRecDepth 100000 in
theorem st_Pieces_sizeOf {p : Program} {l : Launch} {e : Env} {s : State} {m : MethodId} {args : Array Value} {below : List Frame} {meth : Method} {c : Code} {D : va_G} {a : Nat → Nat} {cA cZ : ClassId} {G : pG} {A : Nat → Prop} {Q : Int32 → pS → Prop} (C : pw_C p s m args meth c b_Pieces_sizeOf 2 R_Pieces (some .int) w_Pieces_sizeOf A) (K : pw_K s D 40 a (cT cA cZ) A) (x1 : Int32) (u : pS) (ls : Array Slot) (hP : va_P D vwCl (cw a cA cZ G u) s.heap) (hl : lv_has ls 2 [(0, .ref (a 4)), (1, .int x1)]) (h : wp_Pieces_sizeOf G x1 u Q) : W p l e ({ frames := 0, cells := 0, slots := 0, locals := 0 } : Room) s m args below meth c s.heap [] 0 0 (pw_Ei below args s D (cw a cA cZ G) (cT cA cZ) A Q) (F0 m 0 ls []) := by
 obtain ⟨hx, hb, hr, hml, hown, hts, hlocks, hA⟩ := id C
 obtain ⟨hK, hI, hF⟩ := id K
 have hD : ∀ u, va_D A (cw a cA cZ G u) := fun u => cw_D hI hF
 have hS : va_S A s.heap s.heap [] := va_S.rf
 have h : wp_Pieces_sizeOf G x1 u Q := h
 refine lv_aload_n hx hb d_Pieces_sizeOf_0 rfl (lv_at hl 0 rfl) ?_
 refine va_get (D := D) (ci := 7) (v := .ref (a 25)) (C := R_Pieces) (T := T_Pieces) (N := 11) hx hb hts in_Pieces hown hK hP 4 cw_at_4 rfl 6 (by decide) (hts _ (List.mem_cons_of_mem _ kw_157)) (fun _ h9 => h9) rfl d_Pieces_sizeOf_1 ?_
 refine lv_iload_n hx hb d_Pieces_sizeOf_4 rfl (lv_at hl 1 rfl) ?_
 refine va_iald hx hb hK hP 25 0 cw_at_25 rfl h.1 d_Pieces_sizeOf_5 ?_
 have h := h.2
 exact W.iret (v := (u.2 11 x1.toNatClampNeg)) hx hb hr (fun t ht hW => ⟨⟨(u.2 11 x1.toNatClampNeg), u, rfl, h, by rw [ht]; exact hP, va_K.moved hW.alike hK⟩, hS.F ht⟩) hS.2.2 d_Pieces_sizeOf_6 hlocks
set_option maxHeartbeats 4000000 in
set_option maxRecDepth 100000 in
theorem ct_Pieces_sizeOf (l : Launch) (D : va_G) (a : Nat → Nat) (cA cZ : ClassId) (G : pG) (sz : Nat) (x1 : Int32) (u : pS) (Q : Int32 → pS → Prop) (hI : pw_I 40 a) (h : wp_Pieces_sizeOf G x1 u Q) : Met l y_Pieces_sizeOf w_Pieces_sizeOf ({ frames := 0, cells := 0, slots := 0, locals := 0 } : Room) (va_Pc [.ref (a 4), .int x1] (pw_pre D (cw a cA cZ G) (cT cA cZ) sz u)) (va_Qi (fun (r : Int32) (u : pS) => Q r u) (pw_B D (cw a cA cZ G) (cT cA cZ)) (pw_F 40 a sz)) 0 0 (pw_F 40 a sz) := by
 refine Met.ofW (cc := b_Pieces_sizeOf) (maxL := 2) (ret := (some .int)) (by decide) rfl ?_
 intro p e s m args below meth c s₁ B hml hv
 obtain ⟨rfl, hsz, hP, hK⟩ := hv
 subst hsz
 have hl := lv_entry ([.ref (a 4), .int x1]) (n := 2) (Nat.le_of_ble_eq_true rfl)
 rw [lg_entry_eq]
 generalize (lg_sl ([.ref (a 4), .int x1]) ++ List.replicate (2 - (lg_sl ([.ref (a 4), .int x1])).length) Slot.unset).toArray = ls at hl ⊢
 exact st_Pieces_sizeOf (A := (pw_F 40 a s.heap.size)) ⟨B.exec, B.bytes, B.returns, hml, findClass_of_methodNamed B.named, atoms_spec (ws := w_Pieces_sizeOf) B.pre, B.notSynchronized, fun q hq => Or.inr hq⟩ ⟨hK, hI, fun k hk => Or.inl ⟨k, hk, rfl⟩⟩ x1 u ls hP hl h
set_option maxHeartbeats 4000000 in
set_option maxRecDepth 100000 in
theorem st_Pieces_leastXOf {p : Program} {l : Launch} {e : Env} {s : State} {m : MethodId} {args : Array Value} {below : List Frame} {meth : Method} {c : Code} {D : va_G} {a : Nat → Nat} {cA cZ : ClassId} {G : pG} {A : Nat → Prop} {Q : Int32 → pS → Prop} (C : pw_C p s m args meth c b_Pieces_leastXOf 2 R_Pieces (some .int) w_Pieces_leastXOf A) (K : pw_K s D 40 a (cT cA cZ) A) (x1 : Int32) (u : pS) (ls : Array Slot) (hP : va_P D vwCl (cw a cA cZ G u) s.heap) (hl : lv_has ls 2 [(0, .ref (a 4)), (1, .int x1)]) (h : wp_Pieces_leastXOf G x1 u Q) : W p l e ({ frames := 0, cells := 0, slots := 0, locals := 0 } : Room) s m args below meth c s.heap [] 0 0 (pw_Ei below args s D (cw a cA cZ G) (cT cA cZ) A Q) (F0 m 0 ls []) := by
 obtain ⟨hx, hb, hr, hml, hown, hts, hlocks, hA⟩ := id C
 obtain ⟨hK, hI, hF⟩ := id K
 have hD : ∀ u, va_D A (cw a cA cZ G u) := fun u => cw_D hI hF
 have hS : va_S A s.heap s.heap [] := va_S.rf
 have h : wp_Pieces_leastXOf G x1 u Q := h
 refine lv_aload_n hx hb d_Pieces_leastXOf_0 rfl (lv_at hl 0 rfl) ?_
 refine va_get (D := D) (ci := 7) (v := .ref (a 26)) (C := R_Pieces) (T := T_Pieces) (N := 11) hx hb hts in_Pieces hown hK hP 4 cw_at_4 rfl 7 (by decide) (hts _ (List.mem_cons_of_mem _ kw_158)) (fun _ h9 => h9) rfl d_Pieces_leastXOf_1 ?_
 refine lv_iload_n hx hb d_Pieces_leastXOf_4 rfl (lv_at hl 1 rfl) ?_
 refine va_iald hx hb hK hP 26 0 cw_at_26 rfl h.1 d_Pieces_leastXOf_5 ?_
 have h := h.2
 exact W.iret (v := (u.2 12 x1.toNatClampNeg)) hx hb hr (fun t ht hW => ⟨⟨(u.2 12 x1.toNatClampNeg), u, rfl, h, by rw [ht]; exact hP, va_K.moved hW.alike hK⟩, hS.F ht⟩) hS.2.2 d_Pieces_leastXOf_6 hlocks
set_option maxHeartbeats 4000000 in
set_option maxRecDepth 100000 in
theorem ct_Pieces_leastXOf (l : Launch) (D : va_G) (a : Nat → Nat) (cA cZ : ClassId) (G : pG) (sz : Nat) (x1 : Int32) (u : pS) (Q : Int32 → pS → Prop) (hI : pw_I 40 a) (h : wp_Pieces_leastXOf G x1 u Q) : Met l y_Pieces_leastXOf w_Pieces_leastXOf ({ frames := 0, cells := 0, slots := 0, locals := 0 } : Room) (va_Pc [.ref (a 4), .int x1] (pw_pre D (cw a cA cZ G) (cT cA cZ) sz u)) (va_Qi (fun (r : Int32) (u : pS) => Q r u) (pw_B D (cw a cA cZ G) (cT cA cZ)) (pw_F 40 a sz)) 0 0 (pw_F 40 a sz) := by
 refine Met.ofW (cc := b_Pieces_leastXOf) (maxL := 2) (ret := (some .int)) (by decide) rfl ?_
 intro p e s m args below meth c s₁ B hml hv
 obtain ⟨rfl, hsz, hP, hK⟩ := hv
 subst hsz
 have hl := lv_entry ([.ref (a 4), .int x1]) (n := 2) (Nat.le_of_ble_eq_true rfl)
 rw [lg_entry_eq]
 generalize (lg_sl ([.ref (a 4), .int x1]) ++ List.replicate (2 - (lg_sl ([.ref (a 4), .int x1])).length) Slot.unset).toArray = ls at hl ⊢
 exact st_Pieces_leastXOf (A := (pw_F 40 a s.heap.size)) ⟨B.exec, B.bytes, B.returns, hml, findClass_of_methodNamed B.named, atoms_spec (ws := w_Pieces_leastXOf) B.pre, B.notSynchronized, fun q hq => Or.inr hq⟩ ⟨hK, hI, fun k hk => Or.inl ⟨k, hk, rfl⟩⟩ x1 u ls hP hl h
set_option maxHeartbeats 4000000 in
set_option maxRecDepth 100000 in
theorem st_Grid_rowOf {p : Program} {l : Launch} {e : Env} {s : State} {m : MethodId} {args : Array Value} {below : List Frame} {meth : Method} {c : Code} {D : va_G} {a : Nat → Nat} {cA cZ : ClassId} {G : pG} {A : Nat → Prop} {Q : Int32 → pS → Prop} (C : pw_C p s m args meth c b_Grid_rowOf 2 R_Grid (some .int) w_Grid_rowOf A) (K : pw_K s D 40 a (cT cA cZ) A) (x1 : Int32) (u : pS) (ls : Array Slot) (hP : va_P D vwCl (cw a cA cZ G u) s.heap) (hl : lv_has ls 2 [(0, .ref (a 1)), (1, .int x1)]) (h : wp_Grid_rowOf G x1 u Q) : W p l e ({ frames := 0, cells := 0, slots := 0, locals := 0 } : Room) s m args below meth c s.heap [] 0 0 (pw_Ei below args s D (cw a cA cZ G) (cT cA cZ) A Q) (F0 m 0 ls []) := by
 obtain ⟨hx, hb, hr, hml, hown, hts, hlocks, hA⟩ := id C
 obtain ⟨hK, hI, hF⟩ := id K
 have hD : ∀ u, va_D A (cw a cA cZ G u) := fun u => cw_D hI hF
 have hS : va_S A s.heap s.heap [] := va_S.rf
 have h : wp_Grid_rowOf G x1 u Q := h
 refine lv_aload_n hx hb d_Grid_rowOf_0 rfl (lv_at hl 0 rfl) ?_
 refine va_get (D := D) (ci := 4) (v := .ref (a 12)) (C := R_Grid) (T := T_Grid) (N := 6) hx hb hts in_Grid hown hK hP 1 cw_at_1 rfl 4 (by decide) (hts _ (List.mem_cons_of_mem _ kw_113)) (fun _ h9 => h9) rfl d_Grid_rowOf_1 ?_
 refine lv_iload_n hx hb d_Grid_rowOf_4 rfl (lv_at hl 1 rfl) ?_
 refine va_iald hx hb hK hP 12 0 cw_at_12 rfl h.1 d_Grid_rowOf_5 ?_
 have h := h.2
 exact W.iret (v := (G.2.2 1 x1.toNatClampNeg)) hx hb hr (fun t ht hW => ⟨⟨(G.2.2 1 x1.toNatClampNeg), u, rfl, h, by rw [ht]; exact hP, va_K.moved hW.alike hK⟩, hS.F ht⟩) hS.2.2 d_Grid_rowOf_6 hlocks
set_option maxHeartbeats 4000000 in
set_option maxRecDepth 100000 in
theorem ct_Grid_rowOf (l : Launch) (D : va_G) (a : Nat → Nat) (cA cZ : ClassId) (G : pG) (sz : Nat) (x1 : Int32) (u : pS) (Q : Int32 → pS → Prop) (hI : pw_I 40 a) (h : wp_Grid_rowOf G x1 u Q) : Met l y_Grid_rowOf w_Grid_rowOf ({ frames := 0, cells := 0, slots := 0, locals := 0 } : Room) (va_Pc [.ref (a 1), .int x1] (pw_pre D (cw a cA cZ G) (cT cA cZ) sz u)) (va_Qi (fun (r : Int32) (u : pS) => Q r u) (pw_B D (cw a cA cZ G) (cT cA cZ)) (pw_F 40 a sz)) 0 0 (pw_F 40 a sz) := by
 refine Met.ofW (cc := b_Grid_rowOf) (maxL := 2) (ret := (some .int)) (by decide) rfl ?_
 intro p e s m args below meth c s₁ B hml hv
 obtain ⟨rfl, hsz, hP, hK⟩ := hv
 subst hsz
 have hl := lv_entry ([.ref (a 1), .int x1]) (n := 2) (Nat.le_of_ble_eq_true rfl)
 rw [lg_entry_eq]
 generalize (lg_sl ([.ref (a 1), .int x1]) ++ List.replicate (2 - (lg_sl ([.ref (a 1), .int x1])).length) Slot.unset).toArray = ls at hl ⊢
 exact st_Grid_rowOf (A := (pw_F 40 a s.heap.size)) ⟨B.exec, B.bytes, B.returns, hml, findClass_of_methodNamed B.named, atoms_spec (ws := w_Grid_rowOf) B.pre, B.notSynchronized, fun q hq => Or.inr hq⟩ ⟨hK, hI, fun k hk => Or.inl ⟨k, hk, rfl⟩⟩ x1 u ls hP hl h
set_option maxHeartbeats 4000000 in
set_option maxRecDepth 100000 in
theorem st_Pieces_leastYOf {p : Program} {l : Launch} {e : Env} {s : State} {m : MethodId} {args : Array Value} {below : List Frame} {meth : Method} {c : Code} {D : va_G} {a : Nat → Nat} {cA cZ : ClassId} {G : pG} {A : Nat → Prop} {Q : Int32 → pS → Prop} (C : pw_C p s m args meth c b_Pieces_leastYOf 2 R_Pieces (some .int) w_Pieces_leastYOf A) (K : pw_K s D 40 a (cT cA cZ) A) (x1 : Int32) (u : pS) (ls : Array Slot) (hP : va_P D vwCl (cw a cA cZ G u) s.heap) (hl : lv_has ls 2 [(0, .ref (a 4)), (1, .int x1)]) (h : wp_Pieces_leastYOf G x1 u Q) : W p l e ({ frames := 1, cells := 0, slots := 0, locals := 21 } : Room) s m args below meth c s.heap [] 0 0 (pw_Ei below args s D (cw a cA cZ G) (cT cA cZ) A Q) (F0 m 0 ls []) := by
 obtain ⟨hx, hb, hr, hml, hown, hts, hlocks, hA⟩ := id C
 obtain ⟨hK, hI, hF⟩ := id K
 have hD : ∀ u, va_D A (cw a cA cZ G u) := fun u => cw_D hI hF
 have hS : va_S A s.heap s.heap [] := va_S.rf
 have h : wp_Pieces_leastYOf G x1 u Q := h
 refine lv_aload_n hx hb d_Pieces_leastYOf_0 rfl (lv_at hl 0 rfl) ?_
 refine va_get (D := D) (ci := 7) (v := .ref (a 1)) (C := R_Pieces) (T := T_Pieces) (N := 11) hx hb hts in_Pieces hown hK hP 4 cw_at_4 rfl 0 (by decide) (hts _ (List.mem_cons_of_mem _ kw_151)) (fun _ h9 => h9) rfl d_Pieces_leastYOf_1 ?_
 refine lv_aload_n hx hb d_Pieces_leastYOf_4 rfl (lv_at hl 0 rfl) ?_
 refine va_get (D := D) (ci := 7) (v := .ref (a 24)) (C := R_Pieces) (T := T_Pieces) (N := 11) hx hb hts in_Pieces hown hK hP 4 cw_at_4 rfl 5 (by decide) (hts _ (List.mem_cons_of_mem _ kw_156)) (fun _ h9 => h9) rfl d_Pieces_leastYOf_5 ?_
 refine lv_iload_n hx hb d_Pieces_leastYOf_8 rfl (lv_at hl 1 rfl) ?_
 refine va_iald hx hb hK hP 24 0 cw_at_24 rfl h.1 d_Pieces_leastYOf_9 ?_
 have h := h.2
 refine cc_i (va_runV (As := [.int (u.2 10 x1.toNatClampNeg)]) (rest := []) ⟨hx, hb, hml, hown, hts⟩ (ct_Grid_rowOf l D a cA cZ G _ (u.2 10 x1.toNatClampNeg) u _ hI h) (pw_cwV 1 hts kw_517 kw_46 kw_514 kw_515 kw_516 (by decide +kernel) ⟨Nat.le_of_ble_eq_true rfl, Nat.le_of_ble_eq_true rfl⟩) ⟨pw_blind, va_recv hK hP (ci := 4) (q0 := 1) rfl cw_at_1, fun U hU hW => ⟨rfl, by rw [hU], by rw [hU]; exact hP, va_K.moved hW.alike hK⟩⟩ rfl rfl hl.1 rfl (lv_room (Nat.le_of_ble_eq_true rfl)) d_Pieces_leastYOf_10 ⟨Nat.le_of_ble_eq_true rfl, Nat.le_of_ble_eq_true rfl⟩) hS hF hA (fun r2 u1 H locs hP hS h => ?_)
 exact W.iret (v := r2) hx hb hr (fun t ht hW => ⟨⟨r2, u1, rfl, h, by rw [ht]; exact hP, va_K.moved hW.alike hK⟩, hS.F ht⟩) hS.2.2 d_Pieces_leastYOf_13 hlocks
set_option maxHeartbeats 4000000 in
set_option maxRecDepth 100000 in
theorem ct_Pieces_leastYOf (l : Launch) (D : va_G) (a : Nat → Nat) (cA cZ : ClassId) (G : pG) (sz : Nat) (x1 : Int32) (u : pS) (Q : Int32 → pS → Prop) (hI : pw_I 40 a) (h : wp_Pieces_leastYOf G x1 u Q) : Met l y_Pieces_leastYOf w_Pieces_leastYOf ({ frames := 1, cells := 0, slots := 0, locals := 21 } : Room) (va_Pc [.ref (a 4), .int x1] (pw_pre D (cw a cA cZ G) (cT cA cZ) sz u)) (va_Qi (fun (r : Int32) (u : pS) => Q r u) (pw_B D (cw a cA cZ G) (cT cA cZ)) (pw_F 40 a sz)) 0 0 (pw_F 40 a sz) := by
 refine Met.ofW (cc := b_Pieces_leastYOf) (maxL := 2) (ret := (some .int)) (by decide) rfl ?_
 intro p e s m args below meth c s₁ B hml hv
 obtain ⟨rfl, hsz, hP, hK⟩ := hv
 subst hsz
 have hl := lv_entry ([.ref (a 4), .int x1]) (n := 2) (Nat.le_of_ble_eq_true rfl)
 rw [lg_entry_eq]
 generalize (lg_sl ([.ref (a 4), .int x1]) ++ List.replicate (2 - (lg_sl ([.ref (a 4), .int x1])).length) Slot.unset).toArray = ls at hl ⊢
 exact st_Pieces_leastYOf (A := (pw_F 40 a s.heap.size)) ⟨B.exec, B.bytes, B.returns, hml, findClass_of_methodNamed B.named, atoms_spec (ws := w_Pieces_leastYOf) B.pre, B.notSynchronized, fun q hq => Or.inr hq⟩ ⟨hK, hI, fun k hk => Or.inl ⟨k, hk, rfl⟩⟩ x1 u ls hP hl h
set_option maxHeartbeats 4000000 in
set_option maxRecDepth 100000 in
theorem st_Pieces_columnsOf {p : Program} {l : Launch} {e : Env} {s : State} {m : MethodId} {args : Array Value} {below : List Frame} {meth : Method} {c : Code} {D : va_G} {a : Nat → Nat} {cA cZ : ClassId} {G : pG} {A : Nat → Prop} {Q : Int32 → pS → Prop} (C : pw_C p s m args meth c b_Pieces_columnsOf 2 R_Pieces (some .int) w_Pieces_columnsOf A) (K : pw_K s D 40 a (cT cA cZ) A) (x1 : Int32) (u : pS) (ls : Array Slot) (hP : va_P D vwCl (cw a cA cZ G u) s.heap) (hl : lv_has ls 2 [(0, .ref (a 4)), (1, .int x1)]) (h : wp_Pieces_columnsOf G x1 u Q) : W p l e ({ frames := 0, cells := 0, slots := 0, locals := 0 } : Room) s m args below meth c s.heap [] 0 0 (pw_Ei below args s D (cw a cA cZ G) (cT cA cZ) A Q) (F0 m 0 ls []) := by
 obtain ⟨hx, hb, hr, hml, hown, hts, hlocks, hA⟩ := id C
 obtain ⟨hK, hI, hF⟩ := id K
 have hD : ∀ u, va_D A (cw a cA cZ G u) := fun u => cw_D hI hF
 have hS : va_S A s.heap s.heap [] := va_S.rf
 have h : wp_Pieces_columnsOf G x1 u Q := h
 refine lv_aload_n hx hb d_Pieces_columnsOf_0 rfl (lv_at hl 0 rfl) ?_
 refine va_get (D := D) (ci := 7) (v := .ref (a 27)) (C := R_Pieces) (T := T_Pieces) (N := 11) hx hb hts in_Pieces hown hK hP 4 cw_at_4 rfl 8 (by decide) (hts _ (List.mem_cons_of_mem _ kw_159)) (fun _ h9 => h9) rfl d_Pieces_columnsOf_1 ?_
 refine lv_iload_n hx hb d_Pieces_columnsOf_4 rfl (lv_at hl 1 rfl) ?_
 refine va_iald hx hb hK hP 27 0 cw_at_27 rfl h.1 d_Pieces_columnsOf_5 ?_
 have h := h.2
 refine lv_aload_n hx hb d_Pieces_columnsOf_6 rfl (lv_at hl 0 rfl) ?_
 refine va_get (D := D) (ci := 7) (v := .ref (a 26)) (C := R_Pieces) (T := T_Pieces) (N := 11) hx hb hts in_Pieces hown hK hP 4 cw_at_4 rfl 7 (by decide) (hts _ (List.mem_cons_of_mem _ kw_158)) (fun _ h9 => h9) rfl d_Pieces_columnsOf_7 ?_
 refine lv_iload_n hx hb d_Pieces_columnsOf_10 rfl (lv_at hl 1 rfl) ?_
 refine va_iald hx hb hK hP 26 0 cw_at_26 rfl h.1 d_Pieces_columnsOf_11 ?_
 have h := h.2
 refine lv_isub hx hb d_Pieces_columnsOf_12 ?_
 refine lv_iconst (v := 1) hx hb d_Pieces_columnsOf_13 (by decide) ?_
 refine lv_iadd hx hb d_Pieces_columnsOf_14 ?_
 exact W.iret (v := (((u.2 13 x1.toNatClampNeg) - (u.2 12 x1.toNatClampNeg)) + 1)) hx hb hr (fun t ht hW => ⟨⟨(((u.2 13 x1.toNatClampNeg) - (u.2 12 x1.toNatClampNeg)) + 1), u, rfl, h, by rw [ht]; exact hP, va_K.moved hW.alike hK⟩, hS.F ht⟩) hS.2.2 d_Pieces_columnsOf_15 hlocks
set_option maxHeartbeats 4000000 in
set_option maxRecDepth 100000 in
theorem ct_Pieces_columnsOf (l : Launch) (D : va_G) (a : Nat → Nat) (cA cZ : ClassId) (G : pG) (sz : Nat) (x1 : Int32) (u : pS) (Q : Int32 → pS → Prop) (hI : pw_I 40 a) (h : wp_Pieces_columnsOf G x1 u Q) : Met l y_Pieces_columnsOf w_Pieces_columnsOf ({ frames := 0, cells := 0, slots := 0, locals := 0 } : Room) (va_Pc [.ref (a 4), .int x1] (pw_pre D (cw a cA cZ G) (cT cA cZ) sz u)) (va_Qi (fun (r : Int32) (u : pS) => Q r u) (pw_B D (cw a cA cZ G) (cT cA cZ)) (pw_F 40 a sz)) 0 0 (pw_F 40 a sz) := by
 refine Met.ofW (cc := b_Pieces_columnsOf) (maxL := 2) (ret := (some .int)) (by decide) rfl ?_
 intro p e s m args below meth c s₁ B hml hv
 obtain ⟨rfl, hsz, hP, hK⟩ := hv
 subst hsz
 have hl := lv_entry ([.ref (a 4), .int x1]) (n := 2) (Nat.le_of_ble_eq_true rfl)
 rw [lg_entry_eq]
 generalize (lg_sl ([.ref (a 4), .int x1]) ++ List.replicate (2 - (lg_sl ([.ref (a 4), .int x1])).length) Slot.unset).toArray = ls at hl ⊢
 exact st_Pieces_columnsOf (A := (pw_F 40 a s.heap.size)) ⟨B.exec, B.bytes, B.returns, hml, findClass_of_methodNamed B.named, atoms_spec (ws := w_Pieces_columnsOf) B.pre, B.notSynchronized, fun q hq => Or.inr hq⟩ ⟨hK, hI, fun k hk => Or.inl ⟨k, hk, rfl⟩⟩ x1 u ls hP hl h
set_option maxHeartbeats 4000000 in
set_option maxRecDepth 100000 in
theorem st_Pieces_rowsOf {p : Program} {l : Launch} {e : Env} {s : State} {m : MethodId} {args : Array Value} {below : List Frame} {meth : Method} {c : Code} {D : va_G} {a : Nat → Nat} {cA cZ : ClassId} {G : pG} {A : Nat → Prop} {Q : Int32 → pS → Prop} (C : pw_C p s m args meth c b_Pieces_rowsOf 2 R_Pieces (some .int) w_Pieces_rowsOf A) (K : pw_K s D 40 a (cT cA cZ) A) (x1 : Int32) (u : pS) (ls : Array Slot) (hP : va_P D vwCl (cw a cA cZ G u) s.heap) (hl : lv_has ls 2 [(0, .ref (a 4)), (1, .int x1)]) (h : wp_Pieces_rowsOf G x1 u Q) : W p l e ({ frames := 2, cells := 0, slots := 0, locals := 42 } : Room) s m args below meth c s.heap [] 0 0 (pw_Ei below args s D (cw a cA cZ G) (cT cA cZ) A Q) (F0 m 0 ls []) := by
 obtain ⟨hx, hb, hr, hml, hown, hts, hlocks, hA⟩ := id C
 obtain ⟨hK, hI, hF⟩ := id K
 have hD : ∀ u, va_D A (cw a cA cZ G u) := fun u => cw_D hI hF
 have hS : va_S A s.heap s.heap [] := va_S.rf
 have h : wp_Pieces_rowsOf G x1 u Q := h
 refine lv_aload_n hx hb d_Pieces_rowsOf_0 rfl (lv_at hl 0 rfl) ?_
 refine va_get (D := D) (ci := 7) (v := .ref (a 28)) (C := R_Pieces) (T := T_Pieces) (N := 11) hx hb hts in_Pieces hown hK hP 4 cw_at_4 rfl 9 (by decide) (hts _ (List.mem_cons_of_mem _ kw_160)) (fun _ h9 => h9) rfl d_Pieces_rowsOf_1 ?_
 refine lv_iload_n hx hb d_Pieces_rowsOf_4 rfl (lv_at hl 1 rfl) ?_
 refine va_iald hx hb hK hP 28 0 cw_at_28 rfl h.1 d_Pieces_rowsOf_5 ?_
 have h := h.2
 refine lv_aload_n hx hb d_Pieces_rowsOf_6 rfl (lv_at hl 0 rfl) ?_
 refine lv_iload_n hx hb d_Pieces_rowsOf_7 rfl (lv_at hl 1 rfl) ?_
 refine cc_i (va_runV (As := [.int x1]) (rest := [.int (u.2 14 x1.toNatClampNeg)]) ⟨hx, hb, hml, hown, hts⟩ (ct_Pieces_leastYOf l D a cA cZ G _ x1 u _ hI h) (pw_cwV 1 hts kw_582 kw_49 kw_579 kw_580 kw_581 (by decide +kernel) ⟨Nat.le_of_ble_eq_true rfl, Nat.le_of_ble_eq_true rfl⟩) ⟨pw_blind, va_recv hK hP (ci := 7) (q0 := 4) rfl cw_at_4, fun U hU hW => ⟨rfl, by rw [hU], by rw [hU]; exact hP, va_K.moved hW.alike hK⟩⟩ rfl rfl hl.1 rfl (lv_room (Nat.le_of_ble_eq_true rfl)) d_Pieces_rowsOf_8 ⟨Nat.le_of_ble_eq_true rfl, Nat.le_of_ble_eq_true rfl⟩) hS hF hA (fun r2 u1 H locs hP hS h => ?_)
 refine lv_isub hx hb d_Pieces_rowsOf_11 ?_
 refine lv_iconst (v := 1) hx hb d_Pieces_rowsOf_12 (by decide) ?_
 refine lv_iadd hx hb d_Pieces_rowsOf_13 ?_
 exact W.iret (v := (((u.2 14 x1.toNatClampNeg) - r2) + 1)) hx hb hr (fun t ht hW => ⟨⟨(((u.2 14 x1.toNatClampNeg) - r2) + 1), u1, rfl, h, by rw [ht]; exact hP, va_K.moved hW.alike hK⟩, hS.F ht⟩) hS.2.2 d_Pieces_rowsOf_14 hlocks
set_option maxHeartbeats 4000000 in
set_option maxRecDepth 100000 in
theorem ct_Pieces_rowsOf (l : Launch) (D : va_G) (a : Nat → Nat) (cA cZ : ClassId) (G : pG) (sz : Nat) (x1 : Int32) (u : pS) (Q : Int32 → pS → Prop) (hI : pw_I 40 a) (h : wp_Pieces_rowsOf G x1 u Q) : Met l y_Pieces_rowsOf w_Pieces_rowsOf ({ frames := 2, cells := 0, slots := 0, locals := 42 } : Room) (va_Pc [.ref (a 4), .int x1] (pw_pre D (cw a cA cZ G) (cT cA cZ) sz u)) (va_Qi (fun (r : Int32) (u : pS) => Q r u) (pw_B D (cw a cA cZ G) (cT cA cZ)) (pw_F 40 a sz)) 0 0 (pw_F 40 a sz) := by
 refine Met.ofW (cc := b_Pieces_rowsOf) (maxL := 2) (ret := (some .int)) (by decide) rfl ?_
 intro p e s m args below meth c s₁ B hml hv
 obtain ⟨rfl, hsz, hP, hK⟩ := hv
 subst hsz
 have hl := lv_entry ([.ref (a 4), .int x1]) (n := 2) (Nat.le_of_ble_eq_true rfl)
 rw [lg_entry_eq]
 generalize (lg_sl ([.ref (a 4), .int x1]) ++ List.replicate (2 - (lg_sl ([.ref (a 4), .int x1])).length) Slot.unset).toArray = ls at hl ⊢
 exact st_Pieces_rowsOf (A := (pw_F 40 a s.heap.size)) ⟨B.exec, B.bytes, B.returns, hml, findClass_of_methodNamed B.named, atoms_spec (ws := w_Pieces_rowsOf) B.pre, B.notSynchronized, fun q hq => Or.inr hq⟩ ⟨hK, hI, fun k hk => Or.inl ⟨k, hk, rfl⟩⟩ x1 u ls hP hl h
set_option maxHeartbeats 4000000 in
set_option maxRecDepth 100000 in
theorem st_Pieces_isAtEdge {p : Program} {l : Launch} {e : Env} {s : State} {m : MethodId} {args : Array Value} {below : List Frame} {meth : Method} {c : Code} {D : va_G} {a : Nat → Nat} {cA cZ : ClassId} {G : pG} {A : Nat → Prop} {Q : Int32 → pS → Prop} (C : pw_C p s m args meth c b_Pieces_isAtEdge 2 R_Pieces (some .boolean) w_Pieces_isAtEdge A) (K : pw_K s D 40 a (cT cA cZ) A) (x1 : Int32) (u : pS) (ls : Array Slot) (hP : va_P D vwCl (cw a cA cZ G u) s.heap) (hl : lv_has ls 2 [(0, .ref (a 4)), (1, .int x1)]) (h : wp_Pieces_isAtEdge G x1 u Q) : W p l e ({ frames := 2, cells := 0, slots := 0, locals := 42 } : Room) s m args below meth c s.heap [] 0 0 (pw_Ei below args s D (cw a cA cZ G) (cT cA cZ) A Q) (F0 m 0 ls []) := by
 obtain ⟨hx, hb, hr, hml, hown, hts, hlocks, hA⟩ := id C
 obtain ⟨hK, hI, hF⟩ := id K
 have hD : ∀ u, va_D A (cw a cA cZ G u) := fun u => cw_D hI hF
 have hS : va_S A s.heap s.heap [] := va_S.rf
 have h : wp_Pieces_isAtEdge G x1 u Q := h
 refine lv_aload_n hx hb d_Pieces_isAtEdge_0 rfl (lv_at hl 0 rfl) ?_
 refine va_get (D := D) (ci := 7) (v := .ref (a 26)) (C := R_Pieces) (T := T_Pieces) (N := 11) hx hb hts in_Pieces hown hK hP 4 cw_at_4 rfl 7 (by decide) (hts _ (List.mem_cons_of_mem _ kw_158)) (fun _ h9 => h9) rfl d_Pieces_isAtEdge_1 ?_
 refine lv_iload_n hx hb d_Pieces_isAtEdge_4 rfl (lv_at hl 1 rfl) ?_
 refine va_iald hx hb hK hP 26 0 cw_at_26 rfl h.1 d_Pieces_isAtEdge_5 ?_
 have h := h.2
 refine lv_if_eq (tgt := 53) hx hb d_Pieces_isAtEdge_6 (by decide) (fun c1 => ?_) (fun c1 => ?_)
 · have h := h.1 c1
   refine lv_iconst (v := 1) hx hb d_Pieces_isAtEdge_53 (by decide) ?_
   refine lv_goto (tgt := 58) hx hb d_Pieces_isAtEdge_54 (by decide) ?_
   exact W.zret (v := 1) hx hb hr rfl (fun t ht hW => ⟨⟨1, u, rfl, h, by rw [ht]; exact hP, va_K.moved hW.alike hK⟩, hS.F ht⟩) hS.2.2 d_Pieces_isAtEdge_58 hlocks
 · have h := h.2 c1
   refine lv_aload_n hx hb d_Pieces_isAtEdge_9 rfl (lv_at hl 0 rfl) ?_
   refine va_get (D := D) (ci := 7) (v := .ref (a 27)) (C := R_Pieces) (T := T_Pieces) (N := 11) hx hb hts in_Pieces hown hK hP 4 cw_at_4 rfl 8 (by decide) (hts _ (List.mem_cons_of_mem _ kw_159)) (fun _ h9 => h9) rfl d_Pieces_isAtEdge_10 ?_
   refine lv_iload_n hx hb d_Pieces_isAtEdge_13 rfl (lv_at hl 1 rfl) ?_
   refine va_iald hx hb hK hP 27 0 cw_at_27 rfl h.1 d_Pieces_isAtEdge_14 ?_
   have h := h.2
   refine lv_aload_n hx hb d_Pieces_isAtEdge_15 rfl (lv_at hl 0 rfl) ?_
   refine va_get (D := D) (ci := 7) (v := .ref (a 1)) (C := R_Pieces) (T := T_Pieces) (N := 11) hx hb hts in_Pieces hown hK hP 4 cw_at_4 rfl 0 (by decide) (hts _ (List.mem_cons_of_mem _ kw_151)) (fun _ h9 => h9) rfl d_Pieces_isAtEdge_16 ?_
   refine va_get (D := D) (ci := 4) (v := .int (G.2.1 1)) (C := R_Grid) (T := T_Grid) (N := 6) hx hb hts in_Grid hown hK hP 1 cw_at_1 rfl 0 (by decide) (hts _ (List.mem_cons_of_mem _ kw_100)) (fun _ h9 => h9) rfl d_Pieces_isAtEdge_19 ?_
   refine lv_iconst (v := 1) hx hb d_Pieces_isAtEdge_22 (by decide) ?_
   refine lv_isub hx hb d_Pieces_isAtEdge_23 ?_
   refine lv_icmp_eq (tgt := 53) hx hb d_Pieces_isAtEdge_24 (by decide) (fun c2 => ?_) (fun c2 => ?_)
   · have h := h.1 c2
     refine lv_iconst (v := 1) hx hb d_Pieces_isAtEdge_53 (by decide) ?_
     refine lv_goto (tgt := 58) hx hb d_Pieces_isAtEdge_54 (by decide) ?_
     exact W.zret (v := 1) hx hb hr rfl (fun t ht hW => ⟨⟨1, u, rfl, h, by rw [ht]; exact hP, va_K.moved hW.alike hK⟩, hS.F ht⟩) hS.2.2 d_Pieces_isAtEdge_58 hlocks
   · have h := h.2 c2
     refine lv_aload_n hx hb d_Pieces_isAtEdge_27 rfl (lv_at hl 0 rfl) ?_
     refine lv_iload_n hx hb d_Pieces_isAtEdge_28 rfl (lv_at hl 1 rfl) ?_
     refine cc_i (va_runV (As := [.int x1]) (rest := []) ⟨hx, hb, hml, hown, hts⟩ (ct_Pieces_leastYOf l D a cA cZ G _ x1 u _ hI h) (pw_cwV 1 hts kw_582 kw_49 kw_579 kw_580 kw_581 (by decide +kernel) ⟨Nat.le_of_ble_eq_true rfl, Nat.le_of_ble_eq_true rfl⟩) ⟨pw_blind, va_recv hK hP (ci := 7) (q0 := 4) rfl cw_at_4, fun U hU hW => ⟨rfl, by rw [hU], by rw [hU]; exact hP, va_K.moved hW.alike hK⟩⟩ rfl rfl hl.1 rfl (lv_room (Nat.le_of_ble_eq_true rfl)) d_Pieces_isAtEdge_29 ⟨Nat.le_of_ble_eq_true rfl, Nat.le_of_ble_eq_true rfl⟩) hS hF hA (fun r4 u3 H locs hP hS h => ?_)
     refine lv_if_eq (tgt := 53) hx hb d_Pieces_isAtEdge_32 (by decide) (fun c5 => ?_) (fun c5 => ?_)
     · have h := h.1 c5
       refine lv_iconst (v := 1) hx hb d_Pieces_isAtEdge_53 (by decide) ?_
       refine lv_goto (tgt := 58) hx hb d_Pieces_isAtEdge_54 (by decide) ?_
       exact W.zret (v := 1) hx hb hr rfl (fun t ht hW => ⟨⟨1, u3, rfl, h, by rw [ht]; exact hP, va_K.moved hW.alike hK⟩, hS.F ht⟩) hS.2.2 d_Pieces_isAtEdge_58 hlocks
     · have h := h.2 c5
       refine lv_aload_n hx hb d_Pieces_isAtEdge_35 rfl (lv_at hl 0 rfl) ?_
       refine va_get (D := D) (ci := 7) (v := .ref (a 28)) (C := R_Pieces) (T := T_Pieces) (N := 11) hx hb hts in_Pieces hown hK hP 4 cw_at_4 rfl 9 (by decide) (hts _ (List.mem_cons_of_mem _ kw_160)) (fun _ h9 => h9) rfl d_Pieces_isAtEdge_36 ?_
       refine lv_iload_n hx hb d_Pieces_isAtEdge_39 rfl (lv_at hl 1 rfl) ?_
       refine va_iald hx hb hK hP 28 0 cw_at_28 rfl h.1 d_Pieces_isAtEdge_40 ?_
       have h := h.2
       refine lv_aload_n hx hb d_Pieces_isAtEdge_41 rfl (lv_at hl 0 rfl) ?_
       refine va_get (D := D) (ci := 7) (v := .ref (a 1)) (C := R_Pieces) (T := T_Pieces) (N := 11) hx hb hts in_Pieces hown hK hP 4 cw_at_4 rfl 0 (by decide) (hts _ (List.mem_cons_of_mem _ kw_151)) (fun _ h9 => h9) rfl d_Pieces_isAtEdge_42 ?_
       refine va_get (D := D) (ci := 4) (v := .int (G.2.1 2)) (C := R_Grid) (T := T_Grid) (N := 6) hx hb hts in_Grid hown hK hP 1 cw_at_1 rfl 1 (by decide) (hts _ (List.mem_cons_of_mem _ kw_105)) (fun _ h9 => h9) rfl d_Pieces_isAtEdge_45 ?_
       refine lv_iconst (v := 1) hx hb d_Pieces_isAtEdge_48 (by decide) ?_
       refine lv_isub hx hb d_Pieces_isAtEdge_49 ?_
       refine lv_icmp_ne (tgt := 57) hx hb d_Pieces_isAtEdge_50 (by decide) (fun c6 => ?_) (fun c6 => ?_)
       · have h := h.2 c6
         refine lv_iconst (v := 0) hx hb d_Pieces_isAtEdge_57 (by decide) ?_
         exact W.zret (v := 0) hx hb hr rfl (fun t ht hW => ⟨⟨0, u3, rfl, h, by rw [ht]; exact hP, va_K.moved hW.alike hK⟩, hS.F ht⟩) hS.2.2 d_Pieces_isAtEdge_58 hlocks
       · have h := h.1 c6
         refine lv_iconst (v := 1) hx hb d_Pieces_isAtEdge_53 (by decide) ?_
         refine lv_goto (tgt := 58) hx hb d_Pieces_isAtEdge_54 (by decide) ?_
         exact W.zret (v := 1) hx hb hr rfl (fun t ht hW => ⟨⟨1, u3, rfl, h, by rw [ht]; exact hP, va_K.moved hW.alike hK⟩, hS.F ht⟩) hS.2.2 d_Pieces_isAtEdge_58 hlocks
set_option maxHeartbeats 4000000 in
set_option maxRecDepth 100000 in
theorem ct_Pieces_isAtEdge (l : Launch) (D : va_G) (a : Nat → Nat) (cA cZ : ClassId) (G : pG) (sz : Nat) (x1 : Int32) (u : pS) (Q : Int32 → pS → Prop) (hI : pw_I 40 a) (h : wp_Pieces_isAtEdge G x1 u Q) : Met l y_Pieces_isAtEdge w_Pieces_isAtEdge ({ frames := 2, cells := 0, slots := 0, locals := 42 } : Room) (va_Pc [.ref (a 4), .int x1] (pw_pre D (cw a cA cZ G) (cT cA cZ) sz u)) (va_Qi (fun (r : Int32) (u : pS) => Q r u) (pw_B D (cw a cA cZ G) (cT cA cZ)) (pw_F 40 a sz)) 0 0 (pw_F 40 a sz) := by
 refine Met.ofW (cc := b_Pieces_isAtEdge) (maxL := 2) (ret := (some .boolean)) (by decide) rfl ?_
 intro p e s m args below meth c s₁ B hml hv
 obtain ⟨rfl, hsz, hP, hK⟩ := hv
 subst hsz
 have hl := lv_entry ([.ref (a 4), .int x1]) (n := 2) (Nat.le_of_ble_eq_true rfl)
 rw [lg_entry_eq]
 generalize (lg_sl ([.ref (a 4), .int x1]) ++ List.replicate (2 - (lg_sl ([.ref (a 4), .int x1])).length) Slot.unset).toArray = ls at hl ⊢
 exact st_Pieces_isAtEdge (A := (pw_F 40 a s.heap.size)) ⟨B.exec, B.bytes, B.returns, hml, findClass_of_methodNamed B.named, atoms_spec (ws := w_Pieces_isAtEdge) B.pre, B.notSynchronized, fun q hq => Or.inr hq⟩ ⟨hK, hI, fun k hk => Or.inl ⟨k, hk, rfl⟩⟩ x1 u ls hP hl h
end
section
set_option maxHeartbeats 4000000 in
set_option maxRecDepth 100000 in
theorem st_PI_piece {p : Program} {l : Launch} {e : Env} {s : State} {m : MethodId} {args : Array Value} {below : List Frame} {meth : Method} {c : Code} {D : va_G} {a : Nat → Nat} {cA cZ : ClassId} {G : pG} {A : Nat → Prop} {Q : Int32 → pS → Prop} {X : Nat → pS → Prop} (C : pw_C p s m args meth c b_PI_piece 3 R_PI (some .int) w_PI_piece A) (K : pw_K s D 40 a (cT cA cZ) A) (EX : cw_Ex A s) (hL : px_L l) (htr : e.platform.stackTraces = false) (hE : ∀ (pc : Nat), ∀ x ∈ c.exceptionTable.toList, covers x pc = false) (x1 x2 : Int32) (u : pS) (ls : Array Slot) (hP : va_P D vwCl (cw a cA cZ G u) s.heap) (hl : lv_has ls 3 [(0, .ref (a 0)), (1, .int x1), (2, .int x2)]) (h : wp_PI_piece G x1 x2 u Q X) : W p l e ({ frames := 8, cells := 1, slots := 6, locals := 124 } : Room) s m args below meth c s.heap [] 0 0 (px_Ei below args s D (cw a cA cZ G) (cT cA cZ) A Q X) (F0 m 0 ls []) := by
 obtain ⟨hx, hb, hr, hml, hown, hts, hlocks, hA⟩ := id C
 obtain ⟨hK, hI, hF⟩ := id K
 have hD : ∀ u, va_D A (cw a cA cZ G u) := fun u => cw_D hI hF
 have hz : ∀ oc t, px_T X (pw_B D (cw a cA cZ G) (cT cA cZ)) oc t → va_F A s t → (px_Qi Q X (pw_B D (cw a cA cZ G) (cT cA cZ)) A) args s oc t := fun oc t h1 h2 => ⟨Or.inr h1, h2⟩
 have hS : va_S A s.heap s.heap [] := va_S.rf
 have h : wp_PI_piece G x1 x2 u Q X := h
 refine lv_aload_n hx hb d_PI_piece_0 rfl (lv_at hl 0 rfl) ?_
 refine lv_iload_n hx hb d_PI_piece_1 rfl (lv_at hl 1 rfl) ?_
 refine cx_v (px_runV (As := [.int x1]) (rest := []) ⟨hx, hb, hml, hown, hts⟩ (ct_PI_needPiece l D a cA cZ G _ x1 u _ _ hL hI h) (pw_cwV 1 hts kw_643 kw_45 kw_640 kw_642 kw_13 (by decide +kernel) ⟨Nat.le_of_ble_eq_true rfl, Nat.le_of_ble_eq_true rfl⟩) ⟨cw_blindX, va_recv hK hP (ci := 0) (q0 := 0) rfl cw_at_0, fun U hU hW => ⟨rfl, ⟨by rw [hU], by rw [hU]; exact hP, va_K.moved hW.alike hK⟩, cw_Ex_call EX hS (pw_FA hS hF hA) hU hW⟩⟩ rfl rfl hl.1 rfl (lv_room (Nat.le_of_ble_eq_true rfl)) d_PI_piece_2 ⟨Nat.le_of_ble_eq_true rfl, Nat.le_of_ble_eq_true rfl⟩) hS hF hA (hE _) hlocks hz (fun u1 H locs hP hS h => ?_)
 refine lv_iload_n hx hb d_PI_piece_5 rfl (lv_at hl 2 rfl) ?_
 refine lv_iconst (v := 0) hx hb d_PI_piece_6 (by decide) ?_
 refine lv_bipush (v := 6) hx hb d_PI_piece_7 (by decide) ?_
 refine cx_v (px_runS (As := [.int x2, .int 0, .int 6]) (rest := []) ⟨hx, hb, hml, hown, hts⟩ (ct_PI_needNumber l D a cA cZ G _ x2 0 6 u1 _ _ hL hI h) (pw_cwS 3 hts kw_441 kw_45 kw_439 kw_440 (by decide +kernel) ⟨Nat.le_of_ble_eq_true rfl, Nat.le_of_ble_eq_true rfl⟩) ⟨cw_blindX, fun U hU hW => ⟨rfl, ⟨by rw [hU], by rw [hU]; exact hP, va_K.moved hW.alike hK⟩, cw_Ex_call EX hS (pw_FA hS hF hA) hU hW⟩⟩ rfl rfl hl.1 rfl (lv_room (Nat.le_of_ble_eq_true rfl)) d_PI_piece_9 ⟨Nat.le_of_ble_eq_true rfl, Nat.le_of_ble_eq_true rfl⟩) hS hF hA (hE _) hlocks hz (fun u2 H locs hP hS h => ?_)
 refine lv_iload_n hx hb d_PI_piece_12 rfl (lv_at hl 2 rfl) ?_
 by_cases c13_0 : x2 = 0
 · have h := h.1 c13_0
   refine lv_tableIn (tgt := 52) (off := 39) hx hb d_PI_piece_13 (by rw [c13_0]; decide) (by rw [c13_0]; decide) (by rw [c13_0]; decide) (by decide) ?_
   refine lv_aload_n hx hb d_PI_piece_52 rfl (lv_at hl 0 rfl) ?_
   refine va_get (D := D) (ci := 0) (v := .ref (a 4)) (C := R_PI) (T := T_PI) (N := 12) hx hb hts in_PI hown hK hP 0 cw_at_0 rfl 4 (by decide) (hts _ (List.mem_cons_of_mem _ kw_316)) (fun _ h9 => h9) rfl d_PI_piece_53 ?_
   refine lv_iload_n hx hb d_PI_piece_56 rfl (lv_at hl 1 rfl) ?_
   refine cc_i (va_runV (As := [.int x1]) (rest := []) ⟨hx, hb, hml, hown, hts⟩ (ct_Pieces_woodOf l D a cA cZ G _ x1 u2 _ hI h) (pw_cwV 1 hts kw_551 kw_49 kw_644 kw_549 kw_550 (by decide +kernel) ⟨Nat.le_of_ble_eq_true rfl, Nat.le_of_ble_eq_true rfl⟩) ⟨pw_blind, va_recv hK hP (ci := 7) (q0 := 4) rfl cw_at_4, fun U hU hW => ⟨rfl, by rw [hU], by rw [hU]; exact hP, va_K.moved hW.alike hK⟩⟩ rfl rfl hl.1 rfl (lv_room (Nat.le_of_ble_eq_true rfl)) d_PI_piece_57 ⟨Nat.le_of_ble_eq_true rfl, Nat.le_of_ble_eq_true rfl⟩) hS hF hA (fun r4 u3 H locs hP hS h => ?_)
   exact px_mono (fun t h => px_ofMQ (fun _ _ h => h) h) (W.iret (Qc := px_Qi Q X (pw_B D (cw a cA cZ G) (cT cA cZ)) A) (v := r4) hx hb hr (fun t ht hW => ⟨Or.inl ⟨r4, u3, rfl, h, by rw [ht]; exact hP, va_K.moved hW.alike hK⟩, hS.F ht⟩) hS.2.2 d_PI_piece_60 hlocks)
 · have h := h.2 c13_0
   by_cases c13_1 : x2 = 1
   · have h := h.1 c13_1
     refine lv_tableIn (tgt := 61) (off := 48) hx hb d_PI_piece_13 (by rw [c13_1]; decide) (by rw [c13_1]; decide) (by rw [c13_1]; decide) (by decide) ?_
     refine lv_aload_n hx hb d_PI_piece_61 rfl (lv_at hl 0 rfl) ?_
     refine va_get (D := D) (ci := 0) (v := .ref (a 4)) (C := R_PI) (T := T_PI) (N := 12) hx hb hts in_PI hown hK hP 0 cw_at_0 rfl 4 (by decide) (hts _ (List.mem_cons_of_mem _ kw_316)) (fun _ h9 => h9) rfl d_PI_piece_62 ?_
     refine lv_iload_n hx hb d_PI_piece_65 rfl (lv_at hl 1 rfl) ?_
     refine cc_i (va_runV (As := [.int x1]) (rest := []) ⟨hx, hb, hml, hown, hts⟩ (ct_Pieces_sizeOf l D a cA cZ G _ x1 u2 _ hI h) (pw_cwV 1 hts kw_598 kw_49 kw_645 kw_596 kw_597 (by decide +kernel) ⟨Nat.le_of_ble_eq_true rfl, Nat.le_of_ble_eq_true rfl⟩) ⟨pw_blind, va_recv hK hP (ci := 7) (q0 := 4) rfl cw_at_4, fun U hU hW => ⟨rfl, by rw [hU], by rw [hU]; exact hP, va_K.moved hW.alike hK⟩⟩ rfl rfl hl.1 rfl (lv_room (Nat.le_of_ble_eq_true rfl)) d_PI_piece_66 ⟨Nat.le_of_ble_eq_true rfl, Nat.le_of_ble_eq_true rfl⟩) hS hF hA (fun r6 u5 H locs hP hS h => ?_)
     exact px_mono (fun t h => px_ofMQ (fun _ _ h => h) h) (W.iret (Qc := px_Qi Q X (pw_B D (cw a cA cZ G) (cT cA cZ)) A) (v := r6) hx hb hr (fun t ht hW => ⟨Or.inl ⟨r6, u5, rfl, h, by rw [ht]; exact hP, va_K.moved hW.alike hK⟩, hS.F ht⟩) hS.2.2 d_PI_piece_69 hlocks)
   · have h := h.2 c13_1
     by_cases c13_2 : x2 = 2
     · have h := h.1 c13_2
       refine lv_tableIn (tgt := 70) (off := 57) hx hb d_PI_piece_13 (by rw [c13_2]; decide) (by rw [c13_2]; decide) (by rw [c13_2]; decide) (by decide) ?_
       refine lv_aload_n hx hb d_PI_piece_70 rfl (lv_at hl 0 rfl) ?_
       refine va_get (D := D) (ci := 0) (v := .ref (a 4)) (C := R_PI) (T := T_PI) (N := 12) hx hb hts in_PI hown hK hP 0 cw_at_0 rfl 4 (by decide) (hts _ (List.mem_cons_of_mem _ kw_316)) (fun _ h9 => h9) rfl d_PI_piece_71 ?_
       refine lv_iload_n hx hb d_PI_piece_74 rfl (lv_at hl 1 rfl) ?_
       refine cc_i (va_runV (As := [.int x1]) (rest := []) ⟨hx, hb, hml, hown, hts⟩ (ct_Pieces_leastXOf l D a cA cZ G _ x1 u2 _ hI h) (pw_cwV 1 hts kw_649 kw_49 kw_646 kw_647 kw_648 (by decide +kernel) ⟨Nat.le_of_ble_eq_true rfl, Nat.le_of_ble_eq_true rfl⟩) ⟨pw_blind, va_recv hK hP (ci := 7) (q0 := 4) rfl cw_at_4, fun U hU hW => ⟨rfl, by rw [hU], by rw [hU]; exact hP, va_K.moved hW.alike hK⟩⟩ rfl rfl hl.1 rfl (lv_room (Nat.le_of_ble_eq_true rfl)) d_PI_piece_75 ⟨Nat.le_of_ble_eq_true rfl, Nat.le_of_ble_eq_true rfl⟩) hS hF hA (fun r8 u7 H locs hP hS h => ?_)
       exact px_mono (fun t h => px_ofMQ (fun _ _ h => h) h) (W.iret (Qc := px_Qi Q X (pw_B D (cw a cA cZ G) (cT cA cZ)) A) (v := r8) hx hb hr (fun t ht hW => ⟨Or.inl ⟨r8, u7, rfl, h, by rw [ht]; exact hP, va_K.moved hW.alike hK⟩, hS.F ht⟩) hS.2.2 d_PI_piece_78 hlocks)
     · have h := h.2 c13_2
       by_cases c13_3 : x2 = 3
       · have h := h.1 c13_3
         refine lv_tableIn (tgt := 79) (off := 66) hx hb d_PI_piece_13 (by rw [c13_3]; decide) (by rw [c13_3]; decide) (by rw [c13_3]; decide) (by decide) ?_
         refine lv_aload_n hx hb d_PI_piece_79 rfl (lv_at hl 0 rfl) ?_
         refine va_get (D := D) (ci := 0) (v := .ref (a 4)) (C := R_PI) (T := T_PI) (N := 12) hx hb hts in_PI hown hK hP 0 cw_at_0 rfl 4 (by decide) (hts _ (List.mem_cons_of_mem _ kw_316)) (fun _ h9 => h9) rfl d_PI_piece_80 ?_
         refine lv_iload_n hx hb d_PI_piece_83 rfl (lv_at hl 1 rfl) ?_
         refine cc_i (va_runV (As := [.int x1]) (rest := []) ⟨hx, hb, hml, hown, hts⟩ (ct_Pieces_leastYOf l D a cA cZ G _ x1 u2 _ hI h) (pw_cwV 1 hts kw_582 kw_49 kw_650 kw_580 kw_581 (by decide +kernel) ⟨Nat.le_of_ble_eq_true rfl, Nat.le_of_ble_eq_true rfl⟩) ⟨pw_blind, va_recv hK hP (ci := 7) (q0 := 4) rfl cw_at_4, fun U hU hW => ⟨rfl, by rw [hU], by rw [hU]; exact hP, va_K.moved hW.alike hK⟩⟩ rfl rfl hl.1 rfl (lv_room (Nat.le_of_ble_eq_true rfl)) d_PI_piece_84 ⟨Nat.le_of_ble_eq_true rfl, Nat.le_of_ble_eq_true rfl⟩) hS hF hA (fun r10 u9 H locs hP hS h => ?_)
         exact px_mono (fun t h => px_ofMQ (fun _ _ h => h) h) (W.iret (Qc := px_Qi Q X (pw_B D (cw a cA cZ G) (cT cA cZ)) A) (v := r10) hx hb hr (fun t ht hW => ⟨Or.inl ⟨r10, u9, rfl, h, by rw [ht]; exact hP, va_K.moved hW.alike hK⟩, hS.F ht⟩) hS.2.2 d_PI_piece_87 hlocks)
       · have h := h.2 c13_3
         by_cases c13_4 : x2 = 4
         · have h := h.1 c13_4
           refine lv_tableIn (tgt := 88) (off := 75) hx hb d_PI_piece_13 (by rw [c13_4]; decide) (by rw [c13_4]; decide) (by rw [c13_4]; decide) (by decide) ?_
           refine lv_aload_n hx hb d_PI_piece_88 rfl (lv_at hl 0 rfl) ?_
           refine va_get (D := D) (ci := 0) (v := .ref (a 4)) (C := R_PI) (T := T_PI) (N := 12) hx hb hts in_PI hown hK hP 0 cw_at_0 rfl 4 (by decide) (hts _ (List.mem_cons_of_mem _ kw_316)) (fun _ h9 => h9) rfl d_PI_piece_89 ?_
           refine lv_iload_n hx hb d_PI_piece_92 rfl (lv_at hl 1 rfl) ?_
           refine cc_i (va_runV (As := [.int x1]) (rest := []) ⟨hx, hb, hml, hown, hts⟩ (ct_Pieces_columnsOf l D a cA cZ G _ x1 u2 _ hI h) (pw_cwV 1 hts kw_587 kw_49 kw_651 kw_585 kw_586 (by decide +kernel) ⟨Nat.le_of_ble_eq_true rfl, Nat.le_of_ble_eq_true rfl⟩) ⟨pw_blind, va_recv hK hP (ci := 7) (q0 := 4) rfl cw_at_4, fun U hU hW => ⟨rfl, by rw [hU], by rw [hU]; exact hP, va_K.moved hW.alike hK⟩⟩ rfl rfl hl.1 rfl (lv_room (Nat.le_of_ble_eq_true rfl)) d_PI_piece_93 ⟨Nat.le_of_ble_eq_true rfl, Nat.le_of_ble_eq_true rfl⟩) hS hF hA (fun r12 u11 H locs hP hS h => ?_)
           exact px_mono (fun t h => px_ofMQ (fun _ _ h => h) h) (W.iret (Qc := px_Qi Q X (pw_B D (cw a cA cZ G) (cT cA cZ)) A) (v := r12) hx hb hr (fun t ht hW => ⟨Or.inl ⟨r12, u11, rfl, h, by rw [ht]; exact hP, va_K.moved hW.alike hK⟩, hS.F ht⟩) hS.2.2 d_PI_piece_96 hlocks)
         · have h := h.2 c13_4
           by_cases c13_5 : x2 = 5
           · have h := h.1 c13_5
             refine lv_tableIn (tgt := 97) (off := 84) hx hb d_PI_piece_13 (by rw [c13_5]; decide) (by rw [c13_5]; decide) (by rw [c13_5]; decide) (by decide) ?_
             refine lv_aload_n hx hb d_PI_piece_97 rfl (lv_at hl 0 rfl) ?_
             refine va_get (D := D) (ci := 0) (v := .ref (a 4)) (C := R_PI) (T := T_PI) (N := 12) hx hb hts in_PI hown hK hP 0 cw_at_0 rfl 4 (by decide) (hts _ (List.mem_cons_of_mem _ kw_316)) (fun _ h9 => h9) rfl d_PI_piece_98 ?_
             refine lv_iload_n hx hb d_PI_piece_101 rfl (lv_at hl 1 rfl) ?_
             refine cc_i (va_runV (As := [.int x1]) (rest := []) ⟨hx, hb, hml, hown, hts⟩ (ct_Pieces_rowsOf l D a cA cZ G _ x1 u2 _ hI h) (pw_cwV 1 hts kw_578 kw_49 kw_652 kw_576 kw_577 (by decide +kernel) ⟨Nat.le_of_ble_eq_true rfl, Nat.le_of_ble_eq_true rfl⟩) ⟨pw_blind, va_recv hK hP (ci := 7) (q0 := 4) rfl cw_at_4, fun U hU hW => ⟨rfl, by rw [hU], by rw [hU]; exact hP, va_K.moved hW.alike hK⟩⟩ rfl rfl hl.1 rfl (lv_room (Nat.le_of_ble_eq_true rfl)) d_PI_piece_102 ⟨Nat.le_of_ble_eq_true rfl, Nat.le_of_ble_eq_true rfl⟩) hS hF hA (fun r14 u13 H locs hP hS h => ?_)
             exact px_mono (fun t h => px_ofMQ (fun _ _ h => h) h) (W.iret (Qc := px_Qi Q X (pw_B D (cw a cA cZ G) (cT cA cZ)) A) (v := r14) hx hb hr (fun t ht hW => ⟨Or.inl ⟨r14, u13, rfl, h, by rw [ht]; exact hP, va_K.moved hW.alike hK⟩, hS.F ht⟩) hS.2.2 d_PI_piece_105 hlocks)
           · have h := h.2 c13_5
             refine lv_tableOut (tgt := 106) hx hb d_PI_piece_13 (sw_out0_5 c13_0 c13_1 c13_2 c13_3 c13_4 c13_5) (by decide) ?_
             refine lv_aload_n hx hb d_PI_piece_106 rfl (lv_at hl 0 rfl) ?_
             refine va_get (D := D) (ci := 0) (v := .ref (a 4)) (C := R_PI) (T := T_PI) (N := 12) hx hb hts in_PI hown hK hP 0 cw_at_0 rfl 4 (by decide) (hts _ (List.mem_cons_of_mem _ kw_316)) (fun _ h9 => h9) rfl d_PI_piece_107 ?_
             refine lv_iload_n hx hb d_PI_piece_110 rfl (lv_at hl 1 rfl) ?_
             refine cc_i (va_runV (As := [.int x1]) (rest := []) ⟨hx, hb, hml, hown, hts⟩ (ct_Pieces_isAtEdge l D a cA cZ G _ x1 u2 _ hI h) (pw_cwV 1 hts kw_594 kw_49 kw_653 kw_592 kw_593 (by decide +kernel) ⟨Nat.le_of_ble_eq_true rfl, Nat.le_of_ble_eq_true rfl⟩) ⟨pw_blind, va_recv hK hP (ci := 7) (q0 := 4) rfl cw_at_4, fun U hU hW => ⟨rfl, by rw [hU], by rw [hU]; exact hP, va_K.moved hW.alike hK⟩⟩ rfl rfl hl.1 rfl (lv_room (Nat.le_of_ble_eq_true rfl)) d_PI_piece_111 ⟨Nat.le_of_ble_eq_true rfl, Nat.le_of_ble_eq_true rfl⟩) hS hF hA (fun r16 u15 H locs hP hS h => ?_)
             refine lv_if_eq (tgt := 121) hx hb d_PI_piece_114 (by decide) (fun c17 => ?_) (fun c17 => ?_)
             · have h := h.1 c17
               refine lv_iconst (v := 0) hx hb d_PI_piece_121 (by decide) ?_
               exact px_mono (fun t h => px_ofMQ (fun _ _ h => h) h) (W.iret (Qc := px_Qi Q X (pw_B D (cw a cA cZ G) (cT cA cZ)) A) (v := 0) hx hb hr (fun t ht hW => ⟨Or.inl ⟨0, u15, rfl, h, by rw [ht]; exact hP, va_K.moved hW.alike hK⟩, hS.F ht⟩) hS.2.2 d_PI_piece_122 hlocks)
             · have h := h.2 c17
               refine lv_iconst (v := 1) hx hb d_PI_piece_117 (by decide) ?_
               refine lv_goto (tgt := 122) hx hb d_PI_piece_118 (by decide) ?_
               exact px_mono (fun t h => px_ofMQ (fun _ _ h => h) h) (W.iret (Qc := px_Qi Q X (pw_B D (cw a cA cZ G) (cT cA cZ)) A) (v := 1) hx hb hr (fun t ht hW => ⟨Or.inl ⟨1, u15, rfl, h, by rw [ht]; exact hP, va_K.moved hW.alike hK⟩, hS.F ht⟩) hS.2.2 d_PI_piece_122 hlocks)
set_option maxHeartbeats 4000000 in
set_option maxRecDepth 100000 in
theorem ct_PI_piece (l : Launch) (D : va_G) (a : Nat → Nat) (cA cZ : ClassId) (G : pG) (sz : Nat) (x1 x2 : Int32) (u : pS) (Q : Int32 → pS → Prop) (X : Nat → pS → Prop) (hL : px_L l) (hI : pw_I 40 a) (h : wp_PI_piece G x1 x2 u Q X) : px_Met l y_PI_piece w_PI_piece ({ frames := 8, cells := 1, slots := 6, locals := 124 } : Room) (va_Pc [.ref (a 0), .int x1, .int x2] (fun U => pw_pre D (cw a cA cZ G) (cT cA cZ) sz u U ∧ cw_Ex (pw_F 40 a sz) U)) (px_Qi Q X (pw_B D (cw a cA cZ G) (cT cA cZ)) (pw_F 40 a sz)) 0 0 1 6 (pw_F 40 a sz) := by
 refine px_ofW (cc := b_PI_piece) (maxL := 3) (ret := (some .int)) (by decide) rfl ?_
 intro p e s m args below meth c s₁ B hml hE hv
 obtain ⟨rfl, ⟨hsz, hP, hK⟩, EX⟩ := hv
 subst hsz
 have hl := lv_entry ([.ref (a 0), .int x1, .int x2]) (n := 3) (Nat.le_of_ble_eq_true rfl)
 rw [lg_entry_eq]
 generalize (lg_sl ([.ref (a 0), .int x1, .int x2]) ++ List.replicate (3 - (lg_sl ([.ref (a 0), .int x1, .int x2])).length) Slot.unset).toArray = ls at hl ⊢
 exact st_PI_piece (A := (pw_F 40 a s.heap.size)) ⟨B.exec, B.bytes, B.returns, hml, findClass_of_methodNamed B.named, atoms_spec (ws := w_PI_piece) B.pre, B.notSynchronized, fun q hq => Or.inr hq⟩ ⟨hK, hI, fun k hk => Or.inl ⟨k, hk, rfl⟩⟩ EX hL (hL e B.admits) (px_none hE) x1 x2 u ls hP hl h
set_option maxHeartbeats 4000000 in
set_option maxRecDepth 100000 in
theorem cp_Arrays_fill_sides_5 {p : Program} {l : Launch} {e : Env} {s : State} {m : MethodId} {args : Array Value} {below : List Frame} {meth : Method} {c : Code} {D : va_G} {a : Nat → Nat} {cA cZ : ClassId} {G : pG} {A : Nat → Prop} {Q : pS → Prop} (C : pw_C p s m args meth c b_Arrays_fill 4 R_Arrays none w_Arrays_fill A) (K : pw_K s D 40 a (cT cA cZ) A) : ∀ (n : Nat), ∀ (x1 x2 x3 : Int32) (u : pS) (H : Heap) (locs : List Loc) (ls : Array Slot), va_P D vwCl (cw a cA cZ G u) H → va_S A s.heap H locs → lv_has ls 4 [(0, .ref (a 23)), (1, .int x1), (2, .int x2), (3, .int x3)] → lp_Arrays_fill_sides_5 G Q n x1 x2 x3 u → W p l e ({ frames := 0, cells := 0, slots := 0, locals := 0 } : Room) s m args below meth c H locs 0 0 (pw_Ev below args s D (cw a cA cZ G) (cT cA cZ) A Q) (F0 m 5 ls []) := by
 obtain ⟨hx, hb, hr, hml, hown, hts, hlocks, hA⟩ := id C
 obtain ⟨hK, hI, hF⟩ := id K
 have hD : ∀ u, va_D A (cw a cA cZ G u) := fun u => cw_D hI hF
 intro n
 induction n with
 | zero => intro x1 x2 x3 u H locs ls hP hS hl h; exact h.elim
 | succ n ih =>
   intro x1 x2 x3 u H locs ls hP hS hl h
   refine lv_iload_n hx hb d_Arrays_fill_5 rfl (lv_at hl 2 rfl) ?_
   refine lv_iload_n hx hb d_Arrays_fill_6 rfl (lv_at hl 3 rfl) ?_
   refine lv_icmp_ge (tgt := 20) hx hb d_Arrays_fill_7 (by decide) (fun c2 => ?_) (fun c2 => ?_)
   · have h := h.1 c2
     exact W.vret hx hb hr (fun t ht hW => ⟨⟨u, rfl, h, by rw [ht]; exact hP, va_K.moved hW.alike hK⟩, hS.F ht⟩) hS.2.2 d_Arrays_fill_20 hlocks
   · have h := h.2 c2
     refine lv_aload_n hx hb d_Arrays_fill_10 rfl (lv_at hl 0 rfl) ?_
     refine lv_iload_n hx hb d_Arrays_fill_11 rfl (lv_at hl 2 rfl) ?_
     refine lv_iload_n hx hb d_Arrays_fill_12 rfl (lv_at hl 1 rfl) ?_
     refine va_iast hx hb hK hP (hD _) hS 23 0 cw_at_23 rfl h.1 d_Arrays_fill_13 (fun H locs hP _ hS => ?_)
     obtain ⟨u3, eu3⟩ : ∃ z, z = pw_sa u 9 (upd (u.2 9) x2.toNatClampNeg x1) := ⟨_, rfl⟩
     rw [cw_sa_23, ← eu3] at hP
     have h := h.2 u3 eu3
     obtain ⟨t4, et4⟩ : ∃ y : Int32, y = x2 + 1 := ⟨_, rfl⟩
     have h := h t4 et4
     refine lv_iinc (v := t4) (lv' := [(2, .int t4), (0, .ref (a 23)), (1, .int x1), (3, .int x3)]) hx hb d_Arrays_fill_14 hl (k := 2) rfl (by rw [et4]; rfl) (by decide) rfl (fun ls hl => ?_)
     refine lv_goto (tgt := 5) hx hb d_Arrays_fill_17 (by decide) ?_
     exact ih x1 t4 x3 u3 _ _ _ hP hS (lv_sub hl [1, 2, 0, 3] rfl) h
set_option maxHeartbeats 4000000 in
set_option maxRecDepth 100000 in
theorem st_Arrays_fill_sides {p : Program} {l : Launch} {e : Env} {s : State} {m : MethodId} {args : Array Value} {below : List Frame} {meth : Method} {c : Code} {D : va_G} {a : Nat → Nat} {cA cZ : ClassId} {G : pG} {A : Nat → Prop} {Q : pS → Prop} (C : pw_C p s m args meth c b_Arrays_fill 4 R_Arrays none w_Arrays_fill A) (K : pw_K s D 40 a (cT cA cZ) A) (x1 : Int32) (u : pS) (ls : Array Slot) (hP : va_P D vwCl (cw a cA cZ G u) s.heap) (hl : lv_has ls 4 [(0, .ref (a 23)), (1, .int x1)]) (h : wp_Arrays_fill_sides G x1 u Q) : W p l e ({ frames := 0, cells := 0, slots := 0, locals := 0 } : Room) s m args below meth c s.heap [] 0 0 (pw_Ev below args s D (cw a cA cZ G) (cT cA cZ) A Q) (F0 m 0 ls []) := by
 obtain ⟨hx, hb, hr, hml, hown, hts, hlocks, hA⟩ := id C
 obtain ⟨hK, hI, hF⟩ := id K
 have hD : ∀ u, va_D A (cw a cA cZ G u) := fun u => cw_D hI hF
 have hS : va_S A s.heap s.heap [] := va_S.rf
 have h : wp_Arrays_fill_sides G x1 u Q := h
 refine lv_iconst (v := 0) hx hb d_Arrays_fill_0 (by decide) ?_
 refine lv_istore_n (lv' := [(2, .int 0), (0, .ref (a 23)), (1, .int x1)]) hx hb d_Arrays_fill_1 rfl hl (by decide) rfl (fun ls hl => ?_)
 refine lv_aload_n hx hb d_Arrays_fill_2 rfl (lv_at hl 1 rfl) ?_
 refine va_alen (v := nI (G.1 23)) hx hb hK hP 23 0 cw_at_23 rfl rfl d_Arrays_fill_3 ?_
 refine lv_topi (fun t1 et1 => ?_)
 have h := h t1 et1
 refine lv_istore_n (lv' := [(3, .int t1), (2, .int 0), (0, .ref (a 23)), (1, .int x1)]) hx hb d_Arrays_fill_4 rfl hl (by decide) rfl (fun ls hl => ?_)
 obtain ⟨n1, h⟩ := h
 exact cp_Arrays_fill_sides_5 C K n1 x1 0 t1 u _ _ _ hP hS (lv_sub hl [2, 3, 1, 0] rfl) h
set_option maxHeartbeats 4000000 in
set_option maxRecDepth 100000 in
theorem ct_Arrays_fill_sides (l : Launch) (D : va_G) (a : Nat → Nat) (cA cZ : ClassId) (G : pG) (sz : Nat) (x1 : Int32) (u : pS) (Q : pS → Prop) (hI : pw_I 40 a) (h : wp_Arrays_fill_sides G x1 u Q) : Met l y_Arrays_fill w_Arrays_fill ({ frames := 0, cells := 0, slots := 0, locals := 0 } : Room) (va_Pc [.ref (a 23), .int x1] (pw_pre D (cw a cA cZ G) (cT cA cZ) sz u)) (va_Qv (fun (u : pS) => Q u) (pw_B D (cw a cA cZ G) (cT cA cZ)) (pw_F 40 a sz)) 0 0 (pw_F 40 a sz) := by
 refine Met.ofW (cc := b_Arrays_fill) (maxL := 4) (ret := none) (by decide) rfl ?_
 intro p e s m args below meth c s₁ B hml hv
 obtain ⟨rfl, hsz, hP, hK⟩ := hv
 subst hsz
 have hl := lv_entry ([.ref (a 23), .int x1]) (n := 4) (Nat.le_of_ble_eq_true rfl)
 rw [lg_entry_eq]
 generalize (lg_sl ([.ref (a 23), .int x1]) ++ List.replicate (4 - (lg_sl ([.ref (a 23), .int x1])).length) Slot.unset).toArray = ls at hl ⊢
 exact st_Arrays_fill_sides (A := (pw_F 40 a s.heap.size)) ⟨B.exec, B.bytes, B.returns, hml, findClass_of_methodNamed B.named, atoms_spec (ws := w_Arrays_fill) B.pre, B.notSynchronized, fun q hq => Or.inr hq⟩ ⟨hK, hI, fun k hk => Or.inl ⟨k, hk, rfl⟩⟩ x1 u ls hP hl h
set_option maxHeartbeats 4000000 in
set_option maxRecDepth 100000 in
theorem st_Grid_besideOf {p : Program} {l : Launch} {e : Env} {s : State} {m : MethodId} {args : Array Value} {below : List Frame} {meth : Method} {c : Code} {D : va_G} {a : Nat → Nat} {cA cZ : ClassId} {G : pG} {A : Nat → Prop} {Q : Int32 → pS → Prop} (C : pw_C p s m args meth c b_Grid_besideOf 3 R_Grid (some .int) w_Grid_besideOf A) (K : pw_K s D 40 a (cT cA cZ) A) (x1 x2 : Int32) (u : pS) (ls : Array Slot) (hP : va_P D vwCl (cw a cA cZ G u) s.heap) (hl : lv_has ls 3 [(0, .ref (a 1)), (1, .int x1), (2, .int x2)]) (h : wp_Grid_besideOf G x1 x2 u Q) : W p l e ({ frames := 0, cells := 0, slots := 0, locals := 0 } : Room) s m args below meth c s.heap [] 0 0 (pw_Ei below args s D (cw a cA cZ G) (cT cA cZ) A Q) (F0 m 0 ls []) := by
 obtain ⟨hx, hb, hr, hml, hown, hts, hlocks, hA⟩ := id C
 obtain ⟨hK, hI, hF⟩ := id K
 have hD : ∀ u, va_D A (cw a cA cZ G u) := fun u => cw_D hI hF
 have hS : va_S A s.heap s.heap [] := va_S.rf
 have h : wp_Grid_besideOf G x1 x2 u Q := h
 refine lv_aload_n hx hb d_Grid_besideOf_0 rfl (lv_at hl 0 rfl) ?_
 refine va_get (D := D) (ci := 4) (v := .ref (a 13)) (C := R_Grid) (T := T_Grid) (N := 6) hx hb hts in_Grid hown hK hP 1 cw_at_1 rfl 5 (by decide) (hts _ (List.mem_cons_of_mem _ kw_114)) (fun _ h9 => h9) rfl d_Grid_besideOf_1 ?_
 refine lv_iload_n hx hb d_Grid_besideOf_4 rfl (lv_at hl 1 rfl) ?_
 refine lv_iconst (v := 4) hx hb d_Grid_besideOf_5 (by decide) ?_
 refine lv_imul hx hb d_Grid_besideOf_6 ?_
 refine lv_iload_n hx hb d_Grid_besideOf_7 rfl (lv_at hl 2 rfl) ?_
 refine lv_iadd hx hb d_Grid_besideOf_8 ?_
 refine va_iald hx hb hK hP 13 0 cw_at_13 rfl h.1 d_Grid_besideOf_9 ?_
 have h := h.2
 exact W.iret (v := (G.2.2 2 ((x1 * 4) + x2).toNatClampNeg)) hx hb hr (fun t ht hW => ⟨⟨(G.2.2 2 ((x1 * 4) + x2).toNatClampNeg), u, rfl, h, by rw [ht]; exact hP, va_K.moved hW.alike hK⟩, hS.F ht⟩) hS.2.2 d_Grid_besideOf_10 hlocks
set_option maxHeartbeats 4000000 in
set_option maxRecDepth 100000 in
theorem ct_Grid_besideOf (l : Launch) (D : va_G) (a : Nat → Nat) (cA cZ : ClassId) (G : pG) (sz : Nat) (x1 x2 : Int32) (u : pS) (Q : Int32 → pS → Prop) (hI : pw_I 40 a) (h : wp_Grid_besideOf G x1 x2 u Q) : Met l y_Grid_besideOf w_Grid_besideOf ({ frames := 0, cells := 0, slots := 0, locals := 0 } : Room) (va_Pc [.ref (a 1), .int x1, .int x2] (pw_pre D (cw a cA cZ G) (cT cA cZ) sz u)) (va_Qi (fun (r : Int32) (u : pS) => Q r u) (pw_B D (cw a cA cZ G) (cT cA cZ)) (pw_F 40 a sz)) 0 0 (pw_F 40 a sz) := by
 refine Met.ofW (cc := b_Grid_besideOf) (maxL := 3) (ret := (some .int)) (by decide) rfl ?_
 intro p e s m args below meth c s₁ B hml hv
 obtain ⟨rfl, hsz, hP, hK⟩ := hv
 subst hsz
 have hl := lv_entry ([.ref (a 1), .int x1, .int x2]) (n := 3) (Nat.le_of_ble_eq_true rfl)
 rw [lg_entry_eq]
 generalize (lg_sl ([.ref (a 1), .int x1, .int x2]) ++ List.replicate (3 - (lg_sl ([.ref (a 1), .int x1, .int x2])).length) Slot.unset).toArray = ls at hl ⊢
 exact st_Grid_besideOf (A := (pw_F 40 a s.heap.size)) ⟨B.exec, B.bytes, B.returns, hml, findClass_of_methodNamed B.named, atoms_spec (ws := w_Grid_besideOf) B.pre, B.notSynchronized, fun q hq => Or.inr hq⟩ ⟨hK, hI, fun k hk => Or.inl ⟨k, hk, rfl⟩⟩ x1 x2 u ls hP hl h
set_option maxHeartbeats 4000000 in
set_option maxRecDepth 100000 in
theorem cp_Pieces_countSidesAt_2 {p : Program} {l : Launch} {e : Env} {s : State} {m : MethodId} {args : Array Value} {below : List Frame} {meth : Method} {c : Code} {D : va_G} {a : Nat → Nat} {cA cZ : ClassId} {G : pG} {A : Nat → Prop} {Q : pS → Prop} (C : pw_C p s m args meth c b_Pieces_countSidesAt 4 R_Pieces none w_Pieces_countSidesAt A) (K : pw_K s D 40 a (cT cA cZ) A) : ∀ (n : Nat), ∀ (x1 x2 : Int32) (u : pS) (H : Heap) (locs : List Loc) (ls : Array Slot), va_P D vwCl (cw a cA cZ G u) H → va_S A s.heap H locs → lv_has ls 4 [(0, .ref (a 4)), (1, .int x1), (2, .int x2)] → lp_Pieces_countSidesAt_2 G Q n x1 x2 u → W p l e ({ frames := 1, cells := 0, slots := 0, locals := 22 } : Room) s m args below meth c H locs 0 0 (pw_Ev below args s D (cw a cA cZ G) (cT cA cZ) A Q) (F0 m 2 ls []) := by
 obtain ⟨hx, hb, hr, hml, hown, hts, hlocks, hA⟩ := id C
 obtain ⟨hK, hI, hF⟩ := id K
 have hD : ∀ u, va_D A (cw a cA cZ G u) := fun u => cw_D hI hF
 intro n
 induction n with
 | zero => intro x1 x2 u H locs ls hP hS hl h; exact h.elim
 | succ n ih =>
   intro x1 x2 u H locs ls hP hS hl h
   refine lv_iload_n hx hb d_Pieces_countSidesAt_2 rfl (lv_at hl 2 rfl) ?_
   refine lv_iconst (v := 4) hx hb d_Pieces_countSidesAt_3 (by decide) ?_
   refine lv_icmp_ge (tgt := 58) hx hb d_Pieces_countSidesAt_4 (by decide) (fun c1 => ?_) (fun c1 => ?_)
   · have h := h.1 c1
     exact W.vret hx hb hr (fun t ht hW => ⟨⟨u, rfl, h, by rw [ht]; exact hP, va_K.moved hW.alike hK⟩, hS.F ht⟩) hS.2.2 d_Pieces_countSidesAt_58 hlocks
   · have h := h.2 c1
     refine lv_aload_n hx hb d_Pieces_countSidesAt_7 rfl (lv_at hl 0 rfl) ?_
     refine va_get (D := D) (ci := 7) (v := .ref (a 1)) (C := R_Pieces) (T := T_Pieces) (N := 11) hx hb hts in_Pieces hown hK hP 4 cw_at_4 rfl 0 (by decide) (hts _ (List.mem_cons_of_mem _ kw_151)) (fun _ h9 => h9) rfl d_Pieces_countSidesAt_8 ?_
     refine lv_iload_n hx hb d_Pieces_countSidesAt_11 rfl (lv_at hl 1 rfl) ?_
     refine lv_iload_n hx hb d_Pieces_countSidesAt_12 rfl (lv_at hl 2 rfl) ?_
     refine cc_i (va_runV (As := [.int x1, .int x2]) (rest := []) ⟨hx, hb, hml, hown, hts⟩ (ct_Grid_besideOf l D a cA cZ G _ x1 x2 u _ hI h) (pw_cwV 2 hts kw_527 kw_46 kw_524 kw_525 kw_526 (by decide +kernel) ⟨Nat.le_of_ble_eq_true rfl, Nat.le_of_ble_eq_true rfl⟩) ⟨pw_blind, va_recv hK hP (ci := 4) (q0 := 1) rfl cw_at_1, fun U hU hW => ⟨rfl, by rw [hU], by rw [hU]; exact hP, va_K.moved hW.alike hK⟩⟩ rfl rfl hl.1 rfl (lv_room (Nat.le_of_ble_eq_true rfl)) d_Pieces_countSidesAt_13 ⟨Nat.le_of_ble_eq_true rfl, Nat.le_of_ble_eq_true rfl⟩) hS hF hA (fun r3 u2 H locs hP hS h => ?_)
     refine lv_istore_n (lv' := [(3, .int r3), (0, .ref (a 4)), (1, .int x1), (2, .int x2)]) hx hb d_Pieces_countSidesAt_16 rfl hl (by decide) rfl (fun ls hl => ?_)
     refine lv_iload_n hx hb d_Pieces_countSidesAt_17 rfl (lv_at hl 0 rfl) ?_
     refine lv_iconst (v := -1) hx hb d_Pieces_countSidesAt_18 (by decide) ?_
     refine lv_icmp_eq (tgt := 52) hx hb d_Pieces_countSidesAt_19 (by decide) (fun c4 => ?_) (fun c4 => ?_)
     · have h := h.1 c4
       obtain ⟨t5, et5⟩ : ∃ y : Int32, y = x2 + 1 := ⟨_, rfl⟩
       have h := h t5 et5
       refine lv_iinc (v := t5) (lv' := [(2, .int t5), (3, .int r3), (0, .ref (a 4)), (1, .int x1)]) hx hb d_Pieces_countSidesAt_52 hl (k := 3) rfl (by rw [et5]; rfl) (by decide) rfl (fun ls hl => ?_)
       refine lv_goto (tgt := 2) hx hb d_Pieces_countSidesAt_55 (by decide) ?_
       exact ih x1 t5 u2 _ _ _ hP hS (lv_sub hl [2, 3, 0] rfl) h
     · have h := h.2 c4
       refine lv_aload_n hx hb d_Pieces_countSidesAt_22 rfl (lv_at hl 1 rfl) ?_
       refine va_get (D := D) (ci := 7) (v := .ref (a 21)) (C := R_Pieces) (T := T_Pieces) (N := 11) hx hb hts in_Pieces hown hK hP 4 cw_at_4 rfl 2 (by decide) (hts _ (List.mem_cons_of_mem _ kw_153)) (fun _ h9 => h9) rfl d_Pieces_countSidesAt_23 ?_
       refine lv_iload_n hx hb d_Pieces_countSidesAt_26 rfl (lv_at hl 0 rfl) ?_
       refine va_iald hx hb hK hP 21 0 cw_at_21 rfl h.1 d_Pieces_countSidesAt_27 ?_
       have h := h.2
       refine lv_aload_n hx hb d_Pieces_countSidesAt_28 rfl (lv_at hl 1 rfl) ?_
       refine va_get (D := D) (ci := 7) (v := .ref (a 21)) (C := R_Pieces) (T := T_Pieces) (N := 11) hx hb hts in_Pieces hown hK hP 4 cw_at_4 rfl 2 (by decide) (hts _ (List.mem_cons_of_mem _ kw_153)) (fun _ h9 => h9) rfl d_Pieces_countSidesAt_29 ?_
       refine lv_iload_n hx hb d_Pieces_countSidesAt_32 rfl (lv_at hl 2 rfl) ?_
       refine va_iald hx hb hK hP 21 0 cw_at_21 rfl h.1 d_Pieces_countSidesAt_33 ?_
       have h := h.2
       refine lv_icmp_eq (tgt := 52) hx hb d_Pieces_countSidesAt_34 (by decide) (fun c6 => ?_) (fun c6 => ?_)
       · have h := h.1 c6
         obtain ⟨t7, et7⟩ : ∃ y : Int32, y = x2 + 1 := ⟨_, rfl⟩
         have h := h t7 et7
         refine lv_iinc (v := t7) (lv' := [(2, .int t7), (3, .int r3), (0, .ref (a 4)), (1, .int x1)]) hx hb d_Pieces_countSidesAt_52 hl (k := 3) rfl (by rw [et7]; rfl) (by decide) rfl (fun ls hl => ?_)
         refine lv_goto (tgt := 2) hx hb d_Pieces_countSidesAt_55 (by decide) ?_
         exact ih x1 t7 u2 _ _ _ hP hS (lv_sub hl [2, 3, 0] rfl) h
       · have h := h.2 c6
         refine lv_aload_n hx hb d_Pieces_countSidesAt_37 rfl (lv_at hl 1 rfl) ?_
         refine va_get (D := D) (ci := 7) (v := .ref (a 23)) (C := R_Pieces) (T := T_Pieces) (N := 11) hx hb hts in_Pieces hown hK hP 4 cw_at_4 rfl 4 (by decide) (hts _ (List.mem_cons_of_mem _ kw_155)) (fun _ h9 => h9) rfl d_Pieces_countSidesAt_38 ?_
         refine lv_aload_n hx hb d_Pieces_countSidesAt_41 rfl (lv_at hl 1 rfl) ?_
         refine va_get (D := D) (ci := 7) (v := .ref (a 21)) (C := R_Pieces) (T := T_Pieces) (N := 11) hx hb hts in_Pieces hown hK hP 4 cw_at_4 rfl 2 (by decide) (hts _ (List.mem_cons_of_mem _ kw_153)) (fun _ h9 => h9) rfl d_Pieces_countSidesAt_42 ?_
         refine lv_iload_n hx hb d_Pieces_countSidesAt_45 rfl (lv_at hl 0 rfl) ?_
         refine va_iald hx hb hK hP 21 0 cw_at_21 rfl h.1 d_Pieces_countSidesAt_46 ?_
         have h := h.2
         refine lv_dup2_11 hx hb d_Pieces_countSidesAt_47 rfl rfl ?_
         refine va_iald hx hb hK hP 23 0 cw_at_23 rfl h.1 d_Pieces_countSidesAt_48 ?_
         have h := h.2
         refine lv_iconst (v := 1) hx hb d_Pieces_countSidesAt_49 (by decide) ?_
         refine lv_iadd hx hb d_Pieces_countSidesAt_50 ?_
         refine va_iast hx hb hK hP (hD _) hS 23 0 cw_at_23 rfl h.1 d_Pieces_countSidesAt_51 (fun H locs hP _ hS => ?_)
         obtain ⟨u8, eu8⟩ : ∃ z, z = pw_sa u2 9 (upd (u2.2 9) (u2.2 7 r3.toNatClampNeg).toNatClampNeg ((u2.2 9 (u2.2 7 r3.toNatClampNeg).toNatClampNeg) + 1)) := ⟨_, rfl⟩
         rw [cw_sa_23, ← eu8] at hP
         have h := h.2 u8 eu8
         obtain ⟨t9, et9⟩ : ∃ y : Int32, y = x2 + 1 := ⟨_, rfl⟩
         have h := h t9 et9
         refine lv_iinc (v := t9) (lv' := [(2, .int t9), (3, .int r3), (0, .ref (a 4)), (1, .int x1)]) hx hb d_Pieces_countSidesAt_52 hl (k := 3) rfl (by rw [et9]; rfl) (by decide) rfl (fun ls hl => ?_)
         refine lv_goto (tgt := 2) hx hb d_Pieces_countSidesAt_55 (by decide) ?_
         exact ih x1 t9 u8 _ _ _ hP hS (lv_sub hl [2, 3, 0] rfl) h
set_option maxHeartbeats 4000000 in
set_option maxRecDepth 100000 in
theorem st_Pieces_countSidesAt {p : Program} {l : Launch} {e : Env} {s : State} {m : MethodId} {args : Array Value} {below : List Frame} {meth : Method} {c : Code} {D : va_G} {a : Nat → Nat} {cA cZ : ClassId} {G : pG} {A : Nat → Prop} {Q : pS → Prop} (C : pw_C p s m args meth c b_Pieces_countSidesAt 4 R_Pieces none w_Pieces_countSidesAt A) (K : pw_K s D 40 a (cT cA cZ) A) (x1 : Int32) (u : pS) (ls : Array Slot) (hP : va_P D vwCl (cw a cA cZ G u) s.heap) (hl : lv_has ls 4 [(0, .ref (a 4)), (1, .int x1)]) (h : wp_Pieces_countSidesAt G x1 u Q) : W p l e ({ frames := 1, cells := 0, slots := 0, locals := 22 } : Room) s m args below meth c s.heap [] 0 0 (pw_Ev below args s D (cw a cA cZ G) (cT cA cZ) A Q) (F0 m 0 ls []) := by
 obtain ⟨hx, hb, hr, hml, hown, hts, hlocks, hA⟩ := id C
 obtain ⟨hK, hI, hF⟩ := id K
 have hD : ∀ u, va_D A (cw a cA cZ G u) := fun u => cw_D hI hF
 have hS : va_S A s.heap s.heap [] := va_S.rf
 have h : wp_Pieces_countSidesAt G x1 u Q := h
 refine lv_iconst (v := 0) hx hb d_Pieces_countSidesAt_0 (by decide) ?_
 refine lv_istore_n (lv' := [(2, .int 0), (0, .ref (a 4)), (1, .int x1)]) hx hb d_Pieces_countSidesAt_1 rfl hl (by decide) rfl (fun ls hl => ?_)
 obtain ⟨n1, h⟩ := h
 exact cp_Pieces_countSidesAt_2 C K n1 x1 0 u _ _ _ hP hS (lv_sub hl [1, 2, 0] rfl) h
set_option maxHeartbeats 4000000 in
set_option maxRecDepth 100000 in
theorem ct_Pieces_countSidesAt (l : Launch) (D : va_G) (a : Nat → Nat) (cA cZ : ClassId) (G : pG) (sz : Nat) (x1 : Int32) (u : pS) (Q : pS → Prop) (hI : pw_I 40 a) (h : wp_Pieces_countSidesAt G x1 u Q) : Met l y_Pieces_countSidesAt w_Pieces_countSidesAt ({ frames := 1, cells := 0, slots := 0, locals := 22 } : Room) (va_Pc [.ref (a 4), .int x1] (pw_pre D (cw a cA cZ G) (cT cA cZ) sz u)) (va_Qv (fun (u : pS) => Q u) (pw_B D (cw a cA cZ G) (cT cA cZ)) (pw_F 40 a sz)) 0 0 (pw_F 40 a sz) := by
 refine Met.ofW (cc := b_Pieces_countSidesAt) (maxL := 4) (ret := none) (by decide) rfl ?_
 intro p e s m args below meth c s₁ B hml hv
 obtain ⟨rfl, hsz, hP, hK⟩ := hv
 subst hsz
 have hl := lv_entry ([.ref (a 4), .int x1]) (n := 4) (Nat.le_of_ble_eq_true rfl)
 rw [lg_entry_eq]
 generalize (lg_sl ([.ref (a 4), .int x1]) ++ List.replicate (4 - (lg_sl ([.ref (a 4), .int x1])).length) Slot.unset).toArray = ls at hl ⊢
 exact st_Pieces_countSidesAt (A := (pw_F 40 a s.heap.size)) ⟨B.exec, B.bytes, B.returns, hml, findClass_of_methodNamed B.named, atoms_spec (ws := w_Pieces_countSidesAt) B.pre, B.notSynchronized, fun q hq => Or.inr hq⟩ ⟨hK, hI, fun k hk => Or.inl ⟨k, hk, rfl⟩⟩ x1 u ls hP hl h
set_option maxHeartbeats 4000000 in
set_option maxRecDepth 100000 in
theorem cp_Pieces_countSidesOf_10 {p : Program} {l : Launch} {e : Env} {s : State} {m : MethodId} {args : Array Value} {below : List Frame} {meth : Method} {c : Code} {D : va_G} {a : Nat → Nat} {cA cZ : ClassId} {G : pG} {A : Nat → Prop} {Q : pS → Prop} (C : pw_C p s m args meth c b_Pieces_countSidesOf 3 R_Pieces none w_Pieces_countSidesOf A) (K : pw_K s D 40 a (cT cA cZ) A) : ∀ (n : Nat), ∀ (x1 x2 : Int32) (u : pS) (H : Heap) (locs : List Loc) (ls : Array Slot), va_P D vwCl (cw a cA cZ G u) H → va_S A s.heap H locs → lv_has ls 3 [(0, .ref (a 4)), (1, .int x1), (2, .int x2)] → lp_Pieces_countSidesOf_10 G Q n x1 x2 u → W p l e ({ frames := 2, cells := 0, slots := 0, locals := 45 } : Room) s m args below meth c H locs 0 0 (pw_Ev below args s D (cw a cA cZ G) (cT cA cZ) A Q) (F0 m 10 ls []) := by
 obtain ⟨hx, hb, hr, hml, hown, hts, hlocks, hA⟩ := id C
 obtain ⟨hK, hI, hF⟩ := id K
 have hD : ∀ u, va_D A (cw a cA cZ G u) := fun u => cw_D hI hF
 intro n
 induction n with
 | zero => intro x1 x2 u H locs ls hP hS hl h; exact h.elim
 | succ n ih =>
   intro x1 x2 u H locs ls hP hS hl h
   refine lv_iload_n hx hb d_Pieces_countSidesOf_10 rfl (lv_at hl 2 rfl) ?_
   refine lv_aload_n hx hb d_Pieces_countSidesOf_11 rfl (lv_at hl 0 rfl) ?_
   refine va_get (D := D) (ci := 7) (v := .ref (a 1)) (C := R_Pieces) (T := T_Pieces) (N := 11) hx hb hts in_Pieces hown hK hP 4 cw_at_4 rfl 0 (by decide) (hts _ (List.mem_cons_of_mem _ kw_151)) (fun _ h9 => h9) rfl d_Pieces_countSidesOf_12 ?_
   refine va_get (D := D) (ci := 4) (v := .int (G.2.1 3)) (C := R_Grid) (T := T_Grid) (N := 6) hx hb hts in_Grid hown hK hP 1 cw_at_1 rfl 2 (by decide) (hts _ (List.mem_cons_of_mem _ kw_107)) (fun _ h9 => h9) rfl d_Pieces_countSidesOf_15 ?_
   refine lv_icmp_ge (tgt := 42) hx hb d_Pieces_countSidesOf_18 (by decide) (fun c2 => ?_) (fun c2 => ?_)
   · have h := h.1 c2
     exact W.vret hx hb hr (fun t ht hW => ⟨⟨u, rfl, h, by rw [ht]; exact hP, va_K.moved hW.alike hK⟩, hS.F ht⟩) hS.2.2 d_Pieces_countSidesOf_42 hlocks
   · have h := h.2 c2
     refine lv_aload_n hx hb d_Pieces_countSidesOf_21 rfl (lv_at hl 0 rfl) ?_
     refine va_get (D := D) (ci := 7) (v := .ref (a 21)) (C := R_Pieces) (T := T_Pieces) (N := 11) hx hb hts in_Pieces hown hK hP 4 cw_at_4 rfl 2 (by decide) (hts _ (List.mem_cons_of_mem _ kw_153)) (fun _ h9 => h9) rfl d_Pieces_countSidesOf_22 ?_
     refine lv_iload_n hx hb d_Pieces_countSidesOf_25 rfl (lv_at hl 2 rfl) ?_
     refine va_iald hx hb hK hP 21 0 cw_at_21 rfl h.1 d_Pieces_countSidesOf_26 ?_
     have h := h.2
     refine lv_iload_n hx hb d_Pieces_countSidesOf_27 rfl (lv_at hl 1 rfl) ?_
     refine lv_icmp_ne (tgt := 36) hx hb d_Pieces_countSidesOf_28 (by decide) (fun c3 => ?_) (fun c3 => ?_)
     · have h := h.2 c3
       obtain ⟨t4, et4⟩ : ∃ y : Int32, y = x2 + 1 := ⟨_, rfl⟩
       have h := h t4 et4
       refine lv_iinc (v := t4) (lv' := [(2, .int t4), (0, .ref (a 4)), (1, .int x1)]) hx hb d_Pieces_countSidesOf_36 hl (k := 2) rfl (by rw [et4]; rfl) (by decide) rfl (fun ls hl => ?_)
       refine lv_goto (tgt := 10) hx hb d_Pieces_countSidesOf_39 (by decide) ?_
       exact ih x1 t4 u _ _ _ hP hS (lv_sub hl [1, 2, 0] rfl) h
     · have h := h.1 c3
       refine lv_aload_n hx hb d_Pieces_countSidesOf_31 rfl (lv_at hl 0 rfl) ?_
       refine lv_iload_n hx hb d_Pieces_countSidesOf_32 rfl (lv_at hl 2 rfl) ?_
       refine cc_v (va_runV (As := [.int x2]) (rest := []) ⟨hx, hb, hml, hown, hts⟩ (ct_Pieces_countSidesAt l D a cA cZ G _ x2 u _ hI h) (pw_cwV 1 hts kw_547 kw_49 kw_544 kw_546 kw_11 (by decide +kernel) ⟨Nat.le_of_ble_eq_true rfl, Nat.le_of_ble_eq_true rfl⟩) ⟨pw_blind, va_recv hK hP (ci := 7) (q0 := 4) rfl cw_at_4, fun U hU hW => ⟨rfl, by rw [hU], by rw [hU]; exact hP, va_K.moved hW.alike hK⟩⟩ rfl rfl hl.1 rfl (lv_room (Nat.le_of_ble_eq_true rfl)) d_Pieces_countSidesOf_33 ⟨Nat.le_of_ble_eq_true rfl, Nat.le_of_ble_eq_true rfl⟩) hS hF hA (fun u5 H locs hP hS h => ?_)
       obtain ⟨t6, et6⟩ : ∃ y : Int32, y = x2 + 1 := ⟨_, rfl⟩
       have h := h t6 et6
       refine lv_iinc (v := t6) (lv' := [(2, .int t6), (0, .ref (a 4)), (1, .int x1)]) hx hb d_Pieces_countSidesOf_36 hl (k := 2) rfl (by rw [et6]; rfl) (by decide) rfl (fun ls hl => ?_)
       refine lv_goto (tgt := 10) hx hb d_Pieces_countSidesOf_39 (by decide) ?_
       exact ih x1 t6 u5 _ _ _ hP hS (lv_sub hl [1, 2, 0] rfl) h
set_option maxHeartbeats 4000000 in
set_option maxRecDepth 100000 in
theorem st_Pieces_countSidesOf {p : Program} {l : Launch} {e : Env} {s : State} {m : MethodId} {args : Array Value} {below : List Frame} {meth : Method} {c : Code} {D : va_G} {a : Nat → Nat} {cA cZ : ClassId} {G : pG} {A : Nat → Prop} {Q : pS → Prop} (C : pw_C p s m args meth c b_Pieces_countSidesOf 3 R_Pieces none w_Pieces_countSidesOf A) (K : pw_K s D 40 a (cT cA cZ) A) (x1 : Int32) (u : pS) (ls : Array Slot) (hP : va_P D vwCl (cw a cA cZ G u) s.heap) (hl : lv_has ls 3 [(0, .ref (a 4)), (1, .int x1)]) (h : wp_Pieces_countSidesOf G x1 u Q) : W p l e ({ frames := 2, cells := 0, slots := 0, locals := 45 } : Room) s m args below meth c s.heap [] 0 0 (pw_Ev below args s D (cw a cA cZ G) (cT cA cZ) A Q) (F0 m 0 ls []) := by
 obtain ⟨hx, hb, hr, hml, hown, hts, hlocks, hA⟩ := id C
 obtain ⟨hK, hI, hF⟩ := id K
 have hD : ∀ u, va_D A (cw a cA cZ G u) := fun u => cw_D hI hF
 have hS : va_S A s.heap s.heap [] := va_S.rf
 have h : wp_Pieces_countSidesOf G x1 u Q := h
 refine lv_aload_n hx hb d_Pieces_countSidesOf_0 rfl (lv_at hl 0 rfl) ?_
 refine va_get (D := D) (ci := 7) (v := .ref (a 23)) (C := R_Pieces) (T := T_Pieces) (N := 11) hx hb hts in_Pieces hown hK hP 4 cw_at_4 rfl 4 (by decide) (hts _ (List.mem_cons_of_mem _ kw_155)) (fun _ h9 => h9) rfl d_Pieces_countSidesOf_1 ?_
 refine lv_iconst (v := 0) hx hb d_Pieces_countSidesOf_4 (by decide) ?_
 refine cc_v (va_runS (As := [.ref (a 23), .int 0]) (rest := []) ⟨hx, hb, hml, hown, hts⟩ (ct_Arrays_fill_sides l D a cA cZ G _ 0 u _ hI h) (pw_cwS 2 hts kw_501 kw_63 kw_499 kw_500 (by decide +kernel) ⟨Nat.le_of_ble_eq_true rfl, Nat.le_of_ble_eq_true rfl⟩) ⟨pw_blind, fun U hU hW => ⟨rfl, by rw [hU], by rw [hU]; exact hP, va_K.moved hW.alike hK⟩⟩ rfl rfl hl.1 rfl (lv_room (Nat.le_of_ble_eq_true rfl)) d_Pieces_countSidesOf_5 ⟨Nat.le_of_ble_eq_true rfl, Nat.le_of_ble_eq_true rfl⟩) hS hF hA (fun u1 H locs hP hS h => ?_)
 refine lv_iconst (v := 0) hx hb d_Pieces_countSidesOf_8 (by decide) ?_
 refine lv_istore_n (lv' := [(2, .int 0), (0, .ref (a 4)), (1, .int x1)]) hx hb d_Pieces_countSidesOf_9 rfl hl (by decide) rfl (fun ls hl => ?_)
 obtain ⟨n1, h⟩ := h
 exact cp_Pieces_countSidesOf_10 C K n1 x1 0 u1 _ _ _ hP hS (lv_sub hl [1, 2, 0] rfl) h
set_option maxHeartbeats 4000000 in
set_option maxRecDepth 100000 in
theorem ct_Pieces_countSidesOf (l : Launch) (D : va_G) (a : Nat → Nat) (cA cZ : ClassId) (G : pG) (sz : Nat) (x1 : Int32) (u : pS) (Q : pS → Prop) (hI : pw_I 40 a) (h : wp_Pieces_countSidesOf G x1 u Q) : Met l y_Pieces_countSidesOf w_Pieces_countSidesOf ({ frames := 2, cells := 0, slots := 0, locals := 45 } : Room) (va_Pc [.ref (a 4), .int x1] (pw_pre D (cw a cA cZ G) (cT cA cZ) sz u)) (va_Qv (fun (u : pS) => Q u) (pw_B D (cw a cA cZ G) (cT cA cZ)) (pw_F 40 a sz)) 0 0 (pw_F 40 a sz) := by
 refine Met.ofW (cc := b_Pieces_countSidesOf) (maxL := 3) (ret := none) (by decide) rfl ?_
 intro p e s m args below meth c s₁ B hml hv
 obtain ⟨rfl, hsz, hP, hK⟩ := hv
 subst hsz
 have hl := lv_entry ([.ref (a 4), .int x1]) (n := 3) (Nat.le_of_ble_eq_true rfl)
 rw [lg_entry_eq]
 generalize (lg_sl ([.ref (a 4), .int x1]) ++ List.replicate (3 - (lg_sl ([.ref (a 4), .int x1])).length) Slot.unset).toArray = ls at hl ⊢
 exact st_Pieces_countSidesOf (A := (pw_F 40 a s.heap.size)) ⟨B.exec, B.bytes, B.returns, hml, findClass_of_methodNamed B.named, atoms_spec (ws := w_Pieces_countSidesOf) B.pre, B.notSynchronized, fun q hq => Or.inr hq⟩ ⟨hK, hI, fun k hk => Or.inl ⟨k, hk, rfl⟩⟩ x1 u ls hP hl h
set_option maxHeartbeats 4000000 in
set_option maxRecDepth 100000 in
theorem st_Pieces_sidesBetween {p : Program} {l : Launch} {e : Env} {s : State} {m : MethodId} {args : Array Value} {below : List Frame} {meth : Method} {c : Code} {D : va_G} {a : Nat → Nat} {cA cZ : ClassId} {G : pG} {A : Nat → Prop} {Q : Int32 → pS → Prop} (C : pw_C p s m args meth c b_Pieces_sidesBetween 3 R_Pieces (some .int) w_Pieces_sidesBetween A) (K : pw_K s D 40 a (cT cA cZ) A) (x1 x2 : Int32) (u : pS) (ls : Array Slot) (hP : va_P D vwCl (cw a cA cZ G u) s.heap) (hl : lv_has ls 3 [(0, .ref (a 4)), (1, .int x1), (2, .int x2)]) (h : wp_Pieces_sidesBetween G x1 x2 u Q) : W p l e ({ frames := 3, cells := 0, slots := 0, locals := 67 } : Room) s m args below meth c s.heap [] 0 0 (pw_Ei below args s D (cw a cA cZ G) (cT cA cZ) A Q) (F0 m 0 ls []) := by
 obtain ⟨hx, hb, hr, hml, hown, hts, hlocks, hA⟩ := id C
 obtain ⟨hK, hI, hF⟩ := id K
 have hD : ∀ u, va_D A (cw a cA cZ G u) := fun u => cw_D hI hF
 have hS : va_S A s.heap s.heap [] := va_S.rf
 have h : wp_Pieces_sidesBetween G x1 x2 u Q := h
 refine lv_aload_n hx hb d_Pieces_sidesBetween_0 rfl (lv_at hl 0 rfl) ?_
 refine lv_iload_n hx hb d_Pieces_sidesBetween_1 rfl (lv_at hl 1 rfl) ?_
 refine cc_v (va_runV (As := [.int x1]) (rest := []) ⟨hx, hb, hml, hown, hts⟩ (ct_Pieces_countSidesOf l D a cA cZ G _ x1 u _ hI h) (pw_cwV 1 hts kw_543 kw_49 kw_540 kw_542 kw_10 (by decide +kernel) ⟨Nat.le_of_ble_eq_true rfl, Nat.le_of_ble_eq_true rfl⟩) ⟨pw_blind, va_recv hK hP (ci := 7) (q0 := 4) rfl cw_at_4, fun U hU hW => ⟨rfl, by rw [hU], by rw [hU]; exact hP, va_K.moved hW.alike hK⟩⟩ rfl rfl hl.1 rfl (lv_room (Nat.le_of_ble_eq_true rfl)) d_Pieces_sidesBetween_2 ⟨Nat.le_of_ble_eq_true rfl, Nat.le_of_ble_eq_true rfl⟩) hS hF hA (fun u1 H locs hP hS h => ?_)
 refine lv_aload_n hx hb d_Pieces_sidesBetween_5 rfl (lv_at hl 0 rfl) ?_
 refine va_get (D := D) (ci := 7) (v := .ref (a 23)) (C := R_Pieces) (T := T_Pieces) (N := 11) hx hb hts in_Pieces hown hK hP 4 cw_at_4 rfl 4 (by decide) (hts _ (List.mem_cons_of_mem _ kw_155)) (fun _ h9 => h9) rfl d_Pieces_sidesBetween_6 ?_
 refine lv_iload_n hx hb d_Pieces_sidesBetween_9 rfl (lv_at hl 2 rfl) ?_
 refine va_iald hx hb hK hP 23 0 cw_at_23 rfl h.1 d_Pieces_sidesBetween_10 ?_
 have h := h.2
 exact W.iret (v := (u1.2 9 x2.toNatClampNeg)) hx hb hr (fun t ht hW => ⟨⟨(u1.2 9 x2.toNatClampNeg), u1, rfl, h, by rw [ht]; exact hP, va_K.moved hW.alike hK⟩, hS.F ht⟩) hS.2.2 d_Pieces_sidesBetween_11 hlocks
set_option maxHeartbeats 4000000 in
set_option maxRecDepth 100000 in
theorem ct_Pieces_sidesBetween (l : Launch) (D : va_G) (a : Nat → Nat) (cA cZ : ClassId) (G : pG) (sz : Nat) (x1 x2 : Int32) (u : pS) (Q : Int32 → pS → Prop) (hI : pw_I 40 a) (h : wp_Pieces_sidesBetween G x1 x2 u Q) : Met l y_Pieces_sidesBetween w_Pieces_sidesBetween ({ frames := 3, cells := 0, slots := 0, locals := 67 } : Room) (va_Pc [.ref (a 4), .int x1, .int x2] (pw_pre D (cw a cA cZ G) (cT cA cZ) sz u)) (va_Qi (fun (r : Int32) (u : pS) => Q r u) (pw_B D (cw a cA cZ G) (cT cA cZ)) (pw_F 40 a sz)) 0 0 (pw_F 40 a sz) := by
 refine Met.ofW (cc := b_Pieces_sidesBetween) (maxL := 3) (ret := (some .int)) (by decide) rfl ?_
 intro p e s m args below meth c s₁ B hml hv
 obtain ⟨rfl, hsz, hP, hK⟩ := hv
 subst hsz
 have hl := lv_entry ([.ref (a 4), .int x1, .int x2]) (n := 3) (Nat.le_of_ble_eq_true rfl)
 rw [lg_entry_eq]
 generalize (lg_sl ([.ref (a 4), .int x1, .int x2]) ++ List.replicate (3 - (lg_sl ([.ref (a 4), .int x1, .int x2])).length) Slot.unset).toArray = ls at hl ⊢
 exact st_Pieces_sidesBetween (A := (pw_F 40 a s.heap.size)) ⟨B.exec, B.bytes, B.returns, hml, findClass_of_methodNamed B.named, atoms_spec (ws := w_Pieces_sidesBetween) B.pre, B.notSynchronized, fun q hq => Or.inr hq⟩ ⟨hK, hI, fun k hk => Or.inl ⟨k, hk, rfl⟩⟩ x1 x2 u ls hP hl h
set_option maxHeartbeats 4000000 in
set_option maxRecDepth 100000 in
theorem st_PI_joined {p : Program} {l : Launch} {e : Env} {s : State} {m : MethodId} {args : Array Value} {below : List Frame} {meth : Method} {c : Code} {D : va_G} {a : Nat → Nat} {cA cZ : ClassId} {G : pG} {A : Nat → Prop} {Q : Int32 → pS → Prop} {X : Nat → pS → Prop} (C : pw_C p s m args meth c b_PI_joined 3 R_PI (some .int) w_PI_joined A) (K : pw_K s D 40 a (cT cA cZ) A) (EX : cw_Ex A s) (hL : px_L l) (htr : e.platform.stackTraces = false) (hE : ∀ (pc : Nat), ∀ x ∈ c.exceptionTable.toList, covers x pc = false) (x1 x2 : Int32) (u : pS) (ls : Array Slot) (hP : va_P D vwCl (cw a cA cZ G u) s.heap) (hl : lv_has ls 3 [(0, .ref (a 0)), (1, .int x1), (2, .int x2)]) (h : wp_PI_joined G x1 x2 u Q X) : W p l e ({ frames := 8, cells := 1, slots := 6, locals := 124 } : Room) s m args below meth c s.heap [] 0 0 (px_Ei below args s D (cw a cA cZ G) (cT cA cZ) A Q X) (F0 m 0 ls []) := by
 obtain ⟨hx, hb, hr, hml, hown, hts, hlocks, hA⟩ := id C
 obtain ⟨hK, hI, hF⟩ := id K
 have hD : ∀ u, va_D A (cw a cA cZ G u) := fun u => cw_D hI hF
 have hz : ∀ oc t, px_T X (pw_B D (cw a cA cZ G) (cT cA cZ)) oc t → va_F A s t → (px_Qi Q X (pw_B D (cw a cA cZ G) (cT cA cZ)) A) args s oc t := fun oc t h1 h2 => ⟨Or.inr h1, h2⟩
 have hS : va_S A s.heap s.heap [] := va_S.rf
 have h : wp_PI_joined G x1 x2 u Q X := h
 refine lv_aload_n hx hb d_PI_joined_0 rfl (lv_at hl 0 rfl) ?_
 refine lv_iload_n hx hb d_PI_joined_1 rfl (lv_at hl 1 rfl) ?_
 refine cx_v (px_runV (As := [.int x1]) (rest := []) ⟨hx, hb, hml, hown, hts⟩ (ct_PI_needPiece l D a cA cZ G _ x1 u _ _ hL hI h) (pw_cwV 1 hts kw_643 kw_45 kw_640 kw_642 kw_13 (by decide +kernel) ⟨Nat.le_of_ble_eq_true rfl, Nat.le_of_ble_eq_true rfl⟩) ⟨cw_blindX, va_recv hK hP (ci := 0) (q0 := 0) rfl cw_at_0, fun U hU hW => ⟨rfl, ⟨by rw [hU], by rw [hU]; exact hP, va_K.moved hW.alike hK⟩, cw_Ex_call EX hS (pw_FA hS hF hA) hU hW⟩⟩ rfl rfl hl.1 rfl (lv_room (Nat.le_of_ble_eq_true rfl)) d_PI_joined_2 ⟨Nat.le_of_ble_eq_true rfl, Nat.le_of_ble_eq_true rfl⟩) hS hF hA (hE _) hlocks hz (fun u1 H locs hP hS h => ?_)
 refine lv_aload_n hx hb d_PI_joined_5 rfl (lv_at hl 0 rfl) ?_
 refine lv_iload_n hx hb d_PI_joined_6 rfl (lv_at hl 2 rfl) ?_
 refine cx_v (px_runV (As := [.int x2]) (rest := []) ⟨hx, hb, hml, hown, hts⟩ (ct_PI_needPiece l D a cA cZ G _ x2 u1 _ _ hL hI h) (pw_cwV 1 hts kw_643 kw_45 kw_640 kw_642 kw_13 (by decide +kernel) ⟨Nat.le_of_ble_eq_true rfl, Nat.le_of_ble_eq_true rfl⟩) ⟨cw_blindX, va_recv hK hP (ci := 0) (q0 := 0) rfl cw_at_0, fun U hU hW => ⟨rfl, ⟨by rw [hU], by rw [hU]; exact hP, va_K.moved hW.alike hK⟩, cw_Ex_call EX hS (pw_FA hS hF hA) hU hW⟩⟩ rfl rfl hl.1 rfl (lv_room (Nat.le_of_ble_eq_true rfl)) d_PI_joined_7 ⟨Nat.le_of_ble_eq_true rfl, Nat.le_of_ble_eq_true rfl⟩) hS hF hA (hE _) hlocks hz (fun u2 H locs hP hS h => ?_)
 refine lv_aload_n hx hb d_PI_joined_10 rfl (lv_at hl 0 rfl) ?_
 refine va_get (D := D) (ci := 0) (v := .ref (a 4)) (C := R_PI) (T := T_PI) (N := 12) hx hb hts in_PI hown hK hP 0 cw_at_0 rfl 4 (by decide) (hts _ (List.mem_cons_of_mem _ kw_316)) (fun _ h9 => h9) rfl d_PI_joined_11 ?_
 refine lv_iload_n hx hb d_PI_joined_14 rfl (lv_at hl 1 rfl) ?_
 refine lv_iload_n hx hb d_PI_joined_15 rfl (lv_at hl 2 rfl) ?_
 refine cc_i (va_runV (As := [.int x1, .int x2]) (rest := []) ⟨hx, hb, hml, hown, hts⟩ (ct_Pieces_sidesBetween l D a cA cZ G _ x1 x2 u2 _ hI h) (pw_cwV 2 hts kw_664 kw_49 kw_661 kw_662 kw_663 (by decide +kernel) ⟨Nat.le_of_ble_eq_true rfl, Nat.le_of_ble_eq_true rfl⟩) ⟨pw_blind, va_recv hK hP (ci := 7) (q0 := 4) rfl cw_at_4, fun U hU hW => ⟨rfl, by rw [hU], by rw [hU]; exact hP, va_K.moved hW.alike hK⟩⟩ rfl rfl hl.1 rfl (lv_room (Nat.le_of_ble_eq_true rfl)) d_PI_joined_16 ⟨Nat.le_of_ble_eq_true rfl, Nat.le_of_ble_eq_true rfl⟩) hS hF hA (fun r4 u3 H locs hP hS h => ?_)
 exact px_mono (fun t h => px_ofMQ (fun _ _ h => h) h) (W.iret (Qc := px_Qi Q X (pw_B D (cw a cA cZ G) (cT cA cZ)) A) (v := r4) hx hb hr (fun t ht hW => ⟨Or.inl ⟨r4, u3, rfl, h, by rw [ht]; exact hP, va_K.moved hW.alike hK⟩, hS.F ht⟩) hS.2.2 d_PI_joined_19 hlocks)
set_option maxHeartbeats 4000000 in
set_option maxRecDepth 100000 in
theorem ct_PI_joined (l : Launch) (D : va_G) (a : Nat → Nat) (cA cZ : ClassId) (G : pG) (sz : Nat) (x1 x2 : Int32) (u : pS) (Q : Int32 → pS → Prop) (X : Nat → pS → Prop) (hL : px_L l) (hI : pw_I 40 a) (h : wp_PI_joined G x1 x2 u Q X) : px_Met l y_PI_joined w_PI_joined ({ frames := 8, cells := 1, slots := 6, locals := 124 } : Room) (va_Pc [.ref (a 0), .int x1, .int x2] (fun U => pw_pre D (cw a cA cZ G) (cT cA cZ) sz u U ∧ cw_Ex (pw_F 40 a sz) U)) (px_Qi Q X (pw_B D (cw a cA cZ G) (cT cA cZ)) (pw_F 40 a sz)) 0 0 1 6 (pw_F 40 a sz) := by
 refine px_ofW (cc := b_PI_joined) (maxL := 3) (ret := (some .int)) (by decide) rfl ?_
 intro p e s m args below meth c s₁ B hml hE hv
 obtain ⟨rfl, ⟨hsz, hP, hK⟩, EX⟩ := hv
 subst hsz
 have hl := lv_entry ([.ref (a 0), .int x1, .int x2]) (n := 3) (Nat.le_of_ble_eq_true rfl)
 rw [lg_entry_eq]
 generalize (lg_sl ([.ref (a 0), .int x1, .int x2]) ++ List.replicate (3 - (lg_sl ([.ref (a 0), .int x1, .int x2])).length) Slot.unset).toArray = ls at hl ⊢
 exact st_PI_joined (A := (pw_F 40 a s.heap.size)) ⟨B.exec, B.bytes, B.returns, hml, findClass_of_methodNamed B.named, atoms_spec (ws := w_PI_joined) B.pre, B.notSynchronized, fun q hq => Or.inr hq⟩ ⟨hK, hI, fun k hk => Or.inl ⟨k, hk, rfl⟩⟩ EX hL (hL e B.admits) (px_none hE) x1 x2 u ls hP hl h
set_option maxHeartbeats 4000000 in
set_option maxRecDepth 100000 in
theorem st_Grid_columnOf {p : Program} {l : Launch} {e : Env} {s : State} {m : MethodId} {args : Array Value} {below : List Frame} {meth : Method} {c : Code} {D : va_G} {a : Nat → Nat} {cA cZ : ClassId} {G : pG} {A : Nat → Prop} {Q : Int32 → pS → Prop} (C : pw_C p s m args meth c b_Grid_columnOf 2 R_Grid (some .int) w_Grid_columnOf A) (K : pw_K s D 40 a (cT cA cZ) A) (x1 : Int32) (u : pS) (ls : Array Slot) (hP : va_P D vwCl (cw a cA cZ G u) s.heap) (hl : lv_has ls 2 [(0, .ref (a 1)), (1, .int x1)]) (h : wp_Grid_columnOf G x1 u Q) : W p l e ({ frames := 0, cells := 0, slots := 0, locals := 0 } : Room) s m args below meth c s.heap [] 0 0 (pw_Ei below args s D (cw a cA cZ G) (cT cA cZ) A Q) (F0 m 0 ls []) := by
 obtain ⟨hx, hb, hr, hml, hown, hts, hlocks, hA⟩ := id C
 obtain ⟨hK, hI, hF⟩ := id K
 have hD : ∀ u, va_D A (cw a cA cZ G u) := fun u => cw_D hI hF
 have hS : va_S A s.heap s.heap [] := va_S.rf
 have h : wp_Grid_columnOf G x1 u Q := h
 refine lv_aload_n hx hb d_Grid_columnOf_0 rfl (lv_at hl 0 rfl) ?_
 refine va_get (D := D) (ci := 4) (v := .ref (a 11)) (C := R_Grid) (T := T_Grid) (N := 6) hx hb hts in_Grid hown hK hP 1 cw_at_1 rfl 3 (by decide) (hts _ (List.mem_cons_of_mem _ kw_112)) (fun _ h9 => h9) rfl d_Grid_columnOf_1 ?_
 refine lv_iload_n hx hb d_Grid_columnOf_4 rfl (lv_at hl 1 rfl) ?_
 refine va_iald hx hb hK hP 11 0 cw_at_11 rfl h.1 d_Grid_columnOf_5 ?_
 have h := h.2
 exact W.iret (v := (G.2.2 0 x1.toNatClampNeg)) hx hb hr (fun t ht hW => ⟨⟨(G.2.2 0 x1.toNatClampNeg), u, rfl, h, by rw [ht]; exact hP, va_K.moved hW.alike hK⟩, hS.F ht⟩) hS.2.2 d_Grid_columnOf_6 hlocks
set_option maxHeartbeats 4000000 in
set_option maxRecDepth 100000 in
theorem ct_Grid_columnOf (l : Launch) (D : va_G) (a : Nat → Nat) (cA cZ : ClassId) (G : pG) (sz : Nat) (x1 : Int32) (u : pS) (Q : Int32 → pS → Prop) (hI : pw_I 40 a) (h : wp_Grid_columnOf G x1 u Q) : Met l y_Grid_columnOf w_Grid_columnOf ({ frames := 0, cells := 0, slots := 0, locals := 0 } : Room) (va_Pc [.ref (a 1), .int x1] (pw_pre D (cw a cA cZ G) (cT cA cZ) sz u)) (va_Qi (fun (r : Int32) (u : pS) => Q r u) (pw_B D (cw a cA cZ G) (cT cA cZ)) (pw_F 40 a sz)) 0 0 (pw_F 40 a sz) := by
 refine Met.ofW (cc := b_Grid_columnOf) (maxL := 2) (ret := (some .int)) (by decide) rfl ?_
 intro p e s m args below meth c s₁ B hml hv
 obtain ⟨rfl, hsz, hP, hK⟩ := hv
 subst hsz
 have hl := lv_entry ([.ref (a 1), .int x1]) (n := 2) (Nat.le_of_ble_eq_true rfl)
 rw [lg_entry_eq]
 generalize (lg_sl ([.ref (a 1), .int x1]) ++ List.replicate (2 - (lg_sl ([.ref (a 1), .int x1])).length) Slot.unset).toArray = ls at hl ⊢
 exact st_Grid_columnOf (A := (pw_F 40 a s.heap.size)) ⟨B.exec, B.bytes, B.returns, hml, findClass_of_methodNamed B.named, atoms_spec (ws := w_Grid_columnOf) B.pre, B.notSynchronized, fun q hq => Or.inr hq⟩ ⟨hK, hI, fun k hk => Or.inl ⟨k, hk, rfl⟩⟩ x1 u ls hP hl h
set_option maxHeartbeats 4000000 in
set_option maxRecDepth 100000 in
theorem st_Pieces_firstXOf {p : Program} {l : Launch} {e : Env} {s : State} {m : MethodId} {args : Array Value} {below : List Frame} {meth : Method} {c : Code} {D : va_G} {a : Nat → Nat} {cA cZ : ClassId} {G : pG} {A : Nat → Prop} {Q : Int32 → pS → Prop} (C : pw_C p s m args meth c b_Pieces_firstXOf 2 R_Pieces (some .int) w_Pieces_firstXOf A) (K : pw_K s D 40 a (cT cA cZ) A) (x1 : Int32) (u : pS) (ls : Array Slot) (hP : va_P D vwCl (cw a cA cZ G u) s.heap) (hl : lv_has ls 2 [(0, .ref (a 4)), (1, .int x1)]) (h : wp_Pieces_firstXOf G x1 u Q) : W p l e ({ frames := 1, cells := 0, slots := 0, locals := 21 } : Room) s m args below meth c s.heap [] 0 0 (pw_Ei below args s D (cw a cA cZ G) (cT cA cZ) A Q) (F0 m 0 ls []) := by
 obtain ⟨hx, hb, hr, hml, hown, hts, hlocks, hA⟩ := id C
 obtain ⟨hK, hI, hF⟩ := id K
 have hD : ∀ u, va_D A (cw a cA cZ G u) := fun u => cw_D hI hF
 have hS : va_S A s.heap s.heap [] := va_S.rf
 have h : wp_Pieces_firstXOf G x1 u Q := h
 refine lv_aload_n hx hb d_Pieces_firstXOf_0 rfl (lv_at hl 0 rfl) ?_
 refine va_get (D := D) (ci := 7) (v := .ref (a 1)) (C := R_Pieces) (T := T_Pieces) (N := 11) hx hb hts in_Pieces hown hK hP 4 cw_at_4 rfl 0 (by decide) (hts _ (List.mem_cons_of_mem _ kw_151)) (fun _ h9 => h9) rfl d_Pieces_firstXOf_1 ?_
 refine lv_aload_n hx hb d_Pieces_firstXOf_4 rfl (lv_at hl 0 rfl) ?_
 refine va_get (D := D) (ci := 7) (v := .ref (a 24)) (C := R_Pieces) (T := T_Pieces) (N := 11) hx hb hts in_Pieces hown hK hP 4 cw_at_4 rfl 5 (by decide) (hts _ (List.mem_cons_of_mem _ kw_156)) (fun _ h9 => h9) rfl d_Pieces_firstXOf_5 ?_
 refine lv_iload_n hx hb d_Pieces_firstXOf_8 rfl (lv_at hl 1 rfl) ?_
 refine va_iald hx hb hK hP 24 0 cw_at_24 rfl h.1 d_Pieces_firstXOf_9 ?_
 have h := h.2
 refine cc_i (va_runV (As := [.int (u.2 10 x1.toNatClampNeg)]) (rest := []) ⟨hx, hb, hml, hown, hts⟩ (ct_Grid_columnOf l D a cA cZ G _ (u.2 10 x1.toNatClampNeg) u _ hI h) (pw_cwV 1 hts kw_513 kw_46 kw_510 kw_511 kw_512 (by decide +kernel) ⟨Nat.le_of_ble_eq_true rfl, Nat.le_of_ble_eq_true rfl⟩) ⟨pw_blind, va_recv hK hP (ci := 4) (q0 := 1) rfl cw_at_1, fun U hU hW => ⟨rfl, by rw [hU], by rw [hU]; exact hP, va_K.moved hW.alike hK⟩⟩ rfl rfl hl.1 rfl (lv_room (Nat.le_of_ble_eq_true rfl)) d_Pieces_firstXOf_10 ⟨Nat.le_of_ble_eq_true rfl, Nat.le_of_ble_eq_true rfl⟩) hS hF hA (fun r2 u1 H locs hP hS h => ?_)
 exact W.iret (v := r2) hx hb hr (fun t ht hW => ⟨⟨r2, u1, rfl, h, by rw [ht]; exact hP, va_K.moved hW.alike hK⟩, hS.F ht⟩) hS.2.2 d_Pieces_firstXOf_13 hlocks
set_option maxHeartbeats 4000000 in
set_option maxRecDepth 100000 in
theorem ct_Pieces_firstXOf (l : Launch) (D : va_G) (a : Nat → Nat) (cA cZ : ClassId) (G : pG) (sz : Nat) (x1 : Int32) (u : pS) (Q : Int32 → pS → Prop) (hI : pw_I 40 a) (h : wp_Pieces_firstXOf G x1 u Q) : Met l y_Pieces_firstXOf w_Pieces_firstXOf ({ frames := 1, cells := 0, slots := 0, locals := 21 } : Room) (va_Pc [.ref (a 4), .int x1] (pw_pre D (cw a cA cZ G) (cT cA cZ) sz u)) (va_Qi (fun (r : Int32) (u : pS) => Q r u) (pw_B D (cw a cA cZ G) (cT cA cZ)) (pw_F 40 a sz)) 0 0 (pw_F 40 a sz) := by
 refine Met.ofW (cc := b_Pieces_firstXOf) (maxL := 2) (ret := (some .int)) (by decide) rfl ?_
 intro p e s m args below meth c s₁ B hml hv
 obtain ⟨rfl, hsz, hP, hK⟩ := hv
 subst hsz
 have hl := lv_entry ([.ref (a 4), .int x1]) (n := 2) (Nat.le_of_ble_eq_true rfl)
 rw [lg_entry_eq]
 generalize (lg_sl ([.ref (a 4), .int x1]) ++ List.replicate (2 - (lg_sl ([.ref (a 4), .int x1])).length) Slot.unset).toArray = ls at hl ⊢
 exact st_Pieces_firstXOf (A := (pw_F 40 a s.heap.size)) ⟨B.exec, B.bytes, B.returns, hml, findClass_of_methodNamed B.named, atoms_spec (ws := w_Pieces_firstXOf) B.pre, B.notSynchronized, fun q hq => Or.inr hq⟩ ⟨hK, hI, fun k hk => Or.inl ⟨k, hk, rfl⟩⟩ x1 u ls hP hl h
end
section
set_option maxHeartbeats 4000000 in
set_option maxRecDepth 100000 in
theorem st_Walk_noteCorner {p : Program} {l : Launch} {e : Env} {s : State} {m : MethodId} {args : Array Value} {below : List Frame} {meth : Method} {c : Code} {D : va_G} {a : Nat → Nat} {cA cZ : ClassId} {G : pG} {A : Nat → Prop} {Q : pS → Prop} (C : pw_C p s m args meth c b_Walk_noteCorner 1 R_Walk none w_Walk_noteCorner A) (K : pw_K s D 40 a (cT cA cZ) A) (u : pS) (ls : Array Slot) (hP : va_P D vwCl (cw a cA cZ G u) s.heap) (hl : lv_has ls 1 [(0, .ref (a 7))]) (h : wp_Walk_noteCorner G u Q) : W p l e ({ frames := 0, cells := 0, slots := 0, locals := 0 } : Room) s m args below meth c s.heap [] 0 0 (pw_Ev below args s D (cw a cA cZ G) (cT cA cZ) A Q) (F0 m 0 ls []) := by
 obtain ⟨hx, hb, hr, hml, hown, hts, hlocks, hA⟩ := id C
 obtain ⟨hK, hI, hF⟩ := id K
 have hD : ∀ u, va_D A (cw a cA cZ G u) := fun u => cw_D hI hF
 have hS : va_S A s.heap s.heap [] := va_S.rf
 have h : wp_Walk_noteCorner G u Q := h
 refine lv_aload_n hx hb d_Walk_noteCorner_0 rfl (lv_at hl 0 rfl) ?_
 refine va_get (D := D) (ci := 10) (v := .int (u.1 6)) (C := R_Walk) (T := T_Walk) (N := 8) hx hb hts in_Walk hown hK hP 7 cw_at_7 rfl 7 (by decide) (hts _ (List.mem_cons_of_mem _ kw_227)) (fun _ h9 => h9) rfl d_Walk_noteCorner_1 ?_
 refine lv_aload_n hx hb d_Walk_noteCorner_4 rfl (lv_at hl 0 rfl) ?_
 refine va_get (D := D) (ci := 10) (v := .ref (a 32)) (C := R_Walk) (T := T_Walk) (N := 8) hx hb hts in_Walk hown hK hP 7 cw_at_7 rfl 2 (by decide) (hts _ (List.mem_cons_of_mem _ kw_222)) (fun _ h9 => h9) rfl d_Walk_noteCorner_5 ?_
 refine va_alen (v := nI (G.1 32)) hx hb hK hP 32 0 cw_at_32 rfl rfl d_Walk_noteCorner_8 ?_
 refine lv_icmp_ge (tgt := 48) hx hb d_Walk_noteCorner_9 (by decide) (fun c1 => ?_) (fun c1 => ?_)
 · have h := h.1 c1
   exact W.vret hx hb hr (fun t ht hW => ⟨⟨u, rfl, h, by rw [ht]; exact hP, va_K.moved hW.alike hK⟩, hS.F ht⟩) hS.2.2 d_Walk_noteCorner_48 hlocks
 · have h := h.2 c1
   refine lv_aload_n hx hb d_Walk_noteCorner_12 rfl (lv_at hl 0 rfl) ?_
   refine va_get (D := D) (ci := 10) (v := .ref (a 32)) (C := R_Walk) (T := T_Walk) (N := 8) hx hb hts in_Walk hown hK hP 7 cw_at_7 rfl 2 (by decide) (hts _ (List.mem_cons_of_mem _ kw_222)) (fun _ h9 => h9) rfl d_Walk_noteCorner_13 ?_
   refine lv_aload_n hx hb d_Walk_noteCorner_16 rfl (lv_at hl 0 rfl) ?_
   refine va_get (D := D) (ci := 10) (v := .int (u.1 6)) (C := R_Walk) (T := T_Walk) (N := 8) hx hb hts in_Walk hown hK hP 7 cw_at_7 rfl 7 (by decide) (hts _ (List.mem_cons_of_mem _ kw_227)) (fun _ h9 => h9) rfl d_Walk_noteCorner_17 ?_
   refine lv_aload_n hx hb d_Walk_noteCorner_20 rfl (lv_at hl 0 rfl) ?_
   refine va_get (D := D) (ci := 10) (v := .int (u.1 3)) (C := R_Walk) (T := T_Walk) (N := 8) hx hb hts in_Walk hown hK hP 7 cw_at_7 rfl 4 (by decide) (hts _ (List.mem_cons_of_mem _ kw_224)) (fun _ h9 => h9) rfl d_Walk_noteCorner_21 ?_
   refine va_iast hx hb hK hP (hD _) hS 32 0 cw_at_32 rfl h.1 d_Walk_noteCorner_24 (fun H locs hP _ hS => ?_)
   obtain ⟨u2, eu2⟩ : ∃ z, z = pw_sa u 18 (upd (u.2 18) (u.1 6).toNatClampNeg (u.1 3)) := ⟨_, rfl⟩
   rw [cw_sa_32, ← eu2] at hP
   have h := h.2 u2 eu2
   refine lv_aload_n hx hb d_Walk_noteCorner_25 rfl (lv_at hl 0 rfl) ?_
   refine va_get (D := D) (ci := 10) (v := .ref (a 33)) (C := R_Walk) (T := T_Walk) (N := 8) hx hb hts in_Walk hown hK hP 7 cw_at_7 rfl 3 (by decide) (hts _ (List.mem_cons_of_mem _ kw_223)) (fun _ h9 => h9) rfl d_Walk_noteCorner_26 ?_
   refine lv_aload_n hx hb d_Walk_noteCorner_29 rfl (lv_at hl 0 rfl) ?_
   refine va_get (D := D) (ci := 10) (v := .int (u2.1 6)) (C := R_Walk) (T := T_Walk) (N := 8) hx hb hts in_Walk hown hK hP 7 cw_at_7 rfl 7 (by decide) (hts _ (List.mem_cons_of_mem _ kw_227)) (fun _ h9 => h9) rfl d_Walk_noteCorner_30 ?_
   refine lv_aload_n hx hb d_Walk_noteCorner_33 rfl (lv_at hl 0 rfl) ?_
   refine va_get (D := D) (ci := 10) (v := .int (u2.1 4)) (C := R_Walk) (T := T_Walk) (N := 8) hx hb hts in_Walk hown hK hP 7 cw_at_7 rfl 5 (by decide) (hts _ (List.mem_cons_of_mem _ kw_225)) (fun _ h9 => h9) rfl d_Walk_noteCorner_34 ?_
   refine va_iast hx hb hK hP (hD _) hS 33 0 cw_at_33 rfl h.1 d_Walk_noteCorner_37 (fun H locs hP _ hS => ?_)
   obtain ⟨u3, eu3⟩ : ∃ z, z = pw_sa u2 19 (upd (u2.2 19) (u2.1 6).toNatClampNeg (u2.1 4)) := ⟨_, rfl⟩
   rw [cw_sa_33, ← eu3] at hP
   have h := h.2 u3 eu3
   refine lv_aload_n hx hb d_Walk_noteCorner_38 rfl (lv_at hl 0 rfl) ?_
   refine lv_dup hx hb d_Walk_noteCorner_39 rfl ?_
   refine va_get (D := D) (ci := 10) (v := .int (u3.1 6)) (C := R_Walk) (T := T_Walk) (N := 8) hx hb hts in_Walk hown hK hP 7 cw_at_7 rfl 7 (by decide) (hts _ (List.mem_cons_of_mem _ kw_227)) (fun _ h9 => h9) rfl d_Walk_noteCorner_40 ?_
   refine lv_iconst (v := 1) hx hb d_Walk_noteCorner_43 (by decide) ?_
   refine lv_iadd hx hb d_Walk_noteCorner_44 ?_
   refine va_put (D := D) (ci := 10) (v := .int ((u3.1 6) + 1)) (ty := .int) (C := R_Walk) (T := T_Walk) (N := 8) hx hb hts in_Walk ty_Walk tyok_Walk nm_Walk hown hK hP (hD _) hS 7 cw_at_7 rfl 7 (by decide) (hts _ (List.mem_cons_of_mem _ kw_227)) (fun _ h9 => h9) rfl (by decide +kernel) rfl rfl (Nat.le_of_ble_eq_true rfl) d_Walk_noteCorner_45 (fun H locs hP _ hS => ?_)
   obtain ⟨u4, eu4⟩ : ∃ z, z = pw_si u3 6 ((u3.1 6) + 1) := ⟨_, rfl⟩
   rw [cw_si_7_7, ← eu4] at hP
   have h := h u4 eu4
   exact W.vret hx hb hr (fun t ht hW => ⟨⟨u4, rfl, h, by rw [ht]; exact hP, va_K.moved hW.alike hK⟩, hS.F ht⟩) hS.2.2 d_Walk_noteCorner_48 hlocks
set_option maxHeartbeats 4000000 in
set_option maxRecDepth 100000 in
theorem ct_Walk_noteCorner (l : Launch) (D : va_G) (a : Nat → Nat) (cA cZ : ClassId) (G : pG) (sz : Nat) (u : pS) (Q : pS → Prop) (hI : pw_I 40 a) (h : wp_Walk_noteCorner G u Q) : Met l y_Walk_noteCorner w_Walk_noteCorner ({ frames := 0, cells := 0, slots := 0, locals := 0 } : Room) (va_Pc [.ref (a 7)] (pw_pre D (cw a cA cZ G) (cT cA cZ) sz u)) (va_Qv (fun (u : pS) => Q u) (pw_B D (cw a cA cZ G) (cT cA cZ)) (pw_F 40 a sz)) 0 0 (pw_F 40 a sz) := by
 refine Met.ofW (cc := b_Walk_noteCorner) (maxL := 1) (ret := none) (by decide) rfl ?_
 intro p e s m args below meth c s₁ B hml hv
 obtain ⟨rfl, hsz, hP, hK⟩ := hv
 subst hsz
 have hl := lv_entry ([.ref (a 7)]) (n := 1) (Nat.le_of_ble_eq_true rfl)
 rw [lg_entry_eq]
 generalize (lg_sl ([.ref (a 7)]) ++ List.replicate (1 - (lg_sl ([.ref (a 7)])).length) Slot.unset).toArray = ls at hl ⊢
 exact st_Walk_noteCorner (A := (pw_F 40 a s.heap.size)) ⟨B.exec, B.bytes, B.returns, hml, findClass_of_methodNamed B.named, atoms_spec (ws := w_Walk_noteCorner) B.pre, B.notSynchronized, fun q hq => Or.inr hq⟩ ⟨hK, hI, fun k hk => Or.inl ⟨k, hk, rfl⟩⟩ u ls hP hl h
set_option maxHeartbeats 4000000 in
set_option maxRecDepth 100000 in
theorem st_Walk_isAhead {p : Program} {l : Launch} {e : Env} {s : State} {m : MethodId} {args : Array Value} {below : List Frame} {meth : Method} {c : Code} {D : va_G} {a : Nat → Nat} {cA cZ : ClassId} {G : pG} {A : Nat → Prop} {Q : Int32 → pS → Prop} (C : pw_C p s m args meth c b_Walk_isAhead 3 R_Walk (some .boolean) w_Walk_isAhead A) (K : pw_K s D 40 a (cT cA cZ) A) (EX : cw_Ex A s) (x1 x2 : Int32) (u : pS) (ls : Array Slot) (hP : va_P D vwCl (cw a cA cZ G u) s.heap) (hl : lv_has ls 3 [(0, .ref (a 7)), (1, .int x1), (2, .int x2)]) (h : wp_Walk_isAhead G x1 x2 u Q) : W p l e ({ frames := 2, cells := 0, slots := 0, locals := 46 } : Room) s m args below meth c s.heap [] 0 0 (pw_Ei below args s D (cw a cA cZ G) (cT cA cZ) A Q) (F0 m 0 ls []) := by
 obtain ⟨hx, hb, hr, hml, hown, hts, hlocks, hA⟩ := id C
 obtain ⟨hK, hI, hF⟩ := id K
 have hD : ∀ u, va_D A (cw a cA cZ G u) := fun u => cw_D hI hF
 obtain ⟨t_STEP_X, t_STEP_Y, t_AHEAD_X, t_AHEAD_Y, hZ_t_STEP_X, hZ_t_STEP_Y, hZ_t_AHEAD_X, hZ_t_AHEAD_Y, hT_t_STEP_X, hT_t_STEP_Y, hT_t_AHEAD_X, hT_t_AHEAD_Y⟩ := EX.2
 have hS : va_S A s.heap s.heap [] := va_S.rf
 have h : wp_Walk_isAhead G x1 x2 u Q := h
 refine lv_aload_n hx hb d_Walk_isAhead_0 rfl (lv_at hl 0 rfl) ?_
 refine va_get (D := D) (ci := 10) (v := .ref (a 4)) (C := R_Walk) (T := T_Walk) (N := 8) hx hb hts in_Walk hown hK hP 7 cw_at_7 rfl 0 (by decide) (hts _ (List.mem_cons_of_mem _ kw_220)) (fun _ h9 => h9) rfl d_Walk_isAhead_1 ?_
 refine lv_aload_n hx hb d_Walk_isAhead_4 rfl (lv_at hl 0 rfl) ?_
 refine va_get (D := D) (ci := 10) (v := .int (u.1 3)) (C := R_Walk) (T := T_Walk) (N := 8) hx hb hts in_Walk hown hK hP 7 cw_at_7 rfl 4 (by decide) (hts _ (List.mem_cons_of_mem _ kw_224)) (fun _ h9 => h9) rfl d_Walk_isAhead_5 ?_
 refine va_getsN hx hb hZ_t_AHEAD_X hS hown (va_Nw.use rfl (EX.1.1.1 ("PictureInlays$Walk", 75, "AHEAD_X") (by decide))) (fun _ h9 => h9) d_Walk_isAhead_8 ?_
 refine lv_iload_n hx hb d_Walk_isAhead_11 rfl (lv_at hl 2 rfl) ?_
 refine va_ti hx hb hT_t_AHEAD_X hS h.1 rfl d_Walk_isAhead_12 ?_
 have h := h.2
 refine lv_iadd hx hb d_Walk_isAhead_13 ?_
 refine lv_aload_n hx hb d_Walk_isAhead_14 rfl (lv_at hl 0 rfl) ?_
 refine va_get (D := D) (ci := 10) (v := .int (u.1 4)) (C := R_Walk) (T := T_Walk) (N := 8) hx hb hts in_Walk hown hK hP 7 cw_at_7 rfl 5 (by decide) (hts _ (List.mem_cons_of_mem _ kw_225)) (fun _ h9 => h9) rfl d_Walk_isAhead_15 ?_
 refine va_getsN hx hb hZ_t_AHEAD_Y hS hown (va_Nw.use rfl (EX.1.1.1 ("PictureInlays$Walk", 78, "AHEAD_Y") (by decide))) (fun _ h9 => h9) d_Walk_isAhead_18 ?_
 refine lv_iload_n hx hb d_Walk_isAhead_21 rfl (lv_at hl 2 rfl) ?_
 refine va_ti hx hb hT_t_AHEAD_Y hS h.1 rfl d_Walk_isAhead_22 ?_
 have h := h.2
 refine lv_iadd hx hb d_Walk_isAhead_23 ?_
 refine cc_i (va_runV (As := [.int ((u.1 3) + (tb_AX x2.toNatClampNeg)), .int ((u.1 4) + (tb_AY x2.toNatClampNeg))]) (rest := []) ⟨hx, hb, hml, hown, hts⟩ (ct_Pieces_numberOf l D a cA cZ G _ ((u.1 3) + (tb_AX x2.toNatClampNeg)) ((u.1 4) + (tb_AY x2.toNatClampNeg)) u _ hI h) (pw_cwV 2 hts kw_631 kw_49 kw_699 kw_629 kw_630 (by decide +kernel) ⟨Nat.le_of_ble_eq_true rfl, Nat.le_of_ble_eq_true rfl⟩) ⟨pw_blind, va_recv hK hP (ci := 7) (q0 := 4) rfl cw_at_4, fun U hU hW => ⟨rfl, by rw [hU], by rw [hU]; exact hP, va_K.moved hW.alike hK⟩⟩ rfl rfl hl.1 rfl (lv_room (Nat.le_of_ble_eq_true rfl)) d_Walk_isAhead_24 ⟨Nat.le_of_ble_eq_true rfl, Nat.le_of_ble_eq_true rfl⟩) hS hF hA (fun r2 u1 H locs hP hS h => ?_)
 refine lv_iload_n hx hb d_Walk_isAhead_27 rfl (lv_at hl 1 rfl) ?_
 refine lv_icmp_ne (tgt := 35) hx hb d_Walk_isAhead_28 (by decide) (fun c3 => ?_) (fun c3 => ?_)
 · have h := h.2 c3
   refine lv_iconst (v := 0) hx hb d_Walk_isAhead_35 (by decide) ?_
   exact W.zret (v := 0) hx hb hr rfl (fun t ht hW => ⟨⟨0, u1, rfl, h, by rw [ht]; exact hP, va_K.moved hW.alike hK⟩, hS.F ht⟩) hS.2.2 d_Walk_isAhead_36 hlocks
 · have h := h.1 c3
   refine lv_iconst (v := 1) hx hb d_Walk_isAhead_31 (by decide) ?_
   refine lv_goto (tgt := 36) hx hb d_Walk_isAhead_32 (by decide) ?_
   exact W.zret (v := 1) hx hb hr rfl (fun t ht hW => ⟨⟨1, u1, rfl, h, by rw [ht]; exact hP, va_K.moved hW.alike hK⟩, hS.F ht⟩) hS.2.2 d_Walk_isAhead_36 hlocks
set_option maxHeartbeats 4000000 in
set_option maxRecDepth 100000 in
theorem ct_Walk_isAhead (l : Launch) (D : va_G) (a : Nat → Nat) (cA cZ : ClassId) (G : pG) (sz : Nat) (x1 x2 : Int32) (u : pS) (Q : Int32 → pS → Prop) (hI : pw_I 40 a) (h : wp_Walk_isAhead G x1 x2 u Q) : Met l y_Walk_isAhead w_Walk_isAhead ({ frames := 2, cells := 0, slots := 0, locals := 46 } : Room) (va_Pc [.ref (a 7), .int x1, .int x2] (fun U => pw_pre D (cw a cA cZ G) (cT cA cZ) sz u U ∧ cw_Ex (pw_F 40 a sz) U)) (va_Qi (fun (r : Int32) (u : pS) => Q r u) (pw_B D (cw a cA cZ G) (cT cA cZ)) (pw_F 40 a sz)) 0 0 (pw_F 40 a sz) := by
 refine Met.ofW (cc := b_Walk_isAhead) (maxL := 3) (ret := (some .boolean)) (by decide) rfl ?_
 intro p e s m args below meth c s₁ B hml hv
 obtain ⟨rfl, ⟨hsz, hP, hK⟩, EX⟩ := hv
 subst hsz
 have hl := lv_entry ([.ref (a 7), .int x1, .int x2]) (n := 3) (Nat.le_of_ble_eq_true rfl)
 rw [lg_entry_eq]
 generalize (lg_sl ([.ref (a 7), .int x1, .int x2]) ++ List.replicate (3 - (lg_sl ([.ref (a 7), .int x1, .int x2])).length) Slot.unset).toArray = ls at hl ⊢
 exact st_Walk_isAhead (A := (pw_F 40 a s.heap.size)) ⟨B.exec, B.bytes, B.returns, hml, findClass_of_methodNamed B.named, atoms_spec (ws := w_Walk_isAhead) B.pre, B.notSynchronized, fun q hq => Or.inr hq⟩ ⟨hK, hI, fun k hk => Or.inl ⟨k, hk, rfl⟩⟩ EX x1 x2 u ls hP hl h
set_option maxHeartbeats 4000000 in
set_option maxRecDepth 100000 in
theorem st_Walk_turn {p : Program} {l : Launch} {e : Env} {s : State} {m : MethodId} {args : Array Value} {below : List Frame} {meth : Method} {c : Code} {D : va_G} {a : Nat → Nat} {cA cZ : ClassId} {G : pG} {A : Nat → Prop} {Q : pS → Prop} (C : pw_C p s m args meth c b_Walk_turn 3 R_Walk none w_Walk_turn A) (K : pw_K s D 40 a (cT cA cZ) A) (EX : cw_Ex A s) (x1 : Int32) (u : pS) (ls : Array Slot) (hP : va_P D vwCl (cw a cA cZ G u) s.heap) (hl : lv_has ls 3 [(0, .ref (a 7)), (1, .int x1)]) (h : wp_Walk_turn G x1 u Q) : W p l e ({ frames := 3, cells := 0, slots := 0, locals := 68 } : Room) s m args below meth c s.heap [] 0 0 (pw_Ev below args s D (cw a cA cZ G) (cT cA cZ) A Q) (F0 m 0 ls []) := by
 obtain ⟨hx, hb, hr, hml, hown, hts, hlocks, hA⟩ := id C
 obtain ⟨hK, hI, hF⟩ := id K
 have hD : ∀ u, va_D A (cw a cA cZ G u) := fun u => cw_D hI hF
 have hS : va_S A s.heap s.heap [] := va_S.rf
 have h : wp_Walk_turn G x1 u Q := h
 refine lv_aload_n hx hb d_Walk_turn_0 rfl (lv_at hl 0 rfl) ?_
 refine va_get (D := D) (ci := 10) (v := .int (u.1 5)) (C := R_Walk) (T := T_Walk) (N := 8) hx hb hts in_Walk hown hK hP 7 cw_at_7 rfl 6 (by decide) (hts _ (List.mem_cons_of_mem _ kw_226)) (fun _ h9 => h9) rfl d_Walk_turn_1 ?_
 refine lv_iconst (v := 4) hx hb d_Walk_turn_4 (by decide) ?_
 refine lv_iadd hx hb d_Walk_turn_5 ?_
 refine lv_iconst (v := 1) hx hb d_Walk_turn_6 (by decide) ?_
 refine lv_isub hx hb d_Walk_turn_7 ?_
 refine lv_iconst (v := 4) hx hb d_Walk_turn_8 (by decide) ?_
 refine lv_irem hx hb d_Walk_turn_9 (by decide) ?_
 refine lv_topi (fun t1 et1 => ?_)
 have h := h t1 et1
 refine lv_istore_n (lv' := [(2, .int t1), (0, .ref (a 7)), (1, .int x1)]) hx hb d_Walk_turn_10 rfl hl (by decide) rfl (fun ls hl => ?_)
 refine lv_aload_n hx hb d_Walk_turn_11 rfl (lv_at hl 1 rfl) ?_
 refine lv_iload_n hx hb d_Walk_turn_12 rfl (lv_at hl 2 rfl) ?_
 refine lv_aload_n hx hb d_Walk_turn_13 rfl (lv_at hl 1 rfl) ?_
 refine va_get (D := D) (ci := 10) (v := .int (u.1 5)) (C := R_Walk) (T := T_Walk) (N := 8) hx hb hts in_Walk hown hK hP 7 cw_at_7 rfl 6 (by decide) (hts _ (List.mem_cons_of_mem _ kw_226)) (fun _ h9 => h9) rfl d_Walk_turn_14 ?_
 refine cc_i (va_runV (As := [.int x1, .int (u.1 5)]) (rest := []) ⟨hx, hb, hml, hown, hts⟩ (ct_Walk_isAhead l D a cA cZ G _ x1 (u.1 5) u _ hI h) (pw_cwV 2 hts kw_694 kw_53 kw_691 kw_693 kw_16 (by decide +kernel) ⟨Nat.le_of_ble_eq_true rfl, Nat.le_of_ble_eq_true rfl⟩) ⟨cw_blindX, va_recv hK hP (ci := 10) (q0 := 7) rfl cw_at_7, fun U hU hW => ⟨rfl, ⟨by rw [hU], by rw [hU]; exact hP, va_K.moved hW.alike hK⟩, cw_Ex_call EX hS (pw_FA hS hF hA) hU hW⟩⟩ rfl rfl hl.1 rfl (lv_room (Nat.le_of_ble_eq_true rfl)) d_Walk_turn_17 ⟨Nat.le_of_ble_eq_true rfl, Nat.le_of_ble_eq_true rfl⟩) hS hF hA (fun r3 u2 H locs hP hS h => ?_)
 refine lv_if_ne (tgt := 42) hx hb d_Walk_turn_20 (by decide) (fun c4 => ?_) (fun c4 => ?_)
 · have h := h.2 c4
   refine lv_aload_n hx hb d_Walk_turn_42 rfl (lv_at hl 1 rfl) ?_
   refine lv_iload_n hx hb d_Walk_turn_43 rfl (lv_at hl 2 rfl) ?_
   refine lv_iload_n hx hb d_Walk_turn_44 rfl (lv_at hl 0 rfl) ?_
   refine cc_i (va_runV (As := [.int x1, .int t1]) (rest := []) ⟨hx, hb, hml, hown, hts⟩ (ct_Walk_isAhead l D a cA cZ G _ x1 t1 u2 _ hI h) (pw_cwV 2 hts kw_694 kw_53 kw_691 kw_693 kw_16 (by decide +kernel) ⟨Nat.le_of_ble_eq_true rfl, Nat.le_of_ble_eq_true rfl⟩) ⟨cw_blindX, va_recv hK hP (ci := 10) (q0 := 7) rfl cw_at_7, fun U hU hW => ⟨rfl, ⟨by rw [hU], by rw [hU]; exact hP, va_K.moved hW.alike hK⟩, cw_Ex_call EX hS (pw_FA hS hF hA) hU hW⟩⟩ rfl rfl hl.1 rfl (lv_room (Nat.le_of_ble_eq_true rfl)) d_Walk_turn_45 ⟨Nat.le_of_ble_eq_true rfl, Nat.le_of_ble_eq_true rfl⟩) hS hF hA (fun r6 u5 H locs hP hS h => ?_)
   refine lv_if_eq (tgt := 60) hx hb d_Walk_turn_48 (by decide) (fun c7 => ?_) (fun c7 => ?_)
   · have h := h.1 c7
     exact W.vret hx hb hr (fun t ht hW => ⟨⟨u5, rfl, h, by rw [ht]; exact hP, va_K.moved hW.alike hK⟩, hS.F ht⟩) hS.2.2 d_Walk_turn_60 hlocks
   · have h := h.2 c7
     refine lv_aload_n hx hb d_Walk_turn_51 rfl (lv_at hl 1 rfl) ?_
     refine lv_iload_n hx hb d_Walk_turn_52 rfl (lv_at hl 0 rfl) ?_
     refine va_put (D := D) (ci := 10) (v := .int t1) (ty := .int) (C := R_Walk) (T := T_Walk) (N := 8) hx hb hts in_Walk ty_Walk tyok_Walk nm_Walk hown hK hP (hD _) hS 7 cw_at_7 rfl 6 (by decide) (hts _ (List.mem_cons_of_mem _ kw_226)) (fun _ h9 => h9) rfl (by decide +kernel) rfl rfl (Nat.le_of_ble_eq_true rfl) d_Walk_turn_53 (fun H locs hP _ hS => ?_)
     obtain ⟨u8, eu8⟩ : ∃ z, z = pw_si u5 5 t1 := ⟨_, rfl⟩
     rw [cw_si_7_6, ← eu8] at hP
     have h := h u8 eu8
     refine lv_aload_n hx hb d_Walk_turn_56 rfl (lv_at hl 1 rfl) ?_
     refine cc_v (va_runV (As := []) (rest := []) ⟨hx, hb, hml, hown, hts⟩ (ct_Walk_noteCorner l D a cA cZ G _  u8 _ hI h) (pw_cwV 0 hts kw_684 kw_53 kw_681 kw_683 kw_14 (by decide +kernel) ⟨Nat.le_of_ble_eq_true rfl, Nat.le_of_ble_eq_true rfl⟩) ⟨pw_blind, va_recv hK hP (ci := 10) (q0 := 7) rfl cw_at_7, fun U hU hW => ⟨rfl, by rw [hU], by rw [hU]; exact hP, va_K.moved hW.alike hK⟩⟩ rfl rfl hl.1 rfl (lv_room (Nat.le_of_ble_eq_true rfl)) d_Walk_turn_57 ⟨Nat.le_of_ble_eq_true rfl, Nat.le_of_ble_eq_true rfl⟩) hS hF hA (fun u9 H locs hP hS h => ?_)
     exact W.vret hx hb hr (fun t ht hW => ⟨⟨u9, rfl, h, by rw [ht]; exact hP, va_K.moved hW.alike hK⟩, hS.F ht⟩) hS.2.2 d_Walk_turn_60 hlocks
 · have h := h.1 c4
   refine lv_aload_n hx hb d_Walk_turn_23 rfl (lv_at hl 1 rfl) ?_
   refine lv_aload_n hx hb d_Walk_turn_24 rfl (lv_at hl 1 rfl) ?_
   refine va_get (D := D) (ci := 10) (v := .int (u2.1 5)) (C := R_Walk) (T := T_Walk) (N := 8) hx hb hts in_Walk hown hK hP 7 cw_at_7 rfl 6 (by decide) (hts _ (List.mem_cons_of_mem _ kw_226)) (fun _ h9 => h9) rfl d_Walk_turn_25 ?_
   refine lv_iconst (v := 1) hx hb d_Walk_turn_28 (by decide) ?_
   refine lv_iadd hx hb d_Walk_turn_29 ?_
   refine lv_iconst (v := 4) hx hb d_Walk_turn_30 (by decide) ?_
   refine lv_irem hx hb d_Walk_turn_31 (by decide) ?_
   refine va_put (D := D) (ci := 10) (v := .int (((u2.1 5) + 1) - ((u2.1 5) + 1) / 4 * 4)) (ty := .int) (C := R_Walk) (T := T_Walk) (N := 8) hx hb hts in_Walk ty_Walk tyok_Walk nm_Walk hown hK hP (hD _) hS 7 cw_at_7 rfl 6 (by decide) (hts _ (List.mem_cons_of_mem _ kw_226)) (fun _ h9 => h9) rfl (by decide +kernel) rfl rfl (Nat.le_of_ble_eq_true rfl) d_Walk_turn_32 (fun H locs hP _ hS => ?_)
   obtain ⟨u10, eu10⟩ : ∃ z, z = pw_si u2 5 (((u2.1 5) + 1) - ((u2.1 5) + 1) / 4 * 4) := ⟨_, rfl⟩
   rw [cw_si_7_6, ← eu10] at hP
   have h := h u10 eu10
   refine lv_aload_n hx hb d_Walk_turn_35 rfl (lv_at hl 1 rfl) ?_
   refine cc_v (va_runV (As := []) (rest := []) ⟨hx, hb, hml, hown, hts⟩ (ct_Walk_noteCorner l D a cA cZ G _  u10 _ hI h) (pw_cwV 0 hts kw_684 kw_53 kw_681 kw_683 kw_14 (by decide +kernel) ⟨Nat.le_of_ble_eq_true rfl, Nat.le_of_ble_eq_true rfl⟩) ⟨pw_blind, va_recv hK hP (ci := 10) (q0 := 7) rfl cw_at_7, fun U hU hW => ⟨rfl, by rw [hU], by rw [hU]; exact hP, va_K.moved hW.alike hK⟩⟩ rfl rfl hl.1 rfl (lv_room (Nat.le_of_ble_eq_true rfl)) d_Walk_turn_36 ⟨Nat.le_of_ble_eq_true rfl, Nat.le_of_ble_eq_true rfl⟩) hS hF hA (fun u11 H locs hP hS h => ?_)
   refine lv_goto (tgt := 60) hx hb d_Walk_turn_39 (by decide) ?_
   exact W.vret hx hb hr (fun t ht hW => ⟨⟨u11, rfl, h, by rw [ht]; exact hP, va_K.moved hW.alike hK⟩, hS.F ht⟩) hS.2.2 d_Walk_turn_60 hlocks
set_option maxHeartbeats 4000000 in
set_option maxRecDepth 100000 in
theorem ct_Walk_turn (l : Launch) (D : va_G) (a : Nat → Nat) (cA cZ : ClassId) (G : pG) (sz : Nat) (x1 : Int32) (u : pS) (Q : pS → Prop) (hI : pw_I 40 a) (h : wp_Walk_turn G x1 u Q) : Met l y_Walk_turn w_Walk_turn ({ frames := 3, cells := 0, slots := 0, locals := 68 } : Room) (va_Pc [.ref (a 7), .int x1] (fun U => pw_pre D (cw a cA cZ G) (cT cA cZ) sz u U ∧ cw_Ex (pw_F 40 a sz) U)) (va_Qv (fun (u : pS) => Q u) (pw_B D (cw a cA cZ G) (cT cA cZ)) (pw_F 40 a sz)) 0 0 (pw_F 40 a sz) := by
 refine Met.ofW (cc := b_Walk_turn) (maxL := 3) (ret := none) (by decide) rfl ?_
 intro p e s m args below meth c s₁ B hml hv
 obtain ⟨rfl, ⟨hsz, hP, hK⟩, EX⟩ := hv
 subst hsz
 have hl := lv_entry ([.ref (a 7), .int x1]) (n := 3) (Nat.le_of_ble_eq_true rfl)
 rw [lg_entry_eq]
 generalize (lg_sl ([.ref (a 7), .int x1]) ++ List.replicate (3 - (lg_sl ([.ref (a 7), .int x1])).length) Slot.unset).toArray = ls at hl ⊢
 exact st_Walk_turn (A := (pw_F 40 a s.heap.size)) ⟨B.exec, B.bytes, B.returns, hml, findClass_of_methodNamed B.named, atoms_spec (ws := w_Walk_turn) B.pre, B.notSynchronized, fun q hq => Or.inr hq⟩ ⟨hK, hI, fun k hk => Or.inl ⟨k, hk, rfl⟩⟩ EX x1 u ls hP hl h
set_option maxHeartbeats 4000000 in
set_option maxRecDepth 100000 in
theorem cp_Walk_round_107 {p : Program} {l : Launch} {e : Env} {s : State} {m : MethodId} {args : Array Value} {below : List Frame} {meth : Method} {c : Code} {D : va_G} {a : Nat → Nat} {cA cZ : ClassId} {G : pG} {A : Nat → Prop} {Q : pS → Prop} (C : pw_C p s m args meth c b_Walk_round 5 R_Walk none w_Walk_round A) (K : pw_K s D 40 a (cT cA cZ) A) (EX : cw_Ex A s) {k45 : Int32 → Int32 → Int32 → Int32 → pS → Prop} (hk45 : ∀ (x1 x2 x3 x4 : Int32) (u : pS) (H : Heap) (locs : List Loc) (ls : Array Slot), va_P D vwCl (cw a cA cZ G u) H → va_S A s.heap H locs → lv_has ls 5 [(0, .ref (a 7)), (1, .int x1), (2, .int x2), (3, .int x3), (4, .int x4)] → k45 x1 x2 x3 x4 u → W p l e ({ frames := 4, cells := 0, slots := 0, locals := 90 } : Room) s m args below meth c H locs 0 0 (pw_Ev below args s D (cw a cA cZ G) (cT cA cZ) A Q) (F0 m 45 ls [])) : ∀ (x1 x2 x3 x4 : Int32) (u : pS) (H : Heap) (locs : List Loc) (ls : Array Slot), va_P D vwCl (cw a cA cZ G u) H → va_S A s.heap H locs → lv_has ls 5 [(0, .ref (a 7)), (1, .int x1), (2, .int x2), (3, .int x3), (4, .int x4)] → jn_Walk_round_107 G Q k45 x1 x2 x3 x4 u → W p l e ({ frames := 4, cells := 0, slots := 0, locals := 90 } : Room) s m args below meth c H locs 0 0 (pw_Ev below args s D (cw a cA cZ G) (cT cA cZ) A Q) (F0 m 107 ls []) := by
 obtain ⟨hx, hb, hr, hml, hown, hts, hlocks, hA⟩ := id C
 obtain ⟨hK, hI, hF⟩ := id K
 have hD : ∀ u, va_D A (cw a cA cZ G u) := fun u => cw_D hI hF
 obtain ⟨t_STEP_X, t_STEP_Y, t_AHEAD_X, t_AHEAD_Y, hZ_t_STEP_X, hZ_t_STEP_Y, hZ_t_AHEAD_X, hZ_t_AHEAD_Y, hT_t_STEP_X, hT_t_STEP_Y, hT_t_AHEAD_X, hT_t_AHEAD_Y⟩ := EX.2
 intro x1 x2 x3 x4 u H locs ls hP hS hl h
 refine lv_aload_n hx hb d_Walk_round_107 rfl (lv_at hl 0 rfl) ?_
 refine lv_iload_n hx hb d_Walk_round_108 rfl (lv_at hl 1 rfl) ?_
 refine cc_v (va_runV (As := [.int x1]) (rest := []) ⟨hx, hb, hml, hown, hts⟩ (ct_Walk_turn l D a cA cZ G _ x1 u _ hI h) (pw_cwV 1 hts kw_690 kw_53 kw_687 kw_689 kw_15 (by decide +kernel) ⟨Nat.le_of_ble_eq_true rfl, Nat.le_of_ble_eq_true rfl⟩) ⟨cw_blindX, va_recv hK hP (ci := 10) (q0 := 7) rfl cw_at_7, fun U hU hW => ⟨rfl, ⟨by rw [hU], by rw [hU]; exact hP, va_K.moved hW.alike hK⟩, cw_Ex_call EX hS (pw_FA hS hF hA) hU hW⟩⟩ rfl rfl hl.1 rfl (lv_room (Nat.le_of_ble_eq_true rfl)) d_Walk_round_109 ⟨Nat.le_of_ble_eq_true rfl, Nat.le_of_ble_eq_true rfl⟩) hS hF hA (fun u14 H locs hP hS h => ?_)
 obtain ⟨t15, et15⟩ : ∃ y : Int32, y = x4 + 1 := ⟨_, rfl⟩
 have h := h t15 et15
 refine lv_iinc (v := t15) (lv' := [(4, .int t15), (0, .ref (a 7)), (1, .int x1), (2, .int x2), (3, .int x3)]) hx hb d_Walk_round_112 hl (k := 4) rfl (by rw [et15]; rfl) (by decide) rfl (fun ls hl => ?_)
 refine lv_goto (tgt := 45) hx hb d_Walk_round_115 (by decide) ?_
 exact hk45 x1 x2 x3 t15 u14 _ _ _ hP hS (lv_sub hl [1, 2, 3, 4, 0] rfl) h
set_option maxHeartbeats 4000000 in
set_option maxRecDepth 100000 in
theorem cp_Walk_round_45 {p : Program} {l : Launch} {e : Env} {s : State} {m : MethodId} {args : Array Value} {below : List Frame} {meth : Method} {c : Code} {D : va_G} {a : Nat → Nat} {cA cZ : ClassId} {G : pG} {A : Nat → Prop} {Q : pS → Prop} (C : pw_C p s m args meth c b_Walk_round 5 R_Walk none w_Walk_round A) (K : pw_K s D 40 a (cT cA cZ) A) (EX : cw_Ex A s) : ∀ (n : Nat), ∀ (x1 x2 x3 x4 : Int32) (u : pS) (H : Heap) (locs : List Loc) (ls : Array Slot), va_P D vwCl (cw a cA cZ G u) H → va_S A s.heap H locs → lv_has ls 5 [(0, .ref (a 7)), (1, .int x1), (2, .int x2), (3, .int x3), (4, .int x4)] → lp_Walk_round_45 G Q n x1 x2 x3 x4 u → W p l e ({ frames := 4, cells := 0, slots := 0, locals := 90 } : Room) s m args below meth c H locs 0 0 (pw_Ev below args s D (cw a cA cZ G) (cT cA cZ) A Q) (F0 m 45 ls []) := by
 obtain ⟨hx, hb, hr, hml, hown, hts, hlocks, hA⟩ := id C
 obtain ⟨hK, hI, hF⟩ := id K
 have hD : ∀ u, va_D A (cw a cA cZ G u) := fun u => cw_D hI hF
 obtain ⟨t_STEP_X, t_STEP_Y, t_AHEAD_X, t_AHEAD_Y, hZ_t_STEP_X, hZ_t_STEP_Y, hZ_t_AHEAD_X, hZ_t_AHEAD_Y, hT_t_STEP_X, hT_t_STEP_Y, hT_t_AHEAD_X, hT_t_AHEAD_Y⟩ := EX.2
 intro n
 induction n with
 | zero => intro x1 x2 x3 x4 u H locs ls hP hS hl h; exact h.elim
 | succ n ih =>
   intro x1 x2 x3 x4 u H locs ls hP hS hl h
   refine lv_iload hx hb d_Walk_round_45 (lv_at hl 4 rfl) ?_
   refine lv_aload_n hx hb d_Walk_round_47 rfl (lv_at hl 0 rfl) ?_
   refine va_get (D := D) (ci := 10) (v := .int (G.2.1 4)) (C := R_Walk) (T := T_Walk) (N := 8) hx hb hts in_Walk hown hK hP 7 cw_at_7 rfl 1 (by decide) (hts _ (List.mem_cons_of_mem _ kw_221)) (fun _ h9 => h9) rfl d_Walk_round_48 ?_
   refine lv_icmp_ge (tgt := 118) hx hb d_Walk_round_51 (by decide) (fun c10 => ?_) (fun c10 => ?_)
   · have h := h.1 c10
     exact W.vret hx hb hr (fun t ht hW => ⟨⟨u, rfl, h, by rw [ht]; exact hP, va_K.moved hW.alike hK⟩, hS.F ht⟩) hS.2.2 d_Walk_round_118 hlocks
   · have h := h.2 c10
     refine lv_aload_n hx hb d_Walk_round_54 rfl (lv_at hl 0 rfl) ?_
     refine lv_dup hx hb d_Walk_round_55 rfl ?_
     refine va_get (D := D) (ci := 10) (v := .int (u.1 3)) (C := R_Walk) (T := T_Walk) (N := 8) hx hb hts in_Walk hown hK hP 7 cw_at_7 rfl 4 (by decide) (hts _ (List.mem_cons_of_mem _ kw_224)) (fun _ h9 => h9) rfl d_Walk_round_56 ?_
     refine va_getsN hx hb hZ_t_STEP_X hS hown (va_Nw.use rfl (EX.1.1.1 ("PictureInlays$Walk", 61, "STEP_X") (by decide))) (fun _ h9 => h9) d_Walk_round_59 ?_
     refine lv_aload_n hx hb d_Walk_round_62 rfl (lv_at hl 0 rfl) ?_
     refine va_get (D := D) (ci := 10) (v := .int (u.1 5)) (C := R_Walk) (T := T_Walk) (N := 8) hx hb hts in_Walk hown hK hP 7 cw_at_7 rfl 6 (by decide) (hts _ (List.mem_cons_of_mem _ kw_226)) (fun _ h9 => h9) rfl d_Walk_round_63 ?_
     refine va_ti hx hb hT_t_STEP_X hS h.1 rfl d_Walk_round_66 ?_
     have h := h.2
     refine lv_iadd hx hb d_Walk_round_67 ?_
     refine va_put (D := D) (ci := 10) (v := .int ((u.1 3) + (tb_SX (u.1 5).toNatClampNeg))) (ty := .int) (C := R_Walk) (T := T_Walk) (N := 8) hx hb hts in_Walk ty_Walk tyok_Walk nm_Walk hown hK hP (hD _) hS 7 cw_at_7 rfl 4 (by decide) (hts _ (List.mem_cons_of_mem _ kw_224)) (fun _ h9 => h9) rfl (by decide +kernel) rfl rfl (Nat.le_of_ble_eq_true rfl) d_Walk_round_68 (fun H locs hP _ hS => ?_)
     obtain ⟨u11, eu11⟩ : ∃ z, z = pw_si u 3 ((u.1 3) + (tb_SX (u.1 5).toNatClampNeg)) := ⟨_, rfl⟩
     rw [cw_si_7_4, ← eu11] at hP
     have h := h u11 eu11
     refine lv_aload_n hx hb d_Walk_round_71 rfl (lv_at hl 0 rfl) ?_
     refine lv_dup hx hb d_Walk_round_72 rfl ?_
     refine va_get (D := D) (ci := 10) (v := .int (u11.1 4)) (C := R_Walk) (T := T_Walk) (N := 8) hx hb hts in_Walk hown hK hP 7 cw_at_7 rfl 5 (by decide) (hts _ (List.mem_cons_of_mem _ kw_225)) (fun _ h9 => h9) rfl d_Walk_round_73 ?_
     refine va_getsN hx hb hZ_t_STEP_Y hS hown (va_Nw.use rfl (EX.1.1.1 ("PictureInlays$Walk", 64, "STEP_Y") (by decide))) (fun _ h9 => h9) d_Walk_round_76 ?_
     refine lv_aload_n hx hb d_Walk_round_79 rfl (lv_at hl 0 rfl) ?_
     refine va_get (D := D) (ci := 10) (v := .int (u11.1 5)) (C := R_Walk) (T := T_Walk) (N := 8) hx hb hts in_Walk hown hK hP 7 cw_at_7 rfl 6 (by decide) (hts _ (List.mem_cons_of_mem _ kw_226)) (fun _ h9 => h9) rfl d_Walk_round_80 ?_
     refine va_ti hx hb hT_t_STEP_Y hS h.1 rfl d_Walk_round_83 ?_
     have h := h.2
     refine lv_iadd hx hb d_Walk_round_84 ?_
     refine va_put (D := D) (ci := 10) (v := .int ((u11.1 4) + (tb_SY (u11.1 5).toNatClampNeg))) (ty := .int) (C := R_Walk) (T := T_Walk) (N := 8) hx hb hts in_Walk ty_Walk tyok_Walk nm_Walk hown hK hP (hD _) hS 7 cw_at_7 rfl 5 (by decide) (hts _ (List.mem_cons_of_mem _ kw_225)) (fun _ h9 => h9) rfl (by decide +kernel) rfl rfl (Nat.le_of_ble_eq_true rfl) d_Walk_round_85 (fun H locs hP _ hS => ?_)
     obtain ⟨u12, eu12⟩ : ∃ z, z = pw_si u11 4 ((u11.1 4) + (tb_SY (u11.1 5).toNatClampNeg)) := ⟨_, rfl⟩
     rw [cw_si_7_5, ← eu12] at hP
     have h := h u12 eu12
     refine lv_aload_n hx hb d_Walk_round_88 rfl (lv_at hl 0 rfl) ?_
     refine va_get (D := D) (ci := 10) (v := .int (u12.1 3)) (C := R_Walk) (T := T_Walk) (N := 8) hx hb hts in_Walk hown hK hP 7 cw_at_7 rfl 4 (by decide) (hts _ (List.mem_cons_of_mem _ kw_224)) (fun _ h9 => h9) rfl d_Walk_round_89 ?_
     refine lv_iload_n hx hb d_Walk_round_92 rfl (lv_at hl 2 rfl) ?_
     refine lv_icmp_ne (tgt := 107) hx hb d_Walk_round_93 (by decide) (fun c13 => ?_) (fun c13 => ?_)
     · have h := h.2 c13
       exact cp_Walk_round_107 C K EX ih x1 x2 x3 x4 u12 _ _ _ hP hS (lv_sub hl [0, 1, 2, 3, 4] rfl) h
     · have h := h.1 c13
       refine lv_aload_n hx hb d_Walk_round_96 rfl (lv_at hl 0 rfl) ?_
       refine va_get (D := D) (ci := 10) (v := .int (u12.1 4)) (C := R_Walk) (T := T_Walk) (N := 8) hx hb hts in_Walk hown hK hP 7 cw_at_7 rfl 5 (by decide) (hts _ (List.mem_cons_of_mem _ kw_225)) (fun _ h9 => h9) rfl d_Walk_round_97 ?_
       refine lv_iload_n hx hb d_Walk_round_100 rfl (lv_at hl 3 rfl) ?_
       refine lv_icmp_ne (tgt := 107) hx hb d_Walk_round_101 (by decide) (fun c16 => ?_) (fun c16 => ?_)
       · have h := h.2 c16
         exact cp_Walk_round_107 C K EX ih x1 x2 x3 x4 u12 _ _ _ hP hS (lv_sub hl [0, 1, 2, 3, 4] rfl) h
       · have h := h.1 c16
         refine lv_goto (tgt := 118) hx hb d_Walk_round_104 (by decide) ?_
         exact W.vret hx hb hr (fun t ht hW => ⟨⟨u12, rfl, h, by rw [ht]; exact hP, va_K.moved hW.alike hK⟩, hS.F ht⟩) hS.2.2 d_Walk_round_118 hlocks
set_option maxHeartbeats 4000000 in
set_option maxRecDepth 100000 in
theorem st_Walk_round {p : Program} {l : Launch} {e : Env} {s : State} {m : MethodId} {args : Array Value} {below : List Frame} {meth : Method} {c : Code} {D : va_G} {a : Nat → Nat} {cA cZ : ClassId} {G : pG} {A : Nat → Prop} {Q : pS → Prop} (C : pw_C p s m args meth c b_Walk_round 5 R_Walk none w_Walk_round A) (K : pw_K s D 40 a (cT cA cZ) A) (EX : cw_Ex A s) (x1 : Int32) (u : pS) (ls : Array Slot) (hP : va_P D vwCl (cw a cA cZ G u) s.heap) (hl : lv_has ls 5 [(0, .ref (a 7)), (1, .int x1)]) (h : wp_Walk_round G x1 u Q) : W p l e ({ frames := 4, cells := 0, slots := 0, locals := 90 } : Room) s m args below meth c s.heap [] 0 0 (pw_Ev below args s D (cw a cA cZ G) (cT cA cZ) A Q) (F0 m 0 ls []) := by
 obtain ⟨hx, hb, hr, hml, hown, hts, hlocks, hA⟩ := id C
 obtain ⟨hK, hI, hF⟩ := id K
 have hD : ∀ u, va_D A (cw a cA cZ G u) := fun u => cw_D hI hF
 obtain ⟨t_STEP_X, t_STEP_Y, t_AHEAD_X, t_AHEAD_Y, hZ_t_STEP_X, hZ_t_STEP_Y, hZ_t_AHEAD_X, hZ_t_AHEAD_Y, hT_t_STEP_X, hT_t_STEP_Y, hT_t_AHEAD_X, hT_t_AHEAD_Y⟩ := EX.2
 have hS : va_S A s.heap s.heap [] := va_S.rf
 have h : wp_Walk_round G x1 u Q := h
 refine lv_aload_n hx hb d_Walk_round_0 rfl (lv_at hl 0 rfl) ?_
 refine va_get (D := D) (ci := 10) (v := .ref (a 4)) (C := R_Walk) (T := T_Walk) (N := 8) hx hb hts in_Walk hown hK hP 7 cw_at_7 rfl 0 (by decide) (hts _ (List.mem_cons_of_mem _ kw_220)) (fun _ h9 => h9) rfl d_Walk_round_1 ?_
 refine lv_iload_n hx hb d_Walk_round_4 rfl (lv_at hl 1 rfl) ?_
 refine cc_i (va_runV (As := [.int x1]) (rest := []) ⟨hx, hb, hml, hown, hts⟩ (ct_Pieces_firstXOf l D a cA cZ G _ x1 u _ hI h) (pw_cwV 1 hts kw_679 kw_49 kw_676 kw_677 kw_678 (by decide +kernel) ⟨Nat.le_of_ble_eq_true rfl, Nat.le_of_ble_eq_true rfl⟩) ⟨pw_blind, va_recv hK hP (ci := 7) (q0 := 4) rfl cw_at_4, fun U hU hW => ⟨rfl, by rw [hU], by rw [hU]; exact hP, va_K.moved hW.alike hK⟩⟩ rfl rfl hl.1 rfl (lv_room (Nat.le_of_ble_eq_true rfl)) d_Walk_round_5 ⟨Nat.le_of_ble_eq_true rfl, Nat.le_of_ble_eq_true rfl⟩) hS hF hA (fun r2 u1 H locs hP hS h => ?_)
 refine lv_istore_n (lv' := [(2, .int r2), (0, .ref (a 7)), (1, .int x1)]) hx hb d_Walk_round_8 rfl hl (by decide) rfl (fun ls hl => ?_)
 refine lv_aload_n hx hb d_Walk_round_9 rfl (lv_at hl 1 rfl) ?_
 refine va_get (D := D) (ci := 10) (v := .ref (a 4)) (C := R_Walk) (T := T_Walk) (N := 8) hx hb hts in_Walk hown hK hP 7 cw_at_7 rfl 0 (by decide) (hts _ (List.mem_cons_of_mem _ kw_220)) (fun _ h9 => h9) rfl d_Walk_round_10 ?_
 refine lv_iload_n hx hb d_Walk_round_13 rfl (lv_at hl 2 rfl) ?_
 refine cc_i (va_runV (As := [.int x1]) (rest := []) ⟨hx, hb, hml, hown, hts⟩ (ct_Pieces_leastYOf l D a cA cZ G _ x1 u1 _ hI h) (pw_cwV 1 hts kw_582 kw_49 kw_680 kw_580 kw_581 (by decide +kernel) ⟨Nat.le_of_ble_eq_true rfl, Nat.le_of_ble_eq_true rfl⟩) ⟨pw_blind, va_recv hK hP (ci := 7) (q0 := 4) rfl cw_at_4, fun U hU hW => ⟨rfl, by rw [hU], by rw [hU]; exact hP, va_K.moved hW.alike hK⟩⟩ rfl rfl hl.1 rfl (lv_room (Nat.le_of_ble_eq_true rfl)) d_Walk_round_14 ⟨Nat.le_of_ble_eq_true rfl, Nat.le_of_ble_eq_true rfl⟩) hS hF hA (fun r4 u3 H locs hP hS h => ?_)
 refine lv_istore_n (lv' := [(3, .int r4), (2, .int r2), (0, .ref (a 7)), (1, .int x1)]) hx hb d_Walk_round_17 rfl hl (by decide) rfl (fun ls hl => ?_)
 refine lv_aload_n hx hb d_Walk_round_18 rfl (lv_at hl 2 rfl) ?_
 refine lv_iload_n hx hb d_Walk_round_19 rfl (lv_at hl 1 rfl) ?_
 refine va_put (D := D) (ci := 10) (v := .int r2) (ty := .int) (C := R_Walk) (T := T_Walk) (N := 8) hx hb hts in_Walk ty_Walk tyok_Walk nm_Walk hown hK hP (hD _) hS 7 cw_at_7 rfl 4 (by decide) (hts _ (List.mem_cons_of_mem _ kw_224)) (fun _ h9 => h9) rfl (by decide +kernel) rfl rfl (Nat.le_of_ble_eq_true rfl) d_Walk_round_20 (fun H locs hP _ hS => ?_)
 obtain ⟨u5, eu5⟩ : ∃ z, z = pw_si u3 3 r2 := ⟨_, rfl⟩
 rw [cw_si_7_4, ← eu5] at hP
 have h := h u5 eu5
 refine lv_aload_n hx hb d_Walk_round_23 rfl (lv_at hl 2 rfl) ?_
 refine lv_iload_n hx hb d_Walk_round_24 rfl (lv_at hl 0 rfl) ?_
 refine va_put (D := D) (ci := 10) (v := .int r4) (ty := .int) (C := R_Walk) (T := T_Walk) (N := 8) hx hb hts in_Walk ty_Walk tyok_Walk nm_Walk hown hK hP (hD _) hS 7 cw_at_7 rfl 5 (by decide) (hts _ (List.mem_cons_of_mem _ kw_225)) (fun _ h9 => h9) rfl (by decide +kernel) rfl rfl (Nat.le_of_ble_eq_true rfl) d_Walk_round_25 (fun H locs hP _ hS => ?_)
 obtain ⟨u6, eu6⟩ : ∃ z, z = pw_si u5 4 r4 := ⟨_, rfl⟩
 rw [cw_si_7_5, ← eu6] at hP
 have h := h u6 eu6
 refine lv_aload_n hx hb d_Walk_round_28 rfl (lv_at hl 2 rfl) ?_
 refine lv_iconst (v := 0) hx hb d_Walk_round_29 (by decide) ?_
 refine va_put (D := D) (ci := 10) (v := .int 0) (ty := .int) (C := R_Walk) (T := T_Walk) (N := 8) hx hb hts in_Walk ty_Walk tyok_Walk nm_Walk hown hK hP (hD _) hS 7 cw_at_7 rfl 6 (by decide) (hts _ (List.mem_cons_of_mem _ kw_226)) (fun _ h9 => h9) rfl (by decide +kernel) rfl rfl (Nat.le_of_ble_eq_true rfl) d_Walk_round_30 (fun H locs hP _ hS => ?_)
 obtain ⟨u7, eu7⟩ : ∃ z, z = pw_si u6 5 0 := ⟨_, rfl⟩
 rw [cw_si_7_6, ← eu7] at hP
 have h := h u7 eu7
 refine lv_aload_n hx hb d_Walk_round_33 rfl (lv_at hl 2 rfl) ?_
 refine lv_iconst (v := 0) hx hb d_Walk_round_34 (by decide) ?_
 refine va_put (D := D) (ci := 10) (v := .int 0) (ty := .int) (C := R_Walk) (T := T_Walk) (N := 8) hx hb hts in_Walk ty_Walk tyok_Walk nm_Walk hown hK hP (hD _) hS 7 cw_at_7 rfl 7 (by decide) (hts _ (List.mem_cons_of_mem _ kw_227)) (fun _ h9 => h9) rfl (by decide +kernel) rfl rfl (Nat.le_of_ble_eq_true rfl) d_Walk_round_35 (fun H locs hP _ hS => ?_)
 obtain ⟨u8, eu8⟩ : ∃ z, z = pw_si u7 6 0 := ⟨_, rfl⟩
 rw [cw_si_7_7, ← eu8] at hP
 have h := h u8 eu8
 refine lv_aload_n hx hb d_Walk_round_38 rfl (lv_at hl 2 rfl) ?_
 refine cc_v (va_runV (As := []) (rest := []) ⟨hx, hb, hml, hown, hts⟩ (ct_Walk_noteCorner l D a cA cZ G _  u8 _ hI h) (pw_cwV 0 hts kw_684 kw_53 kw_681 kw_683 kw_14 (by decide +kernel) ⟨Nat.le_of_ble_eq_true rfl, Nat.le_of_ble_eq_true rfl⟩) ⟨pw_blind, va_recv hK hP (ci := 10) (q0 := 7) rfl cw_at_7, fun U hU hW => ⟨rfl, by rw [hU], by rw [hU]; exact hP, va_K.moved hW.alike hK⟩⟩ rfl rfl hl.1 rfl (lv_room (Nat.le_of_ble_eq_true rfl)) d_Walk_round_39 ⟨Nat.le_of_ble_eq_true rfl, Nat.le_of_ble_eq_true rfl⟩) hS hF hA (fun u9 H locs hP hS h => ?_)
 refine lv_iconst (v := 0) hx hb d_Walk_round_42 (by decide) ?_
 refine lv_istore (lv' := [(4, .int 0), (3, .int r4), (2, .int r2), (0, .ref (a 7)), (1, .int x1)]) hx hb d_Walk_round_43 hl (by decide) rfl (fun ls hl => ?_)
 obtain ⟨n1, h⟩ := h
 exact cp_Walk_round_45 C K EX n1 x1 r2 r4 0 u9 _ _ _ hP hS (lv_sub hl [3, 4, 2, 1, 0] rfl) h
set_option maxHeartbeats 4000000 in
set_option maxRecDepth 100000 in
theorem ct_Walk_round (l : Launch) (D : va_G) (a : Nat → Nat) (cA cZ : ClassId) (G : pG) (sz : Nat) (x1 : Int32) (u : pS) (Q : pS → Prop) (hI : pw_I 40 a) (h : wp_Walk_round G x1 u Q) : Met l y_Walk_round w_Walk_round ({ frames := 4, cells := 0, slots := 0, locals := 90 } : Room) (va_Pc [.ref (a 7), .int x1] (fun U => pw_pre D (cw a cA cZ G) (cT cA cZ) sz u U ∧ cw_Ex (pw_F 40 a sz) U)) (va_Qv (fun (u : pS) => Q u) (pw_B D (cw a cA cZ G) (cT cA cZ)) (pw_F 40 a sz)) 0 0 (pw_F 40 a sz) := by
 refine Met.ofW (cc := b_Walk_round) (maxL := 5) (ret := none) (by decide) rfl ?_
 intro p e s m args below meth c s₁ B hml hv
 obtain ⟨rfl, ⟨hsz, hP, hK⟩, EX⟩ := hv
 subst hsz
 have hl := lv_entry ([.ref (a 7), .int x1]) (n := 5) (Nat.le_of_ble_eq_true rfl)
 rw [lg_entry_eq]
 generalize (lg_sl ([.ref (a 7), .int x1]) ++ List.replicate (5 - (lg_sl ([.ref (a 7), .int x1])).length) Slot.unset).toArray = ls at hl ⊢
 exact st_Walk_round (A := (pw_F 40 a s.heap.size)) ⟨B.exec, B.bytes, B.returns, hml, findClass_of_methodNamed B.named, atoms_spec (ws := w_Walk_round) B.pre, B.notSynchronized, fun q hq => Or.inr hq⟩ ⟨hK, hI, fun k hk => Or.inl ⟨k, hk, rfl⟩⟩ EX x1 u ls hP hl h
set_option maxHeartbeats 4000000 in
set_option maxRecDepth 100000 in
theorem st_PI_outline {p : Program} {l : Launch} {e : Env} {s : State} {m : MethodId} {args : Array Value} {below : List Frame} {meth : Method} {c : Code} {D : va_G} {a : Nat → Nat} {cA cZ : ClassId} {G : pG} {A : Nat → Prop} {Q : Int32 → pS → Prop} {X : Nat → pS → Prop} (C : pw_C p s m args meth c b_PI_outline 2 R_PI (some .int) w_PI_outline A) (K : pw_K s D 40 a (cT cA cZ) A) (EX : cw_Ex A s) (hL : px_L l) (htr : e.platform.stackTraces = false) (hE : ∀ (pc : Nat), ∀ x ∈ c.exceptionTable.toList, covers x pc = false) (x1 : Int32) (u : pS) (ls : Array Slot) (hP : va_P D vwCl (cw a cA cZ G u) s.heap) (hl : lv_has ls 2 [(0, .ref (a 0)), (1, .int x1)]) (h : wp_PI_outline G x1 u Q X) : W p l e ({ frames := 8, cells := 1, slots := 6, locals := 124 } : Room) s m args below meth c s.heap [] 0 0 (px_Ei below args s D (cw a cA cZ G) (cT cA cZ) A Q X) (F0 m 0 ls []) := by
 obtain ⟨hx, hb, hr, hml, hown, hts, hlocks, hA⟩ := id C
 obtain ⟨hK, hI, hF⟩ := id K
 have hD : ∀ u, va_D A (cw a cA cZ G u) := fun u => cw_D hI hF
 have hz : ∀ oc t, px_T X (pw_B D (cw a cA cZ G) (cT cA cZ)) oc t → va_F A s t → (px_Qi Q X (pw_B D (cw a cA cZ G) (cT cA cZ)) A) args s oc t := fun oc t h1 h2 => ⟨Or.inr h1, h2⟩
 have hS : va_S A s.heap s.heap [] := va_S.rf
 have h : wp_PI_outline G x1 u Q X := h
 refine lv_aload_n hx hb d_PI_outline_0 rfl (lv_at hl 0 rfl) ?_
 refine lv_iload_n hx hb d_PI_outline_1 rfl (lv_at hl 1 rfl) ?_
 refine cx_v (px_runV (As := [.int x1]) (rest := []) ⟨hx, hb, hml, hown, hts⟩ (ct_PI_needPiece l D a cA cZ G _ x1 u _ _ hL hI h) (pw_cwV 1 hts kw_643 kw_45 kw_640 kw_642 kw_13 (by decide +kernel) ⟨Nat.le_of_ble_eq_true rfl, Nat.le_of_ble_eq_true rfl⟩) ⟨cw_blindX, va_recv hK hP (ci := 0) (q0 := 0) rfl cw_at_0, fun U hU hW => ⟨rfl, ⟨by rw [hU], by rw [hU]; exact hP, va_K.moved hW.alike hK⟩, cw_Ex_call EX hS (pw_FA hS hF hA) hU hW⟩⟩ rfl rfl hl.1 rfl (lv_room (Nat.le_of_ble_eq_true rfl)) d_PI_outline_2 ⟨Nat.le_of_ble_eq_true rfl, Nat.le_of_ble_eq_true rfl⟩) hS hF hA (hE _) hlocks hz (fun u1 H locs hP hS h => ?_)
 refine lv_aload_n hx hb d_PI_outline_5 rfl (lv_at hl 0 rfl) ?_
 refine va_get (D := D) (ci := 0) (v := .ref (a 7)) (C := R_PI) (T := T_PI) (N := 12) hx hb hts in_PI hown hK hP 0 cw_at_0 rfl 7 (by decide) (hts _ (List.mem_cons_of_mem _ kw_319)) (fun _ h9 => h9) rfl d_PI_outline_6 ?_
 refine lv_iload_n hx hb d_PI_outline_9 rfl (lv_at hl 1 rfl) ?_
 refine cc_v (va_runV (As := [.int x1]) (rest := []) ⟨hx, hb, hml, hown, hts⟩ (ct_Walk_round l D a cA cZ G _ x1 u1 _ hI h) (pw_cwV 1 hts kw_675 kw_53 kw_672 kw_673 kw_674 (by decide +kernel) ⟨Nat.le_of_ble_eq_true rfl, Nat.le_of_ble_eq_true rfl⟩) ⟨cw_blindX, va_recv hK hP (ci := 10) (q0 := 7) rfl cw_at_7, fun U hU hW => ⟨rfl, ⟨by rw [hU], by rw [hU]; exact hP, va_K.moved hW.alike hK⟩, cw_Ex_call EX hS (pw_FA hS hF hA) hU hW⟩⟩ rfl rfl hl.1 rfl (lv_room (Nat.le_of_ble_eq_true rfl)) d_PI_outline_10 ⟨Nat.le_of_ble_eq_true rfl, Nat.le_of_ble_eq_true rfl⟩) hS hF hA (fun u2 H locs hP hS h => ?_)
 refine lv_aload_n hx hb d_PI_outline_13 rfl (lv_at hl 0 rfl) ?_
 refine va_get (D := D) (ci := 0) (v := .ref (a 7)) (C := R_PI) (T := T_PI) (N := 12) hx hb hts in_PI hown hK hP 0 cw_at_0 rfl 7 (by decide) (hts _ (List.mem_cons_of_mem _ kw_319)) (fun _ h9 => h9) rfl d_PI_outline_14 ?_
 refine va_get (D := D) (ci := 10) (v := .int (u2.1 6)) (C := R_Walk) (T := T_Walk) (N := 8) hx hb hts in_Walk hown hK hP 7 cw_at_7 rfl 7 (by decide) (hts _ (List.mem_cons_of_mem _ kw_228)) (fun _ h9 => h9) rfl d_PI_outline_17 ?_
 exact px_mono (fun t h => px_ofMQ (fun _ _ h => h) h) (W.iret (Qc := px_Qi Q X (pw_B D (cw a cA cZ G) (cT cA cZ)) A) (v := (u2.1 6)) hx hb hr (fun t ht hW => ⟨Or.inl ⟨(u2.1 6), u2, rfl, h, by rw [ht]; exact hP, va_K.moved hW.alike hK⟩, hS.F ht⟩) hS.2.2 d_PI_outline_20 hlocks)
set_option maxHeartbeats 4000000 in
set_option maxRecDepth 100000 in
theorem ct_PI_outline (l : Launch) (D : va_G) (a : Nat → Nat) (cA cZ : ClassId) (G : pG) (sz : Nat) (x1 : Int32) (u : pS) (Q : Int32 → pS → Prop) (X : Nat → pS → Prop) (hL : px_L l) (hI : pw_I 40 a) (h : wp_PI_outline G x1 u Q X) : px_Met l y_PI_outline w_PI_outline ({ frames := 8, cells := 1, slots := 6, locals := 124 } : Room) (va_Pc [.ref (a 0), .int x1] (fun U => pw_pre D (cw a cA cZ G) (cT cA cZ) sz u U ∧ cw_Ex (pw_F 40 a sz) U)) (px_Qi Q X (pw_B D (cw a cA cZ G) (cT cA cZ)) (pw_F 40 a sz)) 0 0 1 6 (pw_F 40 a sz) := by
 refine px_ofW (cc := b_PI_outline) (maxL := 2) (ret := (some .int)) (by decide) rfl ?_
 intro p e s m args below meth c s₁ B hml hE hv
 obtain ⟨rfl, ⟨hsz, hP, hK⟩, EX⟩ := hv
 subst hsz
 have hl := lv_entry ([.ref (a 0), .int x1]) (n := 2) (Nat.le_of_ble_eq_true rfl)
 rw [lg_entry_eq]
 generalize (lg_sl ([.ref (a 0), .int x1]) ++ List.replicate (2 - (lg_sl ([.ref (a 0), .int x1])).length) Slot.unset).toArray = ls at hl ⊢
 exact st_PI_outline (A := (pw_F 40 a s.heap.size)) ⟨B.exec, B.bytes, B.returns, hml, findClass_of_methodNamed B.named, atoms_spec (ws := w_PI_outline) B.pre, B.notSynchronized, fun q hq => Or.inr hq⟩ ⟨hK, hI, fun k hk => Or.inl ⟨k, hk, rfl⟩⟩ EX hL (hL e B.admits) (px_none hE) x1 u ls hP hl h
set_option maxHeartbeats 4000000 in
set_option maxRecDepth 100000 in
theorem st_Walk_cornerY {p : Program} {l : Launch} {e : Env} {s : State} {m : MethodId} {args : Array Value} {below : List Frame} {meth : Method} {c : Code} {D : va_G} {a : Nat → Nat} {cA cZ : ClassId} {G : pG} {A : Nat → Prop} {Q : Int32 → pS → Prop} (C : pw_C p s m args meth c b_Walk_cornerY 2 R_Walk (some .int) w_Walk_cornerY A) (K : pw_K s D 40 a (cT cA cZ) A) (x1 : Int32) (u : pS) (ls : Array Slot) (hP : va_P D vwCl (cw a cA cZ G u) s.heap) (hl : lv_has ls 2 [(0, .ref (a 7)), (1, .int x1)]) (h : wp_Walk_cornerY G x1 u Q) : W p l e ({ frames := 0, cells := 0, slots := 0, locals := 0 } : Room) s m args below meth c s.heap [] 0 0 (pw_Ei below args s D (cw a cA cZ G) (cT cA cZ) A Q) (F0 m 0 ls []) := by
 obtain ⟨hx, hb, hr, hml, hown, hts, hlocks, hA⟩ := id C
 obtain ⟨hK, hI, hF⟩ := id K
 have hD : ∀ u, va_D A (cw a cA cZ G u) := fun u => cw_D hI hF
 have hS : va_S A s.heap s.heap [] := va_S.rf
 have h : wp_Walk_cornerY G x1 u Q := h
 refine lv_aload_n hx hb d_Walk_cornerY_0 rfl (lv_at hl 0 rfl) ?_
 refine va_get (D := D) (ci := 10) (v := .ref (a 33)) (C := R_Walk) (T := T_Walk) (N := 8) hx hb hts in_Walk hown hK hP 7 cw_at_7 rfl 3 (by decide) (hts _ (List.mem_cons_of_mem _ kw_223)) (fun _ h9 => h9) rfl d_Walk_cornerY_1 ?_
 refine lv_iload_n hx hb d_Walk_cornerY_4 rfl (lv_at hl 1 rfl) ?_
 refine va_iald hx hb hK hP 33 0 cw_at_33 rfl h.1 d_Walk_cornerY_5 ?_
 have h := h.2
 exact W.iret (v := (u.2 19 x1.toNatClampNeg)) hx hb hr (fun t ht hW => ⟨⟨(u.2 19 x1.toNatClampNeg), u, rfl, h, by rw [ht]; exact hP, va_K.moved hW.alike hK⟩, hS.F ht⟩) hS.2.2 d_Walk_cornerY_6 hlocks
set_option maxHeartbeats 4000000 in
set_option maxRecDepth 100000 in
theorem ct_Walk_cornerY (l : Launch) (D : va_G) (a : Nat → Nat) (cA cZ : ClassId) (G : pG) (sz : Nat) (x1 : Int32) (u : pS) (Q : Int32 → pS → Prop) (hI : pw_I 40 a) (h : wp_Walk_cornerY G x1 u Q) : Met l y_Walk_cornerY w_Walk_cornerY ({ frames := 0, cells := 0, slots := 0, locals := 0 } : Room) (va_Pc [.ref (a 7), .int x1] (pw_pre D (cw a cA cZ G) (cT cA cZ) sz u)) (va_Qi (fun (r : Int32) (u : pS) => Q r u) (pw_B D (cw a cA cZ G) (cT cA cZ)) (pw_F 40 a sz)) 0 0 (pw_F 40 a sz) := by
 refine Met.ofW (cc := b_Walk_cornerY) (maxL := 2) (ret := (some .int)) (by decide) rfl ?_
 intro p e s m args below meth c s₁ B hml hv
 obtain ⟨rfl, hsz, hP, hK⟩ := hv
 subst hsz
 have hl := lv_entry ([.ref (a 7), .int x1]) (n := 2) (Nat.le_of_ble_eq_true rfl)
 rw [lg_entry_eq]
 generalize (lg_sl ([.ref (a 7), .int x1]) ++ List.replicate (2 - (lg_sl ([.ref (a 7), .int x1])).length) Slot.unset).toArray = ls at hl ⊢
 exact st_Walk_cornerY (A := (pw_F 40 a s.heap.size)) ⟨B.exec, B.bytes, B.returns, hml, findClass_of_methodNamed B.named, atoms_spec (ws := w_Walk_cornerY) B.pre, B.notSynchronized, fun q hq => Or.inr hq⟩ ⟨hK, hI, fun k hk => Or.inl ⟨k, hk, rfl⟩⟩ x1 u ls hP hl h
set_option maxHeartbeats 4000000 in
set_option maxRecDepth 100000 in
theorem st_Walk_cornerX {p : Program} {l : Launch} {e : Env} {s : State} {m : MethodId} {args : Array Value} {below : List Frame} {meth : Method} {c : Code} {D : va_G} {a : Nat → Nat} {cA cZ : ClassId} {G : pG} {A : Nat → Prop} {Q : Int32 → pS → Prop} (C : pw_C p s m args meth c b_Walk_cornerX 2 R_Walk (some .int) w_Walk_cornerX A) (K : pw_K s D 40 a (cT cA cZ) A) (x1 : Int32) (u : pS) (ls : Array Slot) (hP : va_P D vwCl (cw a cA cZ G u) s.heap) (hl : lv_has ls 2 [(0, .ref (a 7)), (1, .int x1)]) (h : wp_Walk_cornerX G x1 u Q) : W p l e ({ frames := 0, cells := 0, slots := 0, locals := 0 } : Room) s m args below meth c s.heap [] 0 0 (pw_Ei below args s D (cw a cA cZ G) (cT cA cZ) A Q) (F0 m 0 ls []) := by
 obtain ⟨hx, hb, hr, hml, hown, hts, hlocks, hA⟩ := id C
 obtain ⟨hK, hI, hF⟩ := id K
 have hD : ∀ u, va_D A (cw a cA cZ G u) := fun u => cw_D hI hF
 have hS : va_S A s.heap s.heap [] := va_S.rf
 have h : wp_Walk_cornerX G x1 u Q := h
 refine lv_aload_n hx hb d_Walk_cornerX_0 rfl (lv_at hl 0 rfl) ?_
 refine va_get (D := D) (ci := 10) (v := .ref (a 32)) (C := R_Walk) (T := T_Walk) (N := 8) hx hb hts in_Walk hown hK hP 7 cw_at_7 rfl 2 (by decide) (hts _ (List.mem_cons_of_mem _ kw_222)) (fun _ h9 => h9) rfl d_Walk_cornerX_1 ?_
 refine lv_iload_n hx hb d_Walk_cornerX_4 rfl (lv_at hl 1 rfl) ?_
 refine va_iald hx hb hK hP 32 0 cw_at_32 rfl h.1 d_Walk_cornerX_5 ?_
 have h := h.2
 exact W.iret (v := (u.2 18 x1.toNatClampNeg)) hx hb hr (fun t ht hW => ⟨⟨(u.2 18 x1.toNatClampNeg), u, rfl, h, by rw [ht]; exact hP, va_K.moved hW.alike hK⟩, hS.F ht⟩) hS.2.2 d_Walk_cornerX_6 hlocks
set_option maxHeartbeats 4000000 in
set_option maxRecDepth 100000 in
theorem ct_Walk_cornerX (l : Launch) (D : va_G) (a : Nat → Nat) (cA cZ : ClassId) (G : pG) (sz : Nat) (x1 : Int32) (u : pS) (Q : Int32 → pS → Prop) (hI : pw_I 40 a) (h : wp_Walk_cornerX G x1 u Q) : Met l y_Walk_cornerX w_Walk_cornerX ({ frames := 0, cells := 0, slots := 0, locals := 0 } : Room) (va_Pc [.ref (a 7), .int x1] (pw_pre D (cw a cA cZ G) (cT cA cZ) sz u)) (va_Qi (fun (r : Int32) (u : pS) => Q r u) (pw_B D (cw a cA cZ G) (cT cA cZ)) (pw_F 40 a sz)) 0 0 (pw_F 40 a sz) := by
 refine Met.ofW (cc := b_Walk_cornerX) (maxL := 2) (ret := (some .int)) (by decide) rfl ?_
 intro p e s m args below meth c s₁ B hml hv
 obtain ⟨rfl, hsz, hP, hK⟩ := hv
 subst hsz
 have hl := lv_entry ([.ref (a 7), .int x1]) (n := 2) (Nat.le_of_ble_eq_true rfl)
 rw [lg_entry_eq]
 generalize (lg_sl ([.ref (a 7), .int x1]) ++ List.replicate (2 - (lg_sl ([.ref (a 7), .int x1])).length) Slot.unset).toArray = ls at hl ⊢
 exact st_Walk_cornerX (A := (pw_F 40 a s.heap.size)) ⟨B.exec, B.bytes, B.returns, hml, findClass_of_methodNamed B.named, atoms_spec (ws := w_Walk_cornerX) B.pre, B.notSynchronized, fun q hq => Or.inr hq⟩ ⟨hK, hI, fun k hk => Or.inl ⟨k, hk, rfl⟩⟩ x1 u ls hP hl h
set_option maxHeartbeats 4000000 in
set_option maxRecDepth 100000 in
theorem st_PI_corner {p : Program} {l : Launch} {e : Env} {s : State} {m : MethodId} {args : Array Value} {below : List Frame} {meth : Method} {c : Code} {D : va_G} {a : Nat → Nat} {cA cZ : ClassId} {G : pG} {A : Nat → Prop} {Q : Int32 → pS → Prop} {X : Nat → pS → Prop} (C : pw_C p s m args meth c b_PI_corner 4 R_PI (some .int) w_PI_corner A) (K : pw_K s D 40 a (cT cA cZ) A) (EX : cw_Ex A s) (hL : px_L l) (htr : e.platform.stackTraces = false) (hE : ∀ (pc : Nat), ∀ x ∈ c.exceptionTable.toList, covers x pc = false) (x1 x2 x3 : Int32) (u : pS) (ls : Array Slot) (hP : va_P D vwCl (cw a cA cZ G u) s.heap) (hl : lv_has ls 4 [(0, .ref (a 0)), (1, .int x1), (2, .int x2), (3, .int x3)]) (h : wp_PI_corner G x1 x2 x3 u Q X) : W p l e ({ frames := 8, cells := 1, slots := 6, locals := 124 } : Room) s m args below meth c s.heap [] 0 0 (px_Ei below args s D (cw a cA cZ G) (cT cA cZ) A Q X) (F0 m 0 ls []) := by
 obtain ⟨hx, hb, hr, hml, hown, hts, hlocks, hA⟩ := id C
 obtain ⟨hK, hI, hF⟩ := id K
 have hD : ∀ u, va_D A (cw a cA cZ G u) := fun u => cw_D hI hF
 have hz : ∀ oc t, px_T X (pw_B D (cw a cA cZ G) (cT cA cZ)) oc t → va_F A s t → (px_Qi Q X (pw_B D (cw a cA cZ G) (cT cA cZ)) A) args s oc t := fun oc t h1 h2 => ⟨Or.inr h1, h2⟩
 have hS : va_S A s.heap s.heap [] := va_S.rf
 have h : wp_PI_corner G x1 x2 x3 u Q X := h
 refine lv_aload_n hx hb d_PI_corner_0 rfl (lv_at hl 0 rfl) ?_
 refine lv_iload_n hx hb d_PI_corner_1 rfl (lv_at hl 1 rfl) ?_
 refine cx_v (px_runV (As := [.int x1]) (rest := []) ⟨hx, hb, hml, hown, hts⟩ (ct_PI_needPiece l D a cA cZ G _ x1 u _ _ hL hI h) (pw_cwV 1 hts kw_643 kw_45 kw_640 kw_642 kw_13 (by decide +kernel) ⟨Nat.le_of_ble_eq_true rfl, Nat.le_of_ble_eq_true rfl⟩) ⟨cw_blindX, va_recv hK hP (ci := 0) (q0 := 0) rfl cw_at_0, fun U hU hW => ⟨rfl, ⟨by rw [hU], by rw [hU]; exact hP, va_K.moved hW.alike hK⟩, cw_Ex_call EX hS (pw_FA hS hF hA) hU hW⟩⟩ rfl rfl hl.1 rfl (lv_room (Nat.le_of_ble_eq_true rfl)) d_PI_corner_2 ⟨Nat.le_of_ble_eq_true rfl, Nat.le_of_ble_eq_true rfl⟩) hS hF hA (hE _) hlocks hz (fun u1 H locs hP hS h => ?_)
 refine lv_iload_n hx hb d_PI_corner_5 rfl (lv_at hl 3 rfl) ?_
 refine lv_iconst (v := 2) hx hb d_PI_corner_6 (by decide) ?_
 refine cx_v (px_runS (As := [.int x3, .int 2]) (rest := []) ⟨hx, hb, hml, hown, hts⟩ (ct_PI_needIndex l D a cA cZ G _ x3 2 u1 _ _ hL hI h) (pw_cwS 2 hts kw_367 kw_45 kw_365 kw_366 (by decide +kernel) ⟨Nat.le_of_ble_eq_true rfl, Nat.le_of_ble_eq_true rfl⟩) ⟨cw_blindX, fun U hU hW => ⟨rfl, ⟨by rw [hU], by rw [hU]; exact hP, va_K.moved hW.alike hK⟩, cw_Ex_call EX hS (pw_FA hS hF hA) hU hW⟩⟩ rfl rfl hl.1 rfl (lv_room (Nat.le_of_ble_eq_true rfl)) d_PI_corner_7 ⟨Nat.le_of_ble_eq_true rfl, Nat.le_of_ble_eq_true rfl⟩) hS hF hA (hE _) hlocks hz (fun u2 H locs hP hS h => ?_)
 refine lv_aload_n hx hb d_PI_corner_10 rfl (lv_at hl 0 rfl) ?_
 refine va_get (D := D) (ci := 0) (v := .ref (a 7)) (C := R_PI) (T := T_PI) (N := 12) hx hb hts in_PI hown hK hP 0 cw_at_0 rfl 7 (by decide) (hts _ (List.mem_cons_of_mem _ kw_319)) (fun _ h9 => h9) rfl d_PI_corner_11 ?_
 refine lv_iload_n hx hb d_PI_corner_14 rfl (lv_at hl 1 rfl) ?_
 refine cc_v (va_runV (As := [.int x1]) (rest := []) ⟨hx, hb, hml, hown, hts⟩ (ct_Walk_round l D a cA cZ G _ x1 u2 _ hI h) (pw_cwV 1 hts kw_675 kw_53 kw_672 kw_673 kw_674 (by decide +kernel) ⟨Nat.le_of_ble_eq_true rfl, Nat.le_of_ble_eq_true rfl⟩) ⟨cw_blindX, va_recv hK hP (ci := 10) (q0 := 7) rfl cw_at_7, fun U hU hW => ⟨rfl, ⟨by rw [hU], by rw [hU]; exact hP, va_K.moved hW.alike hK⟩, cw_Ex_call EX hS (pw_FA hS hF hA) hU hW⟩⟩ rfl rfl hl.1 rfl (lv_room (Nat.le_of_ble_eq_true rfl)) d_PI_corner_15 ⟨Nat.le_of_ble_eq_true rfl, Nat.le_of_ble_eq_true rfl⟩) hS hF hA (fun u3 H locs hP hS h => ?_)
 refine lv_iload_n hx hb d_PI_corner_18 rfl (lv_at hl 2 rfl) ?_
 refine lv_aload_n hx hb d_PI_corner_19 rfl (lv_at hl 0 rfl) ?_
 refine va_get (D := D) (ci := 0) (v := .ref (a 7)) (C := R_PI) (T := T_PI) (N := 12) hx hb hts in_PI hown hK hP 0 cw_at_0 rfl 7 (by decide) (hts _ (List.mem_cons_of_mem _ kw_319)) (fun _ h9 => h9) rfl d_PI_corner_20 ?_
 refine va_get (D := D) (ci := 10) (v := .int (u3.1 6)) (C := R_Walk) (T := T_Walk) (N := 8) hx hb hts in_Walk hown hK hP 7 cw_at_7 rfl 7 (by decide) (hts _ (List.mem_cons_of_mem _ kw_228)) (fun _ h9 => h9) rfl d_PI_corner_23 ?_
 refine cx_v (px_runS (As := [.int x2, .int (u3.1 6)]) (rest := []) ⟨hx, hb, hml, hown, hts⟩ (ct_PI_needIndex l D a cA cZ G _ x2 (u3.1 6) u3 _ _ hL hI h) (pw_cwS 2 hts kw_367 kw_45 kw_365 kw_366 (by decide +kernel) ⟨Nat.le_of_ble_eq_true rfl, Nat.le_of_ble_eq_true rfl⟩) ⟨cw_blindX, fun U hU hW => ⟨rfl, ⟨by rw [hU], by rw [hU]; exact hP, va_K.moved hW.alike hK⟩, cw_Ex_call EX hS (pw_FA hS hF hA) hU hW⟩⟩ rfl rfl hl.1 rfl (lv_room (Nat.le_of_ble_eq_true rfl)) d_PI_corner_26 ⟨Nat.le_of_ble_eq_true rfl, Nat.le_of_ble_eq_true rfl⟩) hS hF hA (hE _) hlocks hz (fun u4 H locs hP hS h => ?_)
 refine lv_iload_n hx hb d_PI_corner_29 rfl (lv_at hl 3 rfl) ?_
 refine lv_if_ne (tgt := 44) hx hb d_PI_corner_30 (by decide) (fun c5 => ?_) (fun c5 => ?_)
 · have h := h.2 c5
   refine lv_aload_n hx hb d_PI_corner_44 rfl (lv_at hl 0 rfl) ?_
   refine va_get (D := D) (ci := 0) (v := .ref (a 7)) (C := R_PI) (T := T_PI) (N := 12) hx hb hts in_PI hown hK hP 0 cw_at_0 rfl 7 (by decide) (hts _ (List.mem_cons_of_mem _ kw_319)) (fun _ h9 => h9) rfl d_PI_corner_45 ?_
   refine lv_iload_n hx hb d_PI_corner_48 rfl (lv_at hl 2 rfl) ?_
   refine cc_i (va_runV (As := [.int x2]) (rest := []) ⟨hx, hb, hml, hown, hts⟩ (ct_Walk_cornerY l D a cA cZ G _ x2 u4 _ hI h) (pw_cwV 1 hts kw_714 kw_53 kw_711 kw_712 kw_713 (by decide +kernel) ⟨Nat.le_of_ble_eq_true rfl, Nat.le_of_ble_eq_true rfl⟩) ⟨pw_blind, va_recv hK hP (ci := 10) (q0 := 7) rfl cw_at_7, fun U hU hW => ⟨rfl, by rw [hU], by rw [hU]; exact hP, va_K.moved hW.alike hK⟩⟩ rfl rfl hl.1 rfl (lv_room (Nat.le_of_ble_eq_true rfl)) d_PI_corner_49 ⟨Nat.le_of_ble_eq_true rfl, Nat.le_of_ble_eq_true rfl⟩) hS hF hA (fun r7 u6 H locs hP hS h => ?_)
   exact px_mono (fun t h => px_ofMQ (fun _ _ h => h) h) (W.iret (Qc := px_Qi Q X (pw_B D (cw a cA cZ G) (cT cA cZ)) A) (v := r7) hx hb hr (fun t ht hW => ⟨Or.inl ⟨r7, u6, rfl, h, by rw [ht]; exact hP, va_K.moved hW.alike hK⟩, hS.F ht⟩) hS.2.2 d_PI_corner_52 hlocks)
 · have h := h.1 c5
   refine lv_aload_n hx hb d_PI_corner_33 rfl (lv_at hl 0 rfl) ?_
   refine va_get (D := D) (ci := 0) (v := .ref (a 7)) (C := R_PI) (T := T_PI) (N := 12) hx hb hts in_PI hown hK hP 0 cw_at_0 rfl 7 (by decide) (hts _ (List.mem_cons_of_mem _ kw_319)) (fun _ h9 => h9) rfl d_PI_corner_34 ?_
   refine lv_iload_n hx hb d_PI_corner_37 rfl (lv_at hl 2 rfl) ?_
   refine cc_i (va_runV (As := [.int x2]) (rest := []) ⟨hx, hb, hml, hown, hts⟩ (ct_Walk_cornerX l D a cA cZ G _ x2 u4 _ hI h) (pw_cwV 1 hts kw_710 kw_53 kw_707 kw_708 kw_709 (by decide +kernel) ⟨Nat.le_of_ble_eq_true rfl, Nat.le_of_ble_eq_true rfl⟩) ⟨pw_blind, va_recv hK hP (ci := 10) (q0 := 7) rfl cw_at_7, fun U hU hW => ⟨rfl, by rw [hU], by rw [hU]; exact hP, va_K.moved hW.alike hK⟩⟩ rfl rfl hl.1 rfl (lv_room (Nat.le_of_ble_eq_true rfl)) d_PI_corner_38 ⟨Nat.le_of_ble_eq_true rfl, Nat.le_of_ble_eq_true rfl⟩) hS hF hA (fun r9 u8 H locs hP hS h => ?_)
   refine lv_goto (tgt := 52) hx hb d_PI_corner_41 (by decide) ?_
   exact px_mono (fun t h => px_ofMQ (fun _ _ h => h) h) (W.iret (Qc := px_Qi Q X (pw_B D (cw a cA cZ G) (cT cA cZ)) A) (v := r9) hx hb hr (fun t ht hW => ⟨Or.inl ⟨r9, u8, rfl, h, by rw [ht]; exact hP, va_K.moved hW.alike hK⟩, hS.F ht⟩) hS.2.2 d_PI_corner_52 hlocks)
set_option maxHeartbeats 4000000 in
set_option maxRecDepth 100000 in
theorem ct_PI_corner (l : Launch) (D : va_G) (a : Nat → Nat) (cA cZ : ClassId) (G : pG) (sz : Nat) (x1 x2 x3 : Int32) (u : pS) (Q : Int32 → pS → Prop) (X : Nat → pS → Prop) (hL : px_L l) (hI : pw_I 40 a) (h : wp_PI_corner G x1 x2 x3 u Q X) : px_Met l y_PI_corner w_PI_corner ({ frames := 8, cells := 1, slots := 6, locals := 124 } : Room) (va_Pc [.ref (a 0), .int x1, .int x2, .int x3] (fun U => pw_pre D (cw a cA cZ G) (cT cA cZ) sz u U ∧ cw_Ex (pw_F 40 a sz) U)) (px_Qi Q X (pw_B D (cw a cA cZ G) (cT cA cZ)) (pw_F 40 a sz)) 0 0 1 6 (pw_F 40 a sz) := by
 refine px_ofW (cc := b_PI_corner) (maxL := 4) (ret := (some .int)) (by decide) rfl ?_
 intro p e s m args below meth c s₁ B hml hE hv
 obtain ⟨rfl, ⟨hsz, hP, hK⟩, EX⟩ := hv
 subst hsz
 have hl := lv_entry ([.ref (a 0), .int x1, .int x2, .int x3]) (n := 4) (Nat.le_of_ble_eq_true rfl)
 rw [lg_entry_eq]
 generalize (lg_sl ([.ref (a 0), .int x1, .int x2, .int x3]) ++ List.replicate (4 - (lg_sl ([.ref (a 0), .int x1, .int x2, .int x3])).length) Slot.unset).toArray = ls at hl ⊢
 exact st_PI_corner (A := (pw_F 40 a s.heap.size)) ⟨B.exec, B.bytes, B.returns, hml, findClass_of_methodNamed B.named, atoms_spec (ws := w_PI_corner) B.pre, B.notSynchronized, fun q hq => Or.inr hq⟩ ⟨hK, hI, fun k hk => Or.inl ⟨k, hk, rfl⟩⟩ EX hL (hL e B.admits) (px_none hE) x1 x2 x3 u ls hP hl h
end
section
set_option maxHeartbeats 4000000 in
set_option maxRecDepth 100000 in
theorem cp_Tool_fits_21 {p : Program} {l : Launch} {e : Env} {s : State} {m : MethodId} {args : Array Value} {below : List Frame} {meth : Method} {c : Code} {D : va_G} {a : Nat → Nat} {cA cZ : ClassId} {G : pG} {A : Nat → Prop} {Q : Int32 → pS → Prop} (C : pw_C p s m args meth c b_Tool_fits 7 R_Tool (some .boolean) w_Tool_fits A) (K : pw_K s D 40 a (cT cA cZ) A) {k6 : Int32 → Int32 → Int32 → Int32 → Int32 → pS → Prop} (hk6 : ∀ (x1 x2 x3 x4 x5 : Int32) (u : pS) (H : Heap) (locs : List Loc) (ls : Array Slot), va_P D vwCl (cw a cA cZ G u) H → va_S A s.heap H locs → lv_has ls 7 [(0, .ref (a 8)), (1, .int x1), (2, .int x2), (3, .int x3), (4, .int x4), (5, .int x5)] → k6 x1 x2 x3 x4 x5 u → W p l e ({ frames := 2, cells := 0, slots := 0, locals := 46 } : Room) s m args below meth c H locs 0 0 (pw_Ei below args s D (cw a cA cZ G) (cT cA cZ) A Q) (F0 m 6 ls [])) : ∀ (n : Nat), ∀ (x1 x2 x3 x4 x5 x6 : Int32) (u : pS) (H : Heap) (locs : List Loc) (ls : Array Slot), va_P D vwCl (cw a cA cZ G u) H → va_S A s.heap H locs → lv_has ls 7 [(0, .ref (a 8)), (1, .int x1), (2, .int x2), (3, .int x3), (4, .int x4), (5, .int x5), (6, .int x6)] → lp_Tool_fits_21 G Q k6 n x1 x2 x3 x4 x5 x6 u → W p l e ({ frames := 2, cells := 0, slots := 0, locals := 46 } : Room) s m args below meth c H locs 0 0 (pw_Ei below args s D (cw a cA cZ G) (cT cA cZ) A Q) (F0 m 21 ls []) := by
 obtain ⟨hx, hb, hr, hml, hown, hts, hlocks, hA⟩ := id C
 obtain ⟨hK, hI, hF⟩ := id K
 have hD : ∀ u, va_D A (cw a cA cZ G u) := fun u => cw_D hI hF
 intro n
 induction n with
 | zero => intro x1 x2 x3 x4 x5 x6 u H locs ls hP hS hl h; exact h.elim
 | succ n ih =>
   intro x1 x2 x3 x4 x5 x6 u H locs ls hP hS hl h
   refine lv_iload hx hb d_Tool_fits_21 (lv_at hl 6 rfl) ?_
   refine lv_iload_n hx hb d_Tool_fits_23 rfl (lv_at hl 2 rfl) ?_
   refine lv_iload hx hb d_Tool_fits_24 (lv_at hl 4 rfl) ?_
   refine lv_iadd hx hb d_Tool_fits_26 ?_
   refine lv_icmp_gt (tgt := 53) hx hb d_Tool_fits_27 (by decide) (fun c4 => ?_) (fun c4 => ?_)
   · have h := h.1 c4
     obtain ⟨t5, et5⟩ : ∃ y : Int32, y = x5 + 1 := ⟨_, rfl⟩
     have h := h t5 et5
     refine lv_iinc (v := t5) (lv' := [(5, .int t5), (0, .ref (a 8)), (1, .int x1), (2, .int x2), (3, .int x3), (4, .int x4), (6, .int x6)]) hx hb d_Tool_fits_53 hl (k := 5) rfl (by rw [et5]; rfl) (by decide) rfl (fun ls hl => ?_)
     refine lv_goto (tgt := 6) hx hb d_Tool_fits_56 (by decide) ?_
     exact hk6 x1 x2 x3 x4 t5 u _ _ _ hP hS (lv_sub hl [1, 2, 3, 4, 5, 0] rfl) h
   · have h := h.2 c4
     refine lv_aload_n hx hb d_Tool_fits_30 rfl (lv_at hl 0 rfl) ?_
     refine va_get (D := D) (ci := 9) (v := .ref (a 4)) (C := R_Tool) (T := T_Tool) (N := 4) hx hb hts in_Tool hown hK hP 8 cw_at_8 rfl 1 (by decide) (hts _ (List.mem_cons_of_mem _ kw_253)) (fun _ h9 => h9) rfl d_Tool_fits_31 ?_
     refine lv_iload hx hb d_Tool_fits_34 (lv_at hl 6 rfl) ?_
     refine lv_iload hx hb d_Tool_fits_36 (lv_at hl 5 rfl) ?_
     refine cc_i (va_runV (As := [.int x6, .int x5]) (rest := []) ⟨hx, hb, hml, hown, hts⟩ (ct_Pieces_numberOf l D a cA cZ G _ x6 x5 u _ hI h) (pw_cwV 2 hts kw_631 kw_49 kw_730 kw_629 kw_630 (by decide +kernel) ⟨Nat.le_of_ble_eq_true rfl, Nat.le_of_ble_eq_true rfl⟩) ⟨pw_blind, va_recv hK hP (ci := 7) (q0 := 4) rfl cw_at_4, fun U hU hW => ⟨rfl, by rw [hU], by rw [hU]; exact hP, va_K.moved hW.alike hK⟩⟩ rfl rfl hl.1 rfl (lv_room (Nat.le_of_ble_eq_true rfl)) d_Tool_fits_38 ⟨Nat.le_of_ble_eq_true rfl, Nat.le_of_ble_eq_true rfl⟩) hS hF hA (fun r7 u6 H locs hP hS h => ?_)
     refine lv_iload_n hx hb d_Tool_fits_41 rfl (lv_at hl 1 rfl) ?_
     refine lv_icmp_eq (tgt := 47) hx hb d_Tool_fits_42 (by decide) (fun c8 => ?_) (fun c8 => ?_)
     · have h := h.1 c8
       obtain ⟨t9, et9⟩ : ∃ y : Int32, y = x6 + 1 := ⟨_, rfl⟩
       have h := h t9 et9
       refine lv_iinc (v := t9) (lv' := [(6, .int t9), (0, .ref (a 8)), (1, .int x1), (2, .int x2), (3, .int x3), (4, .int x4), (5, .int x5)]) hx hb d_Tool_fits_47 hl (k := 6) rfl (by rw [et9]; rfl) (by decide) rfl (fun ls hl => ?_)
       refine lv_goto (tgt := 21) hx hb d_Tool_fits_50 (by decide) ?_
       exact ih x1 x2 x3 x4 x5 t9 u6 _ _ _ hP hS (lv_sub hl [1, 2, 3, 4, 5, 6, 0] rfl) h
     · have h := h.2 c8
       refine lv_iconst (v := 0) hx hb d_Tool_fits_45 (by decide) ?_
       exact W.zret (v := 0) hx hb hr rfl (fun t ht hW => ⟨⟨0, u6, rfl, h, by rw [ht]; exact hP, va_K.moved hW.alike hK⟩, hS.F ht⟩) hS.2.2 d_Tool_fits_46 hlocks
set_option maxHeartbeats 4000000 in
set_option maxRecDepth 100000 in
theorem cp_Tool_fits_6 {p : Program} {l : Launch} {e : Env} {s : State} {m : MethodId} {args : Array Value} {below : List Frame} {meth : Method} {c : Code} {D : va_G} {a : Nat → Nat} {cA cZ : ClassId} {G : pG} {A : Nat → Prop} {Q : Int32 → pS → Prop} (C : pw_C p s m args meth c b_Tool_fits 7 R_Tool (some .boolean) w_Tool_fits A) (K : pw_K s D 40 a (cT cA cZ) A) : ∀ (n : Nat), ∀ (x1 x2 x3 x4 x5 : Int32) (u : pS) (H : Heap) (locs : List Loc) (ls : Array Slot), va_P D vwCl (cw a cA cZ G u) H → va_S A s.heap H locs → lv_has ls 7 [(0, .ref (a 8)), (1, .int x1), (2, .int x2), (3, .int x3), (4, .int x4), (5, .int x5)] → lp_Tool_fits_6 G Q n x1 x2 x3 x4 x5 u → W p l e ({ frames := 2, cells := 0, slots := 0, locals := 46 } : Room) s m args below meth c H locs 0 0 (pw_Ei below args s D (cw a cA cZ G) (cT cA cZ) A Q) (F0 m 6 ls []) := by
 obtain ⟨hx, hb, hr, hml, hown, hts, hlocks, hA⟩ := id C
 obtain ⟨hK, hI, hF⟩ := id K
 have hD : ∀ u, va_D A (cw a cA cZ G u) := fun u => cw_D hI hF
 intro n
 induction n with
 | zero => intro x1 x2 x3 x4 x5 u H locs ls hP hS hl h; exact h.elim
 | succ n ih =>
   intro x1 x2 x3 x4 x5 u H locs ls hP hS hl h
   refine lv_iload hx hb d_Tool_fits_6 (lv_at hl 5 rfl) ?_
   refine lv_iload_n hx hb d_Tool_fits_8 rfl (lv_at hl 3 rfl) ?_
   refine lv_iload hx hb d_Tool_fits_9 (lv_at hl 4 rfl) ?_
   refine lv_iadd hx hb d_Tool_fits_11 ?_
   refine lv_icmp_gt (tgt := 59) hx hb d_Tool_fits_12 (by decide) (fun c2 => ?_) (fun c2 => ?_)
   · have h := h.1 c2
     refine lv_iconst (v := 1) hx hb d_Tool_fits_59 (by decide) ?_
     exact W.zret (v := 1) hx hb hr rfl (fun t ht hW => ⟨⟨1, u, rfl, h, by rw [ht]; exact hP, va_K.moved hW.alike hK⟩, hS.F ht⟩) hS.2.2 d_Tool_fits_60 hlocks
   · have h := h.2 c2
     refine lv_iload_n hx hb d_Tool_fits_15 rfl (lv_at hl 2 rfl) ?_
     refine lv_iload hx hb d_Tool_fits_16 (lv_at hl 4 rfl) ?_
     refine lv_isub hx hb d_Tool_fits_18 ?_
     refine lv_topi (fun t3 et3 => ?_)
     have h := h t3 et3
     refine lv_istore (lv' := [(6, .int t3), (0, .ref (a 8)), (1, .int x1), (2, .int x2), (3, .int x3), (4, .int x4), (5, .int x5)]) hx hb d_Tool_fits_19 hl (by decide) rfl (fun ls hl => ?_)
     obtain ⟨n1, h⟩ := h
     exact cp_Tool_fits_21 C K ih n1 x1 x2 x3 x4 x5 t3 u _ _ _ hP hS (lv_sub hl [1, 2, 3, 4, 5, 6, 0] rfl) h
set_option maxHeartbeats 4000000 in
set_option maxRecDepth 100000 in
theorem st_Tool_fits {p : Program} {l : Launch} {e : Env} {s : State} {m : MethodId} {args : Array Value} {below : List Frame} {meth : Method} {c : Code} {D : va_G} {a : Nat → Nat} {cA cZ : ClassId} {G : pG} {A : Nat → Prop} {Q : Int32 → pS → Prop} (C : pw_C p s m args meth c b_Tool_fits 7 R_Tool (some .boolean) w_Tool_fits A) (K : pw_K s D 40 a (cT cA cZ) A) (x1 x2 x3 x4 : Int32) (u : pS) (ls : Array Slot) (hP : va_P D vwCl (cw a cA cZ G u) s.heap) (hl : lv_has ls 7 [(0, .ref (a 8)), (1, .int x1), (2, .int x2), (3, .int x3), (4, .int x4)]) (h : wp_Tool_fits G x1 x2 x3 x4 u Q) : W p l e ({ frames := 2, cells := 0, slots := 0, locals := 46 } : Room) s m args below meth c s.heap [] 0 0 (pw_Ei below args s D (cw a cA cZ G) (cT cA cZ) A Q) (F0 m 0 ls []) := by
 obtain ⟨hx, hb, hr, hml, hown, hts, hlocks, hA⟩ := id C
 obtain ⟨hK, hI, hF⟩ := id K
 have hD : ∀ u, va_D A (cw a cA cZ G u) := fun u => cw_D hI hF
 have hS : va_S A s.heap s.heap [] := va_S.rf
 have h : wp_Tool_fits G x1 x2 x3 x4 u Q := h
 refine lv_iload_n hx hb d_Tool_fits_0 rfl (lv_at hl 3 rfl) ?_
 refine lv_iload hx hb d_Tool_fits_1 (lv_at hl 4 rfl) ?_
 refine lv_isub hx hb d_Tool_fits_3 ?_
 refine lv_topi (fun t1 et1 => ?_)
 have h := h t1 et1
 refine lv_istore (lv' := [(5, .int t1), (0, .ref (a 8)), (1, .int x1), (2, .int x2), (3, .int x3), (4, .int x4)]) hx hb d_Tool_fits_4 hl (by decide) rfl (fun ls hl => ?_)
 obtain ⟨n1, h⟩ := h
 exact cp_Tool_fits_6 C K n1 x1 x2 x3 x4 t1 u _ _ _ hP hS (lv_sub hl [1, 2, 3, 4, 5, 0] rfl) h
set_option maxHeartbeats 4000000 in
set_option maxRecDepth 100000 in
theorem ct_Tool_fits (l : Launch) (D : va_G) (a : Nat → Nat) (cA cZ : ClassId) (G : pG) (sz : Nat) (x1 x2 x3 x4 : Int32) (u : pS) (Q : Int32 → pS → Prop) (hI : pw_I 40 a) (h : wp_Tool_fits G x1 x2 x3 x4 u Q) : Met l y_Tool_fits w_Tool_fits ({ frames := 2, cells := 0, slots := 0, locals := 46 } : Room) (va_Pc [.ref (a 8), .int x1, .int x2, .int x3, .int x4] (pw_pre D (cw a cA cZ G) (cT cA cZ) sz u)) (va_Qi (fun (r : Int32) (u : pS) => Q r u) (pw_B D (cw a cA cZ G) (cT cA cZ)) (pw_F 40 a sz)) 0 0 (pw_F 40 a sz) := by
 refine Met.ofW (cc := b_Tool_fits) (maxL := 7) (ret := (some .boolean)) (by decide) rfl ?_
 intro p e s m args below meth c s₁ B hml hv
 obtain ⟨rfl, hsz, hP, hK⟩ := hv
 subst hsz
 have hl := lv_entry ([.ref (a 8), .int x1, .int x2, .int x3, .int x4]) (n := 7) (Nat.le_of_ble_eq_true rfl)
 rw [lg_entry_eq]
 generalize (lg_sl ([.ref (a 8), .int x1, .int x2, .int x3, .int x4]) ++ List.replicate (7 - (lg_sl ([.ref (a 8), .int x1, .int x2, .int x3, .int x4])).length) Slot.unset).toArray = ls at hl ⊢
 exact st_Tool_fits (A := (pw_F 40 a s.heap.size)) ⟨B.exec, B.bytes, B.returns, hml, findClass_of_methodNamed B.named, atoms_spec (ws := w_Tool_fits) B.pre, B.notSynchronized, fun q hq => Or.inr hq⟩ ⟨hK, hI, fun k hk => Or.inl ⟨k, hk, rfl⟩⟩ x1 x2 x3 x4 u ls hP hl h
set_option maxHeartbeats 4000000 in
set_option maxRecDepth 100000 in
theorem cp_Tool_mark_18 {p : Program} {l : Launch} {e : Env} {s : State} {m : MethodId} {args : Array Value} {below : List Frame} {meth : Method} {c : Code} {D : va_G} {a : Nat → Nat} {cA cZ : ClassId} {G : pG} {A : Nat → Prop} {Q : pS → Prop} (C : pw_C p s m args meth c b_Tool_mark 7 R_Tool none w_Tool_mark A) (K : pw_K s D 40 a (cT cA cZ) A) {k5 : Int32 → Int32 → Int32 → Int32 → pS → Prop} (hk5 : ∀ (x1 x2 x3 x4 : Int32) (u : pS) (H : Heap) (locs : List Loc) (ls : Array Slot), va_P D vwCl (cw a cA cZ G u) H → va_S A s.heap H locs → lv_has ls 7 [(0, .ref (a 8)), (1, .int x1), (2, .int x2), (3, .int x3), (4, .int x4)] → k5 x1 x2 x3 x4 u → W p l e ({ frames := 1, cells := 0, slots := 0, locals := 23 } : Room) s m args below meth c H locs 0 0 (pw_Ev below args s D (cw a cA cZ G) (cT cA cZ) A Q) (F0 m 5 ls [])) : ∀ (n : Nat), ∀ (x1 x2 x3 x4 x5 : Int32) (u : pS) (H : Heap) (locs : List Loc) (ls : Array Slot), va_P D vwCl (cw a cA cZ G u) H → va_S A s.heap H locs → lv_has ls 7 [(0, .ref (a 8)), (1, .int x1), (2, .int x2), (3, .int x3), (4, .int x4), (5, .int x5)] → lp_Tool_mark_18 G Q k5 n x1 x2 x3 x4 x5 u → W p l e ({ frames := 1, cells := 0, slots := 0, locals := 23 } : Room) s m args below meth c H locs 0 0 (pw_Ev below args s D (cw a cA cZ G) (cT cA cZ) A Q) (F0 m 18 ls []) := by
 obtain ⟨hx, hb, hr, hml, hown, hts, hlocks, hA⟩ := id C
 obtain ⟨hK, hI, hF⟩ := id K
 have hD : ∀ u, va_D A (cw a cA cZ G u) := fun u => cw_D hI hF
 intro n
 induction n with
 | zero => intro x1 x2 x3 x4 x5 u H locs ls hP hS hl h; exact h.elim
 | succ n ih =>
   intro x1 x2 x3 x4 x5 u H locs ls hP hS hl h
   refine lv_iload hx hb d_Tool_mark_18 (lv_at hl 5 rfl) ?_
   refine lv_iload_n hx hb d_Tool_mark_20 rfl (lv_at hl 1 rfl) ?_
   refine lv_iload_n hx hb d_Tool_mark_21 rfl (lv_at hl 3 rfl) ?_
   refine lv_iadd hx hb d_Tool_mark_22 ?_
   refine lv_icmp_gt (tgt := 79) hx hb d_Tool_mark_23 (by decide) (fun c4 => ?_) (fun c4 => ?_)
   · have h := h.1 c4
     obtain ⟨t5, et5⟩ : ∃ y : Int32, y = x4 + 1 := ⟨_, rfl⟩
     have h := h t5 et5
     refine lv_iinc (v := t5) (lv' := [(4, .int t5), (0, .ref (a 8)), (1, .int x1), (2, .int x2), (3, .int x3), (5, .int x5)]) hx hb d_Tool_mark_79 hl (k := 4) rfl (by rw [et5]; rfl) (by decide) rfl (fun ls hl => ?_)
     refine lv_goto (tgt := 5) hx hb d_Tool_mark_82 (by decide) ?_
     exact hk5 x1 x2 x3 t5 u _ _ _ hP hS (lv_sub hl [1, 2, 3, 4, 0] rfl) h
   · have h := h.2 c4
     refine lv_aload_n hx hb d_Tool_mark_26 rfl (lv_at hl 0 rfl) ?_
     refine va_get (D := D) (ci := 9) (v := .ref (a 1)) (C := R_Tool) (T := T_Tool) (N := 4) hx hb hts in_Tool hown hK hP 8 cw_at_8 rfl 0 (by decide) (hts _ (List.mem_cons_of_mem _ kw_252)) (fun _ h9 => h9) rfl d_Tool_mark_27 ?_
     refine lv_iload hx hb d_Tool_mark_30 (lv_at hl 5 rfl) ?_
     refine lv_iload hx hb d_Tool_mark_32 (lv_at hl 4 rfl) ?_
     refine cc_i (va_runV (As := [.int x5, .int x4]) (rest := []) ⟨hx, hb, hml, hown, hts⟩ (ct_Grid_placeOf l D a cA cZ G _ x5 x4 u _ hI h) (pw_cwV 2 hts kw_96 kw_46 kw_735 kw_94 kw_95 (by decide +kernel) ⟨Nat.le_of_ble_eq_true rfl, Nat.le_of_ble_eq_true rfl⟩) ⟨pw_blind, va_recv hK hP (ci := 4) (q0 := 1) rfl cw_at_1, fun U hU hW => ⟨rfl, by rw [hU], by rw [hU]; exact hP, va_K.moved hW.alike hK⟩⟩ rfl rfl hl.1 rfl (lv_room (Nat.le_of_ble_eq_true rfl)) d_Tool_mark_34 ⟨Nat.le_of_ble_eq_true rfl, Nat.le_of_ble_eq_true rfl⟩) hS hF hA (fun r7 u6 H locs hP hS h => ?_)
     refine lv_istore (lv' := [(6, .int r7), (0, .ref (a 8)), (1, .int x1), (2, .int x2), (3, .int x3), (4, .int x4), (5, .int x5)]) hx hb d_Tool_mark_37 hl (by decide) rfl (fun ls hl => ?_)
     refine lv_iload hx hb d_Tool_mark_39 (lv_at hl 0 rfl) ?_
     refine lv_iconst (v := -1) hx hb d_Tool_mark_41 (by decide) ?_
     refine lv_icmp_eq (tgt := 73) hx hb d_Tool_mark_42 (by decide) (fun c8 => ?_) (fun c8 => ?_)
     · have h := h.1 c8
       obtain ⟨t9, et9⟩ : ∃ y : Int32, y = x5 + 1 := ⟨_, rfl⟩
       have h := h t9 et9
       refine lv_iinc (v := t9) (lv' := [(5, .int t9), (6, .int r7), (0, .ref (a 8)), (1, .int x1), (2, .int x2), (3, .int x3), (4, .int x4)]) hx hb d_Tool_mark_73 hl (k := 6) rfl (by rw [et9]; rfl) (by decide) rfl (fun ls hl => ?_)
       refine lv_goto (tgt := 18) hx hb d_Tool_mark_76 (by decide) ?_
       exact ih x1 x2 x3 x4 t9 u6 _ _ _ hP hS (lv_sub hl [2, 3, 4, 5, 6, 0] rfl) h
     · have h := h.2 c8
       refine lv_aload_n hx hb d_Tool_mark_45 rfl (lv_at hl 1 rfl) ?_
       refine va_get (D := D) (ci := 9) (v := .ref (a 34)) (C := R_Tool) (T := T_Tool) (N := 4) hx hb hts in_Tool hown hK hP 8 cw_at_8 rfl 2 (by decide) (hts _ (List.mem_cons_of_mem _ kw_254)) (fun _ h9 => h9) rfl d_Tool_mark_46 ?_
       refine lv_iload hx hb d_Tool_mark_49 (lv_at hl 0 rfl) ?_
       refine va_zald hx hb hK hP 34 1 cw_at_34 rfl h.1 d_Tool_mark_51 ?_
       have h := h.2
       refine lv_if_ne (tgt := 73) hx hb d_Tool_mark_52 (by decide) (fun c10 => ?_) (fun c10 => ?_)
       · have h := h.2 c10
         obtain ⟨t11, et11⟩ : ∃ y : Int32, y = x5 + 1 := ⟨_, rfl⟩
         have h := h t11 et11
         refine lv_iinc (v := t11) (lv' := [(5, .int t11), (6, .int r7), (0, .ref (a 8)), (1, .int x1), (2, .int x2), (3, .int x3), (4, .int x4)]) hx hb d_Tool_mark_73 hl (k := 6) rfl (by rw [et11]; rfl) (by decide) rfl (fun ls hl => ?_)
         refine lv_goto (tgt := 18) hx hb d_Tool_mark_76 (by decide) ?_
         exact ih x1 x2 x3 x4 t11 u6 _ _ _ hP hS (lv_sub hl [2, 3, 4, 5, 6, 0] rfl) h
       · have h := h.1 c10
         refine lv_aload_n hx hb d_Tool_mark_55 rfl (lv_at hl 1 rfl) ?_
         refine va_get (D := D) (ci := 9) (v := .ref (a 34)) (C := R_Tool) (T := T_Tool) (N := 4) hx hb hts in_Tool hown hK hP 8 cw_at_8 rfl 2 (by decide) (hts _ (List.mem_cons_of_mem _ kw_254)) (fun _ h9 => h9) rfl d_Tool_mark_56 ?_
         refine lv_iload hx hb d_Tool_mark_59 (lv_at hl 0 rfl) ?_
         refine lv_iconst (v := 1) hx hb d_Tool_mark_61 (by decide) ?_
         refine va_zast hx hb hK hP (hD _) hS 34 1 cw_at_34 rfl h.1 d_Tool_mark_62 (fun H locs hP _ hS => ?_)
         obtain ⟨u12, eu12⟩ : ∃ z, z = pw_sa u6 20 (upd (u6.2 20) r7.toNatClampNeg (vp_nar .boolean 1)) := ⟨_, rfl⟩
         rw [cw_sa_34, ← eu12] at hP
         have h := h.2 u12 eu12
         refine lv_aload_n hx hb d_Tool_mark_63 rfl (lv_at hl 1 rfl) ?_
         refine lv_dup hx hb d_Tool_mark_64 rfl ?_
         refine va_get (D := D) (ci := 9) (v := .int (u12.1 7)) (C := R_Tool) (T := T_Tool) (N := 4) hx hb hts in_Tool hown hK hP 8 cw_at_8 rfl 3 (by decide) (hts _ (List.mem_cons_of_mem _ kw_255)) (fun _ h9 => h9) rfl d_Tool_mark_65 ?_
         refine lv_iconst (v := 1) hx hb d_Tool_mark_68 (by decide) ?_
         refine lv_iadd hx hb d_Tool_mark_69 ?_
         refine va_put (D := D) (ci := 9) (v := .int ((u12.1 7) + 1)) (ty := .int) (C := R_Tool) (T := T_Tool) (N := 4) hx hb hts in_Tool ty_Tool tyok_Tool nm_Tool hown hK hP (hD _) hS 8 cw_at_8 rfl 3 (by decide) (hts _ (List.mem_cons_of_mem _ kw_255)) (fun _ h9 => h9) rfl (by decide +kernel) rfl rfl (Nat.le_of_ble_eq_true rfl) d_Tool_mark_70 (fun H locs hP _ hS => ?_)
         obtain ⟨u13, eu13⟩ : ∃ z, z = pw_si u12 7 ((u12.1 7) + 1) := ⟨_, rfl⟩
         rw [cw_si_8_3, ← eu13] at hP
         have h := h u13 eu13
         obtain ⟨t14, et14⟩ : ∃ y : Int32, y = x5 + 1 := ⟨_, rfl⟩
         have h := h t14 et14
         refine lv_iinc (v := t14) (lv' := [(5, .int t14), (6, .int r7), (0, .ref (a 8)), (1, .int x1), (2, .int x2), (3, .int x3), (4, .int x4)]) hx hb d_Tool_mark_73 hl (k := 6) rfl (by rw [et14]; rfl) (by decide) rfl (fun ls hl => ?_)
         refine lv_goto (tgt := 18) hx hb d_Tool_mark_76 (by decide) ?_
         exact ih x1 x2 x3 x4 t14 u13 _ _ _ hP hS (lv_sub hl [2, 3, 4, 5, 6, 0] rfl) h
set_option maxHeartbeats 4000000 in
set_option maxRecDepth 100000 in
theorem cp_Tool_mark_5 {p : Program} {l : Launch} {e : Env} {s : State} {m : MethodId} {args : Array Value} {below : List Frame} {meth : Method} {c : Code} {D : va_G} {a : Nat → Nat} {cA cZ : ClassId} {G : pG} {A : Nat → Prop} {Q : pS → Prop} (C : pw_C p s m args meth c b_Tool_mark 7 R_Tool none w_Tool_mark A) (K : pw_K s D 40 a (cT cA cZ) A) : ∀ (n : Nat), ∀ (x1 x2 x3 x4 : Int32) (u : pS) (H : Heap) (locs : List Loc) (ls : Array Slot), va_P D vwCl (cw a cA cZ G u) H → va_S A s.heap H locs → lv_has ls 7 [(0, .ref (a 8)), (1, .int x1), (2, .int x2), (3, .int x3), (4, .int x4)] → lp_Tool_mark_5 G Q n x1 x2 x3 x4 u → W p l e ({ frames := 1, cells := 0, slots := 0, locals := 23 } : Room) s m args below meth c H locs 0 0 (pw_Ev below args s D (cw a cA cZ G) (cT cA cZ) A Q) (F0 m 5 ls []) := by
 obtain ⟨hx, hb, hr, hml, hown, hts, hlocks, hA⟩ := id C
 obtain ⟨hK, hI, hF⟩ := id K
 have hD : ∀ u, va_D A (cw a cA cZ G u) := fun u => cw_D hI hF
 intro n
 induction n with
 | zero => intro x1 x2 x3 x4 u H locs ls hP hS hl h; exact h.elim
 | succ n ih =>
   intro x1 x2 x3 x4 u H locs ls hP hS hl h
   refine lv_iload hx hb d_Tool_mark_5 (lv_at hl 4 rfl) ?_
   refine lv_iload_n hx hb d_Tool_mark_7 rfl (lv_at hl 2 rfl) ?_
   refine lv_iload_n hx hb d_Tool_mark_8 rfl (lv_at hl 3 rfl) ?_
   refine lv_iadd hx hb d_Tool_mark_9 ?_
   refine lv_icmp_gt (tgt := 85) hx hb d_Tool_mark_10 (by decide) (fun c2 => ?_) (fun c2 => ?_)
   · have h := h.1 c2
     exact W.vret hx hb hr (fun t ht hW => ⟨⟨u, rfl, h, by rw [ht]; exact hP, va_K.moved hW.alike hK⟩, hS.F ht⟩) hS.2.2 d_Tool_mark_85 hlocks
   · have h := h.2 c2
     refine lv_iload_n hx hb d_Tool_mark_13 rfl (lv_at hl 1 rfl) ?_
     refine lv_iload_n hx hb d_Tool_mark_14 rfl (lv_at hl 3 rfl) ?_
     refine lv_isub hx hb d_Tool_mark_15 ?_
     refine lv_topi (fun t3 et3 => ?_)
     have h := h t3 et3
     refine lv_istore (lv' := [(5, .int t3), (0, .ref (a 8)), (1, .int x1), (2, .int x2), (3, .int x3), (4, .int x4)]) hx hb d_Tool_mark_16 hl (by decide) rfl (fun ls hl => ?_)
     obtain ⟨n1, h⟩ := h
     exact cp_Tool_mark_18 C K ih n1 x1 x2 x3 x4 t3 u _ _ _ hP hS (lv_sub hl [1, 2, 3, 4, 5, 0] rfl) h
set_option maxHeartbeats 4000000 in
set_option maxRecDepth 100000 in
theorem st_Tool_mark {p : Program} {l : Launch} {e : Env} {s : State} {m : MethodId} {args : Array Value} {below : List Frame} {meth : Method} {c : Code} {D : va_G} {a : Nat → Nat} {cA cZ : ClassId} {G : pG} {A : Nat → Prop} {Q : pS → Prop} (C : pw_C p s m args meth c b_Tool_mark 7 R_Tool none w_Tool_mark A) (K : pw_K s D 40 a (cT cA cZ) A) (x1 x2 x3 : Int32) (u : pS) (ls : Array Slot) (hP : va_P D vwCl (cw a cA cZ G u) s.heap) (hl : lv_has ls 7 [(0, .ref (a 8)), (1, .int x1), (2, .int x2), (3, .int x3)]) (h : wp_Tool_mark G x1 x2 x3 u Q) : W p l e ({ frames := 1, cells := 0, slots := 0, locals := 23 } : Room) s m args below meth c s.heap [] 0 0 (pw_Ev below args s D (cw a cA cZ G) (cT cA cZ) A Q) (F0 m 0 ls []) := by
 obtain ⟨hx, hb, hr, hml, hown, hts, hlocks, hA⟩ := id C
 obtain ⟨hK, hI, hF⟩ := id K
 have hD : ∀ u, va_D A (cw a cA cZ G u) := fun u => cw_D hI hF
 have hS : va_S A s.heap s.heap [] := va_S.rf
 have h : wp_Tool_mark G x1 x2 x3 u Q := h
 refine lv_iload_n hx hb d_Tool_mark_0 rfl (lv_at hl 2 rfl) ?_
 refine lv_iload_n hx hb d_Tool_mark_1 rfl (lv_at hl 3 rfl) ?_
 refine lv_isub hx hb d_Tool_mark_2 ?_
 refine lv_topi (fun t1 et1 => ?_)
 have h := h t1 et1
 refine lv_istore (lv' := [(4, .int t1), (0, .ref (a 8)), (1, .int x1), (2, .int x2), (3, .int x3)]) hx hb d_Tool_mark_3 hl (by decide) rfl (fun ls hl => ?_)
 obtain ⟨n1, h⟩ := h
 exact cp_Tool_mark_5 C K n1 x1 x2 x3 t1 u _ _ _ hP hS (lv_sub hl [1, 2, 3, 4, 0] rfl) h
set_option maxHeartbeats 4000000 in
set_option maxRecDepth 100000 in
theorem ct_Tool_mark (l : Launch) (D : va_G) (a : Nat → Nat) (cA cZ : ClassId) (G : pG) (sz : Nat) (x1 x2 x3 : Int32) (u : pS) (Q : pS → Prop) (hI : pw_I 40 a) (h : wp_Tool_mark G x1 x2 x3 u Q) : Met l y_Tool_mark w_Tool_mark ({ frames := 1, cells := 0, slots := 0, locals := 23 } : Room) (va_Pc [.ref (a 8), .int x1, .int x2, .int x3] (pw_pre D (cw a cA cZ G) (cT cA cZ) sz u)) (va_Qv (fun (u : pS) => Q u) (pw_B D (cw a cA cZ G) (cT cA cZ)) (pw_F 40 a sz)) 0 0 (pw_F 40 a sz) := by
 refine Met.ofW (cc := b_Tool_mark) (maxL := 7) (ret := none) (by decide) rfl ?_
 intro p e s m args below meth c s₁ B hml hv
 obtain ⟨rfl, hsz, hP, hK⟩ := hv
 subst hsz
 have hl := lv_entry ([.ref (a 8), .int x1, .int x2, .int x3]) (n := 7) (Nat.le_of_ble_eq_true rfl)
 rw [lg_entry_eq]
 generalize (lg_sl ([.ref (a 8), .int x1, .int x2, .int x3]) ++ List.replicate (7 - (lg_sl ([.ref (a 8), .int x1, .int x2, .int x3])).length) Slot.unset).toArray = ls at hl ⊢
 exact st_Tool_mark (A := (pw_F 40 a s.heap.size)) ⟨B.exec, B.bytes, B.returns, hml, findClass_of_methodNamed B.named, atoms_spec (ws := w_Tool_mark) B.pre, B.notSynchronized, fun q hq => Or.inr hq⟩ ⟨hK, hI, fun k hk => Or.inl ⟨k, hk, rfl⟩⟩ x1 x2 x3 u ls hP hl h
set_option maxHeartbeats 4000000 in
set_option maxRecDepth 100000 in
theorem cp_Tool_cover_49 {p : Program} {l : Launch} {e : Env} {s : State} {m : MethodId} {args : Array Value} {below : List Frame} {meth : Method} {c : Code} {D : va_G} {a : Nat → Nat} {cA cZ : ClassId} {G : pG} {A : Nat → Prop} {Q : pS → Prop} (C : pw_C p s m args meth c b_Tool_cover 5 R_Tool none w_Tool_cover A) (K : pw_K s D 40 a (cT cA cZ) A) {k33 : Int32 → Int32 → Int32 → pS → Prop} (hk33 : ∀ (x1 x2 x3 : Int32) (u : pS) (H : Heap) (locs : List Loc) (ls : Array Slot), va_P D vwCl (cw a cA cZ G u) H → va_S A s.heap H locs → lv_has ls 5 [(0, .ref (a 8)), (1, .int x1), (2, .int x2), (3, .int x3)] → k33 x1 x2 x3 u → W p l e ({ frames := 3, cells := 0, slots := 0, locals := 72 } : Room) s m args below meth c H locs 0 0 (pw_Ev below args s D (cw a cA cZ G) (cT cA cZ) A Q) (F0 m 33 ls [])) : ∀ (n : Nat), ∀ (x1 x2 x3 x4 : Int32) (u : pS) (H : Heap) (locs : List Loc) (ls : Array Slot), va_P D vwCl (cw a cA cZ G u) H → va_S A s.heap H locs → lv_has ls 5 [(0, .ref (a 8)), (1, .int x1), (2, .int x2), (3, .int x3), (4, .int x4)] → lp_Tool_cover_49 G Q k33 n x1 x2 x3 x4 u → W p l e ({ frames := 3, cells := 0, slots := 0, locals := 72 } : Room) s m args below meth c H locs 0 0 (pw_Ev below args s D (cw a cA cZ G) (cT cA cZ) A Q) (F0 m 49 ls []) := by
 obtain ⟨hx, hb, hr, hml, hown, hts, hlocks, hA⟩ := id C
 obtain ⟨hK, hI, hF⟩ := id K
 have hD : ∀ u, va_D A (cw a cA cZ G u) := fun u => cw_D hI hF
 intro n
 induction n with
 | zero => intro x1 x2 x3 x4 u H locs ls hP hS hl h; exact h.elim
 | succ n ih =>
   intro x1 x2 x3 x4 u H locs ls hP hS hl h
   refine lv_iload hx hb d_Tool_cover_49 (lv_at hl 4 rfl) ?_
   refine lv_aload_n hx hb d_Tool_cover_51 rfl (lv_at hl 0 rfl) ?_
   refine va_get (D := D) (ci := 9) (v := .ref (a 1)) (C := R_Tool) (T := T_Tool) (N := 4) hx hb hts in_Tool hown hK hP 8 cw_at_8 rfl 0 (by decide) (hts _ (List.mem_cons_of_mem _ kw_252)) (fun _ h9 => h9) rfl d_Tool_cover_52 ?_
   refine va_get (D := D) (ci := 4) (v := .int (G.2.1 1)) (C := R_Grid) (T := T_Grid) (N := 6) hx hb hts in_Grid hown hK hP 1 cw_at_1 rfl 0 (by decide) (hts _ (List.mem_cons_of_mem _ kw_99)) (fun _ h9 => h9) rfl d_Tool_cover_55 ?_
   refine lv_iload_n hx hb d_Tool_cover_58 rfl (lv_at hl 2 rfl) ?_
   refine lv_isub hx hb d_Tool_cover_59 ?_
   refine lv_icmp_ge (tgt := 89) hx hb d_Tool_cover_60 (by decide) (fun c4 => ?_) (fun c4 => ?_)
   · have h := h.1 c4
     obtain ⟨t5, et5⟩ : ∃ y : Int32, y = x3 + 1 := ⟨_, rfl⟩
     have h := h t5 et5
     refine lv_iinc (v := t5) (lv' := [(3, .int t5), (0, .ref (a 8)), (1, .int x1), (2, .int x2), (4, .int x4)]) hx hb d_Tool_cover_89 hl (k := 3) rfl (by rw [et5]; rfl) (by decide) rfl (fun ls hl => ?_)
     refine lv_goto (tgt := 33) hx hb d_Tool_cover_92 (by decide) ?_
     exact hk33 x1 x2 t5 u _ _ _ hP hS (lv_sub hl [1, 2, 3, 0] rfl) h
   · have h := h.2 c4
     refine lv_aload_n hx hb d_Tool_cover_63 rfl (lv_at hl 0 rfl) ?_
     refine lv_iload_n hx hb d_Tool_cover_64 rfl (lv_at hl 1 rfl) ?_
     refine lv_iload hx hb d_Tool_cover_65 (lv_at hl 4 rfl) ?_
     refine lv_iload_n hx hb d_Tool_cover_67 rfl (lv_at hl 3 rfl) ?_
     refine lv_iload_n hx hb d_Tool_cover_68 rfl (lv_at hl 2 rfl) ?_
     refine cc_i (va_runV (As := [.int x1, .int x4, .int x3, .int x2]) (rest := []) ⟨hx, hb, hml, hown, hts⟩ (ct_Tool_fits l D a cA cZ G _ x1 x4 x3 x2 u _ hI h) (pw_cwV 4 hts kw_729 kw_54 kw_726 kw_728 kw_17 (by decide +kernel) ⟨Nat.le_of_ble_eq_true rfl, Nat.le_of_ble_eq_true rfl⟩) ⟨pw_blind, va_recv hK hP (ci := 9) (q0 := 8) rfl cw_at_8, fun U hU hW => ⟨rfl, by rw [hU], by rw [hU]; exact hP, va_K.moved hW.alike hK⟩⟩ rfl rfl hl.1 rfl (lv_room (Nat.le_of_ble_eq_true rfl)) d_Tool_cover_69 ⟨Nat.le_of_ble_eq_true rfl, Nat.le_of_ble_eq_true rfl⟩) hS hF hA (fun r7 u6 H locs hP hS h => ?_)
     refine lv_if_eq (tgt := 83) hx hb d_Tool_cover_72 (by decide) (fun c8 => ?_) (fun c8 => ?_)
     · have h := h.1 c8
       obtain ⟨t9, et9⟩ : ∃ y : Int32, y = x4 + 1 := ⟨_, rfl⟩
       have h := h t9 et9
       refine lv_iinc (v := t9) (lv' := [(4, .int t9), (0, .ref (a 8)), (1, .int x1), (2, .int x2), (3, .int x3)]) hx hb d_Tool_cover_83 hl (k := 4) rfl (by rw [et9]; rfl) (by decide) rfl (fun ls hl => ?_)
       refine lv_goto (tgt := 49) hx hb d_Tool_cover_86 (by decide) ?_
       exact ih x1 x2 x3 t9 u6 _ _ _ hP hS (lv_sub hl [1, 2, 3, 4, 0] rfl) h
     · have h := h.2 c8
       refine lv_aload_n hx hb d_Tool_cover_75 rfl (lv_at hl 0 rfl) ?_
       refine lv_iload hx hb d_Tool_cover_76 (lv_at hl 4 rfl) ?_
       refine lv_iload_n hx hb d_Tool_cover_78 rfl (lv_at hl 3 rfl) ?_
       refine lv_iload_n hx hb d_Tool_cover_79 rfl (lv_at hl 2 rfl) ?_
       refine cc_v (va_runV (As := [.int x4, .int x3, .int x2]) (rest := []) ⟨hx, hb, hml, hown, hts⟩ (ct_Tool_mark l D a cA cZ G _ x4 x3 x2 u6 _ hI h) (pw_cwV 3 hts kw_734 kw_54 kw_731 kw_733 kw_18 (by decide +kernel) ⟨Nat.le_of_ble_eq_true rfl, Nat.le_of_ble_eq_true rfl⟩) ⟨pw_blind, va_recv hK hP (ci := 9) (q0 := 8) rfl cw_at_8, fun U hU hW => ⟨rfl, by rw [hU], by rw [hU]; exact hP, va_K.moved hW.alike hK⟩⟩ rfl rfl hl.1 rfl (lv_room (Nat.le_of_ble_eq_true rfl)) d_Tool_cover_80 ⟨Nat.le_of_ble_eq_true rfl, Nat.le_of_ble_eq_true rfl⟩) hS hF hA (fun u10 H locs hP hS h => ?_)
       obtain ⟨t11, et11⟩ : ∃ y : Int32, y = x4 + 1 := ⟨_, rfl⟩
       have h := h t11 et11
       refine lv_iinc (v := t11) (lv' := [(4, .int t11), (0, .ref (a 8)), (1, .int x1), (2, .int x2), (3, .int x3)]) hx hb d_Tool_cover_83 hl (k := 4) rfl (by rw [et11]; rfl) (by decide) rfl (fun ls hl => ?_)
       refine lv_goto (tgt := 49) hx hb d_Tool_cover_86 (by decide) ?_
       exact ih x1 x2 x3 t11 u10 _ _ _ hP hS (lv_sub hl [1, 2, 3, 4, 0] rfl) h
set_option maxHeartbeats 4000000 in
set_option maxRecDepth 100000 in
theorem cp_Tool_cover_33 {p : Program} {l : Launch} {e : Env} {s : State} {m : MethodId} {args : Array Value} {below : List Frame} {meth : Method} {c : Code} {D : va_G} {a : Nat → Nat} {cA cZ : ClassId} {G : pG} {A : Nat → Prop} {Q : pS → Prop} (C : pw_C p s m args meth c b_Tool_cover 5 R_Tool none w_Tool_cover A) (K : pw_K s D 40 a (cT cA cZ) A) : ∀ (n : Nat), ∀ (x1 x2 x3 : Int32) (u : pS) (H : Heap) (locs : List Loc) (ls : Array Slot), va_P D vwCl (cw a cA cZ G u) H → va_S A s.heap H locs → lv_has ls 5 [(0, .ref (a 8)), (1, .int x1), (2, .int x2), (3, .int x3)] → lp_Tool_cover_33 G Q n x1 x2 x3 u → W p l e ({ frames := 3, cells := 0, slots := 0, locals := 72 } : Room) s m args below meth c H locs 0 0 (pw_Ev below args s D (cw a cA cZ G) (cT cA cZ) A Q) (F0 m 33 ls []) := by
 obtain ⟨hx, hb, hr, hml, hown, hts, hlocks, hA⟩ := id C
 obtain ⟨hK, hI, hF⟩ := id K
 have hD : ∀ u, va_D A (cw a cA cZ G u) := fun u => cw_D hI hF
 intro n
 induction n with
 | zero => intro x1 x2 x3 u H locs ls hP hS hl h; exact h.elim
 | succ n ih =>
   intro x1 x2 x3 u H locs ls hP hS hl h
   refine lv_iload_n hx hb d_Tool_cover_33 rfl (lv_at hl 3 rfl) ?_
   refine lv_aload_n hx hb d_Tool_cover_34 rfl (lv_at hl 0 rfl) ?_
   refine va_get (D := D) (ci := 9) (v := .ref (a 1)) (C := R_Tool) (T := T_Tool) (N := 4) hx hb hts in_Tool hown hK hP 8 cw_at_8 rfl 0 (by decide) (hts _ (List.mem_cons_of_mem _ kw_252)) (fun _ h9 => h9) rfl d_Tool_cover_35 ?_
   refine va_get (D := D) (ci := 4) (v := .int (G.2.1 2)) (C := R_Grid) (T := T_Grid) (N := 6) hx hb hts in_Grid hown hK hP 1 cw_at_1 rfl 1 (by decide) (hts _ (List.mem_cons_of_mem _ kw_104)) (fun _ h9 => h9) rfl d_Tool_cover_38 ?_
   refine lv_iload_n hx hb d_Tool_cover_41 rfl (lv_at hl 2 rfl) ?_
   refine lv_isub hx hb d_Tool_cover_42 ?_
   refine lv_icmp_ge (tgt := 95) hx hb d_Tool_cover_43 (by decide) (fun c3 => ?_) (fun c3 => ?_)
   · have h := h.1 c3
     exact W.vret hx hb hr (fun t ht hW => ⟨⟨u, rfl, h, by rw [ht]; exact hP, va_K.moved hW.alike hK⟩, hS.F ht⟩) hS.2.2 d_Tool_cover_95 hlocks
   · have h := h.2 c3
     refine lv_iload_n hx hb d_Tool_cover_46 rfl (lv_at hl 2 rfl) ?_
     refine lv_istore (lv' := [(4, .int x2), (0, .ref (a 8)), (1, .int x1), (2, .int x2), (3, .int x3)]) hx hb d_Tool_cover_47 hl (by decide) rfl (fun ls hl => ?_)
     obtain ⟨n1, h⟩ := h
     exact cp_Tool_cover_49 C K ih n1 x1 x2 x3 x2 u _ _ _ hP hS (lv_sub hl [1, 2, 3, 4, 0] rfl) h
set_option maxHeartbeats 4000000 in
set_option maxRecDepth 100000 in
theorem cp_Tool_cover_2 {p : Program} {l : Launch} {e : Env} {s : State} {m : MethodId} {args : Array Value} {below : List Frame} {meth : Method} {c : Code} {D : va_G} {a : Nat → Nat} {cA cZ : ClassId} {G : pG} {A : Nat → Prop} {Q : pS → Prop} (C : pw_C p s m args meth c b_Tool_cover 5 R_Tool none w_Tool_cover A) (K : pw_K s D 40 a (cT cA cZ) A) : ∀ (n : Nat), ∀ (x1 x2 x3 : Int32) (u : pS) (H : Heap) (locs : List Loc) (ls : Array Slot), va_P D vwCl (cw a cA cZ G u) H → va_S A s.heap H locs → lv_has ls 5 [(0, .ref (a 8)), (1, .int x1), (2, .int x2), (3, .int x3)] → lp_Tool_cover_2 G Q n x1 x2 x3 u → W p l e ({ frames := 3, cells := 0, slots := 0, locals := 72 } : Room) s m args below meth c H locs 0 0 (pw_Ev below args s D (cw a cA cZ G) (cT cA cZ) A Q) (F0 m 2 ls []) := by
 obtain ⟨hx, hb, hr, hml, hown, hts, hlocks, hA⟩ := id C
 obtain ⟨hK, hI, hF⟩ := id K
 have hD : ∀ u, va_D A (cw a cA cZ G u) := fun u => cw_D hI hF
 intro n
 induction n with
 | zero => intro x1 x2 x3 u H locs ls hP hS hl h; exact h.elim
 | succ n ih =>
   intro x1 x2 x3 u H locs ls hP hS hl h
   refine lv_iload_n hx hb d_Tool_cover_2 rfl (lv_at hl 3 rfl) ?_
   refine lv_aload_n hx hb d_Tool_cover_3 rfl (lv_at hl 0 rfl) ?_
   refine va_get (D := D) (ci := 9) (v := .ref (a 1)) (C := R_Tool) (T := T_Tool) (N := 4) hx hb hts in_Tool hown hK hP 8 cw_at_8 rfl 0 (by decide) (hts _ (List.mem_cons_of_mem _ kw_252)) (fun _ h9 => h9) rfl d_Tool_cover_4 ?_
   refine va_get (D := D) (ci := 4) (v := .int (G.2.1 3)) (C := R_Grid) (T := T_Grid) (N := 6) hx hb hts in_Grid hown hK hP 1 cw_at_1 rfl 2 (by decide) (hts _ (List.mem_cons_of_mem _ kw_109)) (fun _ h9 => h9) rfl d_Tool_cover_7 ?_
   refine lv_icmp_ge (tgt := 26) hx hb d_Tool_cover_10 (by decide) (fun c1 => ?_) (fun c1 => ?_)
   · have h := h.1 c1
     refine lv_aload_n hx hb d_Tool_cover_26 rfl (lv_at hl 0 rfl) ?_
     refine lv_iconst (v := 0) hx hb d_Tool_cover_27 (by decide) ?_
     refine va_put (D := D) (ci := 9) (v := .int 0) (ty := .int) (C := R_Tool) (T := T_Tool) (N := 4) hx hb hts in_Tool ty_Tool tyok_Tool nm_Tool hown hK hP (hD _) hS 8 cw_at_8 rfl 3 (by decide) (hts _ (List.mem_cons_of_mem _ kw_255)) (fun _ h9 => h9) rfl (by decide +kernel) rfl rfl (Nat.le_of_ble_eq_true rfl) d_Tool_cover_28 (fun H locs hP _ hS => ?_)
     obtain ⟨u2, eu2⟩ : ∃ z, z = pw_si u 7 0 := ⟨_, rfl⟩
     rw [cw_si_8_3, ← eu2] at hP
     have h := h u2 eu2
     refine lv_iload_n hx hb d_Tool_cover_31 rfl (lv_at hl 2 rfl) ?_
     refine lv_istore_n (lv' := [(3, .int x2), (0, .ref (a 8)), (1, .int x1), (2, .int x2)]) hx hb d_Tool_cover_32 rfl hl (by decide) rfl (fun ls hl => ?_)
     obtain ⟨n1, h⟩ := h
     exact cp_Tool_cover_33 C K n1 x1 x2 x2 u2 _ _ _ hP hS (lv_sub hl [1, 2, 3, 0] rfl) h
   · have h := h.2 c1
     refine lv_aload_n hx hb d_Tool_cover_13 rfl (lv_at hl 0 rfl) ?_
     refine va_get (D := D) (ci := 9) (v := .ref (a 34)) (C := R_Tool) (T := T_Tool) (N := 4) hx hb hts in_Tool hown hK hP 8 cw_at_8 rfl 2 (by decide) (hts _ (List.mem_cons_of_mem _ kw_254)) (fun _ h9 => h9) rfl d_Tool_cover_14 ?_
     refine lv_iload_n hx hb d_Tool_cover_17 rfl (lv_at hl 3 rfl) ?_
     refine lv_iconst (v := 0) hx hb d_Tool_cover_18 (by decide) ?_
     refine va_zast hx hb hK hP (hD _) hS 34 1 cw_at_34 rfl h.1 d_Tool_cover_19 (fun H locs hP _ hS => ?_)
     obtain ⟨u12, eu12⟩ : ∃ z, z = pw_sa u 20 (upd (u.2 20) x3.toNatClampNeg (vp_nar .boolean 0)) := ⟨_, rfl⟩
     rw [cw_sa_34, ← eu12] at hP
     have h := h.2 u12 eu12
     obtain ⟨t13, et13⟩ : ∃ y : Int32, y = x3 + 1 := ⟨_, rfl⟩
     have h := h t13 et13
     refine lv_iinc (v := t13) (lv' := [(3, .int t13), (0, .ref (a 8)), (1, .int x1), (2, .int x2)]) hx hb d_Tool_cover_20 hl (k := 3) rfl (by rw [et13]; rfl) (by decide) rfl (fun ls hl => ?_)
     refine lv_goto (tgt := 2) hx hb d_Tool_cover_23 (by decide) ?_
     exact ih x1 x2 t13 u12 _ _ _ hP hS (lv_sub hl [1, 2, 3, 0] rfl) h
set_option maxHeartbeats 4000000 in
set_option maxRecDepth 100000 in
theorem st_Tool_cover {p : Program} {l : Launch} {e : Env} {s : State} {m : MethodId} {args : Array Value} {below : List Frame} {meth : Method} {c : Code} {D : va_G} {a : Nat → Nat} {cA cZ : ClassId} {G : pG} {A : Nat → Prop} {Q : pS → Prop} (C : pw_C p s m args meth c b_Tool_cover 5 R_Tool none w_Tool_cover A) (K : pw_K s D 40 a (cT cA cZ) A) (x1 x2 : Int32) (u : pS) (ls : Array Slot) (hP : va_P D vwCl (cw a cA cZ G u) s.heap) (hl : lv_has ls 5 [(0, .ref (a 8)), (1, .int x1), (2, .int x2)]) (h : wp_Tool_cover G x1 x2 u Q) : W p l e ({ frames := 3, cells := 0, slots := 0, locals := 72 } : Room) s m args below meth c s.heap [] 0 0 (pw_Ev below args s D (cw a cA cZ G) (cT cA cZ) A Q) (F0 m 0 ls []) := by
 obtain ⟨hx, hb, hr, hml, hown, hts, hlocks, hA⟩ := id C
 obtain ⟨hK, hI, hF⟩ := id K
 have hD : ∀ u, va_D A (cw a cA cZ G u) := fun u => cw_D hI hF
 have hS : va_S A s.heap s.heap [] := va_S.rf
 have h : wp_Tool_cover G x1 x2 u Q := h
 refine lv_iconst (v := 0) hx hb d_Tool_cover_0 (by decide) ?_
 refine lv_istore_n (lv' := [(3, .int 0), (0, .ref (a 8)), (1, .int x1), (2, .int x2)]) hx hb d_Tool_cover_1 rfl hl (by decide) rfl (fun ls hl => ?_)
 obtain ⟨n1, h⟩ := h
 exact cp_Tool_cover_2 C K n1 x1 x2 0 u _ _ _ hP hS (lv_sub hl [1, 2, 3, 0] rfl) h
set_option maxHeartbeats 4000000 in
set_option maxRecDepth 100000 in
theorem ct_Tool_cover (l : Launch) (D : va_G) (a : Nat → Nat) (cA cZ : ClassId) (G : pG) (sz : Nat) (x1 x2 : Int32) (u : pS) (Q : pS → Prop) (hI : pw_I 40 a) (h : wp_Tool_cover G x1 x2 u Q) : Met l y_Tool_cover w_Tool_cover ({ frames := 3, cells := 0, slots := 0, locals := 72 } : Room) (va_Pc [.ref (a 8), .int x1, .int x2] (pw_pre D (cw a cA cZ G) (cT cA cZ) sz u)) (va_Qv (fun (u : pS) => Q u) (pw_B D (cw a cA cZ G) (cT cA cZ)) (pw_F 40 a sz)) 0 0 (pw_F 40 a sz) := by
 refine Met.ofW (cc := b_Tool_cover) (maxL := 5) (ret := none) (by decide) rfl ?_
 intro p e s m args below meth c s₁ B hml hv
 obtain ⟨rfl, hsz, hP, hK⟩ := hv
 subst hsz
 have hl := lv_entry ([.ref (a 8), .int x1, .int x2]) (n := 5) (Nat.le_of_ble_eq_true rfl)
 rw [lg_entry_eq]
 generalize (lg_sl ([.ref (a 8), .int x1, .int x2]) ++ List.replicate (5 - (lg_sl ([.ref (a 8), .int x1, .int x2])).length) Slot.unset).toArray = ls at hl ⊢
 exact st_Tool_cover (A := (pw_F 40 a s.heap.size)) ⟨B.exec, B.bytes, B.returns, hml, findClass_of_methodNamed B.named, atoms_spec (ws := w_Tool_cover) B.pre, B.notSynchronized, fun q hq => Or.inr hq⟩ ⟨hK, hI, fun k hk => Or.inl ⟨k, hk, rfl⟩⟩ x1 x2 u ls hP hl h
set_option maxHeartbeats 4000000 in
set_option maxRecDepth 100000 in
theorem st_PI_left {p : Program} {l : Launch} {e : Env} {s : State} {m : MethodId} {args : Array Value} {below : List Frame} {meth : Method} {c : Code} {D : va_G} {a : Nat → Nat} {cA cZ : ClassId} {G : pG} {A : Nat → Prop} {Q : Int32 → pS → Prop} {X : Nat → pS → Prop} (C : pw_C p s m args meth c b_PI_left 3 R_PI (some .int) w_PI_left A) (K : pw_K s D 40 a (cT cA cZ) A) (EX : cw_Ex A s) (hL : px_L l) (htr : e.platform.stackTraces = false) (hE : ∀ (pc : Nat), ∀ x ∈ c.exceptionTable.toList, covers x pc = false) (x1 x2 : Int32) (u : pS) (ls : Array Slot) (hP : va_P D vwCl (cw a cA cZ G u) s.heap) (hl : lv_has ls 3 [(0, .ref (a 0)), (1, .int x1), (2, .int x2)]) (h : wp_PI_left G x1 x2 u Q X) : W p l e ({ frames := 8, cells := 1, slots := 6, locals := 124 } : Room) s m args below meth c s.heap [] 0 0 (px_Ei below args s D (cw a cA cZ G) (cT cA cZ) A Q X) (F0 m 0 ls []) := by
 obtain ⟨hx, hb, hr, hml, hown, hts, hlocks, hA⟩ := id C
 obtain ⟨hK, hI, hF⟩ := id K
 have hD : ∀ u, va_D A (cw a cA cZ G u) := fun u => cw_D hI hF
 have hz : ∀ oc t, px_T X (pw_B D (cw a cA cZ G) (cT cA cZ)) oc t → va_F A s t → (px_Qi Q X (pw_B D (cw a cA cZ G) (cT cA cZ)) A) args s oc t := fun oc t h1 h2 => ⟨Or.inr h1, h2⟩
 have hS : va_S A s.heap s.heap [] := va_S.rf
 have h : wp_PI_left G x1 x2 u Q X := h
 refine lv_aload_n hx hb d_PI_left_0 rfl (lv_at hl 0 rfl) ?_
 refine lv_iload_n hx hb d_PI_left_1 rfl (lv_at hl 1 rfl) ?_
 refine cx_v (px_runV (As := [.int x1]) (rest := []) ⟨hx, hb, hml, hown, hts⟩ (ct_PI_needPiece l D a cA cZ G _ x1 u _ _ hL hI h) (pw_cwV 1 hts kw_643 kw_45 kw_640 kw_642 kw_13 (by decide +kernel) ⟨Nat.le_of_ble_eq_true rfl, Nat.le_of_ble_eq_true rfl⟩) ⟨cw_blindX, va_recv hK hP (ci := 0) (q0 := 0) rfl cw_at_0, fun U hU hW => ⟨rfl, ⟨by rw [hU], by rw [hU]; exact hP, va_K.moved hW.alike hK⟩, cw_Ex_call EX hS (pw_FA hS hF hA) hU hW⟩⟩ rfl rfl hl.1 rfl (lv_room (Nat.le_of_ble_eq_true rfl)) d_PI_left_2 ⟨Nat.le_of_ble_eq_true rfl, Nat.le_of_ble_eq_true rfl⟩) hS hF hA (hE _) hlocks hz (fun u1 H locs hP hS h => ?_)
 refine lv_iload_n hx hb d_PI_left_5 rfl (lv_at hl 2 rfl) ?_
 refine lv_iconst (v := 0) hx hb d_PI_left_6 (by decide) ?_
 refine lv_bipush (v := 10) hx hb d_PI_left_7 (by decide) ?_
 refine cx_v (px_runS (As := [.int x2, .int 0, .int 10]) (rest := []) ⟨hx, hb, hml, hown, hts⟩ (ct_PI_needNumber l D a cA cZ G _ x2 0 10 u1 _ _ hL hI h) (pw_cwS 3 hts kw_441 kw_45 kw_439 kw_440 (by decide +kernel) ⟨Nat.le_of_ble_eq_true rfl, Nat.le_of_ble_eq_true rfl⟩) ⟨cw_blindX, fun U hU hW => ⟨rfl, ⟨by rw [hU], by rw [hU]; exact hP, va_K.moved hW.alike hK⟩, cw_Ex_call EX hS (pw_FA hS hF hA) hU hW⟩⟩ rfl rfl hl.1 rfl (lv_room (Nat.le_of_ble_eq_true rfl)) d_PI_left_9 ⟨Nat.le_of_ble_eq_true rfl, Nat.le_of_ble_eq_true rfl⟩) hS hF hA (hE _) hlocks hz (fun u2 H locs hP hS h => ?_)
 refine lv_aload_n hx hb d_PI_left_12 rfl (lv_at hl 0 rfl) ?_
 refine va_get (D := D) (ci := 0) (v := .ref (a 8)) (C := R_PI) (T := T_PI) (N := 12) hx hb hts in_PI hown hK hP 0 cw_at_0 rfl 8 (by decide) (hts _ (List.mem_cons_of_mem _ kw_320)) (fun _ h9 => h9) rfl d_PI_left_13 ?_
 refine lv_iload_n hx hb d_PI_left_16 rfl (lv_at hl 1 rfl) ?_
 refine lv_iload_n hx hb d_PI_left_17 rfl (lv_at hl 2 rfl) ?_
 refine cc_v (va_runV (As := [.int x1, .int x2]) (rest := []) ⟨hx, hb, hml, hown, hts⟩ (ct_Tool_cover l D a cA cZ G _ x1 x2 u2 _ hI h) (pw_cwV 2 hts kw_725 kw_54 kw_722 kw_723 kw_724 (by decide +kernel) ⟨Nat.le_of_ble_eq_true rfl, Nat.le_of_ble_eq_true rfl⟩) ⟨pw_blind, va_recv hK hP (ci := 9) (q0 := 8) rfl cw_at_8, fun U hU hW => ⟨rfl, by rw [hU], by rw [hU]; exact hP, va_K.moved hW.alike hK⟩⟩ rfl rfl hl.1 rfl (lv_room (Nat.le_of_ble_eq_true rfl)) d_PI_left_18 ⟨Nat.le_of_ble_eq_true rfl, Nat.le_of_ble_eq_true rfl⟩) hS hF hA (fun u3 H locs hP hS h => ?_)
 refine lv_aload_n hx hb d_PI_left_21 rfl (lv_at hl 0 rfl) ?_
 refine va_get (D := D) (ci := 0) (v := .ref (a 4)) (C := R_PI) (T := T_PI) (N := 12) hx hb hts in_PI hown hK hP 0 cw_at_0 rfl 4 (by decide) (hts _ (List.mem_cons_of_mem _ kw_316)) (fun _ h9 => h9) rfl d_PI_left_22 ?_
 refine lv_iload_n hx hb d_PI_left_25 rfl (lv_at hl 1 rfl) ?_
 refine cc_i (va_runV (As := [.int x1]) (rest := []) ⟨hx, hb, hml, hown, hts⟩ (ct_Pieces_sizeOf l D a cA cZ G _ x1 u3 _ hI h) (pw_cwV 1 hts kw_598 kw_49 kw_645 kw_596 kw_597 (by decide +kernel) ⟨Nat.le_of_ble_eq_true rfl, Nat.le_of_ble_eq_true rfl⟩) ⟨pw_blind, va_recv hK hP (ci := 7) (q0 := 4) rfl cw_at_4, fun U hU hW => ⟨rfl, by rw [hU], by rw [hU]; exact hP, va_K.moved hW.alike hK⟩⟩ rfl rfl hl.1 rfl (lv_room (Nat.le_of_ble_eq_true rfl)) d_PI_left_26 ⟨Nat.le_of_ble_eq_true rfl, Nat.le_of_ble_eq_true rfl⟩) hS hF hA (fun r5 u4 H locs hP hS h => ?_)
 refine lv_aload_n hx hb d_PI_left_29 rfl (lv_at hl 0 rfl) ?_
 refine va_get (D := D) (ci := 0) (v := .ref (a 8)) (C := R_PI) (T := T_PI) (N := 12) hx hb hts in_PI hown hK hP 0 cw_at_0 rfl 8 (by decide) (hts _ (List.mem_cons_of_mem _ kw_320)) (fun _ h9 => h9) rfl d_PI_left_30 ?_
 refine va_get (D := D) (ci := 9) (v := .int (u4.1 7)) (C := R_Tool) (T := T_Tool) (N := 4) hx hb hts in_Tool hown hK hP 8 cw_at_8 rfl 3 (by decide) (hts _ (List.mem_cons_of_mem _ kw_256)) (fun _ h9 => h9) rfl d_PI_left_33 ?_
 refine lv_isub hx hb d_PI_left_36 ?_
 exact px_mono (fun t h => px_ofMQ (fun _ _ h => h) h) (W.iret (Qc := px_Qi Q X (pw_B D (cw a cA cZ G) (cT cA cZ)) A) (v := (r5 - (u4.1 7))) hx hb hr (fun t ht hW => ⟨Or.inl ⟨(r5 - (u4.1 7)), u4, rfl, h, by rw [ht]; exact hP, va_K.moved hW.alike hK⟩, hS.F ht⟩) hS.2.2 d_PI_left_37 hlocks)
set_option maxHeartbeats 4000000 in
set_option maxRecDepth 100000 in
theorem ct_PI_left (l : Launch) (D : va_G) (a : Nat → Nat) (cA cZ : ClassId) (G : pG) (sz : Nat) (x1 x2 : Int32) (u : pS) (Q : Int32 → pS → Prop) (X : Nat → pS → Prop) (hL : px_L l) (hI : pw_I 40 a) (h : wp_PI_left G x1 x2 u Q X) : px_Met l y_PI_left w_PI_left ({ frames := 8, cells := 1, slots := 6, locals := 124 } : Room) (va_Pc [.ref (a 0), .int x1, .int x2] (fun U => pw_pre D (cw a cA cZ G) (cT cA cZ) sz u U ∧ cw_Ex (pw_F 40 a sz) U)) (px_Qi Q X (pw_B D (cw a cA cZ G) (cT cA cZ)) (pw_F 40 a sz)) 0 0 1 6 (pw_F 40 a sz) := by
 refine px_ofW (cc := b_PI_left) (maxL := 3) (ret := (some .int)) (by decide) rfl ?_
 intro p e s m args below meth c s₁ B hml hE hv
 obtain ⟨rfl, ⟨hsz, hP, hK⟩, EX⟩ := hv
 subst hsz
 have hl := lv_entry ([.ref (a 0), .int x1, .int x2]) (n := 3) (Nat.le_of_ble_eq_true rfl)
 rw [lg_entry_eq]
 generalize (lg_sl ([.ref (a 0), .int x1, .int x2]) ++ List.replicate (3 - (lg_sl ([.ref (a 0), .int x1, .int x2])).length) Slot.unset).toArray = ls at hl ⊢
 exact st_PI_left (A := (pw_F 40 a s.heap.size)) ⟨B.exec, B.bytes, B.returns, hml, findClass_of_methodNamed B.named, atoms_spec (ws := w_PI_left) B.pre, B.notSynchronized, fun q hq => Or.inr hq⟩ ⟨hK, hI, fun k hk => Or.inl ⟨k, hk, rfl⟩⟩ EX hL (hL e B.admits) (px_none hE) x1 x2 u ls hP hl h
set_option maxHeartbeats 4000000 in
set_option maxRecDepth 100000 in
theorem st_Tool_covers {p : Program} {l : Launch} {e : Env} {s : State} {m : MethodId} {args : Array Value} {below : List Frame} {meth : Method} {c : Code} {D : va_G} {a : Nat → Nat} {cA cZ : ClassId} {G : pG} {A : Nat → Prop} {Q : Int32 → pS → Prop} (C : pw_C p s m args meth c b_Tool_covers 4 R_Tool (some .boolean) w_Tool_covers A) (K : pw_K s D 40 a (cT cA cZ) A) (x1 x2 : Int32) (u : pS) (ls : Array Slot) (hP : va_P D vwCl (cw a cA cZ G u) s.heap) (hl : lv_has ls 4 [(0, .ref (a 8)), (1, .int x1), (2, .int x2)]) (h : wp_Tool_covers G x1 x2 u Q) : W p l e ({ frames := 1, cells := 0, slots := 0, locals := 23 } : Room) s m args below meth c s.heap [] 0 0 (pw_Ei below args s D (cw a cA cZ G) (cT cA cZ) A Q) (F0 m 0 ls []) := by
 obtain ⟨hx, hb, hr, hml, hown, hts, hlocks, hA⟩ := id C
 obtain ⟨hK, hI, hF⟩ := id K
 have hD : ∀ u, va_D A (cw a cA cZ G u) := fun u => cw_D hI hF
 have hS : va_S A s.heap s.heap [] := va_S.rf
 have h : wp_Tool_covers G x1 x2 u Q := h
 refine lv_aload_n hx hb d_Tool_covers_0 rfl (lv_at hl 0 rfl) ?_
 refine va_get (D := D) (ci := 9) (v := .ref (a 1)) (C := R_Tool) (T := T_Tool) (N := 4) hx hb hts in_Tool hown hK hP 8 cw_at_8 rfl 0 (by decide) (hts _ (List.mem_cons_of_mem _ kw_252)) (fun _ h9 => h9) rfl d_Tool_covers_1 ?_
 refine lv_iload_n hx hb d_Tool_covers_4 rfl (lv_at hl 1 rfl) ?_
 refine lv_iload_n hx hb d_Tool_covers_5 rfl (lv_at hl 2 rfl) ?_
 refine cc_i (va_runV (As := [.int x1, .int x2]) (rest := []) ⟨hx, hb, hml, hown, hts⟩ (ct_Grid_placeOf l D a cA cZ G _ x1 x2 u _ hI h) (pw_cwV 2 hts kw_96 kw_46 kw_735 kw_94 kw_95 (by decide +kernel) ⟨Nat.le_of_ble_eq_true rfl, Nat.le_of_ble_eq_true rfl⟩) ⟨pw_blind, va_recv hK hP (ci := 4) (q0 := 1) rfl cw_at_1, fun U hU hW => ⟨rfl, by rw [hU], by rw [hU]; exact hP, va_K.moved hW.alike hK⟩⟩ rfl rfl hl.1 rfl (lv_room (Nat.le_of_ble_eq_true rfl)) d_Tool_covers_6 ⟨Nat.le_of_ble_eq_true rfl, Nat.le_of_ble_eq_true rfl⟩) hS hF hA (fun r2 u1 H locs hP hS h => ?_)
 refine lv_istore_n (lv' := [(3, .int r2), (0, .ref (a 8)), (1, .int x1), (2, .int x2)]) hx hb d_Tool_covers_9 rfl hl (by decide) rfl (fun ls hl => ?_)
 refine lv_iload_n hx hb d_Tool_covers_10 rfl (lv_at hl 0 rfl) ?_
 refine lv_iconst (v := -1) hx hb d_Tool_covers_11 (by decide) ?_
 refine lv_icmp_eq (tgt := 28) hx hb d_Tool_covers_12 (by decide) (fun c3 => ?_) (fun c3 => ?_)
 · have h := h.1 c3
   refine lv_iconst (v := 0) hx hb d_Tool_covers_28 (by decide) ?_
   exact W.zret (v := 0) hx hb hr rfl (fun t ht hW => ⟨⟨0, u1, rfl, h, by rw [ht]; exact hP, va_K.moved hW.alike hK⟩, hS.F ht⟩) hS.2.2 d_Tool_covers_29 hlocks
 · have h := h.2 c3
   refine lv_aload_n hx hb d_Tool_covers_15 rfl (lv_at hl 1 rfl) ?_
   refine va_get (D := D) (ci := 9) (v := .ref (a 34)) (C := R_Tool) (T := T_Tool) (N := 4) hx hb hts in_Tool hown hK hP 8 cw_at_8 rfl 2 (by decide) (hts _ (List.mem_cons_of_mem _ kw_254)) (fun _ h9 => h9) rfl d_Tool_covers_16 ?_
   refine lv_iload_n hx hb d_Tool_covers_19 rfl (lv_at hl 0 rfl) ?_
   refine va_zald hx hb hK hP 34 1 cw_at_34 rfl h.1 d_Tool_covers_20 ?_
   have h := h.2
   refine lv_if_eq (tgt := 28) hx hb d_Tool_covers_21 (by decide) (fun c4 => ?_) (fun c4 => ?_)
   · have h := h.1 c4
     refine lv_iconst (v := 0) hx hb d_Tool_covers_28 (by decide) ?_
     exact W.zret (v := 0) hx hb hr rfl (fun t ht hW => ⟨⟨0, u1, rfl, h, by rw [ht]; exact hP, va_K.moved hW.alike hK⟩, hS.F ht⟩) hS.2.2 d_Tool_covers_29 hlocks
   · have h := h.2 c4
     refine lv_iconst (v := 1) hx hb d_Tool_covers_24 (by decide) ?_
     refine lv_goto (tgt := 29) hx hb d_Tool_covers_25 (by decide) ?_
     exact W.zret (v := 1) hx hb hr rfl (fun t ht hW => ⟨⟨1, u1, rfl, h, by rw [ht]; exact hP, va_K.moved hW.alike hK⟩, hS.F ht⟩) hS.2.2 d_Tool_covers_29 hlocks
set_option maxHeartbeats 4000000 in
set_option maxRecDepth 100000 in
theorem ct_Tool_covers (l : Launch) (D : va_G) (a : Nat → Nat) (cA cZ : ClassId) (G : pG) (sz : Nat) (x1 x2 : Int32) (u : pS) (Q : Int32 → pS → Prop) (hI : pw_I 40 a) (h : wp_Tool_covers G x1 x2 u Q) : Met l y_Tool_covers w_Tool_covers ({ frames := 1, cells := 0, slots := 0, locals := 23 } : Room) (va_Pc [.ref (a 8), .int x1, .int x2] (pw_pre D (cw a cA cZ G) (cT cA cZ) sz u)) (va_Qi (fun (r : Int32) (u : pS) => Q r u) (pw_B D (cw a cA cZ G) (cT cA cZ)) (pw_F 40 a sz)) 0 0 (pw_F 40 a sz) := by
 refine Met.ofW (cc := b_Tool_covers) (maxL := 4) (ret := (some .boolean)) (by decide) rfl ?_
 intro p e s m args below meth c s₁ B hml hv
 obtain ⟨rfl, hsz, hP, hK⟩ := hv
 subst hsz
 have hl := lv_entry ([.ref (a 8), .int x1, .int x2]) (n := 4) (Nat.le_of_ble_eq_true rfl)
 rw [lg_entry_eq]
 generalize (lg_sl ([.ref (a 8), .int x1, .int x2]) ++ List.replicate (4 - (lg_sl ([.ref (a 8), .int x1, .int x2])).length) Slot.unset).toArray = ls at hl ⊢
 exact st_Tool_covers (A := (pw_F 40 a s.heap.size)) ⟨B.exec, B.bytes, B.returns, hml, findClass_of_methodNamed B.named, atoms_spec (ws := w_Tool_covers) B.pre, B.notSynchronized, fun q hq => Or.inr hq⟩ ⟨hK, hI, fun k hk => Or.inl ⟨k, hk, rfl⟩⟩ x1 x2 u ls hP hl h
set_option maxHeartbeats 4000000 in
set_option maxRecDepth 100000 in
theorem st_PI_reached {p : Program} {l : Launch} {e : Env} {s : State} {m : MethodId} {args : Array Value} {below : List Frame} {meth : Method} {c : Code} {D : va_G} {a : Nat → Nat} {cA cZ : ClassId} {G : pG} {A : Nat → Prop} {Q : Int32 → pS → Prop} {X : Nat → pS → Prop} (C : pw_C p s m args meth c b_PI_reached 4 R_PI (some .boolean) w_PI_reached A) (K : pw_K s D 40 a (cT cA cZ) A) (EX : cw_Ex A s) (hL : px_L l) (htr : e.platform.stackTraces = false) (hE : ∀ (pc : Nat), ∀ x ∈ c.exceptionTable.toList, covers x pc = false) (x1 x2 x3 : Int32) (u : pS) (ls : Array Slot) (hP : va_P D vwCl (cw a cA cZ G u) s.heap) (hl : lv_has ls 4 [(0, .ref (a 0)), (1, .int x1), (2, .int x2), (3, .int x3)]) (h : wp_PI_reached G x1 x2 x3 u Q X) : W p l e ({ frames := 8, cells := 1, slots := 6, locals := 125 } : Room) s m args below meth c s.heap [] 0 0 (px_Ei below args s D (cw a cA cZ G) (cT cA cZ) A Q X) (F0 m 0 ls []) := by
 obtain ⟨hx, hb, hr, hml, hown, hts, hlocks, hA⟩ := id C
 obtain ⟨hK, hI, hF⟩ := id K
 have hD : ∀ u, va_D A (cw a cA cZ G u) := fun u => cw_D hI hF
 have hz : ∀ oc t, px_T X (pw_B D (cw a cA cZ G) (cT cA cZ)) oc t → va_F A s t → (px_Qi Q X (pw_B D (cw a cA cZ G) (cT cA cZ)) A) args s oc t := fun oc t h1 h2 => ⟨Or.inr h1, h2⟩
 have hS : va_S A s.heap s.heap [] := va_S.rf
 have h : wp_PI_reached G x1 x2 x3 u Q X := h
 refine lv_aload_n hx hb d_PI_reached_0 rfl (lv_at hl 0 rfl) ?_
 refine cx_v (px_runV (As := []) (rest := []) ⟨hx, hb, hml, hown, hts⟩ (ct_PI_needParted l D a cA cZ G _  u _ _ hL hI h) (pw_cwV 0 hts kw_611 kw_45 kw_608 kw_610 kw_12 (by decide +kernel) ⟨Nat.le_of_ble_eq_true rfl, Nat.le_of_ble_eq_true rfl⟩) ⟨cw_blindX, va_recv hK hP (ci := 0) (q0 := 0) rfl cw_at_0, fun U hU hW => ⟨rfl, ⟨by rw [hU], by rw [hU]; exact hP, va_K.moved hW.alike hK⟩, cw_Ex_call EX hS (pw_FA hS hF hA) hU hW⟩⟩ rfl rfl hl.1 rfl (lv_room (Nat.le_of_ble_eq_true rfl)) d_PI_reached_1 ⟨Nat.le_of_ble_eq_true rfl, Nat.le_of_ble_eq_true rfl⟩) hS hF hA (hE _) hlocks hz (fun u1 H locs hP hS h => ?_)
 refine lv_aload_n hx hb d_PI_reached_4 rfl (lv_at hl 0 rfl) ?_
 refine lv_iload_n hx hb d_PI_reached_5 rfl (lv_at hl 1 rfl) ?_
 refine lv_iload_n hx hb d_PI_reached_6 rfl (lv_at hl 2 rfl) ?_
 refine cx_v (px_runV (As := [.int x1, .int x2]) (rest := []) ⟨hx, hb, hml, hown, hts⟩ (ct_PI_needPlace l D a cA cZ G _ x1 x2 u1 _ _ hL hI h) (pw_cwV 2 hts kw_364 kw_45 kw_361 kw_363 kw_0 (by decide +kernel) ⟨Nat.le_of_ble_eq_true rfl, Nat.le_of_ble_eq_true rfl⟩) ⟨cw_blindX, va_recv hK hP (ci := 0) (q0 := 0) rfl cw_at_0, fun U hU hW => ⟨rfl, ⟨by rw [hU], by rw [hU]; exact hP, va_K.moved hW.alike hK⟩, cw_Ex_call EX hS (pw_FA hS hF hA) hU hW⟩⟩ rfl rfl hl.1 rfl (lv_room (Nat.le_of_ble_eq_true rfl)) d_PI_reached_7 ⟨Nat.le_of_ble_eq_true rfl, Nat.le_of_ble_eq_true rfl⟩) hS hF hA (hE _) hlocks hz (fun u2 H locs hP hS h => ?_)
 refine lv_iload_n hx hb d_PI_reached_10 rfl (lv_at hl 3 rfl) ?_
 refine lv_iconst (v := 0) hx hb d_PI_reached_11 (by decide) ?_
 refine lv_bipush (v := 10) hx hb d_PI_reached_12 (by decide) ?_
 refine cx_v (px_runS (As := [.int x3, .int 0, .int 10]) (rest := []) ⟨hx, hb, hml, hown, hts⟩ (ct_PI_needNumber l D a cA cZ G _ x3 0 10 u2 _ _ hL hI h) (pw_cwS 3 hts kw_441 kw_45 kw_439 kw_440 (by decide +kernel) ⟨Nat.le_of_ble_eq_true rfl, Nat.le_of_ble_eq_true rfl⟩) ⟨cw_blindX, fun U hU hW => ⟨rfl, ⟨by rw [hU], by rw [hU]; exact hP, va_K.moved hW.alike hK⟩, cw_Ex_call EX hS (pw_FA hS hF hA) hU hW⟩⟩ rfl rfl hl.1 rfl (lv_room (Nat.le_of_ble_eq_true rfl)) d_PI_reached_14 ⟨Nat.le_of_ble_eq_true rfl, Nat.le_of_ble_eq_true rfl⟩) hS hF hA (hE _) hlocks hz (fun u3 H locs hP hS h => ?_)
 refine lv_aload_n hx hb d_PI_reached_17 rfl (lv_at hl 0 rfl) ?_
 refine va_get (D := D) (ci := 0) (v := .ref (a 8)) (C := R_PI) (T := T_PI) (N := 12) hx hb hts in_PI hown hK hP 0 cw_at_0 rfl 8 (by decide) (hts _ (List.mem_cons_of_mem _ kw_320)) (fun _ h9 => h9) rfl d_PI_reached_18 ?_
 refine lv_aload_n hx hb d_PI_reached_21 rfl (lv_at hl 0 rfl) ?_
 refine va_get (D := D) (ci := 0) (v := .ref (a 4)) (C := R_PI) (T := T_PI) (N := 12) hx hb hts in_PI hown hK hP 0 cw_at_0 rfl 4 (by decide) (hts _ (List.mem_cons_of_mem _ kw_316)) (fun _ h9 => h9) rfl d_PI_reached_22 ?_
 refine lv_iload_n hx hb d_PI_reached_25 rfl (lv_at hl 1 rfl) ?_
 refine lv_iload_n hx hb d_PI_reached_26 rfl (lv_at hl 2 rfl) ?_
 refine cc_i (va_runV (As := [.int x1, .int x2]) (rest := [.ref (a 8)]) ⟨hx, hb, hml, hown, hts⟩ (ct_Pieces_numberOf l D a cA cZ G _ x1 x2 u3 _ hI h) (pw_cwV 2 hts kw_631 kw_49 kw_628 kw_629 kw_630 (by decide +kernel) ⟨Nat.le_of_ble_eq_true rfl, Nat.le_of_ble_eq_true rfl⟩) ⟨pw_blind, va_recv hK hP (ci := 7) (q0 := 4) rfl cw_at_4, fun U hU hW => ⟨rfl, by rw [hU], by rw [hU]; exact hP, va_K.moved hW.alike hK⟩⟩ rfl rfl hl.1 rfl (lv_room (Nat.le_of_ble_eq_true rfl)) d_PI_reached_27 ⟨Nat.le_of_ble_eq_true rfl, Nat.le_of_ble_eq_true rfl⟩) hS hF hA (fun r5 u4 H locs hP hS h => ?_)
 refine lv_iload_n hx hb d_PI_reached_30 rfl (lv_at hl 3 rfl) ?_
 refine cc_v (va_runV (As := [.int r5, .int x3]) (rest := []) ⟨hx, hb, hml, hown, hts⟩ (ct_Tool_cover l D a cA cZ G _ r5 x3 u4 _ hI h) (pw_cwV 2 hts kw_725 kw_54 kw_722 kw_723 kw_724 (by decide +kernel) ⟨Nat.le_of_ble_eq_true rfl, Nat.le_of_ble_eq_true rfl⟩) ⟨pw_blind, va_recv hK hP (ci := 9) (q0 := 8) rfl cw_at_8, fun U hU hW => ⟨rfl, by rw [hU], by rw [hU]; exact hP, va_K.moved hW.alike hK⟩⟩ rfl rfl hl.1 rfl (lv_room (Nat.le_of_ble_eq_true rfl)) d_PI_reached_31 ⟨Nat.le_of_ble_eq_true rfl, Nat.le_of_ble_eq_true rfl⟩) hS hF hA (fun u6 H locs hP hS h => ?_)
 refine lv_aload_n hx hb d_PI_reached_34 rfl (lv_at hl 0 rfl) ?_
 refine va_get (D := D) (ci := 0) (v := .ref (a 8)) (C := R_PI) (T := T_PI) (N := 12) hx hb hts in_PI hown hK hP 0 cw_at_0 rfl 8 (by decide) (hts _ (List.mem_cons_of_mem _ kw_320)) (fun _ h9 => h9) rfl d_PI_reached_35 ?_
 refine lv_iload_n hx hb d_PI_reached_38 rfl (lv_at hl 1 rfl) ?_
 refine lv_iload_n hx hb d_PI_reached_39 rfl (lv_at hl 2 rfl) ?_
 refine cc_i (va_runV (As := [.int x1, .int x2]) (rest := []) ⟨hx, hb, hml, hown, hts⟩ (ct_Tool_covers l D a cA cZ G _ x1 x2 u6 _ hI h) (pw_cwV 2 hts kw_746 kw_54 kw_743 kw_744 kw_745 (by decide +kernel) ⟨Nat.le_of_ble_eq_true rfl, Nat.le_of_ble_eq_true rfl⟩) ⟨pw_blind, va_recv hK hP (ci := 9) (q0 := 8) rfl cw_at_8, fun U hU hW => ⟨rfl, by rw [hU], by rw [hU]; exact hP, va_K.moved hW.alike hK⟩⟩ rfl rfl hl.1 rfl (lv_room (Nat.le_of_ble_eq_true rfl)) d_PI_reached_40 ⟨Nat.le_of_ble_eq_true rfl, Nat.le_of_ble_eq_true rfl⟩) hS hF hA (fun r8 u7 H locs hP hS h => ?_)
 exact px_mono (fun t h => px_ofMQ (fun _ _ h => h) h) (W.zret (Qc := px_Qi Q X (pw_B D (cw a cA cZ G) (cT cA cZ)) A) (v := r8) hx hb hr h.1 (fun t ht hW => ⟨Or.inl ⟨r8, u7, rfl, h.2, by rw [ht]; exact hP, va_K.moved hW.alike hK⟩, hS.F ht⟩) hS.2.2 d_PI_reached_43 hlocks)
set_option maxHeartbeats 4000000 in
set_option maxRecDepth 100000 in
theorem ct_PI_reached (l : Launch) (D : va_G) (a : Nat → Nat) (cA cZ : ClassId) (G : pG) (sz : Nat) (x1 x2 x3 : Int32) (u : pS) (Q : Int32 → pS → Prop) (X : Nat → pS → Prop) (hL : px_L l) (hI : pw_I 40 a) (h : wp_PI_reached G x1 x2 x3 u Q X) : px_Met l y_PI_reached w_PI_reached ({ frames := 8, cells := 1, slots := 6, locals := 125 } : Room) (va_Pc [.ref (a 0), .int x1, .int x2, .int x3] (fun U => pw_pre D (cw a cA cZ G) (cT cA cZ) sz u U ∧ cw_Ex (pw_F 40 a sz) U)) (px_Qi Q X (pw_B D (cw a cA cZ G) (cT cA cZ)) (pw_F 40 a sz)) 0 0 1 6 (pw_F 40 a sz) := by
 refine px_ofW (cc := b_PI_reached) (maxL := 4) (ret := (some .boolean)) (by decide) rfl ?_
 intro p e s m args below meth c s₁ B hml hE hv
 obtain ⟨rfl, ⟨hsz, hP, hK⟩, EX⟩ := hv
 subst hsz
 have hl := lv_entry ([.ref (a 0), .int x1, .int x2, .int x3]) (n := 4) (Nat.le_of_ble_eq_true rfl)
 rw [lg_entry_eq]
 generalize (lg_sl ([.ref (a 0), .int x1, .int x2, .int x3]) ++ List.replicate (4 - (lg_sl ([.ref (a 0), .int x1, .int x2, .int x3])).length) Slot.unset).toArray = ls at hl ⊢
 exact st_PI_reached (A := (pw_F 40 a s.heap.size)) ⟨B.exec, B.bytes, B.returns, hml, findClass_of_methodNamed B.named, atoms_spec (ws := w_PI_reached) B.pre, B.notSynchronized, fun q hq => Or.inr hq⟩ ⟨hK, hI, fun k hk => Or.inl ⟨k, hk, rfl⟩⟩ EX hL (hL e B.admits) (px_none hE) x1 x2 x3 u ls hP hl h
end
section
set_option maxHeartbeats 4000000 in
set_option maxRecDepth 100000 in
theorem st_Ranking_ranked_laying {p : Program} {l : Launch} {e : Env} {s : State} {m : MethodId} {args : Array Value} {below : List Frame} {meth : Method} {c : Code} {D : va_G} {a : Nat → Nat} {cA cZ : ClassId} {G : pG} {A : Nat → Prop} {Q : Int32 → pS → Prop} (C : pw_C p s m args meth c b_Ranking_ranked 2 R_Ranking (some .int) w_Ranking_ranked A) (K : pw_K s D 40 a (cT cA cZ) A) (x1 : Int32) (u : pS) (ls : Array Slot) (hP : va_P D vwCl (cw a cA cZ G u) s.heap) (hl : lv_has ls 2 [(0, .ref (a 6)), (1, .int x1)]) (h : wp_Ranking_ranked_laying G x1 u Q) : W p l e ({ frames := 0, cells := 0, slots := 0, locals := 0 } : Room) s m args below meth c s.heap [] 0 0 (pw_Ei below args s D (cw a cA cZ G) (cT cA cZ) A Q) (F0 m 0 ls []) := by
 obtain ⟨hx, hb, hr, hml, hown, hts, hlocks, hA⟩ := id C
 obtain ⟨hK, hI, hF⟩ := id K
 have hD : ∀ u, va_D A (cw a cA cZ G u) := fun u => cw_D hI hF
 have hS : va_S A s.heap s.heap [] := va_S.rf
 have h : wp_Ranking_ranked_laying G x1 u Q := h
 refine lv_aload_n hx hb d_Ranking_ranked_0 rfl (lv_at hl 0 rfl) ?_
 refine va_get (D := D) (ci := 6) (v := .ref (a 30)) (C := R_Laying) (T := T_Laying) (N := 2) hx hb hts in_Laying hown hK hP 6 cw_at_6 rfl 0 (by decide) (hts _ (List.mem_cons_of_mem _ kw_197)) (fun _ h9 => h9) rfl d_Ranking_ranked_1 ?_
 refine lv_iload_n hx hb d_Ranking_ranked_4 rfl (lv_at hl 1 rfl) ?_
 refine va_iald hx hb hK hP 30 0 cw_at_30 rfl h.1 d_Ranking_ranked_5 ?_
 have h := h.2
 exact W.iret (v := (u.2 16 x1.toNatClampNeg)) hx hb hr (fun t ht hW => ⟨⟨(u.2 16 x1.toNatClampNeg), u, rfl, h, by rw [ht]; exact hP, va_K.moved hW.alike hK⟩, hS.F ht⟩) hS.2.2 d_Ranking_ranked_6 hlocks
set_option maxHeartbeats 4000000 in
set_option maxRecDepth 100000 in
theorem ct_Ranking_ranked_laying (l : Launch) (D : va_G) (a : Nat → Nat) (cA cZ : ClassId) (G : pG) (sz : Nat) (x1 : Int32) (u : pS) (Q : Int32 → pS → Prop) (hI : pw_I 40 a) (h : wp_Ranking_ranked_laying G x1 u Q) : Met l y_Ranking_ranked w_Ranking_ranked ({ frames := 0, cells := 0, slots := 0, locals := 0 } : Room) (va_Pc [.ref (a 6), .int x1] (pw_pre D (cw a cA cZ G) (cT cA cZ) sz u)) (va_Qi (fun (r : Int32) (u : pS) => Q r u) (pw_B D (cw a cA cZ G) (cT cA cZ)) (pw_F 40 a sz)) 0 0 (pw_F 40 a sz) := by
 refine Met.ofW (cc := b_Ranking_ranked) (maxL := 2) (ret := (some .int)) (by decide) rfl ?_
 intro p e s m args below meth c s₁ B hml hv
 obtain ⟨rfl, hsz, hP, hK⟩ := hv
 subst hsz
 have hl := lv_entry ([.ref (a 6), .int x1]) (n := 2) (Nat.le_of_ble_eq_true rfl)
 rw [lg_entry_eq]
 generalize (lg_sl ([.ref (a 6), .int x1]) ++ List.replicate (2 - (lg_sl ([.ref (a 6), .int x1])).length) Slot.unset).toArray = ls at hl ⊢
 exact st_Ranking_ranked_laying (A := (pw_F 40 a s.heap.size)) ⟨B.exec, B.bytes, B.returns, hml, findClass_of_methodNamed B.named, atoms_spec (ws := w_Ranking_ranked) B.pre, B.notSynchronized, fun q hq => Or.inr hq⟩ ⟨hK, hI, fun k hk => Or.inl ⟨k, hk, rfl⟩⟩ x1 u ls hP hl h
set_option maxHeartbeats 4000000 in
set_option maxRecDepth 100000 in
theorem st_PI_order {p : Program} {l : Launch} {e : Env} {s : State} {m : MethodId} {args : Array Value} {below : List Frame} {meth : Method} {c : Code} {D : va_G} {a : Nat → Nat} {cA cZ : ClassId} {G : pG} {A : Nat → Prop} {Q : Int32 → pS → Prop} {X : Nat → pS → Prop} (C : pw_C p s m args meth c b_PI_order 2 R_PI (some .int) w_PI_order A) (K : pw_K s D 40 a (cT cA cZ) A) (EX : cw_Ex A s) (hL : px_L l) (htr : e.platform.stackTraces = false) (hE : ∀ (pc : Nat), ∀ x ∈ c.exceptionTable.toList, covers x pc = false) (x1 : Int32) (u : pS) (ls : Array Slot) (hP : va_P D vwCl (cw a cA cZ G u) s.heap) (hl : lv_has ls 2 [(0, .ref (a 0)), (1, .int x1)]) (h : wp_PI_order G x1 u Q X) : W p l e ({ frames := 8, cells := 1, slots := 6, locals := 124 } : Room) s m args below meth c s.heap [] 0 0 (px_Ei below args s D (cw a cA cZ G) (cT cA cZ) A Q X) (F0 m 0 ls []) := by
 obtain ⟨hx, hb, hr, hml, hown, hts, hlocks, hA⟩ := id C
 obtain ⟨hK, hI, hF⟩ := id K
 have hD : ∀ u, va_D A (cw a cA cZ G u) := fun u => cw_D hI hF
 have hz : ∀ oc t, px_T X (pw_B D (cw a cA cZ G) (cT cA cZ)) oc t → va_F A s t → (px_Qi Q X (pw_B D (cw a cA cZ G) (cT cA cZ)) A) args s oc t := fun oc t h1 h2 => ⟨Or.inr h1, h2⟩
 have hS : va_S A s.heap s.heap [] := va_S.rf
 have h : wp_PI_order G x1 u Q X := h
 refine lv_aload_n hx hb d_PI_order_0 rfl (lv_at hl 0 rfl) ?_
 refine lv_iload_n hx hb d_PI_order_1 rfl (lv_at hl 1 rfl) ?_
 refine cx_v (px_runV (As := [.int x1]) (rest := []) ⟨hx, hb, hml, hown, hts⟩ (ct_PI_needPiece l D a cA cZ G _ x1 u _ _ hL hI h) (pw_cwV 1 hts kw_643 kw_45 kw_640 kw_642 kw_13 (by decide +kernel) ⟨Nat.le_of_ble_eq_true rfl, Nat.le_of_ble_eq_true rfl⟩) ⟨cw_blindX, va_recv hK hP (ci := 0) (q0 := 0) rfl cw_at_0, fun U hU hW => ⟨rfl, ⟨by rw [hU], by rw [hU]; exact hP, va_K.moved hW.alike hK⟩, cw_Ex_call EX hS (pw_FA hS hF hA) hU hW⟩⟩ rfl rfl hl.1 rfl (lv_room (Nat.le_of_ble_eq_true rfl)) d_PI_order_2 ⟨Nat.le_of_ble_eq_true rfl, Nat.le_of_ble_eq_true rfl⟩) hS hF hA (hE _) hlocks hz (fun u1 H locs hP hS h => ?_)
 refine lv_aload_n hx hb d_PI_order_5 rfl (lv_at hl 0 rfl) ?_
 refine va_get (D := D) (ci := 0) (v := .ref (a 6)) (C := R_PI) (T := T_PI) (N := 12) hx hb hts in_PI hown hK hP 0 cw_at_0 rfl 6 (by decide) (hts _ (List.mem_cons_of_mem _ kw_318)) (fun _ h9 => h9) rfl d_PI_order_6 ?_
 refine lv_iload_n hx hb d_PI_order_9 rfl (lv_at hl 1 rfl) ?_
 refine cc_i (va_runU (As := [.int x1]) (rest := []) ⟨hx, hb, hml, hown, hts⟩ (ct_Ranking_ranked_laying l D a cA cZ G _ x1 u1 _ hI h) (pw_cwU (owner := "PictureInlays$Ranking") 1 hts kw_760 kw_50 kw_754 kw_756 kw_759 kw_755 rfl (by decide +kernel) ⟨Nat.le_of_ble_eq_true rfl, Nat.le_of_ble_eq_true rfl⟩) ⟨pw_blind, va_recv hK hP (ci := 6) (q0 := 6) rfl cw_at_6, fun U hU hW => ⟨rfl, by rw [hU], by rw [hU]; exact hP, va_K.moved hW.alike hK⟩⟩ rfl rfl hl.1 rfl (lv_room (Nat.le_of_ble_eq_true rfl)) d_PI_order_10 ⟨Nat.le_of_ble_eq_true rfl, Nat.le_of_ble_eq_true rfl⟩) hS hF hA (fun r3 u2 H locs hP hS h => ?_)
 exact px_mono (fun t h => px_ofMQ (fun _ _ h => h) h) (W.iret (Qc := px_Qi Q X (pw_B D (cw a cA cZ G) (cT cA cZ)) A) (v := r3) hx hb hr (fun t ht hW => ⟨Or.inl ⟨r3, u2, rfl, h, by rw [ht]; exact hP, va_K.moved hW.alike hK⟩, hS.F ht⟩) hS.2.2 d_PI_order_13 hlocks)
set_option maxHeartbeats 4000000 in
set_option maxRecDepth 100000 in
theorem ct_PI_order (l : Launch) (D : va_G) (a : Nat → Nat) (cA cZ : ClassId) (G : pG) (sz : Nat) (x1 : Int32) (u : pS) (Q : Int32 → pS → Prop) (X : Nat → pS → Prop) (hL : px_L l) (hI : pw_I 40 a) (h : wp_PI_order G x1 u Q X) : px_Met l y_PI_order w_PI_order ({ frames := 8, cells := 1, slots := 6, locals := 124 } : Room) (va_Pc [.ref (a 0), .int x1] (fun U => pw_pre D (cw a cA cZ G) (cT cA cZ) sz u U ∧ cw_Ex (pw_F 40 a sz) U)) (px_Qi Q X (pw_B D (cw a cA cZ G) (cT cA cZ)) (pw_F 40 a sz)) 0 0 1 6 (pw_F 40 a sz) := by
 refine px_ofW (cc := b_PI_order) (maxL := 2) (ret := (some .int)) (by decide) rfl ?_
 intro p e s m args below meth c s₁ B hml hE hv
 obtain ⟨rfl, ⟨hsz, hP, hK⟩, EX⟩ := hv
 subst hsz
 have hl := lv_entry ([.ref (a 0), .int x1]) (n := 2) (Nat.le_of_ble_eq_true rfl)
 rw [lg_entry_eq]
 generalize (lg_sl ([.ref (a 0), .int x1]) ++ List.replicate (2 - (lg_sl ([.ref (a 0), .int x1])).length) Slot.unset).toArray = ls at hl ⊢
 exact st_PI_order (A := (pw_F 40 a s.heap.size)) ⟨B.exec, B.bytes, B.returns, hml, findClass_of_methodNamed B.named, atoms_spec (ws := w_PI_order) B.pre, B.notSynchronized, fun q hq => Or.inr hq⟩ ⟨hK, hI, fun k hk => Or.inl ⟨k, hk, rfl⟩⟩ EX hL (hL e B.admits) (px_none hE) x1 u ls hP hl h
set_option maxHeartbeats 4000000 in
set_option maxRecDepth 100000 in
theorem st_Integer_compare {p : Program} {l : Launch} {e : Env} {s : State} {m : MethodId} {args : Array Value} {below : List Frame} {meth : Method} {c : Code} {D : va_G} {a : Nat → Nat} {cA cZ : ClassId} {G : pG} {A : Nat → Prop} {Q : Int32 → pS → Prop} (C : pw_C p s m args meth c b_Integer_compare 2 R_Integer (some .int) w_Integer_compare A) (K : pw_K s D 40 a (cT cA cZ) A) (x0 x1 : Int32) (u : pS) (ls : Array Slot) (hP : va_P D vwCl (cw a cA cZ G u) s.heap) (hl : lv_has ls 2 [(0, .int x0), (1, .int x1)]) (h : wp_Integer_compare G x0 x1 u Q) : W p l e ({ frames := 0, cells := 0, slots := 0, locals := 0 } : Room) s m args below meth c s.heap [] 0 0 (pw_Ei below args s D (cw a cA cZ G) (cT cA cZ) A Q) (F0 m 0 ls []) := by
 obtain ⟨hx, hb, hr, hml, hown, hts, hlocks, hA⟩ := id C
 obtain ⟨hK, hI, hF⟩ := id K
 have hD : ∀ u, va_D A (cw a cA cZ G u) := fun u => cw_D hI hF
 have hS : va_S A s.heap s.heap [] := va_S.rf
 have h : wp_Integer_compare G x0 x1 u Q := h
 refine lv_iload_n hx hb d_Integer_compare_0 rfl (lv_at hl 0 rfl) ?_
 refine lv_iload_n hx hb d_Integer_compare_1 rfl (lv_at hl 1 rfl) ?_
 refine lv_icmp_ge (tgt := 9) hx hb d_Integer_compare_2 (by decide) (fun c1 => ?_) (fun c1 => ?_)
 · have h := h.1 c1
   refine lv_iload_n hx hb d_Integer_compare_9 rfl (lv_at hl 0 rfl) ?_
   refine lv_iload_n hx hb d_Integer_compare_10 rfl (lv_at hl 1 rfl) ?_
   refine lv_icmp_ne (tgt := 18) hx hb d_Integer_compare_11 (by decide) (fun c2 => ?_) (fun c2 => ?_)
   · have h := h.2 c2
     refine lv_iconst (v := 1) hx hb d_Integer_compare_18 (by decide) ?_
     exact W.iret (v := 1) hx hb hr (fun t ht hW => ⟨⟨1, u, rfl, h, by rw [ht]; exact hP, va_K.moved hW.alike hK⟩, hS.F ht⟩) hS.2.2 d_Integer_compare_19 hlocks
   · have h := h.1 c2
     refine lv_iconst (v := 0) hx hb d_Integer_compare_14 (by decide) ?_
     refine lv_goto (tgt := 19) hx hb d_Integer_compare_15 (by decide) ?_
     exact W.iret (v := 0) hx hb hr (fun t ht hW => ⟨⟨0, u, rfl, h, by rw [ht]; exact hP, va_K.moved hW.alike hK⟩, hS.F ht⟩) hS.2.2 d_Integer_compare_19 hlocks
 · have h := h.2 c1
   refine lv_iconst (v := -1) hx hb d_Integer_compare_5 (by decide) ?_
   refine lv_goto (tgt := 19) hx hb d_Integer_compare_6 (by decide) ?_
   exact W.iret (v := (-1)) hx hb hr (fun t ht hW => ⟨⟨(-1), u, rfl, h, by rw [ht]; exact hP, va_K.moved hW.alike hK⟩, hS.F ht⟩) hS.2.2 d_Integer_compare_19 hlocks
set_option maxHeartbeats 4000000 in
set_option maxRecDepth 100000 in
theorem ct_Integer_compare (l : Launch) (D : va_G) (a : Nat → Nat) (cA cZ : ClassId) (G : pG) (sz : Nat) (x0 x1 : Int32) (u : pS) (Q : Int32 → pS → Prop) (hI : pw_I 40 a) (h : wp_Integer_compare G x0 x1 u Q) : Met l y_Integer_compare w_Integer_compare ({ frames := 0, cells := 0, slots := 0, locals := 0 } : Room) (va_Pc [.int x0, .int x1] (pw_pre D (cw a cA cZ G) (cT cA cZ) sz u)) (va_Qi (fun (r : Int32) (u : pS) => Q r u) (pw_B D (cw a cA cZ G) (cT cA cZ)) (pw_F 40 a sz)) 0 0 (pw_F 40 a sz) := by
 refine Met.ofW (cc := b_Integer_compare) (maxL := 2) (ret := (some .int)) (by decide) rfl ?_
 intro p e s m args below meth c s₁ B hml hv
 obtain ⟨rfl, hsz, hP, hK⟩ := hv
 subst hsz
 have hl := lv_entry ([.int x0, .int x1]) (n := 2) (Nat.le_of_ble_eq_true rfl)
 rw [lg_entry_eq]
 generalize (lg_sl ([.int x0, .int x1]) ++ List.replicate (2 - (lg_sl ([.int x0, .int x1])).length) Slot.unset).toArray = ls at hl ⊢
 exact st_Integer_compare (A := (pw_F 40 a s.heap.size)) ⟨B.exec, B.bytes, B.returns, hml, findClass_of_methodNamed B.named, atoms_spec (ws := w_Integer_compare) B.pre, B.notSynchronized, fun q hq => Or.inr hq⟩ ⟨hK, hI, fun k hk => Or.inl ⟨k, hk, rfl⟩⟩ x0 x1 u ls hP hl h
set_option maxHeartbeats 4000000 in
set_option maxRecDepth 100000 in
theorem st_Highest_compare {p : Program} {l : Launch} {e : Env} {s : State} {m : MethodId} {args : Array Value} {below : List Frame} {meth : Method} {c : Code} {D : va_G} {a : Nat → Nat} {cA cZ : ClassId} {G : pG} {A : Nat → Prop} {Q : Int32 → pS → Prop} (C : pw_C p s m args meth c b_Highest_compare 3 R_Highest (some .int) w_Highest_compare A) (K : pw_K s D 40 a (cT cA cZ) A) (x1 x2 : Int32) (u : pS) (ls : Array Slot) (hP : va_P D vwCl (cw a cA cZ G u) s.heap) (hl : lv_has ls 3 [(0, .ref (a 10)), (1, .int x1), (2, .int x2)]) (h : wp_Highest_compare G x1 x2 u Q) : W p l e ({ frames := 3, cells := 0, slots := 0, locals := 63 } : Room) s m args below meth c s.heap [] 0 0 (pw_Ei below args s D (cw a cA cZ G) (cT cA cZ) A Q) (F0 m 0 ls []) := by
 obtain ⟨hx, hb, hr, hml, hown, hts, hlocks, hA⟩ := id C
 obtain ⟨hK, hI, hF⟩ := id K
 have hD : ∀ u, va_D A (cw a cA cZ G u) := fun u => cw_D hI hF
 have hS : va_S A s.heap s.heap [] := va_S.rf
 have h : wp_Highest_compare G x1 x2 u Q := h
 refine lv_aload_n hx hb d_Highest_compare_0 rfl (lv_at hl 0 rfl) ?_
 refine va_get (D := D) (ci := 5) (v := .ref (a 4)) (C := R_Highest) (T := T_Highest) (N := 2) hx hb hts in_Highest hown hK hP 10 cw_at_10 rfl 1 (by decide) (hts _ (List.mem_cons_of_mem _ kw_279)) (fun _ h9 => h9) rfl d_Highest_compare_1 ?_
 refine lv_iload_n hx hb d_Highest_compare_4 rfl (lv_at hl 1 rfl) ?_
 refine cc_i (va_runV (As := [.int x1]) (rest := []) ⟨hx, hb, hml, hown, hts⟩ (ct_Pieces_rowsOf l D a cA cZ G _ x1 u _ hI h) (pw_cwV 1 hts kw_578 kw_49 kw_575 kw_576 kw_577 (by decide +kernel) ⟨Nat.le_of_ble_eq_true rfl, Nat.le_of_ble_eq_true rfl⟩) ⟨pw_blind, va_recv hK hP (ci := 7) (q0 := 4) rfl cw_at_4, fun U hU hW => ⟨rfl, by rw [hU], by rw [hU]; exact hP, va_K.moved hW.alike hK⟩⟩ rfl rfl hl.1 rfl (lv_room (Nat.le_of_ble_eq_true rfl)) d_Highest_compare_5 ⟨Nat.le_of_ble_eq_true rfl, Nat.le_of_ble_eq_true rfl⟩) hS hF hA (fun r2 u1 H locs hP hS h => ?_)
 refine lv_aload_n hx hb d_Highest_compare_8 rfl (lv_at hl 0 rfl) ?_
 refine va_get (D := D) (ci := 5) (v := .ref (a 4)) (C := R_Highest) (T := T_Highest) (N := 2) hx hb hts in_Highest hown hK hP 10 cw_at_10 rfl 1 (by decide) (hts _ (List.mem_cons_of_mem _ kw_279)) (fun _ h9 => h9) rfl d_Highest_compare_9 ?_
 refine lv_iload_n hx hb d_Highest_compare_12 rfl (lv_at hl 2 rfl) ?_
 refine cc_i (va_runV (As := [.int x2]) (rest := [.int r2]) ⟨hx, hb, hml, hown, hts⟩ (ct_Pieces_rowsOf l D a cA cZ G _ x2 u1 _ hI h) (pw_cwV 1 hts kw_578 kw_49 kw_575 kw_576 kw_577 (by decide +kernel) ⟨Nat.le_of_ble_eq_true rfl, Nat.le_of_ble_eq_true rfl⟩) ⟨pw_blind, va_recv hK hP (ci := 7) (q0 := 4) rfl cw_at_4, fun U hU hW => ⟨rfl, by rw [hU], by rw [hU]; exact hP, va_K.moved hW.alike hK⟩⟩ rfl rfl hl.1 rfl (lv_room (Nat.le_of_ble_eq_true rfl)) d_Highest_compare_13 ⟨Nat.le_of_ble_eq_true rfl, Nat.le_of_ble_eq_true rfl⟩) hS hF hA (fun r4 u3 H locs hP hS h => ?_)
 refine lv_icmp_eq (tgt := 39) hx hb d_Highest_compare_16 (by decide) (fun c5 => ?_) (fun c5 => ?_)
 · have h := h.1 c5
   refine lv_aload_n hx hb d_Highest_compare_39 rfl (lv_at hl 0 rfl) ?_
   refine va_get (D := D) (ci := 5) (v := .ref (a 4)) (C := R_Highest) (T := T_Highest) (N := 2) hx hb hts in_Highest hown hK hP 10 cw_at_10 rfl 1 (by decide) (hts _ (List.mem_cons_of_mem _ kw_279)) (fun _ h9 => h9) rfl d_Highest_compare_40 ?_
   refine lv_iload_n hx hb d_Highest_compare_43 rfl (lv_at hl 2 rfl) ?_
   refine cc_i (va_runV (As := [.int x2]) (rest := []) ⟨hx, hb, hml, hown, hts⟩ (ct_Pieces_columnsOf l D a cA cZ G _ x2 u3 _ hI h) (pw_cwV 1 hts kw_587 kw_49 kw_584 kw_585 kw_586 (by decide +kernel) ⟨Nat.le_of_ble_eq_true rfl, Nat.le_of_ble_eq_true rfl⟩) ⟨pw_blind, va_recv hK hP (ci := 7) (q0 := 4) rfl cw_at_4, fun U hU hW => ⟨rfl, by rw [hU], by rw [hU]; exact hP, va_K.moved hW.alike hK⟩⟩ rfl rfl hl.1 rfl (lv_room (Nat.le_of_ble_eq_true rfl)) d_Highest_compare_44 ⟨Nat.le_of_ble_eq_true rfl, Nat.le_of_ble_eq_true rfl⟩) hS hF hA (fun r7 u6 H locs hP hS h => ?_)
   refine lv_aload_n hx hb d_Highest_compare_47 rfl (lv_at hl 0 rfl) ?_
   refine va_get (D := D) (ci := 5) (v := .ref (a 4)) (C := R_Highest) (T := T_Highest) (N := 2) hx hb hts in_Highest hown hK hP 10 cw_at_10 rfl 1 (by decide) (hts _ (List.mem_cons_of_mem _ kw_279)) (fun _ h9 => h9) rfl d_Highest_compare_48 ?_
   refine lv_iload_n hx hb d_Highest_compare_51 rfl (lv_at hl 1 rfl) ?_
   refine cc_i (va_runV (As := [.int x1]) (rest := [.int r7]) ⟨hx, hb, hml, hown, hts⟩ (ct_Pieces_columnsOf l D a cA cZ G _ x1 u6 _ hI h) (pw_cwV 1 hts kw_587 kw_49 kw_584 kw_585 kw_586 (by decide +kernel) ⟨Nat.le_of_ble_eq_true rfl, Nat.le_of_ble_eq_true rfl⟩) ⟨pw_blind, va_recv hK hP (ci := 7) (q0 := 4) rfl cw_at_4, fun U hU hW => ⟨rfl, by rw [hU], by rw [hU]; exact hP, va_K.moved hW.alike hK⟩⟩ rfl rfl hl.1 rfl (lv_room (Nat.le_of_ble_eq_true rfl)) d_Highest_compare_52 ⟨Nat.le_of_ble_eq_true rfl, Nat.le_of_ble_eq_true rfl⟩) hS hF hA (fun r9 u8 H locs hP hS h => ?_)
   refine cc_i (va_runS (As := [.int r7, .int r9]) (rest := []) ⟨hx, hb, hml, hown, hts⟩ (ct_Integer_compare l D a cA cZ G _ r7 r9 u8 _ hI h) (pw_cwS 2 hts kw_571 kw_64 kw_583 kw_570 (by decide +kernel) ⟨Nat.le_of_ble_eq_true rfl, Nat.le_of_ble_eq_true rfl⟩) ⟨pw_blind, fun U hU hW => ⟨rfl, by rw [hU], by rw [hU]; exact hP, va_K.moved hW.alike hK⟩⟩ rfl rfl hl.1 rfl (lv_room (Nat.le_of_ble_eq_true rfl)) d_Highest_compare_55 ⟨Nat.le_of_ble_eq_true rfl, Nat.le_of_ble_eq_true rfl⟩) hS hF hA (fun r11 u10 H locs hP hS h => ?_)
   exact W.iret (v := r11) hx hb hr (fun t ht hW => ⟨⟨r11, u10, rfl, h, by rw [ht]; exact hP, va_K.moved hW.alike hK⟩, hS.F ht⟩) hS.2.2 d_Highest_compare_58 hlocks
 · have h := h.2 c5
   refine lv_aload_n hx hb d_Highest_compare_19 rfl (lv_at hl 0 rfl) ?_
   refine va_get (D := D) (ci := 5) (v := .ref (a 4)) (C := R_Highest) (T := T_Highest) (N := 2) hx hb hts in_Highest hown hK hP 10 cw_at_10 rfl 1 (by decide) (hts _ (List.mem_cons_of_mem _ kw_279)) (fun _ h9 => h9) rfl d_Highest_compare_20 ?_
   refine lv_iload_n hx hb d_Highest_compare_23 rfl (lv_at hl 2 rfl) ?_
   refine cc_i (va_runV (As := [.int x2]) (rest := []) ⟨hx, hb, hml, hown, hts⟩ (ct_Pieces_rowsOf l D a cA cZ G _ x2 u3 _ hI h) (pw_cwV 1 hts kw_578 kw_49 kw_575 kw_576 kw_577 (by decide +kernel) ⟨Nat.le_of_ble_eq_true rfl, Nat.le_of_ble_eq_true rfl⟩) ⟨pw_blind, va_recv hK hP (ci := 7) (q0 := 4) rfl cw_at_4, fun U hU hW => ⟨rfl, by rw [hU], by rw [hU]; exact hP, va_K.moved hW.alike hK⟩⟩ rfl rfl hl.1 rfl (lv_room (Nat.le_of_ble_eq_true rfl)) d_Highest_compare_24 ⟨Nat.le_of_ble_eq_true rfl, Nat.le_of_ble_eq_true rfl⟩) hS hF hA (fun r13 u12 H locs hP hS h => ?_)
   refine lv_aload_n hx hb d_Highest_compare_27 rfl (lv_at hl 0 rfl) ?_
   refine va_get (D := D) (ci := 5) (v := .ref (a 4)) (C := R_Highest) (T := T_Highest) (N := 2) hx hb hts in_Highest hown hK hP 10 cw_at_10 rfl 1 (by decide) (hts _ (List.mem_cons_of_mem _ kw_279)) (fun _ h9 => h9) rfl d_Highest_compare_28 ?_
   refine lv_iload_n hx hb d_Highest_compare_31 rfl (lv_at hl 1 rfl) ?_
   refine cc_i (va_runV (As := [.int x1]) (rest := [.int r13]) ⟨hx, hb, hml, hown, hts⟩ (ct_Pieces_rowsOf l D a cA cZ G _ x1 u12 _ hI h) (pw_cwV 1 hts kw_578 kw_49 kw_575 kw_576 kw_577 (by decide +kernel) ⟨Nat.le_of_ble_eq_true rfl, Nat.le_of_ble_eq_true rfl⟩) ⟨pw_blind, va_recv hK hP (ci := 7) (q0 := 4) rfl cw_at_4, fun U hU hW => ⟨rfl, by rw [hU], by rw [hU]; exact hP, va_K.moved hW.alike hK⟩⟩ rfl rfl hl.1 rfl (lv_room (Nat.le_of_ble_eq_true rfl)) d_Highest_compare_32 ⟨Nat.le_of_ble_eq_true rfl, Nat.le_of_ble_eq_true rfl⟩) hS hF hA (fun r15 u14 H locs hP hS h => ?_)
   refine cc_i (va_runS (As := [.int r13, .int r15]) (rest := []) ⟨hx, hb, hml, hown, hts⟩ (ct_Integer_compare l D a cA cZ G _ r13 r15 u14 _ hI h) (pw_cwS 2 hts kw_571 kw_64 kw_583 kw_570 (by decide +kernel) ⟨Nat.le_of_ble_eq_true rfl, Nat.le_of_ble_eq_true rfl⟩) ⟨pw_blind, fun U hU hW => ⟨rfl, by rw [hU], by rw [hU]; exact hP, va_K.moved hW.alike hK⟩⟩ rfl rfl hl.1 rfl (lv_room (Nat.le_of_ble_eq_true rfl)) d_Highest_compare_35 ⟨Nat.le_of_ble_eq_true rfl, Nat.le_of_ble_eq_true rfl⟩) hS hF hA (fun r17 u16 H locs hP hS h => ?_)
   exact W.iret (v := r17) hx hb hr (fun t ht hW => ⟨⟨r17, u16, rfl, h, by rw [ht]; exact hP, va_K.moved hW.alike hK⟩, hS.F ht⟩) hS.2.2 d_Highest_compare_38 hlocks
set_option maxHeartbeats 4000000 in
set_option maxRecDepth 100000 in
theorem ct_Highest_compare (l : Launch) (D : va_G) (a : Nat → Nat) (cA cZ : ClassId) (G : pG) (sz : Nat) (x1 x2 : Int32) (u : pS) (Q : Int32 → pS → Prop) (hI : pw_I 40 a) (h : wp_Highest_compare G x1 x2 u Q) : Met l y_Highest_compare w_Highest_compare ({ frames := 3, cells := 0, slots := 0, locals := 63 } : Room) (va_Pc [.ref (a 10), .int x1, .int x2] (pw_pre D (cw a cA cZ G) (cT cA cZ) sz u)) (va_Qi (fun (r : Int32) (u : pS) => Q r u) (pw_B D (cw a cA cZ G) (cT cA cZ)) (pw_F 40 a sz)) 0 0 (pw_F 40 a sz) := by
 refine Met.ofW (cc := b_Highest_compare) (maxL := 3) (ret := (some .int)) (by decide) rfl ?_
 intro p e s m args below meth c s₁ B hml hv
 obtain ⟨rfl, hsz, hP, hK⟩ := hv
 subst hsz
 have hl := lv_entry ([.ref (a 10), .int x1, .int x2]) (n := 3) (Nat.le_of_ble_eq_true rfl)
 rw [lg_entry_eq]
 generalize (lg_sl ([.ref (a 10), .int x1, .int x2]) ++ List.replicate (3 - (lg_sl ([.ref (a 10), .int x1, .int x2])).length) Slot.unset).toArray = ls at hl ⊢
 exact st_Highest_compare (A := (pw_F 40 a s.heap.size)) ⟨B.exec, B.bytes, B.returns, hml, findClass_of_methodNamed B.named, atoms_spec (ws := w_Highest_compare) B.pre, B.notSynchronized, fun q hq => Or.inr hq⟩ ⟨hK, hI, fun k hk => Or.inl ⟨k, hk, rfl⟩⟩ x1 x2 u ls hP hl h
set_option maxHeartbeats 4000000 in
set_option maxRecDepth 100000 in
theorem cp_Ranking_rank_highest_18 {p : Program} {l : Launch} {e : Env} {s : State} {m : MethodId} {args : Array Value} {below : List Frame} {meth : Method} {c : Code} {D : va_G} {a : Nat → Nat} {cA cZ : ClassId} {G : pG} {A : Nat → Prop} {Q : pS → Prop} (C : pw_C p s m args meth c b_Ranking_rank 4 R_Ranking none w_Ranking_rank A) (K : pw_K s D 40 a (cT cA cZ) A) (EX : cw_Ex A s) {k2 : Int32 → Int32 → pS → Prop} (hk2 : ∀ (x1 x2 : Int32) (u : pS) (H : Heap) (locs : List Loc) (ls : Array Slot), va_P D vwCl (cw a cA cZ G u) H → va_S A s.heap H locs → lv_has ls 4 [(0, .ref (a 10)), (1, .int x1), (2, .int x2)] → k2 x1 x2 u → W p l e ({ frames := 4, cells := 0, slots := 0, locals := 85 } : Room) s m args below meth c H locs 0 0 (pw_Ev below args s D (cw a cA cZ G) (cT cA cZ) A Q) (F0 m 2 ls [])) : ∀ (n : Nat), ∀ (x1 x2 x3 : Int32) (u : pS) (H : Heap) (locs : List Loc) (ls : Array Slot), va_P D vwCl (cw a cA cZ G u) H → va_S A s.heap H locs → lv_has ls 4 [(0, .ref (a 10)), (1, .int x1), (2, .int x2), (3, .int x3)] → lp_Ranking_rank_highest_18 G Q k2 n x1 x2 x3 u → W p l e ({ frames := 4, cells := 0, slots := 0, locals := 85 } : Room) s m args below meth c H locs 0 0 (pw_Ev below args s D (cw a cA cZ G) (cT cA cZ) A Q) (F0 m 18 ls []) := by
 obtain ⟨hx, hb, hr, hml, hown, hts, hlocks, hA⟩ := id C
 obtain ⟨hK, hI, hF⟩ := id K
 have hD : ∀ u, va_D A (cw a cA cZ G u) := fun u => cw_D hI hF
 intro n
 induction n with
 | zero => intro x1 x2 x3 u H locs ls hP hS hl h; exact h.elim
 | succ n ih =>
   intro x1 x2 x3 u H locs ls hP hS hl h
   refine lv_iload_n hx hb d_Ranking_rank_18 rfl (lv_at hl 3 rfl) ?_
   refine lv_if_le (tgt := 58) hx hb d_Ranking_rank_19 (by decide) (fun c3 => ?_) (fun c3 => ?_)
   · have h := h.1 c3
     refine lv_aload_n hx hb d_Ranking_rank_58 rfl (lv_at hl 0 rfl) ?_
     refine va_get (D := D) (ci := 5) (v := .ref (a 31)) (C := R_Highest) (T := T_Highest) (N := 2) hx hb hts in_Highest hown hK hP 10 cw_at_10 rfl 0 (by decide) (hts _ (List.mem_cons_of_mem _ kw_197)) (fun _ h9 => h9) rfl d_Ranking_rank_59 ?_
     refine lv_iload_n hx hb d_Ranking_rank_62 rfl (lv_at hl 3 rfl) ?_
     refine lv_iload_n hx hb d_Ranking_rank_63 rfl (lv_at hl 2 rfl) ?_
     refine va_iast hx hb hK hP (hD _) hS 31 0 cw_at_31 rfl h.1 d_Ranking_rank_64 (fun H locs hP _ hS => ?_)
     obtain ⟨u4, eu4⟩ : ∃ z, z = pw_sa u 17 (upd (u.2 17) x3.toNatClampNeg x2) := ⟨_, rfl⟩
     rw [cw_sa_31, ← eu4] at hP
     have h := h.2 u4 eu4
     obtain ⟨t5, et5⟩ : ∃ y : Int32, y = x2 + 1 := ⟨_, rfl⟩
     have h := h t5 et5
     refine lv_iinc (v := t5) (lv' := [(2, .int t5), (0, .ref (a 10)), (1, .int x1), (3, .int x3)]) hx hb d_Ranking_rank_65 hl (k := 2) rfl (by rw [et5]; rfl) (by decide) rfl (fun ls hl => ?_)
     refine lv_goto (tgt := 2) hx hb d_Ranking_rank_68 (by decide) ?_
     exact hk2 x1 t5 u4 _ _ _ hP hS (lv_sub hl [1, 2, 0] rfl) h
   · have h := h.2 c3
     refine lv_aload_n hx hb d_Ranking_rank_22 rfl (lv_at hl 0 rfl) ?_
     refine lv_iload_n hx hb d_Ranking_rank_23 rfl (lv_at hl 2 rfl) ?_
     refine lv_aload_n hx hb d_Ranking_rank_24 rfl (lv_at hl 0 rfl) ?_
     refine va_get (D := D) (ci := 5) (v := .ref (a 31)) (C := R_Highest) (T := T_Highest) (N := 2) hx hb hts in_Highest hown hK hP 10 cw_at_10 rfl 0 (by decide) (hts _ (List.mem_cons_of_mem _ kw_197)) (fun _ h9 => h9) rfl d_Ranking_rank_25 ?_
     refine lv_iload_n hx hb d_Ranking_rank_28 rfl (lv_at hl 3 rfl) ?_
     refine lv_iconst (v := 1) hx hb d_Ranking_rank_29 (by decide) ?_
     refine lv_isub hx hb d_Ranking_rank_30 ?_
     refine va_iald hx hb hK hP 31 0 cw_at_31 rfl h.1 d_Ranking_rank_31 ?_
     have h := h.2
     refine cc_i (va_runU (As := [.int x2, .int (u.2 17 (x3 - 1).toNatClampNeg)]) (rest := []) ⟨hx, hb, hml, hown, hts⟩ (ct_Highest_compare l D a cA cZ G _ x2 (u.2 17 (x3 - 1).toNatClampNeg) u _ hI h) (pw_cwO (owner := "PictureInlays$Ranking") 2 hts kw_574 kw_56 kw_559 kw_561 kw_572 kw_573 (EX.1.1.2 _ (by decide)) (by decide +kernel) ⟨Nat.le_of_ble_eq_true rfl, Nat.le_of_ble_eq_true rfl⟩) ⟨pw_blind, va_recv hK hP (ci := 5) (q0 := 10) rfl cw_at_10, fun U hU hW => ⟨rfl, by rw [hU], by rw [hU]; exact hP, va_K.moved hW.alike hK⟩⟩ rfl rfl hl.1 rfl (lv_room (Nat.le_of_ble_eq_true rfl)) d_Ranking_rank_32 ⟨Nat.le_of_ble_eq_true rfl, Nat.le_of_ble_eq_true rfl⟩) hS hF hA (fun r7 u6 H locs hP hS h => ?_)
     refine lv_if_ge (tgt := 58) hx hb d_Ranking_rank_35 (by decide) (fun c8 => ?_) (fun c8 => ?_)
     · have h := h.1 c8
       refine lv_aload_n hx hb d_Ranking_rank_58 rfl (lv_at hl 0 rfl) ?_
       refine va_get (D := D) (ci := 5) (v := .ref (a 31)) (C := R_Highest) (T := T_Highest) (N := 2) hx hb hts in_Highest hown hK hP 10 cw_at_10 rfl 0 (by decide) (hts _ (List.mem_cons_of_mem _ kw_197)) (fun _ h9 => h9) rfl d_Ranking_rank_59 ?_
       refine lv_iload_n hx hb d_Ranking_rank_62 rfl (lv_at hl 3 rfl) ?_
       refine lv_iload_n hx hb d_Ranking_rank_63 rfl (lv_at hl 2 rfl) ?_
       refine va_iast hx hb hK hP (hD _) hS 31 0 cw_at_31 rfl h.1 d_Ranking_rank_64 (fun H locs hP _ hS => ?_)
       obtain ⟨u9, eu9⟩ : ∃ z, z = pw_sa u6 17 (upd (u6.2 17) x3.toNatClampNeg x2) := ⟨_, rfl⟩
       rw [cw_sa_31, ← eu9] at hP
       have h := h.2 u9 eu9
       obtain ⟨t10, et10⟩ : ∃ y : Int32, y = x2 + 1 := ⟨_, rfl⟩
       have h := h t10 et10
       refine lv_iinc (v := t10) (lv' := [(2, .int t10), (0, .ref (a 10)), (1, .int x1), (3, .int x3)]) hx hb d_Ranking_rank_65 hl (k := 2) rfl (by rw [et10]; rfl) (by decide) rfl (fun ls hl => ?_)
       refine lv_goto (tgt := 2) hx hb d_Ranking_rank_68 (by decide) ?_
       exact hk2 x1 t10 u9 _ _ _ hP hS (lv_sub hl [1, 2, 0] rfl) h
     · have h := h.2 c8
       refine lv_aload_n hx hb d_Ranking_rank_38 rfl (lv_at hl 0 rfl) ?_
       refine va_get (D := D) (ci := 5) (v := .ref (a 31)) (C := R_Highest) (T := T_Highest) (N := 2) hx hb hts in_Highest hown hK hP 10 cw_at_10 rfl 0 (by decide) (hts _ (List.mem_cons_of_mem _ kw_197)) (fun _ h9 => h9) rfl d_Ranking_rank_39 ?_
       refine lv_iload_n hx hb d_Ranking_rank_42 rfl (lv_at hl 3 rfl) ?_
       refine lv_aload_n hx hb d_Ranking_rank_43 rfl (lv_at hl 0 rfl) ?_
       refine va_get (D := D) (ci := 5) (v := .ref (a 31)) (C := R_Highest) (T := T_Highest) (N := 2) hx hb hts in_Highest hown hK hP 10 cw_at_10 rfl 0 (by decide) (hts _ (List.mem_cons_of_mem _ kw_197)) (fun _ h9 => h9) rfl d_Ranking_rank_44 ?_
       refine lv_iload_n hx hb d_Ranking_rank_47 rfl (lv_at hl 3 rfl) ?_
       refine lv_iconst (v := 1) hx hb d_Ranking_rank_48 (by decide) ?_
       refine lv_isub hx hb d_Ranking_rank_49 ?_
       refine va_iald hx hb hK hP 31 0 cw_at_31 rfl h.1 d_Ranking_rank_50 ?_
       have h := h.2
       refine va_iast hx hb hK hP (hD _) hS 31 0 cw_at_31 rfl h.1 d_Ranking_rank_51 (fun H locs hP _ hS => ?_)
       obtain ⟨u11, eu11⟩ : ∃ z, z = pw_sa u6 17 (upd (u6.2 17) x3.toNatClampNeg (u6.2 17 (x3 - 1).toNatClampNeg)) := ⟨_, rfl⟩
       rw [cw_sa_31, ← eu11] at hP
       have h := h.2 u11 eu11
       obtain ⟨t12, et12⟩ : ∃ y : Int32, y = x3 + (-1) := ⟨_, rfl⟩
       have h := h t12 et12
       refine lv_iinc (v := t12) (lv' := [(3, .int t12), (0, .ref (a 10)), (1, .int x1), (2, .int x2)]) hx hb d_Ranking_rank_52 hl (k := 3) rfl (by rw [et12]; rfl) (by decide) rfl (fun ls hl => ?_)
       refine lv_goto (tgt := 18) hx hb d_Ranking_rank_55 (by decide) ?_
       exact ih x1 x2 t12 u11 _ _ _ hP hS (lv_sub hl [1, 2, 3, 0] rfl) h
set_option maxHeartbeats 4000000 in
set_option maxRecDepth 100000 in
theorem cp_Ranking_rank_highest_2 {p : Program} {l : Launch} {e : Env} {s : State} {m : MethodId} {args : Array Value} {below : List Frame} {meth : Method} {c : Code} {D : va_G} {a : Nat → Nat} {cA cZ : ClassId} {G : pG} {A : Nat → Prop} {Q : pS → Prop} (C : pw_C p s m args meth c b_Ranking_rank 4 R_Ranking none w_Ranking_rank A) (K : pw_K s D 40 a (cT cA cZ) A) (EX : cw_Ex A s) : ∀ (n : Nat), ∀ (x1 x2 : Int32) (u : pS) (H : Heap) (locs : List Loc) (ls : Array Slot), va_P D vwCl (cw a cA cZ G u) H → va_S A s.heap H locs → lv_has ls 4 [(0, .ref (a 10)), (1, .int x1), (2, .int x2)] → lp_Ranking_rank_highest_2 G Q n x1 x2 u → W p l e ({ frames := 4, cells := 0, slots := 0, locals := 85 } : Room) s m args below meth c H locs 0 0 (pw_Ev below args s D (cw a cA cZ G) (cT cA cZ) A Q) (F0 m 2 ls []) := by
 obtain ⟨hx, hb, hr, hml, hown, hts, hlocks, hA⟩ := id C
 obtain ⟨hK, hI, hF⟩ := id K
 have hD : ∀ u, va_D A (cw a cA cZ G u) := fun u => cw_D hI hF
 intro n
 induction n with
 | zero => intro x1 x2 u H locs ls hP hS hl h; exact h.elim
 | succ n ih =>
   intro x1 x2 u H locs ls hP hS hl h
   refine lv_iload_n hx hb d_Ranking_rank_2 rfl (lv_at hl 2 rfl) ?_
   refine lv_iload_n hx hb d_Ranking_rank_3 rfl (lv_at hl 1 rfl) ?_
   refine lv_icmp_ge (tgt := 71) hx hb d_Ranking_rank_4 (by decide) (fun c1 => ?_) (fun c1 => ?_)
   · have h := h.1 c1
     exact W.vret hx hb hr (fun t ht hW => ⟨⟨u, rfl, h, by rw [ht]; exact hP, va_K.moved hW.alike hK⟩, hS.F ht⟩) hS.2.2 d_Ranking_rank_71 hlocks
   · have h := h.2 c1
     refine lv_iload_n hx hb d_Ranking_rank_7 rfl (lv_at hl 2 rfl) ?_
     refine lv_aload_n hx hb d_Ranking_rank_8 rfl (lv_at hl 0 rfl) ?_
     refine va_get (D := D) (ci := 5) (v := .ref (a 31)) (C := R_Highest) (T := T_Highest) (N := 2) hx hb hts in_Highest hown hK hP 10 cw_at_10 rfl 0 (by decide) (hts _ (List.mem_cons_of_mem _ kw_197)) (fun _ h9 => h9) rfl d_Ranking_rank_9 ?_
     refine va_alen (v := nI (G.1 31)) hx hb hK hP 31 0 cw_at_31 rfl rfl d_Ranking_rank_12 ?_
     refine lv_icmp_ge (tgt := 71) hx hb d_Ranking_rank_13 (by decide) (fun c2 => ?_) (fun c2 => ?_)
     · have h := h.1 c2
       exact W.vret hx hb hr (fun t ht hW => ⟨⟨u, rfl, h, by rw [ht]; exact hP, va_K.moved hW.alike hK⟩, hS.F ht⟩) hS.2.2 d_Ranking_rank_71 hlocks
     · have h := h.2 c2
       refine lv_iload_n hx hb d_Ranking_rank_16 rfl (lv_at hl 2 rfl) ?_
       refine lv_istore_n (lv' := [(3, .int x2), (0, .ref (a 10)), (1, .int x1), (2, .int x2)]) hx hb d_Ranking_rank_17 rfl hl (by decide) rfl (fun ls hl => ?_)
       obtain ⟨n1, h⟩ := h
       exact cp_Ranking_rank_highest_18 C K EX ih n1 x1 x2 x2 u _ _ _ hP hS (lv_sub hl [1, 2, 3, 0] rfl) h
set_option maxHeartbeats 4000000 in
set_option maxRecDepth 100000 in
theorem st_Ranking_rank_highest {p : Program} {l : Launch} {e : Env} {s : State} {m : MethodId} {args : Array Value} {below : List Frame} {meth : Method} {c : Code} {D : va_G} {a : Nat → Nat} {cA cZ : ClassId} {G : pG} {A : Nat → Prop} {Q : pS → Prop} (C : pw_C p s m args meth c b_Ranking_rank 4 R_Ranking none w_Ranking_rank A) (K : pw_K s D 40 a (cT cA cZ) A) (EX : cw_Ex A s) (x1 : Int32) (u : pS) (ls : Array Slot) (hP : va_P D vwCl (cw a cA cZ G u) s.heap) (hl : lv_has ls 4 [(0, .ref (a 10)), (1, .int x1)]) (h : wp_Ranking_rank_highest G x1 u Q) : W p l e ({ frames := 4, cells := 0, slots := 0, locals := 85 } : Room) s m args below meth c s.heap [] 0 0 (pw_Ev below args s D (cw a cA cZ G) (cT cA cZ) A Q) (F0 m 0 ls []) := by
 obtain ⟨hx, hb, hr, hml, hown, hts, hlocks, hA⟩ := id C
 obtain ⟨hK, hI, hF⟩ := id K
 have hD : ∀ u, va_D A (cw a cA cZ G u) := fun u => cw_D hI hF
 have hS : va_S A s.heap s.heap [] := va_S.rf
 have h : wp_Ranking_rank_highest G x1 u Q := h
 refine lv_iconst (v := 0) hx hb d_Ranking_rank_0 (by decide) ?_
 refine lv_istore_n (lv' := [(2, .int 0), (0, .ref (a 10)), (1, .int x1)]) hx hb d_Ranking_rank_1 rfl hl (by decide) rfl (fun ls hl => ?_)
 obtain ⟨n1, h⟩ := h
 exact cp_Ranking_rank_highest_2 C K EX n1 x1 0 u _ _ _ hP hS (lv_sub hl [1, 2, 0] rfl) h
set_option maxHeartbeats 4000000 in
set_option maxRecDepth 100000 in
theorem ct_Ranking_rank_highest (l : Launch) (D : va_G) (a : Nat → Nat) (cA cZ : ClassId) (G : pG) (sz : Nat) (x1 : Int32) (u : pS) (Q : pS → Prop) (hI : pw_I 40 a) (h : wp_Ranking_rank_highest G x1 u Q) : Met l y_Ranking_rank w_Ranking_rank ({ frames := 4, cells := 0, slots := 0, locals := 85 } : Room) (va_Pc [.ref (a 10), .int x1] (fun U => pw_pre D (cw a cA cZ G) (cT cA cZ) sz u U ∧ cw_Ex (pw_F 40 a sz) U)) (va_Qv (fun (u : pS) => Q u) (pw_B D (cw a cA cZ G) (cT cA cZ)) (pw_F 40 a sz)) 0 0 (pw_F 40 a sz) := by
 refine Met.ofW (cc := b_Ranking_rank) (maxL := 4) (ret := none) (by decide) rfl ?_
 intro p e s m args below meth c s₁ B hml hv
 obtain ⟨rfl, ⟨hsz, hP, hK⟩, EX⟩ := hv
 subst hsz
 have hl := lv_entry ([.ref (a 10), .int x1]) (n := 4) (Nat.le_of_ble_eq_true rfl)
 rw [lg_entry_eq]
 generalize (lg_sl ([.ref (a 10), .int x1]) ++ List.replicate (4 - (lg_sl ([.ref (a 10), .int x1])).length) Slot.unset).toArray = ls at hl ⊢
 exact st_Ranking_rank_highest (A := (pw_F 40 a s.heap.size)) ⟨B.exec, B.bytes, B.returns, hml, findClass_of_methodNamed B.named, atoms_spec (ws := w_Ranking_rank) B.pre, B.notSynchronized, fun q hq => Or.inr hq⟩ ⟨hK, hI, fun k hk => Or.inl ⟨k, hk, rfl⟩⟩ EX x1 u ls hP hl h
set_option maxHeartbeats 4000000 in
set_option maxRecDepth 100000 in
theorem st_Ranking_ranked_highest {p : Program} {l : Launch} {e : Env} {s : State} {m : MethodId} {args : Array Value} {below : List Frame} {meth : Method} {c : Code} {D : va_G} {a : Nat → Nat} {cA cZ : ClassId} {G : pG} {A : Nat → Prop} {Q : Int32 → pS → Prop} (C : pw_C p s m args meth c b_Ranking_ranked 2 R_Ranking (some .int) w_Ranking_ranked A) (K : pw_K s D 40 a (cT cA cZ) A) (x1 : Int32) (u : pS) (ls : Array Slot) (hP : va_P D vwCl (cw a cA cZ G u) s.heap) (hl : lv_has ls 2 [(0, .ref (a 10)), (1, .int x1)]) (h : wp_Ranking_ranked_highest G x1 u Q) : W p l e ({ frames := 0, cells := 0, slots := 0, locals := 0 } : Room) s m args below meth c s.heap [] 0 0 (pw_Ei below args s D (cw a cA cZ G) (cT cA cZ) A Q) (F0 m 0 ls []) := by
 obtain ⟨hx, hb, hr, hml, hown, hts, hlocks, hA⟩ := id C
 obtain ⟨hK, hI, hF⟩ := id K
 have hD : ∀ u, va_D A (cw a cA cZ G u) := fun u => cw_D hI hF
 have hS : va_S A s.heap s.heap [] := va_S.rf
 have h : wp_Ranking_ranked_highest G x1 u Q := h
 refine lv_aload_n hx hb d_Ranking_ranked_0 rfl (lv_at hl 0 rfl) ?_
 refine va_get (D := D) (ci := 5) (v := .ref (a 31)) (C := R_Highest) (T := T_Highest) (N := 2) hx hb hts in_Highest hown hK hP 10 cw_at_10 rfl 0 (by decide) (hts _ (List.mem_cons_of_mem _ kw_197)) (fun _ h9 => h9) rfl d_Ranking_ranked_1 ?_
 refine lv_iload_n hx hb d_Ranking_ranked_4 rfl (lv_at hl 1 rfl) ?_
 refine va_iald hx hb hK hP 31 0 cw_at_31 rfl h.1 d_Ranking_ranked_5 ?_
 have h := h.2
 exact W.iret (v := (u.2 17 x1.toNatClampNeg)) hx hb hr (fun t ht hW => ⟨⟨(u.2 17 x1.toNatClampNeg), u, rfl, h, by rw [ht]; exact hP, va_K.moved hW.alike hK⟩, hS.F ht⟩) hS.2.2 d_Ranking_ranked_6 hlocks
set_option maxHeartbeats 4000000 in
set_option maxRecDepth 100000 in
theorem ct_Ranking_ranked_highest (l : Launch) (D : va_G) (a : Nat → Nat) (cA cZ : ClassId) (G : pG) (sz : Nat) (x1 : Int32) (u : pS) (Q : Int32 → pS → Prop) (hI : pw_I 40 a) (h : wp_Ranking_ranked_highest G x1 u Q) : Met l y_Ranking_ranked w_Ranking_ranked ({ frames := 0, cells := 0, slots := 0, locals := 0 } : Room) (va_Pc [.ref (a 10), .int x1] (pw_pre D (cw a cA cZ G) (cT cA cZ) sz u)) (va_Qi (fun (r : Int32) (u : pS) => Q r u) (pw_B D (cw a cA cZ G) (cT cA cZ)) (pw_F 40 a sz)) 0 0 (pw_F 40 a sz) := by
 refine Met.ofW (cc := b_Ranking_ranked) (maxL := 2) (ret := (some .int)) (by decide) rfl ?_
 intro p e s m args below meth c s₁ B hml hv
 obtain ⟨rfl, hsz, hP, hK⟩ := hv
 subst hsz
 have hl := lv_entry ([.ref (a 10), .int x1]) (n := 2) (Nat.le_of_ble_eq_true rfl)
 rw [lg_entry_eq]
 generalize (lg_sl ([.ref (a 10), .int x1]) ++ List.replicate (2 - (lg_sl ([.ref (a 10), .int x1])).length) Slot.unset).toArray = ls at hl ⊢
 exact st_Ranking_ranked_highest (A := (pw_F 40 a s.heap.size)) ⟨B.exec, B.bytes, B.returns, hml, findClass_of_methodNamed B.named, atoms_spec (ws := w_Ranking_ranked) B.pre, B.notSynchronized, fun q hq => Or.inr hq⟩ ⟨hK, hI, fun k hk => Or.inl ⟨k, hk, rfl⟩⟩ x1 u ls hP hl h
set_option maxHeartbeats 4000000 in
set_option maxRecDepth 100000 in
theorem st_Sheet_newRow {p : Program} {l : Launch} {e : Env} {s : State} {m : MethodId} {args : Array Value} {below : List Frame} {meth : Method} {c : Code} {D : va_G} {a : Nat → Nat} {cA cZ : ClassId} {G : pG} {A : Nat → Prop} {Q : Int32 → pS → Prop} (C : pw_C p s m args meth c b_Sheet_newRow 2 R_Sheet (some .int) w_Sheet_newRow A) (K : pw_K s D 40 a (cT cA cZ) A) (x1 : Int32) (u : pS) (ls : Array Slot) (hP : va_P D vwCl (cw a cA cZ G u) s.heap) (hl : lv_has ls 2 [(0, .ref (a 9)), (1, .int x1)]) (h : wp_Sheet_newRow G x1 u Q) : W p l e ({ frames := 0, cells := 0, slots := 0, locals := 0 } : Room) s m args below meth c s.heap [] 0 0 (pw_Ei below args s D (cw a cA cZ G) (cT cA cZ) A Q) (F0 m 0 ls []) := by
 obtain ⟨hx, hb, hr, hml, hown, hts, hlocks, hA⟩ := id C
 obtain ⟨hK, hI, hF⟩ := id K
 have hD : ∀ u, va_D A (cw a cA cZ G u) := fun u => cw_D hI hF
 have hS : va_S A s.heap s.heap [] := va_S.rf
 have h : wp_Sheet_newRow G x1 u Q := h
 refine lv_aload_n hx hb d_Sheet_newRow_0 rfl (lv_at hl 0 rfl) ?_
 refine va_get (D := D) (ci := 8) (v := .int (u.1 8)) (C := R_Sheet) (T := T_Sheet) (N := 9) hx hb hts in_Sheet hown hK hP 9 cw_at_9 rfl 7 (by decide) (hts _ (List.mem_cons_of_mem _ kw_291)) (fun _ h9 => h9) rfl d_Sheet_newRow_1 ?_
 refine lv_aload_n hx hb d_Sheet_newRow_4 rfl (lv_at hl 0 rfl) ?_
 refine va_get (D := D) (ci := 8) (v := .ref (a 37)) (C := R_Sheet) (T := T_Sheet) (N := 9) hx hb hts in_Sheet hown hK hP 9 cw_at_9 rfl 4 (by decide) (hts _ (List.mem_cons_of_mem _ kw_288)) (fun _ h9 => h9) rfl d_Sheet_newRow_5 ?_
 refine va_alen (v := nI (G.1 37)) hx hb hK hP 37 0 cw_at_37 rfl rfl d_Sheet_newRow_8 ?_
 refine lv_icmp_lt (tgt := 14) hx hb d_Sheet_newRow_9 (by decide) (fun c1 => ?_) (fun c1 => ?_)
 · have h := h.1 c1
   refine lv_aload_n hx hb d_Sheet_newRow_14 rfl (lv_at hl 0 rfl) ?_
   refine va_get (D := D) (ci := 8) (v := .ref (a 37)) (C := R_Sheet) (T := T_Sheet) (N := 9) hx hb hts in_Sheet hown hK hP 9 cw_at_9 rfl 4 (by decide) (hts _ (List.mem_cons_of_mem _ kw_288)) (fun _ h9 => h9) rfl d_Sheet_newRow_15 ?_
   refine lv_aload_n hx hb d_Sheet_newRow_18 rfl (lv_at hl 0 rfl) ?_
   refine va_get (D := D) (ci := 8) (v := .int (u.1 8)) (C := R_Sheet) (T := T_Sheet) (N := 9) hx hb hts in_Sheet hown hK hP 9 cw_at_9 rfl 7 (by decide) (hts _ (List.mem_cons_of_mem _ kw_291)) (fun _ h9 => h9) rfl d_Sheet_newRow_19 ?_
   refine lv_aload_n hx hb d_Sheet_newRow_22 rfl (lv_at hl 0 rfl) ?_
   refine va_get (D := D) (ci := 8) (v := .int (u.1 9)) (C := R_Sheet) (T := T_Sheet) (N := 9) hx hb hts in_Sheet hown hK hP 9 cw_at_9 rfl 8 (by decide) (hts _ (List.mem_cons_of_mem _ kw_292)) (fun _ h9 => h9) rfl d_Sheet_newRow_23 ?_
   refine va_iast hx hb hK hP (hD _) hS 37 0 cw_at_37 rfl h.1 d_Sheet_newRow_26 (fun H locs hP _ hS => ?_)
   obtain ⟨u2, eu2⟩ : ∃ z, z = pw_sa u 23 (upd (u.2 23) (u.1 8).toNatClampNeg (u.1 9)) := ⟨_, rfl⟩
   rw [cw_sa_37, ← eu2] at hP
   have h := h.2 u2 eu2
   refine lv_aload_n hx hb d_Sheet_newRow_27 rfl (lv_at hl 0 rfl) ?_
   refine va_get (D := D) (ci := 8) (v := .ref (a 38)) (C := R_Sheet) (T := T_Sheet) (N := 9) hx hb hts in_Sheet hown hK hP 9 cw_at_9 rfl 5 (by decide) (hts _ (List.mem_cons_of_mem _ kw_289)) (fun _ h9 => h9) rfl d_Sheet_newRow_28 ?_
   refine lv_aload_n hx hb d_Sheet_newRow_31 rfl (lv_at hl 0 rfl) ?_
   refine va_get (D := D) (ci := 8) (v := .int (u2.1 8)) (C := R_Sheet) (T := T_Sheet) (N := 9) hx hb hts in_Sheet hown hK hP 9 cw_at_9 rfl 7 (by decide) (hts _ (List.mem_cons_of_mem _ kw_291)) (fun _ h9 => h9) rfl d_Sheet_newRow_32 ?_
   refine lv_iload_n hx hb d_Sheet_newRow_35 rfl (lv_at hl 1 rfl) ?_
   refine va_iast hx hb hK hP (hD _) hS 38 0 cw_at_38 rfl h.1 d_Sheet_newRow_36 (fun H locs hP _ hS => ?_)
   obtain ⟨u3, eu3⟩ : ∃ z, z = pw_sa u2 24 (upd (u2.2 24) (u2.1 8).toNatClampNeg x1) := ⟨_, rfl⟩
   rw [cw_sa_38, ← eu3] at hP
   have h := h.2 u3 eu3
   refine lv_aload_n hx hb d_Sheet_newRow_37 rfl (lv_at hl 0 rfl) ?_
   refine va_get (D := D) (ci := 8) (v := .ref (a 39)) (C := R_Sheet) (T := T_Sheet) (N := 9) hx hb hts in_Sheet hown hK hP 9 cw_at_9 rfl 6 (by decide) (hts _ (List.mem_cons_of_mem _ kw_290)) (fun _ h9 => h9) rfl d_Sheet_newRow_38 ?_
   refine lv_aload_n hx hb d_Sheet_newRow_41 rfl (lv_at hl 0 rfl) ?_
   refine va_get (D := D) (ci := 8) (v := .int (u3.1 8)) (C := R_Sheet) (T := T_Sheet) (N := 9) hx hb hts in_Sheet hown hK hP 9 cw_at_9 rfl 7 (by decide) (hts _ (List.mem_cons_of_mem _ kw_291)) (fun _ h9 => h9) rfl d_Sheet_newRow_42 ?_
   refine lv_iconst (v := 0) hx hb d_Sheet_newRow_45 (by decide) ?_
   refine va_iast hx hb hK hP (hD _) hS 39 0 cw_at_39 rfl h.1 d_Sheet_newRow_46 (fun H locs hP _ hS => ?_)
   obtain ⟨u4, eu4⟩ : ∃ z, z = pw_sa u3 25 (upd (u3.2 25) (u3.1 8).toNatClampNeg 0) := ⟨_, rfl⟩
   rw [cw_sa_39, ← eu4] at hP
   have h := h.2 u4 eu4
   refine lv_aload_n hx hb d_Sheet_newRow_47 rfl (lv_at hl 0 rfl) ?_
   refine lv_dup hx hb d_Sheet_newRow_48 rfl ?_
   refine va_get (D := D) (ci := 8) (v := .int (u4.1 9)) (C := R_Sheet) (T := T_Sheet) (N := 9) hx hb hts in_Sheet hown hK hP 9 cw_at_9 rfl 8 (by decide) (hts _ (List.mem_cons_of_mem _ kw_292)) (fun _ h9 => h9) rfl d_Sheet_newRow_49 ?_
   refine lv_iload_n hx hb d_Sheet_newRow_52 rfl (lv_at hl 1 rfl) ?_
   refine lv_iadd hx hb d_Sheet_newRow_53 ?_
   refine va_put (D := D) (ci := 8) (v := .int ((u4.1 9) + x1)) (ty := .int) (C := R_Sheet) (T := T_Sheet) (N := 9) hx hb hts in_Sheet ty_Sheet tyok_Sheet nm_Sheet hown hK hP (hD _) hS 9 cw_at_9 rfl 8 (by decide) (hts _ (List.mem_cons_of_mem _ kw_292)) (fun _ h9 => h9) rfl (by decide +kernel) rfl rfl (Nat.le_of_ble_eq_true rfl) d_Sheet_newRow_54 (fun H locs hP _ hS => ?_)
   obtain ⟨u5, eu5⟩ : ∃ z, z = pw_si u4 9 ((u4.1 9) + x1) := ⟨_, rfl⟩
   rw [cw_si_9_8, ← eu5] at hP
   have h := h u5 eu5
   refine lv_aload_n hx hb d_Sheet_newRow_57 rfl (lv_at hl 0 rfl) ?_
   refine lv_dup hx hb d_Sheet_newRow_58 rfl ?_
   refine va_get (D := D) (ci := 8) (v := .int (u5.1 8)) (C := R_Sheet) (T := T_Sheet) (N := 9) hx hb hts in_Sheet hown hK hP 9 cw_at_9 rfl 7 (by decide) (hts _ (List.mem_cons_of_mem _ kw_291)) (fun _ h9 => h9) rfl d_Sheet_newRow_59 ?_
   refine lv_iconst (v := 1) hx hb d_Sheet_newRow_62 (by decide) ?_
   refine lv_iadd hx hb d_Sheet_newRow_63 ?_
   refine va_put (D := D) (ci := 8) (v := .int ((u5.1 8) + 1)) (ty := .int) (C := R_Sheet) (T := T_Sheet) (N := 9) hx hb hts in_Sheet ty_Sheet tyok_Sheet nm_Sheet hown hK hP (hD _) hS 9 cw_at_9 rfl 7 (by decide) (hts _ (List.mem_cons_of_mem _ kw_291)) (fun _ h9 => h9) rfl (by decide +kernel) rfl rfl (Nat.le_of_ble_eq_true rfl) d_Sheet_newRow_64 (fun H locs hP _ hS => ?_)
   obtain ⟨u6, eu6⟩ : ∃ z, z = pw_si u5 8 ((u5.1 8) + 1) := ⟨_, rfl⟩
   rw [cw_si_9_7, ← eu6] at hP
   have h := h u6 eu6
   refine lv_aload_n hx hb d_Sheet_newRow_67 rfl (lv_at hl 0 rfl) ?_
   refine va_get (D := D) (ci := 8) (v := .int (u6.1 8)) (C := R_Sheet) (T := T_Sheet) (N := 9) hx hb hts in_Sheet hown hK hP 9 cw_at_9 rfl 7 (by decide) (hts _ (List.mem_cons_of_mem _ kw_291)) (fun _ h9 => h9) rfl d_Sheet_newRow_68 ?_
   refine lv_iconst (v := 1) hx hb d_Sheet_newRow_71 (by decide) ?_
   refine lv_isub hx hb d_Sheet_newRow_72 ?_
   exact W.iret (v := ((u6.1 8) - 1)) hx hb hr (fun t ht hW => ⟨⟨((u6.1 8) - 1), u6, rfl, h, by rw [ht]; exact hP, va_K.moved hW.alike hK⟩, hS.F ht⟩) hS.2.2 d_Sheet_newRow_73 hlocks
 · have h := h.2 c1
   refine lv_iconst (v := -1) hx hb d_Sheet_newRow_12 (by decide) ?_
   exact W.iret (v := (-1)) hx hb hr (fun t ht hW => ⟨⟨(-1), u, rfl, h, by rw [ht]; exact hP, va_K.moved hW.alike hK⟩, hS.F ht⟩) hS.2.2 d_Sheet_newRow_13 hlocks
set_option maxHeartbeats 4000000 in
set_option maxRecDepth 100000 in
theorem ct_Sheet_newRow (l : Launch) (D : va_G) (a : Nat → Nat) (cA cZ : ClassId) (G : pG) (sz : Nat) (x1 : Int32) (u : pS) (Q : Int32 → pS → Prop) (hI : pw_I 40 a) (h : wp_Sheet_newRow G x1 u Q) : Met l y_Sheet_newRow w_Sheet_newRow ({ frames := 0, cells := 0, slots := 0, locals := 0 } : Room) (va_Pc [.ref (a 9), .int x1] (pw_pre D (cw a cA cZ G) (cT cA cZ) sz u)) (va_Qi (fun (r : Int32) (u : pS) => Q r u) (pw_B D (cw a cA cZ G) (cT cA cZ)) (pw_F 40 a sz)) 0 0 (pw_F 40 a sz) := by
 refine Met.ofW (cc := b_Sheet_newRow) (maxL := 2) (ret := (some .int)) (by decide) rfl ?_
 intro p e s m args below meth c s₁ B hml hv
 obtain ⟨rfl, hsz, hP, hK⟩ := hv
 subst hsz
 have hl := lv_entry ([.ref (a 9), .int x1]) (n := 2) (Nat.le_of_ble_eq_true rfl)
 rw [lg_entry_eq]
 generalize (lg_sl ([.ref (a 9), .int x1]) ++ List.replicate (2 - (lg_sl ([.ref (a 9), .int x1])).length) Slot.unset).toArray = ls at hl ⊢
 exact st_Sheet_newRow (A := (pw_F 40 a s.heap.size)) ⟨B.exec, B.bytes, B.returns, hml, findClass_of_methodNamed B.named, atoms_spec (ws := w_Sheet_newRow) B.pre, B.notSynchronized, fun q hq => Or.inr hq⟩ ⟨hK, hI, fun k hk => Or.inl ⟨k, hk, rfl⟩⟩ x1 u ls hP hl h
set_option maxHeartbeats 4000000 in
set_option maxRecDepth 100000 in
theorem cp_Sheet_rowFor_23 {p : Program} {l : Launch} {e : Env} {s : State} {m : MethodId} {args : Array Value} {below : List Frame} {meth : Method} {c : Code} {D : va_G} {a : Nat → Nat} {cA cZ : ClassId} {G : pG} {A : Nat → Prop} {Q : Int32 → pS → Prop} (C : pw_C p s m args meth c b_Sheet_rowFor 7 R_Sheet (some .int) w_Sheet_rowFor A) (K : pw_K s D 40 a (cT cA cZ) A) : ∀ (n : Nat), ∀ (x2 x3 x4 x5 x6 : Int32) (u : pS) (H : Heap) (locs : List Loc) (ls : Array Slot), va_P D vwCl (cw a cA cZ G u) H → va_S A s.heap H locs → lv_has ls 7 [(0, .ref (a 9)), (2, .int x2), (3, .int x3), (4, .int x4), (5, .int x5), (6, .int x6)] → lp_Sheet_rowFor_23 G Q n x2 x3 x4 x5 x6 u → W p l e ({ frames := 3, cells := 0, slots := 0, locals := 63 } : Room) s m args below meth c H locs 0 0 (pw_Ei below args s D (cw a cA cZ G) (cT cA cZ) A Q) (F0 m 23 ls []) := by
 obtain ⟨hx, hb, hr, hml, hown, hts, hlocks, hA⟩ := id C
 obtain ⟨hK, hI, hF⟩ := id K
 have hD : ∀ u, va_D A (cw a cA cZ G u) := fun u => cw_D hI hF
 intro n
 induction n with
 | zero => intro x2 x3 x4 x5 x6 u H locs ls hP hS hl h; exact h.elim
 | succ n ih =>
   intro x2 x3 x4 x5 x6 u H locs ls hP hS hl h
   refine lv_iload hx hb d_Sheet_rowFor_23 (lv_at hl 5 rfl) ?_
   refine lv_aload_n hx hb d_Sheet_rowFor_25 rfl (lv_at hl 0 rfl) ?_
   refine va_get (D := D) (ci := 8) (v := .int (u.1 8)) (C := R_Sheet) (T := T_Sheet) (N := 9) hx hb hts in_Sheet hown hK hP 9 cw_at_9 rfl 7 (by decide) (hts _ (List.mem_cons_of_mem _ kw_291)) (fun _ h9 => h9) rfl d_Sheet_rowFor_26 ?_
   refine lv_icmp_ge (tgt := 67) hx hb d_Sheet_rowFor_29 (by decide) (fun c5 => ?_) (fun c5 => ?_)
   · have h := h.1 c5
     refine lv_iload hx hb d_Sheet_rowFor_67 (lv_at hl 3 rfl) ?_
     refine lv_iload_n hx hb d_Sheet_rowFor_69 rfl (lv_at hl 1 rfl) ?_
     refine lv_icmp_gt (tgt := 93) hx hb d_Sheet_rowFor_70 (by decide) (fun c6 => ?_) (fun c6 => ?_)
     · have h := h.1 c6
       refine lv_iconst (v := -1) hx hb d_Sheet_rowFor_93 (by decide) ?_
       exact W.iret (v := (-1)) hx hb hr (fun t ht hW => ⟨⟨(-1), u, rfl, h, by rw [ht]; exact hP, va_K.moved hW.alike hK⟩, hS.F ht⟩) hS.2.2 d_Sheet_rowFor_94 hlocks
     · have h := h.2 c6
       refine lv_aload_n hx hb d_Sheet_rowFor_73 rfl (lv_at hl 0 rfl) ?_
       refine va_get (D := D) (ci := 8) (v := .int (u.1 9)) (C := R_Sheet) (T := T_Sheet) (N := 9) hx hb hts in_Sheet hown hK hP 9 cw_at_9 rfl 8 (by decide) (hts _ (List.mem_cons_of_mem _ kw_292)) (fun _ h9 => h9) rfl d_Sheet_rowFor_74 ?_
       refine lv_iload hx hb d_Sheet_rowFor_77 (lv_at hl 4 rfl) ?_
       refine lv_iadd hx hb d_Sheet_rowFor_79 ?_
       refine lv_iload_n hx hb d_Sheet_rowFor_80 rfl (lv_at hl 2 rfl) ?_
       refine lv_icmp_gt (tgt := 93) hx hb d_Sheet_rowFor_81 (by decide) (fun c7 => ?_) (fun c7 => ?_)
       · have h := h.1 c7
         refine lv_iconst (v := -1) hx hb d_Sheet_rowFor_93 (by decide) ?_
         exact W.iret (v := (-1)) hx hb hr (fun t ht hW => ⟨⟨(-1), u, rfl, h, by rw [ht]; exact hP, va_K.moved hW.alike hK⟩, hS.F ht⟩) hS.2.2 d_Sheet_rowFor_94 hlocks
       · have h := h.2 c7
         refine lv_aload_n hx hb d_Sheet_rowFor_84 rfl (lv_at hl 0 rfl) ?_
         refine lv_iload hx hb d_Sheet_rowFor_85 (lv_at hl 4 rfl) ?_
         refine cc_i (va_runV (As := [.int x5]) (rest := []) ⟨hx, hb, hml, hown, hts⟩ (ct_Sheet_newRow l D a cA cZ G _ x5 u _ hI h) (pw_cwV 1 hts kw_783 kw_55 kw_780 kw_782 kw_20 (by decide +kernel) ⟨Nat.le_of_ble_eq_true rfl, Nat.le_of_ble_eq_true rfl⟩) ⟨pw_blind, va_recv hK hP (ci := 8) (q0 := 9) rfl cw_at_9, fun U hU hW => ⟨rfl, by rw [hU], by rw [hU]; exact hP, va_K.moved hW.alike hK⟩⟩ rfl rfl hl.1 rfl (lv_room (Nat.le_of_ble_eq_true rfl)) d_Sheet_rowFor_87 ⟨Nat.le_of_ble_eq_true rfl, Nat.le_of_ble_eq_true rfl⟩) hS hF hA (fun r9 u8 H locs hP hS h => ?_)
         refine lv_goto (tgt := 94) hx hb d_Sheet_rowFor_90 (by decide) ?_
         exact W.iret (v := r9) hx hb hr (fun t ht hW => ⟨⟨r9, u8, rfl, h, by rw [ht]; exact hP, va_K.moved hW.alike hK⟩, hS.F ht⟩) hS.2.2 d_Sheet_rowFor_94 hlocks
   · have h := h.2 c5
     refine lv_aload_n hx hb d_Sheet_rowFor_32 rfl (lv_at hl 0 rfl) ?_
     refine va_get (D := D) (ci := 8) (v := .ref (a 39)) (C := R_Sheet) (T := T_Sheet) (N := 9) hx hb hts in_Sheet hown hK hP 9 cw_at_9 rfl 6 (by decide) (hts _ (List.mem_cons_of_mem _ kw_290)) (fun _ h9 => h9) rfl d_Sheet_rowFor_33 ?_
     refine lv_iload hx hb d_Sheet_rowFor_36 (lv_at hl 5 rfl) ?_
     refine va_iald hx hb hK hP 39 0 cw_at_39 rfl h.1 d_Sheet_rowFor_38 ?_
     have h := h.2
     refine lv_iload hx hb d_Sheet_rowFor_39 (lv_at hl 3 rfl) ?_
     refine lv_iadd hx hb d_Sheet_rowFor_41 ?_
     refine lv_iload_n hx hb d_Sheet_rowFor_42 rfl (lv_at hl 1 rfl) ?_
     refine lv_icmp_gt (tgt := 61) hx hb d_Sheet_rowFor_43 (by decide) (fun c10 => ?_) (fun c10 => ?_)
     · have h := h.1 c10
       obtain ⟨t11, et11⟩ : ∃ y : Int32, y = x6 + 1 := ⟨_, rfl⟩
       have h := h t11 et11
       refine lv_iinc (v := t11) (lv' := [(6, .int t11), (0, .ref (a 9)), (2, .int x2), (3, .int x3), (4, .int x4), (5, .int x5)]) hx hb d_Sheet_rowFor_61 hl (k := 5) rfl (by rw [et11]; rfl) (by decide) rfl (fun ls hl => ?_)
       refine lv_goto (tgt := 23) hx hb d_Sheet_rowFor_64 (by decide) ?_
       exact ih x2 x3 x4 x5 t11 u _ _ _ hP hS (lv_sub hl [1, 2, 3, 4, 5, 0] rfl) h
     · have h := h.2 c10
       refine lv_iload hx hb d_Sheet_rowFor_46 (lv_at hl 4 rfl) ?_
       refine lv_aload_n hx hb d_Sheet_rowFor_48 rfl (lv_at hl 0 rfl) ?_
       refine va_get (D := D) (ci := 8) (v := .ref (a 38)) (C := R_Sheet) (T := T_Sheet) (N := 9) hx hb hts in_Sheet hown hK hP 9 cw_at_9 rfl 5 (by decide) (hts _ (List.mem_cons_of_mem _ kw_289)) (fun _ h9 => h9) rfl d_Sheet_rowFor_49 ?_
       refine lv_iload hx hb d_Sheet_rowFor_52 (lv_at hl 5 rfl) ?_
       refine va_iald hx hb hK hP 38 0 cw_at_38 rfl h.1 d_Sheet_rowFor_54 ?_
       have h := h.2
       refine lv_icmp_gt (tgt := 61) hx hb d_Sheet_rowFor_55 (by decide) (fun c12 => ?_) (fun c12 => ?_)
       · have h := h.1 c12
         obtain ⟨t13, et13⟩ : ∃ y : Int32, y = x6 + 1 := ⟨_, rfl⟩
         have h := h t13 et13
         refine lv_iinc (v := t13) (lv' := [(6, .int t13), (0, .ref (a 9)), (2, .int x2), (3, .int x3), (4, .int x4), (5, .int x5)]) hx hb d_Sheet_rowFor_61 hl (k := 5) rfl (by rw [et13]; rfl) (by decide) rfl (fun ls hl => ?_)
         refine lv_goto (tgt := 23) hx hb d_Sheet_rowFor_64 (by decide) ?_
         exact ih x2 x3 x4 x5 t13 u _ _ _ hP hS (lv_sub hl [1, 2, 3, 4, 5, 0] rfl) h
       · have h := h.2 c12
         refine lv_iload hx hb d_Sheet_rowFor_58 (lv_at hl 5 rfl) ?_
         exact W.iret (v := x6) hx hb hr (fun t ht hW => ⟨⟨x6, u, rfl, h, by rw [ht]; exact hP, va_K.moved hW.alike hK⟩, hS.F ht⟩) hS.2.2 d_Sheet_rowFor_60 hlocks
set_option maxHeartbeats 4000000 in
set_option maxRecDepth 100000 in
theorem st_Sheet_rowFor {p : Program} {l : Launch} {e : Env} {s : State} {m : MethodId} {args : Array Value} {below : List Frame} {meth : Method} {c : Code} {D : va_G} {a : Nat → Nat} {cA cZ : ClassId} {G : pG} {A : Nat → Prop} {Q : Int32 → pS → Prop} (C : pw_C p s m args meth c b_Sheet_rowFor 7 R_Sheet (some .int) w_Sheet_rowFor A) (K : pw_K s D 40 a (cT cA cZ) A) (x1 x2 x3 : Int32) (u : pS) (ls : Array Slot) (hP : va_P D vwCl (cw a cA cZ G u) s.heap) (hl : lv_has ls 7 [(0, .ref (a 9)), (1, .int x1), (2, .int x2), (3, .int x3)]) (h : wp_Sheet_rowFor G x1 x2 x3 u Q) : W p l e ({ frames := 3, cells := 0, slots := 0, locals := 63 } : Room) s m args below meth c s.heap [] 0 0 (pw_Ei below args s D (cw a cA cZ G) (cT cA cZ) A Q) (F0 m 0 ls []) := by
 obtain ⟨hx, hb, hr, hml, hown, hts, hlocks, hA⟩ := id C
 obtain ⟨hK, hI, hF⟩ := id K
 have hD : ∀ u, va_D A (cw a cA cZ G u) := fun u => cw_D hI hF
 have hS : va_S A s.heap s.heap [] := va_S.rf
 have h : wp_Sheet_rowFor G x1 x2 x3 u Q := h
 refine lv_aload_n hx hb d_Sheet_rowFor_0 rfl (lv_at hl 0 rfl) ?_
 refine va_get (D := D) (ci := 8) (v := .ref (a 4)) (C := R_Sheet) (T := T_Sheet) (N := 9) hx hb hts in_Sheet hown hK hP 9 cw_at_9 rfl 0 (by decide) (hts _ (List.mem_cons_of_mem _ kw_284)) (fun _ h9 => h9) rfl d_Sheet_rowFor_1 ?_
 refine lv_iload_n hx hb d_Sheet_rowFor_4 rfl (lv_at hl 1 rfl) ?_
 refine cc_i (va_runV (As := [.int x1]) (rest := []) ⟨hx, hb, hml, hown, hts⟩ (ct_Pieces_columnsOf l D a cA cZ G _ x1 u _ hI h) (pw_cwV 1 hts kw_587 kw_49 kw_778 kw_585 kw_586 (by decide +kernel) ⟨Nat.le_of_ble_eq_true rfl, Nat.le_of_ble_eq_true rfl⟩) ⟨pw_blind, va_recv hK hP (ci := 7) (q0 := 4) rfl cw_at_4, fun U hU hW => ⟨rfl, by rw [hU], by rw [hU]; exact hP, va_K.moved hW.alike hK⟩⟩ rfl rfl hl.1 rfl (lv_room (Nat.le_of_ble_eq_true rfl)) d_Sheet_rowFor_5 ⟨Nat.le_of_ble_eq_true rfl, Nat.le_of_ble_eq_true rfl⟩) hS hF hA (fun r2 u1 H locs hP hS h => ?_)
 refine lv_istore (lv' := [(4, .int r2), (0, .ref (a 9)), (1, .int x1), (2, .int x2), (3, .int x3)]) hx hb d_Sheet_rowFor_8 hl (by decide) rfl (fun ls hl => ?_)
 refine lv_aload_n hx hb d_Sheet_rowFor_10 rfl (lv_at hl 1 rfl) ?_
 refine va_get (D := D) (ci := 8) (v := .ref (a 4)) (C := R_Sheet) (T := T_Sheet) (N := 9) hx hb hts in_Sheet hown hK hP 9 cw_at_9 rfl 0 (by decide) (hts _ (List.mem_cons_of_mem _ kw_284)) (fun _ h9 => h9) rfl d_Sheet_rowFor_11 ?_
 refine lv_iload_n hx hb d_Sheet_rowFor_14 rfl (lv_at hl 2 rfl) ?_
 refine cc_i (va_runV (As := [.int x1]) (rest := []) ⟨hx, hb, hml, hown, hts⟩ (ct_Pieces_rowsOf l D a cA cZ G _ x1 u1 _ hI h) (pw_cwV 1 hts kw_578 kw_49 kw_779 kw_576 kw_577 (by decide +kernel) ⟨Nat.le_of_ble_eq_true rfl, Nat.le_of_ble_eq_true rfl⟩) ⟨pw_blind, va_recv hK hP (ci := 7) (q0 := 4) rfl cw_at_4, fun U hU hW => ⟨rfl, by rw [hU], by rw [hU]; exact hP, va_K.moved hW.alike hK⟩⟩ rfl rfl hl.1 rfl (lv_room (Nat.le_of_ble_eq_true rfl)) d_Sheet_rowFor_15 ⟨Nat.le_of_ble_eq_true rfl, Nat.le_of_ble_eq_true rfl⟩) hS hF hA (fun r4 u3 H locs hP hS h => ?_)
 refine lv_istore (lv' := [(5, .int r4), (4, .int r2), (0, .ref (a 9)), (1, .int x1), (2, .int x2), (3, .int x3)]) hx hb d_Sheet_rowFor_18 hl (by decide) rfl (fun ls hl => ?_)
 refine lv_iconst (v := 0) hx hb d_Sheet_rowFor_20 (by decide) ?_
 refine lv_istore (lv' := [(6, .int 0), (5, .int r4), (4, .int r2), (0, .ref (a 9)), (1, .int x1), (2, .int x2), (3, .int x3)]) hx hb d_Sheet_rowFor_21 hl (by decide) rfl (fun ls hl => ?_)
 obtain ⟨n1, h⟩ := h
 exact cp_Sheet_rowFor_23 C K n1 x2 x3 r2 r4 0 u3 _ _ _ hP hS (lv_sub hl [3, 5, 6, 2, 1, 0] rfl) h
set_option maxHeartbeats 4000000 in
set_option maxRecDepth 100000 in
theorem ct_Sheet_rowFor (l : Launch) (D : va_G) (a : Nat → Nat) (cA cZ : ClassId) (G : pG) (sz : Nat) (x1 x2 x3 : Int32) (u : pS) (Q : Int32 → pS → Prop) (hI : pw_I 40 a) (h : wp_Sheet_rowFor G x1 x2 x3 u Q) : Met l y_Sheet_rowFor w_Sheet_rowFor ({ frames := 3, cells := 0, slots := 0, locals := 63 } : Room) (va_Pc [.ref (a 9), .int x1, .int x2, .int x3] (pw_pre D (cw a cA cZ G) (cT cA cZ) sz u)) (va_Qi (fun (r : Int32) (u : pS) => Q r u) (pw_B D (cw a cA cZ G) (cT cA cZ)) (pw_F 40 a sz)) 0 0 (pw_F 40 a sz) := by
 refine Met.ofW (cc := b_Sheet_rowFor) (maxL := 7) (ret := (some .int)) (by decide) rfl ?_
 intro p e s m args below meth c s₁ B hml hv
 obtain ⟨rfl, hsz, hP, hK⟩ := hv
 subst hsz
 have hl := lv_entry ([.ref (a 9), .int x1, .int x2, .int x3]) (n := 7) (Nat.le_of_ble_eq_true rfl)
 rw [lg_entry_eq]
 generalize (lg_sl ([.ref (a 9), .int x1, .int x2, .int x3]) ++ List.replicate (7 - (lg_sl ([.ref (a 9), .int x1, .int x2, .int x3])).length) Slot.unset).toArray = ls at hl ⊢
 exact st_Sheet_rowFor (A := (pw_F 40 a s.heap.size)) ⟨B.exec, B.bytes, B.returns, hml, findClass_of_methodNamed B.named, atoms_spec (ws := w_Sheet_rowFor) B.pre, B.notSynchronized, fun q hq => Or.inr hq⟩ ⟨hK, hI, fun k hk => Or.inl ⟨k, hk, rfl⟩⟩ x1 x2 x3 u ls hP hl h
end
section
set_option maxHeartbeats 4000000 in
set_option maxRecDepth 100000 in
theorem st_Sheet_put {p : Program} {l : Launch} {e : Env} {s : State} {m : MethodId} {args : Array Value} {below : List Frame} {meth : Method} {c : Code} {D : va_G} {a : Nat → Nat} {cA cZ : ClassId} {G : pG} {A : Nat → Prop} {Q : pS → Prop} (C : pw_C p s m args meth c b_Sheet_put 3 R_Sheet none w_Sheet_put A) (K : pw_K s D 40 a (cT cA cZ) A) (x1 x2 : Int32) (u : pS) (ls : Array Slot) (hP : va_P D vwCl (cw a cA cZ G u) s.heap) (hl : lv_has ls 3 [(0, .ref (a 9)), (1, .int x1), (2, .int x2)]) (h : wp_Sheet_put G x1 x2 u Q) : W p l e ({ frames := 1, cells := 0, slots := 0, locals := 21 } : Room) s m args below meth c s.heap [] 0 0 (pw_Ev below args s D (cw a cA cZ G) (cT cA cZ) A Q) (F0 m 0 ls []) := by
 obtain ⟨hx, hb, hr, hml, hown, hts, hlocks, hA⟩ := id C
 obtain ⟨hK, hI, hF⟩ := id K
 have hD : ∀ u, va_D A (cw a cA cZ G u) := fun u => cw_D hI hF
 have hS : va_S A s.heap s.heap [] := va_S.rf
 have h : wp_Sheet_put G x1 x2 u Q := h
 refine lv_aload_n hx hb d_Sheet_put_0 rfl (lv_at hl 0 rfl) ?_
 refine va_get (D := D) (ci := 8) (v := .ref (a 35)) (C := R_Sheet) (T := T_Sheet) (N := 9) hx hb hts in_Sheet hown hK hP 9 cw_at_9 rfl 2 (by decide) (hts _ (List.mem_cons_of_mem _ kw_286)) (fun _ h9 => h9) rfl d_Sheet_put_1 ?_
 refine lv_iload_n hx hb d_Sheet_put_4 rfl (lv_at hl 1 rfl) ?_
 refine lv_aload_n hx hb d_Sheet_put_5 rfl (lv_at hl 0 rfl) ?_
 refine va_get (D := D) (ci := 8) (v := .ref (a 39)) (C := R_Sheet) (T := T_Sheet) (N := 9) hx hb hts in_Sheet hown hK hP 9 cw_at_9 rfl 6 (by decide) (hts _ (List.mem_cons_of_mem _ kw_290)) (fun _ h9 => h9) rfl d_Sheet_put_6 ?_
 refine lv_iload_n hx hb d_Sheet_put_9 rfl (lv_at hl 2 rfl) ?_
 refine va_iald hx hb hK hP 39 0 cw_at_39 rfl h.1 d_Sheet_put_10 ?_
 have h := h.2
 refine va_iast hx hb hK hP (hD _) hS 35 0 cw_at_35 rfl h.1 d_Sheet_put_11 (fun H locs hP _ hS => ?_)
 obtain ⟨u1, eu1⟩ : ∃ z, z = pw_sa u 21 (upd (u.2 21) x1.toNatClampNeg (u.2 25 x2.toNatClampNeg)) := ⟨_, rfl⟩
 rw [cw_sa_35, ← eu1] at hP
 have h := h.2 u1 eu1
 refine lv_aload_n hx hb d_Sheet_put_12 rfl (lv_at hl 0 rfl) ?_
 refine va_get (D := D) (ci := 8) (v := .ref (a 36)) (C := R_Sheet) (T := T_Sheet) (N := 9) hx hb hts in_Sheet hown hK hP 9 cw_at_9 rfl 3 (by decide) (hts _ (List.mem_cons_of_mem _ kw_287)) (fun _ h9 => h9) rfl d_Sheet_put_13 ?_
 refine lv_iload_n hx hb d_Sheet_put_16 rfl (lv_at hl 1 rfl) ?_
 refine lv_aload_n hx hb d_Sheet_put_17 rfl (lv_at hl 0 rfl) ?_
 refine va_get (D := D) (ci := 8) (v := .ref (a 37)) (C := R_Sheet) (T := T_Sheet) (N := 9) hx hb hts in_Sheet hown hK hP 9 cw_at_9 rfl 4 (by decide) (hts _ (List.mem_cons_of_mem _ kw_288)) (fun _ h9 => h9) rfl d_Sheet_put_18 ?_
 refine lv_iload_n hx hb d_Sheet_put_21 rfl (lv_at hl 2 rfl) ?_
 refine va_iald hx hb hK hP 37 0 cw_at_37 rfl h.1 d_Sheet_put_22 ?_
 have h := h.2
 refine va_iast hx hb hK hP (hD _) hS 36 0 cw_at_36 rfl h.1 d_Sheet_put_23 (fun H locs hP _ hS => ?_)
 obtain ⟨u2, eu2⟩ : ∃ z, z = pw_sa u1 22 (upd (u1.2 22) x1.toNatClampNeg (u1.2 23 x2.toNatClampNeg)) := ⟨_, rfl⟩
 rw [cw_sa_36, ← eu2] at hP
 have h := h.2 u2 eu2
 refine lv_aload_n hx hb d_Sheet_put_24 rfl (lv_at hl 0 rfl) ?_
 refine va_get (D := D) (ci := 8) (v := .ref (a 39)) (C := R_Sheet) (T := T_Sheet) (N := 9) hx hb hts in_Sheet hown hK hP 9 cw_at_9 rfl 6 (by decide) (hts _ (List.mem_cons_of_mem _ kw_290)) (fun _ h9 => h9) rfl d_Sheet_put_25 ?_
 refine lv_iload_n hx hb d_Sheet_put_28 rfl (lv_at hl 2 rfl) ?_
 refine lv_dup2_11 hx hb d_Sheet_put_29 rfl rfl ?_
 refine va_iald hx hb hK hP 39 0 cw_at_39 rfl h.1 d_Sheet_put_30 ?_
 have h := h.2
 refine lv_aload_n hx hb d_Sheet_put_31 rfl (lv_at hl 0 rfl) ?_
 refine va_get (D := D) (ci := 8) (v := .ref (a 4)) (C := R_Sheet) (T := T_Sheet) (N := 9) hx hb hts in_Sheet hown hK hP 9 cw_at_9 rfl 0 (by decide) (hts _ (List.mem_cons_of_mem _ kw_284)) (fun _ h9 => h9) rfl d_Sheet_put_32 ?_
 refine lv_iload_n hx hb d_Sheet_put_35 rfl (lv_at hl 1 rfl) ?_
 refine cc_i (va_runV (As := [.int x1]) (rest := [.int (u2.2 25 x2.toNatClampNeg), .int x2, .ref (a 39)]) ⟨hx, hb, hml, hown, hts⟩ (ct_Pieces_columnsOf l D a cA cZ G _ x1 u2 _ hI h) (pw_cwV 1 hts kw_587 kw_49 kw_778 kw_585 kw_586 (by decide +kernel) ⟨Nat.le_of_ble_eq_true rfl, Nat.le_of_ble_eq_true rfl⟩) ⟨pw_blind, va_recv hK hP (ci := 7) (q0 := 4) rfl cw_at_4, fun U hU hW => ⟨rfl, by rw [hU], by rw [hU]; exact hP, va_K.moved hW.alike hK⟩⟩ rfl rfl hl.1 rfl (lv_room (Nat.le_of_ble_eq_true rfl)) d_Sheet_put_36 ⟨Nat.le_of_ble_eq_true rfl, Nat.le_of_ble_eq_true rfl⟩) hS hF hA (fun r4 u3 H locs hP hS h => ?_)
 refine lv_iadd hx hb d_Sheet_put_39 ?_
 refine va_iast hx hb hK hP (hD _) hS 39 0 cw_at_39 rfl h.1 d_Sheet_put_40 (fun H locs hP _ hS => ?_)
 obtain ⟨u5, eu5⟩ : ∃ z, z = pw_sa u3 25 (upd (u3.2 25) x2.toNatClampNeg ((u2.2 25 x2.toNatClampNeg) + r4)) := ⟨_, rfl⟩
 rw [cw_sa_39, ← eu5] at hP
 have h := h.2 u5 eu5
 exact W.vret hx hb hr (fun t ht hW => ⟨⟨u5, rfl, h, by rw [ht]; exact hP, va_K.moved hW.alike hK⟩, hS.F ht⟩) hS.2.2 d_Sheet_put_41 hlocks
set_option maxHeartbeats 4000000 in
set_option maxRecDepth 100000 in
theorem ct_Sheet_put (l : Launch) (D : va_G) (a : Nat → Nat) (cA cZ : ClassId) (G : pG) (sz : Nat) (x1 x2 : Int32) (u : pS) (Q : pS → Prop) (hI : pw_I 40 a) (h : wp_Sheet_put G x1 x2 u Q) : Met l y_Sheet_put w_Sheet_put ({ frames := 1, cells := 0, slots := 0, locals := 21 } : Room) (va_Pc [.ref (a 9), .int x1, .int x2] (pw_pre D (cw a cA cZ G) (cT cA cZ) sz u)) (va_Qv (fun (u : pS) => Q u) (pw_B D (cw a cA cZ G) (cT cA cZ)) (pw_F 40 a sz)) 0 0 (pw_F 40 a sz) := by
 refine Met.ofW (cc := b_Sheet_put) (maxL := 3) (ret := none) (by decide) rfl ?_
 intro p e s m args below meth c s₁ B hml hv
 obtain ⟨rfl, hsz, hP, hK⟩ := hv
 subst hsz
 have hl := lv_entry ([.ref (a 9), .int x1, .int x2]) (n := 3) (Nat.le_of_ble_eq_true rfl)
 rw [lg_entry_eq]
 generalize (lg_sl ([.ref (a 9), .int x1, .int x2]) ++ List.replicate (3 - (lg_sl ([.ref (a 9), .int x1, .int x2])).length) Slot.unset).toArray = ls at hl ⊢
 exact st_Sheet_put (A := (pw_F 40 a s.heap.size)) ⟨B.exec, B.bytes, B.returns, hml, findClass_of_methodNamed B.named, atoms_spec (ws := w_Sheet_put) B.pre, B.notSynchronized, fun q hq => Or.inr hq⟩ ⟨hK, hI, fun k hk => Or.inl ⟨k, hk, rfl⟩⟩ x1 x2 u ls hP hl h
set_option maxHeartbeats 4000000 in
set_option maxRecDepth 100000 in
theorem cp_Sheet_fill_29 {p : Program} {l : Launch} {e : Env} {s : State} {m : MethodId} {args : Array Value} {below : List Frame} {meth : Method} {c : Code} {D : va_G} {a : Nat → Nat} {cA cZ : ClassId} {G : pG} {A : Nat → Prop} {Q : Int32 → pS → Prop} (C : pw_C p s m args meth c b_Sheet_fill 7 R_Sheet (some .int) w_Sheet_fill A) (K : pw_K s D 40 a (cT cA cZ) A) (EX : cw_Ex A s) : ∀ (n : Nat), ∀ (x1 x2 x3 x4 : Int32) (u : pS) (H : Heap) (locs : List Loc) (ls : Array Slot), va_P D vwCl (cw a cA cZ G u) H → va_S A s.heap H locs → lv_has ls 7 [(0, .ref (a 9)), (1, .int x1), (2, .int x2), (3, .int x3), (4, .int x4)] → lp_Sheet_fill_29 G Q n x1 x2 x3 x4 u → W p l e ({ frames := 5, cells := 0, slots := 0, locals := 108 } : Room) s m args below meth c H locs 0 0 (pw_Ei below args s D (cw a cA cZ G) (cT cA cZ) A Q) (F0 m 29 ls []) := by
 obtain ⟨hx, hb, hr, hml, hown, hts, hlocks, hA⟩ := id C
 obtain ⟨hK, hI, hF⟩ := id K
 have hD : ∀ u, va_D A (cw a cA cZ G u) := fun u => cw_D hI hF
 intro n
 induction n with
 | zero => intro x1 x2 x3 x4 u H locs ls hP hS hl h; exact h.elim
 | succ n ih =>
   intro x1 x2 x3 x4 u H locs ls hP hS hl h
   refine lv_iload hx hb d_Sheet_fill_29 (lv_at hl 4 rfl) ?_
   refine lv_aload_n hx hb d_Sheet_fill_31 rfl (lv_at hl 0 rfl) ?_
   refine va_get (D := D) (ci := 8) (v := .ref (a 4)) (C := R_Sheet) (T := T_Sheet) (N := 9) hx hb hts in_Sheet hown hK hP 9 cw_at_9 rfl 0 (by decide) (hts _ (List.mem_cons_of_mem _ kw_284)) (fun _ h9 => h9) rfl d_Sheet_fill_32 ?_
   refine va_get (D := D) (ci := 7) (v := .int (u.1 2)) (C := R_Pieces) (T := T_Pieces) (N := 11) hx hb hts in_Pieces hown hK hP 4 cw_at_4 rfl 10 (by decide) (hts _ (List.mem_cons_of_mem _ kw_162)) (fun _ h9 => h9) rfl d_Sheet_fill_35 ?_
   refine lv_icmp_ge (tgt := 104) hx hb d_Sheet_fill_38 (by decide) (fun c4 => ?_) (fun c4 => ?_)
   · have h := h.1 c4
     refine lv_iload_n hx hb d_Sheet_fill_104 rfl (lv_at hl 3 rfl) ?_
     exact W.iret (v := x3) hx hb hr (fun t ht hW => ⟨⟨x3, u, rfl, h, by rw [ht]; exact hP, va_K.moved hW.alike hK⟩, hS.F ht⟩) hS.2.2 d_Sheet_fill_105 hlocks
   · have h := h.2 c4
     refine lv_aload_n hx hb d_Sheet_fill_41 rfl (lv_at hl 0 rfl) ?_
     refine va_get (D := D) (ci := 8) (v := .ref (a 10)) (C := R_Sheet) (T := T_Sheet) (N := 9) hx hb hts in_Sheet hown hK hP 9 cw_at_9 rfl 1 (by decide) (hts _ (List.mem_cons_of_mem _ kw_285)) (fun _ h9 => h9) rfl d_Sheet_fill_42 ?_
     refine lv_iload hx hb d_Sheet_fill_45 (lv_at hl 4 rfl) ?_
     refine cc_i (va_runU (As := [.int x4]) (rest := []) ⟨hx, hb, hml, hown, hts⟩ (ct_Ranking_ranked_highest l D a cA cZ G _ x4 u _ hI h) (pw_cwU (owner := "PictureInlays$Ranking") 1 hts kw_760 kw_50 kw_773 kw_756 kw_758 kw_755 rfl (by decide +kernel) ⟨Nat.le_of_ble_eq_true rfl, Nat.le_of_ble_eq_true rfl⟩) ⟨pw_blind, va_recv hK hP (ci := 5) (q0 := 10) rfl cw_at_10, fun U hU hW => ⟨rfl, by rw [hU], by rw [hU]; exact hP, va_K.moved hW.alike hK⟩⟩ rfl rfl hl.1 rfl (lv_room (Nat.le_of_ble_eq_true rfl)) d_Sheet_fill_47 ⟨Nat.le_of_ble_eq_true rfl, Nat.le_of_ble_eq_true rfl⟩) hS hF hA (fun r6 u5 H locs hP hS h => ?_)
     refine lv_istore (lv' := [(5, .int r6), (0, .ref (a 9)), (1, .int x1), (2, .int x2), (3, .int x3), (4, .int x4)]) hx hb d_Sheet_fill_50 hl (by decide) rfl (fun ls hl => ?_)
     refine lv_aload_n hx hb d_Sheet_fill_52 rfl (lv_at hl 1 rfl) ?_
     refine lv_iload hx hb d_Sheet_fill_53 (lv_at hl 0 rfl) ?_
     refine lv_iload_n hx hb d_Sheet_fill_55 rfl (lv_at hl 2 rfl) ?_
     refine lv_iload_n hx hb d_Sheet_fill_56 rfl (lv_at hl 3 rfl) ?_
     refine cc_i (va_runV (As := [.int r6, .int x1, .int x2]) (rest := []) ⟨hx, hb, hml, hown, hts⟩ (ct_Sheet_rowFor l D a cA cZ G _ r6 x1 x2 u5 _ hI h) (pw_cwV 3 hts kw_777 kw_55 kw_774 kw_776 kw_19 (by decide +kernel) ⟨Nat.le_of_ble_eq_true rfl, Nat.le_of_ble_eq_true rfl⟩) ⟨pw_blind, va_recv hK hP (ci := 8) (q0 := 9) rfl cw_at_9, fun U hU hW => ⟨rfl, by rw [hU], by rw [hU]; exact hP, va_K.moved hW.alike hK⟩⟩ rfl rfl hl.1 rfl (lv_room (Nat.le_of_ble_eq_true rfl)) d_Sheet_fill_57 ⟨Nat.le_of_ble_eq_true rfl, Nat.le_of_ble_eq_true rfl⟩) hS hF hA (fun r8 u7 H locs hP hS h => ?_)
     refine lv_istore (lv' := [(6, .int r8), (5, .int r6), (0, .ref (a 9)), (1, .int x1), (2, .int x2), (3, .int x3), (4, .int x4)]) hx hb d_Sheet_fill_60 hl (by decide) rfl (fun ls hl => ?_)
     refine lv_iload hx hb d_Sheet_fill_62 (lv_at hl 0 rfl) ?_
     refine lv_iconst (v := -1) hx hb d_Sheet_fill_64 (by decide) ?_
     refine lv_icmp_ne (tgt := 87) hx hb d_Sheet_fill_65 (by decide) (fun c9 => ?_) (fun c9 => ?_)
     · have h := h.2 c9
       refine lv_aload_n hx hb d_Sheet_fill_87 rfl (lv_at hl 2 rfl) ?_
       refine lv_iload hx hb d_Sheet_fill_88 (lv_at hl 1 rfl) ?_
       refine lv_iload hx hb d_Sheet_fill_90 (lv_at hl 0 rfl) ?_
       refine cc_v (va_runV (As := [.int r6, .int r8]) (rest := []) ⟨hx, hb, hml, hown, hts⟩ (ct_Sheet_put l D a cA cZ G _ r6 r8 u7 _ hI h) (pw_cwV 2 hts kw_787 kw_55 kw_784 kw_786 kw_21 (by decide +kernel) ⟨Nat.le_of_ble_eq_true rfl, Nat.le_of_ble_eq_true rfl⟩) ⟨pw_blind, va_recv hK hP (ci := 8) (q0 := 9) rfl cw_at_9, fun U hU hW => ⟨rfl, by rw [hU], by rw [hU]; exact hP, va_K.moved hW.alike hK⟩⟩ rfl rfl hl.1 rfl (lv_room (Nat.le_of_ble_eq_true rfl)) d_Sheet_fill_92 ⟨Nat.le_of_ble_eq_true rfl, Nat.le_of_ble_eq_true rfl⟩) hS hF hA (fun u10 H locs hP hS h => ?_)
       obtain ⟨t11, et11⟩ : ∃ y : Int32, y = x3 + 1 := ⟨_, rfl⟩
       have h := h t11 et11
       refine lv_iinc (v := t11) (lv' := [(3, .int t11), (6, .int r8), (5, .int r6), (0, .ref (a 9)), (1, .int x1), (2, .int x2), (4, .int x4)]) hx hb d_Sheet_fill_95 hl (k := 5) rfl (by rw [et11]; rfl) (by decide) rfl (fun ls hl => ?_)
       obtain ⟨t12, et12⟩ : ∃ y : Int32, y = x4 + 1 := ⟨_, rfl⟩
       have h := h t12 et12
       refine lv_iinc (v := t12) (lv' := [(4, .int t12), (3, .int t11), (6, .int r8), (5, .int r6), (0, .ref (a 9)), (1, .int x1), (2, .int x2)]) hx hb d_Sheet_fill_98 hl (k := 6) rfl (by rw [et12]; rfl) (by decide) rfl (fun ls hl => ?_)
       refine lv_goto (tgt := 29) hx hb d_Sheet_fill_101 (by decide) ?_
       exact ih x1 x2 t11 t12 u10 _ _ _ hP hS (lv_sub hl [4, 5, 6, 1, 0] rfl) h
     · have h := h.1 c9
       refine lv_aload_n hx hb d_Sheet_fill_68 rfl (lv_at hl 2 rfl) ?_
       refine va_get (D := D) (ci := 8) (v := .ref (a 35)) (C := R_Sheet) (T := T_Sheet) (N := 9) hx hb hts in_Sheet hown hK hP 9 cw_at_9 rfl 2 (by decide) (hts _ (List.mem_cons_of_mem _ kw_286)) (fun _ h9 => h9) rfl d_Sheet_fill_69 ?_
       refine lv_iload hx hb d_Sheet_fill_72 (lv_at hl 1 rfl) ?_
       refine lv_iconst (v := -1) hx hb d_Sheet_fill_74 (by decide) ?_
       refine va_iast hx hb hK hP (hD _) hS 35 0 cw_at_35 rfl h.1 d_Sheet_fill_75 (fun H locs hP _ hS => ?_)
       obtain ⟨u13, eu13⟩ : ∃ z, z = pw_sa u7 21 (upd (u7.2 21) r6.toNatClampNeg (-1)) := ⟨_, rfl⟩
       rw [cw_sa_35, ← eu13] at hP
       have h := h.2 u13 eu13
       refine lv_aload_n hx hb d_Sheet_fill_76 rfl (lv_at hl 2 rfl) ?_
       refine va_get (D := D) (ci := 8) (v := .ref (a 36)) (C := R_Sheet) (T := T_Sheet) (N := 9) hx hb hts in_Sheet hown hK hP 9 cw_at_9 rfl 3 (by decide) (hts _ (List.mem_cons_of_mem _ kw_287)) (fun _ h9 => h9) rfl d_Sheet_fill_77 ?_
       refine lv_iload hx hb d_Sheet_fill_80 (lv_at hl 1 rfl) ?_
       refine lv_iconst (v := -1) hx hb d_Sheet_fill_82 (by decide) ?_
       refine va_iast hx hb hK hP (hD _) hS 36 0 cw_at_36 rfl h.1 d_Sheet_fill_83 (fun H locs hP _ hS => ?_)
       obtain ⟨u14, eu14⟩ : ∃ z, z = pw_sa u13 22 (upd (u13.2 22) r6.toNatClampNeg (-1)) := ⟨_, rfl⟩
       rw [cw_sa_36, ← eu14] at hP
       have h := h.2 u14 eu14
       refine lv_goto (tgt := 98) hx hb d_Sheet_fill_84 (by decide) ?_
       obtain ⟨t15, et15⟩ : ∃ y : Int32, y = x4 + 1 := ⟨_, rfl⟩
       have h := h t15 et15
       refine lv_iinc (v := t15) (lv' := [(4, .int t15), (6, .int r8), (5, .int r6), (0, .ref (a 9)), (1, .int x1), (2, .int x2), (3, .int x3)]) hx hb d_Sheet_fill_98 hl (k := 6) rfl (by rw [et15]; rfl) (by decide) rfl (fun ls hl => ?_)
       refine lv_goto (tgt := 29) hx hb d_Sheet_fill_101 (by decide) ?_
       exact ih x1 x2 x3 t15 u14 _ _ _ hP hS (lv_sub hl [3, 4, 5, 6, 0] rfl) h
set_option maxHeartbeats 4000000 in
set_option maxRecDepth 100000 in
theorem st_Sheet_fill {p : Program} {l : Launch} {e : Env} {s : State} {m : MethodId} {args : Array Value} {below : List Frame} {meth : Method} {c : Code} {D : va_G} {a : Nat → Nat} {cA cZ : ClassId} {G : pG} {A : Nat → Prop} {Q : Int32 → pS → Prop} (C : pw_C p s m args meth c b_Sheet_fill 7 R_Sheet (some .int) w_Sheet_fill A) (K : pw_K s D 40 a (cT cA cZ) A) (EX : cw_Ex A s) (x1 x2 : Int32) (u : pS) (ls : Array Slot) (hP : va_P D vwCl (cw a cA cZ G u) s.heap) (hl : lv_has ls 7 [(0, .ref (a 9)), (1, .int x1), (2, .int x2)]) (h : wp_Sheet_fill G x1 x2 u Q) : W p l e ({ frames := 5, cells := 0, slots := 0, locals := 108 } : Room) s m args below meth c s.heap [] 0 0 (pw_Ei below args s D (cw a cA cZ G) (cT cA cZ) A Q) (F0 m 0 ls []) := by
 obtain ⟨hx, hb, hr, hml, hown, hts, hlocks, hA⟩ := id C
 obtain ⟨hK, hI, hF⟩ := id K
 have hD : ∀ u, va_D A (cw a cA cZ G u) := fun u => cw_D hI hF
 have hS : va_S A s.heap s.heap [] := va_S.rf
 have h : wp_Sheet_fill G x1 x2 u Q := h
 refine lv_aload_n hx hb d_Sheet_fill_0 rfl (lv_at hl 0 rfl) ?_
 refine va_get (D := D) (ci := 8) (v := .ref (a 10)) (C := R_Sheet) (T := T_Sheet) (N := 9) hx hb hts in_Sheet hown hK hP 9 cw_at_9 rfl 1 (by decide) (hts _ (List.mem_cons_of_mem _ kw_285)) (fun _ h9 => h9) rfl d_Sheet_fill_1 ?_
 refine lv_aload_n hx hb d_Sheet_fill_4 rfl (lv_at hl 0 rfl) ?_
 refine va_get (D := D) (ci := 8) (v := .ref (a 4)) (C := R_Sheet) (T := T_Sheet) (N := 9) hx hb hts in_Sheet hown hK hP 9 cw_at_9 rfl 0 (by decide) (hts _ (List.mem_cons_of_mem _ kw_284)) (fun _ h9 => h9) rfl d_Sheet_fill_5 ?_
 refine va_get (D := D) (ci := 7) (v := .int (u.1 2)) (C := R_Pieces) (T := T_Pieces) (N := 11) hx hb hts in_Pieces hown hK hP 4 cw_at_4 rfl 10 (by decide) (hts _ (List.mem_cons_of_mem _ kw_162)) (fun _ h9 => h9) rfl d_Sheet_fill_8 ?_
 refine cc_v (va_runU (As := [.int (u.1 2)]) (rest := []) ⟨hx, hb, hml, hown, hts⟩ (ct_Ranking_rank_highest l D a cA cZ G _ (u.1 2) u _ hI h) (pw_cwU (owner := "PictureInlays$Ranking") 1 hts kw_558 kw_50 kw_772 kw_554 kw_556 kw_553 rfl (by decide +kernel) ⟨Nat.le_of_ble_eq_true rfl, Nat.le_of_ble_eq_true rfl⟩) ⟨cw_blindX, va_recv hK hP (ci := 5) (q0 := 10) rfl cw_at_10, fun U hU hW => ⟨rfl, ⟨by rw [hU], by rw [hU]; exact hP, va_K.moved hW.alike hK⟩, cw_Ex_call EX hS (pw_FA hS hF hA) hU hW⟩⟩ rfl rfl hl.1 rfl (lv_room (Nat.le_of_ble_eq_true rfl)) d_Sheet_fill_11 ⟨Nat.le_of_ble_eq_true rfl, Nat.le_of_ble_eq_true rfl⟩) hS hF hA (fun u1 H locs hP hS h => ?_)
 refine lv_aload_n hx hb d_Sheet_fill_14 rfl (lv_at hl 0 rfl) ?_
 refine lv_iconst (v := 0) hx hb d_Sheet_fill_15 (by decide) ?_
 refine va_put (D := D) (ci := 8) (v := .int 0) (ty := .int) (C := R_Sheet) (T := T_Sheet) (N := 9) hx hb hts in_Sheet ty_Sheet tyok_Sheet nm_Sheet hown hK hP (hD _) hS 9 cw_at_9 rfl 7 (by decide) (hts _ (List.mem_cons_of_mem _ kw_291)) (fun _ h9 => h9) rfl (by decide +kernel) rfl rfl (Nat.le_of_ble_eq_true rfl) d_Sheet_fill_16 (fun H locs hP _ hS => ?_)
 obtain ⟨u2, eu2⟩ : ∃ z, z = pw_si u1 8 0 := ⟨_, rfl⟩
 rw [cw_si_9_7, ← eu2] at hP
 have h := h u2 eu2
 refine lv_aload_n hx hb d_Sheet_fill_19 rfl (lv_at hl 0 rfl) ?_
 refine lv_iconst (v := 0) hx hb d_Sheet_fill_20 (by decide) ?_
 refine va_put (D := D) (ci := 8) (v := .int 0) (ty := .int) (C := R_Sheet) (T := T_Sheet) (N := 9) hx hb hts in_Sheet ty_Sheet tyok_Sheet nm_Sheet hown hK hP (hD _) hS 9 cw_at_9 rfl 8 (by decide) (hts _ (List.mem_cons_of_mem _ kw_292)) (fun _ h9 => h9) rfl (by decide +kernel) rfl rfl (Nat.le_of_ble_eq_true rfl) d_Sheet_fill_21 (fun H locs hP _ hS => ?_)
 obtain ⟨u3, eu3⟩ : ∃ z, z = pw_si u2 9 0 := ⟨_, rfl⟩
 rw [cw_si_9_8, ← eu3] at hP
 have h := h u3 eu3
 refine lv_iconst (v := 0) hx hb d_Sheet_fill_24 (by decide) ?_
 refine lv_istore_n (lv' := [(3, .int 0), (0, .ref (a 9)), (1, .int x1), (2, .int x2)]) hx hb d_Sheet_fill_25 rfl hl (by decide) rfl (fun ls hl => ?_)
 refine lv_iconst (v := 0) hx hb d_Sheet_fill_26 (by decide) ?_
 refine lv_istore (lv' := [(4, .int 0), (3, .int 0), (0, .ref (a 9)), (1, .int x1), (2, .int x2)]) hx hb d_Sheet_fill_27 hl (by decide) rfl (fun ls hl => ?_)
 obtain ⟨n1, h⟩ := h
 exact cp_Sheet_fill_29 C K EX n1 x1 x2 0 0 u3 _ _ _ hP hS (lv_sub hl [2, 3, 4, 1, 0] rfl) h
set_option maxHeartbeats 4000000 in
set_option maxRecDepth 100000 in
theorem ct_Sheet_fill (l : Launch) (D : va_G) (a : Nat → Nat) (cA cZ : ClassId) (G : pG) (sz : Nat) (x1 x2 : Int32) (u : pS) (Q : Int32 → pS → Prop) (hI : pw_I 40 a) (h : wp_Sheet_fill G x1 x2 u Q) : Met l y_Sheet_fill w_Sheet_fill ({ frames := 5, cells := 0, slots := 0, locals := 108 } : Room) (va_Pc [.ref (a 9), .int x1, .int x2] (fun U => pw_pre D (cw a cA cZ G) (cT cA cZ) sz u U ∧ cw_Ex (pw_F 40 a sz) U)) (va_Qi (fun (r : Int32) (u : pS) => Q r u) (pw_B D (cw a cA cZ G) (cT cA cZ)) (pw_F 40 a sz)) 0 0 (pw_F 40 a sz) := by
 refine Met.ofW (cc := b_Sheet_fill) (maxL := 7) (ret := (some .int)) (by decide) rfl ?_
 intro p e s m args below meth c s₁ B hml hv
 obtain ⟨rfl, ⟨hsz, hP, hK⟩, EX⟩ := hv
 subst hsz
 have hl := lv_entry ([.ref (a 9), .int x1, .int x2]) (n := 7) (Nat.le_of_ble_eq_true rfl)
 rw [lg_entry_eq]
 generalize (lg_sl ([.ref (a 9), .int x1, .int x2]) ++ List.replicate (7 - (lg_sl ([.ref (a 9), .int x1, .int x2])).length) Slot.unset).toArray = ls at hl ⊢
 exact st_Sheet_fill (A := (pw_F 40 a s.heap.size)) ⟨B.exec, B.bytes, B.returns, hml, findClass_of_methodNamed B.named, atoms_spec (ws := w_Sheet_fill) B.pre, B.notSynchronized, fun q hq => Or.inr hq⟩ ⟨hK, hI, fun k hk => Or.inl ⟨k, hk, rfl⟩⟩ EX x1 x2 u ls hP hl h
set_option maxHeartbeats 4000000 in
set_option maxRecDepth 100000 in
theorem st_PI_nest {p : Program} {l : Launch} {e : Env} {s : State} {m : MethodId} {args : Array Value} {below : List Frame} {meth : Method} {c : Code} {D : va_G} {a : Nat → Nat} {cA cZ : ClassId} {G : pG} {A : Nat → Prop} {Q : Int32 → pS → Prop} {X : Nat → pS → Prop} (C : pw_C p s m args meth c b_PI_nest 3 R_PI (some .int) w_PI_nest A) (K : pw_K s D 40 a (cT cA cZ) A) (EX : cw_Ex A s) (hL : px_L l) (htr : e.platform.stackTraces = false) (hE : ∀ (pc : Nat), ∀ x ∈ c.exceptionTable.toList, covers x pc = false) (x1 x2 : Int32) (u : pS) (ls : Array Slot) (hP : va_P D vwCl (cw a cA cZ G u) s.heap) (hl : lv_has ls 3 [(0, .ref (a 0)), (1, .int x1), (2, .int x2)]) (h : wp_PI_nest G x1 x2 u Q X) : W p l e ({ frames := 7, cells := 1, slots := 6, locals := 134 } : Room) s m args below meth c s.heap [] 0 0 (px_Ei below args s D (cw a cA cZ G) (cT cA cZ) A Q X) (F0 m 0 ls []) := by
 obtain ⟨hx, hb, hr, hml, hown, hts, hlocks, hA⟩ := id C
 obtain ⟨hK, hI, hF⟩ := id K
 have hD : ∀ u, va_D A (cw a cA cZ G u) := fun u => cw_D hI hF
 have hz : ∀ oc t, px_T X (pw_B D (cw a cA cZ G) (cT cA cZ)) oc t → va_F A s t → (px_Qi Q X (pw_B D (cw a cA cZ G) (cT cA cZ)) A) args s oc t := fun oc t h1 h2 => ⟨Or.inr h1, h2⟩
 have hS : va_S A s.heap s.heap [] := va_S.rf
 have h : wp_PI_nest G x1 x2 u Q X := h
 refine lv_aload_n hx hb d_PI_nest_0 rfl (lv_at hl 0 rfl) ?_
 refine cx_v (px_runV (As := []) (rest := []) ⟨hx, hb, hml, hown, hts⟩ (ct_PI_needParted l D a cA cZ G _  u _ _ hL hI h) (pw_cwV 0 hts kw_611 kw_45 kw_608 kw_610 kw_12 (by decide +kernel) ⟨Nat.le_of_ble_eq_true rfl, Nat.le_of_ble_eq_true rfl⟩) ⟨cw_blindX, va_recv hK hP (ci := 0) (q0 := 0) rfl cw_at_0, fun U hU hW => ⟨rfl, ⟨by rw [hU], by rw [hU]; exact hP, va_K.moved hW.alike hK⟩, cw_Ex_call EX hS (pw_FA hS hF hA) hU hW⟩⟩ rfl rfl hl.1 rfl (lv_room (Nat.le_of_ble_eq_true rfl)) d_PI_nest_1 ⟨Nat.le_of_ble_eq_true rfl, Nat.le_of_ble_eq_true rfl⟩) hS hF hA (hE _) hlocks hz (fun u1 H locs hP hS h => ?_)
 refine lv_iload_n hx hb d_PI_nest_4 rfl (lv_at hl 1 rfl) ?_
 refine lv_iconst (v := 1) hx hb d_PI_nest_5 (by decide) ?_
 refine lv_bipush (v := 100) hx hb d_PI_nest_6 (by decide) ?_
 refine cx_v (px_runS (As := [.int x1, .int 1, .int 100]) (rest := []) ⟨hx, hb, hml, hown, hts⟩ (ct_PI_needNumber l D a cA cZ G _ x1 1 100 u1 _ _ hL hI h) (pw_cwS 3 hts kw_441 kw_45 kw_439 kw_440 (by decide +kernel) ⟨Nat.le_of_ble_eq_true rfl, Nat.le_of_ble_eq_true rfl⟩) ⟨cw_blindX, fun U hU hW => ⟨rfl, ⟨by rw [hU], by rw [hU]; exact hP, va_K.moved hW.alike hK⟩, cw_Ex_call EX hS (pw_FA hS hF hA) hU hW⟩⟩ rfl rfl hl.1 rfl (lv_room (Nat.le_of_ble_eq_true rfl)) d_PI_nest_8 ⟨Nat.le_of_ble_eq_true rfl, Nat.le_of_ble_eq_true rfl⟩) hS hF hA (hE _) hlocks hz (fun u2 H locs hP hS h => ?_)
 refine lv_iload_n hx hb d_PI_nest_11 rfl (lv_at hl 2 rfl) ?_
 refine lv_iconst (v := 1) hx hb d_PI_nest_12 (by decide) ?_
 refine lv_bipush (v := 100) hx hb d_PI_nest_13 (by decide) ?_
 refine cx_v (px_runS (As := [.int x2, .int 1, .int 100]) (rest := []) ⟨hx, hb, hml, hown, hts⟩ (ct_PI_needNumber l D a cA cZ G _ x2 1 100 u2 _ _ hL hI h) (pw_cwS 3 hts kw_441 kw_45 kw_439 kw_440 (by decide +kernel) ⟨Nat.le_of_ble_eq_true rfl, Nat.le_of_ble_eq_true rfl⟩) ⟨cw_blindX, fun U hU hW => ⟨rfl, ⟨by rw [hU], by rw [hU]; exact hP, va_K.moved hW.alike hK⟩, cw_Ex_call EX hS (pw_FA hS hF hA) hU hW⟩⟩ rfl rfl hl.1 rfl (lv_room (Nat.le_of_ble_eq_true rfl)) d_PI_nest_15 ⟨Nat.le_of_ble_eq_true rfl, Nat.le_of_ble_eq_true rfl⟩) hS hF hA (hE _) hlocks hz (fun u3 H locs hP hS h => ?_)
 refine lv_aload_n hx hb d_PI_nest_18 rfl (lv_at hl 0 rfl) ?_
 refine lv_iconst (v := 1) hx hb d_PI_nest_19 (by decide) ?_
 refine va_put (D := D) (ci := 0) (v := .int 1) (ty := .boolean) (C := R_PI) (T := T_PI) (N := 12) hx hb hts in_PI ty_PI tyok_PI nm_PI hown hK hP (hD _) hS 0 cw_at_0 rfl 11 (by decide) (hts _ (List.mem_cons_of_mem _ kw_323)) (fun _ h9 => h9) rfl (by decide +kernel) rfl rfl (Nat.le_of_ble_eq_true rfl) d_PI_nest_20 (fun H locs hP _ hS => ?_)
 obtain ⟨u4, eu4⟩ : ∃ z, z = pw_si u3 1 1 := ⟨_, rfl⟩
 rw [cw_si_0_11, ← eu4] at hP
 have h := h u4 eu4
 refine lv_aload_n hx hb d_PI_nest_23 rfl (lv_at hl 0 rfl) ?_
 refine va_get (D := D) (ci := 0) (v := .ref (a 9)) (C := R_PI) (T := T_PI) (N := 12) hx hb hts in_PI hown hK hP 0 cw_at_0 rfl 9 (by decide) (hts _ (List.mem_cons_of_mem _ kw_321)) (fun _ h9 => h9) rfl d_PI_nest_24 ?_
 refine lv_iload_n hx hb d_PI_nest_27 rfl (lv_at hl 1 rfl) ?_
 refine lv_iload_n hx hb d_PI_nest_28 rfl (lv_at hl 2 rfl) ?_
 refine cc_i (va_runV (As := [.int x1, .int x2]) (rest := []) ⟨hx, hb, hml, hown, hts⟩ (ct_Sheet_fill l D a cA cZ G _ x1 x2 u4 _ hI h) (pw_cwV 2 hts kw_771 kw_55 kw_768 kw_769 kw_770 (by decide +kernel) ⟨Nat.le_of_ble_eq_true rfl, Nat.le_of_ble_eq_true rfl⟩) ⟨cw_blindX, va_recv hK hP (ci := 8) (q0 := 9) rfl cw_at_9, fun U hU hW => ⟨rfl, ⟨by rw [hU], by rw [hU]; exact hP, va_K.moved hW.alike hK⟩, cw_Ex_call EX hS (pw_FA hS hF hA) hU hW⟩⟩ rfl rfl hl.1 rfl (lv_room (Nat.le_of_ble_eq_true rfl)) d_PI_nest_29 ⟨Nat.le_of_ble_eq_true rfl, Nat.le_of_ble_eq_true rfl⟩) hS hF hA (fun r6 u5 H locs hP hS h => ?_)
 exact px_mono (fun t h => px_ofMQ (fun _ _ h => h) h) (W.iret (Qc := px_Qi Q X (pw_B D (cw a cA cZ G) (cT cA cZ)) A) (v := r6) hx hb hr (fun t ht hW => ⟨Or.inl ⟨r6, u5, rfl, h, by rw [ht]; exact hP, va_K.moved hW.alike hK⟩, hS.F ht⟩) hS.2.2 d_PI_nest_32 hlocks)
set_option maxHeartbeats 4000000 in
set_option maxRecDepth 100000 in
theorem ct_PI_nest (l : Launch) (D : va_G) (a : Nat → Nat) (cA cZ : ClassId) (G : pG) (sz : Nat) (x1 x2 : Int32) (u : pS) (Q : Int32 → pS → Prop) (X : Nat → pS → Prop) (hL : px_L l) (hI : pw_I 40 a) (h : wp_PI_nest G x1 x2 u Q X) : px_Met l y_PI_nest w_PI_nest ({ frames := 7, cells := 1, slots := 6, locals := 134 } : Room) (va_Pc [.ref (a 0), .int x1, .int x2] (fun U => pw_pre D (cw a cA cZ G) (cT cA cZ) sz u U ∧ cw_Ex (pw_F 40 a sz) U)) (px_Qi Q X (pw_B D (cw a cA cZ G) (cT cA cZ)) (pw_F 40 a sz)) 0 0 1 6 (pw_F 40 a sz) := by
 refine px_ofW (cc := b_PI_nest) (maxL := 3) (ret := (some .int)) (by decide) rfl ?_
 intro p e s m args below meth c s₁ B hml hE hv
 obtain ⟨rfl, ⟨hsz, hP, hK⟩, EX⟩ := hv
 subst hsz
 have hl := lv_entry ([.ref (a 0), .int x1, .int x2]) (n := 3) (Nat.le_of_ble_eq_true rfl)
 rw [lg_entry_eq]
 generalize (lg_sl ([.ref (a 0), .int x1, .int x2]) ++ List.replicate (3 - (lg_sl ([.ref (a 0), .int x1, .int x2])).length) Slot.unset).toArray = ls at hl ⊢
 exact st_PI_nest (A := (pw_F 40 a s.heap.size)) ⟨B.exec, B.bytes, B.returns, hml, findClass_of_methodNamed B.named, atoms_spec (ws := w_PI_nest) B.pre, B.notSynchronized, fun q hq => Or.inr hq⟩ ⟨hK, hI, fun k hk => Or.inl ⟨k, hk, rfl⟩⟩ EX hL (hL e B.admits) (px_none hE) x1 x2 u ls hP hl h
set_option maxHeartbeats 4000000 in
set_option maxRecDepth 100000 in
theorem st_PI_needNested {p : Program} {l : Launch} {e : Env} {s : State} {m : MethodId} {args : Array Value} {below : List Frame} {meth : Method} {c : Code} {D : va_G} {a : Nat → Nat} {cA cZ : ClassId} {G : pG} {A : Nat → Prop} {Q : pS → Prop} {X : Nat → pS → Prop} (C : pw_C p s m args meth c b_PI_needNested 1 R_PI none w_PI_needNested A) (K : pw_K s D 40 a (cT cA cZ) A) (EX : cw_Ex A s) (hL : px_L l) (htr : e.platform.stackTraces = false) (hE : ∀ (pc : Nat), ∀ x ∈ c.exceptionTable.toList, covers x pc = false) (u : pS) (ls : Array Slot) (hP : va_P D vwCl (cw a cA cZ G u) s.heap) (hl : lv_has ls 1 [(0, .ref (a 0))]) (h : wp_PI_needNested G u Q X) : W p l e ({ frames := 6, cells := 1, slots := 6, locals := 82 } : Room) s m args below meth c s.heap [] 0 0 (px_Ev below args s D (cw a cA cZ G) (cT cA cZ) A Q X) (F0 m 0 ls []) := by
 obtain ⟨hx, hb, hr, hml, hown, hts, hlocks, hA⟩ := id C
 obtain ⟨hK, hI, hF⟩ := id K
 have hD : ∀ u, va_D A (cw a cA cZ G u) := fun u => cw_D hI hF
 have hz : ∀ oc t, px_T X (pw_B D (cw a cA cZ G) (cT cA cZ)) oc t → va_F A s t → (px_Qv Q X (pw_B D (cw a cA cZ G) (cT cA cZ)) A) args s oc t := fun oc t h1 h2 => ⟨Or.inr h1, h2⟩
 have hS : va_S A s.heap s.heap [] := va_S.rf
 have h : wp_PI_needNested G u Q X := h
 refine lv_aload_n hx hb d_PI_needNested_0 rfl (lv_at hl 0 rfl) ?_
 refine va_get (D := D) (ci := 0) (v := .int (u.1 1)) (C := R_PI) (T := T_PI) (N := 12) hx hb hts in_PI hown hK hP 0 cw_at_0 rfl 11 (by decide) (hts _ (List.mem_cons_of_mem _ kw_323)) (fun _ h9 => h9) rfl d_PI_needNested_1 ?_
 refine lv_if_ne (tgt := 17) hx hb d_PI_needNested_4 (by decide) (fun c1 => ?_) (fun c1 => ?_)
 · have h := h.2 c1
   exact px_mono (fun t h => px_ofMQ (fun _ _ h => h) h) (W.vret (Qc := px_Qv Q X (pw_B D (cw a cA cZ G) (cT cA cZ)) A) hx hb hr (fun t ht hW => ⟨Or.inl ⟨u, rfl, h, by rw [ht]; exact hP, va_K.moved hW.alike hK⟩, hS.F ht⟩) hS.2.2 d_PI_needNested_17 hlocks)
 · have h := h.1 c1
   obtain ⟨q0, hq0⟩ := EX.1.2.1.1 ("PictureInlays", 224, "nothing was nested since it was parted") (by decide)
   exact px_thr (k := 0) (u := u) (tx := "nothing was nested since it was parted") (names := px_up) hx hb (by rw [hml]; exact hl.1.symm) hown (hts _ (List.mem_cons_of_mem _ kw_612)) (hts _ (List.mem_cons_of_mem _ kw_613)) (hts _ (List.mem_cons_of_mem _ kw_65)) hq0 (px_own (by decide) kw_622 hts EX.1) (by decide +kernel) (by decide +kernel) htr (hE _) hlocks (Nat.le_of_ble_eq_true rfl) (Nat.le_of_ble_eq_true rfl) (Nat.le_of_ble_eq_true rfl) (Nat.le_of_ble_eq_true rfl) hz hP hK h d_PI_needNested_7 d_PI_needNested_10 d_PI_needNested_11 d_PI_needNested_13 d_PI_needNested_16
set_option maxHeartbeats 4000000 in
set_option maxRecDepth 100000 in
theorem ct_PI_needNested (l : Launch) (D : va_G) (a : Nat → Nat) (cA cZ : ClassId) (G : pG) (sz : Nat) (u : pS) (Q : pS → Prop) (X : Nat → pS → Prop) (hL : px_L l) (hI : pw_I 40 a) (h : wp_PI_needNested G u Q X) : px_Met l y_PI_needNested w_PI_needNested ({ frames := 6, cells := 1, slots := 6, locals := 82 } : Room) (va_Pc [.ref (a 0)] (fun U => pw_pre D (cw a cA cZ G) (cT cA cZ) sz u U ∧ cw_Ex (pw_F 40 a sz) U)) (px_Qv Q X (pw_B D (cw a cA cZ G) (cT cA cZ)) (pw_F 40 a sz)) 0 0 1 6 (pw_F 40 a sz) := by
 refine px_ofW (cc := b_PI_needNested) (maxL := 1) (ret := none) (by decide) rfl ?_
 intro p e s m args below meth c s₁ B hml hE hv
 obtain ⟨rfl, ⟨hsz, hP, hK⟩, EX⟩ := hv
 subst hsz
 have hl := lv_entry ([.ref (a 0)]) (n := 1) (Nat.le_of_ble_eq_true rfl)
 rw [lg_entry_eq]
 generalize (lg_sl ([.ref (a 0)]) ++ List.replicate (1 - (lg_sl ([.ref (a 0)])).length) Slot.unset).toArray = ls at hl ⊢
 exact st_PI_needNested (A := (pw_F 40 a s.heap.size)) ⟨B.exec, B.bytes, B.returns, hml, findClass_of_methodNamed B.named, atoms_spec (ws := w_PI_needNested) B.pre, B.notSynchronized, fun q hq => Or.inr hq⟩ ⟨hK, hI, fun k hk => Or.inl ⟨k, hk, rfl⟩⟩ EX hL (hL e B.admits) (px_none hE) u ls hP hl h
set_option maxHeartbeats 4000000 in
set_option maxRecDepth 100000 in
theorem st_Sheet_yOf {p : Program} {l : Launch} {e : Env} {s : State} {m : MethodId} {args : Array Value} {below : List Frame} {meth : Method} {c : Code} {D : va_G} {a : Nat → Nat} {cA cZ : ClassId} {G : pG} {A : Nat → Prop} {Q : Int32 → pS → Prop} (C : pw_C p s m args meth c b_Sheet_yOf 2 R_Sheet (some .int) w_Sheet_yOf A) (K : pw_K s D 40 a (cT cA cZ) A) (x1 : Int32) (u : pS) (ls : Array Slot) (hP : va_P D vwCl (cw a cA cZ G u) s.heap) (hl : lv_has ls 2 [(0, .ref (a 9)), (1, .int x1)]) (h : wp_Sheet_yOf G x1 u Q) : W p l e ({ frames := 0, cells := 0, slots := 0, locals := 0 } : Room) s m args below meth c s.heap [] 0 0 (pw_Ei below args s D (cw a cA cZ G) (cT cA cZ) A Q) (F0 m 0 ls []) := by
 obtain ⟨hx, hb, hr, hml, hown, hts, hlocks, hA⟩ := id C
 obtain ⟨hK, hI, hF⟩ := id K
 have hD : ∀ u, va_D A (cw a cA cZ G u) := fun u => cw_D hI hF
 have hS : va_S A s.heap s.heap [] := va_S.rf
 have h : wp_Sheet_yOf G x1 u Q := h
 refine lv_aload_n hx hb d_Sheet_yOf_0 rfl (lv_at hl 0 rfl) ?_
 refine va_get (D := D) (ci := 8) (v := .ref (a 36)) (C := R_Sheet) (T := T_Sheet) (N := 9) hx hb hts in_Sheet hown hK hP 9 cw_at_9 rfl 3 (by decide) (hts _ (List.mem_cons_of_mem _ kw_287)) (fun _ h9 => h9) rfl d_Sheet_yOf_1 ?_
 refine lv_iload_n hx hb d_Sheet_yOf_4 rfl (lv_at hl 1 rfl) ?_
 refine va_iald hx hb hK hP 36 0 cw_at_36 rfl h.1 d_Sheet_yOf_5 ?_
 have h := h.2
 exact W.iret (v := (u.2 22 x1.toNatClampNeg)) hx hb hr (fun t ht hW => ⟨⟨(u.2 22 x1.toNatClampNeg), u, rfl, h, by rw [ht]; exact hP, va_K.moved hW.alike hK⟩, hS.F ht⟩) hS.2.2 d_Sheet_yOf_6 hlocks
set_option maxHeartbeats 4000000 in
set_option maxRecDepth 100000 in
theorem ct_Sheet_yOf (l : Launch) (D : va_G) (a : Nat → Nat) (cA cZ : ClassId) (G : pG) (sz : Nat) (x1 : Int32) (u : pS) (Q : Int32 → pS → Prop) (hI : pw_I 40 a) (h : wp_Sheet_yOf G x1 u Q) : Met l y_Sheet_yOf w_Sheet_yOf ({ frames := 0, cells := 0, slots := 0, locals := 0 } : Room) (va_Pc [.ref (a 9), .int x1] (pw_pre D (cw a cA cZ G) (cT cA cZ) sz u)) (va_Qi (fun (r : Int32) (u : pS) => Q r u) (pw_B D (cw a cA cZ G) (cT cA cZ)) (pw_F 40 a sz)) 0 0 (pw_F 40 a sz) := by
 refine Met.ofW (cc := b_Sheet_yOf) (maxL := 2) (ret := (some .int)) (by decide) rfl ?_
 intro p e s m args below meth c s₁ B hml hv
 obtain ⟨rfl, hsz, hP, hK⟩ := hv
 subst hsz
 have hl := lv_entry ([.ref (a 9), .int x1]) (n := 2) (Nat.le_of_ble_eq_true rfl)
 rw [lg_entry_eq]
 generalize (lg_sl ([.ref (a 9), .int x1]) ++ List.replicate (2 - (lg_sl ([.ref (a 9), .int x1])).length) Slot.unset).toArray = ls at hl ⊢
 exact st_Sheet_yOf (A := (pw_F 40 a s.heap.size)) ⟨B.exec, B.bytes, B.returns, hml, findClass_of_methodNamed B.named, atoms_spec (ws := w_Sheet_yOf) B.pre, B.notSynchronized, fun q hq => Or.inr hq⟩ ⟨hK, hI, fun k hk => Or.inl ⟨k, hk, rfl⟩⟩ x1 u ls hP hl h
set_option maxHeartbeats 4000000 in
set_option maxRecDepth 100000 in
theorem st_Sheet_xOf {p : Program} {l : Launch} {e : Env} {s : State} {m : MethodId} {args : Array Value} {below : List Frame} {meth : Method} {c : Code} {D : va_G} {a : Nat → Nat} {cA cZ : ClassId} {G : pG} {A : Nat → Prop} {Q : Int32 → pS → Prop} (C : pw_C p s m args meth c b_Sheet_xOf 2 R_Sheet (some .int) w_Sheet_xOf A) (K : pw_K s D 40 a (cT cA cZ) A) (x1 : Int32) (u : pS) (ls : Array Slot) (hP : va_P D vwCl (cw a cA cZ G u) s.heap) (hl : lv_has ls 2 [(0, .ref (a 9)), (1, .int x1)]) (h : wp_Sheet_xOf G x1 u Q) : W p l e ({ frames := 0, cells := 0, slots := 0, locals := 0 } : Room) s m args below meth c s.heap [] 0 0 (pw_Ei below args s D (cw a cA cZ G) (cT cA cZ) A Q) (F0 m 0 ls []) := by
 obtain ⟨hx, hb, hr, hml, hown, hts, hlocks, hA⟩ := id C
 obtain ⟨hK, hI, hF⟩ := id K
 have hD : ∀ u, va_D A (cw a cA cZ G u) := fun u => cw_D hI hF
 have hS : va_S A s.heap s.heap [] := va_S.rf
 have h : wp_Sheet_xOf G x1 u Q := h
 refine lv_aload_n hx hb d_Sheet_xOf_0 rfl (lv_at hl 0 rfl) ?_
 refine va_get (D := D) (ci := 8) (v := .ref (a 35)) (C := R_Sheet) (T := T_Sheet) (N := 9) hx hb hts in_Sheet hown hK hP 9 cw_at_9 rfl 2 (by decide) (hts _ (List.mem_cons_of_mem _ kw_286)) (fun _ h9 => h9) rfl d_Sheet_xOf_1 ?_
 refine lv_iload_n hx hb d_Sheet_xOf_4 rfl (lv_at hl 1 rfl) ?_
 refine va_iald hx hb hK hP 35 0 cw_at_35 rfl h.1 d_Sheet_xOf_5 ?_
 have h := h.2
 exact W.iret (v := (u.2 21 x1.toNatClampNeg)) hx hb hr (fun t ht hW => ⟨⟨(u.2 21 x1.toNatClampNeg), u, rfl, h, by rw [ht]; exact hP, va_K.moved hW.alike hK⟩, hS.F ht⟩) hS.2.2 d_Sheet_xOf_6 hlocks
set_option maxHeartbeats 4000000 in
set_option maxRecDepth 100000 in
theorem ct_Sheet_xOf (l : Launch) (D : va_G) (a : Nat → Nat) (cA cZ : ClassId) (G : pG) (sz : Nat) (x1 : Int32) (u : pS) (Q : Int32 → pS → Prop) (hI : pw_I 40 a) (h : wp_Sheet_xOf G x1 u Q) : Met l y_Sheet_xOf w_Sheet_xOf ({ frames := 0, cells := 0, slots := 0, locals := 0 } : Room) (va_Pc [.ref (a 9), .int x1] (pw_pre D (cw a cA cZ G) (cT cA cZ) sz u)) (va_Qi (fun (r : Int32) (u : pS) => Q r u) (pw_B D (cw a cA cZ G) (cT cA cZ)) (pw_F 40 a sz)) 0 0 (pw_F 40 a sz) := by
 refine Met.ofW (cc := b_Sheet_xOf) (maxL := 2) (ret := (some .int)) (by decide) rfl ?_
 intro p e s m args below meth c s₁ B hml hv
 obtain ⟨rfl, hsz, hP, hK⟩ := hv
 subst hsz
 have hl := lv_entry ([.ref (a 9), .int x1]) (n := 2) (Nat.le_of_ble_eq_true rfl)
 rw [lg_entry_eq]
 generalize (lg_sl ([.ref (a 9), .int x1]) ++ List.replicate (2 - (lg_sl ([.ref (a 9), .int x1])).length) Slot.unset).toArray = ls at hl ⊢
 exact st_Sheet_xOf (A := (pw_F 40 a s.heap.size)) ⟨B.exec, B.bytes, B.returns, hml, findClass_of_methodNamed B.named, atoms_spec (ws := w_Sheet_xOf) B.pre, B.notSynchronized, fun q hq => Or.inr hq⟩ ⟨hK, hI, fun k hk => Or.inl ⟨k, hk, rfl⟩⟩ x1 u ls hP hl h
set_option maxHeartbeats 4000000 in
set_option maxRecDepth 100000 in
theorem st_PI_at {p : Program} {l : Launch} {e : Env} {s : State} {m : MethodId} {args : Array Value} {below : List Frame} {meth : Method} {c : Code} {D : va_G} {a : Nat → Nat} {cA cZ : ClassId} {G : pG} {A : Nat → Prop} {Q : Int32 → pS → Prop} {X : Nat → pS → Prop} (C : pw_C p s m args meth c b_PI_at 3 R_PI (some .int) w_PI_at A) (K : pw_K s D 40 a (cT cA cZ) A) (EX : cw_Ex A s) (hL : px_L l) (htr : e.platform.stackTraces = false) (hE : ∀ (pc : Nat), ∀ x ∈ c.exceptionTable.toList, covers x pc = false) (x1 x2 : Int32) (u : pS) (ls : Array Slot) (hP : va_P D vwCl (cw a cA cZ G u) s.heap) (hl : lv_has ls 3 [(0, .ref (a 0)), (1, .int x1), (2, .int x2)]) (h : wp_PI_at G x1 x2 u Q X) : W p l e ({ frames := 8, cells := 1, slots := 6, locals := 124 } : Room) s m args below meth c s.heap [] 0 0 (px_Ei below args s D (cw a cA cZ G) (cT cA cZ) A Q X) (F0 m 0 ls []) := by
 obtain ⟨hx, hb, hr, hml, hown, hts, hlocks, hA⟩ := id C
 obtain ⟨hK, hI, hF⟩ := id K
 have hD : ∀ u, va_D A (cw a cA cZ G u) := fun u => cw_D hI hF
 have hz : ∀ oc t, px_T X (pw_B D (cw a cA cZ G) (cT cA cZ)) oc t → va_F A s t → (px_Qi Q X (pw_B D (cw a cA cZ G) (cT cA cZ)) A) args s oc t := fun oc t h1 h2 => ⟨Or.inr h1, h2⟩
 have hS : va_S A s.heap s.heap [] := va_S.rf
 have h : wp_PI_at G x1 x2 u Q X := h
 refine lv_aload_n hx hb d_PI_at_0 rfl (lv_at hl 0 rfl) ?_
 refine cx_v (px_runV (As := []) (rest := []) ⟨hx, hb, hml, hown, hts⟩ (ct_PI_needNested l D a cA cZ G _  u _ _ hL hI h) (pw_cwV 0 hts kw_798 kw_45 kw_795 kw_797 kw_22 (by decide +kernel) ⟨Nat.le_of_ble_eq_true rfl, Nat.le_of_ble_eq_true rfl⟩) ⟨cw_blindX, va_recv hK hP (ci := 0) (q0 := 0) rfl cw_at_0, fun U hU hW => ⟨rfl, ⟨by rw [hU], by rw [hU]; exact hP, va_K.moved hW.alike hK⟩, cw_Ex_call EX hS (pw_FA hS hF hA) hU hW⟩⟩ rfl rfl hl.1 rfl (lv_room (Nat.le_of_ble_eq_true rfl)) d_PI_at_1 ⟨Nat.le_of_ble_eq_true rfl, Nat.le_of_ble_eq_true rfl⟩) hS hF hA (hE _) hlocks hz (fun u1 H locs hP hS h => ?_)
 refine lv_aload_n hx hb d_PI_at_4 rfl (lv_at hl 0 rfl) ?_
 refine lv_iload_n hx hb d_PI_at_5 rfl (lv_at hl 1 rfl) ?_
 refine cx_v (px_runV (As := [.int x1]) (rest := []) ⟨hx, hb, hml, hown, hts⟩ (ct_PI_needPiece l D a cA cZ G _ x1 u1 _ _ hL hI h) (pw_cwV 1 hts kw_643 kw_45 kw_640 kw_642 kw_13 (by decide +kernel) ⟨Nat.le_of_ble_eq_true rfl, Nat.le_of_ble_eq_true rfl⟩) ⟨cw_blindX, va_recv hK hP (ci := 0) (q0 := 0) rfl cw_at_0, fun U hU hW => ⟨rfl, ⟨by rw [hU], by rw [hU]; exact hP, va_K.moved hW.alike hK⟩, cw_Ex_call EX hS (pw_FA hS hF hA) hU hW⟩⟩ rfl rfl hl.1 rfl (lv_room (Nat.le_of_ble_eq_true rfl)) d_PI_at_6 ⟨Nat.le_of_ble_eq_true rfl, Nat.le_of_ble_eq_true rfl⟩) hS hF hA (hE _) hlocks hz (fun u2 H locs hP hS h => ?_)
 refine lv_iload_n hx hb d_PI_at_9 rfl (lv_at hl 2 rfl) ?_
 refine lv_iconst (v := 2) hx hb d_PI_at_10 (by decide) ?_
 refine cx_v (px_runS (As := [.int x2, .int 2]) (rest := []) ⟨hx, hb, hml, hown, hts⟩ (ct_PI_needIndex l D a cA cZ G _ x2 2 u2 _ _ hL hI h) (pw_cwS 2 hts kw_367 kw_45 kw_365 kw_366 (by decide +kernel) ⟨Nat.le_of_ble_eq_true rfl, Nat.le_of_ble_eq_true rfl⟩) ⟨cw_blindX, fun U hU hW => ⟨rfl, ⟨by rw [hU], by rw [hU]; exact hP, va_K.moved hW.alike hK⟩, cw_Ex_call EX hS (pw_FA hS hF hA) hU hW⟩⟩ rfl rfl hl.1 rfl (lv_room (Nat.le_of_ble_eq_true rfl)) d_PI_at_11 ⟨Nat.le_of_ble_eq_true rfl, Nat.le_of_ble_eq_true rfl⟩) hS hF hA (hE _) hlocks hz (fun u3 H locs hP hS h => ?_)
 refine lv_iload_n hx hb d_PI_at_14 rfl (lv_at hl 2 rfl) ?_
 refine lv_if_ne (tgt := 29) hx hb d_PI_at_15 (by decide) (fun c4 => ?_) (fun c4 => ?_)
 · have h := h.2 c4
   refine lv_aload_n hx hb d_PI_at_29 rfl (lv_at hl 0 rfl) ?_
   refine va_get (D := D) (ci := 0) (v := .ref (a 9)) (C := R_PI) (T := T_PI) (N := 12) hx hb hts in_PI hown hK hP 0 cw_at_0 rfl 9 (by decide) (hts _ (List.mem_cons_of_mem _ kw_321)) (fun _ h9 => h9) rfl d_PI_at_30 ?_
   refine lv_iload_n hx hb d_PI_at_33 rfl (lv_at hl 1 rfl) ?_
   refine cc_i (va_runV (As := [.int x1]) (rest := []) ⟨hx, hb, hml, hown, hts⟩ (ct_Sheet_yOf l D a cA cZ G _ x1 u3 _ hI h) (pw_cwV 1 hts kw_807 kw_55 kw_804 kw_805 kw_806 (by decide +kernel) ⟨Nat.le_of_ble_eq_true rfl, Nat.le_of_ble_eq_true rfl⟩) ⟨pw_blind, va_recv hK hP (ci := 8) (q0 := 9) rfl cw_at_9, fun U hU hW => ⟨rfl, by rw [hU], by rw [hU]; exact hP, va_K.moved hW.alike hK⟩⟩ rfl rfl hl.1 rfl (lv_room (Nat.le_of_ble_eq_true rfl)) d_PI_at_34 ⟨Nat.le_of_ble_eq_true rfl, Nat.le_of_ble_eq_true rfl⟩) hS hF hA (fun r6 u5 H locs hP hS h => ?_)
   exact px_mono (fun t h => px_ofMQ (fun _ _ h => h) h) (W.iret (Qc := px_Qi Q X (pw_B D (cw a cA cZ G) (cT cA cZ)) A) (v := r6) hx hb hr (fun t ht hW => ⟨Or.inl ⟨r6, u5, rfl, h, by rw [ht]; exact hP, va_K.moved hW.alike hK⟩, hS.F ht⟩) hS.2.2 d_PI_at_37 hlocks)
 · have h := h.1 c4
   refine lv_aload_n hx hb d_PI_at_18 rfl (lv_at hl 0 rfl) ?_
   refine va_get (D := D) (ci := 0) (v := .ref (a 9)) (C := R_PI) (T := T_PI) (N := 12) hx hb hts in_PI hown hK hP 0 cw_at_0 rfl 9 (by decide) (hts _ (List.mem_cons_of_mem _ kw_321)) (fun _ h9 => h9) rfl d_PI_at_19 ?_
   refine lv_iload_n hx hb d_PI_at_22 rfl (lv_at hl 1 rfl) ?_
   refine cc_i (va_runV (As := [.int x1]) (rest := []) ⟨hx, hb, hml, hown, hts⟩ (ct_Sheet_xOf l D a cA cZ G _ x1 u3 _ hI h) (pw_cwV 1 hts kw_803 kw_55 kw_800 kw_801 kw_802 (by decide +kernel) ⟨Nat.le_of_ble_eq_true rfl, Nat.le_of_ble_eq_true rfl⟩) ⟨pw_blind, va_recv hK hP (ci := 8) (q0 := 9) rfl cw_at_9, fun U hU hW => ⟨rfl, by rw [hU], by rw [hU]; exact hP, va_K.moved hW.alike hK⟩⟩ rfl rfl hl.1 rfl (lv_room (Nat.le_of_ble_eq_true rfl)) d_PI_at_23 ⟨Nat.le_of_ble_eq_true rfl, Nat.le_of_ble_eq_true rfl⟩) hS hF hA (fun r8 u7 H locs hP hS h => ?_)
   refine lv_goto (tgt := 37) hx hb d_PI_at_26 (by decide) ?_
   exact px_mono (fun t h => px_ofMQ (fun _ _ h => h) h) (W.iret (Qc := px_Qi Q X (pw_B D (cw a cA cZ G) (cT cA cZ)) A) (v := r8) hx hb hr (fun t ht hW => ⟨Or.inl ⟨r8, u7, rfl, h, by rw [ht]; exact hP, va_K.moved hW.alike hK⟩, hS.F ht⟩) hS.2.2 d_PI_at_37 hlocks)
set_option maxHeartbeats 4000000 in
set_option maxRecDepth 100000 in
theorem ct_PI_at (l : Launch) (D : va_G) (a : Nat → Nat) (cA cZ : ClassId) (G : pG) (sz : Nat) (x1 x2 : Int32) (u : pS) (Q : Int32 → pS → Prop) (X : Nat → pS → Prop) (hL : px_L l) (hI : pw_I 40 a) (h : wp_PI_at G x1 x2 u Q X) : px_Met l y_PI_at w_PI_at ({ frames := 8, cells := 1, slots := 6, locals := 124 } : Room) (va_Pc [.ref (a 0), .int x1, .int x2] (fun U => pw_pre D (cw a cA cZ G) (cT cA cZ) sz u U ∧ cw_Ex (pw_F 40 a sz) U)) (px_Qi Q X (pw_B D (cw a cA cZ G) (cT cA cZ)) (pw_F 40 a sz)) 0 0 1 6 (pw_F 40 a sz) := by
 refine px_ofW (cc := b_PI_at) (maxL := 3) (ret := (some .int)) (by decide) rfl ?_
 intro p e s m args below meth c s₁ B hml hE hv
 obtain ⟨rfl, ⟨hsz, hP, hK⟩, EX⟩ := hv
 subst hsz
 have hl := lv_entry ([.ref (a 0), .int x1, .int x2]) (n := 3) (Nat.le_of_ble_eq_true rfl)
 rw [lg_entry_eq]
 generalize (lg_sl ([.ref (a 0), .int x1, .int x2]) ++ List.replicate (3 - (lg_sl ([.ref (a 0), .int x1, .int x2])).length) Slot.unset).toArray = ls at hl ⊢
 exact st_PI_at (A := (pw_F 40 a s.heap.size)) ⟨B.exec, B.bytes, B.returns, hml, findClass_of_methodNamed B.named, atoms_spec (ws := w_PI_at) B.pre, B.notSynchronized, fun q hq => Or.inr hq⟩ ⟨hK, hI, fun k hk => Or.inl ⟨k, hk, rfl⟩⟩ EX hL (hL e B.admits) (px_none hE) x1 x2 u ls hP hl h
set_option maxHeartbeats 4000000 in
set_option maxRecDepth 100000 in
theorem cp_PI_commonDivisor_7 {p : Program} {l : Launch} {e : Env} {s : State} {m : MethodId} {args : Array Value} {below : List Frame} {meth : Method} {c : Code} {D : va_G} {a : Nat → Nat} {cA cZ : ClassId} {G : pG} {A : Nat → Prop} {Q : Int32 → pS → Prop} (C : pw_C p s m args meth c b_PI_commonDivisor 6 R_PI (some .int) w_PI_commonDivisor A) (K : pw_K s D 40 a (cT cA cZ) A) : ∀ (n : Nat), ∀ (x2 x3 x4 : Int32) (u : pS) (H : Heap) (locs : List Loc) (ls : Array Slot), va_P D vwCl (cw a cA cZ G u) H → va_S A s.heap H locs → lv_has ls 6 [(2, .int x2), (3, .int x3), (4, .int x4)] → lp_PI_commonDivisor_7 G Q n x2 x3 x4 u → W p l e ({ frames := 0, cells := 0, slots := 0, locals := 0 } : Room) s m args below meth c H locs 0 0 (pw_Ei below args s D (cw a cA cZ G) (cT cA cZ) A Q) (F0 m 7 ls []) := by
 obtain ⟨hx, hb, hr, hml, hown, hts, hlocks, hA⟩ := id C
 obtain ⟨hK, hI, hF⟩ := id K
 have hD : ∀ u, va_D A (cw a cA cZ G u) := fun u => cw_D hI hF
 intro n
 induction n with
 | zero => intro x2 x3 x4 u H locs ls hP hS hl h; exact h.elim
 | succ n ih =>
   intro x2 x3 x4 u H locs ls hP hS hl h
   refine lv_iload hx hb d_PI_commonDivisor_7 (lv_at hl 2 rfl) ?_
   refine lv_ldc (v := 1000000) hx hb hown (hts _ (List.mem_cons_of_mem _ kw_815)) d_PI_commonDivisor_9 ?_
   refine lv_icmp_ge (tgt := 34) hx hb d_PI_commonDivisor_11 (by decide) (fun c1 => ?_) (fun c1 => ?_)
   · have h := h.1 c1
     refine lv_iload_n hx hb d_PI_commonDivisor_34 rfl (lv_at hl 0 rfl) ?_
     exact W.iret (v := x2) hx hb hr (fun t ht hW => ⟨⟨x2, u, rfl, h, by rw [ht]; exact hP, va_K.moved hW.alike hK⟩, hS.F ht⟩) hS.2.2 d_PI_commonDivisor_35 hlocks
   · have h := h.2 c1
     refine lv_iload_n hx hb d_PI_commonDivisor_14 rfl (lv_at hl 1 rfl) ?_
     refine lv_if_eq (tgt := 34) hx hb d_PI_commonDivisor_15 (by decide) (fun c2 => ?_) (fun c2 => ?_)
     · have h := h.1 c2
       refine lv_iload_n hx hb d_PI_commonDivisor_34 rfl (lv_at hl 0 rfl) ?_
       exact W.iret (v := x2) hx hb hr (fun t ht hW => ⟨⟨x2, u, rfl, h, by rw [ht]; exact hP, va_K.moved hW.alike hK⟩, hS.F ht⟩) hS.2.2 d_PI_commonDivisor_35 hlocks
     · have h := h.2 c2
       refine lv_iload_n hx hb d_PI_commonDivisor_18 rfl (lv_at hl 0 rfl) ?_
       refine lv_iload_n hx hb d_PI_commonDivisor_19 rfl (lv_at hl 1 rfl) ?_
       refine lv_irem hx hb d_PI_commonDivisor_20 h.1 ?_
       have h := h.2
       refine lv_topi (fun t3 et3 => ?_)
       have h := h t3 et3
       refine lv_istore (lv' := [(5, .int t3), (2, .int x2), (3, .int x3), (4, .int x4)]) hx hb d_PI_commonDivisor_21 hl (by decide) rfl (fun ls hl => ?_)
       refine lv_iload_n hx hb d_PI_commonDivisor_23 rfl (lv_at hl 2 rfl) ?_
       refine lv_istore_n (lv' := [(2, .int x3), (5, .int t3), (3, .int x3), (4, .int x4)]) hx hb d_PI_commonDivisor_24 rfl hl (by decide) rfl (fun ls hl => ?_)
       refine lv_iload hx hb d_PI_commonDivisor_25 (lv_at hl 1 rfl) ?_
       refine lv_istore_n (lv' := [(3, .int t3), (2, .int x3), (5, .int t3), (4, .int x4)]) hx hb d_PI_commonDivisor_27 rfl hl (by decide) rfl (fun ls hl => ?_)
       obtain ⟨t4, et4⟩ : ∃ y : Int32, y = x4 + 1 := ⟨_, rfl⟩
       have h := h t4 et4
       refine lv_iinc (v := t4) (lv' := [(4, .int t4), (3, .int t3), (2, .int x3), (5, .int t3)]) hx hb d_PI_commonDivisor_28 hl (k := 3) rfl (by rw [et4]; rfl) (by decide) rfl (fun ls hl => ?_)
       refine lv_goto (tgt := 7) hx hb d_PI_commonDivisor_31 (by decide) ?_
       exact ih x3 t3 t4 u _ _ _ hP hS (lv_sub hl [2, 1, 0] rfl) h
set_option maxHeartbeats 4000000 in
set_option maxRecDepth 100000 in
theorem st_PI_commonDivisor {p : Program} {l : Launch} {e : Env} {s : State} {m : MethodId} {args : Array Value} {below : List Frame} {meth : Method} {c : Code} {D : va_G} {a : Nat → Nat} {cA cZ : ClassId} {G : pG} {A : Nat → Prop} {Q : Int32 → pS → Prop} (C : pw_C p s m args meth c b_PI_commonDivisor 6 R_PI (some .int) w_PI_commonDivisor A) (K : pw_K s D 40 a (cT cA cZ) A) (x0 x1 : Int32) (u : pS) (ls : Array Slot) (hP : va_P D vwCl (cw a cA cZ G u) s.heap) (hl : lv_has ls 6 [(0, .int x0), (1, .int x1)]) (h : wp_PI_commonDivisor G x0 x1 u Q) : W p l e ({ frames := 0, cells := 0, slots := 0, locals := 0 } : Room) s m args below meth c s.heap [] 0 0 (pw_Ei below args s D (cw a cA cZ G) (cT cA cZ) A Q) (F0 m 0 ls []) := by
 obtain ⟨hx, hb, hr, hml, hown, hts, hlocks, hA⟩ := id C
 obtain ⟨hK, hI, hF⟩ := id K
 have hD : ∀ u, va_D A (cw a cA cZ G u) := fun u => cw_D hI hF
 have hS : va_S A s.heap s.heap [] := va_S.rf
 have h : wp_PI_commonDivisor G x0 x1 u Q := h
 refine lv_iload_n hx hb d_PI_commonDivisor_0 rfl (lv_at hl 0 rfl) ?_
 refine lv_istore_n (lv' := [(2, .int x0), (0, .int x0), (1, .int x1)]) hx hb d_PI_commonDivisor_1 rfl hl (by decide) rfl (fun ls hl => ?_)
 refine lv_iload_n hx hb d_PI_commonDivisor_2 rfl (lv_at hl 2 rfl) ?_
 refine lv_istore_n (lv' := [(3, .int x1), (2, .int x0), (0, .int x0), (1, .int x1)]) hx hb d_PI_commonDivisor_3 rfl hl (by decide) rfl (fun ls hl => ?_)
 refine lv_iconst (v := 0) hx hb d_PI_commonDivisor_4 (by decide) ?_
 refine lv_istore (lv' := [(4, .int 0), (3, .int x1), (2, .int x0), (0, .int x0), (1, .int x1)]) hx hb d_PI_commonDivisor_5 hl (by decide) rfl (fun ls hl => ?_)
 obtain ⟨n1, h⟩ := h
 exact cp_PI_commonDivisor_7 C K n1 x0 x1 0 u _ _ _ hP hS (lv_sub hl [2, 1, 0] rfl) h
set_option maxHeartbeats 4000000 in
set_option maxRecDepth 100000 in
theorem ct_PI_commonDivisor (l : Launch) (D : va_G) (a : Nat → Nat) (cA cZ : ClassId) (G : pG) (sz : Nat) (x0 x1 : Int32) (u : pS) (Q : Int32 → pS → Prop) (hI : pw_I 40 a) (h : wp_PI_commonDivisor G x0 x1 u Q) : Met l y_PI_commonDivisor w_PI_commonDivisor ({ frames := 0, cells := 0, slots := 0, locals := 0 } : Room) (va_Pc [.int x0, .int x1] (pw_pre D (cw a cA cZ G) (cT cA cZ) sz u)) (va_Qi (fun (r : Int32) (u : pS) => Q r u) (pw_B D (cw a cA cZ G) (cT cA cZ)) (pw_F 40 a sz)) 0 0 (pw_F 40 a sz) := by
 refine Met.ofW (cc := b_PI_commonDivisor) (maxL := 6) (ret := (some .int)) (by decide) rfl ?_
 intro p e s m args below meth c s₁ B hml hv
 obtain ⟨rfl, hsz, hP, hK⟩ := hv
 subst hsz
 have hl := lv_entry ([.int x0, .int x1]) (n := 6) (Nat.le_of_ble_eq_true rfl)
 rw [lg_entry_eq]
 generalize (lg_sl ([.int x0, .int x1]) ++ List.replicate (6 - (lg_sl ([.int x0, .int x1])).length) Slot.unset).toArray = ls at hl ⊢
 exact st_PI_commonDivisor (A := (pw_F 40 a s.heap.size)) ⟨B.exec, B.bytes, B.returns, hml, findClass_of_methodNamed B.named, atoms_spec (ws := w_PI_commonDivisor) B.pre, B.notSynchronized, fun q hq => Or.inr hq⟩ ⟨hK, hI, fun k hk => Or.inl ⟨k, hk, rfl⟩⟩ x0 x1 u ls hP hl h
end
section
set_option maxHeartbeats 4000000 in
set_option maxRecDepth 100000 in
theorem cp_PI_border_54 {p : Program} {l : Launch} {e : Env} {s : State} {m : MethodId} {args : Array Value} {below : List Frame} {meth : Method} {c : Code} {D : va_G} {a : Nat → Nat} {cA cZ : ClassId} {G : pG} {A : Nat → Prop} {Q : Int32 → pS → Prop} {X : Nat → pS → Prop} (C : pw_C p s m args meth c b_PI_border 9 R_PI (some .int) w_PI_border A) (K : pw_K s D 40 a (cT cA cZ) A) (EX : cw_Ex A s) (hL : px_L l) (htr : e.platform.stackTraces = false) (hE : ∀ (pc : Nat), ∀ x ∈ c.exceptionTable.toList, covers x pc = false) : ∀ (x3 x4 y2 : Int32) (u : pS) (H : Heap) (locs : List Loc) (ls : Array Slot), va_P D vwCl (cw a cA cZ G u) H → va_S A s.heap H locs → lv_has ls 9 [(3, .int x3), (4, .int x4)] → jn_PI_border_54 G Q X x3 x4 y2 u → W p l e ({ frames := 7, cells := 1, slots := 6, locals := 104 } : Room) s m args below meth c H locs 0 0 (px_Ei below args s D (cw a cA cZ G) (cT cA cZ) A Q X) (F0 m 54 ls [.int y2]) := by
 obtain ⟨hx, hb, hr, hml, hown, hts, hlocks, hA⟩ := id C
 obtain ⟨hK, hI, hF⟩ := id K
 have hD : ∀ u, va_D A (cw a cA cZ G u) := fun u => cw_D hI hF
 have hz : ∀ oc t, px_T X (pw_B D (cw a cA cZ G) (cT cA cZ)) oc t → va_F A s t → (px_Qi Q X (pw_B D (cw a cA cZ G) (cT cA cZ)) A) args s oc t := fun oc t h1 h2 => ⟨Or.inr h1, h2⟩
 intro x3 x4 y2 u H locs ls hP hS hl h
 refine lv_istore (lv' := [(5, .int y2), (3, .int x3), (4, .int x4)]) hx hb d_PI_border_54 hl (by decide) rfl (fun ls hl => ?_)
 refine lv_iload hx hb d_PI_border_56 (lv_at hl 2 rfl) ?_
 refine lv_iconst (v := 1) hx hb d_PI_border_58 (by decide) ?_
 refine va_mmax hx hb (by rw [hml]; exact hl.1.symm) hown (hts _ (List.mem_cons_of_mem _ kw_82)) (hts _ (List.mem_cons_of_mem _ kw_83)) (hts _ (List.mem_cons_of_mem _ kw_47)) (hts _ (List.mem_cons_of_mem _ kw_84)) (Nat.le_of_ble_eq_true rfl) (Nat.le_of_ble_eq_true rfl) (Nat.le_of_ble_eq_true rfl) (Nat.le_of_ble_eq_true rfl) d_PI_border_59 ?_
 refine lv_topi (fun t7 et7 => ?_)
 have h := h t7 et7
 refine lv_istore (lv' := [(6, .int t7), (5, .int y2), (3, .int x3), (4, .int x4)]) hx hb d_PI_border_62 hl (by decide) rfl (fun ls hl => ?_)
 refine lv_iload hx hb d_PI_border_64 (lv_at hl 0 rfl) ?_
 refine lv_iload hx hb d_PI_border_66 (lv_at hl 1 rfl) ?_
 refine cc_i (va_runS (As := [.int t7, .int y2]) (rest := []) ⟨hx, hb, hml, hown, hts⟩ (ct_PI_commonDivisor l D a cA cZ G _ t7 y2 u _ hI h) (pw_cwS 2 hts kw_818 kw_45 kw_816 kw_817 (by decide +kernel) ⟨Nat.le_of_ble_eq_true rfl, Nat.le_of_ble_eq_true rfl⟩) ⟨pw_blind, fun U hU hW => ⟨rfl, by rw [hU], by rw [hU]; exact hP, va_K.moved hW.alike hK⟩⟩ rfl rfl hl.1 rfl (lv_room (Nat.le_of_ble_eq_true rfl)) d_PI_border_68 ⟨Nat.le_of_ble_eq_true rfl, Nat.le_of_ble_eq_true rfl⟩) hS hF hA (fun r9 u8 H locs hP hS h => ?_)
 refine lv_istore (lv' := [(7, .int r9), (6, .int t7), (5, .int y2), (3, .int x3), (4, .int x4)]) hx hb d_PI_border_71 hl (by decide) rfl (fun ls hl => ?_)
 refine lv_iload_n hx hb d_PI_border_73 rfl (lv_at hl 3 rfl) ?_
 refine lv_iconst (v := 1) hx hb d_PI_border_74 (by decide) ?_
 refine lv_icmp_ne (tgt := 83) hx hb d_PI_border_75 (by decide) (fun c10 => ?_) (fun c10 => ?_)
 · have h := h.2 c10
   refine lv_iload hx hb d_PI_border_83 (lv_at hl 1 rfl) ?_
   refine lv_istore (lv' := [(8, .int t7), (7, .int r9), (6, .int t7), (5, .int y2), (3, .int x3), (4, .int x4)]) hx hb d_PI_border_85 hl (by decide) rfl (fun ls hl => ?_)
   refine lv_iload hx hb d_PI_border_87 (lv_at hl 1 rfl) ?_
   refine lv_if_le (tgt := 100) hx hb d_PI_border_89 (by decide) (fun c11 => ?_) (fun c11 => ?_)
   · have h := h.1 c11
     refine lv_iload hx hb d_PI_border_100 (lv_at hl 0 rfl) ?_
     exact px_mono (fun t h => px_ofMQ (fun _ _ h => h) h) (W.iret (Qc := px_Qi Q X (pw_B D (cw a cA cZ G) (cT cA cZ)) A) (v := t7) hx hb hr (fun t ht hW => ⟨Or.inl ⟨t7, u8, rfl, h, by rw [ht]; exact hP, va_K.moved hW.alike hK⟩, hS.F ht⟩) hS.2.2 d_PI_border_102 hlocks)
   · have h := h.2 c11
     refine lv_iload hx hb d_PI_border_92 (lv_at hl 0 rfl) ?_
     refine lv_iload hx hb d_PI_border_94 (lv_at hl 1 rfl) ?_
     refine lv_idiv hx hb d_PI_border_96 h.1 ?_
     have h := h.2
     refine lv_goto (tgt := 102) hx hb d_PI_border_97 (by decide) ?_
     exact px_mono (fun t h => px_ofMQ (fun _ _ h => h) h) (W.iret (Qc := px_Qi Q X (pw_B D (cw a cA cZ G) (cT cA cZ)) A) (v := (t7 / r9)) hx hb hr (fun t ht hW => ⟨Or.inl ⟨(t7 / r9), u8, rfl, h, by rw [ht]; exact hP, va_K.moved hW.alike hK⟩, hS.F ht⟩) hS.2.2 d_PI_border_102 hlocks)
 · have h := h.1 c10
   refine lv_iload hx hb d_PI_border_78 (lv_at hl 2 rfl) ?_
   refine lv_goto (tgt := 85) hx hb d_PI_border_80 (by decide) ?_
   refine lv_istore (lv' := [(8, .int y2), (7, .int r9), (6, .int t7), (5, .int y2), (3, .int x3), (4, .int x4)]) hx hb d_PI_border_85 hl (by decide) rfl (fun ls hl => ?_)
   refine lv_iload hx hb d_PI_border_87 (lv_at hl 1 rfl) ?_
   refine lv_if_le (tgt := 100) hx hb d_PI_border_89 (by decide) (fun c12 => ?_) (fun c12 => ?_)
   · have h := h.1 c12
     refine lv_iload hx hb d_PI_border_100 (lv_at hl 0 rfl) ?_
     exact px_mono (fun t h => px_ofMQ (fun _ _ h => h) h) (W.iret (Qc := px_Qi Q X (pw_B D (cw a cA cZ G) (cT cA cZ)) A) (v := y2) hx hb hr (fun t ht hW => ⟨Or.inl ⟨y2, u8, rfl, h, by rw [ht]; exact hP, va_K.moved hW.alike hK⟩, hS.F ht⟩) hS.2.2 d_PI_border_102 hlocks)
   · have h := h.2 c12
     refine lv_iload hx hb d_PI_border_92 (lv_at hl 0 rfl) ?_
     refine lv_iload hx hb d_PI_border_94 (lv_at hl 1 rfl) ?_
     refine lv_idiv hx hb d_PI_border_96 h.1 ?_
     have h := h.2
     refine lv_goto (tgt := 102) hx hb d_PI_border_97 (by decide) ?_
     exact px_mono (fun t h => px_ofMQ (fun _ _ h => h) h) (W.iret (Qc := px_Qi Q X (pw_B D (cw a cA cZ G) (cT cA cZ)) A) (v := (y2 / r9)) hx hb hr (fun t ht hW => ⟨Or.inl ⟨(y2 / r9), u8, rfl, h, by rw [ht]; exact hP, va_K.moved hW.alike hK⟩, hS.F ht⟩) hS.2.2 d_PI_border_102 hlocks)
set_option maxHeartbeats 4000000 in
set_option maxRecDepth 100000 in
theorem cp_PI_border_30 {p : Program} {l : Launch} {e : Env} {s : State} {m : MethodId} {args : Array Value} {below : List Frame} {meth : Method} {c : Code} {D : va_G} {a : Nat → Nat} {cA cZ : ClassId} {G : pG} {A : Nat → Prop} {Q : Int32 → pS → Prop} {X : Nat → pS → Prop} (C : pw_C p s m args meth c b_PI_border 9 R_PI (some .int) w_PI_border A) (K : pw_K s D 40 a (cT cA cZ) A) (EX : cw_Ex A s) (hL : px_L l) (htr : e.platform.stackTraces = false) (hE : ∀ (pc : Nat), ∀ x ∈ c.exceptionTable.toList, covers x pc = false) : ∀ (x1 x2 x3 y3 : Int32) (u : pS) (H : Heap) (locs : List Loc) (ls : Array Slot), va_P D vwCl (cw a cA cZ G u) H → va_S A s.heap H locs → lv_has ls 9 [(1, .int x1), (2, .int x2), (3, .int x3)] → jn_PI_border_30 G Q X x1 x2 x3 y3 u → W p l e ({ frames := 7, cells := 1, slots := 6, locals := 104 } : Room) s m args below meth c H locs 0 0 (px_Ei below args s D (cw a cA cZ G) (cT cA cZ) A Q X) (F0 m 30 ls [.int y3]) := by
 obtain ⟨hx, hb, hr, hml, hown, hts, hlocks, hA⟩ := id C
 obtain ⟨hK, hI, hF⟩ := id K
 have hD : ∀ u, va_D A (cw a cA cZ G u) := fun u => cw_D hI hF
 have hz : ∀ oc t, px_T X (pw_B D (cw a cA cZ G) (cT cA cZ)) oc t → va_F A s t → (px_Qi Q X (pw_B D (cw a cA cZ G) (cT cA cZ)) A) args s oc t := fun oc t h1 h2 => ⟨Or.inr h1, h2⟩
 intro x1 x2 x3 y3 u H locs ls hP hS hl h
 refine lv_istore (lv' := [(4, .int y3), (1, .int x1), (2, .int x2), (3, .int x3)]) hx hb d_PI_border_30 hl (by decide) rfl (fun ls hl => ?_)
 refine lv_iload_n hx hb d_PI_border_32 rfl (lv_at hl 3 rfl) ?_
 refine lv_if_ne (tgt := 39) hx hb d_PI_border_33 (by decide) (fun c5 => ?_) (fun c5 => ?_)
 · have h := h.2 c5
   refine lv_iload hx hb d_PI_border_39 (lv_at hl 0 rfl) ?_
   refine lv_if_le (tgt := 53) hx hb d_PI_border_41 (by decide) (fun c6 => ?_) (fun c6 => ?_)
   · have h := h.1 c6
     refine lv_iconst (v := 0) hx hb d_PI_border_53 (by decide) ?_
     exact cp_PI_border_54 C K EX hL htr hE x3 y3 0 u _ _ _ hP hS (lv_sub hl [3, 0] rfl) h
   · have h := h.2 c6
     refine lv_iload_n hx hb d_PI_border_44 rfl (lv_at hl 1 rfl) ?_
     refine lv_iload hx hb d_PI_border_45 (lv_at hl 0 rfl) ?_
     refine lv_iload_n hx hb d_PI_border_47 rfl (lv_at hl 2 rfl) ?_
     refine lv_imul hx hb d_PI_border_48 ?_
     refine lv_isub hx hb d_PI_border_49 ?_
     refine lv_goto (tgt := 54) hx hb d_PI_border_50 (by decide) ?_
     exact cp_PI_border_54 C K EX hL htr hE x3 y3 (x1 - (y3 * x2)) u _ _ _ hP hS (lv_sub hl [3, 0] rfl) h
 · have h := h.1 c5
   refine lv_iload hx hb d_PI_border_36 (lv_at hl 0 rfl) ?_
   exact px_mono (fun t h => px_ofMQ (fun _ _ h => h) h) (W.iret (Qc := px_Qi Q X (pw_B D (cw a cA cZ G) (cT cA cZ)) A) (v := y3) hx hb hr (fun t ht hW => ⟨Or.inl ⟨y3, u, rfl, h, by rw [ht]; exact hP, va_K.moved hW.alike hK⟩, hS.F ht⟩) hS.2.2 d_PI_border_38 hlocks)
set_option maxHeartbeats 4000000 in
set_option maxRecDepth 100000 in
theorem st_PI_border {p : Program} {l : Launch} {e : Env} {s : State} {m : MethodId} {args : Array Value} {below : List Frame} {meth : Method} {c : Code} {D : va_G} {a : Nat → Nat} {cA cZ : ClassId} {G : pG} {A : Nat → Prop} {Q : Int32 → pS → Prop} {X : Nat → pS → Prop} (C : pw_C p s m args meth c b_PI_border 9 R_PI (some .int) w_PI_border A) (K : pw_K s D 40 a (cT cA cZ) A) (EX : cw_Ex A s) (hL : px_L l) (htr : e.platform.stackTraces = false) (hE : ∀ (pc : Nat), ∀ x ∈ c.exceptionTable.toList, covers x pc = false) (x1 x2 x3 : Int32) (u : pS) (ls : Array Slot) (hP : va_P D vwCl (cw a cA cZ G u) s.heap) (hl : lv_has ls 9 [(0, .ref (a 0)), (1, .int x1), (2, .int x2), (3, .int x3)]) (h : wp_PI_border G x1 x2 x3 u Q X) : W p l e ({ frames := 7, cells := 1, slots := 6, locals := 104 } : Room) s m args below meth c s.heap [] 0 0 (px_Ei below args s D (cw a cA cZ G) (cT cA cZ) A Q X) (F0 m 0 ls []) := by
 obtain ⟨hx, hb, hr, hml, hown, hts, hlocks, hA⟩ := id C
 obtain ⟨hK, hI, hF⟩ := id K
 have hD : ∀ u, va_D A (cw a cA cZ G u) := fun u => cw_D hI hF
 have hz : ∀ oc t, px_T X (pw_B D (cw a cA cZ G) (cT cA cZ)) oc t → va_F A s t → (px_Qi Q X (pw_B D (cw a cA cZ G) (cT cA cZ)) A) args s oc t := fun oc t h1 h2 => ⟨Or.inr h1, h2⟩
 have hS : va_S A s.heap s.heap [] := va_S.rf
 have h : wp_PI_border G x1 x2 x3 u Q X := h
 refine lv_iload_n hx hb d_PI_border_0 rfl (lv_at hl 3 rfl) ?_
 refine lv_iconst (v := 3) hx hb d_PI_border_1 (by decide) ?_
 refine cx_v (px_runS (As := [.int x3, .int 3]) (rest := []) ⟨hx, hb, hml, hown, hts⟩ (ct_PI_needIndex l D a cA cZ G _ x3 3 u _ _ hL hI h) (pw_cwS 2 hts kw_367 kw_45 kw_365 kw_366 (by decide +kernel) ⟨Nat.le_of_ble_eq_true rfl, Nat.le_of_ble_eq_true rfl⟩) ⟨cw_blindX, fun U hU hW => ⟨rfl, ⟨by rw [hU], by rw [hU]; exact hP, va_K.moved hW.alike hK⟩, cw_Ex_call EX hS (pw_FA hS hF hA) hU hW⟩⟩ rfl rfl hl.1 rfl (lv_room (Nat.le_of_ble_eq_true rfl)) d_PI_border_2 ⟨Nat.le_of_ble_eq_true rfl, Nat.le_of_ble_eq_true rfl⟩) hS hF hA (hE _) hlocks hz (fun u1 H locs hP hS h => ?_)
 refine lv_iload_n hx hb d_PI_border_5 rfl (lv_at hl 1 rfl) ?_
 refine lv_iconst (v := 1) hx hb d_PI_border_6 (by decide) ?_
 refine lv_ldc (v := 1000000) hx hb hown (hts _ (List.mem_cons_of_mem _ kw_815)) d_PI_border_7 ?_
 refine cx_v (px_runS (As := [.int x1, .int 1, .int 1000000]) (rest := []) ⟨hx, hb, hml, hown, hts⟩ (ct_PI_needNumber l D a cA cZ G _ x1 1 1000000 u1 _ _ hL hI h) (pw_cwS 3 hts kw_441 kw_45 kw_439 kw_440 (by decide +kernel) ⟨Nat.le_of_ble_eq_true rfl, Nat.le_of_ble_eq_true rfl⟩) ⟨cw_blindX, fun U hU hW => ⟨rfl, ⟨by rw [hU], by rw [hU]; exact hP, va_K.moved hW.alike hK⟩, cw_Ex_call EX hS (pw_FA hS hF hA) hU hW⟩⟩ rfl rfl hl.1 rfl (lv_room (Nat.le_of_ble_eq_true rfl)) d_PI_border_9 ⟨Nat.le_of_ble_eq_true rfl, Nat.le_of_ble_eq_true rfl⟩) hS hF hA (hE _) hlocks hz (fun u2 H locs hP hS h => ?_)
 refine lv_iload_n hx hb d_PI_border_12 rfl (lv_at hl 2 rfl) ?_
 refine lv_iconst (v := 1) hx hb d_PI_border_13 (by decide) ?_
 refine lv_ldc (v := 1000000) hx hb hown (hts _ (List.mem_cons_of_mem _ kw_815)) d_PI_border_14 ?_
 refine cx_v (px_runS (As := [.int x2, .int 1, .int 1000000]) (rest := []) ⟨hx, hb, hml, hown, hts⟩ (ct_PI_needNumber l D a cA cZ G _ x2 1 1000000 u2 _ _ hL hI h) (pw_cwS 3 hts kw_441 kw_45 kw_439 kw_440 (by decide +kernel) ⟨Nat.le_of_ble_eq_true rfl, Nat.le_of_ble_eq_true rfl⟩) ⟨cw_blindX, fun U hU hW => ⟨rfl, ⟨by rw [hU], by rw [hU]; exact hP, va_K.moved hW.alike hK⟩, cw_Ex_call EX hS (pw_FA hS hF hA) hU hW⟩⟩ rfl rfl hl.1 rfl (lv_room (Nat.le_of_ble_eq_true rfl)) d_PI_border_16 ⟨Nat.le_of_ble_eq_true rfl, Nat.le_of_ble_eq_true rfl⟩) hS hF hA (hE _) hlocks hz (fun u3 H locs hP hS h => ?_)
 refine lv_iload_n hx hb d_PI_border_19 rfl (lv_at hl 2 rfl) ?_
 refine lv_if_le (tgt := 29) hx hb d_PI_border_20 (by decide) (fun c4 => ?_) (fun c4 => ?_)
 · have h := h.1 c4
   refine lv_iconst (v := 0) hx hb d_PI_border_29 (by decide) ?_
   exact cp_PI_border_30 C K EX hL htr hE x1 x2 x3 0 u3 _ _ _ hP hS (lv_sub hl [1, 2, 3] rfl) h
 · have h := h.2 c4
   refine lv_iload_n hx hb d_PI_border_23 rfl (lv_at hl 1 rfl) ?_
   refine lv_iload_n hx hb d_PI_border_24 rfl (lv_at hl 2 rfl) ?_
   refine lv_idiv hx hb d_PI_border_25 h.1 ?_
   have h := h.2
   refine lv_goto (tgt := 30) hx hb d_PI_border_26 (by decide) ?_
   exact cp_PI_border_30 C K EX hL htr hE x1 x2 x3 (x1 / x2) u3 _ _ _ hP hS (lv_sub hl [1, 2, 3] rfl) h
set_option maxHeartbeats 4000000 in
set_option maxRecDepth 100000 in
theorem ct_PI_border (l : Launch) (D : va_G) (a : Nat → Nat) (cA cZ : ClassId) (G : pG) (sz : Nat) (x1 x2 x3 : Int32) (u : pS) (Q : Int32 → pS → Prop) (X : Nat → pS → Prop) (hL : px_L l) (hI : pw_I 40 a) (h : wp_PI_border G x1 x2 x3 u Q X) : px_Met l y_PI_border w_PI_border ({ frames := 7, cells := 1, slots := 6, locals := 104 } : Room) (va_Pc [.ref (a 0), .int x1, .int x2, .int x3] (fun U => pw_pre D (cw a cA cZ G) (cT cA cZ) sz u U ∧ cw_Ex (pw_F 40 a sz) U)) (px_Qi Q X (pw_B D (cw a cA cZ G) (cT cA cZ)) (pw_F 40 a sz)) 0 0 1 6 (pw_F 40 a sz) := by
 refine px_ofW (cc := b_PI_border) (maxL := 9) (ret := (some .int)) (by decide) rfl ?_
 intro p e s m args below meth c s₁ B hml hE hv
 obtain ⟨rfl, ⟨hsz, hP, hK⟩, EX⟩ := hv
 subst hsz
 have hl := lv_entry ([.ref (a 0), .int x1, .int x2, .int x3]) (n := 9) (Nat.le_of_ble_eq_true rfl)
 rw [lg_entry_eq]
 generalize (lg_sl ([.ref (a 0), .int x1, .int x2, .int x3]) ++ List.replicate (9 - (lg_sl ([.ref (a 0), .int x1, .int x2, .int x3])).length) Slot.unset).toArray = ls at hl ⊢
 exact st_PI_border (A := (pw_F 40 a s.heap.size)) ⟨B.exec, B.bytes, B.returns, hml, findClass_of_methodNamed B.named, atoms_spec (ws := w_PI_border) B.pre, B.notSynchronized, fun q hq => Or.inr hq⟩ ⟨hK, hI, fun k hk => Or.inl ⟨k, hk, rfl⟩⟩ EX hL (hL e B.admits) (px_none hE) x1 x2 x3 u ls hP hl h
set_option maxHeartbeats 4000000 in
set_option maxRecDepth 100000 in
theorem st_Colours_brightness_woods {p : Program} {l : Launch} {e : Env} {s : State} {m : MethodId} {args : Array Value} {below : List Frame} {meth : Method} {c : Code} {D : va_G} {a : Nat → Nat} {cA cZ : ClassId} {G : pG} {A : Nat → Prop} {Q : Int32 → pS → Prop} (C : pw_C p s m args meth c b_Colours_brightness 2 R_Colours (some .int) w_Colours_brightness A) (K : pw_K s D 40 a (cT cA cZ) A) (x1 : Int32) (u : pS) (ls : Array Slot) (hP : va_P D vwCl (cw a cA cZ G u) s.heap) (hl : lv_has ls 2 [(0, .ref (a 3)), (1, .int x1)]) (h : wp_Colours_brightness_woods G x1 u Q) : W p l e ({ frames := 0, cells := 0, slots := 0, locals := 0 } : Room) s m args below meth c s.heap [] 0 0 (pw_Ei below args s D (cw a cA cZ G) (cT cA cZ) A Q) (F0 m 0 ls []) := by
 obtain ⟨hx, hb, hr, hml, hown, hts, hlocks, hA⟩ := id C
 obtain ⟨hK, hI, hF⟩ := id K
 have hD : ∀ u, va_D A (cw a cA cZ G u) := fun u => cw_D hI hF
 have hS : va_S A s.heap s.heap [] := va_S.rf
 have h : wp_Colours_brightness_woods G x1 u Q := h
 refine lv_iconst (v := 2) hx hb d_Colours_brightness_0 (by decide) ?_
 refine lv_aload_n hx hb d_Colours_brightness_1 rfl (lv_at hl 0 rfl) ?_
 refine va_get (D := D) (ci := 3) (v := .ref (a 17)) (C := R_Colours) (T := T_Colours) (N := 3) hx hb hts in_Colours hown hK hP 3 cw_at_3 rfl 0 (by decide) (hts _ (List.mem_cons_of_mem _ kw_135)) (fun _ h9 => h9) rfl d_Colours_brightness_2 ?_
 refine lv_iload_n hx hb d_Colours_brightness_5 rfl (lv_at hl 1 rfl) ?_
 refine va_iald hx hb hK hP 17 0 cw_at_17 rfl h.1 d_Colours_brightness_6 ?_
 have h := h.2
 refine lv_imul hx hb d_Colours_brightness_7 ?_
 refine lv_iconst (v := 5) hx hb d_Colours_brightness_8 (by decide) ?_
 refine lv_aload_n hx hb d_Colours_brightness_9 rfl (lv_at hl 0 rfl) ?_
 refine va_get (D := D) (ci := 3) (v := .ref (a 18)) (C := R_Colours) (T := T_Colours) (N := 3) hx hb hts in_Colours hown hK hP 3 cw_at_3 rfl 1 (by decide) (hts _ (List.mem_cons_of_mem _ kw_136)) (fun _ h9 => h9) rfl d_Colours_brightness_10 ?_
 refine lv_iload_n hx hb d_Colours_brightness_13 rfl (lv_at hl 1 rfl) ?_
 refine va_iald hx hb hK hP 18 0 cw_at_18 rfl h.1 d_Colours_brightness_14 ?_
 have h := h.2
 refine lv_imul hx hb d_Colours_brightness_15 ?_
 refine lv_iadd hx hb d_Colours_brightness_16 ?_
 refine lv_aload_n hx hb d_Colours_brightness_17 rfl (lv_at hl 0 rfl) ?_
 refine va_get (D := D) (ci := 3) (v := .ref (a 19)) (C := R_Colours) (T := T_Colours) (N := 3) hx hb hts in_Colours hown hK hP 3 cw_at_3 rfl 2 (by decide) (hts _ (List.mem_cons_of_mem _ kw_137)) (fun _ h9 => h9) rfl d_Colours_brightness_18 ?_
 refine lv_iload_n hx hb d_Colours_brightness_21 rfl (lv_at hl 1 rfl) ?_
 refine va_iald hx hb hK hP 19 0 cw_at_19 rfl h.1 d_Colours_brightness_22 ?_
 have h := h.2
 refine lv_iadd hx hb d_Colours_brightness_23 ?_
 exact W.iret (v := (((2 * (u.2 3 x1.toNatClampNeg)) + (5 * (u.2 4 x1.toNatClampNeg))) + (u.2 5 x1.toNatClampNeg))) hx hb hr (fun t ht hW => ⟨⟨(((2 * (u.2 3 x1.toNatClampNeg)) + (5 * (u.2 4 x1.toNatClampNeg))) + (u.2 5 x1.toNatClampNeg)), u, rfl, h, by rw [ht]; exact hP, va_K.moved hW.alike hK⟩, hS.F ht⟩) hS.2.2 d_Colours_brightness_24 hlocks
set_option maxHeartbeats 4000000 in
set_option maxRecDepth 100000 in
theorem ct_Colours_brightness_woods (l : Launch) (D : va_G) (a : Nat → Nat) (cA cZ : ClassId) (G : pG) (sz : Nat) (x1 : Int32) (u : pS) (Q : Int32 → pS → Prop) (hI : pw_I 40 a) (h : wp_Colours_brightness_woods G x1 u Q) : Met l y_Colours_brightness w_Colours_brightness ({ frames := 0, cells := 0, slots := 0, locals := 0 } : Room) (va_Pc [.ref (a 3), .int x1] (pw_pre D (cw a cA cZ G) (cT cA cZ) sz u)) (va_Qi (fun (r : Int32) (u : pS) => Q r u) (pw_B D (cw a cA cZ G) (cT cA cZ)) (pw_F 40 a sz)) 0 0 (pw_F 40 a sz) := by
 refine Met.ofW (cc := b_Colours_brightness) (maxL := 2) (ret := (some .int)) (by decide) rfl ?_
 intro p e s m args below meth c s₁ B hml hv
 obtain ⟨rfl, hsz, hP, hK⟩ := hv
 subst hsz
 have hl := lv_entry ([.ref (a 3), .int x1]) (n := 2) (Nat.le_of_ble_eq_true rfl)
 rw [lg_entry_eq]
 generalize (lg_sl ([.ref (a 3), .int x1]) ++ List.replicate (2 - (lg_sl ([.ref (a 3), .int x1])).length) Slot.unset).toArray = ls at hl ⊢
 exact st_Colours_brightness_woods (A := (pw_F 40 a s.heap.size)) ⟨B.exec, B.bytes, B.returns, hml, findClass_of_methodNamed B.named, atoms_spec (ws := w_Colours_brightness) B.pre, B.notSynchronized, fun q hq => Or.inr hq⟩ ⟨hK, hI, fun k hk => Or.inl ⟨k, hk, rfl⟩⟩ x1 u ls hP hl h
set_option maxHeartbeats 4000000 in
set_option maxRecDepth 100000 in
theorem st_Brightest_compare {p : Program} {l : Launch} {e : Env} {s : State} {m : MethodId} {args : Array Value} {below : List Frame} {meth : Method} {c : Code} {D : va_G} {a : Nat → Nat} {cA cZ : ClassId} {G : pG} {A : Nat → Prop} {Q : Int32 → pS → Prop} (C : pw_C p s m args meth c b_Brightest_compare 3 R_Brightest (some .int) w_Brightest_compare A) (K : pw_K s D 40 a (cT cA cZ) A) (x1 x2 : Int32) (u : pS) (ls : Array Slot) (hP : va_P D vwCl (cw a cA cZ G u) s.heap) (hl : lv_has ls 3 [(0, .ref (a 5)), (1, .int x1), (2, .int x2)]) (h : wp_Brightest_compare G x1 x2 u Q) : W p l e ({ frames := 1, cells := 0, slots := 0, locals := 21 } : Room) s m args below meth c s.heap [] 0 0 (pw_Ei below args s D (cw a cA cZ G) (cT cA cZ) A Q) (F0 m 0 ls []) := by
 obtain ⟨hx, hb, hr, hml, hown, hts, hlocks, hA⟩ := id C
 obtain ⟨hK, hI, hF⟩ := id K
 have hD : ∀ u, va_D A (cw a cA cZ G u) := fun u => cw_D hI hF
 have hS : va_S A s.heap s.heap [] := va_S.rf
 have h : wp_Brightest_compare G x1 x2 u Q := h
 refine lv_aload_n hx hb d_Brightest_compare_0 rfl (lv_at hl 0 rfl) ?_
 refine va_get (D := D) (ci := 2) (v := .ref (a 3)) (C := R_Brightest) (T := T_Brightest) (N := 2) hx hb hts in_Brightest hown hK hP 5 cw_at_5 rfl 1 (by decide) (hts _ (List.mem_cons_of_mem _ kw_196)) (fun _ h9 => h9) rfl d_Brightest_compare_1 ?_
 refine lv_iload_n hx hb d_Brightest_compare_4 rfl (lv_at hl 2 rfl) ?_
 refine cc_i (va_runV (As := [.int x2]) (rest := []) ⟨hx, hb, hml, hown, hts⟩ (ct_Colours_brightness_woods l D a cA cZ G _ x2 u _ hI h) (pw_cwV 1 hts kw_568 kw_48 kw_565 kw_566 kw_567 (by decide +kernel) ⟨Nat.le_of_ble_eq_true rfl, Nat.le_of_ble_eq_true rfl⟩) ⟨pw_blind, va_recv hK hP (ci := 3) (q0 := 3) rfl cw_at_3, fun U hU hW => ⟨rfl, by rw [hU], by rw [hU]; exact hP, va_K.moved hW.alike hK⟩⟩ rfl rfl hl.1 rfl (lv_room (Nat.le_of_ble_eq_true rfl)) d_Brightest_compare_5 ⟨Nat.le_of_ble_eq_true rfl, Nat.le_of_ble_eq_true rfl⟩) hS hF hA (fun r2 u1 H locs hP hS h => ?_)
 refine lv_aload_n hx hb d_Brightest_compare_8 rfl (lv_at hl 0 rfl) ?_
 refine va_get (D := D) (ci := 2) (v := .ref (a 3)) (C := R_Brightest) (T := T_Brightest) (N := 2) hx hb hts in_Brightest hown hK hP 5 cw_at_5 rfl 1 (by decide) (hts _ (List.mem_cons_of_mem _ kw_196)) (fun _ h9 => h9) rfl d_Brightest_compare_9 ?_
 refine lv_iload_n hx hb d_Brightest_compare_12 rfl (lv_at hl 1 rfl) ?_
 refine cc_i (va_runV (As := [.int x1]) (rest := [.int r2]) ⟨hx, hb, hml, hown, hts⟩ (ct_Colours_brightness_woods l D a cA cZ G _ x1 u1 _ hI h) (pw_cwV 1 hts kw_568 kw_48 kw_565 kw_566 kw_567 (by decide +kernel) ⟨Nat.le_of_ble_eq_true rfl, Nat.le_of_ble_eq_true rfl⟩) ⟨pw_blind, va_recv hK hP (ci := 3) (q0 := 3) rfl cw_at_3, fun U hU hW => ⟨rfl, by rw [hU], by rw [hU]; exact hP, va_K.moved hW.alike hK⟩⟩ rfl rfl hl.1 rfl (lv_room (Nat.le_of_ble_eq_true rfl)) d_Brightest_compare_13 ⟨Nat.le_of_ble_eq_true rfl, Nat.le_of_ble_eq_true rfl⟩) hS hF hA (fun r4 u3 H locs hP hS h => ?_)
 refine cc_i (va_runS (As := [.int r2, .int r4]) (rest := []) ⟨hx, hb, hml, hown, hts⟩ (ct_Integer_compare l D a cA cZ G _ r2 r4 u3 _ hI h) (pw_cwS 2 hts kw_571 kw_64 kw_569 kw_570 (by decide +kernel) ⟨Nat.le_of_ble_eq_true rfl, Nat.le_of_ble_eq_true rfl⟩) ⟨pw_blind, fun U hU hW => ⟨rfl, by rw [hU], by rw [hU]; exact hP, va_K.moved hW.alike hK⟩⟩ rfl rfl hl.1 rfl (lv_room (Nat.le_of_ble_eq_true rfl)) d_Brightest_compare_16 ⟨Nat.le_of_ble_eq_true rfl, Nat.le_of_ble_eq_true rfl⟩) hS hF hA (fun r6 u5 H locs hP hS h => ?_)
 exact W.iret (v := r6) hx hb hr (fun t ht hW => ⟨⟨r6, u5, rfl, h, by rw [ht]; exact hP, va_K.moved hW.alike hK⟩, hS.F ht⟩) hS.2.2 d_Brightest_compare_19 hlocks
set_option maxHeartbeats 4000000 in
set_option maxRecDepth 100000 in
theorem ct_Brightest_compare (l : Launch) (D : va_G) (a : Nat → Nat) (cA cZ : ClassId) (G : pG) (sz : Nat) (x1 x2 : Int32) (u : pS) (Q : Int32 → pS → Prop) (hI : pw_I 40 a) (h : wp_Brightest_compare G x1 x2 u Q) : Met l y_Brightest_compare w_Brightest_compare ({ frames := 1, cells := 0, slots := 0, locals := 21 } : Room) (va_Pc [.ref (a 5), .int x1, .int x2] (pw_pre D (cw a cA cZ G) (cT cA cZ) sz u)) (va_Qi (fun (r : Int32) (u : pS) => Q r u) (pw_B D (cw a cA cZ G) (cT cA cZ)) (pw_F 40 a sz)) 0 0 (pw_F 40 a sz) := by
 refine Met.ofW (cc := b_Brightest_compare) (maxL := 3) (ret := (some .int)) (by decide) rfl ?_
 intro p e s m args below meth c s₁ B hml hv
 obtain ⟨rfl, hsz, hP, hK⟩ := hv
 subst hsz
 have hl := lv_entry ([.ref (a 5), .int x1, .int x2]) (n := 3) (Nat.le_of_ble_eq_true rfl)
 rw [lg_entry_eq]
 generalize (lg_sl ([.ref (a 5), .int x1, .int x2]) ++ List.replicate (3 - (lg_sl ([.ref (a 5), .int x1, .int x2])).length) Slot.unset).toArray = ls at hl ⊢
 exact st_Brightest_compare (A := (pw_F 40 a s.heap.size)) ⟨B.exec, B.bytes, B.returns, hml, findClass_of_methodNamed B.named, atoms_spec (ws := w_Brightest_compare) B.pre, B.notSynchronized, fun q hq => Or.inr hq⟩ ⟨hK, hI, fun k hk => Or.inl ⟨k, hk, rfl⟩⟩ x1 x2 u ls hP hl h
set_option maxHeartbeats 4000000 in
set_option maxRecDepth 100000 in
theorem cp_Ranking_rank_brightest_18 {p : Program} {l : Launch} {e : Env} {s : State} {m : MethodId} {args : Array Value} {below : List Frame} {meth : Method} {c : Code} {D : va_G} {a : Nat → Nat} {cA cZ : ClassId} {G : pG} {A : Nat → Prop} {Q : pS → Prop} (C : pw_C p s m args meth c b_Ranking_rank 4 R_Ranking none w_Ranking_rank A) (K : pw_K s D 40 a (cT cA cZ) A) (EX : cw_Ex A s) {k2 : Int32 → Int32 → pS → Prop} (hk2 : ∀ (x1 x2 : Int32) (u : pS) (H : Heap) (locs : List Loc) (ls : Array Slot), va_P D vwCl (cw a cA cZ G u) H → va_S A s.heap H locs → lv_has ls 4 [(0, .ref (a 5)), (1, .int x1), (2, .int x2)] → k2 x1 x2 u → W p l e ({ frames := 2, cells := 0, slots := 0, locals := 43 } : Room) s m args below meth c H locs 0 0 (pw_Ev below args s D (cw a cA cZ G) (cT cA cZ) A Q) (F0 m 2 ls [])) : ∀ (n : Nat), ∀ (x1 x2 x3 : Int32) (u : pS) (H : Heap) (locs : List Loc) (ls : Array Slot), va_P D vwCl (cw a cA cZ G u) H → va_S A s.heap H locs → lv_has ls 4 [(0, .ref (a 5)), (1, .int x1), (2, .int x2), (3, .int x3)] → lp_Ranking_rank_brightest_18 G Q k2 n x1 x2 x3 u → W p l e ({ frames := 2, cells := 0, slots := 0, locals := 43 } : Room) s m args below meth c H locs 0 0 (pw_Ev below args s D (cw a cA cZ G) (cT cA cZ) A Q) (F0 m 18 ls []) := by
 obtain ⟨hx, hb, hr, hml, hown, hts, hlocks, hA⟩ := id C
 obtain ⟨hK, hI, hF⟩ := id K
 have hD : ∀ u, va_D A (cw a cA cZ G u) := fun u => cw_D hI hF
 intro n
 induction n with
 | zero => intro x1 x2 x3 u H locs ls hP hS hl h; exact h.elim
 | succ n ih =>
   intro x1 x2 x3 u H locs ls hP hS hl h
   refine lv_iload_n hx hb d_Ranking_rank_18 rfl (lv_at hl 3 rfl) ?_
   refine lv_if_le (tgt := 58) hx hb d_Ranking_rank_19 (by decide) (fun c3 => ?_) (fun c3 => ?_)
   · have h := h.1 c3
     refine lv_aload_n hx hb d_Ranking_rank_58 rfl (lv_at hl 0 rfl) ?_
     refine va_get (D := D) (ci := 2) (v := .ref (a 29)) (C := R_Brightest) (T := T_Brightest) (N := 2) hx hb hts in_Brightest hown hK hP 5 cw_at_5 rfl 0 (by decide) (hts _ (List.mem_cons_of_mem _ kw_197)) (fun _ h9 => h9) rfl d_Ranking_rank_59 ?_
     refine lv_iload_n hx hb d_Ranking_rank_62 rfl (lv_at hl 3 rfl) ?_
     refine lv_iload_n hx hb d_Ranking_rank_63 rfl (lv_at hl 2 rfl) ?_
     refine va_iast hx hb hK hP (hD _) hS 29 0 cw_at_29 rfl h.1 d_Ranking_rank_64 (fun H locs hP _ hS => ?_)
     obtain ⟨u4, eu4⟩ : ∃ z, z = pw_sa u 15 (upd (u.2 15) x3.toNatClampNeg x2) := ⟨_, rfl⟩
     rw [cw_sa_29, ← eu4] at hP
     have h := h.2 u4 eu4
     obtain ⟨t5, et5⟩ : ∃ y : Int32, y = x2 + 1 := ⟨_, rfl⟩
     have h := h t5 et5
     refine lv_iinc (v := t5) (lv' := [(2, .int t5), (0, .ref (a 5)), (1, .int x1), (3, .int x3)]) hx hb d_Ranking_rank_65 hl (k := 2) rfl (by rw [et5]; rfl) (by decide) rfl (fun ls hl => ?_)
     refine lv_goto (tgt := 2) hx hb d_Ranking_rank_68 (by decide) ?_
     exact hk2 x1 t5 u4 _ _ _ hP hS (lv_sub hl [1, 2, 0] rfl) h
   · have h := h.2 c3
     refine lv_aload_n hx hb d_Ranking_rank_22 rfl (lv_at hl 0 rfl) ?_
     refine lv_iload_n hx hb d_Ranking_rank_23 rfl (lv_at hl 2 rfl) ?_
     refine lv_aload_n hx hb d_Ranking_rank_24 rfl (lv_at hl 0 rfl) ?_
     refine va_get (D := D) (ci := 2) (v := .ref (a 29)) (C := R_Brightest) (T := T_Brightest) (N := 2) hx hb hts in_Brightest hown hK hP 5 cw_at_5 rfl 0 (by decide) (hts _ (List.mem_cons_of_mem _ kw_197)) (fun _ h9 => h9) rfl d_Ranking_rank_25 ?_
     refine lv_iload_n hx hb d_Ranking_rank_28 rfl (lv_at hl 3 rfl) ?_
     refine lv_iconst (v := 1) hx hb d_Ranking_rank_29 (by decide) ?_
     refine lv_isub hx hb d_Ranking_rank_30 ?_
     refine va_iald hx hb hK hP 29 0 cw_at_29 rfl h.1 d_Ranking_rank_31 ?_
     have h := h.2
     refine cc_i (va_runU (As := [.int x2, .int (u.2 15 (x3 - 1).toNatClampNeg)]) (rest := []) ⟨hx, hb, hml, hown, hts⟩ (ct_Brightest_compare l D a cA cZ G _ x2 (u.2 15 (x3 - 1).toNatClampNeg) u _ hI h) (pw_cwO (owner := "PictureInlays$Ranking") 2 hts kw_564 kw_51 kw_559 kw_561 kw_562 kw_563 (EX.1.1.2 _ (by decide)) (by decide +kernel) ⟨Nat.le_of_ble_eq_true rfl, Nat.le_of_ble_eq_true rfl⟩) ⟨pw_blind, va_recv hK hP (ci := 2) (q0 := 5) rfl cw_at_5, fun U hU hW => ⟨rfl, by rw [hU], by rw [hU]; exact hP, va_K.moved hW.alike hK⟩⟩ rfl rfl hl.1 rfl (lv_room (Nat.le_of_ble_eq_true rfl)) d_Ranking_rank_32 ⟨Nat.le_of_ble_eq_true rfl, Nat.le_of_ble_eq_true rfl⟩) hS hF hA (fun r7 u6 H locs hP hS h => ?_)
     refine lv_if_ge (tgt := 58) hx hb d_Ranking_rank_35 (by decide) (fun c8 => ?_) (fun c8 => ?_)
     · have h := h.1 c8
       refine lv_aload_n hx hb d_Ranking_rank_58 rfl (lv_at hl 0 rfl) ?_
       refine va_get (D := D) (ci := 2) (v := .ref (a 29)) (C := R_Brightest) (T := T_Brightest) (N := 2) hx hb hts in_Brightest hown hK hP 5 cw_at_5 rfl 0 (by decide) (hts _ (List.mem_cons_of_mem _ kw_197)) (fun _ h9 => h9) rfl d_Ranking_rank_59 ?_
       refine lv_iload_n hx hb d_Ranking_rank_62 rfl (lv_at hl 3 rfl) ?_
       refine lv_iload_n hx hb d_Ranking_rank_63 rfl (lv_at hl 2 rfl) ?_
       refine va_iast hx hb hK hP (hD _) hS 29 0 cw_at_29 rfl h.1 d_Ranking_rank_64 (fun H locs hP _ hS => ?_)
       obtain ⟨u9, eu9⟩ : ∃ z, z = pw_sa u6 15 (upd (u6.2 15) x3.toNatClampNeg x2) := ⟨_, rfl⟩
       rw [cw_sa_29, ← eu9] at hP
       have h := h.2 u9 eu9
       obtain ⟨t10, et10⟩ : ∃ y : Int32, y = x2 + 1 := ⟨_, rfl⟩
       have h := h t10 et10
       refine lv_iinc (v := t10) (lv' := [(2, .int t10), (0, .ref (a 5)), (1, .int x1), (3, .int x3)]) hx hb d_Ranking_rank_65 hl (k := 2) rfl (by rw [et10]; rfl) (by decide) rfl (fun ls hl => ?_)
       refine lv_goto (tgt := 2) hx hb d_Ranking_rank_68 (by decide) ?_
       exact hk2 x1 t10 u9 _ _ _ hP hS (lv_sub hl [1, 2, 0] rfl) h
     · have h := h.2 c8
       refine lv_aload_n hx hb d_Ranking_rank_38 rfl (lv_at hl 0 rfl) ?_
       refine va_get (D := D) (ci := 2) (v := .ref (a 29)) (C := R_Brightest) (T := T_Brightest) (N := 2) hx hb hts in_Brightest hown hK hP 5 cw_at_5 rfl 0 (by decide) (hts _ (List.mem_cons_of_mem _ kw_197)) (fun _ h9 => h9) rfl d_Ranking_rank_39 ?_
       refine lv_iload_n hx hb d_Ranking_rank_42 rfl (lv_at hl 3 rfl) ?_
       refine lv_aload_n hx hb d_Ranking_rank_43 rfl (lv_at hl 0 rfl) ?_
       refine va_get (D := D) (ci := 2) (v := .ref (a 29)) (C := R_Brightest) (T := T_Brightest) (N := 2) hx hb hts in_Brightest hown hK hP 5 cw_at_5 rfl 0 (by decide) (hts _ (List.mem_cons_of_mem _ kw_197)) (fun _ h9 => h9) rfl d_Ranking_rank_44 ?_
       refine lv_iload_n hx hb d_Ranking_rank_47 rfl (lv_at hl 3 rfl) ?_
       refine lv_iconst (v := 1) hx hb d_Ranking_rank_48 (by decide) ?_
       refine lv_isub hx hb d_Ranking_rank_49 ?_
       refine va_iald hx hb hK hP 29 0 cw_at_29 rfl h.1 d_Ranking_rank_50 ?_
       have h := h.2
       refine va_iast hx hb hK hP (hD _) hS 29 0 cw_at_29 rfl h.1 d_Ranking_rank_51 (fun H locs hP _ hS => ?_)
       obtain ⟨u11, eu11⟩ : ∃ z, z = pw_sa u6 15 (upd (u6.2 15) x3.toNatClampNeg (u6.2 15 (x3 - 1).toNatClampNeg)) := ⟨_, rfl⟩
       rw [cw_sa_29, ← eu11] at hP
       have h := h.2 u11 eu11
       obtain ⟨t12, et12⟩ : ∃ y : Int32, y = x3 + (-1) := ⟨_, rfl⟩
       have h := h t12 et12
       refine lv_iinc (v := t12) (lv' := [(3, .int t12), (0, .ref (a 5)), (1, .int x1), (2, .int x2)]) hx hb d_Ranking_rank_52 hl (k := 3) rfl (by rw [et12]; rfl) (by decide) rfl (fun ls hl => ?_)
       refine lv_goto (tgt := 18) hx hb d_Ranking_rank_55 (by decide) ?_
       exact ih x1 x2 t12 u11 _ _ _ hP hS (lv_sub hl [1, 2, 3, 0] rfl) h
set_option maxHeartbeats 4000000 in
set_option maxRecDepth 100000 in
theorem cp_Ranking_rank_brightest_2 {p : Program} {l : Launch} {e : Env} {s : State} {m : MethodId} {args : Array Value} {below : List Frame} {meth : Method} {c : Code} {D : va_G} {a : Nat → Nat} {cA cZ : ClassId} {G : pG} {A : Nat → Prop} {Q : pS → Prop} (C : pw_C p s m args meth c b_Ranking_rank 4 R_Ranking none w_Ranking_rank A) (K : pw_K s D 40 a (cT cA cZ) A) (EX : cw_Ex A s) : ∀ (n : Nat), ∀ (x1 x2 : Int32) (u : pS) (H : Heap) (locs : List Loc) (ls : Array Slot), va_P D vwCl (cw a cA cZ G u) H → va_S A s.heap H locs → lv_has ls 4 [(0, .ref (a 5)), (1, .int x1), (2, .int x2)] → lp_Ranking_rank_brightest_2 G Q n x1 x2 u → W p l e ({ frames := 2, cells := 0, slots := 0, locals := 43 } : Room) s m args below meth c H locs 0 0 (pw_Ev below args s D (cw a cA cZ G) (cT cA cZ) A Q) (F0 m 2 ls []) := by
 obtain ⟨hx, hb, hr, hml, hown, hts, hlocks, hA⟩ := id C
 obtain ⟨hK, hI, hF⟩ := id K
 have hD : ∀ u, va_D A (cw a cA cZ G u) := fun u => cw_D hI hF
 intro n
 induction n with
 | zero => intro x1 x2 u H locs ls hP hS hl h; exact h.elim
 | succ n ih =>
   intro x1 x2 u H locs ls hP hS hl h
   refine lv_iload_n hx hb d_Ranking_rank_2 rfl (lv_at hl 2 rfl) ?_
   refine lv_iload_n hx hb d_Ranking_rank_3 rfl (lv_at hl 1 rfl) ?_
   refine lv_icmp_ge (tgt := 71) hx hb d_Ranking_rank_4 (by decide) (fun c1 => ?_) (fun c1 => ?_)
   · have h := h.1 c1
     exact W.vret hx hb hr (fun t ht hW => ⟨⟨u, rfl, h, by rw [ht]; exact hP, va_K.moved hW.alike hK⟩, hS.F ht⟩) hS.2.2 d_Ranking_rank_71 hlocks
   · have h := h.2 c1
     refine lv_iload_n hx hb d_Ranking_rank_7 rfl (lv_at hl 2 rfl) ?_
     refine lv_aload_n hx hb d_Ranking_rank_8 rfl (lv_at hl 0 rfl) ?_
     refine va_get (D := D) (ci := 2) (v := .ref (a 29)) (C := R_Brightest) (T := T_Brightest) (N := 2) hx hb hts in_Brightest hown hK hP 5 cw_at_5 rfl 0 (by decide) (hts _ (List.mem_cons_of_mem _ kw_197)) (fun _ h9 => h9) rfl d_Ranking_rank_9 ?_
     refine va_alen (v := nI (G.1 29)) hx hb hK hP 29 0 cw_at_29 rfl rfl d_Ranking_rank_12 ?_
     refine lv_icmp_ge (tgt := 71) hx hb d_Ranking_rank_13 (by decide) (fun c2 => ?_) (fun c2 => ?_)
     · have h := h.1 c2
       exact W.vret hx hb hr (fun t ht hW => ⟨⟨u, rfl, h, by rw [ht]; exact hP, va_K.moved hW.alike hK⟩, hS.F ht⟩) hS.2.2 d_Ranking_rank_71 hlocks
     · have h := h.2 c2
       refine lv_iload_n hx hb d_Ranking_rank_16 rfl (lv_at hl 2 rfl) ?_
       refine lv_istore_n (lv' := [(3, .int x2), (0, .ref (a 5)), (1, .int x1), (2, .int x2)]) hx hb d_Ranking_rank_17 rfl hl (by decide) rfl (fun ls hl => ?_)
       obtain ⟨n1, h⟩ := h
       exact cp_Ranking_rank_brightest_18 C K EX ih n1 x1 x2 x2 u _ _ _ hP hS (lv_sub hl [1, 2, 3, 0] rfl) h
set_option maxHeartbeats 4000000 in
set_option maxRecDepth 100000 in
theorem st_Ranking_rank_brightest {p : Program} {l : Launch} {e : Env} {s : State} {m : MethodId} {args : Array Value} {below : List Frame} {meth : Method} {c : Code} {D : va_G} {a : Nat → Nat} {cA cZ : ClassId} {G : pG} {A : Nat → Prop} {Q : pS → Prop} (C : pw_C p s m args meth c b_Ranking_rank 4 R_Ranking none w_Ranking_rank A) (K : pw_K s D 40 a (cT cA cZ) A) (EX : cw_Ex A s) (x1 : Int32) (u : pS) (ls : Array Slot) (hP : va_P D vwCl (cw a cA cZ G u) s.heap) (hl : lv_has ls 4 [(0, .ref (a 5)), (1, .int x1)]) (h : wp_Ranking_rank_brightest G x1 u Q) : W p l e ({ frames := 2, cells := 0, slots := 0, locals := 43 } : Room) s m args below meth c s.heap [] 0 0 (pw_Ev below args s D (cw a cA cZ G) (cT cA cZ) A Q) (F0 m 0 ls []) := by
 obtain ⟨hx, hb, hr, hml, hown, hts, hlocks, hA⟩ := id C
 obtain ⟨hK, hI, hF⟩ := id K
 have hD : ∀ u, va_D A (cw a cA cZ G u) := fun u => cw_D hI hF
 have hS : va_S A s.heap s.heap [] := va_S.rf
 have h : wp_Ranking_rank_brightest G x1 u Q := h
 refine lv_iconst (v := 0) hx hb d_Ranking_rank_0 (by decide) ?_
 refine lv_istore_n (lv' := [(2, .int 0), (0, .ref (a 5)), (1, .int x1)]) hx hb d_Ranking_rank_1 rfl hl (by decide) rfl (fun ls hl => ?_)
 obtain ⟨n1, h⟩ := h
 exact cp_Ranking_rank_brightest_2 C K EX n1 x1 0 u _ _ _ hP hS (lv_sub hl [1, 2, 0] rfl) h
set_option maxHeartbeats 4000000 in
set_option maxRecDepth 100000 in
theorem ct_Ranking_rank_brightest (l : Launch) (D : va_G) (a : Nat → Nat) (cA cZ : ClassId) (G : pG) (sz : Nat) (x1 : Int32) (u : pS) (Q : pS → Prop) (hI : pw_I 40 a) (h : wp_Ranking_rank_brightest G x1 u Q) : Met l y_Ranking_rank w_Ranking_rank ({ frames := 2, cells := 0, slots := 0, locals := 43 } : Room) (va_Pc [.ref (a 5), .int x1] (fun U => pw_pre D (cw a cA cZ G) (cT cA cZ) sz u U ∧ cw_Ex (pw_F 40 a sz) U)) (va_Qv (fun (u : pS) => Q u) (pw_B D (cw a cA cZ G) (cT cA cZ)) (pw_F 40 a sz)) 0 0 (pw_F 40 a sz) := by
 refine Met.ofW (cc := b_Ranking_rank) (maxL := 4) (ret := none) (by decide) rfl ?_
 intro p e s m args below meth c s₁ B hml hv
 obtain ⟨rfl, ⟨hsz, hP, hK⟩, EX⟩ := hv
 subst hsz
 have hl := lv_entry ([.ref (a 5), .int x1]) (n := 4) (Nat.le_of_ble_eq_true rfl)
 rw [lg_entry_eq]
 generalize (lg_sl ([.ref (a 5), .int x1]) ++ List.replicate (4 - (lg_sl ([.ref (a 5), .int x1])).length) Slot.unset).toArray = ls at hl ⊢
 exact st_Ranking_rank_brightest (A := (pw_F 40 a s.heap.size)) ⟨B.exec, B.bytes, B.returns, hml, findClass_of_methodNamed B.named, atoms_spec (ws := w_Ranking_rank) B.pre, B.notSynchronized, fun q hq => Or.inr hq⟩ ⟨hK, hI, fun k hk => Or.inl ⟨k, hk, rfl⟩⟩ EX x1 u ls hP hl h
set_option maxHeartbeats 4000000 in
set_option maxRecDepth 100000 in
theorem st_Ranking_ranked_brightest {p : Program} {l : Launch} {e : Env} {s : State} {m : MethodId} {args : Array Value} {below : List Frame} {meth : Method} {c : Code} {D : va_G} {a : Nat → Nat} {cA cZ : ClassId} {G : pG} {A : Nat → Prop} {Q : Int32 → pS → Prop} (C : pw_C p s m args meth c b_Ranking_ranked 2 R_Ranking (some .int) w_Ranking_ranked A) (K : pw_K s D 40 a (cT cA cZ) A) (x1 : Int32) (u : pS) (ls : Array Slot) (hP : va_P D vwCl (cw a cA cZ G u) s.heap) (hl : lv_has ls 2 [(0, .ref (a 5)), (1, .int x1)]) (h : wp_Ranking_ranked_brightest G x1 u Q) : W p l e ({ frames := 0, cells := 0, slots := 0, locals := 0 } : Room) s m args below meth c s.heap [] 0 0 (pw_Ei below args s D (cw a cA cZ G) (cT cA cZ) A Q) (F0 m 0 ls []) := by
 obtain ⟨hx, hb, hr, hml, hown, hts, hlocks, hA⟩ := id C
 obtain ⟨hK, hI, hF⟩ := id K
 have hD : ∀ u, va_D A (cw a cA cZ G u) := fun u => cw_D hI hF
 have hS : va_S A s.heap s.heap [] := va_S.rf
 have h : wp_Ranking_ranked_brightest G x1 u Q := h
 refine lv_aload_n hx hb d_Ranking_ranked_0 rfl (lv_at hl 0 rfl) ?_
 refine va_get (D := D) (ci := 2) (v := .ref (a 29)) (C := R_Brightest) (T := T_Brightest) (N := 2) hx hb hts in_Brightest hown hK hP 5 cw_at_5 rfl 0 (by decide) (hts _ (List.mem_cons_of_mem _ kw_197)) (fun _ h9 => h9) rfl d_Ranking_ranked_1 ?_
 refine lv_iload_n hx hb d_Ranking_ranked_4 rfl (lv_at hl 1 rfl) ?_
 refine va_iald hx hb hK hP 29 0 cw_at_29 rfl h.1 d_Ranking_ranked_5 ?_
 have h := h.2
 exact W.iret (v := (u.2 15 x1.toNatClampNeg)) hx hb hr (fun t ht hW => ⟨⟨(u.2 15 x1.toNatClampNeg), u, rfl, h, by rw [ht]; exact hP, va_K.moved hW.alike hK⟩, hS.F ht⟩) hS.2.2 d_Ranking_ranked_6 hlocks
set_option maxHeartbeats 4000000 in
set_option maxRecDepth 100000 in
theorem ct_Ranking_ranked_brightest (l : Launch) (D : va_G) (a : Nat → Nat) (cA cZ : ClassId) (G : pG) (sz : Nat) (x1 : Int32) (u : pS) (Q : Int32 → pS → Prop) (hI : pw_I 40 a) (h : wp_Ranking_ranked_brightest G x1 u Q) : Met l y_Ranking_ranked w_Ranking_ranked ({ frames := 0, cells := 0, slots := 0, locals := 0 } : Room) (va_Pc [.ref (a 5), .int x1] (pw_pre D (cw a cA cZ G) (cT cA cZ) sz u)) (va_Qi (fun (r : Int32) (u : pS) => Q r u) (pw_B D (cw a cA cZ G) (cT cA cZ)) (pw_F 40 a sz)) 0 0 (pw_F 40 a sz) := by
 refine Met.ofW (cc := b_Ranking_ranked) (maxL := 2) (ret := (some .int)) (by decide) rfl ?_
 intro p e s m args below meth c s₁ B hml hv
 obtain ⟨rfl, hsz, hP, hK⟩ := hv
 subst hsz
 have hl := lv_entry ([.ref (a 5), .int x1]) (n := 2) (Nat.le_of_ble_eq_true rfl)
 rw [lg_entry_eq]
 generalize (lg_sl ([.ref (a 5), .int x1]) ++ List.replicate (2 - (lg_sl ([.ref (a 5), .int x1])).length) Slot.unset).toArray = ls at hl ⊢
 exact st_Ranking_ranked_brightest (A := (pw_F 40 a s.heap.size)) ⟨B.exec, B.bytes, B.returns, hml, findClass_of_methodNamed B.named, atoms_spec (ws := w_Ranking_ranked) B.pre, B.notSynchronized, fun q hq => Or.inr hq⟩ ⟨hK, hI, fun k hk => Or.inl ⟨k, hk, rfl⟩⟩ x1 u ls hP hl h
set_option maxHeartbeats 4000000 in
set_option maxRecDepth 100000 in
theorem st_PI_sorted {p : Program} {l : Launch} {e : Env} {s : State} {m : MethodId} {args : Array Value} {below : List Frame} {meth : Method} {c : Code} {D : va_G} {a : Nat → Nat} {cA cZ : ClassId} {G : pG} {A : Nat → Prop} {Q : Int32 → pS → Prop} {X : Nat → pS → Prop} (C : pw_C p s m args meth c b_PI_sorted 2 R_PI (some .int) w_PI_sorted A) (K : pw_K s D 40 a (cT cA cZ) A) (EX : cw_Ex A s) (hL : px_L l) (htr : e.platform.stackTraces = false) (hE : ∀ (pc : Nat), ∀ x ∈ c.exceptionTable.toList, covers x pc = false) (x1 : Int32) (u : pS) (ls : Array Slot) (hP : va_P D vwCl (cw a cA cZ G u) s.heap) (hl : lv_has ls 2 [(0, .ref (a 0)), (1, .int x1)]) (h : wp_PI_sorted G x1 u Q X) : W p l e ({ frames := 7, cells := 1, slots := 6, locals := 103 } : Room) s m args below meth c s.heap [] 0 0 (px_Ei below args s D (cw a cA cZ G) (cT cA cZ) A Q X) (F0 m 0 ls []) := by
 obtain ⟨hx, hb, hr, hml, hown, hts, hlocks, hA⟩ := id C
 obtain ⟨hK, hI, hF⟩ := id K
 have hD : ∀ u, va_D A (cw a cA cZ G u) := fun u => cw_D hI hF
 have hz : ∀ oc t, px_T X (pw_B D (cw a cA cZ G) (cT cA cZ)) oc t → va_F A s t → (px_Qi Q X (pw_B D (cw a cA cZ G) (cT cA cZ)) A) args s oc t := fun oc t h1 h2 => ⟨Or.inr h1, h2⟩
 have hS : va_S A s.heap s.heap [] := va_S.rf
 have h : wp_PI_sorted G x1 u Q X := h
 refine lv_iload_n hx hb d_PI_sorted_0 rfl (lv_at hl 1 rfl) ?_
 refine lv_aload_n hx hb d_PI_sorted_1 rfl (lv_at hl 0 rfl) ?_
 refine va_get (D := D) (ci := 0) (v := .int (G.2.1 0)) (C := R_PI) (T := T_PI) (N := 12) hx hb hts in_PI hown hK hP 0 cw_at_0 rfl 1 (by decide) (hts _ (List.mem_cons_of_mem _ kw_313)) (fun _ h9 => h9) rfl d_PI_sorted_2 ?_
 refine cx_v (px_runS (As := [.int x1, .int (G.2.1 0)]) (rest := []) ⟨hx, hb, hml, hown, hts⟩ (ct_PI_needIndex l D a cA cZ G _ x1 (G.2.1 0) u _ _ hL hI h) (pw_cwS 2 hts kw_367 kw_45 kw_365 kw_366 (by decide +kernel) ⟨Nat.le_of_ble_eq_true rfl, Nat.le_of_ble_eq_true rfl⟩) ⟨cw_blindX, fun U hU hW => ⟨rfl, ⟨by rw [hU], by rw [hU]; exact hP, va_K.moved hW.alike hK⟩, cw_Ex_call EX hS (pw_FA hS hF hA) hU hW⟩⟩ rfl rfl hl.1 rfl (lv_room (Nat.le_of_ble_eq_true rfl)) d_PI_sorted_5 ⟨Nat.le_of_ble_eq_true rfl, Nat.le_of_ble_eq_true rfl⟩) hS hF hA (hE _) hlocks hz (fun u1 H locs hP hS h => ?_)
 refine lv_aload_n hx hb d_PI_sorted_8 rfl (lv_at hl 0 rfl) ?_
 refine va_get (D := D) (ci := 0) (v := .ref (a 5)) (C := R_PI) (T := T_PI) (N := 12) hx hb hts in_PI hown hK hP 0 cw_at_0 rfl 5 (by decide) (hts _ (List.mem_cons_of_mem _ kw_317)) (fun _ h9 => h9) rfl d_PI_sorted_9 ?_
 refine lv_aload_n hx hb d_PI_sorted_12 rfl (lv_at hl 0 rfl) ?_
 refine va_get (D := D) (ci := 0) (v := .int (G.2.1 0)) (C := R_PI) (T := T_PI) (N := 12) hx hb hts in_PI hown hK hP 0 cw_at_0 rfl 1 (by decide) (hts _ (List.mem_cons_of_mem _ kw_313)) (fun _ h9 => h9) rfl d_PI_sorted_13 ?_
 refine cc_v (va_runU (As := [.int (G.2.1 0)]) (rest := []) ⟨hx, hb, hml, hown, hts⟩ (ct_Ranking_rank_brightest l D a cA cZ G _ (G.2.1 0) u1 _ hI h) (pw_cwU (owner := "PictureInlays$Ranking") 1 hts kw_558 kw_50 kw_552 kw_554 kw_555 kw_553 rfl (by decide +kernel) ⟨Nat.le_of_ble_eq_true rfl, Nat.le_of_ble_eq_true rfl⟩) ⟨cw_blindX, va_recv hK hP (ci := 2) (q0 := 5) rfl cw_at_5, fun U hU hW => ⟨rfl, ⟨by rw [hU], by rw [hU]; exact hP, va_K.moved hW.alike hK⟩, cw_Ex_call EX hS (pw_FA hS hF hA) hU hW⟩⟩ rfl rfl hl.1 rfl (lv_room (Nat.le_of_ble_eq_true rfl)) d_PI_sorted_16 ⟨Nat.le_of_ble_eq_true rfl, Nat.le_of_ble_eq_true rfl⟩) hS hF hA (fun u2 H locs hP hS h => ?_)
 refine lv_aload_n hx hb d_PI_sorted_19 rfl (lv_at hl 0 rfl) ?_
 refine va_get (D := D) (ci := 0) (v := .ref (a 5)) (C := R_PI) (T := T_PI) (N := 12) hx hb hts in_PI hown hK hP 0 cw_at_0 rfl 5 (by decide) (hts _ (List.mem_cons_of_mem _ kw_317)) (fun _ h9 => h9) rfl d_PI_sorted_20 ?_
 refine lv_iload_n hx hb d_PI_sorted_23 rfl (lv_at hl 1 rfl) ?_
 refine cc_i (va_runU (As := [.int x1]) (rest := []) ⟨hx, hb, hml, hown, hts⟩ (ct_Ranking_ranked_brightest l D a cA cZ G _ x1 u2 _ hI h) (pw_cwU (owner := "PictureInlays$Ranking") 1 hts kw_760 kw_50 kw_754 kw_756 kw_757 kw_755 rfl (by decide +kernel) ⟨Nat.le_of_ble_eq_true rfl, Nat.le_of_ble_eq_true rfl⟩) ⟨pw_blind, va_recv hK hP (ci := 2) (q0 := 5) rfl cw_at_5, fun U hU hW => ⟨rfl, by rw [hU], by rw [hU]; exact hP, va_K.moved hW.alike hK⟩⟩ rfl rfl hl.1 rfl (lv_room (Nat.le_of_ble_eq_true rfl)) d_PI_sorted_24 ⟨Nat.le_of_ble_eq_true rfl, Nat.le_of_ble_eq_true rfl⟩) hS hF hA (fun r4 u3 H locs hP hS h => ?_)
 exact px_mono (fun t h => px_ofMQ (fun _ _ h => h) h) (W.iret (Qc := px_Qi Q X (pw_B D (cw a cA cZ G) (cT cA cZ)) A) (v := r4) hx hb hr (fun t ht hW => ⟨Or.inl ⟨r4, u3, rfl, h, by rw [ht]; exact hP, va_K.moved hW.alike hK⟩, hS.F ht⟩) hS.2.2 d_PI_sorted_27 hlocks)
set_option maxHeartbeats 4000000 in
set_option maxRecDepth 100000 in
theorem ct_PI_sorted (l : Launch) (D : va_G) (a : Nat → Nat) (cA cZ : ClassId) (G : pG) (sz : Nat) (x1 : Int32) (u : pS) (Q : Int32 → pS → Prop) (X : Nat → pS → Prop) (hL : px_L l) (hI : pw_I 40 a) (h : wp_PI_sorted G x1 u Q X) : px_Met l y_PI_sorted w_PI_sorted ({ frames := 7, cells := 1, slots := 6, locals := 103 } : Room) (va_Pc [.ref (a 0), .int x1] (fun U => pw_pre D (cw a cA cZ G) (cT cA cZ) sz u U ∧ cw_Ex (pw_F 40 a sz) U)) (px_Qi Q X (pw_B D (cw a cA cZ G) (cT cA cZ)) (pw_F 40 a sz)) 0 0 1 6 (pw_F 40 a sz) := by
 refine px_ofW (cc := b_PI_sorted) (maxL := 2) (ret := (some .int)) (by decide) rfl ?_
 intro p e s m args below meth c s₁ B hml hE hv
 obtain ⟨rfl, ⟨hsz, hP, hK⟩, EX⟩ := hv
 subst hsz
 have hl := lv_entry ([.ref (a 0), .int x1]) (n := 2) (Nat.le_of_ble_eq_true rfl)
 rw [lg_entry_eq]
 generalize (lg_sl ([.ref (a 0), .int x1]) ++ List.replicate (2 - (lg_sl ([.ref (a 0), .int x1])).length) Slot.unset).toArray = ls at hl ⊢
 exact st_PI_sorted (A := (pw_F 40 a s.heap.size)) ⟨B.exec, B.bytes, B.returns, hml, findClass_of_methodNamed B.named, atoms_spec (ws := w_PI_sorted) B.pre, B.notSynchronized, fun q hq => Or.inr hq⟩ ⟨hK, hI, fun k hk => Or.inl ⟨k, hk, rfl⟩⟩ EX hL (hL e B.admits) (px_none hE) x1 u ls hP hl h
set_option maxHeartbeats 4000000 in
set_option maxRecDepth 100000 in
theorem cp_Arrays_fill_numberAt_5 {p : Program} {l : Launch} {e : Env} {s : State} {m : MethodId} {args : Array Value} {below : List Frame} {meth : Method} {c : Code} {D : va_G} {a : Nat → Nat} {cA cZ : ClassId} {G : pG} {A : Nat → Prop} {Q : pS → Prop} (C : pw_C p s m args meth c b_Arrays_fill 4 R_Arrays none w_Arrays_fill A) (K : pw_K s D 40 a (cT cA cZ) A) : ∀ (n : Nat), ∀ (x1 x2 x3 : Int32) (u : pS) (H : Heap) (locs : List Loc) (ls : Array Slot), va_P D vwCl (cw a cA cZ G u) H → va_S A s.heap H locs → lv_has ls 4 [(0, .ref (a 21)), (1, .int x1), (2, .int x2), (3, .int x3)] → lp_Arrays_fill_numberAt_5 G Q n x1 x2 x3 u → W p l e ({ frames := 0, cells := 0, slots := 0, locals := 0 } : Room) s m args below meth c H locs 0 0 (pw_Ev below args s D (cw a cA cZ G) (cT cA cZ) A Q) (F0 m 5 ls []) := by
 obtain ⟨hx, hb, hr, hml, hown, hts, hlocks, hA⟩ := id C
 obtain ⟨hK, hI, hF⟩ := id K
 have hD : ∀ u, va_D A (cw a cA cZ G u) := fun u => cw_D hI hF
 intro n
 induction n with
 | zero => intro x1 x2 x3 u H locs ls hP hS hl h; exact h.elim
 | succ n ih =>
   intro x1 x2 x3 u H locs ls hP hS hl h
   refine lv_iload_n hx hb d_Arrays_fill_5 rfl (lv_at hl 2 rfl) ?_
   refine lv_iload_n hx hb d_Arrays_fill_6 rfl (lv_at hl 3 rfl) ?_
   refine lv_icmp_ge (tgt := 20) hx hb d_Arrays_fill_7 (by decide) (fun c2 => ?_) (fun c2 => ?_)
   · have h := h.1 c2
     exact W.vret hx hb hr (fun t ht hW => ⟨⟨u, rfl, h, by rw [ht]; exact hP, va_K.moved hW.alike hK⟩, hS.F ht⟩) hS.2.2 d_Arrays_fill_20 hlocks
   · have h := h.2 c2
     refine lv_aload_n hx hb d_Arrays_fill_10 rfl (lv_at hl 0 rfl) ?_
     refine lv_iload_n hx hb d_Arrays_fill_11 rfl (lv_at hl 2 rfl) ?_
     refine lv_iload_n hx hb d_Arrays_fill_12 rfl (lv_at hl 1 rfl) ?_
     refine va_iast hx hb hK hP (hD _) hS 21 0 cw_at_21 rfl h.1 d_Arrays_fill_13 (fun H locs hP _ hS => ?_)
     obtain ⟨u3, eu3⟩ : ∃ z, z = pw_sa u 7 (upd (u.2 7) x2.toNatClampNeg x1) := ⟨_, rfl⟩
     rw [cw_sa_21, ← eu3] at hP
     have h := h.2 u3 eu3
     obtain ⟨t4, et4⟩ : ∃ y : Int32, y = x2 + 1 := ⟨_, rfl⟩
     have h := h t4 et4
     refine lv_iinc (v := t4) (lv' := [(2, .int t4), (0, .ref (a 21)), (1, .int x1), (3, .int x3)]) hx hb d_Arrays_fill_14 hl (k := 2) rfl (by rw [et4]; rfl) (by decide) rfl (fun ls hl => ?_)
     refine lv_goto (tgt := 5) hx hb d_Arrays_fill_17 (by decide) ?_
     exact ih x1 t4 x3 u3 _ _ _ hP hS (lv_sub hl [1, 2, 0, 3] rfl) h
set_option maxHeartbeats 4000000 in
set_option maxRecDepth 100000 in
theorem st_Arrays_fill_numberAt {p : Program} {l : Launch} {e : Env} {s : State} {m : MethodId} {args : Array Value} {below : List Frame} {meth : Method} {c : Code} {D : va_G} {a : Nat → Nat} {cA cZ : ClassId} {G : pG} {A : Nat → Prop} {Q : pS → Prop} (C : pw_C p s m args meth c b_Arrays_fill 4 R_Arrays none w_Arrays_fill A) (K : pw_K s D 40 a (cT cA cZ) A) (x1 : Int32) (u : pS) (ls : Array Slot) (hP : va_P D vwCl (cw a cA cZ G u) s.heap) (hl : lv_has ls 4 [(0, .ref (a 21)), (1, .int x1)]) (h : wp_Arrays_fill_numberAt G x1 u Q) : W p l e ({ frames := 0, cells := 0, slots := 0, locals := 0 } : Room) s m args below meth c s.heap [] 0 0 (pw_Ev below args s D (cw a cA cZ G) (cT cA cZ) A Q) (F0 m 0 ls []) := by
 obtain ⟨hx, hb, hr, hml, hown, hts, hlocks, hA⟩ := id C
 obtain ⟨hK, hI, hF⟩ := id K
 have hD : ∀ u, va_D A (cw a cA cZ G u) := fun u => cw_D hI hF
 have hS : va_S A s.heap s.heap [] := va_S.rf
 have h : wp_Arrays_fill_numberAt G x1 u Q := h
 refine lv_iconst (v := 0) hx hb d_Arrays_fill_0 (by decide) ?_
 refine lv_istore_n (lv' := [(2, .int 0), (0, .ref (a 21)), (1, .int x1)]) hx hb d_Arrays_fill_1 rfl hl (by decide) rfl (fun ls hl => ?_)
 refine lv_aload_n hx hb d_Arrays_fill_2 rfl (lv_at hl 1 rfl) ?_
 refine va_alen (v := nI (G.1 21)) hx hb hK hP 21 0 cw_at_21 rfl rfl d_Arrays_fill_3 ?_
 refine lv_topi (fun t1 et1 => ?_)
 have h := h t1 et1
 refine lv_istore_n (lv' := [(3, .int t1), (2, .int 0), (0, .ref (a 21)), (1, .int x1)]) hx hb d_Arrays_fill_4 rfl hl (by decide) rfl (fun ls hl => ?_)
 obtain ⟨n1, h⟩ := h
 exact cp_Arrays_fill_numberAt_5 C K n1 x1 0 t1 u _ _ _ hP hS (lv_sub hl [2, 3, 1, 0] rfl) h
set_option maxHeartbeats 4000000 in
set_option maxRecDepth 100000 in
theorem ct_Arrays_fill_numberAt (l : Launch) (D : va_G) (a : Nat → Nat) (cA cZ : ClassId) (G : pG) (sz : Nat) (x1 : Int32) (u : pS) (Q : pS → Prop) (hI : pw_I 40 a) (h : wp_Arrays_fill_numberAt G x1 u Q) : Met l y_Arrays_fill w_Arrays_fill ({ frames := 0, cells := 0, slots := 0, locals := 0 } : Room) (va_Pc [.ref (a 21), .int x1] (pw_pre D (cw a cA cZ G) (cT cA cZ) sz u)) (va_Qv (fun (u : pS) => Q u) (pw_B D (cw a cA cZ G) (cT cA cZ)) (pw_F 40 a sz)) 0 0 (pw_F 40 a sz) := by
 refine Met.ofW (cc := b_Arrays_fill) (maxL := 4) (ret := none) (by decide) rfl ?_
 intro p e s m args below meth c s₁ B hml hv
 obtain ⟨rfl, hsz, hP, hK⟩ := hv
 subst hsz
 have hl := lv_entry ([.ref (a 21), .int x1]) (n := 4) (Nat.le_of_ble_eq_true rfl)
 rw [lg_entry_eq]
 generalize (lg_sl ([.ref (a 21), .int x1]) ++ List.replicate (4 - (lg_sl ([.ref (a 21), .int x1])).length) Slot.unset).toArray = ls at hl ⊢
 exact st_Arrays_fill_numberAt (A := (pw_F 40 a s.heap.size)) ⟨B.exec, B.bytes, B.returns, hml, findClass_of_methodNamed B.named, atoms_spec (ws := w_Arrays_fill) B.pre, B.notSynchronized, fun q hq => Or.inr hq⟩ ⟨hK, hI, fun k hk => Or.inl ⟨k, hk, rfl⟩⟩ x1 u ls hP hl h
set_option maxHeartbeats 4000000 in
set_option maxRecDepth 100000 in
theorem st_Pieces_begin {p : Program} {l : Launch} {e : Env} {s : State} {m : MethodId} {args : Array Value} {below : List Frame} {meth : Method} {c : Code} {D : va_G} {a : Nat → Nat} {cA cZ : ClassId} {G : pG} {A : Nat → Prop} {Q : pS → Prop} (C : pw_C p s m args meth c b_Pieces_begin 3 R_Pieces none w_Pieces_begin A) (K : pw_K s D 40 a (cT cA cZ) A) (x1 x2 : Int32) (u : pS) (ls : Array Slot) (hP : va_P D vwCl (cw a cA cZ G u) s.heap) (hl : lv_has ls 3 [(0, .ref (a 4)), (1, .int x1), (2, .int x2)]) (h : wp_Pieces_begin G x1 x2 u Q) : W p l e ({ frames := 1, cells := 0, slots := 0, locals := 21 } : Room) s m args below meth c s.heap [] 0 0 (pw_Ev below args s D (cw a cA cZ G) (cT cA cZ) A Q) (F0 m 0 ls []) := by
 obtain ⟨hx, hb, hr, hml, hown, hts, hlocks, hA⟩ := id C
 obtain ⟨hK, hI, hF⟩ := id K
 have hD : ∀ u, va_D A (cw a cA cZ G u) := fun u => cw_D hI hF
 have hS : va_S A s.heap s.heap [] := va_S.rf
 have h : wp_Pieces_begin G x1 x2 u Q := h
 refine lv_aload_n hx hb d_Pieces_begin_0 rfl (lv_at hl 0 rfl) ?_
 refine va_get (D := D) (ci := 7) (v := .ref (a 24)) (C := R_Pieces) (T := T_Pieces) (N := 11) hx hb hts in_Pieces hown hK hP 4 cw_at_4 rfl 5 (by decide) (hts _ (List.mem_cons_of_mem _ kw_156)) (fun _ h9 => h9) rfl d_Pieces_begin_1 ?_
 refine lv_iload_n hx hb d_Pieces_begin_4 rfl (lv_at hl 2 rfl) ?_
 refine lv_iload_n hx hb d_Pieces_begin_5 rfl (lv_at hl 1 rfl) ?_
 refine va_iast hx hb hK hP (hD _) hS 24 0 cw_at_24 rfl h.1 d_Pieces_begin_6 (fun H locs hP _ hS => ?_)
 obtain ⟨u1, eu1⟩ : ∃ z, z = pw_sa u 10 (upd (u.2 10) x2.toNatClampNeg x1) := ⟨_, rfl⟩
 rw [cw_sa_24, ← eu1] at hP
 have h := h.2 u1 eu1
 refine lv_aload_n hx hb d_Pieces_begin_7 rfl (lv_at hl 0 rfl) ?_
 refine va_get (D := D) (ci := 7) (v := .ref (a 25)) (C := R_Pieces) (T := T_Pieces) (N := 11) hx hb hts in_Pieces hown hK hP 4 cw_at_4 rfl 6 (by decide) (hts _ (List.mem_cons_of_mem _ kw_157)) (fun _ h9 => h9) rfl d_Pieces_begin_8 ?_
 refine lv_iload_n hx hb d_Pieces_begin_11 rfl (lv_at hl 2 rfl) ?_
 refine lv_iconst (v := 0) hx hb d_Pieces_begin_12 (by decide) ?_
 refine va_iast hx hb hK hP (hD _) hS 25 0 cw_at_25 rfl h.1 d_Pieces_begin_13 (fun H locs hP _ hS => ?_)
 obtain ⟨u2, eu2⟩ : ∃ z, z = pw_sa u1 11 (upd (u1.2 11) x2.toNatClampNeg 0) := ⟨_, rfl⟩
 rw [cw_sa_25, ← eu2] at hP
 have h := h.2 u2 eu2
 refine lv_aload_n hx hb d_Pieces_begin_14 rfl (lv_at hl 0 rfl) ?_
 refine va_get (D := D) (ci := 7) (v := .ref (a 26)) (C := R_Pieces) (T := T_Pieces) (N := 11) hx hb hts in_Pieces hown hK hP 4 cw_at_4 rfl 7 (by decide) (hts _ (List.mem_cons_of_mem _ kw_158)) (fun _ h9 => h9) rfl d_Pieces_begin_15 ?_
 refine lv_iload_n hx hb d_Pieces_begin_18 rfl (lv_at hl 2 rfl) ?_
 refine lv_aload_n hx hb d_Pieces_begin_19 rfl (lv_at hl 0 rfl) ?_
 refine va_get (D := D) (ci := 7) (v := .ref (a 1)) (C := R_Pieces) (T := T_Pieces) (N := 11) hx hb hts in_Pieces hown hK hP 4 cw_at_4 rfl 0 (by decide) (hts _ (List.mem_cons_of_mem _ kw_151)) (fun _ h9 => h9) rfl d_Pieces_begin_20 ?_
 refine lv_iload_n hx hb d_Pieces_begin_23 rfl (lv_at hl 1 rfl) ?_
 refine cc_i (va_runV (As := [.int x1]) (rest := [.int x2, .ref (a 26)]) ⟨hx, hb, hml, hown, hts⟩ (ct_Grid_columnOf l D a cA cZ G _ x1 u2 _ hI h) (pw_cwV 1 hts kw_513 kw_46 kw_510 kw_511 kw_512 (by decide +kernel) ⟨Nat.le_of_ble_eq_true rfl, Nat.le_of_ble_eq_true rfl⟩) ⟨pw_blind, va_recv hK hP (ci := 4) (q0 := 1) rfl cw_at_1, fun U hU hW => ⟨rfl, by rw [hU], by rw [hU]; exact hP, va_K.moved hW.alike hK⟩⟩ rfl rfl hl.1 rfl (lv_room (Nat.le_of_ble_eq_true rfl)) d_Pieces_begin_24 ⟨Nat.le_of_ble_eq_true rfl, Nat.le_of_ble_eq_true rfl⟩) hS hF hA (fun r4 u3 H locs hP hS h => ?_)
 refine va_iast hx hb hK hP (hD _) hS 26 0 cw_at_26 rfl h.1 d_Pieces_begin_27 (fun H locs hP _ hS => ?_)
 obtain ⟨u5, eu5⟩ : ∃ z, z = pw_sa u3 12 (upd (u3.2 12) x2.toNatClampNeg r4) := ⟨_, rfl⟩
 rw [cw_sa_26, ← eu5] at hP
 have h := h.2 u5 eu5
 refine lv_aload_n hx hb d_Pieces_begin_28 rfl (lv_at hl 0 rfl) ?_
 refine va_get (D := D) (ci := 7) (v := .ref (a 27)) (C := R_Pieces) (T := T_Pieces) (N := 11) hx hb hts in_Pieces hown hK hP 4 cw_at_4 rfl 8 (by decide) (hts _ (List.mem_cons_of_mem _ kw_159)) (fun _ h9 => h9) rfl d_Pieces_begin_29 ?_
 refine lv_iload_n hx hb d_Pieces_begin_32 rfl (lv_at hl 2 rfl) ?_
 refine lv_aload_n hx hb d_Pieces_begin_33 rfl (lv_at hl 0 rfl) ?_
 refine va_get (D := D) (ci := 7) (v := .ref (a 1)) (C := R_Pieces) (T := T_Pieces) (N := 11) hx hb hts in_Pieces hown hK hP 4 cw_at_4 rfl 0 (by decide) (hts _ (List.mem_cons_of_mem _ kw_151)) (fun _ h9 => h9) rfl d_Pieces_begin_34 ?_
 refine lv_iload_n hx hb d_Pieces_begin_37 rfl (lv_at hl 1 rfl) ?_
 refine cc_i (va_runV (As := [.int x1]) (rest := [.int x2, .ref (a 27)]) ⟨hx, hb, hml, hown, hts⟩ (ct_Grid_columnOf l D a cA cZ G _ x1 u5 _ hI h) (pw_cwV 1 hts kw_513 kw_46 kw_510 kw_511 kw_512 (by decide +kernel) ⟨Nat.le_of_ble_eq_true rfl, Nat.le_of_ble_eq_true rfl⟩) ⟨pw_blind, va_recv hK hP (ci := 4) (q0 := 1) rfl cw_at_1, fun U hU hW => ⟨rfl, by rw [hU], by rw [hU]; exact hP, va_K.moved hW.alike hK⟩⟩ rfl rfl hl.1 rfl (lv_room (Nat.le_of_ble_eq_true rfl)) d_Pieces_begin_38 ⟨Nat.le_of_ble_eq_true rfl, Nat.le_of_ble_eq_true rfl⟩) hS hF hA (fun r7 u6 H locs hP hS h => ?_)
 refine va_iast hx hb hK hP (hD _) hS 27 0 cw_at_27 rfl h.1 d_Pieces_begin_41 (fun H locs hP _ hS => ?_)
 obtain ⟨u8, eu8⟩ : ∃ z, z = pw_sa u6 13 (upd (u6.2 13) x2.toNatClampNeg r7) := ⟨_, rfl⟩
 rw [cw_sa_27, ← eu8] at hP
 have h := h.2 u8 eu8
 refine lv_aload_n hx hb d_Pieces_begin_42 rfl (lv_at hl 0 rfl) ?_
 refine va_get (D := D) (ci := 7) (v := .ref (a 28)) (C := R_Pieces) (T := T_Pieces) (N := 11) hx hb hts in_Pieces hown hK hP 4 cw_at_4 rfl 9 (by decide) (hts _ (List.mem_cons_of_mem _ kw_160)) (fun _ h9 => h9) rfl d_Pieces_begin_43 ?_
 refine lv_iload_n hx hb d_Pieces_begin_46 rfl (lv_at hl 2 rfl) ?_
 refine lv_aload_n hx hb d_Pieces_begin_47 rfl (lv_at hl 0 rfl) ?_
 refine va_get (D := D) (ci := 7) (v := .ref (a 1)) (C := R_Pieces) (T := T_Pieces) (N := 11) hx hb hts in_Pieces hown hK hP 4 cw_at_4 rfl 0 (by decide) (hts _ (List.mem_cons_of_mem _ kw_151)) (fun _ h9 => h9) rfl d_Pieces_begin_48 ?_
 refine lv_iload_n hx hb d_Pieces_begin_51 rfl (lv_at hl 1 rfl) ?_
 refine cc_i (va_runV (As := [.int x1]) (rest := [.int x2, .ref (a 28)]) ⟨hx, hb, hml, hown, hts⟩ (ct_Grid_rowOf l D a cA cZ G _ x1 u8 _ hI h) (pw_cwV 1 hts kw_517 kw_46 kw_514 kw_515 kw_516 (by decide +kernel) ⟨Nat.le_of_ble_eq_true rfl, Nat.le_of_ble_eq_true rfl⟩) ⟨pw_blind, va_recv hK hP (ci := 4) (q0 := 1) rfl cw_at_1, fun U hU hW => ⟨rfl, by rw [hU], by rw [hU]; exact hP, va_K.moved hW.alike hK⟩⟩ rfl rfl hl.1 rfl (lv_room (Nat.le_of_ble_eq_true rfl)) d_Pieces_begin_52 ⟨Nat.le_of_ble_eq_true rfl, Nat.le_of_ble_eq_true rfl⟩) hS hF hA (fun r10 u9 H locs hP hS h => ?_)
 refine va_iast hx hb hK hP (hD _) hS 28 0 cw_at_28 rfl h.1 d_Pieces_begin_55 (fun H locs hP _ hS => ?_)
 obtain ⟨u11, eu11⟩ : ∃ z, z = pw_sa u9 14 (upd (u9.2 14) x2.toNatClampNeg r10) := ⟨_, rfl⟩
 rw [cw_sa_28, ← eu11] at hP
 have h := h.2 u11 eu11
 exact W.vret hx hb hr (fun t ht hW => ⟨⟨u11, rfl, h, by rw [ht]; exact hP, va_K.moved hW.alike hK⟩, hS.F ht⟩) hS.2.2 d_Pieces_begin_56 hlocks
set_option maxHeartbeats 4000000 in
set_option maxRecDepth 100000 in
theorem ct_Pieces_begin (l : Launch) (D : va_G) (a : Nat → Nat) (cA cZ : ClassId) (G : pG) (sz : Nat) (x1 x2 : Int32) (u : pS) (Q : pS → Prop) (hI : pw_I 40 a) (h : wp_Pieces_begin G x1 x2 u Q) : Met l y_Pieces_begin w_Pieces_begin ({ frames := 1, cells := 0, slots := 0, locals := 21 } : Room) (va_Pc [.ref (a 4), .int x1, .int x2] (pw_pre D (cw a cA cZ G) (cT cA cZ) sz u)) (va_Qv (fun (u : pS) => Q u) (pw_B D (cw a cA cZ G) (cT cA cZ)) (pw_F 40 a sz)) 0 0 (pw_F 40 a sz) := by
 refine Met.ofW (cc := b_Pieces_begin) (maxL := 3) (ret := none) (by decide) rfl ?_
 intro p e s m args below meth c s₁ B hml hv
 obtain ⟨rfl, hsz, hP, hK⟩ := hv
 subst hsz
 have hl := lv_entry ([.ref (a 4), .int x1, .int x2]) (n := 3) (Nat.le_of_ble_eq_true rfl)
 rw [lg_entry_eq]
 generalize (lg_sl ([.ref (a 4), .int x1, .int x2]) ++ List.replicate (3 - (lg_sl ([.ref (a 4), .int x1, .int x2])).length) Slot.unset).toArray = ls at hl ⊢
 exact st_Pieces_begin (A := (pw_F 40 a s.heap.size)) ⟨B.exec, B.bytes, B.returns, hml, findClass_of_methodNamed B.named, atoms_spec (ws := w_Pieces_begin) B.pre, B.notSynchronized, fun q hq => Or.inr hq⟩ ⟨hK, hI, fun k hk => Or.inl ⟨k, hk, rfl⟩⟩ x1 x2 u ls hP hl h
end
section
set_option maxHeartbeats 4000000 in
set_option maxRecDepth 100000 in
theorem st_Pieces_include {p : Program} {l : Launch} {e : Env} {s : State} {m : MethodId} {args : Array Value} {below : List Frame} {meth : Method} {c : Code} {D : va_G} {a : Nat → Nat} {cA cZ : ClassId} {G : pG} {A : Nat → Prop} {Q : pS → Prop} (C : pw_C p s m args meth c b_Pieces_include 3 R_Pieces none w_Pieces_include A) (K : pw_K s D 40 a (cT cA cZ) A) (x1 x2 : Int32) (u : pS) (ls : Array Slot) (hP : va_P D vwCl (cw a cA cZ G u) s.heap) (hl : lv_has ls 3 [(0, .ref (a 4)), (1, .int x1), (2, .int x2)]) (h : wp_Pieces_include G x1 x2 u Q) : W p l e ({ frames := 1, cells := 0, slots := 0, locals := 21 } : Room) s m args below meth c s.heap [] 0 0 (pw_Ev below args s D (cw a cA cZ G) (cT cA cZ) A Q) (F0 m 0 ls []) := by
 obtain ⟨hx, hb, hr, hml, hown, hts, hlocks, hA⟩ := id C
 obtain ⟨hK, hI, hF⟩ := id K
 have hD : ∀ u, va_D A (cw a cA cZ G u) := fun u => cw_D hI hF
 have hS : va_S A s.heap s.heap [] := va_S.rf
 have h : wp_Pieces_include G x1 x2 u Q := h
 refine lv_aload_n hx hb d_Pieces_include_0 rfl (lv_at hl 0 rfl) ?_
 refine va_get (D := D) (ci := 7) (v := .ref (a 25)) (C := R_Pieces) (T := T_Pieces) (N := 11) hx hb hts in_Pieces hown hK hP 4 cw_at_4 rfl 6 (by decide) (hts _ (List.mem_cons_of_mem _ kw_157)) (fun _ h9 => h9) rfl d_Pieces_include_1 ?_
 refine lv_iload_n hx hb d_Pieces_include_4 rfl (lv_at hl 2 rfl) ?_
 refine lv_dup2_11 hx hb d_Pieces_include_5 rfl rfl ?_
 refine va_iald hx hb hK hP 25 0 cw_at_25 rfl h.1 d_Pieces_include_6 ?_
 have h := h.2
 refine lv_iconst (v := 1) hx hb d_Pieces_include_7 (by decide) ?_
 refine lv_iadd hx hb d_Pieces_include_8 ?_
 refine va_iast hx hb hK hP (hD _) hS 25 0 cw_at_25 rfl h.1 d_Pieces_include_9 (fun H locs hP _ hS => ?_)
 obtain ⟨u1, eu1⟩ : ∃ z, z = pw_sa u 11 (upd (u.2 11) x2.toNatClampNeg ((u.2 11 x2.toNatClampNeg) + 1)) := ⟨_, rfl⟩
 rw [cw_sa_25, ← eu1] at hP
 have h := h.2 u1 eu1
 refine lv_aload_n hx hb d_Pieces_include_10 rfl (lv_at hl 0 rfl) ?_
 refine va_get (D := D) (ci := 7) (v := .ref (a 26)) (C := R_Pieces) (T := T_Pieces) (N := 11) hx hb hts in_Pieces hown hK hP 4 cw_at_4 rfl 7 (by decide) (hts _ (List.mem_cons_of_mem _ kw_158)) (fun _ h9 => h9) rfl d_Pieces_include_11 ?_
 refine lv_iload_n hx hb d_Pieces_include_14 rfl (lv_at hl 2 rfl) ?_
 refine lv_aload_n hx hb d_Pieces_include_15 rfl (lv_at hl 0 rfl) ?_
 refine va_get (D := D) (ci := 7) (v := .ref (a 26)) (C := R_Pieces) (T := T_Pieces) (N := 11) hx hb hts in_Pieces hown hK hP 4 cw_at_4 rfl 7 (by decide) (hts _ (List.mem_cons_of_mem _ kw_158)) (fun _ h9 => h9) rfl d_Pieces_include_16 ?_
 refine lv_iload_n hx hb d_Pieces_include_19 rfl (lv_at hl 2 rfl) ?_
 refine va_iald hx hb hK hP 26 0 cw_at_26 rfl h.1 d_Pieces_include_20 ?_
 have h := h.2
 refine lv_aload_n hx hb d_Pieces_include_21 rfl (lv_at hl 0 rfl) ?_
 refine va_get (D := D) (ci := 7) (v := .ref (a 1)) (C := R_Pieces) (T := T_Pieces) (N := 11) hx hb hts in_Pieces hown hK hP 4 cw_at_4 rfl 0 (by decide) (hts _ (List.mem_cons_of_mem _ kw_151)) (fun _ h9 => h9) rfl d_Pieces_include_22 ?_
 refine lv_iload_n hx hb d_Pieces_include_25 rfl (lv_at hl 1 rfl) ?_
 refine cc_i (va_runV (As := [.int x1]) (rest := [.int (u1.2 12 x2.toNatClampNeg), .int x2, .ref (a 26)]) ⟨hx, hb, hml, hown, hts⟩ (ct_Grid_columnOf l D a cA cZ G _ x1 u1 _ hI h) (pw_cwV 1 hts kw_513 kw_46 kw_510 kw_511 kw_512 (by decide +kernel) ⟨Nat.le_of_ble_eq_true rfl, Nat.le_of_ble_eq_true rfl⟩) ⟨pw_blind, va_recv hK hP (ci := 4) (q0 := 1) rfl cw_at_1, fun U hU hW => ⟨rfl, by rw [hU], by rw [hU]; exact hP, va_K.moved hW.alike hK⟩⟩ rfl rfl hl.1 rfl (lv_room (Nat.le_of_ble_eq_true rfl)) d_Pieces_include_26 ⟨Nat.le_of_ble_eq_true rfl, Nat.le_of_ble_eq_true rfl⟩) hS hF hA (fun r3 u2 H locs hP hS h => ?_)
 refine va_mmin hx hb (by rw [hml]; exact hl.1.symm) hown (hts _ (List.mem_cons_of_mem _ kw_522)) (hts _ (List.mem_cons_of_mem _ kw_80)) (hts _ (List.mem_cons_of_mem _ kw_47)) (hts _ (List.mem_cons_of_mem _ kw_81)) (Nat.le_of_ble_eq_true rfl) (Nat.le_of_ble_eq_true rfl) (Nat.le_of_ble_eq_true rfl) (Nat.le_of_ble_eq_true rfl) d_Pieces_include_29 ?_
 refine lv_topi (fun t4 et4 => ?_)
 have h := h t4 et4
 refine va_iast hx hb hK hP (hD _) hS 26 0 cw_at_26 rfl h.1 d_Pieces_include_32 (fun H locs hP _ hS => ?_)
 obtain ⟨u5, eu5⟩ : ∃ z, z = pw_sa u2 12 (upd (u2.2 12) x2.toNatClampNeg t4) := ⟨_, rfl⟩
 rw [cw_sa_26, ← eu5] at hP
 have h := h.2 u5 eu5
 refine lv_aload_n hx hb d_Pieces_include_33 rfl (lv_at hl 0 rfl) ?_
 refine va_get (D := D) (ci := 7) (v := .ref (a 27)) (C := R_Pieces) (T := T_Pieces) (N := 11) hx hb hts in_Pieces hown hK hP 4 cw_at_4 rfl 8 (by decide) (hts _ (List.mem_cons_of_mem _ kw_159)) (fun _ h9 => h9) rfl d_Pieces_include_34 ?_
 refine lv_iload_n hx hb d_Pieces_include_37 rfl (lv_at hl 2 rfl) ?_
 refine lv_aload_n hx hb d_Pieces_include_38 rfl (lv_at hl 0 rfl) ?_
 refine va_get (D := D) (ci := 7) (v := .ref (a 27)) (C := R_Pieces) (T := T_Pieces) (N := 11) hx hb hts in_Pieces hown hK hP 4 cw_at_4 rfl 8 (by decide) (hts _ (List.mem_cons_of_mem _ kw_159)) (fun _ h9 => h9) rfl d_Pieces_include_39 ?_
 refine lv_iload_n hx hb d_Pieces_include_42 rfl (lv_at hl 2 rfl) ?_
 refine va_iald hx hb hK hP 27 0 cw_at_27 rfl h.1 d_Pieces_include_43 ?_
 have h := h.2
 refine lv_aload_n hx hb d_Pieces_include_44 rfl (lv_at hl 0 rfl) ?_
 refine va_get (D := D) (ci := 7) (v := .ref (a 1)) (C := R_Pieces) (T := T_Pieces) (N := 11) hx hb hts in_Pieces hown hK hP 4 cw_at_4 rfl 0 (by decide) (hts _ (List.mem_cons_of_mem _ kw_151)) (fun _ h9 => h9) rfl d_Pieces_include_45 ?_
 refine lv_iload_n hx hb d_Pieces_include_48 rfl (lv_at hl 1 rfl) ?_
 refine cc_i (va_runV (As := [.int x1]) (rest := [.int (u5.2 13 x2.toNatClampNeg), .int x2, .ref (a 27)]) ⟨hx, hb, hml, hown, hts⟩ (ct_Grid_columnOf l D a cA cZ G _ x1 u5 _ hI h) (pw_cwV 1 hts kw_513 kw_46 kw_510 kw_511 kw_512 (by decide +kernel) ⟨Nat.le_of_ble_eq_true rfl, Nat.le_of_ble_eq_true rfl⟩) ⟨pw_blind, va_recv hK hP (ci := 4) (q0 := 1) rfl cw_at_1, fun U hU hW => ⟨rfl, by rw [hU], by rw [hU]; exact hP, va_K.moved hW.alike hK⟩⟩ rfl rfl hl.1 rfl (lv_room (Nat.le_of_ble_eq_true rfl)) d_Pieces_include_49 ⟨Nat.le_of_ble_eq_true rfl, Nat.le_of_ble_eq_true rfl⟩) hS hF hA (fun r7 u6 H locs hP hS h => ?_)
 refine va_mmax hx hb (by rw [hml]; exact hl.1.symm) hown (hts _ (List.mem_cons_of_mem _ kw_523)) (hts _ (List.mem_cons_of_mem _ kw_83)) (hts _ (List.mem_cons_of_mem _ kw_47)) (hts _ (List.mem_cons_of_mem _ kw_84)) (Nat.le_of_ble_eq_true rfl) (Nat.le_of_ble_eq_true rfl) (Nat.le_of_ble_eq_true rfl) (Nat.le_of_ble_eq_true rfl) d_Pieces_include_52 ?_
 refine lv_topi (fun t8 et8 => ?_)
 have h := h t8 et8
 refine va_iast hx hb hK hP (hD _) hS 27 0 cw_at_27 rfl h.1 d_Pieces_include_55 (fun H locs hP _ hS => ?_)
 obtain ⟨u9, eu9⟩ : ∃ z, z = pw_sa u6 13 (upd (u6.2 13) x2.toNatClampNeg t8) := ⟨_, rfl⟩
 rw [cw_sa_27, ← eu9] at hP
 have h := h.2 u9 eu9
 refine lv_aload_n hx hb d_Pieces_include_56 rfl (lv_at hl 0 rfl) ?_
 refine va_get (D := D) (ci := 7) (v := .ref (a 28)) (C := R_Pieces) (T := T_Pieces) (N := 11) hx hb hts in_Pieces hown hK hP 4 cw_at_4 rfl 9 (by decide) (hts _ (List.mem_cons_of_mem _ kw_160)) (fun _ h9 => h9) rfl d_Pieces_include_57 ?_
 refine lv_iload_n hx hb d_Pieces_include_60 rfl (lv_at hl 2 rfl) ?_
 refine lv_aload_n hx hb d_Pieces_include_61 rfl (lv_at hl 0 rfl) ?_
 refine va_get (D := D) (ci := 7) (v := .ref (a 28)) (C := R_Pieces) (T := T_Pieces) (N := 11) hx hb hts in_Pieces hown hK hP 4 cw_at_4 rfl 9 (by decide) (hts _ (List.mem_cons_of_mem _ kw_160)) (fun _ h9 => h9) rfl d_Pieces_include_62 ?_
 refine lv_iload_n hx hb d_Pieces_include_65 rfl (lv_at hl 2 rfl) ?_
 refine va_iald hx hb hK hP 28 0 cw_at_28 rfl h.1 d_Pieces_include_66 ?_
 have h := h.2
 refine lv_aload_n hx hb d_Pieces_include_67 rfl (lv_at hl 0 rfl) ?_
 refine va_get (D := D) (ci := 7) (v := .ref (a 1)) (C := R_Pieces) (T := T_Pieces) (N := 11) hx hb hts in_Pieces hown hK hP 4 cw_at_4 rfl 0 (by decide) (hts _ (List.mem_cons_of_mem _ kw_151)) (fun _ h9 => h9) rfl d_Pieces_include_68 ?_
 refine lv_iload_n hx hb d_Pieces_include_71 rfl (lv_at hl 1 rfl) ?_
 refine cc_i (va_runV (As := [.int x1]) (rest := [.int (u9.2 14 x2.toNatClampNeg), .int x2, .ref (a 28)]) ⟨hx, hb, hml, hown, hts⟩ (ct_Grid_rowOf l D a cA cZ G _ x1 u9 _ hI h) (pw_cwV 1 hts kw_517 kw_46 kw_514 kw_515 kw_516 (by decide +kernel) ⟨Nat.le_of_ble_eq_true rfl, Nat.le_of_ble_eq_true rfl⟩) ⟨pw_blind, va_recv hK hP (ci := 4) (q0 := 1) rfl cw_at_1, fun U hU hW => ⟨rfl, by rw [hU], by rw [hU]; exact hP, va_K.moved hW.alike hK⟩⟩ rfl rfl hl.1 rfl (lv_room (Nat.le_of_ble_eq_true rfl)) d_Pieces_include_72 ⟨Nat.le_of_ble_eq_true rfl, Nat.le_of_ble_eq_true rfl⟩) hS hF hA (fun r11 u10 H locs hP hS h => ?_)
 refine va_mmax hx hb (by rw [hml]; exact hl.1.symm) hown (hts _ (List.mem_cons_of_mem _ kw_523)) (hts _ (List.mem_cons_of_mem _ kw_83)) (hts _ (List.mem_cons_of_mem _ kw_47)) (hts _ (List.mem_cons_of_mem _ kw_84)) (Nat.le_of_ble_eq_true rfl) (Nat.le_of_ble_eq_true rfl) (Nat.le_of_ble_eq_true rfl) (Nat.le_of_ble_eq_true rfl) d_Pieces_include_75 ?_
 refine lv_topi (fun t12 et12 => ?_)
 have h := h t12 et12
 refine va_iast hx hb hK hP (hD _) hS 28 0 cw_at_28 rfl h.1 d_Pieces_include_78 (fun H locs hP _ hS => ?_)
 obtain ⟨u13, eu13⟩ : ∃ z, z = pw_sa u10 14 (upd (u10.2 14) x2.toNatClampNeg t12) := ⟨_, rfl⟩
 rw [cw_sa_28, ← eu13] at hP
 have h := h.2 u13 eu13
 exact W.vret hx hb hr (fun t ht hW => ⟨⟨u13, rfl, h, by rw [ht]; exact hP, va_K.moved hW.alike hK⟩, hS.F ht⟩) hS.2.2 d_Pieces_include_79 hlocks
set_option maxHeartbeats 4000000 in
set_option maxRecDepth 100000 in
theorem ct_Pieces_include (l : Launch) (D : va_G) (a : Nat → Nat) (cA cZ : ClassId) (G : pG) (sz : Nat) (x1 x2 : Int32) (u : pS) (Q : pS → Prop) (hI : pw_I 40 a) (h : wp_Pieces_include G x1 x2 u Q) : Met l y_Pieces_include w_Pieces_include ({ frames := 1, cells := 0, slots := 0, locals := 21 } : Room) (va_Pc [.ref (a 4), .int x1, .int x2] (pw_pre D (cw a cA cZ G) (cT cA cZ) sz u)) (va_Qv (fun (u : pS) => Q u) (pw_B D (cw a cA cZ G) (cT cA cZ)) (pw_F 40 a sz)) 0 0 (pw_F 40 a sz) := by
 refine Met.ofW (cc := b_Pieces_include) (maxL := 3) (ret := none) (by decide) rfl ?_
 intro p e s m args below meth c s₁ B hml hv
 obtain ⟨rfl, hsz, hP, hK⟩ := hv
 subst hsz
 have hl := lv_entry ([.ref (a 4), .int x1, .int x2]) (n := 3) (Nat.le_of_ble_eq_true rfl)
 rw [lg_entry_eq]
 generalize (lg_sl ([.ref (a 4), .int x1, .int x2]) ++ List.replicate (3 - (lg_sl ([.ref (a 4), .int x1, .int x2])).length) Slot.unset).toArray = ls at hl ⊢
 exact st_Pieces_include (A := (pw_F 40 a s.heap.size)) ⟨B.exec, B.bytes, B.returns, hml, findClass_of_methodNamed B.named, atoms_spec (ws := w_Pieces_include) B.pre, B.notSynchronized, fun q hq => Or.inr hq⟩ ⟨hK, hI, fun k hk => Or.inl ⟨k, hk, rfl⟩⟩ x1 x2 u ls hP hl h
set_option maxHeartbeats 4000000 in
set_option maxRecDepth 100000 in
theorem cp_Pieces_gather_62 {p : Program} {l : Launch} {e : Env} {s : State} {m : MethodId} {args : Array Value} {below : List Frame} {meth : Method} {c : Code} {D : va_G} {a : Nat → Nat} {cA cZ : ClassId} {G : pG} {A : Nat → Prop} {Q : pS → Prop} (C : pw_C p s m args meth c b_Pieces_gather 8 R_Pieces none w_Pieces_gather A) (K : pw_K s D 40 a (cT cA cZ) A) {k25 : Int32 → Int32 → Int32 → Int32 → pS → Prop} (hk25 : ∀ (x1 x2 x3 x4 : Int32) (u : pS) (H : Heap) (locs : List Loc) (ls : Array Slot), va_P D vwCl (cw a cA cZ G u) H → va_S A s.heap H locs → lv_has ls 8 [(0, .ref (a 4)), (1, .int x1), (2, .int x2), (3, .int x3), (4, .int x4)] → k25 x1 x2 x3 x4 u → W p l e ({ frames := 2, cells := 0, slots := 0, locals := 43 } : Room) s m args below meth c H locs 0 0 (pw_Ev below args s D (cw a cA cZ G) (cT cA cZ) A Q) (F0 m 25 ls [])) : ∀ (n : Nat), ∀ (x1 x2 x3 x4 x5 x6 : Int32) (u : pS) (H : Heap) (locs : List Loc) (ls : Array Slot), va_P D vwCl (cw a cA cZ G u) H → va_S A s.heap H locs → lv_has ls 8 [(0, .ref (a 4)), (1, .int x1), (2, .int x2), (3, .int x3), (4, .int x4), (5, .int x5), (6, .int x6)] → lp_Pieces_gather_62 G Q k25 n x1 x2 x3 x4 x5 x6 u → W p l e ({ frames := 2, cells := 0, slots := 0, locals := 43 } : Room) s m args below meth c H locs 0 0 (pw_Ev below args s D (cw a cA cZ G) (cT cA cZ) A Q) (F0 m 62 ls []) := by
 obtain ⟨hx, hb, hr, hml, hown, hts, hlocks, hA⟩ := id C
 obtain ⟨hK, hI, hF⟩ := id K
 have hD : ∀ u, va_D A (cw a cA cZ G u) := fun u => cw_D hI hF
 intro n
 induction n with
 | zero => intro x1 x2 x3 x4 x5 x6 u H locs ls hP hS hl h; exact h.elim
 | succ n ih =>
   intro x1 x2 x3 x4 x5 x6 u H locs ls hP hS hl h
   refine lv_iload hx hb d_Pieces_gather_62 (lv_at hl 6 rfl) ?_
   refine lv_iconst (v := 4) hx hb d_Pieces_gather_64 (by decide) ?_
   refine lv_icmp_ge (tgt := 150) hx hb d_Pieces_gather_65 (by decide) (fun c8 => ?_) (fun c8 => ?_)
   · have h := h.1 c8
     obtain ⟨t9, et9⟩ : ∃ y : Int32, y = x4 + 1 := ⟨_, rfl⟩
     have h := h t9 et9
     refine lv_iinc (v := t9) (lv' := [(4, .int t9), (0, .ref (a 4)), (1, .int x1), (2, .int x2), (3, .int x3), (5, .int x5), (6, .int x6)]) hx hb d_Pieces_gather_150 hl (k := 4) rfl (by rw [et9]; rfl) (by decide) rfl (fun ls hl => ?_)
     refine lv_goto (tgt := 25) hx hb d_Pieces_gather_153 (by decide) ?_
     exact hk25 x1 x2 x3 t9 u _ _ _ hP hS (lv_sub hl [1, 2, 3, 4, 0] rfl) h
   · have h := h.2 c8
     refine lv_aload_n hx hb d_Pieces_gather_68 rfl (lv_at hl 0 rfl) ?_
     refine va_get (D := D) (ci := 7) (v := .ref (a 1)) (C := R_Pieces) (T := T_Pieces) (N := 11) hx hb hts in_Pieces hown hK hP 4 cw_at_4 rfl 0 (by decide) (hts _ (List.mem_cons_of_mem _ kw_151)) (fun _ h9 => h9) rfl d_Pieces_gather_69 ?_
     refine lv_iload hx hb d_Pieces_gather_72 (lv_at hl 5 rfl) ?_
     refine lv_iload hx hb d_Pieces_gather_74 (lv_at hl 6 rfl) ?_
     refine cc_i (va_runV (As := [.int x5, .int x6]) (rest := []) ⟨hx, hb, hml, hown, hts⟩ (ct_Grid_besideOf l D a cA cZ G _ x5 x6 u _ hI h) (pw_cwV 2 hts kw_527 kw_46 kw_524 kw_525 kw_526 (by decide +kernel) ⟨Nat.le_of_ble_eq_true rfl, Nat.le_of_ble_eq_true rfl⟩) ⟨pw_blind, va_recv hK hP (ci := 4) (q0 := 1) rfl cw_at_1, fun U hU hW => ⟨rfl, by rw [hU], by rw [hU]; exact hP, va_K.moved hW.alike hK⟩⟩ rfl rfl hl.1 rfl (lv_room (Nat.le_of_ble_eq_true rfl)) d_Pieces_gather_76 ⟨Nat.le_of_ble_eq_true rfl, Nat.le_of_ble_eq_true rfl⟩) hS hF hA (fun r11 u10 H locs hP hS h => ?_)
     refine lv_istore (lv' := [(7, .int r11), (0, .ref (a 4)), (1, .int x1), (2, .int x2), (3, .int x3), (4, .int x4), (5, .int x5), (6, .int x6)]) hx hb d_Pieces_gather_79 hl (by decide) rfl (fun ls hl => ?_)
     refine lv_iload hx hb d_Pieces_gather_81 (lv_at hl 0 rfl) ?_
     refine lv_iconst (v := -1) hx hb d_Pieces_gather_83 (by decide) ?_
     refine lv_icmp_eq (tgt := 144) hx hb d_Pieces_gather_84 (by decide) (fun c12 => ?_) (fun c12 => ?_)
     · have h := h.1 c12
       obtain ⟨t13, et13⟩ : ∃ y : Int32, y = x6 + 1 := ⟨_, rfl⟩
       have h := h t13 et13
       refine lv_iinc (v := t13) (lv' := [(6, .int t13), (7, .int r11), (0, .ref (a 4)), (1, .int x1), (2, .int x2), (3, .int x3), (4, .int x4), (5, .int x5)]) hx hb d_Pieces_gather_144 hl (k := 7) rfl (by rw [et13]; rfl) (by decide) rfl (fun ls hl => ?_)
       refine lv_goto (tgt := 62) hx hb d_Pieces_gather_147 (by decide) ?_
       exact ih x1 x2 x3 x4 x5 t13 u10 _ _ _ hP hS (lv_sub hl [2, 3, 4, 5, 6, 7, 0] rfl) h
     · have h := h.2 c12
       refine lv_aload_n hx hb d_Pieces_gather_87 rfl (lv_at hl 1 rfl) ?_
       refine va_get (D := D) (ci := 7) (v := .ref (a 21)) (C := R_Pieces) (T := T_Pieces) (N := 11) hx hb hts in_Pieces hown hK hP 4 cw_at_4 rfl 2 (by decide) (hts _ (List.mem_cons_of_mem _ kw_153)) (fun _ h9 => h9) rfl d_Pieces_gather_88 ?_
       refine lv_iload hx hb d_Pieces_gather_91 (lv_at hl 0 rfl) ?_
       refine va_iald hx hb hK hP 21 0 cw_at_21 rfl h.1 d_Pieces_gather_93 ?_
       have h := h.2
       refine lv_iconst (v := -1) hx hb d_Pieces_gather_94 (by decide) ?_
       refine lv_icmp_ne (tgt := 144) hx hb d_Pieces_gather_95 (by decide) (fun c14 => ?_) (fun c14 => ?_)
       · have h := h.2 c14
         obtain ⟨t15, et15⟩ : ∃ y : Int32, y = x6 + 1 := ⟨_, rfl⟩
         have h := h t15 et15
         refine lv_iinc (v := t15) (lv' := [(6, .int t15), (7, .int r11), (0, .ref (a 4)), (1, .int x1), (2, .int x2), (3, .int x3), (4, .int x4), (5, .int x5)]) hx hb d_Pieces_gather_144 hl (k := 7) rfl (by rw [et15]; rfl) (by decide) rfl (fun ls hl => ?_)
         refine lv_goto (tgt := 62) hx hb d_Pieces_gather_147 (by decide) ?_
         exact ih x1 x2 x3 x4 x5 t15 u10 _ _ _ hP hS (lv_sub hl [2, 3, 4, 5, 6, 7, 0] rfl) h
       · have h := h.1 c14
         refine lv_aload_n hx hb d_Pieces_gather_98 rfl (lv_at hl 1 rfl) ?_
         refine va_get (D := D) (ci := 7) (v := .ref (a 20)) (C := R_Pieces) (T := T_Pieces) (N := 11) hx hb hts in_Pieces hown hK hP 4 cw_at_4 rfl 1 (by decide) (hts _ (List.mem_cons_of_mem _ kw_152)) (fun _ h9 => h9) rfl d_Pieces_gather_99 ?_
         refine lv_iload hx hb d_Pieces_gather_102 (lv_at hl 0 rfl) ?_
         refine va_iald hx hb hK hP 20 0 cw_at_20 rfl h.1 d_Pieces_gather_104 ?_
         have h := h.2
         refine lv_aload_n hx hb d_Pieces_gather_105 rfl (lv_at hl 1 rfl) ?_
         refine va_get (D := D) (ci := 7) (v := .ref (a 20)) (C := R_Pieces) (T := T_Pieces) (N := 11) hx hb hts in_Pieces hown hK hP 4 cw_at_4 rfl 1 (by decide) (hts _ (List.mem_cons_of_mem _ kw_152)) (fun _ h9 => h9) rfl d_Pieces_gather_106 ?_
         refine lv_iload_n hx hb d_Pieces_gather_109 rfl (lv_at hl 2 rfl) ?_
         refine va_iald hx hb hK hP 20 0 cw_at_20 rfl h.1 d_Pieces_gather_110 ?_
         have h := h.2
         refine lv_icmp_ne (tgt := 144) hx hb d_Pieces_gather_111 (by decide) (fun c16 => ?_) (fun c16 => ?_)
         · have h := h.2 c16
           obtain ⟨t17, et17⟩ : ∃ y : Int32, y = x6 + 1 := ⟨_, rfl⟩
           have h := h t17 et17
           refine lv_iinc (v := t17) (lv' := [(6, .int t17), (7, .int r11), (0, .ref (a 4)), (1, .int x1), (2, .int x2), (3, .int x3), (4, .int x4), (5, .int x5)]) hx hb d_Pieces_gather_144 hl (k := 7) rfl (by rw [et17]; rfl) (by decide) rfl (fun ls hl => ?_)
           refine lv_goto (tgt := 62) hx hb d_Pieces_gather_147 (by decide) ?_
           exact ih x1 x2 x3 x4 x5 t17 u10 _ _ _ hP hS (lv_sub hl [2, 3, 4, 5, 6, 7, 0] rfl) h
         · have h := h.1 c16
           refine lv_iload_n hx hb d_Pieces_gather_114 rfl (lv_at hl 4 rfl) ?_
           refine lv_aload_n hx hb d_Pieces_gather_115 rfl (lv_at hl 1 rfl) ?_
           refine va_get (D := D) (ci := 7) (v := .ref (a 1)) (C := R_Pieces) (T := T_Pieces) (N := 11) hx hb hts in_Pieces hown hK hP 4 cw_at_4 rfl 0 (by decide) (hts _ (List.mem_cons_of_mem _ kw_151)) (fun _ h9 => h9) rfl d_Pieces_gather_116 ?_
           refine va_get (D := D) (ci := 4) (v := .int (G.2.1 3)) (C := R_Grid) (T := T_Grid) (N := 6) hx hb hts in_Grid hown hK hP 1 cw_at_1 rfl 2 (by decide) (hts _ (List.mem_cons_of_mem _ kw_107)) (fun _ h9 => h9) rfl d_Pieces_gather_119 ?_
           refine lv_icmp_ge (tgt := 144) hx hb d_Pieces_gather_122 (by decide) (fun c18 => ?_) (fun c18 => ?_)
           · have h := h.1 c18
             obtain ⟨t19, et19⟩ : ∃ y : Int32, y = x6 + 1 := ⟨_, rfl⟩
             have h := h t19 et19
             refine lv_iinc (v := t19) (lv' := [(6, .int t19), (7, .int r11), (0, .ref (a 4)), (1, .int x1), (2, .int x2), (3, .int x3), (4, .int x4), (5, .int x5)]) hx hb d_Pieces_gather_144 hl (k := 7) rfl (by rw [et19]; rfl) (by decide) rfl (fun ls hl => ?_)
             refine lv_goto (tgt := 62) hx hb d_Pieces_gather_147 (by decide) ?_
             exact ih x1 x2 x3 x4 x5 t19 u10 _ _ _ hP hS (lv_sub hl [2, 3, 4, 5, 6, 7, 0] rfl) h
           · have h := h.2 c18
             refine lv_aload_n hx hb d_Pieces_gather_125 rfl (lv_at hl 1 rfl) ?_
             refine va_get (D := D) (ci := 7) (v := .ref (a 21)) (C := R_Pieces) (T := T_Pieces) (N := 11) hx hb hts in_Pieces hown hK hP 4 cw_at_4 rfl 2 (by decide) (hts _ (List.mem_cons_of_mem _ kw_153)) (fun _ h9 => h9) rfl d_Pieces_gather_126 ?_
             refine lv_iload hx hb d_Pieces_gather_129 (lv_at hl 0 rfl) ?_
             refine lv_iload_n hx hb d_Pieces_gather_131 rfl (lv_at hl 3 rfl) ?_
             refine va_iast hx hb hK hP (hD _) hS 21 0 cw_at_21 rfl h.1 d_Pieces_gather_132 (fun H locs hP _ hS => ?_)
             obtain ⟨u20, eu20⟩ : ∃ z, z = pw_sa u10 7 (upd (u10.2 7) r11.toNatClampNeg x2) := ⟨_, rfl⟩
             rw [cw_sa_21, ← eu20] at hP
             have h := h.2 u20 eu20
             refine lv_aload_n hx hb d_Pieces_gather_133 rfl (lv_at hl 1 rfl) ?_
             refine va_get (D := D) (ci := 7) (v := .ref (a 22)) (C := R_Pieces) (T := T_Pieces) (N := 11) hx hb hts in_Pieces hown hK hP 4 cw_at_4 rfl 3 (by decide) (hts _ (List.mem_cons_of_mem _ kw_154)) (fun _ h9 => h9) rfl d_Pieces_gather_134 ?_
             refine lv_iload_n hx hb d_Pieces_gather_137 rfl (lv_at hl 4 rfl) ?_
             refine lv_iload hx hb d_Pieces_gather_138 (lv_at hl 0 rfl) ?_
             refine va_iast hx hb hK hP (hD _) hS 22 0 cw_at_22 rfl h.1 d_Pieces_gather_140 (fun H locs hP _ hS => ?_)
             obtain ⟨u21, eu21⟩ : ∃ z, z = pw_sa u20 8 (upd (u20.2 8) x3.toNatClampNeg r11) := ⟨_, rfl⟩
             rw [cw_sa_22, ← eu21] at hP
             have h := h.2 u21 eu21
             obtain ⟨t22, et22⟩ : ∃ y : Int32, y = x3 + 1 := ⟨_, rfl⟩
             have h := h t22 et22
             refine lv_iinc (v := t22) (lv' := [(3, .int t22), (7, .int r11), (0, .ref (a 4)), (1, .int x1), (2, .int x2), (4, .int x4), (5, .int x5), (6, .int x6)]) hx hb d_Pieces_gather_141 hl (k := 4) rfl (by rw [et22]; rfl) (by decide) rfl (fun ls hl => ?_)
             obtain ⟨t23, et23⟩ : ∃ y : Int32, y = x6 + 1 := ⟨_, rfl⟩
             have h := h t23 et23
             refine lv_iinc (v := t23) (lv' := [(6, .int t23), (3, .int t22), (7, .int r11), (0, .ref (a 4)), (1, .int x1), (2, .int x2), (4, .int x4), (5, .int x5)]) hx hb d_Pieces_gather_144 hl (k := 7) rfl (by rw [et23]; rfl) (by decide) rfl (fun ls hl => ?_)
             refine lv_goto (tgt := 62) hx hb d_Pieces_gather_147 (by decide) ?_
             exact ih x1 x2 t22 x4 x5 t23 u21 _ _ _ hP hS (lv_sub hl [3, 4, 5, 1, 6, 7, 0] rfl) h
set_option maxHeartbeats 4000000 in
set_option maxRecDepth 100000 in
theorem cp_Pieces_gather_25 {p : Program} {l : Launch} {e : Env} {s : State} {m : MethodId} {args : Array Value} {below : List Frame} {meth : Method} {c : Code} {D : va_G} {a : Nat → Nat} {cA cZ : ClassId} {G : pG} {A : Nat → Prop} {Q : pS → Prop} (C : pw_C p s m args meth c b_Pieces_gather 8 R_Pieces none w_Pieces_gather A) (K : pw_K s D 40 a (cT cA cZ) A) : ∀ (n : Nat), ∀ (x1 x2 x3 x4 : Int32) (u : pS) (H : Heap) (locs : List Loc) (ls : Array Slot), va_P D vwCl (cw a cA cZ G u) H → va_S A s.heap H locs → lv_has ls 8 [(0, .ref (a 4)), (1, .int x1), (2, .int x2), (3, .int x3), (4, .int x4)] → lp_Pieces_gather_25 G Q n x1 x2 x3 x4 u → W p l e ({ frames := 2, cells := 0, slots := 0, locals := 43 } : Room) s m args below meth c H locs 0 0 (pw_Ev below args s D (cw a cA cZ G) (cT cA cZ) A Q) (F0 m 25 ls []) := by
 obtain ⟨hx, hb, hr, hml, hown, hts, hlocks, hA⟩ := id C
 obtain ⟨hK, hI, hF⟩ := id K
 have hD : ∀ u, va_D A (cw a cA cZ G u) := fun u => cw_D hI hF
 intro n
 induction n with
 | zero => intro x1 x2 x3 x4 u H locs ls hP hS hl h; exact h.elim
 | succ n ih =>
   intro x1 x2 x3 x4 u H locs ls hP hS hl h
   refine lv_iload hx hb d_Pieces_gather_25 (lv_at hl 4 rfl) ?_
   refine lv_iload_n hx hb d_Pieces_gather_27 rfl (lv_at hl 3 rfl) ?_
   refine lv_icmp_ge (tgt := 156) hx hb d_Pieces_gather_28 (by decide) (fun c4 => ?_) (fun c4 => ?_)
   · have h := h.1 c4
     exact W.vret hx hb hr (fun t ht hW => ⟨⟨u, rfl, h, by rw [ht]; exact hP, va_K.moved hW.alike hK⟩, hS.F ht⟩) hS.2.2 d_Pieces_gather_156 hlocks
   · have h := h.2 c4
     refine lv_iload hx hb d_Pieces_gather_31 (lv_at hl 4 rfl) ?_
     refine lv_aload_n hx hb d_Pieces_gather_33 rfl (lv_at hl 0 rfl) ?_
     refine va_get (D := D) (ci := 7) (v := .ref (a 1)) (C := R_Pieces) (T := T_Pieces) (N := 11) hx hb hts in_Pieces hown hK hP 4 cw_at_4 rfl 0 (by decide) (hts _ (List.mem_cons_of_mem _ kw_151)) (fun _ h9 => h9) rfl d_Pieces_gather_34 ?_
     refine va_get (D := D) (ci := 4) (v := .int (G.2.1 3)) (C := R_Grid) (T := T_Grid) (N := 6) hx hb hts in_Grid hown hK hP 1 cw_at_1 rfl 2 (by decide) (hts _ (List.mem_cons_of_mem _ kw_107)) (fun _ h9 => h9) rfl d_Pieces_gather_37 ?_
     refine lv_icmp_ge (tgt := 156) hx hb d_Pieces_gather_40 (by decide) (fun c5 => ?_) (fun c5 => ?_)
     · have h := h.1 c5
       exact W.vret hx hb hr (fun t ht hW => ⟨⟨u, rfl, h, by rw [ht]; exact hP, va_K.moved hW.alike hK⟩, hS.F ht⟩) hS.2.2 d_Pieces_gather_156 hlocks
     · have h := h.2 c5
       refine lv_aload_n hx hb d_Pieces_gather_43 rfl (lv_at hl 0 rfl) ?_
       refine va_get (D := D) (ci := 7) (v := .ref (a 22)) (C := R_Pieces) (T := T_Pieces) (N := 11) hx hb hts in_Pieces hown hK hP 4 cw_at_4 rfl 3 (by decide) (hts _ (List.mem_cons_of_mem _ kw_154)) (fun _ h9 => h9) rfl d_Pieces_gather_44 ?_
       refine lv_iload hx hb d_Pieces_gather_47 (lv_at hl 4 rfl) ?_
       refine va_iald hx hb hK hP 22 0 cw_at_22 rfl h.1 d_Pieces_gather_49 ?_
       have h := h.2
       refine lv_topi (fun t6 et6 => ?_)
       have h := h t6 et6
       refine lv_istore (lv' := [(5, .int t6), (0, .ref (a 4)), (1, .int x1), (2, .int x2), (3, .int x3), (4, .int x4)]) hx hb d_Pieces_gather_50 hl (by decide) rfl (fun ls hl => ?_)
       refine lv_aload_n hx hb d_Pieces_gather_52 rfl (lv_at hl 1 rfl) ?_
       refine lv_iload hx hb d_Pieces_gather_53 (lv_at hl 0 rfl) ?_
       refine lv_iload_n hx hb d_Pieces_gather_55 rfl (lv_at hl 3 rfl) ?_
       refine cc_v (va_runV (As := [.int t6, .int x2]) (rest := []) ⟨hx, hb, hml, hown, hts⟩ (ct_Pieces_include l D a cA cZ G _ t6 x2 u _ hI h) (pw_cwV 2 hts kw_521 kw_49 kw_518 kw_520 kw_6 (by decide +kernel) ⟨Nat.le_of_ble_eq_true rfl, Nat.le_of_ble_eq_true rfl⟩) ⟨pw_blind, va_recv hK hP (ci := 7) (q0 := 4) rfl cw_at_4, fun U hU hW => ⟨rfl, by rw [hU], by rw [hU]; exact hP, va_K.moved hW.alike hK⟩⟩ rfl rfl hl.1 rfl (lv_room (Nat.le_of_ble_eq_true rfl)) d_Pieces_gather_56 ⟨Nat.le_of_ble_eq_true rfl, Nat.le_of_ble_eq_true rfl⟩) hS hF hA (fun u7 H locs hP hS h => ?_)
       refine lv_iconst (v := 0) hx hb d_Pieces_gather_59 (by decide) ?_
       refine lv_istore (lv' := [(6, .int 0), (5, .int t6), (0, .ref (a 4)), (1, .int x1), (2, .int x2), (3, .int x3), (4, .int x4)]) hx hb d_Pieces_gather_60 hl (by decide) rfl (fun ls hl => ?_)
       obtain ⟨n1, h⟩ := h
       exact cp_Pieces_gather_62 C K ih n1 x1 x2 x3 x4 t6 0 u7 _ _ _ hP hS (lv_sub hl [2, 3, 4, 5, 6, 1, 0] rfl) h
set_option maxHeartbeats 4000000 in
set_option maxRecDepth 100000 in
theorem st_Pieces_gather {p : Program} {l : Launch} {e : Env} {s : State} {m : MethodId} {args : Array Value} {below : List Frame} {meth : Method} {c : Code} {D : va_G} {a : Nat → Nat} {cA cZ : ClassId} {G : pG} {A : Nat → Prop} {Q : pS → Prop} (C : pw_C p s m args meth c b_Pieces_gather 8 R_Pieces none w_Pieces_gather A) (K : pw_K s D 40 a (cT cA cZ) A) (x1 x2 : Int32) (u : pS) (ls : Array Slot) (hP : va_P D vwCl (cw a cA cZ G u) s.heap) (hl : lv_has ls 8 [(0, .ref (a 4)), (1, .int x1), (2, .int x2)]) (h : wp_Pieces_gather G x1 x2 u Q) : W p l e ({ frames := 2, cells := 0, slots := 0, locals := 43 } : Room) s m args below meth c s.heap [] 0 0 (pw_Ev below args s D (cw a cA cZ G) (cT cA cZ) A Q) (F0 m 0 ls []) := by
 obtain ⟨hx, hb, hr, hml, hown, hts, hlocks, hA⟩ := id C
 obtain ⟨hK, hI, hF⟩ := id K
 have hD : ∀ u, va_D A (cw a cA cZ G u) := fun u => cw_D hI hF
 have hS : va_S A s.heap s.heap [] := va_S.rf
 have h : wp_Pieces_gather G x1 x2 u Q := h
 refine lv_aload_n hx hb d_Pieces_gather_0 rfl (lv_at hl 0 rfl) ?_
 refine lv_iload_n hx hb d_Pieces_gather_1 rfl (lv_at hl 1 rfl) ?_
 refine lv_iload_n hx hb d_Pieces_gather_2 rfl (lv_at hl 2 rfl) ?_
 refine cc_v (va_runV (As := [.int x1, .int x2]) (rest := []) ⟨hx, hb, hml, hown, hts⟩ (ct_Pieces_begin l D a cA cZ G _ x1 x2 u _ hI h) (pw_cwV 2 hts kw_509 kw_49 kw_506 kw_508 kw_5 (by decide +kernel) ⟨Nat.le_of_ble_eq_true rfl, Nat.le_of_ble_eq_true rfl⟩) ⟨pw_blind, va_recv hK hP (ci := 7) (q0 := 4) rfl cw_at_4, fun U hU hW => ⟨rfl, by rw [hU], by rw [hU]; exact hP, va_K.moved hW.alike hK⟩⟩ rfl rfl hl.1 rfl (lv_room (Nat.le_of_ble_eq_true rfl)) d_Pieces_gather_3 ⟨Nat.le_of_ble_eq_true rfl, Nat.le_of_ble_eq_true rfl⟩) hS hF hA (fun u1 H locs hP hS h => ?_)
 refine lv_aload_n hx hb d_Pieces_gather_6 rfl (lv_at hl 0 rfl) ?_
 refine va_get (D := D) (ci := 7) (v := .ref (a 21)) (C := R_Pieces) (T := T_Pieces) (N := 11) hx hb hts in_Pieces hown hK hP 4 cw_at_4 rfl 2 (by decide) (hts _ (List.mem_cons_of_mem _ kw_153)) (fun _ h9 => h9) rfl d_Pieces_gather_7 ?_
 refine lv_iload_n hx hb d_Pieces_gather_10 rfl (lv_at hl 1 rfl) ?_
 refine lv_iload_n hx hb d_Pieces_gather_11 rfl (lv_at hl 2 rfl) ?_
 refine va_iast hx hb hK hP (hD _) hS 21 0 cw_at_21 rfl h.1 d_Pieces_gather_12 (fun H locs hP _ hS => ?_)
 obtain ⟨u2, eu2⟩ : ∃ z, z = pw_sa u1 7 (upd (u1.2 7) x1.toNatClampNeg x2) := ⟨_, rfl⟩
 rw [cw_sa_21, ← eu2] at hP
 have h := h.2 u2 eu2
 refine lv_aload_n hx hb d_Pieces_gather_13 rfl (lv_at hl 0 rfl) ?_
 refine va_get (D := D) (ci := 7) (v := .ref (a 22)) (C := R_Pieces) (T := T_Pieces) (N := 11) hx hb hts in_Pieces hown hK hP 4 cw_at_4 rfl 3 (by decide) (hts _ (List.mem_cons_of_mem _ kw_154)) (fun _ h9 => h9) rfl d_Pieces_gather_14 ?_
 refine lv_iconst (v := 0) hx hb d_Pieces_gather_17 (by decide) ?_
 refine lv_iload_n hx hb d_Pieces_gather_18 rfl (lv_at hl 1 rfl) ?_
 refine va_iast hx hb hK hP (hD _) hS 22 0 cw_at_22 rfl h.1 d_Pieces_gather_19 (fun H locs hP _ hS => ?_)
 obtain ⟨u3, eu3⟩ : ∃ z, z = pw_sa u2 8 (upd (u2.2 8) (0 : Int32).toNatClampNeg x1) := ⟨_, rfl⟩
 rw [cw_sa_22, ← eu3] at hP
 have h := h.2 u3 eu3
 refine lv_iconst (v := 1) hx hb d_Pieces_gather_20 (by decide) ?_
 refine lv_istore_n (lv' := [(3, .int 1), (0, .ref (a 4)), (1, .int x1), (2, .int x2)]) hx hb d_Pieces_gather_21 rfl hl (by decide) rfl (fun ls hl => ?_)
 refine lv_iconst (v := 0) hx hb d_Pieces_gather_22 (by decide) ?_
 refine lv_istore (lv' := [(4, .int 0), (3, .int 1), (0, .ref (a 4)), (1, .int x1), (2, .int x2)]) hx hb d_Pieces_gather_23 hl (by decide) rfl (fun ls hl => ?_)
 obtain ⟨n1, h⟩ := h
 exact cp_Pieces_gather_25 C K n1 x1 x2 1 0 u3 _ _ _ hP hS (lv_sub hl [2, 3, 4, 1, 0] rfl) h
set_option maxHeartbeats 4000000 in
set_option maxRecDepth 100000 in
theorem ct_Pieces_gather (l : Launch) (D : va_G) (a : Nat → Nat) (cA cZ : ClassId) (G : pG) (sz : Nat) (x1 x2 : Int32) (u : pS) (Q : pS → Prop) (hI : pw_I 40 a) (h : wp_Pieces_gather G x1 x2 u Q) : Met l y_Pieces_gather w_Pieces_gather ({ frames := 2, cells := 0, slots := 0, locals := 43 } : Room) (va_Pc [.ref (a 4), .int x1, .int x2] (pw_pre D (cw a cA cZ G) (cT cA cZ) sz u)) (va_Qv (fun (u : pS) => Q u) (pw_B D (cw a cA cZ G) (cT cA cZ)) (pw_F 40 a sz)) 0 0 (pw_F 40 a sz) := by
 refine Met.ofW (cc := b_Pieces_gather) (maxL := 8) (ret := none) (by decide) rfl ?_
 intro p e s m args below meth c s₁ B hml hv
 obtain ⟨rfl, hsz, hP, hK⟩ := hv
 subst hsz
 have hl := lv_entry ([.ref (a 4), .int x1, .int x2]) (n := 8) (Nat.le_of_ble_eq_true rfl)
 rw [lg_entry_eq]
 generalize (lg_sl ([.ref (a 4), .int x1, .int x2]) ++ List.replicate (8 - (lg_sl ([.ref (a 4), .int x1, .int x2])).length) Slot.unset).toArray = ls at hl ⊢
 exact st_Pieces_gather (A := (pw_F 40 a s.heap.size)) ⟨B.exec, B.bytes, B.returns, hml, findClass_of_methodNamed B.named, atoms_spec (ws := w_Pieces_gather) B.pre, B.notSynchronized, fun q hq => Or.inr hq⟩ ⟨hK, hI, fun k hk => Or.inl ⟨k, hk, rfl⟩⟩ x1 x2 u ls hP hl h
set_option maxHeartbeats 4000000 in
set_option maxRecDepth 100000 in
theorem cp_Pieces_gatherAll_15 {p : Program} {l : Launch} {e : Env} {s : State} {m : MethodId} {args : Array Value} {below : List Frame} {meth : Method} {c : Code} {D : va_G} {a : Nat → Nat} {cA cZ : ClassId} {G : pG} {A : Nat → Prop} {Q : pS → Prop} (C : pw_C p s m args meth c b_Pieces_gatherAll 2 R_Pieces none w_Pieces_gatherAll A) (K : pw_K s D 40 a (cT cA cZ) A) : ∀ (n : Nat), ∀ (x1 : Int32) (u : pS) (H : Heap) (locs : List Loc) (ls : Array Slot), va_P D vwCl (cw a cA cZ G u) H → va_S A s.heap H locs → lv_has ls 2 [(0, .ref (a 4)), (1, .int x1)] → lp_Pieces_gatherAll_15 G Q n x1 u → W p l e ({ frames := 3, cells := 0, slots := 0, locals := 70 } : Room) s m args below meth c H locs 0 0 (pw_Ev below args s D (cw a cA cZ G) (cT cA cZ) A Q) (F0 m 15 ls []) := by
 obtain ⟨hx, hb, hr, hml, hown, hts, hlocks, hA⟩ := id C
 obtain ⟨hK, hI, hF⟩ := id K
 have hD : ∀ u, va_D A (cw a cA cZ G u) := fun u => cw_D hI hF
 intro n
 induction n with
 | zero => intro x1 u H locs ls hP hS hl h; exact h.elim
 | succ n ih =>
   intro x1 u H locs ls hP hS hl h
   refine lv_iload_n hx hb d_Pieces_gatherAll_15 rfl (lv_at hl 1 rfl) ?_
   refine lv_aload_n hx hb d_Pieces_gatherAll_16 rfl (lv_at hl 0 rfl) ?_
   refine va_get (D := D) (ci := 7) (v := .ref (a 1)) (C := R_Pieces) (T := T_Pieces) (N := 11) hx hb hts in_Pieces hown hK hP 4 cw_at_4 rfl 0 (by decide) (hts _ (List.mem_cons_of_mem _ kw_151)) (fun _ h9 => h9) rfl d_Pieces_gatherAll_17 ?_
   refine va_get (D := D) (ci := 4) (v := .int (G.2.1 3)) (C := R_Grid) (T := T_Grid) (N := 6) hx hb hts in_Grid hown hK hP 1 cw_at_1 rfl 2 (by decide) (hts _ (List.mem_cons_of_mem _ kw_107)) (fun _ h9 => h9) rfl d_Pieces_gatherAll_20 ?_
   refine lv_icmp_ge (tgt := 61) hx hb d_Pieces_gatherAll_23 (by decide) (fun c3 => ?_) (fun c3 => ?_)
   · have h := h.1 c3
     exact W.vret hx hb hr (fun t ht hW => ⟨⟨u, rfl, h, by rw [ht]; exact hP, va_K.moved hW.alike hK⟩, hS.F ht⟩) hS.2.2 d_Pieces_gatherAll_61 hlocks
   · have h := h.2 c3
     refine lv_aload_n hx hb d_Pieces_gatherAll_26 rfl (lv_at hl 0 rfl) ?_
     refine va_get (D := D) (ci := 7) (v := .ref (a 21)) (C := R_Pieces) (T := T_Pieces) (N := 11) hx hb hts in_Pieces hown hK hP 4 cw_at_4 rfl 2 (by decide) (hts _ (List.mem_cons_of_mem _ kw_153)) (fun _ h9 => h9) rfl d_Pieces_gatherAll_27 ?_
     refine lv_iload_n hx hb d_Pieces_gatherAll_30 rfl (lv_at hl 1 rfl) ?_
     refine va_iald hx hb hK hP 21 0 cw_at_21 rfl h.1 d_Pieces_gatherAll_31 ?_
     have h := h.2
     refine lv_iconst (v := -1) hx hb d_Pieces_gatherAll_32 (by decide) ?_
     refine lv_icmp_ne (tgt := 55) hx hb d_Pieces_gatherAll_33 (by decide) (fun c4 => ?_) (fun c4 => ?_)
     · have h := h.2 c4
       obtain ⟨t5, et5⟩ : ∃ y : Int32, y = x1 + 1 := ⟨_, rfl⟩
       have h := h t5 et5
       refine lv_iinc (v := t5) (lv' := [(1, .int t5), (0, .ref (a 4))]) hx hb d_Pieces_gatherAll_55 hl (k := 1) rfl (by rw [et5]; rfl) (by decide) rfl (fun ls hl => ?_)
       refine lv_goto (tgt := 15) hx hb d_Pieces_gatherAll_58 (by decide) ?_
       exact ih t5 u _ _ _ hP hS (lv_sub hl [1, 0] rfl) h
     · have h := h.1 c4
       refine lv_aload_n hx hb d_Pieces_gatherAll_36 rfl (lv_at hl 0 rfl) ?_
       refine lv_iload_n hx hb d_Pieces_gatherAll_37 rfl (lv_at hl 1 rfl) ?_
       refine lv_aload_n hx hb d_Pieces_gatherAll_38 rfl (lv_at hl 0 rfl) ?_
       refine va_get (D := D) (ci := 7) (v := .int (u.1 2)) (C := R_Pieces) (T := T_Pieces) (N := 11) hx hb hts in_Pieces hown hK hP 4 cw_at_4 rfl 10 (by decide) (hts _ (List.mem_cons_of_mem _ kw_161)) (fun _ h9 => h9) rfl d_Pieces_gatherAll_39 ?_
       refine cc_v (va_runV (As := [.int x1, .int (u.1 2)]) (rest := []) ⟨hx, hb, hml, hown, hts⟩ (ct_Pieces_gather l D a cA cZ G _ x1 (u.1 2) u _ hI h) (pw_cwV 2 hts kw_505 kw_49 kw_502 kw_504 kw_4 (by decide +kernel) ⟨Nat.le_of_ble_eq_true rfl, Nat.le_of_ble_eq_true rfl⟩) ⟨pw_blind, va_recv hK hP (ci := 7) (q0 := 4) rfl cw_at_4, fun U hU hW => ⟨rfl, by rw [hU], by rw [hU]; exact hP, va_K.moved hW.alike hK⟩⟩ rfl rfl hl.1 rfl (lv_room (Nat.le_of_ble_eq_true rfl)) d_Pieces_gatherAll_42 ⟨Nat.le_of_ble_eq_true rfl, Nat.le_of_ble_eq_true rfl⟩) hS hF hA (fun u6 H locs hP hS h => ?_)
       refine lv_aload_n hx hb d_Pieces_gatherAll_45 rfl (lv_at hl 0 rfl) ?_
       refine lv_dup hx hb d_Pieces_gatherAll_46 rfl ?_
       refine va_get (D := D) (ci := 7) (v := .int (u6.1 2)) (C := R_Pieces) (T := T_Pieces) (N := 11) hx hb hts in_Pieces hown hK hP 4 cw_at_4 rfl 10 (by decide) (hts _ (List.mem_cons_of_mem _ kw_161)) (fun _ h9 => h9) rfl d_Pieces_gatherAll_47 ?_
       refine lv_iconst (v := 1) hx hb d_Pieces_gatherAll_50 (by decide) ?_
       refine lv_iadd hx hb d_Pieces_gatherAll_51 ?_
       refine va_put (D := D) (ci := 7) (v := .int ((u6.1 2) + 1)) (ty := .int) (C := R_Pieces) (T := T_Pieces) (N := 11) hx hb hts in_Pieces ty_Pieces tyok_Pieces nm_Pieces hown hK hP (hD _) hS 4 cw_at_4 rfl 10 (by decide) (hts _ (List.mem_cons_of_mem _ kw_161)) (fun _ h9 => h9) rfl (by decide +kernel) rfl rfl (Nat.le_of_ble_eq_true rfl) d_Pieces_gatherAll_52 (fun H locs hP _ hS => ?_)
       obtain ⟨u7, eu7⟩ : ∃ z, z = pw_si u6 2 ((u6.1 2) + 1) := ⟨_, rfl⟩
       rw [cw_si_4_10, ← eu7] at hP
       have h := h u7 eu7
       obtain ⟨t8, et8⟩ : ∃ y : Int32, y = x1 + 1 := ⟨_, rfl⟩
       have h := h t8 et8
       refine lv_iinc (v := t8) (lv' := [(1, .int t8), (0, .ref (a 4))]) hx hb d_Pieces_gatherAll_55 hl (k := 1) rfl (by rw [et8]; rfl) (by decide) rfl (fun ls hl => ?_)
       refine lv_goto (tgt := 15) hx hb d_Pieces_gatherAll_58 (by decide) ?_
       exact ih t8 u7 _ _ _ hP hS (lv_sub hl [1, 0] rfl) h
set_option maxHeartbeats 4000000 in
set_option maxRecDepth 100000 in
theorem st_Pieces_gatherAll {p : Program} {l : Launch} {e : Env} {s : State} {m : MethodId} {args : Array Value} {below : List Frame} {meth : Method} {c : Code} {D : va_G} {a : Nat → Nat} {cA cZ : ClassId} {G : pG} {A : Nat → Prop} {Q : pS → Prop} (C : pw_C p s m args meth c b_Pieces_gatherAll 2 R_Pieces none w_Pieces_gatherAll A) (K : pw_K s D 40 a (cT cA cZ) A) (u : pS) (ls : Array Slot) (hP : va_P D vwCl (cw a cA cZ G u) s.heap) (hl : lv_has ls 2 [(0, .ref (a 4))]) (h : wp_Pieces_gatherAll G u Q) : W p l e ({ frames := 3, cells := 0, slots := 0, locals := 70 } : Room) s m args below meth c s.heap [] 0 0 (pw_Ev below args s D (cw a cA cZ G) (cT cA cZ) A Q) (F0 m 0 ls []) := by
 obtain ⟨hx, hb, hr, hml, hown, hts, hlocks, hA⟩ := id C
 obtain ⟨hK, hI, hF⟩ := id K
 have hD : ∀ u, va_D A (cw a cA cZ G u) := fun u => cw_D hI hF
 have hS : va_S A s.heap s.heap [] := va_S.rf
 have h : wp_Pieces_gatherAll G u Q := h
 refine lv_aload_n hx hb d_Pieces_gatherAll_0 rfl (lv_at hl 0 rfl) ?_
 refine va_get (D := D) (ci := 7) (v := .ref (a 21)) (C := R_Pieces) (T := T_Pieces) (N := 11) hx hb hts in_Pieces hown hK hP 4 cw_at_4 rfl 2 (by decide) (hts _ (List.mem_cons_of_mem _ kw_153)) (fun _ h9 => h9) rfl d_Pieces_gatherAll_1 ?_
 refine lv_iconst (v := -1) hx hb d_Pieces_gatherAll_4 (by decide) ?_
 refine cc_v (va_runS (As := [.ref (a 21), .int (-1)]) (rest := []) ⟨hx, hb, hml, hown, hts⟩ (ct_Arrays_fill_numberAt l D a cA cZ G _ (-1) u _ hI h) (pw_cwS 2 hts kw_501 kw_63 kw_499 kw_500 (by decide +kernel) ⟨Nat.le_of_ble_eq_true rfl, Nat.le_of_ble_eq_true rfl⟩) ⟨pw_blind, fun U hU hW => ⟨rfl, by rw [hU], by rw [hU]; exact hP, va_K.moved hW.alike hK⟩⟩ rfl rfl hl.1 rfl (lv_room (Nat.le_of_ble_eq_true rfl)) d_Pieces_gatherAll_5 ⟨Nat.le_of_ble_eq_true rfl, Nat.le_of_ble_eq_true rfl⟩) hS hF hA (fun u1 H locs hP hS h => ?_)
 refine lv_aload_n hx hb d_Pieces_gatherAll_8 rfl (lv_at hl 0 rfl) ?_
 refine lv_iconst (v := 0) hx hb d_Pieces_gatherAll_9 (by decide) ?_
 refine va_put (D := D) (ci := 7) (v := .int 0) (ty := .int) (C := R_Pieces) (T := T_Pieces) (N := 11) hx hb hts in_Pieces ty_Pieces tyok_Pieces nm_Pieces hown hK hP (hD _) hS 4 cw_at_4 rfl 10 (by decide) (hts _ (List.mem_cons_of_mem _ kw_161)) (fun _ h9 => h9) rfl (by decide +kernel) rfl rfl (Nat.le_of_ble_eq_true rfl) d_Pieces_gatherAll_10 (fun H locs hP _ hS => ?_)
 obtain ⟨u2, eu2⟩ : ∃ z, z = pw_si u1 2 0 := ⟨_, rfl⟩
 rw [cw_si_4_10, ← eu2] at hP
 have h := h u2 eu2
 refine lv_iconst (v := 0) hx hb d_Pieces_gatherAll_13 (by decide) ?_
 refine lv_istore_n (lv' := [(1, .int 0), (0, .ref (a 4))]) hx hb d_Pieces_gatherAll_14 rfl hl (by decide) rfl (fun ls hl => ?_)
 obtain ⟨n1, h⟩ := h
 exact cp_Pieces_gatherAll_15 C K n1 0 u2 _ _ _ hP hS (lv_sub hl [1, 0] rfl) h
set_option maxHeartbeats 4000000 in
set_option maxRecDepth 100000 in
theorem ct_Pieces_gatherAll (l : Launch) (D : va_G) (a : Nat → Nat) (cA cZ : ClassId) (G : pG) (sz : Nat) (u : pS) (Q : pS → Prop) (hI : pw_I 40 a) (h : wp_Pieces_gatherAll G u Q) : Met l y_Pieces_gatherAll w_Pieces_gatherAll ({ frames := 3, cells := 0, slots := 0, locals := 70 } : Room) (va_Pc [.ref (a 4)] (pw_pre D (cw a cA cZ G) (cT cA cZ) sz u)) (va_Qv (fun (u : pS) => Q u) (pw_B D (cw a cA cZ G) (cT cA cZ)) (pw_F 40 a sz)) 0 0 (pw_F 40 a sz) := by
 refine Met.ofW (cc := b_Pieces_gatherAll) (maxL := 2) (ret := none) (by decide) rfl ?_
 intro p e s m args below meth c s₁ B hml hv
 obtain ⟨rfl, hsz, hP, hK⟩ := hv
 subst hsz
 have hl := lv_entry ([.ref (a 4)]) (n := 2) (Nat.le_of_ble_eq_true rfl)
 rw [lg_entry_eq]
 generalize (lg_sl ([.ref (a 4)]) ++ List.replicate (2 - (lg_sl ([.ref (a 4)])).length) Slot.unset).toArray = ls at hl ⊢
 exact st_Pieces_gatherAll (A := (pw_F 40 a s.heap.size)) ⟨B.exec, B.bytes, B.returns, hml, findClass_of_methodNamed B.named, atoms_spec (ws := w_Pieces_gatherAll) B.pre, B.notSynchronized, fun q hq => Or.inr hq⟩ ⟨hK, hI, fun k hk => Or.inl ⟨k, hk, rfl⟩⟩ u ls hP hl h
set_option maxHeartbeats 4000000 in
set_option maxRecDepth 100000 in
theorem cp_Pieces_smallest_4 {p : Program} {l : Launch} {e : Env} {s : State} {m : MethodId} {args : Array Value} {below : List Frame} {meth : Method} {c : Code} {D : va_G} {a : Nat → Nat} {cA cZ : ClassId} {G : pG} {A : Nat → Prop} {Q : Int32 → pS → Prop} (C : pw_C p s m args meth c b_Pieces_smallest 3 R_Pieces (some .int) w_Pieces_smallest A) (K : pw_K s D 40 a (cT cA cZ) A) : ∀ (n : Nat), ∀ (x1 x2 : Int32) (u : pS) (H : Heap) (locs : List Loc) (ls : Array Slot), va_P D vwCl (cw a cA cZ G u) H → va_S A s.heap H locs → lv_has ls 3 [(0, .ref (a 4)), (1, .int x1), (2, .int x2)] → lp_Pieces_smallest_4 G Q n x1 x2 u → W p l e ({ frames := 0, cells := 0, slots := 0, locals := 0 } : Room) s m args below meth c H locs 0 0 (pw_Ei below args s D (cw a cA cZ G) (cT cA cZ) A Q) (F0 m 4 ls []) := by
 obtain ⟨hx, hb, hr, hml, hown, hts, hlocks, hA⟩ := id C
 obtain ⟨hK, hI, hF⟩ := id K
 have hD : ∀ u, va_D A (cw a cA cZ G u) := fun u => cw_D hI hF
 intro n
 induction n with
 | zero => intro x1 x2 u H locs ls hP hS hl h; exact h.elim
 | succ n ih =>
   intro x1 x2 u H locs ls hP hS hl h
   refine lv_iload_n hx hb d_Pieces_smallest_4 rfl (lv_at hl 2 rfl) ?_
   refine lv_aload_n hx hb d_Pieces_smallest_5 rfl (lv_at hl 0 rfl) ?_
   refine va_get (D := D) (ci := 7) (v := .int (u.1 2)) (C := R_Pieces) (T := T_Pieces) (N := 11) hx hb hts in_Pieces hown hK hP 4 cw_at_4 rfl 10 (by decide) (hts _ (List.mem_cons_of_mem _ kw_161)) (fun _ h9 => h9) rfl d_Pieces_smallest_6 ?_
   refine lv_icmp_ge (tgt := 35) hx hb d_Pieces_smallest_9 (by decide) (fun c1 => ?_) (fun c1 => ?_)
   · have h := h.1 c1
     refine lv_iload_n hx hb d_Pieces_smallest_35 rfl (lv_at hl 1 rfl) ?_
     exact W.iret (v := x1) hx hb hr (fun t ht hW => ⟨⟨x1, u, rfl, h, by rw [ht]; exact hP, va_K.moved hW.alike hK⟩, hS.F ht⟩) hS.2.2 d_Pieces_smallest_36 hlocks
   · have h := h.2 c1
     refine lv_aload_n hx hb d_Pieces_smallest_12 rfl (lv_at hl 0 rfl) ?_
     refine va_get (D := D) (ci := 7) (v := .ref (a 25)) (C := R_Pieces) (T := T_Pieces) (N := 11) hx hb hts in_Pieces hown hK hP 4 cw_at_4 rfl 6 (by decide) (hts _ (List.mem_cons_of_mem _ kw_157)) (fun _ h9 => h9) rfl d_Pieces_smallest_13 ?_
     refine lv_iload_n hx hb d_Pieces_smallest_16 rfl (lv_at hl 2 rfl) ?_
     refine va_iald hx hb hK hP 25 0 cw_at_25 rfl h.1 d_Pieces_smallest_17 ?_
     have h := h.2
     refine lv_aload_n hx hb d_Pieces_smallest_18 rfl (lv_at hl 0 rfl) ?_
     refine va_get (D := D) (ci := 7) (v := .ref (a 25)) (C := R_Pieces) (T := T_Pieces) (N := 11) hx hb hts in_Pieces hown hK hP 4 cw_at_4 rfl 6 (by decide) (hts _ (List.mem_cons_of_mem _ kw_157)) (fun _ h9 => h9) rfl d_Pieces_smallest_19 ?_
     refine lv_iload_n hx hb d_Pieces_smallest_22 rfl (lv_at hl 1 rfl) ?_
     refine va_iald hx hb hK hP 25 0 cw_at_25 rfl h.1 d_Pieces_smallest_23 ?_
     have h := h.2
     refine lv_icmp_ge (tgt := 29) hx hb d_Pieces_smallest_24 (by decide) (fun c2 => ?_) (fun c2 => ?_)
     · have h := h.1 c2
       obtain ⟨t3, et3⟩ : ∃ y : Int32, y = x2 + 1 := ⟨_, rfl⟩
       have h := h t3 et3
       refine lv_iinc (v := t3) (lv' := [(2, .int t3), (0, .ref (a 4)), (1, .int x1)]) hx hb d_Pieces_smallest_29 hl (k := 2) rfl (by rw [et3]; rfl) (by decide) rfl (fun ls hl => ?_)
       refine lv_goto (tgt := 4) hx hb d_Pieces_smallest_32 (by decide) ?_
       exact ih x1 t3 u _ _ _ hP hS (lv_sub hl [1, 2, 0] rfl) h
     · have h := h.2 c2
       refine lv_iload_n hx hb d_Pieces_smallest_27 rfl (lv_at hl 2 rfl) ?_
       refine lv_istore_n (lv' := [(1, .int x2), (0, .ref (a 4)), (2, .int x2)]) hx hb d_Pieces_smallest_28 rfl hl (by decide) rfl (fun ls hl => ?_)
       obtain ⟨t4, et4⟩ : ∃ y : Int32, y = x2 + 1 := ⟨_, rfl⟩
       have h := h t4 et4
       refine lv_iinc (v := t4) (lv' := [(2, .int t4), (1, .int x2), (0, .ref (a 4))]) hx hb d_Pieces_smallest_29 hl (k := 2) rfl (by rw [et4]; rfl) (by decide) rfl (fun ls hl => ?_)
       refine lv_goto (tgt := 4) hx hb d_Pieces_smallest_32 (by decide) ?_
       exact ih x2 t4 u _ _ _ hP hS (lv_sub hl [2, 1, 0] rfl) h
set_option maxHeartbeats 4000000 in
set_option maxRecDepth 100000 in
theorem st_Pieces_smallest {p : Program} {l : Launch} {e : Env} {s : State} {m : MethodId} {args : Array Value} {below : List Frame} {meth : Method} {c : Code} {D : va_G} {a : Nat → Nat} {cA cZ : ClassId} {G : pG} {A : Nat → Prop} {Q : Int32 → pS → Prop} (C : pw_C p s m args meth c b_Pieces_smallest 3 R_Pieces (some .int) w_Pieces_smallest A) (K : pw_K s D 40 a (cT cA cZ) A) (u : pS) (ls : Array Slot) (hP : va_P D vwCl (cw a cA cZ G u) s.heap) (hl : lv_has ls 3 [(0, .ref (a 4))]) (h : wp_Pieces_smallest G u Q) : W p l e ({ frames := 0, cells := 0, slots := 0, locals := 0 } : Room) s m args below meth c s.heap [] 0 0 (pw_Ei below args s D (cw a cA cZ G) (cT cA cZ) A Q) (F0 m 0 ls []) := by
 obtain ⟨hx, hb, hr, hml, hown, hts, hlocks, hA⟩ := id C
 obtain ⟨hK, hI, hF⟩ := id K
 have hD : ∀ u, va_D A (cw a cA cZ G u) := fun u => cw_D hI hF
 have hS : va_S A s.heap s.heap [] := va_S.rf
 have h : wp_Pieces_smallest G u Q := h
 refine lv_iconst (v := 0) hx hb d_Pieces_smallest_0 (by decide) ?_
 refine lv_istore_n (lv' := [(1, .int 0), (0, .ref (a 4))]) hx hb d_Pieces_smallest_1 rfl hl (by decide) rfl (fun ls hl => ?_)
 refine lv_iconst (v := 1) hx hb d_Pieces_smallest_2 (by decide) ?_
 refine lv_istore_n (lv' := [(2, .int 1), (1, .int 0), (0, .ref (a 4))]) hx hb d_Pieces_smallest_3 rfl hl (by decide) rfl (fun ls hl => ?_)
 obtain ⟨n1, h⟩ := h
 exact cp_Pieces_smallest_4 C K n1 0 1 u _ _ _ hP hS (lv_sub hl [2, 1, 0] rfl) h
set_option maxHeartbeats 4000000 in
set_option maxRecDepth 100000 in
theorem ct_Pieces_smallest (l : Launch) (D : va_G) (a : Nat → Nat) (cA cZ : ClassId) (G : pG) (sz : Nat) (u : pS) (Q : Int32 → pS → Prop) (hI : pw_I 40 a) (h : wp_Pieces_smallest G u Q) : Met l y_Pieces_smallest w_Pieces_smallest ({ frames := 0, cells := 0, slots := 0, locals := 0 } : Room) (va_Pc [.ref (a 4)] (pw_pre D (cw a cA cZ G) (cT cA cZ) sz u)) (va_Qi (fun (r : Int32) (u : pS) => Q r u) (pw_B D (cw a cA cZ G) (cT cA cZ)) (pw_F 40 a sz)) 0 0 (pw_F 40 a sz) := by
 refine Met.ofW (cc := b_Pieces_smallest) (maxL := 3) (ret := (some .int)) (by decide) rfl ?_
 intro p e s m args below meth c s₁ B hml hv
 obtain ⟨rfl, hsz, hP, hK⟩ := hv
 subst hsz
 have hl := lv_entry ([.ref (a 4)]) (n := 3) (Nat.le_of_ble_eq_true rfl)
 rw [lg_entry_eq]
 generalize (lg_sl ([.ref (a 4)]) ++ List.replicate (3 - (lg_sl ([.ref (a 4)])).length) Slot.unset).toArray = ls at hl ⊢
 exact st_Pieces_smallest (A := (pw_F 40 a s.heap.size)) ⟨B.exec, B.bytes, B.returns, hml, findClass_of_methodNamed B.named, atoms_spec (ws := w_Pieces_smallest) B.pre, B.notSynchronized, fun q hq => Or.inr hq⟩ ⟨hK, hI, fun k hk => Or.inl ⟨k, hk, rfl⟩⟩ u ls hP hl h
set_option maxHeartbeats 4000000 in
set_option maxRecDepth 100000 in
theorem cp_Pieces_closestTo_9 {p : Program} {l : Launch} {e : Env} {s : State} {m : MethodId} {args : Array Value} {below : List Frame} {meth : Method} {c : Code} {D : va_G} {a : Nat → Nat} {cA cZ : ClassId} {G : pG} {A : Nat → Prop} {Q : Int32 → pS → Prop} (C : pw_C p s m args meth c b_Pieces_closestTo 4 R_Pieces (some .int) w_Pieces_closestTo A) (K : pw_K s D 40 a (cT cA cZ) A) : ∀ (n : Nat), ∀ (x2 x3 : Int32) (u : pS) (H : Heap) (locs : List Loc) (ls : Array Slot), va_P D vwCl (cw a cA cZ G u) H → va_S A s.heap H locs → lv_has ls 4 [(0, .ref (a 4)), (2, .int x2), (3, .int x3)] → lp_Pieces_closestTo_9 G Q n x2 x3 u → W p l e ({ frames := 3, cells := 0, slots := 0, locals := 67 } : Room) s m args below meth c H locs 0 0 (pw_Ei below args s D (cw a cA cZ G) (cT cA cZ) A Q) (F0 m 9 ls []) := by
 obtain ⟨hx, hb, hr, hml, hown, hts, hlocks, hA⟩ := id C
 obtain ⟨hK, hI, hF⟩ := id K
 have hD : ∀ u, va_D A (cw a cA cZ G u) := fun u => cw_D hI hF
 intro n
 induction n with
 | zero => intro x2 x3 u H locs ls hP hS hl h; exact h.elim
 | succ n ih =>
   intro x2 x3 u H locs ls hP hS hl h
   refine lv_iload_n hx hb d_Pieces_closestTo_9 rfl (lv_at hl 2 rfl) ?_
   refine lv_aload_n hx hb d_Pieces_closestTo_10 rfl (lv_at hl 0 rfl) ?_
   refine va_get (D := D) (ci := 7) (v := .int (u.1 2)) (C := R_Pieces) (T := T_Pieces) (N := 11) hx hb hts in_Pieces hown hK hP 4 cw_at_4 rfl 10 (by decide) (hts _ (List.mem_cons_of_mem _ kw_161)) (fun _ h9 => h9) rfl d_Pieces_closestTo_11 ?_
   refine lv_icmp_ge (tgt := 40) hx hb d_Pieces_closestTo_14 (by decide) (fun c2 => ?_) (fun c2 => ?_)
   · have h := h.1 c2
     refine lv_iload_n hx hb d_Pieces_closestTo_40 rfl (lv_at hl 1 rfl) ?_
     exact W.iret (v := x2) hx hb hr (fun t ht hW => ⟨⟨x2, u, rfl, h, by rw [ht]; exact hP, va_K.moved hW.alike hK⟩, hS.F ht⟩) hS.2.2 d_Pieces_closestTo_41 hlocks
   · have h := h.2 c2
     refine lv_aload_n hx hb d_Pieces_closestTo_17 rfl (lv_at hl 0 rfl) ?_
     refine va_get (D := D) (ci := 7) (v := .ref (a 23)) (C := R_Pieces) (T := T_Pieces) (N := 11) hx hb hts in_Pieces hown hK hP 4 cw_at_4 rfl 4 (by decide) (hts _ (List.mem_cons_of_mem _ kw_155)) (fun _ h9 => h9) rfl d_Pieces_closestTo_18 ?_
     refine lv_iload_n hx hb d_Pieces_closestTo_21 rfl (lv_at hl 2 rfl) ?_
     refine va_iald hx hb hK hP 23 0 cw_at_23 rfl h.1 d_Pieces_closestTo_22 ?_
     have h := h.2
     refine lv_aload_n hx hb d_Pieces_closestTo_23 rfl (lv_at hl 0 rfl) ?_
     refine va_get (D := D) (ci := 7) (v := .ref (a 23)) (C := R_Pieces) (T := T_Pieces) (N := 11) hx hb hts in_Pieces hown hK hP 4 cw_at_4 rfl 4 (by decide) (hts _ (List.mem_cons_of_mem _ kw_155)) (fun _ h9 => h9) rfl d_Pieces_closestTo_24 ?_
     refine lv_iload_n hx hb d_Pieces_closestTo_27 rfl (lv_at hl 1 rfl) ?_
     refine va_iald hx hb hK hP 23 0 cw_at_23 rfl h.1 d_Pieces_closestTo_28 ?_
     have h := h.2
     refine lv_icmp_le (tgt := 34) hx hb d_Pieces_closestTo_29 (by decide) (fun c3 => ?_) (fun c3 => ?_)
     · have h := h.1 c3
       obtain ⟨t4, et4⟩ : ∃ y : Int32, y = x3 + 1 := ⟨_, rfl⟩
       have h := h t4 et4
       refine lv_iinc (v := t4) (lv' := [(3, .int t4), (0, .ref (a 4)), (2, .int x2)]) hx hb d_Pieces_closestTo_34 hl (k := 2) rfl (by rw [et4]; rfl) (by decide) rfl (fun ls hl => ?_)
       refine lv_goto (tgt := 9) hx hb d_Pieces_closestTo_37 (by decide) ?_
       exact ih x2 t4 u _ _ _ hP hS (lv_sub hl [1, 2, 0] rfl) h
     · have h := h.2 c3
       refine lv_iload_n hx hb d_Pieces_closestTo_32 rfl (lv_at hl 2 rfl) ?_
       refine lv_istore_n (lv' := [(2, .int x3), (0, .ref (a 4)), (3, .int x3)]) hx hb d_Pieces_closestTo_33 rfl hl (by decide) rfl (fun ls hl => ?_)
       obtain ⟨t5, et5⟩ : ∃ y : Int32, y = x3 + 1 := ⟨_, rfl⟩
       have h := h t5 et5
       refine lv_iinc (v := t5) (lv' := [(3, .int t5), (2, .int x3), (0, .ref (a 4))]) hx hb d_Pieces_closestTo_34 hl (k := 2) rfl (by rw [et5]; rfl) (by decide) rfl (fun ls hl => ?_)
       refine lv_goto (tgt := 9) hx hb d_Pieces_closestTo_37 (by decide) ?_
       exact ih x3 t5 u _ _ _ hP hS (lv_sub hl [2, 1, 0] rfl) h
set_option maxHeartbeats 4000000 in
set_option maxRecDepth 100000 in
theorem st_Pieces_closestTo {p : Program} {l : Launch} {e : Env} {s : State} {m : MethodId} {args : Array Value} {below : List Frame} {meth : Method} {c : Code} {D : va_G} {a : Nat → Nat} {cA cZ : ClassId} {G : pG} {A : Nat → Prop} {Q : Int32 → pS → Prop} (C : pw_C p s m args meth c b_Pieces_closestTo 4 R_Pieces (some .int) w_Pieces_closestTo A) (K : pw_K s D 40 a (cT cA cZ) A) (x1 : Int32) (u : pS) (ls : Array Slot) (hP : va_P D vwCl (cw a cA cZ G u) s.heap) (hl : lv_has ls 4 [(0, .ref (a 4)), (1, .int x1)]) (h : wp_Pieces_closestTo G x1 u Q) : W p l e ({ frames := 3, cells := 0, slots := 0, locals := 67 } : Room) s m args below meth c s.heap [] 0 0 (pw_Ei below args s D (cw a cA cZ G) (cT cA cZ) A Q) (F0 m 0 ls []) := by
 obtain ⟨hx, hb, hr, hml, hown, hts, hlocks, hA⟩ := id C
 obtain ⟨hK, hI, hF⟩ := id K
 have hD : ∀ u, va_D A (cw a cA cZ G u) := fun u => cw_D hI hF
 have hS : va_S A s.heap s.heap [] := va_S.rf
 have h : wp_Pieces_closestTo G x1 u Q := h
 refine lv_aload_n hx hb d_Pieces_closestTo_0 rfl (lv_at hl 0 rfl) ?_
 refine lv_iload_n hx hb d_Pieces_closestTo_1 rfl (lv_at hl 1 rfl) ?_
 refine cc_v (va_runV (As := [.int x1]) (rest := []) ⟨hx, hb, hml, hown, hts⟩ (ct_Pieces_countSidesOf l D a cA cZ G _ x1 u _ hI h) (pw_cwV 1 hts kw_543 kw_49 kw_540 kw_542 kw_10 (by decide +kernel) ⟨Nat.le_of_ble_eq_true rfl, Nat.le_of_ble_eq_true rfl⟩) ⟨pw_blind, va_recv hK hP (ci := 7) (q0 := 4) rfl cw_at_4, fun U hU hW => ⟨rfl, by rw [hU], by rw [hU]; exact hP, va_K.moved hW.alike hK⟩⟩ rfl rfl hl.1 rfl (lv_room (Nat.le_of_ble_eq_true rfl)) d_Pieces_closestTo_2 ⟨Nat.le_of_ble_eq_true rfl, Nat.le_of_ble_eq_true rfl⟩) hS hF hA (fun u1 H locs hP hS h => ?_)
 refine lv_iconst (v := 0) hx hb d_Pieces_closestTo_5 (by decide) ?_
 refine lv_istore_n (lv' := [(2, .int 0), (0, .ref (a 4)), (1, .int x1)]) hx hb d_Pieces_closestTo_6 rfl hl (by decide) rfl (fun ls hl => ?_)
 refine lv_iconst (v := 1) hx hb d_Pieces_closestTo_7 (by decide) ?_
 refine lv_istore_n (lv' := [(3, .int 1), (2, .int 0), (0, .ref (a 4)), (1, .int x1)]) hx hb d_Pieces_closestTo_8 rfl hl (by decide) rfl (fun ls hl => ?_)
 obtain ⟨n1, h⟩ := h
 exact cp_Pieces_closestTo_9 C K n1 0 1 u1 _ _ _ hP hS (lv_sub hl [2, 1, 0] rfl) h
set_option maxHeartbeats 4000000 in
set_option maxRecDepth 100000 in
theorem ct_Pieces_closestTo (l : Launch) (D : va_G) (a : Nat → Nat) (cA cZ : ClassId) (G : pG) (sz : Nat) (x1 : Int32) (u : pS) (Q : Int32 → pS → Prop) (hI : pw_I 40 a) (h : wp_Pieces_closestTo G x1 u Q) : Met l y_Pieces_closestTo w_Pieces_closestTo ({ frames := 3, cells := 0, slots := 0, locals := 67 } : Room) (va_Pc [.ref (a 4), .int x1] (pw_pre D (cw a cA cZ G) (cT cA cZ) sz u)) (va_Qi (fun (r : Int32) (u : pS) => Q r u) (pw_B D (cw a cA cZ G) (cT cA cZ)) (pw_F 40 a sz)) 0 0 (pw_F 40 a sz) := by
 refine Met.ofW (cc := b_Pieces_closestTo) (maxL := 4) (ret := (some .int)) (by decide) rfl ?_
 intro p e s m args below meth c s₁ B hml hv
 obtain ⟨rfl, hsz, hP, hK⟩ := hv
 subst hsz
 have hl := lv_entry ([.ref (a 4), .int x1]) (n := 4) (Nat.le_of_ble_eq_true rfl)
 rw [lg_entry_eq]
 generalize (lg_sl ([.ref (a 4), .int x1]) ++ List.replicate (4 - (lg_sl ([.ref (a 4), .int x1])).length) Slot.unset).toArray = ls at hl ⊢
 exact st_Pieces_closestTo (A := (pw_F 40 a s.heap.size)) ⟨B.exec, B.bytes, B.returns, hml, findClass_of_methodNamed B.named, atoms_spec (ws := w_Pieces_closestTo) B.pre, B.notSynchronized, fun q hq => Or.inr hq⟩ ⟨hK, hI, fun k hk => Or.inl ⟨k, hk, rfl⟩⟩ x1 u ls hP hl h
end
section
set_option maxHeartbeats 4000000 in
set_option maxRecDepth 100000 in
theorem cp_Pieces_joinSmallest_38 {p : Program} {l : Launch} {e : Env} {s : State} {m : MethodId} {args : Array Value} {below : List Frame} {meth : Method} {c : Code} {D : va_G} {a : Nat → Nat} {cA cZ : ClassId} {G : pG} {A : Nat → Prop} {Q : Int32 → pS → Prop} (C : pw_C p s m args meth c b_Pieces_joinSmallest 5 R_Pieces (some .boolean) w_Pieces_joinSmallest A) (K : pw_K s D 40 a (cT cA cZ) A) : ∀ (n : Nat), ∀ (x2 x3 x4 : Int32) (u : pS) (H : Heap) (locs : List Loc) (ls : Array Slot), va_P D vwCl (cw a cA cZ G u) H → va_S A s.heap H locs → lv_has ls 5 [(0, .ref (a 4)), (2, .int x2), (3, .int x3), (4, .int x4)] → lp_Pieces_joinSmallest_38 G Q n x2 x3 x4 u → W p l e ({ frames := 4, cells := 0, slots := 0, locals := 90 } : Room) s m args below meth c H locs 0 0 (pw_Ei below args s D (cw a cA cZ G) (cT cA cZ) A Q) (F0 m 38 ls []) := by
 obtain ⟨hx, hb, hr, hml, hown, hts, hlocks, hA⟩ := id C
 obtain ⟨hK, hI, hF⟩ := id K
 have hD : ∀ u, va_D A (cw a cA cZ G u) := fun u => cw_D hI hF
 intro n
 induction n with
 | zero => intro x2 x3 x4 u H locs ls hP hS hl h; exact h.elim
 | succ n ih =>
   intro x2 x3 x4 u H locs ls hP hS hl h
   refine lv_iload hx hb d_Pieces_joinSmallest_38 (lv_at hl 3 rfl) ?_
   refine lv_aload_n hx hb d_Pieces_joinSmallest_40 rfl (lv_at hl 0 rfl) ?_
   refine va_get (D := D) (ci := 7) (v := .ref (a 1)) (C := R_Pieces) (T := T_Pieces) (N := 11) hx hb hts in_Pieces hown hK hP 4 cw_at_4 rfl 0 (by decide) (hts _ (List.mem_cons_of_mem _ kw_151)) (fun _ h9 => h9) rfl d_Pieces_joinSmallest_41 ?_
   refine va_get (D := D) (ci := 4) (v := .int (G.2.1 3)) (C := R_Grid) (T := T_Grid) (N := 6) hx hb hts in_Grid hown hK hP 1 cw_at_1 rfl 2 (by decide) (hts _ (List.mem_cons_of_mem _ kw_107)) (fun _ h9 => h9) rfl d_Pieces_joinSmallest_44 ?_
   refine lv_icmp_ge (tgt := 75) hx hb d_Pieces_joinSmallest_47 (by decide) (fun c9 => ?_) (fun c9 => ?_)
   · have h := h.1 c9
     refine lv_iconst (v := 1) hx hb d_Pieces_joinSmallest_75 (by decide) ?_
     exact W.zret (v := 1) hx hb hr rfl (fun t ht hW => ⟨⟨1, u, rfl, h, by rw [ht]; exact hP, va_K.moved hW.alike hK⟩, hS.F ht⟩) hS.2.2 d_Pieces_joinSmallest_76 hlocks
   · have h := h.2 c9
     refine lv_aload_n hx hb d_Pieces_joinSmallest_50 rfl (lv_at hl 0 rfl) ?_
     refine va_get (D := D) (ci := 7) (v := .ref (a 21)) (C := R_Pieces) (T := T_Pieces) (N := 11) hx hb hts in_Pieces hown hK hP 4 cw_at_4 rfl 2 (by decide) (hts _ (List.mem_cons_of_mem _ kw_153)) (fun _ h9 => h9) rfl d_Pieces_joinSmallest_51 ?_
     refine lv_iload hx hb d_Pieces_joinSmallest_54 (lv_at hl 3 rfl) ?_
     refine va_iald hx hb hK hP 21 0 cw_at_21 rfl h.1 d_Pieces_joinSmallest_56 ?_
     have h := h.2
     refine lv_iload_n hx hb d_Pieces_joinSmallest_57 rfl (lv_at hl 1 rfl) ?_
     refine lv_icmp_ne (tgt := 69) hx hb d_Pieces_joinSmallest_58 (by decide) (fun c10 => ?_) (fun c10 => ?_)
     · have h := h.2 c10
       obtain ⟨t11, et11⟩ : ∃ y : Int32, y = x4 + 1 := ⟨_, rfl⟩
       have h := h t11 et11
       refine lv_iinc (v := t11) (lv' := [(4, .int t11), (0, .ref (a 4)), (2, .int x2), (3, .int x3)]) hx hb d_Pieces_joinSmallest_69 hl (k := 3) rfl (by rw [et11]; rfl) (by decide) rfl (fun ls hl => ?_)
       refine lv_goto (tgt := 38) hx hb d_Pieces_joinSmallest_72 (by decide) ?_
       exact ih x2 x3 t11 u _ _ _ hP hS (lv_sub hl [1, 2, 3, 0] rfl) h
     · have h := h.1 c10
       refine lv_aload_n hx hb d_Pieces_joinSmallest_61 rfl (lv_at hl 0 rfl) ?_
       refine va_get (D := D) (ci := 7) (v := .ref (a 20)) (C := R_Pieces) (T := T_Pieces) (N := 11) hx hb hts in_Pieces hown hK hP 4 cw_at_4 rfl 1 (by decide) (hts _ (List.mem_cons_of_mem _ kw_152)) (fun _ h9 => h9) rfl d_Pieces_joinSmallest_62 ?_
       refine lv_iload hx hb d_Pieces_joinSmallest_65 (lv_at hl 3 rfl) ?_
       refine lv_iload_n hx hb d_Pieces_joinSmallest_67 rfl (lv_at hl 2 rfl) ?_
       refine va_iast hx hb hK hP (hD _) hS 20 0 cw_at_20 rfl h.1 d_Pieces_joinSmallest_68 (fun H locs hP _ hS => ?_)
       obtain ⟨u12, eu12⟩ : ∃ z, z = pw_sa u 6 (upd (u.2 6) x4.toNatClampNeg x3) := ⟨_, rfl⟩
       rw [cw_sa_20, ← eu12] at hP
       have h := h.2 u12 eu12
       obtain ⟨t13, et13⟩ : ∃ y : Int32, y = x4 + 1 := ⟨_, rfl⟩
       have h := h t13 et13
       refine lv_iinc (v := t13) (lv' := [(4, .int t13), (0, .ref (a 4)), (2, .int x2), (3, .int x3)]) hx hb d_Pieces_joinSmallest_69 hl (k := 3) rfl (by rw [et13]; rfl) (by decide) rfl (fun ls hl => ?_)
       refine lv_goto (tgt := 38) hx hb d_Pieces_joinSmallest_72 (by decide) ?_
       exact ih x2 x3 t13 u12 _ _ _ hP hS (lv_sub hl [1, 2, 3, 0] rfl) h
set_option maxHeartbeats 4000000 in
set_option maxRecDepth 100000 in
theorem st_Pieces_joinSmallest {p : Program} {l : Launch} {e : Env} {s : State} {m : MethodId} {args : Array Value} {below : List Frame} {meth : Method} {c : Code} {D : va_G} {a : Nat → Nat} {cA cZ : ClassId} {G : pG} {A : Nat → Prop} {Q : Int32 → pS → Prop} (C : pw_C p s m args meth c b_Pieces_joinSmallest 5 R_Pieces (some .boolean) w_Pieces_joinSmallest A) (K : pw_K s D 40 a (cT cA cZ) A) (x1 : Int32) (u : pS) (ls : Array Slot) (hP : va_P D vwCl (cw a cA cZ G u) s.heap) (hl : lv_has ls 5 [(0, .ref (a 4)), (1, .int x1)]) (h : wp_Pieces_joinSmallest G x1 u Q) : W p l e ({ frames := 4, cells := 0, slots := 0, locals := 90 } : Room) s m args below meth c s.heap [] 0 0 (pw_Ei below args s D (cw a cA cZ G) (cT cA cZ) A Q) (F0 m 0 ls []) := by
 obtain ⟨hx, hb, hr, hml, hown, hts, hlocks, hA⟩ := id C
 obtain ⟨hK, hI, hF⟩ := id K
 have hD : ∀ u, va_D A (cw a cA cZ G u) := fun u => cw_D hI hF
 have hS : va_S A s.heap s.heap [] := va_S.rf
 have h : wp_Pieces_joinSmallest G x1 u Q := h
 refine lv_aload_n hx hb d_Pieces_joinSmallest_0 rfl (lv_at hl 0 rfl) ?_
 refine cc_i (va_runV (As := []) (rest := []) ⟨hx, hb, hml, hown, hts⟩ (ct_Pieces_smallest l D a cA cZ G _  u _ hI h) (pw_cwV 0 hts kw_535 kw_49 kw_532 kw_534 kw_8 (by decide +kernel) ⟨Nat.le_of_ble_eq_true rfl, Nat.le_of_ble_eq_true rfl⟩) ⟨pw_blind, va_recv hK hP (ci := 7) (q0 := 4) rfl cw_at_4, fun U hU hW => ⟨rfl, by rw [hU], by rw [hU]; exact hP, va_K.moved hW.alike hK⟩⟩ rfl rfl hl.1 rfl (lv_room (Nat.le_of_ble_eq_true rfl)) d_Pieces_joinSmallest_1 ⟨Nat.le_of_ble_eq_true rfl, Nat.le_of_ble_eq_true rfl⟩) hS hF hA (fun r2 u1 H locs hP hS h => ?_)
 refine lv_istore_n (lv' := [(2, .int r2), (0, .ref (a 4)), (1, .int x1)]) hx hb d_Pieces_joinSmallest_4 rfl hl (by decide) rfl (fun ls hl => ?_)
 refine lv_aload_n hx hb d_Pieces_joinSmallest_5 rfl (lv_at hl 1 rfl) ?_
 refine va_get (D := D) (ci := 7) (v := .int (u1.1 2)) (C := R_Pieces) (T := T_Pieces) (N := 11) hx hb hts in_Pieces hown hK hP 4 cw_at_4 rfl 10 (by decide) (hts _ (List.mem_cons_of_mem _ kw_161)) (fun _ h9 => h9) rfl d_Pieces_joinSmallest_6 ?_
 refine lv_iconst (v := 2) hx hb d_Pieces_joinSmallest_9 (by decide) ?_
 refine lv_icmp_lt (tgt := 23) hx hb d_Pieces_joinSmallest_10 (by decide) (fun c3 => ?_) (fun c3 => ?_)
 · have h := h.1 c3
   refine lv_iconst (v := 0) hx hb d_Pieces_joinSmallest_23 (by decide) ?_
   exact W.zret (v := 0) hx hb hr rfl (fun t ht hW => ⟨⟨0, u1, rfl, h, by rw [ht]; exact hP, va_K.moved hW.alike hK⟩, hS.F ht⟩) hS.2.2 d_Pieces_joinSmallest_24 hlocks
 · have h := h.2 c3
   refine lv_aload_n hx hb d_Pieces_joinSmallest_13 rfl (lv_at hl 1 rfl) ?_
   refine va_get (D := D) (ci := 7) (v := .ref (a 25)) (C := R_Pieces) (T := T_Pieces) (N := 11) hx hb hts in_Pieces hown hK hP 4 cw_at_4 rfl 6 (by decide) (hts _ (List.mem_cons_of_mem _ kw_157)) (fun _ h9 => h9) rfl d_Pieces_joinSmallest_14 ?_
   refine lv_iload_n hx hb d_Pieces_joinSmallest_17 rfl (lv_at hl 0 rfl) ?_
   refine va_iald hx hb hK hP 25 0 cw_at_25 rfl h.1 d_Pieces_joinSmallest_18 ?_
   have h := h.2
   refine lv_iload_n hx hb d_Pieces_joinSmallest_19 rfl (lv_at hl 2 rfl) ?_
   refine lv_icmp_lt (tgt := 25) hx hb d_Pieces_joinSmallest_20 (by decide) (fun c4 => ?_) (fun c4 => ?_)
   · have h := h.1 c4
     refine lv_aload_n hx hb d_Pieces_joinSmallest_25 rfl (lv_at hl 1 rfl) ?_
     refine lv_aload_n hx hb d_Pieces_joinSmallest_26 rfl (lv_at hl 1 rfl) ?_
     refine lv_iload_n hx hb d_Pieces_joinSmallest_27 rfl (lv_at hl 0 rfl) ?_
     refine cc_i (va_runV (As := [.int r2]) (rest := [.ref (a 4)]) ⟨hx, hb, hml, hown, hts⟩ (ct_Pieces_closestTo l D a cA cZ G _ r2 u1 _ hI h) (pw_cwV 1 hts kw_539 kw_49 kw_536 kw_538 kw_9 (by decide +kernel) ⟨Nat.le_of_ble_eq_true rfl, Nat.le_of_ble_eq_true rfl⟩) ⟨pw_blind, va_recv hK hP (ci := 7) (q0 := 4) rfl cw_at_4, fun U hU hW => ⟨rfl, by rw [hU], by rw [hU]; exact hP, va_K.moved hW.alike hK⟩⟩ rfl rfl hl.1 rfl (lv_room (Nat.le_of_ble_eq_true rfl)) d_Pieces_joinSmallest_28 ⟨Nat.le_of_ble_eq_true rfl, Nat.le_of_ble_eq_true rfl⟩) hS hF hA (fun r6 u5 H locs hP hS h => ?_)
     refine cc_i (va_runV (As := [.int r6]) (rest := []) ⟨hx, hb, hml, hown, hts⟩ (ct_Pieces_woodOf l D a cA cZ G _ r6 u5 _ hI h) (pw_cwV 1 hts kw_551 kw_49 kw_548 kw_549 kw_550 (by decide +kernel) ⟨Nat.le_of_ble_eq_true rfl, Nat.le_of_ble_eq_true rfl⟩) ⟨pw_blind, va_recv hK hP (ci := 7) (q0 := 4) rfl cw_at_4, fun U hU hW => ⟨rfl, by rw [hU], by rw [hU]; exact hP, va_K.moved hW.alike hK⟩⟩ rfl rfl hl.1 rfl (lv_room (Nat.le_of_ble_eq_true rfl)) d_Pieces_joinSmallest_31 ⟨Nat.le_of_ble_eq_true rfl, Nat.le_of_ble_eq_true rfl⟩) hS hF hA (fun r8 u7 H locs hP hS h => ?_)
     refine lv_istore_n (lv' := [(3, .int r8), (2, .int r2), (0, .ref (a 4)), (1, .int x1)]) hx hb d_Pieces_joinSmallest_34 rfl hl (by decide) rfl (fun ls hl => ?_)
     refine lv_iconst (v := 0) hx hb d_Pieces_joinSmallest_35 (by decide) ?_
     refine lv_istore (lv' := [(4, .int 0), (3, .int r8), (2, .int r2), (0, .ref (a 4)), (1, .int x1)]) hx hb d_Pieces_joinSmallest_36 hl (by decide) rfl (fun ls hl => ?_)
     obtain ⟨n1, h⟩ := h
     exact cp_Pieces_joinSmallest_38 C K n1 r2 r8 0 u7 _ _ _ hP hS (lv_sub hl [3, 2, 1, 0] rfl) h
   · have h := h.2 c4
     refine lv_iconst (v := 0) hx hb d_Pieces_joinSmallest_23 (by decide) ?_
     exact W.zret (v := 0) hx hb hr rfl (fun t ht hW => ⟨⟨0, u1, rfl, h, by rw [ht]; exact hP, va_K.moved hW.alike hK⟩, hS.F ht⟩) hS.2.2 d_Pieces_joinSmallest_24 hlocks
set_option maxHeartbeats 4000000 in
set_option maxRecDepth 100000 in
theorem ct_Pieces_joinSmallest (l : Launch) (D : va_G) (a : Nat → Nat) (cA cZ : ClassId) (G : pG) (sz : Nat) (x1 : Int32) (u : pS) (Q : Int32 → pS → Prop) (hI : pw_I 40 a) (h : wp_Pieces_joinSmallest G x1 u Q) : Met l y_Pieces_joinSmallest w_Pieces_joinSmallest ({ frames := 4, cells := 0, slots := 0, locals := 90 } : Room) (va_Pc [.ref (a 4), .int x1] (pw_pre D (cw a cA cZ G) (cT cA cZ) sz u)) (va_Qi (fun (r : Int32) (u : pS) => Q r u) (pw_B D (cw a cA cZ G) (cT cA cZ)) (pw_F 40 a sz)) 0 0 (pw_F 40 a sz) := by
 refine Met.ofW (cc := b_Pieces_joinSmallest) (maxL := 5) (ret := (some .boolean)) (by decide) rfl ?_
 intro p e s m args below meth c s₁ B hml hv
 obtain ⟨rfl, hsz, hP, hK⟩ := hv
 subst hsz
 have hl := lv_entry ([.ref (a 4), .int x1]) (n := 5) (Nat.le_of_ble_eq_true rfl)
 rw [lg_entry_eq]
 generalize (lg_sl ([.ref (a 4), .int x1]) ++ List.replicate (5 - (lg_sl ([.ref (a 4), .int x1])).length) Slot.unset).toArray = ls at hl ⊢
 exact st_Pieces_joinSmallest (A := (pw_F 40 a s.heap.size)) ⟨B.exec, B.bytes, B.returns, hml, findClass_of_methodNamed B.named, atoms_spec (ws := w_Pieces_joinSmallest) B.pre, B.notSynchronized, fun q hq => Or.inr hq⟩ ⟨hK, hI, fun k hk => Or.inl ⟨k, hk, rfl⟩⟩ x1 u ls hP hl h
set_option maxHeartbeats 4000000 in
set_option maxRecDepth 100000 in
theorem st_Colours_distance_picture_woods {p : Program} {l : Launch} {e : Env} {s : State} {m : MethodId} {args : Array Value} {below : List Frame} {meth : Method} {c : Code} {D : va_G} {a : Nat → Nat} {cA cZ : ClassId} {G : pG} {A : Nat → Prop} {Q : Int32 → pS → Prop} (C : pw_C p s m args meth c b_Colours_distance 4 R_Colours (some .int) w_Colours_distance A) (K : pw_K s D 40 a (cT cA cZ) A) (x1 x3 : Int32) (u : pS) (ls : Array Slot) (hP : va_P D vwCl (cw a cA cZ G u) s.heap) (hl : lv_has ls 4 [(0, .ref (a 2)), (1, .int x1), (2, .ref (a 3)), (3, .int x3)]) (h : wp_Colours_distance_picture_woods G x1 x3 u Q) : W p l e ({ frames := 1, cells := 0, slots := 0, locals := 14 } : Room) s m args below meth c s.heap [] 0 0 (pw_Ei below args s D (cw a cA cZ G) (cT cA cZ) A Q) (F0 m 0 ls []) := by
 obtain ⟨hx, hb, hr, hml, hown, hts, hlocks, hA⟩ := id C
 obtain ⟨hK, hI, hF⟩ := id K
 have hD : ∀ u, va_D A (cw a cA cZ G u) := fun u => cw_D hI hF
 have hS : va_S A s.heap s.heap [] := va_S.rf
 have h : wp_Colours_distance_picture_woods G x1 x3 u Q := h
 refine lv_aload_n hx hb d_Colours_distance_0 rfl (lv_at hl 0 rfl) ?_
 refine va_get (D := D) (ci := 3) (v := .ref (a 14)) (C := R_Colours) (T := T_Colours) (N := 3) hx hb hts in_Colours hown hK hP 2 cw_at_2 rfl 0 (by decide) (hts _ (List.mem_cons_of_mem _ kw_135)) (fun _ h9 => h9) rfl d_Colours_distance_1 ?_
 refine lv_iload_n hx hb d_Colours_distance_4 rfl (lv_at hl 1 rfl) ?_
 refine va_iald hx hb hK hP 14 0 cw_at_14 rfl h.1 d_Colours_distance_5 ?_
 have h := h.2
 refine lv_aload_n hx hb d_Colours_distance_6 rfl (lv_at hl 2 rfl) ?_
 refine va_get (D := D) (ci := 3) (v := .ref (a 17)) (C := R_Colours) (T := T_Colours) (N := 3) hx hb hts in_Colours hown hK hP 3 cw_at_3 rfl 0 (by decide) (hts _ (List.mem_cons_of_mem _ kw_135)) (fun _ h9 => h9) rfl d_Colours_distance_7 ?_
 refine lv_iload_n hx hb d_Colours_distance_10 rfl (lv_at hl 3 rfl) ?_
 refine va_iald hx hb hK hP 17 0 cw_at_17 rfl h.1 d_Colours_distance_11 ?_
 have h := h.2
 refine lv_isub hx hb d_Colours_distance_12 ?_
 refine va_mabs hx hb (by rw [hml]; exact hl.1.symm) hown (hts _ (List.mem_cons_of_mem _ kw_492)) (hts _ (List.mem_cons_of_mem _ kw_493)) (hts _ (List.mem_cons_of_mem _ kw_47)) (hts _ (List.mem_cons_of_mem _ kw_494)) (Nat.le_of_ble_eq_true rfl) (Nat.le_of_ble_eq_true rfl) (Nat.le_of_ble_eq_true rfl) (Nat.le_of_ble_eq_true rfl) d_Colours_distance_13 ?_
 refine lv_topi (fun t1 et1 => ?_)
 have h := h t1 et1
 refine lv_aload_n hx hb d_Colours_distance_16 rfl (lv_at hl 0 rfl) ?_
 refine va_get (D := D) (ci := 3) (v := .ref (a 15)) (C := R_Colours) (T := T_Colours) (N := 3) hx hb hts in_Colours hown hK hP 2 cw_at_2 rfl 1 (by decide) (hts _ (List.mem_cons_of_mem _ kw_136)) (fun _ h9 => h9) rfl d_Colours_distance_17 ?_
 refine lv_iload_n hx hb d_Colours_distance_20 rfl (lv_at hl 1 rfl) ?_
 refine va_iald hx hb hK hP 15 0 cw_at_15 rfl h.1 d_Colours_distance_21 ?_
 have h := h.2
 refine lv_aload_n hx hb d_Colours_distance_22 rfl (lv_at hl 2 rfl) ?_
 refine va_get (D := D) (ci := 3) (v := .ref (a 18)) (C := R_Colours) (T := T_Colours) (N := 3) hx hb hts in_Colours hown hK hP 3 cw_at_3 rfl 1 (by decide) (hts _ (List.mem_cons_of_mem _ kw_136)) (fun _ h9 => h9) rfl d_Colours_distance_23 ?_
 refine lv_iload_n hx hb d_Colours_distance_26 rfl (lv_at hl 3 rfl) ?_
 refine va_iald hx hb hK hP 18 0 cw_at_18 rfl h.1 d_Colours_distance_27 ?_
 have h := h.2
 refine lv_isub hx hb d_Colours_distance_28 ?_
 refine va_mabs hx hb (by rw [hml]; exact hl.1.symm) hown (hts _ (List.mem_cons_of_mem _ kw_492)) (hts _ (List.mem_cons_of_mem _ kw_493)) (hts _ (List.mem_cons_of_mem _ kw_47)) (hts _ (List.mem_cons_of_mem _ kw_494)) (Nat.le_of_ble_eq_true rfl) (Nat.le_of_ble_eq_true rfl) (Nat.le_of_ble_eq_true rfl) (Nat.le_of_ble_eq_true rfl) d_Colours_distance_29 ?_
 refine lv_topi (fun t2 et2 => ?_)
 have h := h t2 et2
 refine lv_iadd hx hb d_Colours_distance_32 ?_
 refine lv_aload_n hx hb d_Colours_distance_33 rfl (lv_at hl 0 rfl) ?_
 refine va_get (D := D) (ci := 3) (v := .ref (a 16)) (C := R_Colours) (T := T_Colours) (N := 3) hx hb hts in_Colours hown hK hP 2 cw_at_2 rfl 2 (by decide) (hts _ (List.mem_cons_of_mem _ kw_137)) (fun _ h9 => h9) rfl d_Colours_distance_34 ?_
 refine lv_iload_n hx hb d_Colours_distance_37 rfl (lv_at hl 1 rfl) ?_
 refine va_iald hx hb hK hP 16 0 cw_at_16 rfl h.1 d_Colours_distance_38 ?_
 have h := h.2
 refine lv_aload_n hx hb d_Colours_distance_39 rfl (lv_at hl 2 rfl) ?_
 refine va_get (D := D) (ci := 3) (v := .ref (a 19)) (C := R_Colours) (T := T_Colours) (N := 3) hx hb hts in_Colours hown hK hP 3 cw_at_3 rfl 2 (by decide) (hts _ (List.mem_cons_of_mem _ kw_137)) (fun _ h9 => h9) rfl d_Colours_distance_40 ?_
 refine lv_iload_n hx hb d_Colours_distance_43 rfl (lv_at hl 3 rfl) ?_
 refine va_iald hx hb hK hP 19 0 cw_at_19 rfl h.1 d_Colours_distance_44 ?_
 have h := h.2
 refine lv_isub hx hb d_Colours_distance_45 ?_
 refine va_mabs hx hb (by rw [hml]; exact hl.1.symm) hown (hts _ (List.mem_cons_of_mem _ kw_492)) (hts _ (List.mem_cons_of_mem _ kw_493)) (hts _ (List.mem_cons_of_mem _ kw_47)) (hts _ (List.mem_cons_of_mem _ kw_494)) (Nat.le_of_ble_eq_true rfl) (Nat.le_of_ble_eq_true rfl) (Nat.le_of_ble_eq_true rfl) (Nat.le_of_ble_eq_true rfl) d_Colours_distance_46 ?_
 refine lv_topi (fun t3 et3 => ?_)
 have h := h t3 et3
 refine lv_iadd hx hb d_Colours_distance_49 ?_
 exact W.iret (v := ((t1 + t2) + t3)) hx hb hr (fun t ht hW => ⟨⟨((t1 + t2) + t3), u, rfl, h, by rw [ht]; exact hP, va_K.moved hW.alike hK⟩, hS.F ht⟩) hS.2.2 d_Colours_distance_50 hlocks
set_option maxHeartbeats 4000000 in
set_option maxRecDepth 100000 in
theorem ct_Colours_distance_picture_woods (l : Launch) (D : va_G) (a : Nat → Nat) (cA cZ : ClassId) (G : pG) (sz : Nat) (x1 x3 : Int32) (u : pS) (Q : Int32 → pS → Prop) (hI : pw_I 40 a) (h : wp_Colours_distance_picture_woods G x1 x3 u Q) : Met l y_Colours_distance w_Colours_distance ({ frames := 1, cells := 0, slots := 0, locals := 14 } : Room) (va_Pc [.ref (a 2), .int x1, .ref (a 3), .int x3] (pw_pre D (cw a cA cZ G) (cT cA cZ) sz u)) (va_Qi (fun (r : Int32) (u : pS) => Q r u) (pw_B D (cw a cA cZ G) (cT cA cZ)) (pw_F 40 a sz)) 0 0 (pw_F 40 a sz) := by
 refine Met.ofW (cc := b_Colours_distance) (maxL := 4) (ret := (some .int)) (by decide) rfl ?_
 intro p e s m args below meth c s₁ B hml hv
 obtain ⟨rfl, hsz, hP, hK⟩ := hv
 subst hsz
 have hl := lv_entry ([.ref (a 2), .int x1, .ref (a 3), .int x3]) (n := 4) (Nat.le_of_ble_eq_true rfl)
 rw [lg_entry_eq]
 generalize (lg_sl ([.ref (a 2), .int x1, .ref (a 3), .int x3]) ++ List.replicate (4 - (lg_sl ([.ref (a 2), .int x1, .ref (a 3), .int x3])).length) Slot.unset).toArray = ls at hl ⊢
 exact st_Colours_distance_picture_woods (A := (pw_F 40 a s.heap.size)) ⟨B.exec, B.bytes, B.returns, hml, findClass_of_methodNamed B.named, atoms_spec (ws := w_Colours_distance) B.pre, B.notSynchronized, fun q hq => Or.inr hq⟩ ⟨hK, hI, fun k hk => Or.inl ⟨k, hk, rfl⟩⟩ x1 x3 u ls hP hl h
set_option maxHeartbeats 4000000 in
set_option maxRecDepth 100000 in
theorem cp_Pieces_nearestWood_15 {p : Program} {l : Launch} {e : Env} {s : State} {m : MethodId} {args : Array Value} {below : List Frame} {meth : Method} {c : Code} {D : va_G} {a : Nat → Nat} {cA cZ : ClassId} {G : pG} {A : Nat → Prop} {Q : Int32 → pS → Prop} (C : pw_C p s m args meth c b_Pieces_nearestWood 8 R_Pieces (some .int) w_Pieces_nearestWood A) (K : pw_K s D 40 a (cT cA cZ) A) : ∀ (n : Nat), ∀ (x1 x3 x4 x5 x6 : Int32) (u : pS) (H : Heap) (locs : List Loc) (ls : Array Slot), va_P D vwCl (cw a cA cZ G u) H → va_S A s.heap H locs → lv_has ls 8 [(0, .ref (a 2)), (1, .int x1), (2, .ref (a 3)), (3, .int x3), (4, .int x4), (5, .int x5), (6, .int x6)] → lp_Pieces_nearestWood_15 G Q n x1 x3 x4 x5 x6 u → W p l e ({ frames := 2, cells := 0, slots := 0, locals := 37 } : Room) s m args below meth c H locs 0 0 (pw_Ei below args s D (cw a cA cZ G) (cT cA cZ) A Q) (F0 m 15 ls []) := by
 obtain ⟨hx, hb, hr, hml, hown, hts, hlocks, hA⟩ := id C
 obtain ⟨hK, hI, hF⟩ := id K
 have hD : ∀ u, va_D A (cw a cA cZ G u) := fun u => cw_D hI hF
 intro n
 induction n with
 | zero => intro x1 x3 x4 x5 x6 u H locs ls hP hS hl h; exact h.elim
 | succ n ih =>
   intro x1 x3 x4 x5 x6 u H locs ls hP hS hl h
   refine lv_iload hx hb d_Pieces_nearestWood_15 (lv_at hl 6 rfl) ?_
   refine lv_iload_n hx hb d_Pieces_nearestWood_17 rfl (lv_at hl 3 rfl) ?_
   refine lv_icmp_ge (tgt := 52) hx hb d_Pieces_nearestWood_18 (by decide) (fun c3 => ?_) (fun c3 => ?_)
   · have h := h.1 c3
     refine lv_iload hx hb d_Pieces_nearestWood_52 (lv_at hl 4 rfl) ?_
     exact W.iret (v := x4) hx hb hr (fun t ht hW => ⟨⟨x4, u, rfl, h, by rw [ht]; exact hP, va_K.moved hW.alike hK⟩, hS.F ht⟩) hS.2.2 d_Pieces_nearestWood_54 hlocks
   · have h := h.2 c3
     refine lv_aload_n hx hb d_Pieces_nearestWood_21 rfl (lv_at hl 0 rfl) ?_
     refine lv_iload_n hx hb d_Pieces_nearestWood_22 rfl (lv_at hl 1 rfl) ?_
     refine lv_aload_n hx hb d_Pieces_nearestWood_23 rfl (lv_at hl 2 rfl) ?_
     refine lv_iload hx hb d_Pieces_nearestWood_24 (lv_at hl 6 rfl) ?_
     refine cc_i (va_runV (As := [.int x1, .ref (a 3), .int x6]) (rest := []) ⟨hx, hb, hml, hown, hts⟩ (ct_Colours_distance_picture_woods l D a cA cZ G _ x1 x6 u _ hI h) (pw_cwV 3 hts kw_491 kw_48 kw_488 kw_489 kw_490 (by decide +kernel) ⟨Nat.le_of_ble_eq_true rfl, Nat.le_of_ble_eq_true rfl⟩) ⟨pw_blind, va_recv hK hP (ci := 3) (q0 := 2) rfl cw_at_2, fun U hU hW => ⟨rfl, by rw [hU], by rw [hU]; exact hP, va_K.moved hW.alike hK⟩⟩ rfl rfl hl.1 rfl (lv_room (Nat.le_of_ble_eq_true rfl)) d_Pieces_nearestWood_26 ⟨Nat.le_of_ble_eq_true rfl, Nat.le_of_ble_eq_true rfl⟩) hS hF hA (fun r5 u4 H locs hP hS h => ?_)
     refine lv_istore (lv' := [(7, .int r5), (0, .ref (a 2)), (1, .int x1), (2, .ref (a 3)), (3, .int x3), (4, .int x4), (5, .int x5), (6, .int x6)]) hx hb d_Pieces_nearestWood_29 hl (by decide) rfl (fun ls hl => ?_)
     refine lv_iload hx hb d_Pieces_nearestWood_31 (lv_at hl 0 rfl) ?_
     refine lv_iload hx hb d_Pieces_nearestWood_33 (lv_at hl 6 rfl) ?_
     refine lv_icmp_ge (tgt := 46) hx hb d_Pieces_nearestWood_35 (by decide) (fun c6 => ?_) (fun c6 => ?_)
     · have h := h.1 c6
       obtain ⟨t7, et7⟩ : ∃ y : Int32, y = x6 + 1 := ⟨_, rfl⟩
       have h := h t7 et7
       refine lv_iinc (v := t7) (lv' := [(6, .int t7), (7, .int r5), (0, .ref (a 2)), (1, .int x1), (2, .ref (a 3)), (3, .int x3), (4, .int x4), (5, .int x5)]) hx hb d_Pieces_nearestWood_46 hl (k := 7) rfl (by rw [et7]; rfl) (by decide) rfl (fun ls hl => ?_)
       refine lv_goto (tgt := 15) hx hb d_Pieces_nearestWood_49 (by decide) ?_
       exact ih x1 x3 x4 x5 t7 u4 _ _ _ hP hS (lv_sub hl [2, 3, 4, 5, 6, 7, 0] rfl) h
     · have h := h.2 c6
       refine lv_iload hx hb d_Pieces_nearestWood_38 (lv_at hl 7 rfl) ?_
       refine lv_istore (lv' := [(4, .int x6), (7, .int r5), (0, .ref (a 2)), (1, .int x1), (2, .ref (a 3)), (3, .int x3), (5, .int x5), (6, .int x6)]) hx hb d_Pieces_nearestWood_40 hl (by decide) rfl (fun ls hl => ?_)
       refine lv_iload hx hb d_Pieces_nearestWood_42 (lv_at hl 1 rfl) ?_
       refine lv_istore (lv' := [(5, .int r5), (4, .int x6), (7, .int r5), (0, .ref (a 2)), (1, .int x1), (2, .ref (a 3)), (3, .int x3), (6, .int x6)]) hx hb d_Pieces_nearestWood_44 hl (by decide) rfl (fun ls hl => ?_)
       obtain ⟨t8, et8⟩ : ∃ y : Int32, y = x6 + 1 := ⟨_, rfl⟩
       have h := h t8 et8
       refine lv_iinc (v := t8) (lv' := [(6, .int t8), (5, .int r5), (4, .int x6), (7, .int r5), (0, .ref (a 2)), (1, .int x1), (2, .ref (a 3)), (3, .int x3)]) hx hb d_Pieces_nearestWood_46 hl (k := 7) rfl (by rw [et8]; rfl) (by decide) rfl (fun ls hl => ?_)
       refine lv_goto (tgt := 15) hx hb d_Pieces_nearestWood_49 (by decide) ?_
       exact ih x1 x3 x6 r5 t8 u4 _ _ _ hP hS (lv_sub hl [4, 5, 6, 7, 2, 1, 0] rfl) h
set_option maxHeartbeats 4000000 in
set_option maxRecDepth 100000 in
theorem st_Pieces_nearestWood {p : Program} {l : Launch} {e : Env} {s : State} {m : MethodId} {args : Array Value} {below : List Frame} {meth : Method} {c : Code} {D : va_G} {a : Nat → Nat} {cA cZ : ClassId} {G : pG} {A : Nat → Prop} {Q : Int32 → pS → Prop} (C : pw_C p s m args meth c b_Pieces_nearestWood 8 R_Pieces (some .int) w_Pieces_nearestWood A) (K : pw_K s D 40 a (cT cA cZ) A) (x1 x3 : Int32) (u : pS) (ls : Array Slot) (hP : va_P D vwCl (cw a cA cZ G u) s.heap) (hl : lv_has ls 8 [(0, .ref (a 2)), (1, .int x1), (2, .ref (a 3)), (3, .int x3)]) (h : wp_Pieces_nearestWood G x1 x3 u Q) : W p l e ({ frames := 2, cells := 0, slots := 0, locals := 37 } : Room) s m args below meth c s.heap [] 0 0 (pw_Ei below args s D (cw a cA cZ G) (cT cA cZ) A Q) (F0 m 0 ls []) := by
 obtain ⟨hx, hb, hr, hml, hown, hts, hlocks, hA⟩ := id C
 obtain ⟨hK, hI, hF⟩ := id K
 have hD : ∀ u, va_D A (cw a cA cZ G u) := fun u => cw_D hI hF
 have hS : va_S A s.heap s.heap [] := va_S.rf
 have h : wp_Pieces_nearestWood G x1 x3 u Q := h
 refine lv_iconst (v := 0) hx hb d_Pieces_nearestWood_0 (by decide) ?_
 refine lv_istore (lv' := [(4, .int 0), (0, .ref (a 2)), (1, .int x1), (2, .ref (a 3)), (3, .int x3)]) hx hb d_Pieces_nearestWood_1 hl (by decide) rfl (fun ls hl => ?_)
 refine lv_aload_n hx hb d_Pieces_nearestWood_3 rfl (lv_at hl 1 rfl) ?_
 refine lv_iload_n hx hb d_Pieces_nearestWood_4 rfl (lv_at hl 2 rfl) ?_
 refine lv_aload_n hx hb d_Pieces_nearestWood_5 rfl (lv_at hl 3 rfl) ?_
 refine lv_iconst (v := 0) hx hb d_Pieces_nearestWood_6 (by decide) ?_
 refine cc_i (va_runV (As := [.int x1, .ref (a 3), .int 0]) (rest := []) ⟨hx, hb, hml, hown, hts⟩ (ct_Colours_distance_picture_woods l D a cA cZ G _ x1 0 u _ hI h) (pw_cwV 3 hts kw_491 kw_48 kw_488 kw_489 kw_490 (by decide +kernel) ⟨Nat.le_of_ble_eq_true rfl, Nat.le_of_ble_eq_true rfl⟩) ⟨pw_blind, va_recv hK hP (ci := 3) (q0 := 2) rfl cw_at_2, fun U hU hW => ⟨rfl, by rw [hU], by rw [hU]; exact hP, va_K.moved hW.alike hK⟩⟩ rfl rfl hl.1 rfl (lv_room (Nat.le_of_ble_eq_true rfl)) d_Pieces_nearestWood_7 ⟨Nat.le_of_ble_eq_true rfl, Nat.le_of_ble_eq_true rfl⟩) hS hF hA (fun r2 u1 H locs hP hS h => ?_)
 refine lv_istore (lv' := [(5, .int r2), (4, .int 0), (0, .ref (a 2)), (1, .int x1), (2, .ref (a 3)), (3, .int x3)]) hx hb d_Pieces_nearestWood_10 hl (by decide) rfl (fun ls hl => ?_)
 refine lv_iconst (v := 1) hx hb d_Pieces_nearestWood_12 (by decide) ?_
 refine lv_istore (lv' := [(6, .int 1), (5, .int r2), (4, .int 0), (0, .ref (a 2)), (1, .int x1), (2, .ref (a 3)), (3, .int x3)]) hx hb d_Pieces_nearestWood_13 hl (by decide) rfl (fun ls hl => ?_)
 obtain ⟨n1, h⟩ := h
 exact cp_Pieces_nearestWood_15 C K n1 x1 x3 0 r2 1 u1 _ _ _ hP hS (lv_sub hl [3, 4, 5, 6, 2, 1, 0] rfl) h
set_option maxHeartbeats 4000000 in
set_option maxRecDepth 100000 in
theorem ct_Pieces_nearestWood (l : Launch) (D : va_G) (a : Nat → Nat) (cA cZ : ClassId) (G : pG) (sz : Nat) (x1 x3 : Int32) (u : pS) (Q : Int32 → pS → Prop) (hI : pw_I 40 a) (h : wp_Pieces_nearestWood G x1 x3 u Q) : Met l y_Pieces_nearestWood w_Pieces_nearestWood ({ frames := 2, cells := 0, slots := 0, locals := 37 } : Room) (va_Pc [.ref (a 2), .int x1, .ref (a 3), .int x3] (pw_pre D (cw a cA cZ G) (cT cA cZ) sz u)) (va_Qi (fun (r : Int32) (u : pS) => Q r u) (pw_B D (cw a cA cZ G) (cT cA cZ)) (pw_F 40 a sz)) 0 0 (pw_F 40 a sz) := by
 refine Met.ofW (cc := b_Pieces_nearestWood) (maxL := 8) (ret := (some .int)) (by decide) rfl ?_
 intro p e s m args below meth c s₁ B hml hv
 obtain ⟨rfl, hsz, hP, hK⟩ := hv
 subst hsz
 have hl := lv_entry ([.ref (a 2), .int x1, .ref (a 3), .int x3]) (n := 8) (Nat.le_of_ble_eq_true rfl)
 rw [lg_entry_eq]
 generalize (lg_sl ([.ref (a 2), .int x1, .ref (a 3), .int x3]) ++ List.replicate (8 - (lg_sl ([.ref (a 2), .int x1, .ref (a 3), .int x3])).length) Slot.unset).toArray = ls at hl ⊢
 exact st_Pieces_nearestWood (A := (pw_F 40 a s.heap.size)) ⟨B.exec, B.bytes, B.returns, hml, findClass_of_methodNamed B.named, atoms_spec (ws := w_Pieces_nearestWood) B.pre, B.notSynchronized, fun q hq => Or.inr hq⟩ ⟨hK, hI, fun k hk => Or.inl ⟨k, hk, rfl⟩⟩ x1 x3 u ls hP hl h
set_option maxHeartbeats 4000000 in
set_option maxRecDepth 100000 in
theorem cp_Pieces_make_43 {p : Program} {l : Launch} {e : Env} {s : State} {m : MethodId} {args : Array Value} {below : List Frame} {meth : Method} {c : Code} {D : va_G} {a : Nat → Nat} {cA cZ : ClassId} {G : pG} {A : Nat → Prop} {Q : pS → Prop} (C : pw_C p s m args meth c b_Pieces_make 6 R_Pieces none w_Pieces_make A) (K : pw_K s D 40 a (cT cA cZ) A) : ∀ (n : Nat), ∀ (x4 x5 : Int32) (u : pS) (H : Heap) (locs : List Loc) (ls : Array Slot), va_P D vwCl (cw a cA cZ G u) H → va_S A s.heap H locs → lv_has ls 6 [(0, .ref (a 4)), (4, .int x4), (5, .int x5)] → lp_Pieces_make_43 G Q n x4 x5 u → W p l e ({ frames := 5, cells := 0, slots := 0, locals := 114 } : Room) s m args below meth c H locs 0 0 (pw_Ev below args s D (cw a cA cZ G) (cT cA cZ) A Q) (F0 m 43 ls []) := by
 obtain ⟨hx, hb, hr, hml, hown, hts, hlocks, hA⟩ := id C
 obtain ⟨hK, hI, hF⟩ := id K
 have hD : ∀ u, va_D A (cw a cA cZ G u) := fun u => cw_D hI hF
 intro n
 induction n with
 | zero => intro x4 x5 u H locs ls hP hS hl h; exact h.elim
 | succ n ih =>
   intro x4 x5 u H locs ls hP hS hl h
   refine lv_iload hx hb d_Pieces_make_43 (lv_at hl 2 rfl) ?_
   refine lv_aload_n hx hb d_Pieces_make_45 rfl (lv_at hl 0 rfl) ?_
   refine va_get (D := D) (ci := 7) (v := .ref (a 1)) (C := R_Pieces) (T := T_Pieces) (N := 11) hx hb hts in_Pieces hown hK hP 4 cw_at_4 rfl 0 (by decide) (hts _ (List.mem_cons_of_mem _ kw_151)) (fun _ h9 => h9) rfl d_Pieces_make_46 ?_
   refine va_get (D := D) (ci := 4) (v := .int (G.2.1 3)) (C := R_Grid) (T := T_Grid) (N := 6) hx hb hts in_Grid hown hK hP 1 cw_at_1 rfl 2 (by decide) (hts _ (List.mem_cons_of_mem _ kw_107)) (fun _ h9 => h9) rfl d_Pieces_make_49 ?_
   refine lv_icmp_ge (tgt := 74) hx hb d_Pieces_make_52 (by decide) (fun c3 => ?_) (fun c3 => ?_)
   · have h := h.1 c3
     exact W.vret hx hb hr (fun t ht hW => ⟨⟨u, rfl, h, by rw [ht]; exact hP, va_K.moved hW.alike hK⟩, hS.F ht⟩) hS.2.2 d_Pieces_make_74 hlocks
   · have h := h.2 c3
     refine lv_aload_n hx hb d_Pieces_make_55 rfl (lv_at hl 0 rfl) ?_
     refine lv_iload hx hb d_Pieces_make_56 (lv_at hl 1 rfl) ?_
     refine cc_i (va_runV (As := [.int x4]) (rest := []) ⟨hx, hb, hml, hown, hts⟩ (ct_Pieces_joinSmallest l D a cA cZ G _ x4 u _ hI h) (pw_cwV 1 hts kw_531 kw_49 kw_528 kw_530 kw_7 (by decide +kernel) ⟨Nat.le_of_ble_eq_true rfl, Nat.le_of_ble_eq_true rfl⟩) ⟨pw_blind, va_recv hK hP (ci := 7) (q0 := 4) rfl cw_at_4, fun U hU hW => ⟨rfl, by rw [hU], by rw [hU]; exact hP, va_K.moved hW.alike hK⟩⟩ rfl rfl hl.1 rfl (lv_room (Nat.le_of_ble_eq_true rfl)) d_Pieces_make_58 ⟨Nat.le_of_ble_eq_true rfl, Nat.le_of_ble_eq_true rfl⟩) hS hF hA (fun r5 u4 H locs hP hS h => ?_)
     refine lv_if_eq (tgt := 74) hx hb d_Pieces_make_61 (by decide) (fun c6 => ?_) (fun c6 => ?_)
     · have h := h.1 c6
       exact W.vret hx hb hr (fun t ht hW => ⟨⟨u4, rfl, h, by rw [ht]; exact hP, va_K.moved hW.alike hK⟩, hS.F ht⟩) hS.2.2 d_Pieces_make_74 hlocks
     · have h := h.2 c6
       refine lv_aload_n hx hb d_Pieces_make_64 rfl (lv_at hl 0 rfl) ?_
       refine cc_v (va_runV (As := []) (rest := []) ⟨hx, hb, hml, hown, hts⟩ (ct_Pieces_gatherAll l D a cA cZ G _  u4 _ hI h) (pw_cwV 0 hts kw_498 kw_49 kw_495 kw_497 kw_3 (by decide +kernel) ⟨Nat.le_of_ble_eq_true rfl, Nat.le_of_ble_eq_true rfl⟩) ⟨pw_blind, va_recv hK hP (ci := 7) (q0 := 4) rfl cw_at_4, fun U hU hW => ⟨rfl, by rw [hU], by rw [hU]; exact hP, va_K.moved hW.alike hK⟩⟩ rfl rfl hl.1 rfl (lv_room (Nat.le_of_ble_eq_true rfl)) d_Pieces_make_65 ⟨Nat.le_of_ble_eq_true rfl, Nat.le_of_ble_eq_true rfl⟩) hS hF hA (fun u7 H locs hP hS h => ?_)
       obtain ⟨t8, et8⟩ : ∃ y : Int32, y = x5 + 1 := ⟨_, rfl⟩
       have h := h t8 et8
       refine lv_iinc (v := t8) (lv' := [(5, .int t8), (0, .ref (a 4)), (4, .int x4)]) hx hb d_Pieces_make_68 hl (k := 2) rfl (by rw [et8]; rfl) (by decide) rfl (fun ls hl => ?_)
       refine lv_goto (tgt := 43) hx hb d_Pieces_make_71 (by decide) ?_
       exact ih x4 t8 u7 _ _ _ hP hS (lv_sub hl [1, 2, 0] rfl) h
set_option maxHeartbeats 4000000 in
set_option maxRecDepth 100000 in
theorem cp_Pieces_make_3 {p : Program} {l : Launch} {e : Env} {s : State} {m : MethodId} {args : Array Value} {below : List Frame} {meth : Method} {c : Code} {D : va_G} {a : Nat → Nat} {cA cZ : ClassId} {G : pG} {A : Nat → Prop} {Q : pS → Prop} (C : pw_C p s m args meth c b_Pieces_make 6 R_Pieces none w_Pieces_make A) (K : pw_K s D 40 a (cT cA cZ) A) : ∀ (n : Nat), ∀ (x3 x4 x5 : Int32) (u : pS) (H : Heap) (locs : List Loc) (ls : Array Slot), va_P D vwCl (cw a cA cZ G u) H → va_S A s.heap H locs → lv_has ls 6 [(0, .ref (a 4)), (1, .ref (a 2)), (2, .ref (a 3)), (3, .int x3), (4, .int x4), (5, .int x5)] → lp_Pieces_make_3 G Q n x3 x4 x5 u → W p l e ({ frames := 5, cells := 0, slots := 0, locals := 114 } : Room) s m args below meth c H locs 0 0 (pw_Ev below args s D (cw a cA cZ G) (cT cA cZ) A Q) (F0 m 3 ls []) := by
 obtain ⟨hx, hb, hr, hml, hown, hts, hlocks, hA⟩ := id C
 obtain ⟨hK, hI, hF⟩ := id K
 have hD : ∀ u, va_D A (cw a cA cZ G u) := fun u => cw_D hI hF
 intro n
 induction n with
 | zero => intro x3 x4 x5 u H locs ls hP hS hl h; exact h.elim
 | succ n ih =>
   intro x3 x4 x5 u H locs ls hP hS hl h
   refine lv_iload hx hb d_Pieces_make_3 (lv_at hl 5 rfl) ?_
   refine lv_aload_n hx hb d_Pieces_make_5 rfl (lv_at hl 0 rfl) ?_
   refine va_get (D := D) (ci := 7) (v := .ref (a 1)) (C := R_Pieces) (T := T_Pieces) (N := 11) hx hb hts in_Pieces hown hK hP 4 cw_at_4 rfl 0 (by decide) (hts _ (List.mem_cons_of_mem _ kw_151)) (fun _ h9 => h9) rfl d_Pieces_make_6 ?_
   refine va_get (D := D) (ci := 4) (v := .int (G.2.1 3)) (C := R_Grid) (T := T_Grid) (N := 6) hx hb hts in_Grid hown hK hP 1 cw_at_1 rfl 2 (by decide) (hts _ (List.mem_cons_of_mem _ kw_107)) (fun _ h9 => h9) rfl d_Pieces_make_9 ?_
   refine lv_icmp_ge (tgt := 36) hx hb d_Pieces_make_12 (by decide) (fun c1 => ?_) (fun c1 => ?_)
   · have h := h.1 c1
     refine lv_aload_n hx hb d_Pieces_make_36 rfl (lv_at hl 0 rfl) ?_
     refine cc_v (va_runV (As := []) (rest := []) ⟨hx, hb, hml, hown, hts⟩ (ct_Pieces_gatherAll l D a cA cZ G _  u _ hI h) (pw_cwV 0 hts kw_498 kw_49 kw_495 kw_497 kw_3 (by decide +kernel) ⟨Nat.le_of_ble_eq_true rfl, Nat.le_of_ble_eq_true rfl⟩) ⟨pw_blind, va_recv hK hP (ci := 7) (q0 := 4) rfl cw_at_4, fun U hU hW => ⟨rfl, by rw [hU], by rw [hU]; exact hP, va_K.moved hW.alike hK⟩⟩ rfl rfl hl.1 rfl (lv_room (Nat.le_of_ble_eq_true rfl)) d_Pieces_make_37 ⟨Nat.le_of_ble_eq_true rfl, Nat.le_of_ble_eq_true rfl⟩) hS hF hA (fun u2 H locs hP hS h => ?_)
     refine lv_iconst (v := 0) hx hb d_Pieces_make_40 (by decide) ?_
     refine lv_istore (lv' := [(5, .int 0), (0, .ref (a 4)), (1, .ref (a 2)), (2, .ref (a 3)), (3, .int x3), (4, .int x4)]) hx hb d_Pieces_make_41 hl (by decide) rfl (fun ls hl => ?_)
     obtain ⟨n1, h⟩ := h
     exact cp_Pieces_make_43 C K n1 x4 0 u2 _ _ _ hP hS (lv_sub hl [1, 5, 0] rfl) h
   · have h := h.2 c1
     refine lv_aload_n hx hb d_Pieces_make_15 rfl (lv_at hl 0 rfl) ?_
     refine va_get (D := D) (ci := 7) (v := .ref (a 20)) (C := R_Pieces) (T := T_Pieces) (N := 11) hx hb hts in_Pieces hown hK hP 4 cw_at_4 rfl 1 (by decide) (hts _ (List.mem_cons_of_mem _ kw_152)) (fun _ h9 => h9) rfl d_Pieces_make_16 ?_
     refine lv_iload hx hb d_Pieces_make_19 (lv_at hl 5 rfl) ?_
     refine lv_aload_n hx hb d_Pieces_make_21 rfl (lv_at hl 1 rfl) ?_
     refine lv_iload hx hb d_Pieces_make_22 (lv_at hl 5 rfl) ?_
     refine lv_aload_n hx hb d_Pieces_make_24 rfl (lv_at hl 2 rfl) ?_
     refine lv_iload_n hx hb d_Pieces_make_25 rfl (lv_at hl 3 rfl) ?_
     refine cc_i (va_runS (As := [.ref (a 2), .int x5, .ref (a 3), .int x3]) (rest := [.int x5, .ref (a 20)]) ⟨hx, hb, hml, hown, hts⟩ (ct_Pieces_nearestWood l D a cA cZ G _ x5 x3 u _ hI h) (pw_cwS 4 hts kw_487 kw_49 kw_485 kw_486 (by decide +kernel) ⟨Nat.le_of_ble_eq_true rfl, Nat.le_of_ble_eq_true rfl⟩) ⟨pw_blind, fun U hU hW => ⟨rfl, by rw [hU], by rw [hU]; exact hP, va_K.moved hW.alike hK⟩⟩ rfl rfl hl.1 rfl (lv_room (Nat.le_of_ble_eq_true rfl)) d_Pieces_make_26 ⟨Nat.le_of_ble_eq_true rfl, Nat.le_of_ble_eq_true rfl⟩) hS hF hA (fun r10 u9 H locs hP hS h => ?_)
     refine va_iast hx hb hK hP (hD _) hS 20 0 cw_at_20 rfl h.1 d_Pieces_make_29 (fun H locs hP _ hS => ?_)
     obtain ⟨u11, eu11⟩ : ∃ z, z = pw_sa u9 6 (upd (u9.2 6) x5.toNatClampNeg r10) := ⟨_, rfl⟩
     rw [cw_sa_20, ← eu11] at hP
     have h := h.2 u11 eu11
     obtain ⟨t12, et12⟩ : ∃ y : Int32, y = x5 + 1 := ⟨_, rfl⟩
     have h := h t12 et12
     refine lv_iinc (v := t12) (lv' := [(5, .int t12), (0, .ref (a 4)), (1, .ref (a 2)), (2, .ref (a 3)), (3, .int x3), (4, .int x4)]) hx hb d_Pieces_make_30 hl (k := 5) rfl (by rw [et12]; rfl) (by decide) rfl (fun ls hl => ?_)
     refine lv_goto (tgt := 3) hx hb d_Pieces_make_33 (by decide) ?_
     exact ih x3 x4 t12 u11 _ _ _ hP hS (lv_sub hl [1, 2, 3, 4, 5, 0] rfl) h
set_option maxHeartbeats 4000000 in
set_option maxRecDepth 100000 in
theorem st_Pieces_make {p : Program} {l : Launch} {e : Env} {s : State} {m : MethodId} {args : Array Value} {below : List Frame} {meth : Method} {c : Code} {D : va_G} {a : Nat → Nat} {cA cZ : ClassId} {G : pG} {A : Nat → Prop} {Q : pS → Prop} (C : pw_C p s m args meth c b_Pieces_make 6 R_Pieces none w_Pieces_make A) (K : pw_K s D 40 a (cT cA cZ) A) (x3 x4 : Int32) (u : pS) (ls : Array Slot) (hP : va_P D vwCl (cw a cA cZ G u) s.heap) (hl : lv_has ls 6 [(0, .ref (a 4)), (1, .ref (a 2)), (2, .ref (a 3)), (3, .int x3), (4, .int x4)]) (h : wp_Pieces_make G x3 x4 u Q) : W p l e ({ frames := 5, cells := 0, slots := 0, locals := 114 } : Room) s m args below meth c s.heap [] 0 0 (pw_Ev below args s D (cw a cA cZ G) (cT cA cZ) A Q) (F0 m 0 ls []) := by
 obtain ⟨hx, hb, hr, hml, hown, hts, hlocks, hA⟩ := id C
 obtain ⟨hK, hI, hF⟩ := id K
 have hD : ∀ u, va_D A (cw a cA cZ G u) := fun u => cw_D hI hF
 have hS : va_S A s.heap s.heap [] := va_S.rf
 have h : wp_Pieces_make G x3 x4 u Q := h
 refine lv_iconst (v := 0) hx hb d_Pieces_make_0 (by decide) ?_
 refine lv_istore (lv' := [(5, .int 0), (0, .ref (a 4)), (1, .ref (a 2)), (2, .ref (a 3)), (3, .int x3), (4, .int x4)]) hx hb d_Pieces_make_1 hl (by decide) rfl (fun ls hl => ?_)
 obtain ⟨n1, h⟩ := h
 exact cp_Pieces_make_3 C K n1 x3 x4 0 u _ _ _ hP hS (lv_sub hl [1, 2, 3, 4, 5, 0] rfl) h
set_option maxHeartbeats 4000000 in
set_option maxRecDepth 100000 in
theorem ct_Pieces_make (l : Launch) (D : va_G) (a : Nat → Nat) (cA cZ : ClassId) (G : pG) (sz : Nat) (x3 x4 : Int32) (u : pS) (Q : pS → Prop) (hI : pw_I 40 a) (h : wp_Pieces_make G x3 x4 u Q) : Met l y_Pieces_make w_Pieces_make ({ frames := 5, cells := 0, slots := 0, locals := 114 } : Room) (va_Pc [.ref (a 4), .ref (a 2), .ref (a 3), .int x3, .int x4] (pw_pre D (cw a cA cZ G) (cT cA cZ) sz u)) (va_Qv (fun (u : pS) => Q u) (pw_B D (cw a cA cZ G) (cT cA cZ)) (pw_F 40 a sz)) 0 0 (pw_F 40 a sz) := by
 refine Met.ofW (cc := b_Pieces_make) (maxL := 6) (ret := none) (by decide) rfl ?_
 intro p e s m args below meth c s₁ B hml hv
 obtain ⟨rfl, hsz, hP, hK⟩ := hv
 subst hsz
 have hl := lv_entry ([.ref (a 4), .ref (a 2), .ref (a 3), .int x3, .int x4]) (n := 6) (Nat.le_of_ble_eq_true rfl)
 rw [lg_entry_eq]
 generalize (lg_sl ([.ref (a 4), .ref (a 2), .ref (a 3), .int x3, .int x4]) ++ List.replicate (6 - (lg_sl ([.ref (a 4), .ref (a 2), .ref (a 3), .int x3, .int x4])).length) Slot.unset).toArray = ls at hl ⊢
 exact st_Pieces_make (A := (pw_F 40 a s.heap.size)) ⟨B.exec, B.bytes, B.returns, hml, findClass_of_methodNamed B.named, atoms_spec (ws := w_Pieces_make) B.pre, B.notSynchronized, fun q hq => Or.inr hq⟩ ⟨hK, hI, fun k hk => Or.inl ⟨k, hk, rfl⟩⟩ x3 x4 u ls hP hl h
set_option maxHeartbeats 4000000 in
set_option maxRecDepth 100000 in
theorem st_Laying_compare {p : Program} {l : Launch} {e : Env} {s : State} {m : MethodId} {args : Array Value} {below : List Frame} {meth : Method} {c : Code} {D : va_G} {a : Nat → Nat} {cA cZ : ClassId} {G : pG} {A : Nat → Prop} {Q : Int32 → pS → Prop} (C : pw_C p s m args meth c b_Laying_compare 3 R_Laying (some .int) w_Laying_compare A) (K : pw_K s D 40 a (cT cA cZ) A) (x1 x2 : Int32) (u : pS) (ls : Array Slot) (hP : va_P D vwCl (cw a cA cZ G u) s.heap) (hl : lv_has ls 3 [(0, .ref (a 6)), (1, .int x1), (2, .int x2)]) (h : wp_Laying_compare G x1 x2 u Q) : W p l e ({ frames := 3, cells := 0, slots := 0, locals := 63 } : Room) s m args below meth c s.heap [] 0 0 (pw_Ei below args s D (cw a cA cZ G) (cT cA cZ) A Q) (F0 m 0 ls []) := by
 obtain ⟨hx, hb, hr, hml, hown, hts, hlocks, hA⟩ := id C
 obtain ⟨hK, hI, hF⟩ := id K
 have hD : ∀ u, va_D A (cw a cA cZ G u) := fun u => cw_D hI hF
 have hS : va_S A s.heap s.heap [] := va_S.rf
 have h : wp_Laying_compare G x1 x2 u Q := h
 refine lv_aload_n hx hb d_Laying_compare_0 rfl (lv_at hl 0 rfl) ?_
 refine va_get (D := D) (ci := 6) (v := .ref (a 4)) (C := R_Laying) (T := T_Laying) (N := 2) hx hb hts in_Laying hown hK hP 6 cw_at_6 rfl 1 (by decide) (hts _ (List.mem_cons_of_mem _ kw_209)) (fun _ h9 => h9) rfl d_Laying_compare_1 ?_
 refine lv_iload_n hx hb d_Laying_compare_4 rfl (lv_at hl 1 rfl) ?_
 refine cc_i (va_runV (As := [.int x1]) (rest := []) ⟨hx, hb, hml, hown, hts⟩ (ct_Pieces_isAtEdge l D a cA cZ G _ x1 u _ hI h) (pw_cwV 1 hts kw_594 kw_49 kw_591 kw_592 kw_593 (by decide +kernel) ⟨Nat.le_of_ble_eq_true rfl, Nat.le_of_ble_eq_true rfl⟩) ⟨pw_blind, va_recv hK hP (ci := 7) (q0 := 4) rfl cw_at_4, fun U hU hW => ⟨rfl, by rw [hU], by rw [hU]; exact hP, va_K.moved hW.alike hK⟩⟩ rfl rfl hl.1 rfl (lv_room (Nat.le_of_ble_eq_true rfl)) d_Laying_compare_5 ⟨Nat.le_of_ble_eq_true rfl, Nat.le_of_ble_eq_true rfl⟩) hS hF hA (fun r2 u1 H locs hP hS h => ?_)
 refine lv_aload_n hx hb d_Laying_compare_8 rfl (lv_at hl 0 rfl) ?_
 refine va_get (D := D) (ci := 6) (v := .ref (a 4)) (C := R_Laying) (T := T_Laying) (N := 2) hx hb hts in_Laying hown hK hP 6 cw_at_6 rfl 1 (by decide) (hts _ (List.mem_cons_of_mem _ kw_209)) (fun _ h9 => h9) rfl d_Laying_compare_9 ?_
 refine lv_iload_n hx hb d_Laying_compare_12 rfl (lv_at hl 2 rfl) ?_
 refine cc_i (va_runV (As := [.int x2]) (rest := [.int r2]) ⟨hx, hb, hml, hown, hts⟩ (ct_Pieces_isAtEdge l D a cA cZ G _ x2 u1 _ hI h) (pw_cwV 1 hts kw_594 kw_49 kw_591 kw_592 kw_593 (by decide +kernel) ⟨Nat.le_of_ble_eq_true rfl, Nat.le_of_ble_eq_true rfl⟩) ⟨pw_blind, va_recv hK hP (ci := 7) (q0 := 4) rfl cw_at_4, fun U hU hW => ⟨rfl, by rw [hU], by rw [hU]; exact hP, va_K.moved hW.alike hK⟩⟩ rfl rfl hl.1 rfl (lv_room (Nat.le_of_ble_eq_true rfl)) d_Laying_compare_13 ⟨Nat.le_of_ble_eq_true rfl, Nat.le_of_ble_eq_true rfl⟩) hS hF hA (fun r4 u3 H locs hP hS h => ?_)
 refine lv_icmp_eq (tgt := 36) hx hb d_Laying_compare_16 (by decide) (fun c5 => ?_) (fun c5 => ?_)
 · have h := h.1 c5
   refine lv_aload_n hx hb d_Laying_compare_36 rfl (lv_at hl 0 rfl) ?_
   refine va_get (D := D) (ci := 6) (v := .ref (a 4)) (C := R_Laying) (T := T_Laying) (N := 2) hx hb hts in_Laying hown hK hP 6 cw_at_6 rfl 1 (by decide) (hts _ (List.mem_cons_of_mem _ kw_209)) (fun _ h9 => h9) rfl d_Laying_compare_37 ?_
   refine lv_iload_n hx hb d_Laying_compare_40 rfl (lv_at hl 2 rfl) ?_
   refine cc_i (va_runV (As := [.int x2]) (rest := []) ⟨hx, hb, hml, hown, hts⟩ (ct_Pieces_sizeOf l D a cA cZ G _ x2 u3 _ hI h) (pw_cwV 1 hts kw_598 kw_49 kw_595 kw_596 kw_597 (by decide +kernel) ⟨Nat.le_of_ble_eq_true rfl, Nat.le_of_ble_eq_true rfl⟩) ⟨pw_blind, va_recv hK hP (ci := 7) (q0 := 4) rfl cw_at_4, fun U hU hW => ⟨rfl, by rw [hU], by rw [hU]; exact hP, va_K.moved hW.alike hK⟩⟩ rfl rfl hl.1 rfl (lv_room (Nat.le_of_ble_eq_true rfl)) d_Laying_compare_41 ⟨Nat.le_of_ble_eq_true rfl, Nat.le_of_ble_eq_true rfl⟩) hS hF hA (fun r7 u6 H locs hP hS h => ?_)
   refine lv_aload_n hx hb d_Laying_compare_44 rfl (lv_at hl 0 rfl) ?_
   refine va_get (D := D) (ci := 6) (v := .ref (a 4)) (C := R_Laying) (T := T_Laying) (N := 2) hx hb hts in_Laying hown hK hP 6 cw_at_6 rfl 1 (by decide) (hts _ (List.mem_cons_of_mem _ kw_209)) (fun _ h9 => h9) rfl d_Laying_compare_45 ?_
   refine lv_iload_n hx hb d_Laying_compare_48 rfl (lv_at hl 1 rfl) ?_
   refine cc_i (va_runV (As := [.int x1]) (rest := [.int r7]) ⟨hx, hb, hml, hown, hts⟩ (ct_Pieces_sizeOf l D a cA cZ G _ x1 u6 _ hI h) (pw_cwV 1 hts kw_598 kw_49 kw_595 kw_596 kw_597 (by decide +kernel) ⟨Nat.le_of_ble_eq_true rfl, Nat.le_of_ble_eq_true rfl⟩) ⟨pw_blind, va_recv hK hP (ci := 7) (q0 := 4) rfl cw_at_4, fun U hU hW => ⟨rfl, by rw [hU], by rw [hU]; exact hP, va_K.moved hW.alike hK⟩⟩ rfl rfl hl.1 rfl (lv_room (Nat.le_of_ble_eq_true rfl)) d_Laying_compare_49 ⟨Nat.le_of_ble_eq_true rfl, Nat.le_of_ble_eq_true rfl⟩) hS hF hA (fun r9 u8 H locs hP hS h => ?_)
   refine cc_i (va_runS (As := [.int r7, .int r9]) (rest := []) ⟨hx, hb, hml, hown, hts⟩ (ct_Integer_compare l D a cA cZ G _ r7 r9 u8 _ hI h) (pw_cwS 2 hts kw_571 kw_64 kw_599 kw_570 (by decide +kernel) ⟨Nat.le_of_ble_eq_true rfl, Nat.le_of_ble_eq_true rfl⟩) ⟨pw_blind, fun U hU hW => ⟨rfl, by rw [hU], by rw [hU]; exact hP, va_K.moved hW.alike hK⟩⟩ rfl rfl hl.1 rfl (lv_room (Nat.le_of_ble_eq_true rfl)) d_Laying_compare_52 ⟨Nat.le_of_ble_eq_true rfl, Nat.le_of_ble_eq_true rfl⟩) hS hF hA (fun r11 u10 H locs hP hS h => ?_)
   exact W.iret (v := r11) hx hb hr (fun t ht hW => ⟨⟨r11, u10, rfl, h, by rw [ht]; exact hP, va_K.moved hW.alike hK⟩, hS.F ht⟩) hS.2.2 d_Laying_compare_55 hlocks
 · have h := h.2 c5
   refine lv_aload_n hx hb d_Laying_compare_19 rfl (lv_at hl 0 rfl) ?_
   refine va_get (D := D) (ci := 6) (v := .ref (a 4)) (C := R_Laying) (T := T_Laying) (N := 2) hx hb hts in_Laying hown hK hP 6 cw_at_6 rfl 1 (by decide) (hts _ (List.mem_cons_of_mem _ kw_209)) (fun _ h9 => h9) rfl d_Laying_compare_20 ?_
   refine lv_iload_n hx hb d_Laying_compare_23 rfl (lv_at hl 2 rfl) ?_
   refine cc_i (va_runV (As := [.int x2]) (rest := []) ⟨hx, hb, hml, hown, hts⟩ (ct_Pieces_isAtEdge l D a cA cZ G _ x2 u3 _ hI h) (pw_cwV 1 hts kw_594 kw_49 kw_591 kw_592 kw_593 (by decide +kernel) ⟨Nat.le_of_ble_eq_true rfl, Nat.le_of_ble_eq_true rfl⟩) ⟨pw_blind, va_recv hK hP (ci := 7) (q0 := 4) rfl cw_at_4, fun U hU hW => ⟨rfl, by rw [hU], by rw [hU]; exact hP, va_K.moved hW.alike hK⟩⟩ rfl rfl hl.1 rfl (lv_room (Nat.le_of_ble_eq_true rfl)) d_Laying_compare_24 ⟨Nat.le_of_ble_eq_true rfl, Nat.le_of_ble_eq_true rfl⟩) hS hF hA (fun r13 u12 H locs hP hS h => ?_)
   refine lv_if_eq (tgt := 34) hx hb d_Laying_compare_27 (by decide) (fun c14 => ?_) (fun c14 => ?_)
   · have h := h.1 c14
     refine lv_iconst (v := 1) hx hb d_Laying_compare_34 (by decide) ?_
     exact W.iret (v := 1) hx hb hr (fun t ht hW => ⟨⟨1, u12, rfl, h, by rw [ht]; exact hP, va_K.moved hW.alike hK⟩, hS.F ht⟩) hS.2.2 d_Laying_compare_35 hlocks
   · have h := h.2 c14
     refine lv_iconst (v := -1) hx hb d_Laying_compare_30 (by decide) ?_
     refine lv_goto (tgt := 35) hx hb d_Laying_compare_31 (by decide) ?_
     exact W.iret (v := (-1)) hx hb hr (fun t ht hW => ⟨⟨(-1), u12, rfl, h, by rw [ht]; exact hP, va_K.moved hW.alike hK⟩, hS.F ht⟩) hS.2.2 d_Laying_compare_35 hlocks
set_option maxHeartbeats 4000000 in
set_option maxRecDepth 100000 in
theorem ct_Laying_compare (l : Launch) (D : va_G) (a : Nat → Nat) (cA cZ : ClassId) (G : pG) (sz : Nat) (x1 x2 : Int32) (u : pS) (Q : Int32 → pS → Prop) (hI : pw_I 40 a) (h : wp_Laying_compare G x1 x2 u Q) : Met l y_Laying_compare w_Laying_compare ({ frames := 3, cells := 0, slots := 0, locals := 63 } : Room) (va_Pc [.ref (a 6), .int x1, .int x2] (pw_pre D (cw a cA cZ G) (cT cA cZ) sz u)) (va_Qi (fun (r : Int32) (u : pS) => Q r u) (pw_B D (cw a cA cZ G) (cT cA cZ)) (pw_F 40 a sz)) 0 0 (pw_F 40 a sz) := by
 refine Met.ofW (cc := b_Laying_compare) (maxL := 3) (ret := (some .int)) (by decide) rfl ?_
 intro p e s m args below meth c s₁ B hml hv
 obtain ⟨rfl, hsz, hP, hK⟩ := hv
 subst hsz
 have hl := lv_entry ([.ref (a 6), .int x1, .int x2]) (n := 3) (Nat.le_of_ble_eq_true rfl)
 rw [lg_entry_eq]
 generalize (lg_sl ([.ref (a 6), .int x1, .int x2]) ++ List.replicate (3 - (lg_sl ([.ref (a 6), .int x1, .int x2])).length) Slot.unset).toArray = ls at hl ⊢
 exact st_Laying_compare (A := (pw_F 40 a s.heap.size)) ⟨B.exec, B.bytes, B.returns, hml, findClass_of_methodNamed B.named, atoms_spec (ws := w_Laying_compare) B.pre, B.notSynchronized, fun q hq => Or.inr hq⟩ ⟨hK, hI, fun k hk => Or.inl ⟨k, hk, rfl⟩⟩ x1 x2 u ls hP hl h
end
section
set_option maxHeartbeats 4000000 in
set_option maxRecDepth 100000 in
theorem cp_Ranking_rank_laying_18 {p : Program} {l : Launch} {e : Env} {s : State} {m : MethodId} {args : Array Value} {below : List Frame} {meth : Method} {c : Code} {D : va_G} {a : Nat → Nat} {cA cZ : ClassId} {G : pG} {A : Nat → Prop} {Q : pS → Prop} (C : pw_C p s m args meth c b_Ranking_rank 4 R_Ranking none w_Ranking_rank A) (K : pw_K s D 40 a (cT cA cZ) A) (EX : cw_Ex A s) {k2 : Int32 → Int32 → pS → Prop} (hk2 : ∀ (x1 x2 : Int32) (u : pS) (H : Heap) (locs : List Loc) (ls : Array Slot), va_P D vwCl (cw a cA cZ G u) H → va_S A s.heap H locs → lv_has ls 4 [(0, .ref (a 6)), (1, .int x1), (2, .int x2)] → k2 x1 x2 u → W p l e ({ frames := 4, cells := 0, slots := 0, locals := 85 } : Room) s m args below meth c H locs 0 0 (pw_Ev below args s D (cw a cA cZ G) (cT cA cZ) A Q) (F0 m 2 ls [])) : ∀ (n : Nat), ∀ (x1 x2 x3 : Int32) (u : pS) (H : Heap) (locs : List Loc) (ls : Array Slot), va_P D vwCl (cw a cA cZ G u) H → va_S A s.heap H locs → lv_has ls 4 [(0, .ref (a 6)), (1, .int x1), (2, .int x2), (3, .int x3)] → lp_Ranking_rank_laying_18 G Q k2 n x1 x2 x3 u → W p l e ({ frames := 4, cells := 0, slots := 0, locals := 85 } : Room) s m args below meth c H locs 0 0 (pw_Ev below args s D (cw a cA cZ G) (cT cA cZ) A Q) (F0 m 18 ls []) := by
 obtain ⟨hx, hb, hr, hml, hown, hts, hlocks, hA⟩ := id C
 obtain ⟨hK, hI, hF⟩ := id K
 have hD : ∀ u, va_D A (cw a cA cZ G u) := fun u => cw_D hI hF
 intro n
 induction n with
 | zero => intro x1 x2 x3 u H locs ls hP hS hl h; exact h.elim
 | succ n ih =>
   intro x1 x2 x3 u H locs ls hP hS hl h
   refine lv_iload_n hx hb d_Ranking_rank_18 rfl (lv_at hl 3 rfl) ?_
   refine lv_if_le (tgt := 58) hx hb d_Ranking_rank_19 (by decide) (fun c3 => ?_) (fun c3 => ?_)
   · have h := h.1 c3
     refine lv_aload_n hx hb d_Ranking_rank_58 rfl (lv_at hl 0 rfl) ?_
     refine va_get (D := D) (ci := 6) (v := .ref (a 30)) (C := R_Laying) (T := T_Laying) (N := 2) hx hb hts in_Laying hown hK hP 6 cw_at_6 rfl 0 (by decide) (hts _ (List.mem_cons_of_mem _ kw_197)) (fun _ h9 => h9) rfl d_Ranking_rank_59 ?_
     refine lv_iload_n hx hb d_Ranking_rank_62 rfl (lv_at hl 3 rfl) ?_
     refine lv_iload_n hx hb d_Ranking_rank_63 rfl (lv_at hl 2 rfl) ?_
     refine va_iast hx hb hK hP (hD _) hS 30 0 cw_at_30 rfl h.1 d_Ranking_rank_64 (fun H locs hP _ hS => ?_)
     obtain ⟨u4, eu4⟩ : ∃ z, z = pw_sa u 16 (upd (u.2 16) x3.toNatClampNeg x2) := ⟨_, rfl⟩
     rw [cw_sa_30, ← eu4] at hP
     have h := h.2 u4 eu4
     obtain ⟨t5, et5⟩ : ∃ y : Int32, y = x2 + 1 := ⟨_, rfl⟩
     have h := h t5 et5
     refine lv_iinc (v := t5) (lv' := [(2, .int t5), (0, .ref (a 6)), (1, .int x1), (3, .int x3)]) hx hb d_Ranking_rank_65 hl (k := 2) rfl (by rw [et5]; rfl) (by decide) rfl (fun ls hl => ?_)
     refine lv_goto (tgt := 2) hx hb d_Ranking_rank_68 (by decide) ?_
     exact hk2 x1 t5 u4 _ _ _ hP hS (lv_sub hl [1, 2, 0] rfl) h
   · have h := h.2 c3
     refine lv_aload_n hx hb d_Ranking_rank_22 rfl (lv_at hl 0 rfl) ?_
     refine lv_iload_n hx hb d_Ranking_rank_23 rfl (lv_at hl 2 rfl) ?_
     refine lv_aload_n hx hb d_Ranking_rank_24 rfl (lv_at hl 0 rfl) ?_
     refine va_get (D := D) (ci := 6) (v := .ref (a 30)) (C := R_Laying) (T := T_Laying) (N := 2) hx hb hts in_Laying hown hK hP 6 cw_at_6 rfl 0 (by decide) (hts _ (List.mem_cons_of_mem _ kw_197)) (fun _ h9 => h9) rfl d_Ranking_rank_25 ?_
     refine lv_iload_n hx hb d_Ranking_rank_28 rfl (lv_at hl 3 rfl) ?_
     refine lv_iconst (v := 1) hx hb d_Ranking_rank_29 (by decide) ?_
     refine lv_isub hx hb d_Ranking_rank_30 ?_
     refine va_iald hx hb hK hP 30 0 cw_at_30 rfl h.1 d_Ranking_rank_31 ?_
     have h := h.2
     refine cc_i (va_runU (As := [.int x2, .int (u.2 16 (x3 - 1).toNatClampNeg)]) (rest := []) ⟨hx, hb, hml, hown, hts⟩ (ct_Laying_compare l D a cA cZ G _ x2 (u.2 16 (x3 - 1).toNatClampNeg) u _ hI h) (pw_cwO (owner := "PictureInlays$Ranking") 2 hts kw_590 kw_52 kw_559 kw_561 kw_588 kw_589 (EX.1.1.2 _ (by decide)) (by decide +kernel) ⟨Nat.le_of_ble_eq_true rfl, Nat.le_of_ble_eq_true rfl⟩) ⟨pw_blind, va_recv hK hP (ci := 6) (q0 := 6) rfl cw_at_6, fun U hU hW => ⟨rfl, by rw [hU], by rw [hU]; exact hP, va_K.moved hW.alike hK⟩⟩ rfl rfl hl.1 rfl (lv_room (Nat.le_of_ble_eq_true rfl)) d_Ranking_rank_32 ⟨Nat.le_of_ble_eq_true rfl, Nat.le_of_ble_eq_true rfl⟩) hS hF hA (fun r7 u6 H locs hP hS h => ?_)
     refine lv_if_ge (tgt := 58) hx hb d_Ranking_rank_35 (by decide) (fun c8 => ?_) (fun c8 => ?_)
     · have h := h.1 c8
       refine lv_aload_n hx hb d_Ranking_rank_58 rfl (lv_at hl 0 rfl) ?_
       refine va_get (D := D) (ci := 6) (v := .ref (a 30)) (C := R_Laying) (T := T_Laying) (N := 2) hx hb hts in_Laying hown hK hP 6 cw_at_6 rfl 0 (by decide) (hts _ (List.mem_cons_of_mem _ kw_197)) (fun _ h9 => h9) rfl d_Ranking_rank_59 ?_
       refine lv_iload_n hx hb d_Ranking_rank_62 rfl (lv_at hl 3 rfl) ?_
       refine lv_iload_n hx hb d_Ranking_rank_63 rfl (lv_at hl 2 rfl) ?_
       refine va_iast hx hb hK hP (hD _) hS 30 0 cw_at_30 rfl h.1 d_Ranking_rank_64 (fun H locs hP _ hS => ?_)
       obtain ⟨u9, eu9⟩ : ∃ z, z = pw_sa u6 16 (upd (u6.2 16) x3.toNatClampNeg x2) := ⟨_, rfl⟩
       rw [cw_sa_30, ← eu9] at hP
       have h := h.2 u9 eu9
       obtain ⟨t10, et10⟩ : ∃ y : Int32, y = x2 + 1 := ⟨_, rfl⟩
       have h := h t10 et10
       refine lv_iinc (v := t10) (lv' := [(2, .int t10), (0, .ref (a 6)), (1, .int x1), (3, .int x3)]) hx hb d_Ranking_rank_65 hl (k := 2) rfl (by rw [et10]; rfl) (by decide) rfl (fun ls hl => ?_)
       refine lv_goto (tgt := 2) hx hb d_Ranking_rank_68 (by decide) ?_
       exact hk2 x1 t10 u9 _ _ _ hP hS (lv_sub hl [1, 2, 0] rfl) h
     · have h := h.2 c8
       refine lv_aload_n hx hb d_Ranking_rank_38 rfl (lv_at hl 0 rfl) ?_
       refine va_get (D := D) (ci := 6) (v := .ref (a 30)) (C := R_Laying) (T := T_Laying) (N := 2) hx hb hts in_Laying hown hK hP 6 cw_at_6 rfl 0 (by decide) (hts _ (List.mem_cons_of_mem _ kw_197)) (fun _ h9 => h9) rfl d_Ranking_rank_39 ?_
       refine lv_iload_n hx hb d_Ranking_rank_42 rfl (lv_at hl 3 rfl) ?_
       refine lv_aload_n hx hb d_Ranking_rank_43 rfl (lv_at hl 0 rfl) ?_
       refine va_get (D := D) (ci := 6) (v := .ref (a 30)) (C := R_Laying) (T := T_Laying) (N := 2) hx hb hts in_Laying hown hK hP 6 cw_at_6 rfl 0 (by decide) (hts _ (List.mem_cons_of_mem _ kw_197)) (fun _ h9 => h9) rfl d_Ranking_rank_44 ?_
       refine lv_iload_n hx hb d_Ranking_rank_47 rfl (lv_at hl 3 rfl) ?_
       refine lv_iconst (v := 1) hx hb d_Ranking_rank_48 (by decide) ?_
       refine lv_isub hx hb d_Ranking_rank_49 ?_
       refine va_iald hx hb hK hP 30 0 cw_at_30 rfl h.1 d_Ranking_rank_50 ?_
       have h := h.2
       refine va_iast hx hb hK hP (hD _) hS 30 0 cw_at_30 rfl h.1 d_Ranking_rank_51 (fun H locs hP _ hS => ?_)
       obtain ⟨u11, eu11⟩ : ∃ z, z = pw_sa u6 16 (upd (u6.2 16) x3.toNatClampNeg (u6.2 16 (x3 - 1).toNatClampNeg)) := ⟨_, rfl⟩
       rw [cw_sa_30, ← eu11] at hP
       have h := h.2 u11 eu11
       obtain ⟨t12, et12⟩ : ∃ y : Int32, y = x3 + (-1) := ⟨_, rfl⟩
       have h := h t12 et12
       refine lv_iinc (v := t12) (lv' := [(3, .int t12), (0, .ref (a 6)), (1, .int x1), (2, .int x2)]) hx hb d_Ranking_rank_52 hl (k := 3) rfl (by rw [et12]; rfl) (by decide) rfl (fun ls hl => ?_)
       refine lv_goto (tgt := 18) hx hb d_Ranking_rank_55 (by decide) ?_
       exact ih x1 x2 t12 u11 _ _ _ hP hS (lv_sub hl [1, 2, 3, 0] rfl) h
set_option maxHeartbeats 4000000 in
set_option maxRecDepth 100000 in
theorem cp_Ranking_rank_laying_2 {p : Program} {l : Launch} {e : Env} {s : State} {m : MethodId} {args : Array Value} {below : List Frame} {meth : Method} {c : Code} {D : va_G} {a : Nat → Nat} {cA cZ : ClassId} {G : pG} {A : Nat → Prop} {Q : pS → Prop} (C : pw_C p s m args meth c b_Ranking_rank 4 R_Ranking none w_Ranking_rank A) (K : pw_K s D 40 a (cT cA cZ) A) (EX : cw_Ex A s) : ∀ (n : Nat), ∀ (x1 x2 : Int32) (u : pS) (H : Heap) (locs : List Loc) (ls : Array Slot), va_P D vwCl (cw a cA cZ G u) H → va_S A s.heap H locs → lv_has ls 4 [(0, .ref (a 6)), (1, .int x1), (2, .int x2)] → lp_Ranking_rank_laying_2 G Q n x1 x2 u → W p l e ({ frames := 4, cells := 0, slots := 0, locals := 85 } : Room) s m args below meth c H locs 0 0 (pw_Ev below args s D (cw a cA cZ G) (cT cA cZ) A Q) (F0 m 2 ls []) := by
 obtain ⟨hx, hb, hr, hml, hown, hts, hlocks, hA⟩ := id C
 obtain ⟨hK, hI, hF⟩ := id K
 have hD : ∀ u, va_D A (cw a cA cZ G u) := fun u => cw_D hI hF
 intro n
 induction n with
 | zero => intro x1 x2 u H locs ls hP hS hl h; exact h.elim
 | succ n ih =>
   intro x1 x2 u H locs ls hP hS hl h
   refine lv_iload_n hx hb d_Ranking_rank_2 rfl (lv_at hl 2 rfl) ?_
   refine lv_iload_n hx hb d_Ranking_rank_3 rfl (lv_at hl 1 rfl) ?_
   refine lv_icmp_ge (tgt := 71) hx hb d_Ranking_rank_4 (by decide) (fun c1 => ?_) (fun c1 => ?_)
   · have h := h.1 c1
     exact W.vret hx hb hr (fun t ht hW => ⟨⟨u, rfl, h, by rw [ht]; exact hP, va_K.moved hW.alike hK⟩, hS.F ht⟩) hS.2.2 d_Ranking_rank_71 hlocks
   · have h := h.2 c1
     refine lv_iload_n hx hb d_Ranking_rank_7 rfl (lv_at hl 2 rfl) ?_
     refine lv_aload_n hx hb d_Ranking_rank_8 rfl (lv_at hl 0 rfl) ?_
     refine va_get (D := D) (ci := 6) (v := .ref (a 30)) (C := R_Laying) (T := T_Laying) (N := 2) hx hb hts in_Laying hown hK hP 6 cw_at_6 rfl 0 (by decide) (hts _ (List.mem_cons_of_mem _ kw_197)) (fun _ h9 => h9) rfl d_Ranking_rank_9 ?_
     refine va_alen (v := nI (G.1 30)) hx hb hK hP 30 0 cw_at_30 rfl rfl d_Ranking_rank_12 ?_
     refine lv_icmp_ge (tgt := 71) hx hb d_Ranking_rank_13 (by decide) (fun c2 => ?_) (fun c2 => ?_)
     · have h := h.1 c2
       exact W.vret hx hb hr (fun t ht hW => ⟨⟨u, rfl, h, by rw [ht]; exact hP, va_K.moved hW.alike hK⟩, hS.F ht⟩) hS.2.2 d_Ranking_rank_71 hlocks
     · have h := h.2 c2
       refine lv_iload_n hx hb d_Ranking_rank_16 rfl (lv_at hl 2 rfl) ?_
       refine lv_istore_n (lv' := [(3, .int x2), (0, .ref (a 6)), (1, .int x1), (2, .int x2)]) hx hb d_Ranking_rank_17 rfl hl (by decide) rfl (fun ls hl => ?_)
       obtain ⟨n1, h⟩ := h
       exact cp_Ranking_rank_laying_18 C K EX ih n1 x1 x2 x2 u _ _ _ hP hS (lv_sub hl [1, 2, 3, 0] rfl) h
set_option maxHeartbeats 4000000 in
set_option maxRecDepth 100000 in
theorem st_Ranking_rank_laying {p : Program} {l : Launch} {e : Env} {s : State} {m : MethodId} {args : Array Value} {below : List Frame} {meth : Method} {c : Code} {D : va_G} {a : Nat → Nat} {cA cZ : ClassId} {G : pG} {A : Nat → Prop} {Q : pS → Prop} (C : pw_C p s m args meth c b_Ranking_rank 4 R_Ranking none w_Ranking_rank A) (K : pw_K s D 40 a (cT cA cZ) A) (EX : cw_Ex A s) (x1 : Int32) (u : pS) (ls : Array Slot) (hP : va_P D vwCl (cw a cA cZ G u) s.heap) (hl : lv_has ls 4 [(0, .ref (a 6)), (1, .int x1)]) (h : wp_Ranking_rank_laying G x1 u Q) : W p l e ({ frames := 4, cells := 0, slots := 0, locals := 85 } : Room) s m args below meth c s.heap [] 0 0 (pw_Ev below args s D (cw a cA cZ G) (cT cA cZ) A Q) (F0 m 0 ls []) := by
 obtain ⟨hx, hb, hr, hml, hown, hts, hlocks, hA⟩ := id C
 obtain ⟨hK, hI, hF⟩ := id K
 have hD : ∀ u, va_D A (cw a cA cZ G u) := fun u => cw_D hI hF
 have hS : va_S A s.heap s.heap [] := va_S.rf
 have h : wp_Ranking_rank_laying G x1 u Q := h
 refine lv_iconst (v := 0) hx hb d_Ranking_rank_0 (by decide) ?_
 refine lv_istore_n (lv' := [(2, .int 0), (0, .ref (a 6)), (1, .int x1)]) hx hb d_Ranking_rank_1 rfl hl (by decide) rfl (fun ls hl => ?_)
 obtain ⟨n1, h⟩ := h
 exact cp_Ranking_rank_laying_2 C K EX n1 x1 0 u _ _ _ hP hS (lv_sub hl [1, 2, 0] rfl) h
set_option maxHeartbeats 4000000 in
set_option maxRecDepth 100000 in
theorem ct_Ranking_rank_laying (l : Launch) (D : va_G) (a : Nat → Nat) (cA cZ : ClassId) (G : pG) (sz : Nat) (x1 : Int32) (u : pS) (Q : pS → Prop) (hI : pw_I 40 a) (h : wp_Ranking_rank_laying G x1 u Q) : Met l y_Ranking_rank w_Ranking_rank ({ frames := 4, cells := 0, slots := 0, locals := 85 } : Room) (va_Pc [.ref (a 6), .int x1] (fun U => pw_pre D (cw a cA cZ G) (cT cA cZ) sz u U ∧ cw_Ex (pw_F 40 a sz) U)) (va_Qv (fun (u : pS) => Q u) (pw_B D (cw a cA cZ G) (cT cA cZ)) (pw_F 40 a sz)) 0 0 (pw_F 40 a sz) := by
 refine Met.ofW (cc := b_Ranking_rank) (maxL := 4) (ret := none) (by decide) rfl ?_
 intro p e s m args below meth c s₁ B hml hv
 obtain ⟨rfl, ⟨hsz, hP, hK⟩, EX⟩ := hv
 subst hsz
 have hl := lv_entry ([.ref (a 6), .int x1]) (n := 4) (Nat.le_of_ble_eq_true rfl)
 rw [lg_entry_eq]
 generalize (lg_sl ([.ref (a 6), .int x1]) ++ List.replicate (4 - (lg_sl ([.ref (a 6), .int x1])).length) Slot.unset).toArray = ls at hl ⊢
 exact st_Ranking_rank_laying (A := (pw_F 40 a s.heap.size)) ⟨B.exec, B.bytes, B.returns, hml, findClass_of_methodNamed B.named, atoms_spec (ws := w_Ranking_rank) B.pre, B.notSynchronized, fun q hq => Or.inr hq⟩ ⟨hK, hI, fun k hk => Or.inl ⟨k, hk, rfl⟩⟩ EX x1 u ls hP hl h
set_option maxHeartbeats 4000000 in
set_option maxRecDepth 100000 in
theorem st_PI_part {p : Program} {l : Launch} {e : Env} {s : State} {m : MethodId} {args : Array Value} {below : List Frame} {meth : Method} {c : Code} {D : va_G} {a : Nat → Nat} {cA cZ : ClassId} {G : pG} {A : Nat → Prop} {Q : Int32 → pS → Prop} {X : Nat → pS → Prop} (C : pw_C p s m args meth c b_PI_part 2 R_PI (some .int) w_PI_part A) (K : pw_K s D 40 a (cT cA cZ) A) (EX : cw_Ex A s) (hL : px_L l) (htr : e.platform.stackTraces = false) (hE : ∀ (pc : Nat), ∀ x ∈ c.exceptionTable.toList, covers x pc = false) (x1 : Int32) (u : pS) (ls : Array Slot) (hP : va_P D vwCl (cw a cA cZ G u) s.heap) (hl : lv_has ls 2 [(0, .ref (a 0)), (1, .int x1)]) (h : wp_PI_part G x1 u Q X) : W p l e ({ frames := 7, cells := 1, slots := 6, locals := 139 } : Room) s m args below meth c s.heap [] 0 0 (px_Ei below args s D (cw a cA cZ G) (cT cA cZ) A Q X) (F0 m 0 ls []) := by
 obtain ⟨hx, hb, hr, hml, hown, hts, hlocks, hA⟩ := id C
 obtain ⟨hK, hI, hF⟩ := id K
 have hD : ∀ u, va_D A (cw a cA cZ G u) := fun u => cw_D hI hF
 have hz : ∀ oc t, px_T X (pw_B D (cw a cA cZ G) (cT cA cZ)) oc t → va_F A s t → (px_Qi Q X (pw_B D (cw a cA cZ G) (cT cA cZ)) A) args s oc t := fun oc t h1 h2 => ⟨Or.inr h1, h2⟩
 have hS : va_S A s.heap s.heap [] := va_S.rf
 have h : wp_PI_part G x1 u Q X := h
 refine lv_iload_n hx hb d_PI_part_0 rfl (lv_at hl 1 rfl) ?_
 refine lv_iconst (v := 1) hx hb d_PI_part_1 (by decide) ?_
 refine lv_sipush (v := 400) hx hb d_PI_part_2 (by decide) ?_
 refine cx_v (px_runS (As := [.int x1, .int 1, .int 400]) (rest := []) ⟨hx, hb, hml, hown, hts⟩ (ct_PI_needNumber l D a cA cZ G _ x1 1 400 u _ _ hL hI h) (pw_cwS 3 hts kw_441 kw_45 kw_439 kw_440 (by decide +kernel) ⟨Nat.le_of_ble_eq_true rfl, Nat.le_of_ble_eq_true rfl⟩) ⟨cw_blindX, fun U hU hW => ⟨rfl, ⟨by rw [hU], by rw [hU]; exact hP, va_K.moved hW.alike hK⟩, cw_Ex_call EX hS (pw_FA hS hF hA) hU hW⟩⟩ rfl rfl hl.1 rfl (lv_room (Nat.le_of_ble_eq_true rfl)) d_PI_part_5 ⟨Nat.le_of_ble_eq_true rfl, Nat.le_of_ble_eq_true rfl⟩) hS hF hA (hE _) hlocks hz (fun u1 H locs hP hS h => ?_)
 refine lv_aload_n hx hb d_PI_part_8 rfl (lv_at hl 0 rfl) ?_
 refine va_get (D := D) (ci := 0) (v := .ref (a 4)) (C := R_PI) (T := T_PI) (N := 12) hx hb hts in_PI hown hK hP 0 cw_at_0 rfl 4 (by decide) (hts _ (List.mem_cons_of_mem _ kw_316)) (fun _ h9 => h9) rfl d_PI_part_9 ?_
 refine lv_aload_n hx hb d_PI_part_12 rfl (lv_at hl 0 rfl) ?_
 refine va_get (D := D) (ci := 0) (v := .ref (a 2)) (C := R_PI) (T := T_PI) (N := 12) hx hb hts in_PI hown hK hP 0 cw_at_0 rfl 2 (by decide) (hts _ (List.mem_cons_of_mem _ kw_314)) (fun _ h9 => h9) rfl d_PI_part_13 ?_
 refine lv_aload_n hx hb d_PI_part_16 rfl (lv_at hl 0 rfl) ?_
 refine va_get (D := D) (ci := 0) (v := .ref (a 3)) (C := R_PI) (T := T_PI) (N := 12) hx hb hts in_PI hown hK hP 0 cw_at_0 rfl 3 (by decide) (hts _ (List.mem_cons_of_mem _ kw_315)) (fun _ h9 => h9) rfl d_PI_part_17 ?_
 refine lv_aload_n hx hb d_PI_part_20 rfl (lv_at hl 0 rfl) ?_
 refine va_get (D := D) (ci := 0) (v := .int (G.2.1 0)) (C := R_PI) (T := T_PI) (N := 12) hx hb hts in_PI hown hK hP 0 cw_at_0 rfl 1 (by decide) (hts _ (List.mem_cons_of_mem _ kw_313)) (fun _ h9 => h9) rfl d_PI_part_21 ?_
 refine lv_iload_n hx hb d_PI_part_24 rfl (lv_at hl 1 rfl) ?_
 refine cc_v (va_runV (As := [.ref (a 2), .ref (a 3), .int (G.2.1 0), .int x1]) (rest := []) ⟨hx, hb, hml, hown, hts⟩ (ct_Pieces_make l D a cA cZ G _ (G.2.1 0) x1 u1 _ hI h) (pw_cwV 4 hts kw_484 kw_49 kw_481 kw_482 kw_483 (by decide +kernel) ⟨Nat.le_of_ble_eq_true rfl, Nat.le_of_ble_eq_true rfl⟩) ⟨pw_blind, va_recv hK hP (ci := 7) (q0 := 4) rfl cw_at_4, fun U hU hW => ⟨rfl, by rw [hU], by rw [hU]; exact hP, va_K.moved hW.alike hK⟩⟩ rfl rfl hl.1 rfl (lv_room (Nat.le_of_ble_eq_true rfl)) d_PI_part_25 ⟨Nat.le_of_ble_eq_true rfl, Nat.le_of_ble_eq_true rfl⟩) hS hF hA (fun u2 H locs hP hS h => ?_)
 refine lv_aload_n hx hb d_PI_part_28 rfl (lv_at hl 0 rfl) ?_
 refine va_get (D := D) (ci := 0) (v := .ref (a 6)) (C := R_PI) (T := T_PI) (N := 12) hx hb hts in_PI hown hK hP 0 cw_at_0 rfl 6 (by decide) (hts _ (List.mem_cons_of_mem _ kw_318)) (fun _ h9 => h9) rfl d_PI_part_29 ?_
 refine lv_aload_n hx hb d_PI_part_32 rfl (lv_at hl 0 rfl) ?_
 refine va_get (D := D) (ci := 0) (v := .ref (a 4)) (C := R_PI) (T := T_PI) (N := 12) hx hb hts in_PI hown hK hP 0 cw_at_0 rfl 4 (by decide) (hts _ (List.mem_cons_of_mem _ kw_316)) (fun _ h9 => h9) rfl d_PI_part_33 ?_
 refine va_get (D := D) (ci := 7) (v := .int (u2.1 2)) (C := R_Pieces) (T := T_Pieces) (N := 11) hx hb hts in_Pieces hown hK hP 4 cw_at_4 rfl 10 (by decide) (hts _ (List.mem_cons_of_mem _ kw_163)) (fun _ h9 => h9) rfl d_PI_part_36 ?_
 refine cc_v (va_runU (As := [.int (u2.1 2)]) (rest := []) ⟨hx, hb, hml, hown, hts⟩ (ct_Ranking_rank_laying l D a cA cZ G _ (u2.1 2) u2 _ hI h) (pw_cwU (owner := "PictureInlays$Ranking") 1 hts kw_558 kw_50 kw_552 kw_554 kw_557 kw_553 rfl (by decide +kernel) ⟨Nat.le_of_ble_eq_true rfl, Nat.le_of_ble_eq_true rfl⟩) ⟨cw_blindX, va_recv hK hP (ci := 6) (q0 := 6) rfl cw_at_6, fun U hU hW => ⟨rfl, ⟨by rw [hU], by rw [hU]; exact hP, va_K.moved hW.alike hK⟩, cw_Ex_call EX hS (pw_FA hS hF hA) hU hW⟩⟩ rfl rfl hl.1 rfl (lv_room (Nat.le_of_ble_eq_true rfl)) d_PI_part_39 ⟨Nat.le_of_ble_eq_true rfl, Nat.le_of_ble_eq_true rfl⟩) hS hF hA (fun u3 H locs hP hS h => ?_)
 refine lv_aload_n hx hb d_PI_part_42 rfl (lv_at hl 0 rfl) ?_
 refine lv_iconst (v := 1) hx hb d_PI_part_43 (by decide) ?_
 refine va_put (D := D) (ci := 0) (v := .int 1) (ty := .boolean) (C := R_PI) (T := T_PI) (N := 12) hx hb hts in_PI ty_PI tyok_PI nm_PI hown hK hP (hD _) hS 0 cw_at_0 rfl 10 (by decide) (hts _ (List.mem_cons_of_mem _ kw_322)) (fun _ h9 => h9) rfl (by decide +kernel) rfl rfl (Nat.le_of_ble_eq_true rfl) d_PI_part_44 (fun H locs hP _ hS => ?_)
 obtain ⟨u4, eu4⟩ : ∃ z, z = pw_si u3 0 1 := ⟨_, rfl⟩
 rw [cw_si_0_10, ← eu4] at hP
 have h := h u4 eu4
 refine lv_aload_n hx hb d_PI_part_47 rfl (lv_at hl 0 rfl) ?_
 refine lv_iconst (v := 0) hx hb d_PI_part_48 (by decide) ?_
 refine va_put (D := D) (ci := 0) (v := .int 0) (ty := .boolean) (C := R_PI) (T := T_PI) (N := 12) hx hb hts in_PI ty_PI tyok_PI nm_PI hown hK hP (hD _) hS 0 cw_at_0 rfl 11 (by decide) (hts _ (List.mem_cons_of_mem _ kw_323)) (fun _ h9 => h9) rfl (by decide +kernel) rfl rfl (Nat.le_of_ble_eq_true rfl) d_PI_part_49 (fun H locs hP _ hS => ?_)
 obtain ⟨u5, eu5⟩ : ∃ z, z = pw_si u4 1 0 := ⟨_, rfl⟩
 rw [cw_si_0_11, ← eu5] at hP
 have h := h u5 eu5
 refine lv_aload_n hx hb d_PI_part_52 rfl (lv_at hl 0 rfl) ?_
 refine va_get (D := D) (ci := 0) (v := .ref (a 4)) (C := R_PI) (T := T_PI) (N := 12) hx hb hts in_PI hown hK hP 0 cw_at_0 rfl 4 (by decide) (hts _ (List.mem_cons_of_mem _ kw_316)) (fun _ h9 => h9) rfl d_PI_part_53 ?_
 refine va_get (D := D) (ci := 7) (v := .int (u5.1 2)) (C := R_Pieces) (T := T_Pieces) (N := 11) hx hb hts in_Pieces hown hK hP 4 cw_at_4 rfl 10 (by decide) (hts _ (List.mem_cons_of_mem _ kw_163)) (fun _ h9 => h9) rfl d_PI_part_56 ?_
 exact px_mono (fun t h => px_ofMQ (fun _ _ h => h) h) (W.iret (Qc := px_Qi Q X (pw_B D (cw a cA cZ G) (cT cA cZ)) A) (v := (u5.1 2)) hx hb hr (fun t ht hW => ⟨Or.inl ⟨(u5.1 2), u5, rfl, h, by rw [ht]; exact hP, va_K.moved hW.alike hK⟩, hS.F ht⟩) hS.2.2 d_PI_part_59 hlocks)
set_option maxHeartbeats 4000000 in
set_option maxRecDepth 100000 in
theorem ct_PI_part (l : Launch) (D : va_G) (a : Nat → Nat) (cA cZ : ClassId) (G : pG) (sz : Nat) (x1 : Int32) (u : pS) (Q : Int32 → pS → Prop) (X : Nat → pS → Prop) (hL : px_L l) (hI : pw_I 40 a) (h : wp_PI_part G x1 u Q X) : px_Met l y_PI_part w_PI_part ({ frames := 7, cells := 1, slots := 6, locals := 139 } : Room) (va_Pc [.ref (a 0), .int x1] (fun U => pw_pre D (cw a cA cZ G) (cT cA cZ) sz u U ∧ cw_Ex (pw_F 40 a sz) U)) (px_Qi Q X (pw_B D (cw a cA cZ G) (cT cA cZ)) (pw_F 40 a sz)) 0 0 1 6 (pw_F 40 a sz) := by
 refine px_ofW (cc := b_PI_part) (maxL := 2) (ret := (some .int)) (by decide) rfl ?_
 intro p e s m args below meth c s₁ B hml hE hv
 obtain ⟨rfl, ⟨hsz, hP, hK⟩, EX⟩ := hv
 subst hsz
 have hl := lv_entry ([.ref (a 0), .int x1]) (n := 2) (Nat.le_of_ble_eq_true rfl)
 rw [lg_entry_eq]
 generalize (lg_sl ([.ref (a 0), .int x1]) ++ List.replicate (2 - (lg_sl ([.ref (a 0), .int x1])).length) Slot.unset).toArray = ls at hl ⊢
 exact st_PI_part (A := (pw_F 40 a s.heap.size)) ⟨B.exec, B.bytes, B.returns, hml, findClass_of_methodNamed B.named, atoms_spec (ws := w_PI_part) B.pre, B.notSynchronized, fun q hq => Or.inr hq⟩ ⟨hK, hI, fun k hk => Or.inl ⟨k, hk, rfl⟩⟩ EX hL (hL e B.admits) (px_none hE) x1 u ls hP hl h
end
