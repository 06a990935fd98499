abbrev b_PI_at : ByteArray := prog_1_method_14_code
abbrev y_PI_at : MethodName := ⟨"PictureInlays", "at", "(II)I"⟩
abbrev w_PI_at : List Cond := .code ⟨"PictureInlays", "at", "(II)I"⟩ prog_1_method_14_code 3 (some .int) :: pw_T
abbrev b_PI_border : ByteArray := prog_1_method_15_code
abbrev y_PI_border : MethodName := ⟨"PictureInlays", "border", "(III)I"⟩
abbrev w_PI_border : List Cond := .code ⟨"PictureInlays", "border", "(III)I"⟩ prog_1_method_15_code 9 (some .int) :: pw_T
abbrev b_PI_commonDivisor : ByteArray := prog_1_method_18_code
abbrev y_PI_commonDivisor : MethodName := ⟨"PictureInlays", "commonDivisor", "(II)I"⟩
abbrev w_PI_commonDivisor : List Cond := .code ⟨"PictureInlays", "commonDivisor", "(II)I"⟩ prog_1_method_18_code 6 (some .int) :: pw_T
abbrev b_PI_corner : ByteArray := prog_1_method_9_code
abbrev y_PI_corner : MethodName := ⟨"PictureInlays", "corner", "(III)I"⟩
abbrev w_PI_corner : List Cond := .code ⟨"PictureInlays", "corner", "(III)I"⟩ prog_1_method_9_code 4 (some .int) :: pw_T
abbrev b_PI_joined : ByteArray := prog_1_method_7_code
abbrev y_PI_joined : MethodName := ⟨"PictureInlays", "joined", "(II)I"⟩
abbrev w_PI_joined : List Cond := .code ⟨"PictureInlays", "joined", "(II)I"⟩ prog_1_method_7_code 3 (some .int) :: pw_T
abbrev b_PI_kind : ByteArray := prog_1_method_3_code
abbrev y_PI_kind : MethodName := ⟨"PictureInlays", "kind", "(IIII)Z"⟩
abbrev w_PI_kind : List Cond := .code ⟨"PictureInlays", "kind", "(IIII)Z"⟩ prog_1_method_3_code 5 (some .boolean) :: pw_T
abbrev b_PI_left : ByteArray := prog_1_method_10_code
abbrev y_PI_left : MethodName := ⟨"PictureInlays", "left", "(II)I"⟩
abbrev w_PI_left : List Cond := .code ⟨"PictureInlays", "left", "(II)I"⟩ prog_1_method_10_code 3 (some .int) :: pw_T
abbrev b_PI_needColour : ByteArray := prog_1_method_24_code
abbrev y_PI_needColour : MethodName := ⟨"PictureInlays", "needColour", "(III)V"⟩
abbrev w_PI_needColour : List Cond := .code ⟨"PictureInlays", "needColour", "(III)V"⟩ prog_1_method_24_code 3 none :: pw_T
abbrev b_PI_needIndex : ByteArray := prog_1_method_25_code
abbrev y_PI_needIndex : MethodName := ⟨"PictureInlays", "needIndex", "(II)V"⟩
abbrev w_PI_needIndex : List Cond := .code ⟨"PictureInlays", "needIndex", "(II)V"⟩ prog_1_method_25_code 2 none :: pw_T
abbrev b_PI_needNested : ByteArray := prog_1_method_21_code
abbrev y_PI_needNested : MethodName := ⟨"PictureInlays", "needNested", "()V"⟩
abbrev w_PI_needNested : List Cond := .code ⟨"PictureInlays", "needNested", "()V"⟩ prog_1_method_21_code 1 none :: pw_T
abbrev b_PI_needNumber : ByteArray := prog_1_method_26_code
abbrev y_PI_needNumber : MethodName := ⟨"PictureInlays", "needNumber", "(III)V"⟩
abbrev w_PI_needNumber : List Cond := .code ⟨"PictureInlays", "needNumber", "(III)V"⟩ prog_1_method_26_code 3 none :: pw_T
abbrev b_PI_needParted : ByteArray := prog_1_method_20_code
abbrev y_PI_needParted : MethodName := ⟨"PictureInlays", "needParted", "()V"⟩
abbrev w_PI_needParted : List Cond := .code ⟨"PictureInlays", "needParted", "()V"⟩ prog_1_method_20_code 1 none :: pw_T
abbrev b_PI_needPiece : ByteArray := prog_1_method_22_code
abbrev y_PI_needPiece : MethodName := ⟨"PictureInlays", "needPiece", "(I)V"⟩
abbrev w_PI_needPiece : List Cond := .code ⟨"PictureInlays", "needPiece", "(I)V"⟩ prog_1_method_22_code 2 none :: pw_T
abbrev b_PI_needPlace : ByteArray := prog_1_method_23_code
abbrev y_PI_needPlace : MethodName := ⟨"PictureInlays", "needPlace", "(II)V"⟩
abbrev w_PI_needPlace : List Cond := .code ⟨"PictureInlays", "needPlace", "(II)V"⟩ prog_1_method_23_code 3 none :: pw_T
abbrev b_PI_nest : ByteArray := prog_1_method_13_code
abbrev y_PI_nest : MethodName := ⟨"PictureInlays", "nest", "(II)I"⟩
abbrev w_PI_nest : List Cond := .code ⟨"PictureInlays", "nest", "(II)I"⟩ prog_1_method_13_code 3 (some .int) :: pw_T
abbrev b_PI_order : ByteArray := prog_1_method_12_code
abbrev y_PI_order : MethodName := ⟨"PictureInlays", "order", "(I)I"⟩
abbrev w_PI_order : List Cond := .code ⟨"PictureInlays", "order", "(I)I"⟩ prog_1_method_12_code 2 (some .int) :: pw_T
abbrev b_PI_outline : ByteArray := prog_1_method_8_code
abbrev y_PI_outline : MethodName := ⟨"PictureInlays", "outline", "(I)I"⟩
abbrev w_PI_outline : List Cond := .code ⟨"PictureInlays", "outline", "(I)I"⟩ prog_1_method_8_code 2 (some .int) :: pw_T
abbrev b_PI_part : ByteArray := prog_1_method_4_code
abbrev y_PI_part : MethodName := ⟨"PictureInlays", "part", "(I)I"⟩
abbrev w_PI_part : List Cond := .code ⟨"PictureInlays", "part", "(I)I"⟩ prog_1_method_4_code 2 (some .int) :: pw_T
abbrev b_PI_piece : ByteArray := prog_1_method_6_code
abbrev y_PI_piece : MethodName := ⟨"PictureInlays", "piece", "(II)I"⟩
abbrev w_PI_piece : List Cond := .code ⟨"PictureInlays", "piece", "(II)I"⟩ prog_1_method_6_code 3 (some .int) :: pw_T
abbrev b_PI_pieceOf : ByteArray := prog_1_method_5_code
abbrev y_PI_pieceOf : MethodName := ⟨"PictureInlays", "pieceOf", "(II)I"⟩
abbrev w_PI_pieceOf : List Cond := .code ⟨"PictureInlays", "pieceOf", "(II)I"⟩ prog_1_method_5_code 3 (some .int) :: pw_T
abbrev b_PI_pixel : ByteArray := prog_1_method_2_code
abbrev y_PI_pixel : MethodName := ⟨"PictureInlays", "pixel", "(IIIII)Z"⟩
abbrev w_PI_pixel : List Cond := .code ⟨"PictureInlays", "pixel", "(IIIII)Z"⟩ prog_1_method_2_code 6 (some .boolean) :: pw_T
abbrev b_PI_reached : ByteArray := prog_1_method_11_code
abbrev y_PI_reached : MethodName := ⟨"PictureInlays", "reached", "(III)Z"⟩
abbrev w_PI_reached : List Cond := .code ⟨"PictureInlays", "reached", "(III)Z"⟩ prog_1_method_11_code 4 (some .boolean) :: pw_T
abbrev b_PI_sorted : ByteArray := prog_1_method_16_code
abbrev y_PI_sorted : MethodName := ⟨"PictureInlays", "sorted", "(I)I"⟩
abbrev w_PI_sorted : List Cond := .code ⟨"PictureInlays", "sorted", "(I)I"⟩ prog_1_method_16_code 2 (some .int) :: pw_T
abbrev b_PI_told : ByteArray := prog_1_method_19_code
abbrev y_PI_told : MethodName := ⟨"PictureInlays", "told", "(Z)Z"⟩
abbrev w_PI_told : List Cond := .code ⟨"PictureInlays", "told", "(Z)Z"⟩ prog_1_method_19_code 2 (some .boolean) :: pw_T
abbrev b_Brightest_compare : ByteArray := prog_2_method_2_code
abbrev y_Brightest_compare : MethodName := ⟨"PictureInlays$Brightest", "compare", "(II)I"⟩
abbrev w_Brightest_compare : List Cond := .code ⟨"PictureInlays$Brightest", "compare", "(II)I"⟩ prog_2_method_2_code 3 (some .int) :: pw_T
abbrev b_Colours_brightness : ByteArray := prog_3_method_4_code
abbrev y_Colours_brightness : MethodName := ⟨"PictureInlays$Colours", "brightness", "(I)I"⟩
abbrev w_Colours_brightness : List Cond := .code ⟨"PictureInlays$Colours", "brightness", "(I)I"⟩ prog_3_method_4_code 2 (some .int) :: pw_T
abbrev b_Colours_distance : ByteArray := prog_3_method_3_code
abbrev y_Colours_distance : MethodName := ⟨"PictureInlays$Colours", "distance", "(ILPictureInlays$Colours;I)I"⟩
abbrev w_Colours_distance : List Cond := .code ⟨"PictureInlays$Colours", "distance", "(ILPictureInlays$Colours;I)I"⟩ prog_3_method_3_code 4 (some .int) :: pw_T
abbrev b_Colours_tell : ByteArray := prog_3_method_2_code
abbrev y_Colours_tell : MethodName := ⟨"PictureInlays$Colours", "tell", "(IIII)Z"⟩
abbrev w_Colours_tell : List Cond := .code ⟨"PictureInlays$Colours", "tell", "(IIII)Z"⟩ prog_3_method_2_code 5 (some .boolean) :: pw_T
abbrev b_Grid_besideOf : ByteArray := prog_4_method_5_code
abbrev y_Grid_besideOf : MethodName := ⟨"PictureInlays$Grid", "besideOf", "(II)I"⟩
abbrev w_Grid_besideOf : List Cond := .code ⟨"PictureInlays$Grid", "besideOf", "(II)I"⟩ prog_4_method_5_code 3 (some .int) :: pw_T
abbrev b_Grid_columnOf : ByteArray := prog_4_method_3_code
abbrev y_Grid_columnOf : MethodName := ⟨"PictureInlays$Grid", "columnOf", "(I)I"⟩
abbrev w_Grid_columnOf : List Cond := .code ⟨"PictureInlays$Grid", "columnOf", "(I)I"⟩ prog_4_method_3_code 2 (some .int) :: pw_T
abbrev b_Grid_placeOf : ByteArray := prog_4_method_2_code
abbrev y_Grid_placeOf : MethodName := ⟨"PictureInlays$Grid", "placeOf", "(II)I"⟩
abbrev w_Grid_placeOf : List Cond := .code ⟨"PictureInlays$Grid", "placeOf", "(II)I"⟩ prog_4_method_2_code 4 (some .int) :: pw_T
abbrev b_Grid_rowOf : ByteArray := prog_4_method_4_code
abbrev y_Grid_rowOf : MethodName := ⟨"PictureInlays$Grid", "rowOf", "(I)I"⟩
abbrev w_Grid_rowOf : List Cond := .code ⟨"PictureInlays$Grid", "rowOf", "(I)I"⟩ prog_4_method_4_code 2 (some .int) :: pw_T
abbrev b_Highest_compare : ByteArray := prog_5_method_2_code
abbrev y_Highest_compare : MethodName := ⟨"PictureInlays$Highest", "compare", "(II)I"⟩
abbrev w_Highest_compare : List Cond := .code ⟨"PictureInlays$Highest", "compare", "(II)I"⟩ prog_5_method_2_code 3 (some .int) :: pw_T
abbrev b_Laying_compare : ByteArray := prog_6_method_2_code
abbrev y_Laying_compare : MethodName := ⟨"PictureInlays$Laying", "compare", "(II)I"⟩
abbrev w_Laying_compare : List Cond := .code ⟨"PictureInlays$Laying", "compare", "(II)I"⟩ prog_6_method_2_code 3 (some .int) :: pw_T
abbrev b_Pieces_begin : ByteArray := prog_7_method_6_code
abbrev y_Pieces_begin : MethodName := ⟨"PictureInlays$Pieces", "begin", "(II)V"⟩
abbrev w_Pieces_begin : List Cond := .code ⟨"PictureInlays$Pieces", "begin", "(II)V"⟩ prog_7_method_6_code 3 none :: pw_T
abbrev b_Pieces_closestTo : ByteArray := prog_7_method_10_code
abbrev y_Pieces_closestTo : MethodName := ⟨"PictureInlays$Pieces", "closestTo", "(I)I"⟩
abbrev w_Pieces_closestTo : List Cond := .code ⟨"PictureInlays$Pieces", "closestTo", "(I)I"⟩ prog_7_method_10_code 4 (some .int) :: pw_T
abbrev b_Pieces_columnsOf : ByteArray := prog_7_method_20_code
abbrev y_Pieces_columnsOf : MethodName := ⟨"PictureInlays$Pieces", "columnsOf", "(I)I"⟩
abbrev w_Pieces_columnsOf : List Cond := .code ⟨"PictureInlays$Pieces", "columnsOf", "(I)I"⟩ prog_7_method_20_code 2 (some .int) :: pw_T
abbrev b_Pieces_countSidesAt : ByteArray := prog_7_method_12_code
abbrev y_Pieces_countSidesAt : MethodName := ⟨"PictureInlays$Pieces", "countSidesAt", "(I)V"⟩
abbrev w_Pieces_countSidesAt : List Cond := .code ⟨"PictureInlays$Pieces", "countSidesAt", "(I)V"⟩ prog_7_method_12_code 4 none :: pw_T
abbrev b_Pieces_countSidesOf : ByteArray := prog_7_method_11_code
abbrev y_Pieces_countSidesOf : MethodName := ⟨"PictureInlays$Pieces", "countSidesOf", "(I)V"⟩
abbrev w_Pieces_countSidesOf : List Cond := .code ⟨"PictureInlays$Pieces", "countSidesOf", "(I)V"⟩ prog_7_method_11_code 3 none :: pw_T
abbrev b_Pieces_firstXOf : ByteArray := prog_7_method_17_code
abbrev y_Pieces_firstXOf : MethodName := ⟨"PictureInlays$Pieces", "firstXOf", "(I)I"⟩
abbrev w_Pieces_firstXOf : List Cond := .code ⟨"PictureInlays$Pieces", "firstXOf", "(I)I"⟩ prog_7_method_17_code 2 (some .int) :: pw_T
abbrev b_Pieces_gather : ByteArray := prog_7_method_5_code
abbrev y_Pieces_gather : MethodName := ⟨"PictureInlays$Pieces", "gather", "(II)V"⟩
abbrev w_Pieces_gather : List Cond := .code ⟨"PictureInlays$Pieces", "gather", "(II)V"⟩ prog_7_method_5_code 8 none :: pw_T
abbrev b_Pieces_gatherAll : ByteArray := prog_7_method_4_code
abbrev y_Pieces_gatherAll : MethodName := ⟨"PictureInlays$Pieces", "gatherAll", "()V"⟩
abbrev w_Pieces_gatherAll : List Cond := .code ⟨"PictureInlays$Pieces", "gatherAll", "()V"⟩ prog_7_method_4_code 2 none :: pw_T
abbrev b_Pieces_include : ByteArray := prog_7_method_7_code
abbrev y_Pieces_include : MethodName := ⟨"PictureInlays$Pieces", "include", "(II)V"⟩
abbrev w_Pieces_include : List Cond := .code ⟨"PictureInlays$Pieces", "include", "(II)V"⟩ prog_7_method_7_code 3 none :: pw_T
abbrev b_Pieces_isAtEdge : ByteArray := prog_7_method_22_code
abbrev y_Pieces_isAtEdge : MethodName := ⟨"PictureInlays$Pieces", "isAtEdge", "(I)Z"⟩
abbrev w_Pieces_isAtEdge : List Cond := .code ⟨"PictureInlays$Pieces", "isAtEdge", "(I)Z"⟩ prog_7_method_22_code 2 (some .boolean) :: pw_T
abbrev b_Pieces_joinSmallest : ByteArray := prog_7_method_8_code
abbrev y_Pieces_joinSmallest : MethodName := ⟨"PictureInlays$Pieces", "joinSmallest", "(I)Z"⟩
abbrev w_Pieces_joinSmallest : List Cond := .code ⟨"PictureInlays$Pieces", "joinSmallest", "(I)Z"⟩ prog_7_method_8_code 5 (some .boolean) :: pw_T
abbrev b_Pieces_leastXOf : ByteArray := prog_7_method_18_code
abbrev y_Pieces_leastXOf : MethodName := ⟨"PictureInlays$Pieces", "leastXOf", "(I)I"⟩
abbrev w_Pieces_leastXOf : List Cond := .code ⟨"PictureInlays$Pieces", "leastXOf", "(I)I"⟩ prog_7_method_18_code 2 (some .int) :: pw_T
abbrev b_Pieces_leastYOf : ByteArray := prog_7_method_19_code
abbrev y_Pieces_leastYOf : MethodName := ⟨"PictureInlays$Pieces", "leastYOf", "(I)I"⟩
abbrev w_Pieces_leastYOf : List Cond := .code ⟨"PictureInlays$Pieces", "leastYOf", "(I)I"⟩ prog_7_method_19_code 2 (some .int) :: pw_T
abbrev b_Pieces_make : ByteArray := prog_7_method_2_code
abbrev y_Pieces_make : MethodName := ⟨"PictureInlays$Pieces", "make", "(LPictureInlays$Colours;LPictureInlays$Colours;II)V"⟩
abbrev w_Pieces_make : List Cond := .code ⟨"PictureInlays$Pieces", "make", "(LPictureInlays$Colours;LPictureInlays$Colours;II)V"⟩ prog_7_method_2_code 6 none :: pw_T
abbrev b_Pieces_nearestWood : ByteArray := prog_7_method_3_code
abbrev y_Pieces_nearestWood : MethodName := ⟨"PictureInlays$Pieces", "nearestWood", "(LPictureInlays$Colours;ILPictureInlays$Colours;I)I"⟩
abbrev w_Pieces_nearestWood : List Cond := .code ⟨"PictureInlays$Pieces", "nearestWood", "(LPictureInlays$Colours;ILPictureInlays$Colours;I)I"⟩ prog_7_method_3_code 8 (some .int) :: pw_T
abbrev b_Pieces_numberOf : ByteArray := prog_7_method_14_code
abbrev y_Pieces_numberOf : MethodName := ⟨"PictureInlays$Pieces", "numberOf", "(II)I"⟩
abbrev w_Pieces_numberOf : List Cond := .code ⟨"PictureInlays$Pieces", "numberOf", "(II)I"⟩ prog_7_method_14_code 4 (some .int) :: pw_T
abbrev b_Pieces_rowsOf : ByteArray := prog_7_method_21_code
abbrev y_Pieces_rowsOf : MethodName := ⟨"PictureInlays$Pieces", "rowsOf", "(I)I"⟩
abbrev w_Pieces_rowsOf : List Cond := .code ⟨"PictureInlays$Pieces", "rowsOf", "(I)I"⟩ prog_7_method_21_code 2 (some .int) :: pw_T
abbrev b_Pieces_sidesBetween : ByteArray := prog_7_method_13_code
abbrev y_Pieces_sidesBetween : MethodName := ⟨"PictureInlays$Pieces", "sidesBetween", "(II)I"⟩
abbrev w_Pieces_sidesBetween : List Cond := .code ⟨"PictureInlays$Pieces", "sidesBetween", "(II)I"⟩ prog_7_method_13_code 3 (some .int) :: pw_T
abbrev b_Pieces_sizeOf : ByteArray := prog_7_method_16_code
abbrev y_Pieces_sizeOf : MethodName := ⟨"PictureInlays$Pieces", "sizeOf", "(I)I"⟩
abbrev w_Pieces_sizeOf : List Cond := .code ⟨"PictureInlays$Pieces", "sizeOf", "(I)I"⟩ prog_7_method_16_code 2 (some .int) :: pw_T
abbrev b_Pieces_smallest : ByteArray := prog_7_method_9_code
abbrev y_Pieces_smallest : MethodName := ⟨"PictureInlays$Pieces", "smallest", "()I"⟩
abbrev w_Pieces_smallest : List Cond := .code ⟨"PictureInlays$Pieces", "smallest", "()I"⟩ prog_7_method_9_code 3 (some .int) :: pw_T
abbrev b_Pieces_woodOf : ByteArray := prog_7_method_15_code
abbrev y_Pieces_woodOf : MethodName := ⟨"PictureInlays$Pieces", "woodOf", "(I)I"⟩
abbrev w_Pieces_woodOf : List Cond := .code ⟨"PictureInlays$Pieces", "woodOf", "(I)I"⟩ prog_7_method_15_code 2 (some .int) :: pw_T
abbrev b_Ranking_rank : ByteArray := prog_8_method_3_code
abbrev y_Ranking_rank : MethodName := ⟨"PictureInlays$Ranking", "rank", "(I)V"⟩
abbrev w_Ranking_rank : List Cond := .code ⟨"PictureInlays$Ranking", "rank", "(I)V"⟩ prog_8_method_3_code 4 none :: pw_T
abbrev b_Ranking_ranked : ByteArray := prog_8_method_4_code
abbrev y_Ranking_ranked : MethodName := ⟨"PictureInlays$Ranking", "ranked", "(I)I"⟩
abbrev w_Ranking_ranked : List Cond := .code ⟨"PictureInlays$Ranking", "ranked", "(I)I"⟩ prog_8_method_4_code 2 (some .int) :: pw_T
abbrev b_Sheet_fill : ByteArray := prog_9_method_2_code
abbrev y_Sheet_fill : MethodName := ⟨"PictureInlays$Sheet", "fill", "(II)I"⟩
abbrev w_Sheet_fill : List Cond := .code ⟨"PictureInlays$Sheet", "fill", "(II)I"⟩ prog_9_method_2_code 7 (some .int) :: pw_T
abbrev b_Sheet_newRow : ByteArray := prog_9_method_4_code
abbrev y_Sheet_newRow : MethodName := ⟨"PictureInlays$Sheet", "newRow", "(I)I"⟩
abbrev w_Sheet_newRow : List Cond := .code ⟨"PictureInlays$Sheet", "newRow", "(I)I"⟩ prog_9_method_4_code 2 (some .int) :: pw_T
abbrev b_Sheet_put : ByteArray := prog_9_method_5_code
abbrev y_Sheet_put : MethodName := ⟨"PictureInlays$Sheet", "put", "(II)V"⟩
abbrev w_Sheet_put : List Cond := .code ⟨"PictureInlays$Sheet", "put", "(II)V"⟩ prog_9_method_5_code 3 none :: pw_T
abbrev b_Sheet_rowFor : ByteArray := prog_9_method_3_code
abbrev y_Sheet_rowFor : MethodName := ⟨"PictureInlays$Sheet", "rowFor", "(III)I"⟩
abbrev w_Sheet_rowFor : List Cond := .code ⟨"PictureInlays$Sheet", "rowFor", "(III)I"⟩ prog_9_method_3_code 7 (some .int) :: pw_T
abbrev b_Sheet_xOf : ByteArray := prog_9_method_6_code
abbrev y_Sheet_xOf : MethodName := ⟨"PictureInlays$Sheet", "xOf", "(I)I"⟩
abbrev w_Sheet_xOf : List Cond := .code ⟨"PictureInlays$Sheet", "xOf", "(I)I"⟩ prog_9_method_6_code 2 (some .int) :: pw_T
abbrev b_Sheet_yOf : ByteArray := prog_9_method_7_code
abbrev y_Sheet_yOf : MethodName := ⟨"PictureInlays$Sheet", "yOf", "(I)I"⟩
abbrev w_Sheet_yOf : List Cond := .code ⟨"PictureInlays$Sheet", "yOf", "(I)I"⟩ prog_9_method_7_code 2 (some .int) :: pw_T
abbrev b_Tool_cover : ByteArray := prog_10_method_2_code
abbrev y_Tool_cover : MethodName := ⟨"PictureInlays$Tool", "cover", "(II)V"⟩
abbrev w_Tool_cover : List Cond := .code ⟨"PictureInlays$Tool", "cover", "(II)V"⟩ prog_10_method_2_code 5 none :: pw_T
abbrev b_Tool_covers : ByteArray := prog_10_method_5_code
abbrev y_Tool_covers : MethodName := ⟨"PictureInlays$Tool", "covers", "(II)Z"⟩
abbrev w_Tool_covers : List Cond := .code ⟨"PictureInlays$Tool", "covers", "(II)Z"⟩ prog_10_method_5_code 4 (some .boolean) :: pw_T
abbrev b_Tool_fits : ByteArray := prog_10_method_3_code
abbrev y_Tool_fits : MethodName := ⟨"PictureInlays$Tool", "fits", "(IIII)Z"⟩
abbrev w_Tool_fits : List Cond := .code ⟨"PictureInlays$Tool", "fits", "(IIII)Z"⟩ prog_10_method_3_code 7 (some .boolean) :: pw_T
abbrev b_Tool_mark : ByteArray := prog_10_method_4_code
abbrev y_Tool_mark : MethodName := ⟨"PictureInlays$Tool", "mark", "(III)V"⟩
abbrev w_Tool_mark : List Cond := .code ⟨"PictureInlays$Tool", "mark", "(III)V"⟩ prog_10_method_4_code 7 none :: pw_T
abbrev b_Walk_cornerX : ByteArray := prog_11_method_6_code
abbrev y_Walk_cornerX : MethodName := ⟨"PictureInlays$Walk", "cornerX", "(I)I"⟩
abbrev w_Walk_cornerX : List Cond := .code ⟨"PictureInlays$Walk", "cornerX", "(I)I"⟩ prog_11_method_6_code 2 (some .int) :: pw_T
abbrev b_Walk_cornerY : ByteArray := prog_11_method_7_code
abbrev y_Walk_cornerY : MethodName := ⟨"PictureInlays$Walk", "cornerY", "(I)I"⟩
abbrev w_Walk_cornerY : List Cond := .code ⟨"PictureInlays$Walk", "cornerY", "(I)I"⟩ prog_11_method_7_code 2 (some .int) :: pw_T
abbrev b_Walk_isAhead : ByteArray := prog_11_method_4_code
abbrev y_Walk_isAhead : MethodName := ⟨"PictureInlays$Walk", "isAhead", "(II)Z"⟩
abbrev w_Walk_isAhead : List Cond := .code ⟨"PictureInlays$Walk", "isAhead", "(II)Z"⟩ prog_11_method_4_code 3 (some .boolean) :: pw_T
abbrev b_Walk_noteCorner : ByteArray := prog_11_method_5_code
abbrev y_Walk_noteCorner : MethodName := ⟨"PictureInlays$Walk", "noteCorner", "()V"⟩
abbrev w_Walk_noteCorner : List Cond := .code ⟨"PictureInlays$Walk", "noteCorner", "()V"⟩ prog_11_method_5_code 1 none :: pw_T
abbrev b_Walk_round : ByteArray := prog_11_method_2_code
abbrev y_Walk_round : MethodName := ⟨"PictureInlays$Walk", "round", "(I)V"⟩
abbrev w_Walk_round : List Cond := .code ⟨"PictureInlays$Walk", "round", "(I)V"⟩ prog_11_method_2_code 5 none :: pw_T
abbrev b_Walk_turn : ByteArray := prog_11_method_3_code
abbrev y_Walk_turn : MethodName := ⟨"PictureInlays$Walk", "turn", "(I)V"⟩
abbrev w_Walk_turn : List Cond := .code ⟨"PictureInlays$Walk", "turn", "(I)V"⟩ prog_11_method_3_code 3 none :: pw_T
abbrev b_Integer_compare : ByteArray := prog_18_method_40_code
abbrev y_Integer_compare : MethodName := ⟨"java/lang/Integer", "compare", "(II)I"⟩
abbrev w_Integer_compare : List Cond := .code ⟨"java/lang/Integer", "compare", "(II)I"⟩ prog_18_method_40_code 2 (some .int) :: pw_T
abbrev b_Arrays_fill : ByteArray := prog_23_method_103_code
abbrev y_Arrays_fill : MethodName := ⟨"java/util/Arrays", "fill", "([II)V"⟩
abbrev w_Arrays_fill : List Cond := .code ⟨"java/util/Arrays", "fill", "([II)V"⟩ prog_23_method_103_code 4 none :: pw_T
theorem kw_0 : (.selects "PictureInlays" ⟨"PictureInlays", "needPlace", "(II)V"⟩ ⟨"PictureInlays", "needPlace", "(II)V"⟩ : Cond) ∈ pw_T := pw_mem (i := 0) (by decide +kernel) (by decide +kernel)
theorem kw_2 : (.selects "PictureInlays" ⟨"PictureInlays", "told", "(Z)Z"⟩ ⟨"PictureInlays", "told", "(Z)Z"⟩ : Cond) ∈ pw_T := pw_mem (i := 2) (by decide +kernel) (by decide +kernel)
theorem kw_3 : (.selects "PictureInlays$Pieces" ⟨"PictureInlays$Pieces", "gatherAll", "()V"⟩ ⟨"PictureInlays$Pieces", "gatherAll", "()V"⟩ : Cond) ∈ pw_T := pw_mem (i := 3) (by decide +kernel) (by decide +kernel)
theorem kw_4 : (.selects "PictureInlays$Pieces" ⟨"PictureInlays$Pieces", "gather", "(II)V"⟩ ⟨"PictureInlays$Pieces", "gather", "(II)V"⟩ : Cond) ∈ pw_T := pw_mem (i := 4) (by decide +kernel) (by decide +kernel)
theorem kw_5 : (.selects "PictureInlays$Pieces" ⟨"PictureInlays$Pieces", "begin", "(II)V"⟩ ⟨"PictureInlays$Pieces", "begin", "(II)V"⟩ : Cond) ∈ pw_T := pw_mem (i := 5) (by decide +kernel) (by decide +kernel)
theorem kw_6 : (.selects "PictureInlays$Pieces" ⟨"PictureInlays$Pieces", "include", "(II)V"⟩ ⟨"PictureInlays$Pieces", "include", "(II)V"⟩ : Cond) ∈ pw_T := pw_mem (i := 6) (by decide +kernel) (by decide +kernel)
theorem kw_7 : (.selects "PictureInlays$Pieces" ⟨"PictureInlays$Pieces", "joinSmallest", "(I)Z"⟩ ⟨"PictureInlays$Pieces", "joinSmallest", "(I)Z"⟩ : Cond) ∈ pw_T := pw_mem (i := 7) (by decide +kernel) (by decide +kernel)
theorem kw_8 : (.selects "PictureInlays$Pieces" ⟨"PictureInlays$Pieces", "smallest", "()I"⟩ ⟨"PictureInlays$Pieces", "smallest", "()I"⟩ : Cond) ∈ pw_T := pw_mem (i := 8) (by decide +kernel) (by decide +kernel)
theorem kw_9 : (.selects "PictureInlays$Pieces" ⟨"PictureInlays$Pieces", "closestTo", "(I)I"⟩ ⟨"PictureInlays$Pieces", "closestTo", "(I)I"⟩ : Cond) ∈ pw_T := pw_mem (i := 9) (by decide +kernel) (by decide +kernel)
theorem kw_10 : (.selects "PictureInlays$Pieces" ⟨"PictureInlays$Pieces", "countSidesOf", "(I)V"⟩ ⟨"PictureInlays$Pieces", "countSidesOf", "(I)V"⟩ : Cond) ∈ pw_T := pw_mem (i := 10) (by decide +kernel) (by decide +kernel)
theorem kw_11 : (.selects "PictureInlays$Pieces" ⟨"PictureInlays$Pieces", "countSidesAt", "(I)V"⟩ ⟨"PictureInlays$Pieces", "countSidesAt", "(I)V"⟩ : Cond) ∈ pw_T := pw_mem (i := 11) (by decide +kernel) (by decide +kernel)
theorem kw_12 : (.selects "PictureInlays" ⟨"PictureInlays", "needParted", "()V"⟩ ⟨"PictureInlays", "needParted", "()V"⟩ : Cond) ∈ pw_T := pw_mem (i := 12) (by decide +kernel) (by decide +kernel)
theorem kw_13 : (.selects "PictureInlays" ⟨"PictureInlays", "needPiece", "(I)V"⟩ ⟨"PictureInlays", "needPiece", "(I)V"⟩ : Cond) ∈ pw_T := pw_mem (i := 13) (by decide +kernel) (by decide +kernel)
theorem kw_14 : (.selects "PictureInlays$Walk" ⟨"PictureInlays$Walk", "noteCorner", "()V"⟩ ⟨"PictureInlays$Walk", "noteCorner", "()V"⟩ : Cond) ∈ pw_T := pw_mem (i := 14) (by decide +kernel) (by decide +kernel)
theorem kw_15 : (.selects "PictureInlays$Walk" ⟨"PictureInlays$Walk", "turn", "(I)V"⟩ ⟨"PictureInlays$Walk", "turn", "(I)V"⟩ : Cond) ∈ pw_T := pw_mem (i := 15) (by decide +kernel) (by decide +kernel)
theorem kw_16 : (.selects "PictureInlays$Walk" ⟨"PictureInlays$Walk", "isAhead", "(II)Z"⟩ ⟨"PictureInlays$Walk", "isAhead", "(II)Z"⟩ : Cond) ∈ pw_T := pw_mem (i := 16) (by decide +kernel) (by decide +kernel)
theorem kw_17 : (.selects "PictureInlays$Tool" ⟨"PictureInlays$Tool", "fits", "(IIII)Z"⟩ ⟨"PictureInlays$Tool", "fits", "(IIII)Z"⟩ : Cond) ∈ pw_T := pw_mem (i := 17) (by decide +kernel) (by decide +kernel)
theorem kw_18 : (.selects "PictureInlays$Tool" ⟨"PictureInlays$Tool", "mark", "(III)V"⟩ ⟨"PictureInlays$Tool", "mark", "(III)V"⟩ : Cond) ∈ pw_T := pw_mem (i := 18) (by decide +kernel) (by decide +kernel)
theorem kw_19 : (.selects "PictureInlays$Sheet" ⟨"PictureInlays$Sheet", "rowFor", "(III)I"⟩ ⟨"PictureInlays$Sheet", "rowFor", "(III)I"⟩ : Cond) ∈ pw_T := pw_mem (i := 19) (by decide +kernel) (by decide +kernel)
theorem kw_20 : (.selects "PictureInlays$Sheet" ⟨"PictureInlays$Sheet", "newRow", "(I)I"⟩ ⟨"PictureInlays$Sheet", "newRow", "(I)I"⟩ : Cond) ∈ pw_T := pw_mem (i := 20) (by decide +kernel) (by decide +kernel)
theorem kw_21 : (.selects "PictureInlays$Sheet" ⟨"PictureInlays$Sheet", "put", "(II)V"⟩ ⟨"PictureInlays$Sheet", "put", "(II)V"⟩ : Cond) ∈ pw_T := pw_mem (i := 21) (by decide +kernel) (by decide +kernel)
theorem kw_22 : (.selects "PictureInlays" ⟨"PictureInlays", "needNested", "()V"⟩ ⟨"PictureInlays", "needNested", "()V"⟩ : Cond) ∈ pw_T := pw_mem (i := 22) (by decide +kernel) (by decide +kernel)
theorem kw_45 : (.initialized "PictureInlays" : Cond) ∈ pw_T := pw_mem (i := 45) (by decide +kernel) (by decide +kernel)
theorem kw_46 : (.initialized "PictureInlays$Grid" : Cond) ∈ pw_T := pw_mem (i := 46) (by decide +kernel) (by decide +kernel)
theorem kw_47 : (.initialized "java/lang/Math" : Cond) ∈ pw_T := pw_mem (i := 47) (by decide +kernel) (by decide +kernel)
theorem kw_48 : (.initialized "PictureInlays$Colours" : Cond) ∈ pw_T := pw_mem (i := 48) (by decide +kernel) (by decide +kernel)
theorem kw_49 : (.initialized "PictureInlays$Pieces" : Cond) ∈ pw_T := pw_mem (i := 49) (by decide +kernel) (by decide +kernel)
theorem kw_50 : (.initialized "PictureInlays$Ranking" : Cond) ∈ pw_T := pw_mem (i := 50) (by decide +kernel) (by decide +kernel)
theorem kw_51 : (.initialized "PictureInlays$Brightest" : Cond) ∈ pw_T := pw_mem (i := 51) (by decide +kernel) (by decide +kernel)
theorem kw_52 : (.initialized "PictureInlays$Laying" : Cond) ∈ pw_T := pw_mem (i := 52) (by decide +kernel) (by decide +kernel)
theorem kw_53 : (.initialized "PictureInlays$Walk" : Cond) ∈ pw_T := pw_mem (i := 53) (by decide +kernel) (by decide +kernel)
theorem kw_54 : (.initialized "PictureInlays$Tool" : Cond) ∈ pw_T := pw_mem (i := 54) (by decide +kernel) (by decide +kernel)
theorem kw_55 : (.initialized "PictureInlays$Sheet" : Cond) ∈ pw_T := pw_mem (i := 55) (by decide +kernel) (by decide +kernel)
theorem kw_56 : (.initialized "PictureInlays$Highest" : Cond) ∈ pw_T := pw_mem (i := 56) (by decide +kernel) (by decide +kernel)
theorem kw_61 : (.initialized "java/lang/IndexOutOfBoundsException" : Cond) ∈ pw_T := pw_mem (i := 61) (by decide +kernel) (by decide +kernel)
theorem kw_62 : (.initialized "java/lang/IllegalArgumentException" : Cond) ∈ pw_T := pw_mem (i := 62) (by decide +kernel) (by decide +kernel)
theorem kw_63 : (.initialized "java/util/Arrays" : Cond) ∈ pw_T := pw_mem (i := 63) (by decide +kernel) (by decide +kernel)
theorem kw_64 : (.initialized "java/lang/Integer" : Cond) ∈ pw_T := pw_mem (i := 64) (by decide +kernel) (by decide +kernel)
theorem kw_65 : (.initialized "java/lang/IllegalStateException" : Cond) ∈ pw_T := pw_mem (i := 65) (by decide +kernel) (by decide +kernel)
theorem kw_80 : (.static ⟨"java/lang/Math", "min", "(II)I"⟩ : Cond) ∈ pw_T := pw_mem (i := 80) (by decide +kernel) (by decide +kernel)
theorem kw_81 : (.code ⟨"java/lang/Math", "min", "(II)I"⟩ prog_19_method_69_code 2 (some .int) : Cond) ∈ pw_T := pw_mem (i := 81) (by decide +kernel) (by decide +kernel)
theorem kw_82 : (.methodLink "PictureInlays" 206 ⟨"java/lang/Math", "max", "(II)I"⟩ : Cond) ∈ pw_T := pw_mem (i := 82) (by decide +kernel) (by decide +kernel)
theorem kw_83 : (.static ⟨"java/lang/Math", "max", "(II)I"⟩ : Cond) ∈ pw_T := pw_mem (i := 83) (by decide +kernel) (by decide +kernel)
theorem kw_84 : (.code ⟨"java/lang/Math", "max", "(II)I"⟩ prog_19_method_65_code 2 (some .int) : Cond) ∈ pw_T := pw_mem (i := 84) (by decide +kernel) (by decide +kernel)
theorem kw_94 : (.instanceMethod ⟨"PictureInlays$Grid", "placeOf", "(II)I"⟩ : Cond) ∈ pw_T := pw_mem (i := 94) (by decide +kernel) (by decide +kernel)
theorem kw_95 : (.selects "PictureInlays$Grid" ⟨"PictureInlays$Grid", "placeOf", "(II)I"⟩ ⟨"PictureInlays$Grid", "placeOf", "(II)I"⟩ : Cond) ∈ pw_T := pw_mem (i := 95) (by decide +kernel) (by decide +kernel)
theorem kw_96 : (.code ⟨"PictureInlays$Grid", "placeOf", "(II)I"⟩ prog_4_method_2_code 4 (some .int) : Cond) ∈ pw_T := pw_mem (i := 96) (by decide +kernel) (by decide +kernel)
theorem kw_97 : (.fieldLink "PictureInlays$Grid" 9 "PictureInlays$Grid" "width" "I" : Cond) ∈ pw_T := pw_mem (i := 97) (by decide +kernel) (by decide +kernel)
theorem kw_99 : (.fieldLink "PictureInlays$Tool" 35 "PictureInlays$Grid" "width" "I" : Cond) ∈ pw_T := pw_mem (i := 99) (by decide +kernel) (by decide +kernel)
theorem kw_100 : (.fieldLink "PictureInlays$Pieces" 127 "PictureInlays$Grid" "width" "I" : Cond) ∈ pw_T := pw_mem (i := 100) (by decide +kernel) (by decide +kernel)
theorem kw_101 : (.fieldLink "PictureInlays" 226 "PictureInlays$Grid" "width" "I" : Cond) ∈ pw_T := pw_mem (i := 101) (by decide +kernel) (by decide +kernel)
theorem kw_102 : (.fieldLink "PictureInlays$Grid" 15 "PictureInlays$Grid" "height" "I" : Cond) ∈ pw_T := pw_mem (i := 102) (by decide +kernel) (by decide +kernel)
theorem kw_104 : (.fieldLink "PictureInlays$Tool" 32 "PictureInlays$Grid" "height" "I" : Cond) ∈ pw_T := pw_mem (i := 104) (by decide +kernel) (by decide +kernel)
theorem kw_105 : (.fieldLink "PictureInlays$Pieces" 130 "PictureInlays$Grid" "height" "I" : Cond) ∈ pw_T := pw_mem (i := 105) (by decide +kernel) (by decide +kernel)
theorem kw_106 : (.fieldLink "PictureInlays" 229 "PictureInlays$Grid" "height" "I" : Cond) ∈ pw_T := pw_mem (i := 106) (by decide +kernel) (by decide +kernel)
theorem kw_107 : (.fieldLink "PictureInlays$Pieces" 15 "PictureInlays$Grid" "places" "I" : Cond) ∈ pw_T := pw_mem (i := 107) (by decide +kernel) (by decide +kernel)
theorem kw_109 : (.fieldLink "PictureInlays$Tool" 19 "PictureInlays$Grid" "places" "I" : Cond) ∈ pw_T := pw_mem (i := 109) (by decide +kernel) (by decide +kernel)
theorem kw_112 : (.fieldLink "PictureInlays$Grid" 21 "PictureInlays$Grid" "column" "[I" : Cond) ∈ pw_T := pw_mem (i := 112) (by decide +kernel) (by decide +kernel)
theorem kw_113 : (.fieldLink "PictureInlays$Grid" 25 "PictureInlays$Grid" "row" "[I" : Cond) ∈ pw_T := pw_mem (i := 113) (by decide +kernel) (by decide +kernel)
theorem kw_114 : (.fieldLink "PictureInlays$Grid" 28 "PictureInlays$Grid" "beside" "[I" : Cond) ∈ pw_T := pw_mem (i := 114) (by decide +kernel) (by decide +kernel)
theorem kw_135 : (.fieldLink "PictureInlays$Colours" 7 "PictureInlays$Colours" "red" "[I" : Cond) ∈ pw_T := pw_mem (i := 135) (by decide +kernel) (by decide +kernel)
theorem kw_136 : (.fieldLink "PictureInlays$Colours" 13 "PictureInlays$Colours" "green" "[I" : Cond) ∈ pw_T := pw_mem (i := 136) (by decide +kernel) (by decide +kernel)
theorem kw_137 : (.fieldLink "PictureInlays$Colours" 16 "PictureInlays$Colours" "blue" "[I" : Cond) ∈ pw_T := pw_mem (i := 137) (by decide +kernel) (by decide +kernel)
theorem kw_151 : (.fieldLink "PictureInlays$Pieces" 9 "PictureInlays$Pieces" "grid" "LPictureInlays$Grid;" : Cond) ∈ pw_T := pw_mem (i := 151) (by decide +kernel) (by decide +kernel)
theorem kw_152 : (.fieldLink "PictureInlays$Pieces" 21 "PictureInlays$Pieces" "woodAt" "[I" : Cond) ∈ pw_T := pw_mem (i := 152) (by decide +kernel) (by decide +kernel)
theorem kw_153 : (.fieldLink "PictureInlays$Pieces" 25 "PictureInlays$Pieces" "numberAt" "[I" : Cond) ∈ pw_T := pw_mem (i := 153) (by decide +kernel) (by decide +kernel)
theorem kw_154 : (.fieldLink "PictureInlays$Pieces" 28 "PictureInlays$Pieces" "waiting" "[I" : Cond) ∈ pw_T := pw_mem (i := 154) (by decide +kernel) (by decide +kernel)
theorem kw_155 : (.fieldLink "PictureInlays$Pieces" 31 "PictureInlays$Pieces" "sides" "[I" : Cond) ∈ pw_T := pw_mem (i := 155) (by decide +kernel) (by decide +kernel)
theorem kw_156 : (.fieldLink "PictureInlays$Pieces" 34 "PictureInlays$Pieces" "first" "[I" : Cond) ∈ pw_T := pw_mem (i := 156) (by decide +kernel) (by decide +kernel)
theorem kw_157 : (.fieldLink "PictureInlays$Pieces" 37 "PictureInlays$Pieces" "size" "[I" : Cond) ∈ pw_T := pw_mem (i := 157) (by decide +kernel) (by decide +kernel)
theorem kw_158 : (.fieldLink "PictureInlays$Pieces" 40 "PictureInlays$Pieces" "leastX" "[I" : Cond) ∈ pw_T := pw_mem (i := 158) (by decide +kernel) (by decide +kernel)
theorem kw_159 : (.fieldLink "PictureInlays$Pieces" 43 "PictureInlays$Pieces" "mostX" "[I" : Cond) ∈ pw_T := pw_mem (i := 159) (by decide +kernel) (by decide +kernel)
theorem kw_160 : (.fieldLink "PictureInlays$Pieces" 46 "PictureInlays$Pieces" "mostY" "[I" : Cond) ∈ pw_T := pw_mem (i := 160) (by decide +kernel) (by decide +kernel)
theorem kw_161 : (.fieldLink "PictureInlays$Pieces" 49 "PictureInlays$Pieces" "count" "I" : Cond) ∈ pw_T := pw_mem (i := 161) (by decide +kernel) (by decide +kernel)
theorem kw_162 : (.fieldLink "PictureInlays$Sheet" 47 "PictureInlays$Pieces" "count" "I" : Cond) ∈ pw_T := pw_mem (i := 162) (by decide +kernel) (by decide +kernel)
theorem kw_163 : (.fieldLink "PictureInlays" 125 "PictureInlays$Pieces" "count" "I" : Cond) ∈ pw_T := pw_mem (i := 163) (by decide +kernel) (by decide +kernel)
theorem kw_196 : (.fieldLink "PictureInlays$Brightest" 7 "PictureInlays$Brightest" "woods" "LPictureInlays$Colours;" : Cond) ∈ pw_T := pw_mem (i := 196) (by decide +kernel) (by decide +kernel)
theorem kw_197 : (.fieldLink "PictureInlays$Ranking" 7 "PictureInlays$Ranking" "row" "[I" : Cond) ∈ pw_T := pw_mem (i := 197) (by decide +kernel) (by decide +kernel)
theorem kw_209 : (.fieldLink "PictureInlays$Laying" 7 "PictureInlays$Laying" "pieces" "LPictureInlays$Pieces;" : Cond) ∈ pw_T := pw_mem (i := 209) (by decide +kernel) (by decide +kernel)
theorem kw_220 : (.fieldLink "PictureInlays$Walk" 9 "PictureInlays$Walk" "pieces" "LPictureInlays$Pieces;" : Cond) ∈ pw_T := pw_mem (i := 220) (by decide +kernel) (by decide +kernel)
theorem kw_221 : (.fieldLink "PictureInlays$Walk" 21 "PictureInlays$Walk" "mostSteps" "I" : Cond) ∈ pw_T := pw_mem (i := 221) (by decide +kernel) (by decide +kernel)
theorem kw_222 : (.fieldLink "PictureInlays$Walk" 30 "PictureInlays$Walk" "turnX" "[I" : Cond) ∈ pw_T := pw_mem (i := 222) (by decide +kernel) (by decide +kernel)
theorem kw_223 : (.fieldLink "PictureInlays$Walk" 34 "PictureInlays$Walk" "turnY" "[I" : Cond) ∈ pw_T := pw_mem (i := 223) (by decide +kernel) (by decide +kernel)
theorem kw_224 : (.fieldLink "PictureInlays$Walk" 37 "PictureInlays$Walk" "x" "I" : Cond) ∈ pw_T := pw_mem (i := 224) (by decide +kernel) (by decide +kernel)
theorem kw_225 : (.fieldLink "PictureInlays$Walk" 40 "PictureInlays$Walk" "y" "I" : Cond) ∈ pw_T := pw_mem (i := 225) (by decide +kernel) (by decide +kernel)
theorem kw_226 : (.fieldLink "PictureInlays$Walk" 43 "PictureInlays$Walk" "way" "I" : Cond) ∈ pw_T := pw_mem (i := 226) (by decide +kernel) (by decide +kernel)
theorem kw_227 : (.fieldLink "PictureInlays$Walk" 46 "PictureInlays$Walk" "corners" "I" : Cond) ∈ pw_T := pw_mem (i := 227) (by decide +kernel) (by decide +kernel)
theorem kw_228 : (.fieldLink "PictureInlays" 171 "PictureInlays$Walk" "corners" "I" : Cond) ∈ pw_T := pw_mem (i := 228) (by decide +kernel) (by decide +kernel)
theorem kw_252 : (.fieldLink "PictureInlays$Tool" 9 "PictureInlays$Tool" "grid" "LPictureInlays$Grid;" : Cond) ∈ pw_T := pw_mem (i := 252) (by decide +kernel) (by decide +kernel)
theorem kw_253 : (.fieldLink "PictureInlays$Tool" 15 "PictureInlays$Tool" "pieces" "LPictureInlays$Pieces;" : Cond) ∈ pw_T := pw_mem (i := 253) (by decide +kernel) (by decide +kernel)
theorem kw_254 : (.fieldLink "PictureInlays$Tool" 25 "PictureInlays$Tool" "marked" "[Z" : Cond) ∈ pw_T := pw_mem (i := 254) (by decide +kernel) (by decide +kernel)
theorem kw_255 : (.fieldLink "PictureInlays$Tool" 29 "PictureInlays$Tool" "covered" "I" : Cond) ∈ pw_T := pw_mem (i := 255) (by decide +kernel) (by decide +kernel)
theorem kw_256 : (.fieldLink "PictureInlays" 183 "PictureInlays$Tool" "covered" "I" : Cond) ∈ pw_T := pw_mem (i := 256) (by decide +kernel) (by decide +kernel)
theorem kw_279 : (.fieldLink "PictureInlays$Highest" 7 "PictureInlays$Highest" "pieces" "LPictureInlays$Pieces;" : Cond) ∈ pw_T := pw_mem (i := 279) (by decide +kernel) (by decide +kernel)
theorem kw_284 : (.fieldLink "PictureInlays$Sheet" 9 "PictureInlays$Sheet" "pieces" "LPictureInlays$Pieces;" : Cond) ∈ pw_T := pw_mem (i := 284) (by decide +kernel) (by decide +kernel)
theorem kw_285 : (.fieldLink "PictureInlays$Sheet" 20 "PictureInlays$Sheet" "highest" "LPictureInlays$Ranking;" : Cond) ∈ pw_T := pw_mem (i := 285) (by decide +kernel) (by decide +kernel)
theorem kw_286 : (.fieldLink "PictureInlays$Sheet" 24 "PictureInlays$Sheet" "lyingX" "[I" : Cond) ∈ pw_T := pw_mem (i := 286) (by decide +kernel) (by decide +kernel)
theorem kw_287 : (.fieldLink "PictureInlays$Sheet" 28 "PictureInlays$Sheet" "lyingY" "[I" : Cond) ∈ pw_T := pw_mem (i := 287) (by decide +kernel) (by decide +kernel)
theorem kw_288 : (.fieldLink "PictureInlays$Sheet" 31 "PictureInlays$Sheet" "rowTop" "[I" : Cond) ∈ pw_T := pw_mem (i := 288) (by decide +kernel) (by decide +kernel)
theorem kw_289 : (.fieldLink "PictureInlays$Sheet" 34 "PictureInlays$Sheet" "rowHeight" "[I" : Cond) ∈ pw_T := pw_mem (i := 289) (by decide +kernel) (by decide +kernel)
theorem kw_290 : (.fieldLink "PictureInlays$Sheet" 37 "PictureInlays$Sheet" "rowUsed" "[I" : Cond) ∈ pw_T := pw_mem (i := 290) (by decide +kernel) (by decide +kernel)
theorem kw_291 : (.fieldLink "PictureInlays$Sheet" 40 "PictureInlays$Sheet" "rows" "I" : Cond) ∈ pw_T := pw_mem (i := 291) (by decide +kernel) (by decide +kernel)
theorem kw_292 : (.fieldLink "PictureInlays$Sheet" 44 "PictureInlays$Sheet" "bottom" "I" : Cond) ∈ pw_T := pw_mem (i := 292) (by decide +kernel) (by decide +kernel)
theorem kw_312 : (.fieldLink "PictureInlays" 18 "PictureInlays" "grid" "LPictureInlays$Grid;" : Cond) ∈ pw_T := pw_mem (i := 312) (by decide +kernel) (by decide +kernel)
theorem kw_313 : (.fieldLink "PictureInlays" 22 "PictureInlays" "kinds" "I" : Cond) ∈ pw_T := pw_mem (i := 313) (by decide +kernel) (by decide +kernel)
theorem kw_314 : (.fieldLink "PictureInlays" 34 "PictureInlays" "picture" "LPictureInlays$Colours;" : Cond) ∈ pw_T := pw_mem (i := 314) (by decide +kernel) (by decide +kernel)
theorem kw_315 : (.fieldLink "PictureInlays" 38 "PictureInlays" "woods" "LPictureInlays$Colours;" : Cond) ∈ pw_T := pw_mem (i := 315) (by decide +kernel) (by decide +kernel)
theorem kw_316 : (.fieldLink "PictureInlays" 46 "PictureInlays" "pieces" "LPictureInlays$Pieces;" : Cond) ∈ pw_T := pw_mem (i := 316) (by decide +kernel) (by decide +kernel)
theorem kw_317 : (.fieldLink "PictureInlays" 55 "PictureInlays" "brightest" "LPictureInlays$Ranking;" : Cond) ∈ pw_T := pw_mem (i := 317) (by decide +kernel) (by decide +kernel)
theorem kw_318 : (.fieldLink "PictureInlays" 64 "PictureInlays" "laying" "LPictureInlays$Ranking;" : Cond) ∈ pw_T := pw_mem (i := 318) (by decide +kernel) (by decide +kernel)
theorem kw_319 : (.fieldLink "PictureInlays" 72 "PictureInlays" "walk" "LPictureInlays$Walk;" : Cond) ∈ pw_T := pw_mem (i := 319) (by decide +kernel) (by decide +kernel)
theorem kw_320 : (.fieldLink "PictureInlays" 79 "PictureInlays" "tool" "LPictureInlays$Tool;" : Cond) ∈ pw_T := pw_mem (i := 320) (by decide +kernel) (by decide +kernel)
theorem kw_321 : (.fieldLink "PictureInlays" 86 "PictureInlays" "sheet" "LPictureInlays$Sheet;" : Cond) ∈ pw_T := pw_mem (i := 321) (by decide +kernel) (by decide +kernel)
theorem kw_322 : (.fieldLink "PictureInlays" 90 "PictureInlays" "parted" "Z" : Cond) ∈ pw_T := pw_mem (i := 322) (by decide +kernel) (by decide +kernel)
theorem kw_323 : (.fieldLink "PictureInlays" 94 "PictureInlays" "nested" "Z" : Cond) ∈ pw_T := pw_mem (i := 323) (by decide +kernel) (by decide +kernel)
theorem kw_361 : (.methodLink "PictureInlays" 97 ⟨"PictureInlays", "needPlace", "(II)V"⟩ : Cond) ∈ pw_T := pw_mem (i := 361) (by decide +kernel) (by decide +kernel)
theorem kw_363 : (.instanceMethod ⟨"PictureInlays", "needPlace", "(II)V"⟩ : Cond) ∈ pw_T := pw_mem (i := 363) (by decide +kernel) (by decide +kernel)
theorem kw_364 : (.code ⟨"PictureInlays", "needPlace", "(II)V"⟩ prog_1_method_23_code 3 none : Cond) ∈ pw_T := pw_mem (i := 364) (by decide +kernel) (by decide +kernel)
theorem kw_365 : (.methodLink "PictureInlays" 115 ⟨"PictureInlays", "needIndex", "(II)V"⟩ : Cond) ∈ pw_T := pw_mem (i := 365) (by decide +kernel) (by decide +kernel)
theorem kw_366 : (.static ⟨"PictureInlays", "needIndex", "(II)V"⟩ : Cond) ∈ pw_T := pw_mem (i := 366) (by decide +kernel) (by decide +kernel)
theorem kw_367 : (.code ⟨"PictureInlays", "needIndex", "(II)V"⟩ prog_1_method_25_code 2 none : Cond) ∈ pw_T := pw_mem (i := 367) (by decide +kernel) (by decide +kernel)
theorem kw_368 : (.classLink "PictureInlays" 232 "java/lang/IndexOutOfBoundsException" : Cond) ∈ pw_T := pw_mem (i := 368) (by decide +kernel) (by decide +kernel)
theorem kw_369 : (.instantiable "java/lang/IndexOutOfBoundsException" 6 : Cond) ∈ pw_T := pw_mem (i := 369) (by decide +kernel) (by decide +kernel)
theorem kw_410 : (.methodLink "PictureInlays" 236 ⟨"java/lang/IndexOutOfBoundsException", "<init>", "(Ljava/lang/String;)V"⟩ : Cond) ∈ pw_T := pw_mem (i := 410) (by decide +kernel) (by decide +kernel)
theorem kw_436 : (.methodLink "PictureInlays" 100 ⟨"PictureInlays", "needColour", "(III)V"⟩ : Cond) ∈ pw_T := pw_mem (i := 436) (by decide +kernel) (by decide +kernel)
theorem kw_437 : (.static ⟨"PictureInlays", "needColour", "(III)V"⟩ : Cond) ∈ pw_T := pw_mem (i := 437) (by decide +kernel) (by decide +kernel)
theorem kw_438 : (.code ⟨"PictureInlays", "needColour", "(III)V"⟩ prog_1_method_24_code 3 none : Cond) ∈ pw_T := pw_mem (i := 438) (by decide +kernel) (by decide +kernel)
theorem kw_439 : (.methodLink "PictureInlays" 118 ⟨"PictureInlays", "needNumber", "(III)V"⟩ : Cond) ∈ pw_T := pw_mem (i := 439) (by decide +kernel) (by decide +kernel)
theorem kw_440 : (.static ⟨"PictureInlays", "needNumber", "(III)V"⟩ : Cond) ∈ pw_T := pw_mem (i := 440) (by decide +kernel) (by decide +kernel)
theorem kw_441 : (.code ⟨"PictureInlays", "needNumber", "(III)V"⟩ prog_1_method_26_code 3 none : Cond) ∈ pw_T := pw_mem (i := 441) (by decide +kernel) (by decide +kernel)
theorem kw_442 : (.classLink "PictureInlays" 237 "java/lang/IllegalArgumentException" : Cond) ∈ pw_T := pw_mem (i := 442) (by decide +kernel) (by decide +kernel)
theorem kw_443 : (.instantiable "java/lang/IllegalArgumentException" 6 : Cond) ∈ pw_T := pw_mem (i := 443) (by decide +kernel) (by decide +kernel)
theorem kw_452 : (.methodLink "PictureInlays" 241 ⟨"java/lang/IllegalArgumentException", "<init>", "(Ljava/lang/String;)V"⟩ : Cond) ∈ pw_T := pw_mem (i := 452) (by decide +kernel) (by decide +kernel)
theorem kw_458 : (.methodLink "PictureInlays" 104 ⟨"PictureInlays$Grid", "placeOf", "(II)I"⟩ : Cond) ∈ pw_T := pw_mem (i := 458) (by decide +kernel) (by decide +kernel)
theorem kw_459 : (.methodLink "PictureInlays" 107 ⟨"PictureInlays$Colours", "tell", "(IIII)Z"⟩ : Cond) ∈ pw_T := pw_mem (i := 459) (by decide +kernel) (by decide +kernel)
theorem kw_460 : (.instanceMethod ⟨"PictureInlays$Colours", "tell", "(IIII)Z"⟩ : Cond) ∈ pw_T := pw_mem (i := 460) (by decide +kernel) (by decide +kernel)
theorem kw_461 : (.selects "PictureInlays$Colours" ⟨"PictureInlays$Colours", "tell", "(IIII)Z"⟩ ⟨"PictureInlays$Colours", "tell", "(IIII)Z"⟩ : Cond) ∈ pw_T := pw_mem (i := 461) (by decide +kernel) (by decide +kernel)
theorem kw_462 : (.code ⟨"PictureInlays$Colours", "tell", "(IIII)Z"⟩ prog_3_method_2_code 5 (some .boolean) : Cond) ∈ pw_T := pw_mem (i := 462) (by decide +kernel) (by decide +kernel)
theorem kw_463 : (.methodLink "PictureInlays" 111 ⟨"PictureInlays", "told", "(Z)Z"⟩ : Cond) ∈ pw_T := pw_mem (i := 463) (by decide +kernel) (by decide +kernel)
theorem kw_465 : (.instanceMethod ⟨"PictureInlays", "told", "(Z)Z"⟩ : Cond) ∈ pw_T := pw_mem (i := 465) (by decide +kernel) (by decide +kernel)
theorem kw_466 : (.code ⟨"PictureInlays", "told", "(Z)Z"⟩ prog_1_method_19_code 2 (some .boolean) : Cond) ∈ pw_T := pw_mem (i := 466) (by decide +kernel) (by decide +kernel)
theorem kw_481 : (.methodLink "PictureInlays" 121 ⟨"PictureInlays$Pieces", "make", "(LPictureInlays$Colours;LPictureInlays$Colours;II)V"⟩ : Cond) ∈ pw_T := pw_mem (i := 481) (by decide +kernel) (by decide +kernel)
theorem kw_482 : (.instanceMethod ⟨"PictureInlays$Pieces", "make", "(LPictureInlays$Colours;LPictureInlays$Colours;II)V"⟩ : Cond) ∈ pw_T := pw_mem (i := 482) (by decide +kernel) (by decide +kernel)
theorem kw_483 : (.selects "PictureInlays$Pieces" ⟨"PictureInlays$Pieces", "make", "(LPictureInlays$Colours;LPictureInlays$Colours;II)V"⟩ ⟨"PictureInlays$Pieces", "make", "(LPictureInlays$Colours;LPictureInlays$Colours;II)V"⟩ : Cond) ∈ pw_T := pw_mem (i := 483) (by decide +kernel) (by decide +kernel)
theorem kw_484 : (.code ⟨"PictureInlays$Pieces", "make", "(LPictureInlays$Colours;LPictureInlays$Colours;II)V"⟩ prog_7_method_2_code 6 none : Cond) ∈ pw_T := pw_mem (i := 484) (by decide +kernel) (by decide +kernel)
theorem kw_485 : (.methodLink "PictureInlays$Pieces" 52 ⟨"PictureInlays$Pieces", "nearestWood", "(LPictureInlays$Colours;ILPictureInlays$Colours;I)I"⟩ : Cond) ∈ pw_T := pw_mem (i := 485) (by decide +kernel) (by decide +kernel)
theorem kw_486 : (.static ⟨"PictureInlays$Pieces", "nearestWood", "(LPictureInlays$Colours;ILPictureInlays$Colours;I)I"⟩ : Cond) ∈ pw_T := pw_mem (i := 486) (by decide +kernel) (by decide +kernel)
theorem kw_487 : (.code ⟨"PictureInlays$Pieces", "nearestWood", "(LPictureInlays$Colours;ILPictureInlays$Colours;I)I"⟩ prog_7_method_3_code 8 (some .int) : Cond) ∈ pw_T := pw_mem (i := 487) (by decide +kernel) (by decide +kernel)
theorem kw_488 : (.methodLink "PictureInlays$Pieces" 63 ⟨"PictureInlays$Colours", "distance", "(ILPictureInlays$Colours;I)I"⟩ : Cond) ∈ pw_T := pw_mem (i := 488) (by decide +kernel) (by decide +kernel)
theorem kw_489 : (.instanceMethod ⟨"PictureInlays$Colours", "distance", "(ILPictureInlays$Colours;I)I"⟩ : Cond) ∈ pw_T := pw_mem (i := 489) (by decide +kernel) (by decide +kernel)
theorem kw_490 : (.selects "PictureInlays$Colours" ⟨"PictureInlays$Colours", "distance", "(ILPictureInlays$Colours;I)I"⟩ ⟨"PictureInlays$Colours", "distance", "(ILPictureInlays$Colours;I)I"⟩ : Cond) ∈ pw_T := pw_mem (i := 490) (by decide +kernel) (by decide +kernel)
theorem kw_491 : (.code ⟨"PictureInlays$Colours", "distance", "(ILPictureInlays$Colours;I)I"⟩ prog_3_method_3_code 4 (some .int) : Cond) ∈ pw_T := pw_mem (i := 491) (by decide +kernel) (by decide +kernel)
theorem kw_492 : (.methodLink "PictureInlays$Colours" 19 ⟨"java/lang/Math", "abs", "(I)I"⟩ : Cond) ∈ pw_T := pw_mem (i := 492) (by decide +kernel) (by decide +kernel)
theorem kw_493 : (.static ⟨"java/lang/Math", "abs", "(I)I"⟩ : Cond) ∈ pw_T := pw_mem (i := 493) (by decide +kernel) (by decide +kernel)
theorem kw_494 : (.code ⟨"java/lang/Math", "abs", "(I)I"⟩ prog_19_method_59_code 1 (some .int) : Cond) ∈ pw_T := pw_mem (i := 494) (by decide +kernel) (by decide +kernel)
theorem kw_495 : (.methodLink "PictureInlays$Pieces" 56 ⟨"PictureInlays$Pieces", "gatherAll", "()V"⟩ : Cond) ∈ pw_T := pw_mem (i := 495) (by decide +kernel) (by decide +kernel)
theorem kw_497 : (.instanceMethod ⟨"PictureInlays$Pieces", "gatherAll", "()V"⟩ : Cond) ∈ pw_T := pw_mem (i := 497) (by decide +kernel) (by decide +kernel)
theorem kw_498 : (.code ⟨"PictureInlays$Pieces", "gatherAll", "()V"⟩ prog_7_method_4_code 2 none : Cond) ∈ pw_T := pw_mem (i := 498) (by decide +kernel) (by decide +kernel)
theorem kw_499 : (.methodLink "PictureInlays$Pieces" 69 ⟨"java/util/Arrays", "fill", "([II)V"⟩ : Cond) ∈ pw_T := pw_mem (i := 499) (by decide +kernel) (by decide +kernel)
theorem kw_500 : (.static ⟨"java/util/Arrays", "fill", "([II)V"⟩ : Cond) ∈ pw_T := pw_mem (i := 500) (by decide +kernel) (by decide +kernel)
theorem kw_501 : (.code ⟨"java/util/Arrays", "fill", "([II)V"⟩ prog_23_method_103_code 4 none : Cond) ∈ pw_T := pw_mem (i := 501) (by decide +kernel) (by decide +kernel)
theorem kw_502 : (.methodLink "PictureInlays$Pieces" 75 ⟨"PictureInlays$Pieces", "gather", "(II)V"⟩ : Cond) ∈ pw_T := pw_mem (i := 502) (by decide +kernel) (by decide +kernel)
theorem kw_504 : (.instanceMethod ⟨"PictureInlays$Pieces", "gather", "(II)V"⟩ : Cond) ∈ pw_T := pw_mem (i := 504) (by decide +kernel) (by decide +kernel)
theorem kw_505 : (.code ⟨"PictureInlays$Pieces", "gather", "(II)V"⟩ prog_7_method_5_code 8 none : Cond) ∈ pw_T := pw_mem (i := 505) (by decide +kernel) (by decide +kernel)
theorem kw_506 : (.methodLink "PictureInlays$Pieces" 79 ⟨"PictureInlays$Pieces", "begin", "(II)V"⟩ : Cond) ∈ pw_T := pw_mem (i := 506) (by decide +kernel) (by decide +kernel)
theorem kw_508 : (.instanceMethod ⟨"PictureInlays$Pieces", "begin", "(II)V"⟩ : Cond) ∈ pw_T := pw_mem (i := 508) (by decide +kernel) (by decide +kernel)
theorem kw_509 : (.code ⟨"PictureInlays$Pieces", "begin", "(II)V"⟩ prog_7_method_6_code 3 none : Cond) ∈ pw_T := pw_mem (i := 509) (by decide +kernel) (by decide +kernel)
theorem kw_510 : (.methodLink "PictureInlays$Pieces" 89 ⟨"PictureInlays$Grid", "columnOf", "(I)I"⟩ : Cond) ∈ pw_T := pw_mem (i := 510) (by decide +kernel) (by decide +kernel)
theorem kw_511 : (.instanceMethod ⟨"PictureInlays$Grid", "columnOf", "(I)I"⟩ : Cond) ∈ pw_T := pw_mem (i := 511) (by decide +kernel) (by decide +kernel)
theorem kw_512 : (.selects "PictureInlays$Grid" ⟨"PictureInlays$Grid", "columnOf", "(I)I"⟩ ⟨"PictureInlays$Grid", "columnOf", "(I)I"⟩ : Cond) ∈ pw_T := pw_mem (i := 512) (by decide +kernel) (by decide +kernel)
theorem kw_513 : (.code ⟨"PictureInlays$Grid", "columnOf", "(I)I"⟩ prog_4_method_3_code 2 (some .int) : Cond) ∈ pw_T := pw_mem (i := 513) (by decide +kernel) (by decide +kernel)
theorem kw_514 : (.methodLink "PictureInlays$Pieces" 93 ⟨"PictureInlays$Grid", "rowOf", "(I)I"⟩ : Cond) ∈ pw_T := pw_mem (i := 514) (by decide +kernel) (by decide +kernel)
theorem kw_515 : (.instanceMethod ⟨"PictureInlays$Grid", "rowOf", "(I)I"⟩ : Cond) ∈ pw_T := pw_mem (i := 515) (by decide +kernel) (by decide +kernel)
theorem kw_516 : (.selects "PictureInlays$Grid" ⟨"PictureInlays$Grid", "rowOf", "(I)I"⟩ ⟨"PictureInlays$Grid", "rowOf", "(I)I"⟩ : Cond) ∈ pw_T := pw_mem (i := 516) (by decide +kernel) (by decide +kernel)
theorem kw_517 : (.code ⟨"PictureInlays$Grid", "rowOf", "(I)I"⟩ prog_4_method_4_code 2 (some .int) : Cond) ∈ pw_T := pw_mem (i := 517) (by decide +kernel) (by decide +kernel)
theorem kw_518 : (.methodLink "PictureInlays$Pieces" 82 ⟨"PictureInlays$Pieces", "include", "(II)V"⟩ : Cond) ∈ pw_T := pw_mem (i := 518) (by decide +kernel) (by decide +kernel)
theorem kw_520 : (.instanceMethod ⟨"PictureInlays$Pieces", "include", "(II)V"⟩ : Cond) ∈ pw_T := pw_mem (i := 520) (by decide +kernel) (by decide +kernel)
theorem kw_521 : (.code ⟨"PictureInlays$Pieces", "include", "(II)V"⟩ prog_7_method_7_code 3 none : Cond) ∈ pw_T := pw_mem (i := 521) (by decide +kernel) (by decide +kernel)
theorem kw_522 : (.methodLink "PictureInlays$Pieces" 96 ⟨"java/lang/Math", "min", "(II)I"⟩ : Cond) ∈ pw_T := pw_mem (i := 522) (by decide +kernel) (by decide +kernel)
theorem kw_523 : (.methodLink "PictureInlays$Pieces" 101 ⟨"java/lang/Math", "max", "(II)I"⟩ : Cond) ∈ pw_T := pw_mem (i := 523) (by decide +kernel) (by decide +kernel)
theorem kw_524 : (.methodLink "PictureInlays$Pieces" 85 ⟨"PictureInlays$Grid", "besideOf", "(II)I"⟩ : Cond) ∈ pw_T := pw_mem (i := 524) (by decide +kernel) (by decide +kernel)
theorem kw_525 : (.instanceMethod ⟨"PictureInlays$Grid", "besideOf", "(II)I"⟩ : Cond) ∈ pw_T := pw_mem (i := 525) (by decide +kernel) (by decide +kernel)
theorem kw_526 : (.selects "PictureInlays$Grid" ⟨"PictureInlays$Grid", "besideOf", "(II)I"⟩ ⟨"PictureInlays$Grid", "besideOf", "(II)I"⟩ : Cond) ∈ pw_T := pw_mem (i := 526) (by decide +kernel) (by decide +kernel)
theorem kw_527 : (.code ⟨"PictureInlays$Grid", "besideOf", "(II)I"⟩ prog_4_method_5_code 3 (some .int) : Cond) ∈ pw_T := pw_mem (i := 527) (by decide +kernel) (by decide +kernel)
theorem kw_528 : (.methodLink "PictureInlays$Pieces" 59 ⟨"PictureInlays$Pieces", "joinSmallest", "(I)Z"⟩ : Cond) ∈ pw_T := pw_mem (i := 528) (by decide +kernel) (by decide +kernel)
theorem kw_530 : (.instanceMethod ⟨"PictureInlays$Pieces", "joinSmallest", "(I)Z"⟩ : Cond) ∈ pw_T := pw_mem (i := 530) (by decide +kernel) (by decide +kernel)
theorem kw_531 : (.code ⟨"PictureInlays$Pieces", "joinSmallest", "(I)Z"⟩ prog_7_method_8_code 5 (some .boolean) : Cond) ∈ pw_T := pw_mem (i := 531) (by decide +kernel) (by decide +kernel)
theorem kw_532 : (.methodLink "PictureInlays$Pieces" 104 ⟨"PictureInlays$Pieces", "smallest", "()I"⟩ : Cond) ∈ pw_T := pw_mem (i := 532) (by decide +kernel) (by decide +kernel)
theorem kw_534 : (.instanceMethod ⟨"PictureInlays$Pieces", "smallest", "()I"⟩ : Cond) ∈ pw_T := pw_mem (i := 534) (by decide +kernel) (by decide +kernel)
theorem kw_535 : (.code ⟨"PictureInlays$Pieces", "smallest", "()I"⟩ prog_7_method_9_code 3 (some .int) : Cond) ∈ pw_T := pw_mem (i := 535) (by decide +kernel) (by decide +kernel)
theorem kw_536 : (.methodLink "PictureInlays$Pieces" 108 ⟨"PictureInlays$Pieces", "closestTo", "(I)I"⟩ : Cond) ∈ pw_T := pw_mem (i := 536) (by decide +kernel) (by decide +kernel)
theorem kw_538 : (.instanceMethod ⟨"PictureInlays$Pieces", "closestTo", "(I)I"⟩ : Cond) ∈ pw_T := pw_mem (i := 538) (by decide +kernel) (by decide +kernel)
theorem kw_539 : (.code ⟨"PictureInlays$Pieces", "closestTo", "(I)I"⟩ prog_7_method_10_code 4 (some .int) : Cond) ∈ pw_T := pw_mem (i := 539) (by decide +kernel) (by decide +kernel)
theorem kw_540 : (.methodLink "PictureInlays$Pieces" 114 ⟨"PictureInlays$Pieces", "countSidesOf", "(I)V"⟩ : Cond) ∈ pw_T := pw_mem (i := 540) (by decide +kernel) (by decide +kernel)
theorem kw_542 : (.instanceMethod ⟨"PictureInlays$Pieces", "countSidesOf", "(I)V"⟩ : Cond) ∈ pw_T := pw_mem (i := 542) (by decide +kernel) (by decide +kernel)
theorem kw_543 : (.code ⟨"PictureInlays$Pieces", "countSidesOf", "(I)V"⟩ prog_7_method_11_code 3 none : Cond) ∈ pw_T := pw_mem (i := 543) (by decide +kernel) (by decide +kernel)
theorem kw_544 : (.methodLink "PictureInlays$Pieces" 118 ⟨"PictureInlays$Pieces", "countSidesAt", "(I)V"⟩ : Cond) ∈ pw_T := pw_mem (i := 544) (by decide +kernel) (by decide +kernel)
theorem kw_546 : (.instanceMethod ⟨"PictureInlays$Pieces", "countSidesAt", "(I)V"⟩ : Cond) ∈ pw_T := pw_mem (i := 546) (by decide +kernel) (by decide +kernel)
theorem kw_547 : (.code ⟨"PictureInlays$Pieces", "countSidesAt", "(I)V"⟩ prog_7_method_12_code 4 none : Cond) ∈ pw_T := pw_mem (i := 547) (by decide +kernel) (by decide +kernel)
theorem kw_548 : (.methodLink "PictureInlays$Pieces" 111 ⟨"PictureInlays$Pieces", "woodOf", "(I)I"⟩ : Cond) ∈ pw_T := pw_mem (i := 548) (by decide +kernel) (by decide +kernel)
theorem kw_549 : (.instanceMethod ⟨"PictureInlays$Pieces", "woodOf", "(I)I"⟩ : Cond) ∈ pw_T := pw_mem (i := 549) (by decide +kernel) (by decide +kernel)
theorem kw_550 : (.selects "PictureInlays$Pieces" ⟨"PictureInlays$Pieces", "woodOf", "(I)I"⟩ ⟨"PictureInlays$Pieces", "woodOf", "(I)I"⟩ : Cond) ∈ pw_T := pw_mem (i := 550) (by decide +kernel) (by decide +kernel)
theorem kw_551 : (.code ⟨"PictureInlays$Pieces", "woodOf", "(I)I"⟩ prog_7_method_15_code 2 (some .int) : Cond) ∈ pw_T := pw_mem (i := 551) (by decide +kernel) (by decide +kernel)
theorem kw_552 : (.methodLink "PictureInlays" 128 ⟨"PictureInlays$Ranking", "rank", "(I)V"⟩ : Cond) ∈ pw_T := pw_mem (i := 552) (by decide +kernel) (by decide +kernel)
theorem kw_553 : (.instanceMethod ⟨"PictureInlays$Ranking", "rank", "(I)V"⟩ : Cond) ∈ pw_T := pw_mem (i := 553) (by decide +kernel) (by decide +kernel)
theorem kw_554 : (.sameMethod "PictureInlays$Ranking" "PictureInlays$Ranking" "rank" "(I)V" : Cond) ∈ pw_T := pw_mem (i := 554) (by decide +kernel) (by decide +kernel)
theorem kw_555 : (.selects "PictureInlays$Brightest" ⟨"PictureInlays$Ranking", "rank", "(I)V"⟩ ⟨"PictureInlays$Ranking", "rank", "(I)V"⟩ : Cond) ∈ pw_T := pw_mem (i := 555) (by decide +kernel) (by decide +kernel)
theorem kw_556 : (.selects "PictureInlays$Highest" ⟨"PictureInlays$Ranking", "rank", "(I)V"⟩ ⟨"PictureInlays$Ranking", "rank", "(I)V"⟩ : Cond) ∈ pw_T := pw_mem (i := 556) (by decide +kernel) (by decide +kernel)
theorem kw_557 : (.selects "PictureInlays$Laying" ⟨"PictureInlays$Ranking", "rank", "(I)V"⟩ ⟨"PictureInlays$Ranking", "rank", "(I)V"⟩ : Cond) ∈ pw_T := pw_mem (i := 557) (by decide +kernel) (by decide +kernel)
theorem kw_558 : (.code ⟨"PictureInlays$Ranking", "rank", "(I)V"⟩ prog_8_method_3_code 4 none : Cond) ∈ pw_T := pw_mem (i := 558) (by decide +kernel) (by decide +kernel)
theorem kw_559 : (.methodLink "PictureInlays$Ranking" 13 ⟨"PictureInlays$Ranking", "compare", "(II)I"⟩ : Cond) ∈ pw_T := pw_mem (i := 559) (by decide +kernel) (by decide +kernel)
theorem kw_561 : (.sameMethod "PictureInlays$Ranking" "PictureInlays$Ranking" "compare" "(II)I" : Cond) ∈ pw_T := pw_mem (i := 561) (by decide +kernel) (by decide +kernel)
theorem kw_562 : (.selects "PictureInlays$Brightest" ⟨"PictureInlays$Ranking", "compare", "(II)I"⟩ ⟨"PictureInlays$Brightest", "compare", "(II)I"⟩ : Cond) ∈ pw_T := pw_mem (i := 562) (by decide +kernel) (by decide +kernel)
theorem kw_563 : (.instanceMethod ⟨"PictureInlays$Brightest", "compare", "(II)I"⟩ : Cond) ∈ pw_T := pw_mem (i := 563) (by decide +kernel) (by decide +kernel)
theorem kw_564 : (.code ⟨"PictureInlays$Brightest", "compare", "(II)I"⟩ prog_2_method_2_code 3 (some .int) : Cond) ∈ pw_T := pw_mem (i := 564) (by decide +kernel) (by decide +kernel)
theorem kw_565 : (.methodLink "PictureInlays$Brightest" 13 ⟨"PictureInlays$Colours", "brightness", "(I)I"⟩ : Cond) ∈ pw_T := pw_mem (i := 565) (by decide +kernel) (by decide +kernel)
theorem kw_566 : (.instanceMethod ⟨"PictureInlays$Colours", "brightness", "(I)I"⟩ : Cond) ∈ pw_T := pw_mem (i := 566) (by decide +kernel) (by decide +kernel)
theorem kw_567 : (.selects "PictureInlays$Colours" ⟨"PictureInlays$Colours", "brightness", "(I)I"⟩ ⟨"PictureInlays$Colours", "brightness", "(I)I"⟩ : Cond) ∈ pw_T := pw_mem (i := 567) (by decide +kernel) (by decide +kernel)
theorem kw_568 : (.code ⟨"PictureInlays$Colours", "brightness", "(I)I"⟩ prog_3_method_4_code 2 (some .int) : Cond) ∈ pw_T := pw_mem (i := 568) (by decide +kernel) (by decide +kernel)
theorem kw_569 : (.methodLink "PictureInlays$Brightest" 19 ⟨"java/lang/Integer", "compare", "(II)I"⟩ : Cond) ∈ pw_T := pw_mem (i := 569) (by decide +kernel) (by decide +kernel)
theorem kw_570 : (.static ⟨"java/lang/Integer", "compare", "(II)I"⟩ : Cond) ∈ pw_T := pw_mem (i := 570) (by decide +kernel) (by decide +kernel)
theorem kw_571 : (.code ⟨"java/lang/Integer", "compare", "(II)I"⟩ prog_18_method_40_code 2 (some .int) : Cond) ∈ pw_T := pw_mem (i := 571) (by decide +kernel) (by decide +kernel)
theorem kw_572 : (.selects "PictureInlays$Highest" ⟨"PictureInlays$Ranking", "compare", "(II)I"⟩ ⟨"PictureInlays$Highest", "compare", "(II)I"⟩ : Cond) ∈ pw_T := pw_mem (i := 572) (by decide +kernel) (by decide +kernel)
theorem kw_573 : (.instanceMethod ⟨"PictureInlays$Highest", "compare", "(II)I"⟩ : Cond) ∈ pw_T := pw_mem (i := 573) (by decide +kernel) (by decide +kernel)
theorem kw_574 : (.code ⟨"PictureInlays$Highest", "compare", "(II)I"⟩ prog_5_method_2_code 3 (some .int) : Cond) ∈ pw_T := pw_mem (i := 574) (by decide +kernel) (by decide +kernel)
theorem kw_575 : (.methodLink "PictureInlays$Highest" 13 ⟨"PictureInlays$Pieces", "rowsOf", "(I)I"⟩ : Cond) ∈ pw_T := pw_mem (i := 575) (by decide +kernel) (by decide +kernel)
theorem kw_576 : (.instanceMethod ⟨"PictureInlays$Pieces", "rowsOf", "(I)I"⟩ : Cond) ∈ pw_T := pw_mem (i := 576) (by decide +kernel) (by decide +kernel)
theorem kw_577 : (.selects "PictureInlays$Pieces" ⟨"PictureInlays$Pieces", "rowsOf", "(I)I"⟩ ⟨"PictureInlays$Pieces", "rowsOf", "(I)I"⟩ : Cond) ∈ pw_T := pw_mem (i := 577) (by decide +kernel) (by decide +kernel)
theorem kw_578 : (.code ⟨"PictureInlays$Pieces", "rowsOf", "(I)I"⟩ prog_7_method_21_code 2 (some .int) : Cond) ∈ pw_T := pw_mem (i := 578) (by decide +kernel) (by decide +kernel)
theorem kw_579 : (.methodLink "PictureInlays$Pieces" 124 ⟨"PictureInlays$Pieces", "leastYOf", "(I)I"⟩ : Cond) ∈ pw_T := pw_mem (i := 579) (by decide +kernel) (by decide +kernel)
theorem kw_580 : (.instanceMethod ⟨"PictureInlays$Pieces", "leastYOf", "(I)I"⟩ : Cond) ∈ pw_T := pw_mem (i := 580) (by decide +kernel) (by decide +kernel)
theorem kw_581 : (.selects "PictureInlays$Pieces" ⟨"PictureInlays$Pieces", "leastYOf", "(I)I"⟩ ⟨"PictureInlays$Pieces", "leastYOf", "(I)I"⟩ : Cond) ∈ pw_T := pw_mem (i := 581) (by decide +kernel) (by decide +kernel)
theorem kw_582 : (.code ⟨"PictureInlays$Pieces", "leastYOf", "(I)I"⟩ prog_7_method_19_code 2 (some .int) : Cond) ∈ pw_T := pw_mem (i := 582) (by decide +kernel) (by decide +kernel)
theorem kw_583 : (.methodLink "PictureInlays$Highest" 19 ⟨"java/lang/Integer", "compare", "(II)I"⟩ : Cond) ∈ pw_T := pw_mem (i := 583) (by decide +kernel) (by decide +kernel)
theorem kw_584 : (.methodLink "PictureInlays$Highest" 25 ⟨"PictureInlays$Pieces", "columnsOf", "(I)I"⟩ : Cond) ∈ pw_T := pw_mem (i := 584) (by decide +kernel) (by decide +kernel)
theorem kw_585 : (.instanceMethod ⟨"PictureInlays$Pieces", "columnsOf", "(I)I"⟩ : Cond) ∈ pw_T := pw_mem (i := 585) (by decide +kernel) (by decide +kernel)
theorem kw_586 : (.selects "PictureInlays$Pieces" ⟨"PictureInlays$Pieces", "columnsOf", "(I)I"⟩ ⟨"PictureInlays$Pieces", "columnsOf", "(I)I"⟩ : Cond) ∈ pw_T := pw_mem (i := 586) (by decide +kernel) (by decide +kernel)
theorem kw_587 : (.code ⟨"PictureInlays$Pieces", "columnsOf", "(I)I"⟩ prog_7_method_20_code 2 (some .int) : Cond) ∈ pw_T := pw_mem (i := 587) (by decide +kernel) (by decide +kernel)
theorem kw_588 : (.selects "PictureInlays$Laying" ⟨"PictureInlays$Ranking", "compare", "(II)I"⟩ ⟨"PictureInlays$Laying", "compare", "(II)I"⟩ : Cond) ∈ pw_T := pw_mem (i := 588) (by decide +kernel) (by decide +kernel)
theorem kw_589 : (.instanceMethod ⟨"PictureInlays$Laying", "compare", "(II)I"⟩ : Cond) ∈ pw_T := pw_mem (i := 589) (by decide +kernel) (by decide +kernel)
theorem kw_590 : (.code ⟨"PictureInlays$Laying", "compare", "(II)I"⟩ prog_6_method_2_code 3 (some .int) : Cond) ∈ pw_T := pw_mem (i := 590) (by decide +kernel) (by decide +kernel)
theorem kw_591 : (.methodLink "PictureInlays$Laying" 13 ⟨"PictureInlays$Pieces", "isAtEdge", "(I)Z"⟩ : Cond) ∈ pw_T := pw_mem (i := 591) (by decide +kernel) (by decide +kernel)
theorem kw_592 : (.instanceMethod ⟨"PictureInlays$Pieces", "isAtEdge", "(I)Z"⟩ : Cond) ∈ pw_T := pw_mem (i := 592) (by decide +kernel) (by decide +kernel)
theorem kw_593 : (.selects "PictureInlays$Pieces" ⟨"PictureInlays$Pieces", "isAtEdge", "(I)Z"⟩ ⟨"PictureInlays$Pieces", "isAtEdge", "(I)Z"⟩ : Cond) ∈ pw_T := pw_mem (i := 593) (by decide +kernel) (by decide +kernel)
theorem kw_594 : (.code ⟨"PictureInlays$Pieces", "isAtEdge", "(I)Z"⟩ prog_7_method_22_code 2 (some .boolean) : Cond) ∈ pw_T := pw_mem (i := 594) (by decide +kernel) (by decide +kernel)
theorem kw_595 : (.methodLink "PictureInlays$Laying" 19 ⟨"PictureInlays$Pieces", "sizeOf", "(I)I"⟩ : Cond) ∈ pw_T := pw_mem (i := 595) (by decide +kernel) (by decide +kernel)
theorem kw_596 : (.instanceMethod ⟨"PictureInlays$Pieces", "sizeOf", "(I)I"⟩ : Cond) ∈ pw_T := pw_mem (i := 596) (by decide +kernel) (by decide +kernel)
theorem kw_597 : (.selects "PictureInlays$Pieces" ⟨"PictureInlays$Pieces", "sizeOf", "(I)I"⟩ ⟨"PictureInlays$Pieces", "sizeOf", "(I)I"⟩ : Cond) ∈ pw_T := pw_mem (i := 597) (by decide +kernel) (by decide +kernel)
theorem kw_598 : (.code ⟨"PictureInlays$Pieces", "sizeOf", "(I)I"⟩ prog_7_method_16_code 2 (some .int) : Cond) ∈ pw_T := pw_mem (i := 598) (by decide +kernel) (by decide +kernel)
theorem kw_599 : (.methodLink "PictureInlays$Laying" 23 ⟨"java/lang/Integer", "compare", "(II)I"⟩ : Cond) ∈ pw_T := pw_mem (i := 599) (by decide +kernel) (by decide +kernel)
theorem kw_608 : (.methodLink "PictureInlays" 133 ⟨"PictureInlays", "needParted", "()V"⟩ : Cond) ∈ pw_T := pw_mem (i := 608) (by decide +kernel) (by decide +kernel)
theorem kw_610 : (.instanceMethod ⟨"PictureInlays", "needParted", "()V"⟩ : Cond) ∈ pw_T := pw_mem (i := 610) (by decide +kernel) (by decide +kernel)
theorem kw_611 : (.code ⟨"PictureInlays", "needParted", "()V"⟩ prog_1_method_20_code 1 none : Cond) ∈ pw_T := pw_mem (i := 611) (by decide +kernel) (by decide +kernel)
theorem kw_612 : (.classLink "PictureInlays" 217 "java/lang/IllegalStateException" : Cond) ∈ pw_T := pw_mem (i := 612) (by decide +kernel) (by decide +kernel)
theorem kw_613 : (.instantiable "java/lang/IllegalStateException" 6 : Cond) ∈ pw_T := pw_mem (i := 613) (by decide +kernel) (by decide +kernel)
theorem kw_622 : (.methodLink "PictureInlays" 221 ⟨"java/lang/IllegalStateException", "<init>", "(Ljava/lang/String;)V"⟩ : Cond) ∈ pw_T := pw_mem (i := 622) (by decide +kernel) (by decide +kernel)
theorem kw_628 : (.methodLink "PictureInlays" 136 ⟨"PictureInlays$Pieces", "numberOf", "(II)I"⟩ : Cond) ∈ pw_T := pw_mem (i := 628) (by decide +kernel) (by decide +kernel)
theorem kw_629 : (.instanceMethod ⟨"PictureInlays$Pieces", "numberOf", "(II)I"⟩ : Cond) ∈ pw_T := pw_mem (i := 629) (by decide +kernel) (by decide +kernel)
theorem kw_630 : (.selects "PictureInlays$Pieces" ⟨"PictureInlays$Pieces", "numberOf", "(II)I"⟩ ⟨"PictureInlays$Pieces", "numberOf", "(II)I"⟩ : Cond) ∈ pw_T := pw_mem (i := 630) (by decide +kernel) (by decide +kernel)
theorem kw_631 : (.code ⟨"PictureInlays$Pieces", "numberOf", "(II)I"⟩ prog_7_method_14_code 4 (some .int) : Cond) ∈ pw_T := pw_mem (i := 631) (by decide +kernel) (by decide +kernel)
theorem kw_632 : (.methodLink "PictureInlays$Pieces" 121 ⟨"PictureInlays$Grid", "placeOf", "(II)I"⟩ : Cond) ∈ pw_T := pw_mem (i := 632) (by decide +kernel) (by decide +kernel)
theorem kw_640 : (.methodLink "PictureInlays" 139 ⟨"PictureInlays", "needPiece", "(I)V"⟩ : Cond) ∈ pw_T := pw_mem (i := 640) (by decide +kernel) (by decide +kernel)
theorem kw_642 : (.instanceMethod ⟨"PictureInlays", "needPiece", "(I)V"⟩ : Cond) ∈ pw_T := pw_mem (i := 642) (by decide +kernel) (by decide +kernel)
theorem kw_643 : (.code ⟨"PictureInlays", "needPiece", "(I)V"⟩ prog_1_method_22_code 2 none : Cond) ∈ pw_T := pw_mem (i := 643) (by decide +kernel) (by decide +kernel)
theorem kw_644 : (.methodLink "PictureInlays" 142 ⟨"PictureInlays$Pieces", "woodOf", "(I)I"⟩ : Cond) ∈ pw_T := pw_mem (i := 644) (by decide +kernel) (by decide +kernel)
theorem kw_645 : (.methodLink "PictureInlays" 146 ⟨"PictureInlays$Pieces", "sizeOf", "(I)I"⟩ : Cond) ∈ pw_T := pw_mem (i := 645) (by decide +kernel) (by decide +kernel)
theorem kw_646 : (.methodLink "PictureInlays" 149 ⟨"PictureInlays$Pieces", "leastXOf", "(I)I"⟩ : Cond) ∈ pw_T := pw_mem (i := 646) (by decide +kernel) (by decide +kernel)
theorem kw_647 : (.instanceMethod ⟨"PictureInlays$Pieces", "leastXOf", "(I)I"⟩ : Cond) ∈ pw_T := pw_mem (i := 647) (by decide +kernel) (by decide +kernel)
theorem kw_648 : (.selects "PictureInlays$Pieces" ⟨"PictureInlays$Pieces", "leastXOf", "(I)I"⟩ ⟨"PictureInlays$Pieces", "leastXOf", "(I)I"⟩ : Cond) ∈ pw_T := pw_mem (i := 648) (by decide +kernel) (by decide +kernel)
theorem kw_649 : (.code ⟨"PictureInlays$Pieces", "leastXOf", "(I)I"⟩ prog_7_method_18_code 2 (some .int) : Cond) ∈ pw_T := pw_mem (i := 649) (by decide +kernel) (by decide +kernel)
theorem kw_650 : (.methodLink "PictureInlays" 152 ⟨"PictureInlays$Pieces", "leastYOf", "(I)I"⟩ : Cond) ∈ pw_T := pw_mem (i := 650) (by decide +kernel) (by decide +kernel)
theorem kw_651 : (.methodLink "PictureInlays" 155 ⟨"PictureInlays$Pieces", "columnsOf", "(I)I"⟩ : Cond) ∈ pw_T := pw_mem (i := 651) (by decide +kernel) (by decide +kernel)
theorem kw_652 : (.methodLink "PictureInlays" 158 ⟨"PictureInlays$Pieces", "rowsOf", "(I)I"⟩ : Cond) ∈ pw_T := pw_mem (i := 652) (by decide +kernel) (by decide +kernel)
theorem kw_653 : (.methodLink "PictureInlays" 161 ⟨"PictureInlays$Pieces", "isAtEdge", "(I)Z"⟩ : Cond) ∈ pw_T := pw_mem (i := 653) (by decide +kernel) (by decide +kernel)
theorem kw_661 : (.methodLink "PictureInlays" 165 ⟨"PictureInlays$Pieces", "sidesBetween", "(II)I"⟩ : Cond) ∈ pw_T := pw_mem (i := 661) (by decide +kernel) (by decide +kernel)
theorem kw_662 : (.instanceMethod ⟨"PictureInlays$Pieces", "sidesBetween", "(II)I"⟩ : Cond) ∈ pw_T := pw_mem (i := 662) (by decide +kernel) (by decide +kernel)
theorem kw_663 : (.selects "PictureInlays$Pieces" ⟨"PictureInlays$Pieces", "sidesBetween", "(II)I"⟩ ⟨"PictureInlays$Pieces", "sidesBetween", "(II)I"⟩ : Cond) ∈ pw_T := pw_mem (i := 663) (by decide +kernel) (by decide +kernel)
theorem kw_664 : (.code ⟨"PictureInlays$Pieces", "sidesBetween", "(II)I"⟩ prog_7_method_13_code 3 (some .int) : Cond) ∈ pw_T := pw_mem (i := 664) (by decide +kernel) (by decide +kernel)
theorem kw_672 : (.methodLink "PictureInlays" 168 ⟨"PictureInlays$Walk", "round", "(I)V"⟩ : Cond) ∈ pw_T := pw_mem (i := 672) (by decide +kernel) (by decide +kernel)
theorem kw_673 : (.instanceMethod ⟨"PictureInlays$Walk", "round", "(I)V"⟩ : Cond) ∈ pw_T := pw_mem (i := 673) (by decide +kernel) (by decide +kernel)
theorem kw_674 : (.selects "PictureInlays$Walk" ⟨"PictureInlays$Walk", "round", "(I)V"⟩ ⟨"PictureInlays$Walk", "round", "(I)V"⟩ : Cond) ∈ pw_T := pw_mem (i := 674) (by decide +kernel) (by decide +kernel)
theorem kw_675 : (.code ⟨"PictureInlays$Walk", "round", "(I)V"⟩ prog_11_method_2_code 5 none : Cond) ∈ pw_T := pw_mem (i := 675) (by decide +kernel) (by decide +kernel)
theorem kw_676 : (.methodLink "PictureInlays$Walk" 49 ⟨"PictureInlays$Pieces", "firstXOf", "(I)I"⟩ : Cond) ∈ pw_T := pw_mem (i := 676) (by decide +kernel) (by decide +kernel)
theorem kw_677 : (.instanceMethod ⟨"PictureInlays$Pieces", "firstXOf", "(I)I"⟩ : Cond) ∈ pw_T := pw_mem (i := 677) (by decide +kernel) (by decide +kernel)
theorem kw_678 : (.selects "PictureInlays$Pieces" ⟨"PictureInlays$Pieces", "firstXOf", "(I)I"⟩ ⟨"PictureInlays$Pieces", "firstXOf", "(I)I"⟩ : Cond) ∈ pw_T := pw_mem (i := 678) (by decide +kernel) (by decide +kernel)
theorem kw_679 : (.code ⟨"PictureInlays$Pieces", "firstXOf", "(I)I"⟩ prog_7_method_17_code 2 (some .int) : Cond) ∈ pw_T := pw_mem (i := 679) (by decide +kernel) (by decide +kernel)
theorem kw_680 : (.methodLink "PictureInlays$Walk" 55 ⟨"PictureInlays$Pieces", "leastYOf", "(I)I"⟩ : Cond) ∈ pw_T := pw_mem (i := 680) (by decide +kernel) (by decide +kernel)
theorem kw_681 : (.methodLink "PictureInlays$Walk" 58 ⟨"PictureInlays$Walk", "noteCorner", "()V"⟩ : Cond) ∈ pw_T := pw_mem (i := 681) (by decide +kernel) (by decide +kernel)
theorem kw_683 : (.instanceMethod ⟨"PictureInlays$Walk", "noteCorner", "()V"⟩ : Cond) ∈ pw_T := pw_mem (i := 683) (by decide +kernel) (by decide +kernel)
theorem kw_684 : (.code ⟨"PictureInlays$Walk", "noteCorner", "()V"⟩ prog_11_method_5_code 1 none : Cond) ∈ pw_T := pw_mem (i := 684) (by decide +kernel) (by decide +kernel)
theorem kw_687 : (.methodLink "PictureInlays$Walk" 67 ⟨"PictureInlays$Walk", "turn", "(I)V"⟩ : Cond) ∈ pw_T := pw_mem (i := 687) (by decide +kernel) (by decide +kernel)
theorem kw_689 : (.instanceMethod ⟨"PictureInlays$Walk", "turn", "(I)V"⟩ : Cond) ∈ pw_T := pw_mem (i := 689) (by decide +kernel) (by decide +kernel)
theorem kw_690 : (.code ⟨"PictureInlays$Walk", "turn", "(I)V"⟩ prog_11_method_3_code 3 none : Cond) ∈ pw_T := pw_mem (i := 690) (by decide +kernel) (by decide +kernel)
theorem kw_691 : (.methodLink "PictureInlays$Walk" 71 ⟨"PictureInlays$Walk", "isAhead", "(II)Z"⟩ : Cond) ∈ pw_T := pw_mem (i := 691) (by decide +kernel) (by decide +kernel)
theorem kw_693 : (.instanceMethod ⟨"PictureInlays$Walk", "isAhead", "(II)Z"⟩ : Cond) ∈ pw_T := pw_mem (i := 693) (by decide +kernel) (by decide +kernel)
theorem kw_694 : (.code ⟨"PictureInlays$Walk", "isAhead", "(II)Z"⟩ prog_11_method_4_code 3 (some .boolean) : Cond) ∈ pw_T := pw_mem (i := 694) (by decide +kernel) (by decide +kernel)
theorem kw_699 : (.methodLink "PictureInlays$Walk" 81 ⟨"PictureInlays$Pieces", "numberOf", "(II)I"⟩ : Cond) ∈ pw_T := pw_mem (i := 699) (by decide +kernel) (by decide +kernel)
theorem kw_707 : (.methodLink "PictureInlays" 174 ⟨"PictureInlays$Walk", "cornerX", "(I)I"⟩ : Cond) ∈ pw_T := pw_mem (i := 707) (by decide +kernel) (by decide +kernel)
theorem kw_708 : (.instanceMethod ⟨"PictureInlays$Walk", "cornerX", "(I)I"⟩ : Cond) ∈ pw_T := pw_mem (i := 708) (by decide +kernel) (by decide +kernel)
theorem kw_709 : (.selects "PictureInlays$Walk" ⟨"PictureInlays$Walk", "cornerX", "(I)I"⟩ ⟨"PictureInlays$Walk", "cornerX", "(I)I"⟩ : Cond) ∈ pw_T := pw_mem (i := 709) (by decide +kernel) (by decide +kernel)
theorem kw_710 : (.code ⟨"PictureInlays$Walk", "cornerX", "(I)I"⟩ prog_11_method_6_code 2 (some .int) : Cond) ∈ pw_T := pw_mem (i := 710) (by decide +kernel) (by decide +kernel)
theorem kw_711 : (.methodLink "PictureInlays" 177 ⟨"PictureInlays$Walk", "cornerY", "(I)I"⟩ : Cond) ∈ pw_T := pw_mem (i := 711) (by decide +kernel) (by decide +kernel)
theorem kw_712 : (.instanceMethod ⟨"PictureInlays$Walk", "cornerY", "(I)I"⟩ : Cond) ∈ pw_T := pw_mem (i := 712) (by decide +kernel) (by decide +kernel)
theorem kw_713 : (.selects "PictureInlays$Walk" ⟨"PictureInlays$Walk", "cornerY", "(I)I"⟩ ⟨"PictureInlays$Walk", "cornerY", "(I)I"⟩ : Cond) ∈ pw_T := pw_mem (i := 713) (by decide +kernel) (by decide +kernel)
theorem kw_714 : (.code ⟨"PictureInlays$Walk", "cornerY", "(I)I"⟩ prog_11_method_7_code 2 (some .int) : Cond) ∈ pw_T := pw_mem (i := 714) (by decide +kernel) (by decide +kernel)
theorem kw_722 : (.methodLink "PictureInlays" 180 ⟨"PictureInlays$Tool", "cover", "(II)V"⟩ : Cond) ∈ pw_T := pw_mem (i := 722) (by decide +kernel) (by decide +kernel)
theorem kw_723 : (.instanceMethod ⟨"PictureInlays$Tool", "cover", "(II)V"⟩ : Cond) ∈ pw_T := pw_mem (i := 723) (by decide +kernel) (by decide +kernel)
theorem kw_724 : (.selects "PictureInlays$Tool" ⟨"PictureInlays$Tool", "cover", "(II)V"⟩ ⟨"PictureInlays$Tool", "cover", "(II)V"⟩ : Cond) ∈ pw_T := pw_mem (i := 724) (by decide +kernel) (by decide +kernel)
theorem kw_725 : (.code ⟨"PictureInlays$Tool", "cover", "(II)V"⟩ prog_10_method_2_code 5 none : Cond) ∈ pw_T := pw_mem (i := 725) (by decide +kernel) (by decide +kernel)
theorem kw_726 : (.methodLink "PictureInlays$Tool" 38 ⟨"PictureInlays$Tool", "fits", "(IIII)Z"⟩ : Cond) ∈ pw_T := pw_mem (i := 726) (by decide +kernel) (by decide +kernel)
theorem kw_728 : (.instanceMethod ⟨"PictureInlays$Tool", "fits", "(IIII)Z"⟩ : Cond) ∈ pw_T := pw_mem (i := 728) (by decide +kernel) (by decide +kernel)
theorem kw_729 : (.code ⟨"PictureInlays$Tool", "fits", "(IIII)Z"⟩ prog_10_method_3_code 7 (some .boolean) : Cond) ∈ pw_T := pw_mem (i := 729) (by decide +kernel) (by decide +kernel)
theorem kw_730 : (.methodLink "PictureInlays$Tool" 46 ⟨"PictureInlays$Pieces", "numberOf", "(II)I"⟩ : Cond) ∈ pw_T := pw_mem (i := 730) (by decide +kernel) (by decide +kernel)
theorem kw_731 : (.methodLink "PictureInlays$Tool" 42 ⟨"PictureInlays$Tool", "mark", "(III)V"⟩ : Cond) ∈ pw_T := pw_mem (i := 731) (by decide +kernel) (by decide +kernel)
theorem kw_733 : (.instanceMethod ⟨"PictureInlays$Tool", "mark", "(III)V"⟩ : Cond) ∈ pw_T := pw_mem (i := 733) (by decide +kernel) (by decide +kernel)
theorem kw_734 : (.code ⟨"PictureInlays$Tool", "mark", "(III)V"⟩ prog_10_method_4_code 7 none : Cond) ∈ pw_T := pw_mem (i := 734) (by decide +kernel) (by decide +kernel)
theorem kw_735 : (.methodLink "PictureInlays$Tool" 52 ⟨"PictureInlays$Grid", "placeOf", "(II)I"⟩ : Cond) ∈ pw_T := pw_mem (i := 735) (by decide +kernel) (by decide +kernel)
theorem kw_743 : (.methodLink "PictureInlays" 186 ⟨"PictureInlays$Tool", "covers", "(II)Z"⟩ : Cond) ∈ pw_T := pw_mem (i := 743) (by decide +kernel) (by decide +kernel)
theorem kw_744 : (.instanceMethod ⟨"PictureInlays$Tool", "covers", "(II)Z"⟩ : Cond) ∈ pw_T := pw_mem (i := 744) (by decide +kernel) (by decide +kernel)
theorem kw_745 : (.selects "PictureInlays$Tool" ⟨"PictureInlays$Tool", "covers", "(II)Z"⟩ ⟨"PictureInlays$Tool", "covers", "(II)Z"⟩ : Cond) ∈ pw_T := pw_mem (i := 745) (by decide +kernel) (by decide +kernel)
theorem kw_746 : (.code ⟨"PictureInlays$Tool", "covers", "(II)Z"⟩ prog_10_method_5_code 4 (some .boolean) : Cond) ∈ pw_T := pw_mem (i := 746) (by decide +kernel) (by decide +kernel)
theorem kw_754 : (.methodLink "PictureInlays" 190 ⟨"PictureInlays$Ranking", "ranked", "(I)I"⟩ : Cond) ∈ pw_T := pw_mem (i := 754) (by decide +kernel) (by decide +kernel)
theorem kw_755 : (.instanceMethod ⟨"PictureInlays$Ranking", "ranked", "(I)I"⟩ : Cond) ∈ pw_T := pw_mem (i := 755) (by decide +kernel) (by decide +kernel)
theorem kw_756 : (.sameMethod "PictureInlays$Ranking" "PictureInlays$Ranking" "ranked" "(I)I" : Cond) ∈ pw_T := pw_mem (i := 756) (by decide +kernel) (by decide +kernel)
theorem kw_757 : (.selects "PictureInlays$Brightest" ⟨"PictureInlays$Ranking", "ranked", "(I)I"⟩ ⟨"PictureInlays$Ranking", "ranked", "(I)I"⟩ : Cond) ∈ pw_T := pw_mem (i := 757) (by decide +kernel) (by decide +kernel)
theorem kw_758 : (.selects "PictureInlays$Highest" ⟨"PictureInlays$Ranking", "ranked", "(I)I"⟩ ⟨"PictureInlays$Ranking", "ranked", "(I)I"⟩ : Cond) ∈ pw_T := pw_mem (i := 758) (by decide +kernel) (by decide +kernel)
theorem kw_759 : (.selects "PictureInlays$Laying" ⟨"PictureInlays$Ranking", "ranked", "(I)I"⟩ ⟨"PictureInlays$Ranking", "ranked", "(I)I"⟩ : Cond) ∈ pw_T := pw_mem (i := 759) (by decide +kernel) (by decide +kernel)
theorem kw_760 : (.code ⟨"PictureInlays$Ranking", "ranked", "(I)I"⟩ prog_8_method_4_code 2 (some .int) : Cond) ∈ pw_T := pw_mem (i := 760) (by decide +kernel) (by decide +kernel)
theorem kw_768 : (.methodLink "PictureInlays" 193 ⟨"PictureInlays$Sheet", "fill", "(II)I"⟩ : Cond) ∈ pw_T := pw_mem (i := 768) (by decide +kernel) (by decide +kernel)
theorem kw_769 : (.instanceMethod ⟨"PictureInlays$Sheet", "fill", "(II)I"⟩ : Cond) ∈ pw_T := pw_mem (i := 769) (by decide +kernel) (by decide +kernel)
theorem kw_770 : (.selects "PictureInlays$Sheet" ⟨"PictureInlays$Sheet", "fill", "(II)I"⟩ ⟨"PictureInlays$Sheet", "fill", "(II)I"⟩ : Cond) ∈ pw_T := pw_mem (i := 770) (by decide +kernel) (by decide +kernel)
theorem kw_771 : (.code ⟨"PictureInlays$Sheet", "fill", "(II)I"⟩ prog_9_method_2_code 7 (some .int) : Cond) ∈ pw_T := pw_mem (i := 771) (by decide +kernel) (by decide +kernel)
theorem kw_772 : (.methodLink "PictureInlays$Sheet" 52 ⟨"PictureInlays$Ranking", "rank", "(I)V"⟩ : Cond) ∈ pw_T := pw_mem (i := 772) (by decide +kernel) (by decide +kernel)
theorem kw_773 : (.methodLink "PictureInlays$Sheet" 58 ⟨"PictureInlays$Ranking", "ranked", "(I)I"⟩ : Cond) ∈ pw_T := pw_mem (i := 773) (by decide +kernel) (by decide +kernel)
theorem kw_774 : (.methodLink "PictureInlays$Sheet" 62 ⟨"PictureInlays$Sheet", "rowFor", "(III)I"⟩ : Cond) ∈ pw_T := pw_mem (i := 774) (by decide +kernel) (by decide +kernel)
theorem kw_776 : (.instanceMethod ⟨"PictureInlays$Sheet", "rowFor", "(III)I"⟩ : Cond) ∈ pw_T := pw_mem (i := 776) (by decide +kernel) (by decide +kernel)
theorem kw_777 : (.code ⟨"PictureInlays$Sheet", "rowFor", "(III)I"⟩ prog_9_method_3_code 7 (some .int) : Cond) ∈ pw_T := pw_mem (i := 777) (by decide +kernel) (by decide +kernel)
theorem kw_778 : (.methodLink "PictureInlays$Sheet" 70 ⟨"PictureInlays$Pieces", "columnsOf", "(I)I"⟩ : Cond) ∈ pw_T := pw_mem (i := 778) (by decide +kernel) (by decide +kernel)
theorem kw_779 : (.methodLink "PictureInlays$Sheet" 73 ⟨"PictureInlays$Pieces", "rowsOf", "(I)I"⟩ : Cond) ∈ pw_T := pw_mem (i := 779) (by decide +kernel) (by decide +kernel)
theorem kw_780 : (.methodLink "PictureInlays$Sheet" 76 ⟨"PictureInlays$Sheet", "newRow", "(I)I"⟩ : Cond) ∈ pw_T := pw_mem (i := 780) (by decide +kernel) (by decide +kernel)
theorem kw_782 : (.instanceMethod ⟨"PictureInlays$Sheet", "newRow", "(I)I"⟩ : Cond) ∈ pw_T := pw_mem (i := 782) (by decide +kernel) (by decide +kernel)
theorem kw_783 : (.code ⟨"PictureInlays$Sheet", "newRow", "(I)I"⟩ prog_9_method_4_code 2 (some .int) : Cond) ∈ pw_T := pw_mem (i := 783) (by decide +kernel) (by decide +kernel)
theorem kw_784 : (.methodLink "PictureInlays$Sheet" 66 ⟨"PictureInlays$Sheet", "put", "(II)V"⟩ : Cond) ∈ pw_T := pw_mem (i := 784) (by decide +kernel) (by decide +kernel)
theorem kw_786 : (.instanceMethod ⟨"PictureInlays$Sheet", "put", "(II)V"⟩ : Cond) ∈ pw_T := pw_mem (i := 786) (by decide +kernel) (by decide +kernel)
theorem kw_787 : (.code ⟨"PictureInlays$Sheet", "put", "(II)V"⟩ prog_9_method_5_code 3 none : Cond) ∈ pw_T := pw_mem (i := 787) (by decide +kernel) (by decide +kernel)
theorem kw_795 : (.methodLink "PictureInlays" 196 ⟨"PictureInlays", "needNested", "()V"⟩ : Cond) ∈ pw_T := pw_mem (i := 795) (by decide +kernel) (by decide +kernel)
theorem kw_797 : (.instanceMethod ⟨"PictureInlays", "needNested", "()V"⟩ : Cond) ∈ pw_T := pw_mem (i := 797) (by decide +kernel) (by decide +kernel)
theorem kw_798 : (.code ⟨"PictureInlays", "needNested", "()V"⟩ prog_1_method_21_code 1 none : Cond) ∈ pw_T := pw_mem (i := 798) (by decide +kernel) (by decide +kernel)
theorem kw_800 : (.methodLink "PictureInlays" 199 ⟨"PictureInlays$Sheet", "xOf", "(I)I"⟩ : Cond) ∈ pw_T := pw_mem (i := 800) (by decide +kernel) (by decide +kernel)
theorem kw_801 : (.instanceMethod ⟨"PictureInlays$Sheet", "xOf", "(I)I"⟩ : Cond) ∈ pw_T := pw_mem (i := 801) (by decide +kernel) (by decide +kernel)
theorem kw_802 : (.selects "PictureInlays$Sheet" ⟨"PictureInlays$Sheet", "xOf", "(I)I"⟩ ⟨"PictureInlays$Sheet", "xOf", "(I)I"⟩ : Cond) ∈ pw_T := pw_mem (i := 802) (by decide +kernel) (by decide +kernel)
theorem kw_803 : (.code ⟨"PictureInlays$Sheet", "xOf", "(I)I"⟩ prog_9_method_6_code 2 (some .int) : Cond) ∈ pw_T := pw_mem (i := 803) (by decide +kernel) (by decide +kernel)
theorem kw_804 : (.methodLink "PictureInlays" 202 ⟨"PictureInlays$Sheet", "yOf", "(I)I"⟩ : Cond) ∈ pw_T := pw_mem (i := 804) (by decide +kernel) (by decide +kernel)
theorem kw_805 : (.instanceMethod ⟨"PictureInlays$Sheet", "yOf", "(I)I"⟩ : Cond) ∈ pw_T := pw_mem (i := 805) (by decide +kernel) (by decide +kernel)
theorem kw_806 : (.selects "PictureInlays$Sheet" ⟨"PictureInlays$Sheet", "yOf", "(I)I"⟩ ⟨"PictureInlays$Sheet", "yOf", "(I)I"⟩ : Cond) ∈ pw_T := pw_mem (i := 806) (by decide +kernel) (by decide +kernel)
theorem kw_807 : (.code ⟨"PictureInlays$Sheet", "yOf", "(I)I"⟩ prog_9_method_7_code 2 (some .int) : Cond) ∈ pw_T := pw_mem (i := 807) (by decide +kernel) (by decide +kernel)
theorem kw_815 : (.constant "PictureInlays" 205 1000000 : Cond) ∈ pw_T := pw_mem (i := 815) (by decide +kernel) (by decide +kernel)
theorem kw_816 : (.methodLink "PictureInlays" 211 ⟨"PictureInlays", "commonDivisor", "(II)I"⟩ : Cond) ∈ pw_T := pw_mem (i := 816) (by decide +kernel) (by decide +kernel)
theorem kw_817 : (.static ⟨"PictureInlays", "commonDivisor", "(II)I"⟩ : Cond) ∈ pw_T := pw_mem (i := 817) (by decide +kernel) (by decide +kernel)
theorem kw_818 : (.code ⟨"PictureInlays", "commonDivisor", "(II)I"⟩ prog_1_method_18_code 6 (some .int) : Cond) ∈ pw_T := pw_mem (i := 818) (by decide +kernel) (by decide +kernel)
