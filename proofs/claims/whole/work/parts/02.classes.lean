def R_PI : String := "PictureInlays"
def R_Model : String := "PictureInlaysModel"
def R_Brightest : String := "PictureInlays$Brightest"
def R_Colours : String := "PictureInlays$Colours"
def R_Grid : String := "PictureInlays$Grid"
def R_Highest : String := "PictureInlays$Highest"
def R_Laying : String := "PictureInlays$Laying"
def R_Pieces : String := "PictureInlays$Pieces"
def R_Ranking : String := "PictureInlays$Ranking"
def R_Sheet : String := "PictureInlays$Sheet"
def R_Tool : String := "PictureInlays$Tool"
def R_Walk : String := "PictureInlays$Walk"
def R_Law : String := "PictureInlaysLaw"
def R_Integer : String := "java/lang/Integer"
def R_Arrays : String := "java/util/Arrays"
def T_PI : u_T := fun k => match k with
  | 0 => ("PictureInlays", "grid", "LPictureInlays$Grid;", true)
  | 1 => ("PictureInlays", "kinds", "I", true)
  | 2 => ("PictureInlays", "picture", "LPictureInlays$Colours;", true)
  | 3 => ("PictureInlays", "woods", "LPictureInlays$Colours;", true)
  | 4 => ("PictureInlays", "pieces", "LPictureInlays$Pieces;", true)
  | 5 => ("PictureInlays", "brightest", "LPictureInlays$Ranking;", true)
  | 6 => ("PictureInlays", "laying", "LPictureInlays$Ranking;", true)
  | 7 => ("PictureInlays", "walk", "LPictureInlays$Walk;", true)
  | 8 => ("PictureInlays", "tool", "LPictureInlays$Tool;", true)
  | 9 => ("PictureInlays", "sheet", "LPictureInlays$Sheet;", true)
  | 10 => ("PictureInlays", "parted", "Z", false)
  | _ => ("PictureInlays", "nested", "Z", false)
def ty_PI : Nat → FieldType := fun k => match k with
  | 0 => .object "PictureInlays$Grid"
  | 1 => .int
  | 2 => .object "PictureInlays$Colours"
  | 3 => .object "PictureInlays$Colours"
  | 4 => .object "PictureInlays$Pieces"
  | 5 => .object "PictureInlays$Ranking"
  | 6 => .object "PictureInlays$Ranking"
  | 7 => .object "PictureInlays$Walk"
  | 8 => .object "PictureInlays$Tool"
  | 9 => .object "PictureInlays$Sheet"
  | 10 => .boolean
  | _ => .boolean
theorem nm_PI : ∀ a, a < 12 → ∀ b, b < 12 → a ≠ b → (T_PI a).2.1 ≠ (T_PI b).2.1 := by decide +kernel
theorem tyok_PI : ∀ k, k < 12 → parseFieldDescriptor (T_PI k).2.2.1 = some (ty_PI k) := by decide +kernel
theorem in0_PI : ∀ w ∈ u_ws R_PI T_PI 12, w ∈ lw_tbl ∧ goodWord w = true := by decide +kernel
theorem in_PI {c : Cond} : ∀ w ∈ u_ws R_PI T_PI 12, w ∈ c :: pw_T := fun w h => List.mem_cons_of_mem _ (List.mem_filter.mpr (in0_PI w h))
def T_Model : u_T := fun k => match k with
  | 0 => ("PictureInlaysModel", "code", "I", false)
  | 1 => ("PictureInlaysModel", "wide", "I", true)
  | 2 => ("PictureInlaysModel", "high", "I", true)
  | 3 => ("PictureInlaysModel", "kinds", "I", true)
  | 4 => ("PictureInlaysModel", "colours", "[I", true)
  | 5 => ("PictureInlaysModel", "kindColours", "[I", true)
  | 6 => ("PictureInlaysModel", "kindOf", "[I", true)
  | 7 => ("PictureInlaysModel", "firstOf", "[I", true)
  | 8 => ("PictureInlaysModel", "pieces", "I", false)
  | 9 => ("PictureInlaysModel", "firsts", "[I", true)
  | 10 => ("PictureInlaysModel", "sizes", "[I", true)
  | 11 => ("PictureInlaysModel", "shared", "[I", true)
  | 12 => ("PictureInlaysModel", "parted", "Z", false)
  | 13 => ("PictureInlaysModel", "cornerX", "[I", true)
  | 14 => ("PictureInlaysModel", "cornerY", "[I", true)
  | 15 => ("PictureInlaysModel", "corners", "I", false)
  | 16 => ("PictureInlaysModel", "nested", "Z", false)
  | 17 => ("PictureInlaysModel", "atX", "[I", true)
  | 18 => ("PictureInlaysModel", "atY", "[I", true)
  | 19 => ("PictureInlaysModel", "rows", "I", false)
  | 20 => ("PictureInlaysModel", "rowTop", "[I", true)
  | 21 => ("PictureInlaysModel", "rowHigh", "[I", true)
  | _ => ("PictureInlaysModel", "rowUsed", "[I", true)
def ty_Model : Nat → FieldType := fun k => match k with
  | 0 => .int
  | 1 => .int
  | 2 => .int
  | 3 => .int
  | 4 => .array .int
  | 5 => .array .int
  | 6 => .array .int
  | 7 => .array .int
  | 8 => .int
  | 9 => .array .int
  | 10 => .array .int
  | 11 => .array .int
  | 12 => .boolean
  | 13 => .array .int
  | 14 => .array .int
  | 15 => .int
  | 16 => .boolean
  | 17 => .array .int
  | 18 => .array .int
  | 19 => .int
  | 20 => .array .int
  | 21 => .array .int
  | _ => .array .int
theorem nm_Model : ∀ a, a < 23 → ∀ b, b < 23 → a ≠ b → (T_Model a).2.1 ≠ (T_Model b).2.1 := by decide +kernel
theorem tyok_Model : ∀ k, k < 23 → parseFieldDescriptor (T_Model k).2.2.1 = some (ty_Model k) := by decide +kernel
theorem in0_Model : ∀ w ∈ u_ws R_Model T_Model 23, w ∈ lw_tbl ∧ goodWord w = true := by decide +kernel
theorem in_Model {c : Cond} : ∀ w ∈ u_ws R_Model T_Model 23, w ∈ c :: pw_T := fun w h => List.mem_cons_of_mem _ (List.mem_filter.mpr (in0_Model w h))
def T_Brightest : u_T := fun k => match k with
  | 0 => ("PictureInlays$Ranking", "row", "[I", true)
  | _ => ("PictureInlays$Brightest", "woods", "LPictureInlays$Colours;", true)
def ty_Brightest : Nat → FieldType := fun k => match k with
  | 0 => .array .int
  | _ => .object "PictureInlays$Colours"
theorem nm_Brightest : ∀ a, a < 2 → ∀ b, b < 2 → a ≠ b → (T_Brightest a).2.1 ≠ (T_Brightest b).2.1 := by decide +kernel
theorem tyok_Brightest : ∀ k, k < 2 → parseFieldDescriptor (T_Brightest k).2.2.1 = some (ty_Brightest k) := by decide +kernel
theorem in0_Brightest : ∀ w ∈ u_ws R_Brightest T_Brightest 2, w ∈ lw_tbl ∧ goodWord w = true := by decide +kernel
theorem in_Brightest {c : Cond} : ∀ w ∈ u_ws R_Brightest T_Brightest 2, w ∈ c :: pw_T := fun w h => List.mem_cons_of_mem _ (List.mem_filter.mpr (in0_Brightest w h))
def T_Colours : u_T := fun k => match k with
  | 0 => ("PictureInlays$Colours", "red", "[I", true)
  | 1 => ("PictureInlays$Colours", "green", "[I", true)
  | _ => ("PictureInlays$Colours", "blue", "[I", true)
def ty_Colours : Nat → FieldType := fun k => match k with
  | 0 => .array .int
  | 1 => .array .int
  | _ => .array .int
theorem nm_Colours : ∀ a, a < 3 → ∀ b, b < 3 → a ≠ b → (T_Colours a).2.1 ≠ (T_Colours b).2.1 := by decide +kernel
theorem tyok_Colours : ∀ k, k < 3 → parseFieldDescriptor (T_Colours k).2.2.1 = some (ty_Colours k) := by decide +kernel
theorem in0_Colours : ∀ w ∈ u_ws R_Colours T_Colours 3, w ∈ lw_tbl ∧ goodWord w = true := by decide +kernel
theorem in_Colours {c : Cond} : ∀ w ∈ u_ws R_Colours T_Colours 3, w ∈ c :: pw_T := fun w h => List.mem_cons_of_mem _ (List.mem_filter.mpr (in0_Colours w h))
def T_Grid : u_T := fun k => match k with
  | 0 => ("PictureInlays$Grid", "width", "I", true)
  | 1 => ("PictureInlays$Grid", "height", "I", true)
  | 2 => ("PictureInlays$Grid", "places", "I", true)
  | 3 => ("PictureInlays$Grid", "column", "[I", true)
  | 4 => ("PictureInlays$Grid", "row", "[I", true)
  | _ => ("PictureInlays$Grid", "beside", "[I", true)
def ty_Grid : Nat → FieldType := fun k => match k with
  | 0 => .int
  | 1 => .int
  | 2 => .int
  | 3 => .array .int
  | 4 => .array .int
  | _ => .array .int
theorem nm_Grid : ∀ a, a < 6 → ∀ b, b < 6 → a ≠ b → (T_Grid a).2.1 ≠ (T_Grid b).2.1 := by decide +kernel
theorem tyok_Grid : ∀ k, k < 6 → parseFieldDescriptor (T_Grid k).2.2.1 = some (ty_Grid k) := by decide +kernel
theorem in0_Grid : ∀ w ∈ u_ws R_Grid T_Grid 6, w ∈ lw_tbl ∧ goodWord w = true := by decide +kernel
theorem in_Grid {c : Cond} : ∀ w ∈ u_ws R_Grid T_Grid 6, w ∈ c :: pw_T := fun w h => List.mem_cons_of_mem _ (List.mem_filter.mpr (in0_Grid w h))
def T_Highest : u_T := fun k => match k with
  | 0 => ("PictureInlays$Ranking", "row", "[I", true)
  | _ => ("PictureInlays$Highest", "pieces", "LPictureInlays$Pieces;", true)
def ty_Highest : Nat → FieldType := fun k => match k with
  | 0 => .array .int
  | _ => .object "PictureInlays$Pieces"
theorem nm_Highest : ∀ a, a < 2 → ∀ b, b < 2 → a ≠ b → (T_Highest a).2.1 ≠ (T_Highest b).2.1 := by decide +kernel
theorem tyok_Highest : ∀ k, k < 2 → parseFieldDescriptor (T_Highest k).2.2.1 = some (ty_Highest k) := by decide +kernel
theorem in0_Highest : ∀ w ∈ u_ws R_Highest T_Highest 2, w ∈ lw_tbl ∧ goodWord w = true := by decide +kernel
theorem in_Highest {c : Cond} : ∀ w ∈ u_ws R_Highest T_Highest 2, w ∈ c :: pw_T := fun w h => List.mem_cons_of_mem _ (List.mem_filter.mpr (in0_Highest w h))
def T_Laying : u_T := fun k => match k with
  | 0 => ("PictureInlays$Ranking", "row", "[I", true)
  | _ => ("PictureInlays$Laying", "pieces", "LPictureInlays$Pieces;", true)
def ty_Laying : Nat → FieldType := fun k => match k with
  | 0 => .array .int
  | _ => .object "PictureInlays$Pieces"
theorem nm_Laying : ∀ a, a < 2 → ∀ b, b < 2 → a ≠ b → (T_Laying a).2.1 ≠ (T_Laying b).2.1 := by decide +kernel
theorem tyok_Laying : ∀ k, k < 2 → parseFieldDescriptor (T_Laying k).2.2.1 = some (ty_Laying k) := by decide +kernel
theorem in0_Laying : ∀ w ∈ u_ws R_Laying T_Laying 2, w ∈ lw_tbl ∧ goodWord w = true := by decide +kernel
theorem in_Laying {c : Cond} : ∀ w ∈ u_ws R_Laying T_Laying 2, w ∈ c :: pw_T := fun w h => List.mem_cons_of_mem _ (List.mem_filter.mpr (in0_Laying w h))
def T_Pieces : u_T := fun k => match k with
  | 0 => ("PictureInlays$Pieces", "grid", "LPictureInlays$Grid;", true)
  | 1 => ("PictureInlays$Pieces", "woodAt", "[I", true)
  | 2 => ("PictureInlays$Pieces", "numberAt", "[I", true)
  | 3 => ("PictureInlays$Pieces", "waiting", "[I", true)
  | 4 => ("PictureInlays$Pieces", "sides", "[I", true)
  | 5 => ("PictureInlays$Pieces", "first", "[I", true)
  | 6 => ("PictureInlays$Pieces", "size", "[I", true)
  | 7 => ("PictureInlays$Pieces", "leastX", "[I", true)
  | 8 => ("PictureInlays$Pieces", "mostX", "[I", true)
  | 9 => ("PictureInlays$Pieces", "mostY", "[I", true)
  | _ => ("PictureInlays$Pieces", "count", "I", false)
def ty_Pieces : Nat → FieldType := fun k => match k with
  | 0 => .object "PictureInlays$Grid"
  | 1 => .array .int
  | 2 => .array .int
  | 3 => .array .int
  | 4 => .array .int
  | 5 => .array .int
  | 6 => .array .int
  | 7 => .array .int
  | 8 => .array .int
  | 9 => .array .int
  | _ => .int
theorem nm_Pieces : ∀ a, a < 11 → ∀ b, b < 11 → a ≠ b → (T_Pieces a).2.1 ≠ (T_Pieces b).2.1 := by decide +kernel
theorem tyok_Pieces : ∀ k, k < 11 → parseFieldDescriptor (T_Pieces k).2.2.1 = some (ty_Pieces k) := by decide +kernel
theorem in0_Pieces : ∀ w ∈ u_ws R_Pieces T_Pieces 11, w ∈ lw_tbl ∧ goodWord w = true := by decide +kernel
theorem in_Pieces {c : Cond} : ∀ w ∈ u_ws R_Pieces T_Pieces 11, w ∈ c :: pw_T := fun w h => List.mem_cons_of_mem _ (List.mem_filter.mpr (in0_Pieces w h))
def T_Sheet : u_T := fun k => match k with
  | 0 => ("PictureInlays$Sheet", "pieces", "LPictureInlays$Pieces;", true)
  | 1 => ("PictureInlays$Sheet", "highest", "LPictureInlays$Ranking;", true)
  | 2 => ("PictureInlays$Sheet", "lyingX", "[I", true)
  | 3 => ("PictureInlays$Sheet", "lyingY", "[I", true)
  | 4 => ("PictureInlays$Sheet", "rowTop", "[I", true)
  | 5 => ("PictureInlays$Sheet", "rowHeight", "[I", true)
  | 6 => ("PictureInlays$Sheet", "rowUsed", "[I", true)
  | 7 => ("PictureInlays$Sheet", "rows", "I", false)
  | _ => ("PictureInlays$Sheet", "bottom", "I", false)
def ty_Sheet : Nat → FieldType := fun k => match k with
  | 0 => .object "PictureInlays$Pieces"
  | 1 => .object "PictureInlays$Ranking"
  | 2 => .array .int
  | 3 => .array .int
  | 4 => .array .int
  | 5 => .array .int
  | 6 => .array .int
  | 7 => .int
  | _ => .int
theorem nm_Sheet : ∀ a, a < 9 → ∀ b, b < 9 → a ≠ b → (T_Sheet a).2.1 ≠ (T_Sheet b).2.1 := by decide +kernel
theorem tyok_Sheet : ∀ k, k < 9 → parseFieldDescriptor (T_Sheet k).2.2.1 = some (ty_Sheet k) := by decide +kernel
theorem in0_Sheet : ∀ w ∈ u_ws R_Sheet T_Sheet 9, w ∈ lw_tbl ∧ goodWord w = true := by decide +kernel
theorem in_Sheet {c : Cond} : ∀ w ∈ u_ws R_Sheet T_Sheet 9, w ∈ c :: pw_T := fun w h => List.mem_cons_of_mem _ (List.mem_filter.mpr (in0_Sheet w h))
def T_Tool : u_T := fun k => match k with
  | 0 => ("PictureInlays$Tool", "grid", "LPictureInlays$Grid;", true)
  | 1 => ("PictureInlays$Tool", "pieces", "LPictureInlays$Pieces;", true)
  | 2 => ("PictureInlays$Tool", "marked", "[Z", true)
  | _ => ("PictureInlays$Tool", "covered", "I", false)
def ty_Tool : Nat → FieldType := fun k => match k with
  | 0 => .object "PictureInlays$Grid"
  | 1 => .object "PictureInlays$Pieces"
  | 2 => .array .boolean
  | _ => .int
theorem nm_Tool : ∀ a, a < 4 → ∀ b, b < 4 → a ≠ b → (T_Tool a).2.1 ≠ (T_Tool b).2.1 := by decide +kernel
theorem tyok_Tool : ∀ k, k < 4 → parseFieldDescriptor (T_Tool k).2.2.1 = some (ty_Tool k) := by decide +kernel
theorem in0_Tool : ∀ w ∈ u_ws R_Tool T_Tool 4, w ∈ lw_tbl ∧ goodWord w = true := by decide +kernel
theorem in_Tool {c : Cond} : ∀ w ∈ u_ws R_Tool T_Tool 4, w ∈ c :: pw_T := fun w h => List.mem_cons_of_mem _ (List.mem_filter.mpr (in0_Tool w h))
def T_Walk : u_T := fun k => match k with
  | 0 => ("PictureInlays$Walk", "pieces", "LPictureInlays$Pieces;", true)
  | 1 => ("PictureInlays$Walk", "mostSteps", "I", true)
  | 2 => ("PictureInlays$Walk", "turnX", "[I", true)
  | 3 => ("PictureInlays$Walk", "turnY", "[I", true)
  | 4 => ("PictureInlays$Walk", "x", "I", false)
  | 5 => ("PictureInlays$Walk", "y", "I", false)
  | 6 => ("PictureInlays$Walk", "way", "I", false)
  | _ => ("PictureInlays$Walk", "corners", "I", false)
def ty_Walk : Nat → FieldType := fun k => match k with
  | 0 => .object "PictureInlays$Pieces"
  | 1 => .int
  | 2 => .array .int
  | 3 => .array .int
  | 4 => .int
  | 5 => .int
  | 6 => .int
  | _ => .int
theorem nm_Walk : ∀ a, a < 8 → ∀ b, b < 8 → a ≠ b → (T_Walk a).2.1 ≠ (T_Walk b).2.1 := by decide +kernel
theorem tyok_Walk : ∀ k, k < 8 → parseFieldDescriptor (T_Walk k).2.2.1 = some (ty_Walk k) := by decide +kernel
theorem in0_Walk : ∀ w ∈ u_ws R_Walk T_Walk 8, w ∈ lw_tbl ∧ goodWord w = true := by decide +kernel
theorem in_Walk {c : Cond} : ∀ w ∈ u_ws R_Walk T_Walk 8, w ∈ c :: pw_T := fun w h => List.mem_cons_of_mem _ (List.mem_filter.mpr (in0_Walk w h))
abbrev vwCl : List vw_C := [(R_PI, T_PI, 12), (R_Model, T_Model, 23), (R_Brightest, T_Brightest, 2), (R_Colours, T_Colours, 3), (R_Grid, T_Grid, 6), (R_Highest, T_Highest, 2), (R_Laying, T_Laying, 2), (R_Pieces, T_Pieces, 11), (R_Sheet, T_Sheet, 9), (R_Tool, T_Tool, 4), (R_Walk, T_Walk, 8)]
