def R_C : String := "AuthorityRows$Collected"
def R_T : String := "AuthorityRows$Text"
def R_H : String := "AuthorityRows$Headings"
def R_K : String := "AuthorityRows$Links"
def R_R : String := "AuthorityRows$Records"
def R_Y : String := "AuthorityRows$Way"
def R_A : String := "AuthorityRows"
def R_M : String := "AuthorityRowsModel"
def R_J : String := "java/lang/Long"
def R_L : String := "AuthorityRowsLaw"
def F_C : u_T := fun k => match k with
  | 0 => ("AuthorityRows$Collected", "signs", "[C", true)
  | _ => ("AuthorityRows$Collected", "count", "I", false)
def ft_C : Nat → FieldType := fun k => match k with
  | 0 => .array .char
  | _ => .int
theorem n_C : ∀ a, a < 2 → ∀ b, b < 2 → a ≠ b → (F_C a).2.1 ≠ (F_C b).2.1 := by decide +kernel
theorem ft_C_ok : ∀ k, k < 2 → parseFieldDescriptor (F_C k).2.2.1 = some (ft_C k) := by decide +kernel
def F_T : u_T := fun k => match k with
  | 0 => ("AuthorityRows$Text", "letters", "[C", true)
  | _ => ("AuthorityRows$Text", "length", "I", false)
def ft_T : Nat → FieldType := fun k => match k with
  | 0 => .array .char
  | _ => .int
theorem n_T : ∀ a, a < 2 → ∀ b, b < 2 → a ≠ b → (F_T a).2.1 ≠ (F_T b).2.1 := by decide +kernel
theorem ft_T_ok : ∀ k, k < 2 → parseFieldDescriptor (F_T k).2.2.1 = some (ft_T k) := by decide +kernel
def F_H : u_T := fun k => match k with
  | 0 => ("AuthorityRows$Headings", "kinds", "[I", true)
  | 1 => ("AuthorityRows$Headings", "live", "[Z", true)
  | 2 => ("AuthorityRows$Headings", "letters", "[C", true)
  | 3 => ("AuthorityRows$Headings", "lengths", "[I", true)
  | _ => ("AuthorityRows$Headings", "count", "I", false)
def ft_H : Nat → FieldType := fun k => match k with
  | 0 => .array .int
  | 1 => .array .boolean
  | 2 => .array .char
  | 3 => .array .int
  | _ => .int
theorem n_H : ∀ a, a < 5 → ∀ b, b < 5 → a ≠ b → (F_H a).2.1 ≠ (F_H b).2.1 := by decide +kernel
theorem ft_H_ok : ∀ k, k < 5 → parseFieldDescriptor (F_H k).2.2.1 = some (ft_H k) := by decide +kernel
def F_K : u_T := fun k => match k with
  | 0 => ("AuthorityRows$Links", "targets", "[J", true)
  | 1 => ("AuthorityRows$Links", "laterFrom", "[I", true)
  | 2 => ("AuthorityRows$Links", "laterTo", "[I", true)
  | 3 => ("AuthorityRows$Links", "laterDay", "[J", true)
  | _ => ("AuthorityRows$Links", "laterCount", "I", false)
def ft_K : Nat → FieldType := fun k => match k with
  | 0 => .array .long
  | 1 => .array .int
  | 2 => .array .int
  | 3 => .array .long
  | _ => .int
theorem n_K : ∀ a, a < 5 → ∀ b, b < 5 → a ≠ b → (F_K a).2.1 ≠ (F_K b).2.1 := by decide +kernel
theorem ft_K_ok : ∀ k, k < 5 → parseFieldDescriptor (F_K k).2.2.1 = some (ft_K k) := by decide +kernel
def F_R : u_T := fun k => match k with
  | 0 => ("AuthorityRows$Records", "headings", "[I", true)
  | 1 => ("AuthorityRows$Records", "days", "[J", true)
  | _ => ("AuthorityRows$Records", "count", "I", false)
def ft_R : Nat → FieldType := fun k => match k with
  | 0 => .array .int
  | 1 => .array .long
  | _ => .int
theorem n_R : ∀ a, a < 3 → ∀ b, b < 3 → a ≠ b → (F_R a).2.1 ≠ (F_R b).2.1 := by decide +kernel
theorem ft_R_ok : ∀ k, k < 3 → parseFieldDescriptor (F_R k).2.2.1 = some (ft_R k) := by decide +kernel
def F_Y : u_T := fun k => match k with
  | 0 => ("AuthorityRows$Way", "stops", "[I", true)
  | 1 => ("AuthorityRows$Way", "length", "I", false)
  | _ => ("AuthorityRows$Way", "awayFromEnd", "[J", true)
def ft_Y : Nat → FieldType := fun k => match k with
  | 0 => .array .int
  | 1 => .int
  | _ => .array .long
theorem n_Y : ∀ a, a < 3 → ∀ b, b < 3 → a ≠ b → (F_Y a).2.1 ≠ (F_Y b).2.1 := by decide +kernel
theorem ft_Y_ok : ∀ k, k < 3 → parseFieldDescriptor (F_Y k).2.2.1 = some (ft_Y k) := by decide +kernel
def F_A : u_T := fun k => match k with
  | 0 => ("AuthorityRows", "collected", "LAuthorityRows$Collected;", true)
  | 1 => ("AuthorityRows", "text", "LAuthorityRows$Text;", true)
  | 2 => ("AuthorityRows", "headings", "LAuthorityRows$Headings;", true)
  | 3 => ("AuthorityRows", "links", "LAuthorityRows$Links;", true)
  | 4 => ("AuthorityRows", "records", "LAuthorityRows$Records;", true)
  | _ => ("AuthorityRows", "closedWay", "LAuthorityRows$Way;", true)
def ft_A : Nat → FieldType := fun k => match k with
  | 0 => .object "AuthorityRows$Collected"
  | 1 => .object "AuthorityRows$Text"
  | 2 => .object "AuthorityRows$Headings"
  | 3 => .object "AuthorityRows$Links"
  | 4 => .object "AuthorityRows$Records"
  | _ => .object "AuthorityRows$Way"
theorem n_A : ∀ a, a < 6 → ∀ b, b < 6 → a ≠ b → (F_A a).2.1 ≠ (F_A b).2.1 := by decide +kernel
theorem ft_A_ok : ∀ k, k < 6 → parseFieldDescriptor (F_A k).2.2.1 = some (ft_A k) := by decide +kernel
def F_M : u_T := fun k => match k with
  | 0 => ("AuthorityRowsModel", "thrown", "I", false)
  | 1 => ("AuthorityRowsModel", "said", "[B", true)
  | 2 => ("AuthorityRowsModel", "size", "I", false)
  | 3 => ("AuthorityRowsModel", "headings", "I", false)
  | 4 => ("AuthorityRowsModel", "kinds", "[I", true)
  | 5 => ("AuthorityRowsModel", "live", "[Z", true)
  | 6 => ("AuthorityRowsModel", "texts", "[B", true)
  | 7 => ("AuthorityRowsModel", "sizes", "[I", true)
  | 8 => ("AuthorityRowsModel", "links", "I", false)
  | 9 => ("AuthorityRowsModel", "linkSort", "[I", true)
  | 10 => ("AuthorityRowsModel", "linkFrom", "[I", true)
  | 11 => ("AuthorityRowsModel", "linkTo", "[I", true)
  | 12 => ("AuthorityRowsModel", "linkDay", "[J", true)
  | 13 => ("AuthorityRowsModel", "records", "I", false)
  | 14 => ("AuthorityRowsModel", "linked", "[I", true)
  | 15 => ("AuthorityRowsModel", "recordDay", "[J", true)
  | 16 => ("AuthorityRowsModel", "way", "[I", true)
  | 17 => ("AuthorityRowsModel", "wayLength", "I", false)
  | 18 => ("AuthorityRowsModel", "distance", "[I", true)
  | _ => ("AuthorityRowsModel", "collected", "I", false)
def ft_M : Nat → FieldType := fun k => match k with
  | 0 => .int
  | 1 => .array .byte
  | 2 => .int
  | 3 => .int
  | 4 => .array .int
  | 5 => .array .boolean
  | 6 => .array .byte
  | 7 => .array .int
  | 8 => .int
  | 9 => .array .int
  | 10 => .array .int
  | 11 => .array .int
  | 12 => .array .long
  | 13 => .int
  | 14 => .array .int
  | 15 => .array .long
  | 16 => .array .int
  | 17 => .int
  | 18 => .array .int
  | _ => .int
theorem n_M : ∀ a, a < 20 → ∀ b, b < 20 → a ≠ b → (F_M a).2.1 ≠ (F_M b).2.1 := by decide +kernel
theorem ft_M_ok : ∀ k, k < 20 → parseFieldDescriptor (F_M k).2.2.1 = some (ft_M k) := by decide +kernel
abbrev classes : List vw_C := [(R_C, F_C, 2), (R_T, F_T, 2), (R_H, F_H, 5), (R_K, F_K, 5), (R_R, F_R, 3), (R_Y, F_Y, 3), (R_A, F_A, 6), (R_M, F_M, 20)]
def tb : List Cond := lw_tbl.filter goodWord
theorem tb_in {w : Cond} (h : w ∈ lw_tbl) (g : goodWord w = true) : w ∈ tb := List.mem_filter.mpr ⟨h, g⟩
theorem tb_lw {w : Cond} (h : w ∈ tb) : w ∈ lw_tbl := (List.mem_filter.mp h).1
theorem i0_C : ∀ w ∈ u_ws R_C F_C 2, w ∈ lw_tbl ∧ goodWord w = true := by decide +kernel
theorem i_C : ∀ w ∈ u_ws R_C F_C 2, w ∈ tb := fun w h => tb_in (i0_C w h).1 (i0_C w h).2
theorem i0_T : ∀ w ∈ u_ws R_T F_T 2, w ∈ lw_tbl ∧ goodWord w = true := by decide +kernel
theorem i_T : ∀ w ∈ u_ws R_T F_T 2, w ∈ tb := fun w h => tb_in (i0_T w h).1 (i0_T w h).2
theorem i0_H : ∀ w ∈ u_ws R_H F_H 5, w ∈ lw_tbl ∧ goodWord w = true := by decide +kernel
theorem i_H : ∀ w ∈ u_ws R_H F_H 5, w ∈ tb := fun w h => tb_in (i0_H w h).1 (i0_H w h).2
theorem i0_K : ∀ w ∈ u_ws R_K F_K 5, w ∈ lw_tbl ∧ goodWord w = true := by decide +kernel
theorem i_K : ∀ w ∈ u_ws R_K F_K 5, w ∈ tb := fun w h => tb_in (i0_K w h).1 (i0_K w h).2
theorem i0_R : ∀ w ∈ u_ws R_R F_R 3, w ∈ lw_tbl ∧ goodWord w = true := by decide +kernel
theorem i_R : ∀ w ∈ u_ws R_R F_R 3, w ∈ tb := fun w h => tb_in (i0_R w h).1 (i0_R w h).2
theorem i0_Y : ∀ w ∈ u_ws R_Y F_Y 3, w ∈ lw_tbl ∧ goodWord w = true := by decide +kernel
theorem i_Y : ∀ w ∈ u_ws R_Y F_Y 3, w ∈ tb := fun w h => tb_in (i0_Y w h).1 (i0_Y w h).2
theorem i0_A : ∀ w ∈ u_ws R_A F_A 6, w ∈ lw_tbl ∧ goodWord w = true := by decide +kernel
theorem i_A : ∀ w ∈ u_ws R_A F_A 6, w ∈ tb := fun w h => tb_in (i0_A w h).1 (i0_A w h).2
theorem i0_M : ∀ w ∈ u_ws R_M F_M 20, w ∈ lw_tbl ∧ goodWord w = true := by decide +kernel
theorem i_M : ∀ w ∈ u_ws R_M F_M 20, w ∈ tb := fun w h => tb_in (i0_M w h).1 (i0_M w h).2
abbrev b_A_init : ByteArray := prog_1_method_1_code
def y_A_init : MethodName := ⟨R_A, "<init>", "()V"⟩
abbrev b_C_init : ByteArray := prog_2_method_1_code
def y_C_init : MethodName := ⟨R_C, "<init>", "()V"⟩
abbrev b_T_init : ByteArray := prog_6_method_1_code
def y_T_init : MethodName := ⟨R_T, "<init>", "()V"⟩
abbrev b_H_init : ByteArray := prog_3_method_1_code
def y_H_init : MethodName := ⟨R_H, "<init>", "()V"⟩
abbrev b_K_init : ByteArray := prog_4_method_1_code
def y_K_init : MethodName := ⟨R_K, "<init>", "()V"⟩
abbrev b_R_init : ByteArray := prog_5_method_1_code
def y_R_init : MethodName := ⟨R_R, "<init>", "()V"⟩
abbrev b_Y_init : ByteArray := prog_7_method_1_code
def y_Y_init : MethodName := ⟨R_Y, "<init>", "()V"⟩
abbrev b_A_sign : ByteArray := prog_1_method_2_code
def y_A_sign : MethodName := ⟨R_A, "sign", "(I)V"⟩
abbrev b_C_add : ByteArray := prog_2_method_2_code
def y_C_add : MethodName := ⟨R_C, "add", "(C)V"⟩
abbrev b_A_heading : ByteArray := prog_1_method_3_code
def y_A_heading : MethodName := ⟨R_A, "heading", "(I)I"⟩
abbrev b_C_moveTo : ByteArray := prog_2_method_3_code
def y_C_moveTo : MethodName := ⟨R_C, "moveTo", "(LAuthorityRows$Text;)Z"⟩
abbrev b_T_clear : ByteArray := prog_6_method_2_code
def y_T_clear : MethodName := ⟨R_T, "clear", "()V"⟩
abbrev b_C_isLetterOrDigit : ByteArray := prog_2_method_4_code
def y_C_isLetterOrDigit : MethodName := ⟨R_C, "isLetterOrDigit", "(C)Z"⟩
abbrev b_T_add : ByteArray := prog_6_method_3_code
def y_T_add : MethodName := ⟨R_T, "add", "(C)V"⟩
abbrev b_A_addHeading : ByteArray := prog_1_method_17_code
def y_A_addHeading : MethodName := ⟨R_A, "addHeading", "(I)I"⟩
abbrev b_H_isFull : ByteArray := prog_3_method_2_code
def y_H_isFull : MethodName := ⟨R_H, "isFull", "()Z"⟩
abbrev b_H_firstOfKind : ByteArray := prog_3_method_11_code
def y_H_firstOfKind : MethodName := ⟨R_H, "firstOfKind", "(ILAuthorityRows$Text;I)I"⟩
abbrev b_H_hasText : ByteArray := prog_3_method_12_code
def y_H_hasText : MethodName := ⟨R_H, "hasText", "(ILAuthorityRows$Text;)Z"⟩
abbrev b_H_small : ByteArray := prog_3_method_13_code
def y_H_small : MethodName := ⟨R_H, "small", "(C)I"⟩
abbrev b_H_add : ByteArray := prog_3_method_6_code
def y_H_add : MethodName := ⟨R_H, "add", "(ILAuthorityRows$Text;)I"⟩
abbrev b_H_setText : ByteArray := prog_3_method_8_code
def y_H_setText : MethodName := ⟨R_H, "setText", "(ILAuthorityRows$Text;)V"⟩
abbrev b_H_isThere : ByteArray := prog_3_method_3_code
def y_H_isThere : MethodName := ⟨R_H, "isThere", "(I)Z"⟩
abbrev b_A_link : ByteArray := prog_1_method_4_code
def y_A_link : MethodName := ⟨R_A, "link", "(IIIJ)I"⟩
abbrev b_H_isLive : ByteArray := prog_3_method_4_code
def y_H_isLive : MethodName := ⟨R_H, "isLive", "(I)Z"⟩
abbrev b_K_has : ByteArray := prog_4_method_3_code
def y_K_has : MethodName := ⟨R_K, "has", "(III)Z"⟩
abbrev b_K_targetsOf : ByteArray := prog_4_method_4_code
def y_K_targetsOf : MethodName := ⟨R_K, "targetsOf", "(II)J"⟩
abbrev b_K_isPlace : ByteArray := prog_4_method_10_code
def y_K_isPlace : MethodName := ⟨R_K, "isPlace", "(II)Z"⟩
abbrev b_A_holds : ByteArray := prog_1_method_22_code
def y_A_holds : MethodName := ⟨R_A, "holds", "(JI)Z"⟩
abbrev b_A_setOf : ByteArray := prog_1_method_21_code
def y_A_setOf : MethodName := ⟨R_A, "setOf", "(I)J"⟩
abbrev b_K_isFull : ByteArray := prog_4_method_2_code
def y_K_isFull : MethodName := ⟨R_K, "isFull", "()Z"⟩
abbrev b_A_wouldChainSees : ByteArray := prog_1_method_18_code
def y_A_wouldChainSees : MethodName := ⟨R_A, "wouldChainSees", "(II)Z"⟩
abbrev b_K_sourcesOf : ByteArray := prog_4_method_6_code
def y_K_sourcesOf : MethodName := ⟨R_K, "sourcesOf", "(IJ)J"⟩
abbrev b_Y_lay : ByteArray := prog_7_method_3_code
def y_Y_lay : MethodName := ⟨R_Y, "lay", "(LAuthorityRows$Links;III)Z"⟩
abbrev b_Y_measure : ByteArray := prog_7_method_4_code
def y_Y_measure : MethodName := ⟨R_Y, "measure", "(LAuthorityRows$Links;III)I"⟩
abbrev b_Y_walk : ByteArray := prog_7_method_5_code
def y_Y_walk : MethodName := ⟨R_Y, "walk", "(LAuthorityRows$Links;III)V"⟩
abbrev b_A_nthOf : ByteArray := prog_1_method_23_code
def y_A_nthOf : MethodName := ⟨R_A, "nthOf", "(JI)I"⟩
abbrev b_K_add : ByteArray := prog_4_method_7_code
def y_K_add : MethodName := ⟨R_K, "add", "(IIIJ)V"⟩
abbrev b_K_putLater : ByteArray := prog_4_method_12_code
def y_K_putLater : MethodName := ⟨R_K, "putLater", "(IIIJ)V"⟩
abbrev b_A_rename : ByteArray := prog_1_method_5_code
def y_A_rename : MethodName := ⟨R_A, "rename", "(I)I"⟩
abbrev b_H_kindOf : ByteArray := prog_3_method_5_code
def y_H_kindOf : MethodName := ⟨R_H, "kindOf", "(I)I"⟩
abbrev b_R_countOf : ByteArray := prog_5_method_5_code
def y_R_countOf : MethodName := ⟨R_R, "countOf", "(I)I"⟩
abbrev b_A_find : ByteArray := prog_1_method_6_code
def y_A_find : MethodName := ⟨R_A, "find", "()I"⟩
abbrev b_H_firstOfAnyKind : ByteArray := prog_3_method_10_code
def y_H_firstOfAnyKind : MethodName := ⟨R_H, "firstOfAnyKind", "(LAuthorityRows$Text;)I"⟩
abbrev b_A_see : ByteArray := prog_1_method_7_code
def y_A_see : MethodName := ⟨R_A, "see", "(II)I"⟩
abbrev b_A_broader : ByteArray := prog_1_method_8_code
def y_A_broader : MethodName := ⟨R_A, "broader", "(II)I"⟩
abbrev b_J_bitCount : ByteArray := prog_10_method_50_code
def y_J_bitCount : MethodName := ⟨R_J, "bitCount", "(J)I"⟩
abbrev b_K_targetsOfAll : ByteArray := prog_4_method_5_code
def y_K_targetsOfAll : MethodName := ⟨R_K, "targetsOfAll", "(IJ)J"⟩
abbrev b_A_delete : ByteArray := prog_1_method_9_code
def y_A_delete : MethodName := ⟨R_A, "delete", "(I)I"⟩
abbrev b_H_end : ByteArray := prog_3_method_7_code
def y_H_end : MethodName := ⟨R_H, "end", "(I)V"⟩
abbrev b_K_removeAllOf : ByteArray := prog_4_method_8_code
def y_K_removeAllOf : MethodName := ⟨R_K, "removeAllOf", "(I)V"⟩
abbrev b_K_removeLaterOf : ByteArray := prog_4_method_11_code
def y_K_removeLaterOf : MethodName := ⟨R_K, "removeLaterOf", "(I)V"⟩
abbrev b_A_split : ByteArray := prog_1_method_10_code
def y_A_split : MethodName := ⟨R_A, "split", "(IJ)I"⟩
abbrev b_R_move : ByteArray := prog_5_method_6_code
def y_R_move : MethodName := ⟨R_R, "move", "(IIJ)V"⟩
abbrev b_A_shown : ByteArray := prog_1_method_11_code
def y_A_shown : MethodName := ⟨R_A, "shown", "(IJ)I"⟩
abbrev b_A_usedFormOf : ByteArray := prog_1_method_19_code
def y_A_usedFormOf : MethodName := ⟨R_A, "usedFormOf", "(I)I"⟩
abbrev b_A_formOn : ByteArray := prog_1_method_20_code
def y_A_formOn : MethodName := ⟨R_A, "formOn", "(IJ)I"⟩
abbrev b_K_latestOn : ByteArray := prog_4_method_9_code
def y_K_latestOn : MethodName := ⟨R_K, "latestOn", "(IJ)I"⟩
abbrev b_A_record : ByteArray := prog_1_method_12_code
def y_A_record : MethodName := ⟨R_A, "record", "(IJ)I"⟩
abbrev b_R_isFull : ByteArray := prog_5_method_2_code
def y_R_isFull : MethodName := ⟨R_R, "isFull", "()Z"⟩
abbrev b_R_add : ByteArray := prog_5_method_3_code
def y_R_add : MethodName := ⟨R_R, "add", "(IJ)I"⟩
abbrev b_A_linked : ByteArray := prog_1_method_13_code
def y_A_linked : MethodName := ⟨R_A, "linked", "(I)I"⟩
abbrev b_R_headingOf : ByteArray := prog_5_method_4_code
def y_R_headingOf : MethodName := ⟨R_R, "headingOf", "(I)I"⟩
abbrev b_A_form : ByteArray := prog_1_method_14_code
def y_A_form : MethodName := ⟨R_A, "form", "(IJ)I"⟩
abbrev b_A_ring : ByteArray := prog_1_method_15_code
def y_A_ring : MethodName := ⟨R_A, "ring", "(I)I"⟩
abbrev b_Y_at : ByteArray := prog_7_method_2_code
def y_Y_at : MethodName := ⟨R_Y, "at", "(I)I"⟩
abbrev b_A_letter : ByteArray := prog_1_method_16_code
def y_A_letter : MethodName := ⟨R_A, "letter", "(II)I"⟩
abbrev b_H_letterOf : ByteArray := prog_3_method_9_code
def y_H_letterOf : MethodName := ⟨R_H, "letterOf", "(II)I"⟩
abbrev b_M_init : ByteArray := prog_9_method_1_code
def y_M_init : MethodName := ⟨R_M, "<init>", "()V"⟩
abbrev b_M_sign : ByteArray := prog_9_method_3_code
def y_M_sign : MethodName := ⟨R_M, "sign", "(I)V"⟩
abbrev b_M_heading : ByteArray := prog_9_method_11_code
def y_M_heading : MethodName := ⟨R_M, "heading", "(I)I"⟩
abbrev b_M_takes : ByteArray := prog_9_method_4_code
def y_M_takes : MethodName := ⟨R_M, "takes", "()Z"⟩
abbrev b_M_make : ByteArray := prog_9_method_10_code
def y_M_make : MethodName := ⟨R_M, "make", "(I)I"⟩
abbrev b_M_first : ByteArray := prog_9_method_8_code
def y_M_first : MethodName := ⟨R_M, "first", "(II)I"⟩
abbrev b_M_hasText : ByteArray := prog_9_method_6_code
def y_M_hasText : MethodName := ⟨R_M, "hasText", "(I)Z"⟩
abbrev b_M_small : ByteArray := prog_9_method_5_code
def y_M_small : MethodName := ⟨R_M, "small", "(I)I"⟩
abbrev b_M_lay : ByteArray := prog_9_method_7_code
def y_M_lay : MethodName := ⟨R_M, "lay", "(I)V"⟩
abbrev b_M_find : ByteArray := prog_9_method_12_code
def y_M_find : MethodName := ⟨R_M, "find", "()I"⟩
abbrev b_M_rename : ByteArray := prog_9_method_14_code
def y_M_rename : MethodName := ⟨R_M, "rename", "(I)I"⟩
abbrev b_M_isLive : ByteArray := prog_9_method_9_code
def y_M_isLive : MethodName := ⟨R_M, "isLive", "(I)Z"⟩
abbrev b_M_linkedTo : ByteArray := prog_9_method_13_code
def y_M_linkedTo : MethodName := ⟨R_M, "linkedTo", "(I)I"⟩
abbrev b_M_letter : ByteArray := prog_9_method_15_code
def y_M_letter : MethodName := ⟨R_M, "letter", "(II)I"⟩
abbrev b_M_link : ByteArray := prog_9_method_21_code
def y_M_link : MethodName := ⟨R_M, "link", "(IIIJ)I"⟩
abbrev b_M_has : ByteArray := prog_9_method_17_code
def y_M_has : MethodName := ⟨R_M, "has", "(III)Z"⟩
abbrev b_M_is : ByteArray := prog_9_method_16_code
def y_M_is : MethodName := ⟨R_M, "is", "(IIII)Z"⟩
abbrev b_M_measure : ByteArray := prog_9_method_19_code
def y_M_measure : MethodName := ⟨R_M, "measure", "(IIZ)V"⟩
abbrev b_M_ways : ByteArray := prog_9_method_20_code
def y_M_ways : MethodName := ⟨R_M, "ways", "(III)V"⟩
abbrev b_M_add : ByteArray := prog_9_method_18_code
def y_M_add : MethodName := ⟨R_M, "add", "(IIIJ)V"⟩
abbrev b_M_ring : ByteArray := prog_9_method_22_code
def y_M_ring : MethodName := ⟨R_M, "ring", "(I)I"⟩
abbrev b_M_see : ByteArray := prog_9_method_23_code
def y_M_see : MethodName := ⟨R_M, "see", "(II)I"⟩
abbrev b_M_broader : ByteArray := prog_9_method_24_code
def y_M_broader : MethodName := ⟨R_M, "broader", "(II)I"⟩
abbrev b_M_delete : ByteArray := prog_9_method_25_code
def y_M_delete : MethodName := ⟨R_M, "delete", "(I)I"⟩
abbrev b_M_split : ByteArray := prog_9_method_26_code
def y_M_split : MethodName := ⟨R_M, "split", "(IJ)I"⟩
abbrev b_M_form : ByteArray := prog_9_method_29_code
def y_M_form : MethodName := ⟨R_M, "form", "(IJ)I"⟩
abbrev b_M_formOf : ByteArray := prog_9_method_28_code
def y_M_formOf : MethodName := ⟨R_M, "formOf", "(IJ)I"⟩
abbrev b_M_shown : ByteArray := prog_9_method_30_code
def y_M_shown : MethodName := ⟨R_M, "shown", "(IJ)I"⟩
abbrev b_M_used : ByteArray := prog_9_method_27_code
def y_M_used : MethodName := ⟨R_M, "used", "(I)I"⟩
abbrev b_M_record : ByteArray := prog_9_method_31_code
def y_M_record : MethodName := ⟨R_M, "record", "(IJ)I"⟩
abbrev b_M_linked : ByteArray := prog_9_method_32_code
def y_M_linked : MethodName := ⟨R_M, "linked", "(I)I"⟩
abbrev b_L_law : ByteArray := code
/-- what a method is, for its callers -/
def MF (y : MethodName) (b : ByteArray) (n : Nat) (ret : Option FieldType) (k : Nat) : Prop := Cond.code y b n ret ∈ tb ∧ Cond.initialized y.cls ∈ tb ∧ y.cls ≠ "java/lang/invoke/MethodHandle" ∧ y.cls ≠ "java/lang/invoke/VarHandle" ∧ (parseMethodDescriptor y.desc).map (fun d => d.parameters.length) = some k
def MFi (y : MethodName) (b : ByteArray) (n : Nat) (ret : Option FieldType) (k : Nat) : Prop := MF y b n ret k ∧ Cond.instanceMethod y ∈ tb
def MFv (y : MethodName) (b : ByteArray) (n : Nat) (ret : Option FieldType) (k : Nat) : Prop := MF y b n ret k ∧ Cond.instanceMethod y ∈ tb ∧ Cond.selects y.cls y y ∈ tb
def MFs (y : MethodName) (b : ByteArray) (n : Nat) (ret : Option FieldType) (k : Nat) : Prop := MF y b n ret k ∧ Cond.static y ∈ tb
set_option maxRecDepth 100000 in
theorem f_A_init : MFi y_A_init b_A_init 1 none 0 := ⟨⟨tb_in (List.mem_of_getElem? (i := 37) rfl) rfl, tb_in (List.mem_of_getElem? (i := 24) (by decide +kernel)) (by decide +kernel), by decide +kernel, by decide +kernel, by decide +kernel⟩, tb_in (List.mem_of_getElem? (i := 36) (by decide +kernel)) (by decide +kernel)⟩
set_option maxRecDepth 100000 in
theorem f_C_init : MFi y_C_init b_C_init 1 none 0 := ⟨⟨tb_in (List.mem_of_getElem? (i := 45) rfl) rfl, tb_in (List.mem_of_getElem? (i := 25) (by decide +kernel)) (by decide +kernel), by decide +kernel, by decide +kernel, by decide +kernel⟩, tb_in (List.mem_of_getElem? (i := 44) (by decide +kernel)) (by decide +kernel)⟩
set_option maxRecDepth 100000 in
theorem f_T_init : MFi y_T_init b_T_init 1 none 0 := ⟨⟨tb_in (List.mem_of_getElem? (i := 59) rfl) rfl, tb_in (List.mem_of_getElem? (i := 26) (by decide +kernel)) (by decide +kernel), by decide +kernel, by decide +kernel, by decide +kernel⟩, tb_in (List.mem_of_getElem? (i := 58) (by decide +kernel)) (by decide +kernel)⟩
set_option maxRecDepth 100000 in
theorem f_H_init : MFi y_H_init b_H_init 1 none 0 := ⟨⟨tb_in (List.mem_of_getElem? (i := 74) rfl) rfl, tb_in (List.mem_of_getElem? (i := 27) (by decide +kernel)) (by decide +kernel), by decide +kernel, by decide +kernel, by decide +kernel⟩, tb_in (List.mem_of_getElem? (i := 73) (by decide +kernel)) (by decide +kernel)⟩
set_option maxRecDepth 100000 in
theorem f_K_init : MFi y_K_init b_K_init 1 none 0 := ⟨⟨tb_in (List.mem_of_getElem? (i := 98) rfl) rfl, tb_in (List.mem_of_getElem? (i := 28) (by decide +kernel)) (by decide +kernel), by decide +kernel, by decide +kernel, by decide +kernel⟩, tb_in (List.mem_of_getElem? (i := 97) (by decide +kernel)) (by decide +kernel)⟩
set_option maxRecDepth 100000 in
theorem f_R_init : MFi y_R_init b_R_init 1 none 0 := ⟨⟨tb_in (List.mem_of_getElem? (i := 121) rfl) rfl, tb_in (List.mem_of_getElem? (i := 29) (by decide +kernel)) (by decide +kernel), by decide +kernel, by decide +kernel, by decide +kernel⟩, tb_in (List.mem_of_getElem? (i := 120) (by decide +kernel)) (by decide +kernel)⟩
set_option maxRecDepth 100000 in
theorem f_Y_init : MFi y_Y_init b_Y_init 1 none 0 := ⟨⟨tb_in (List.mem_of_getElem? (i := 137) rfl) rfl, tb_in (List.mem_of_getElem? (i := 30) (by decide +kernel)) (by decide +kernel), by decide +kernel, by decide +kernel, by decide +kernel⟩, tb_in (List.mem_of_getElem? (i := 136) (by decide +kernel)) (by decide +kernel)⟩
set_option maxRecDepth 100000 in
theorem f_A_sign : MFv y_A_sign b_A_sign 2 none 1 := ⟨⟨tb_in (List.mem_of_getElem? (i := 171) rfl) rfl, tb_in (List.mem_of_getElem? (i := 24) (by decide +kernel)) (by decide +kernel), by decide +kernel, by decide +kernel, by decide +kernel⟩, tb_in (List.mem_of_getElem? (i := 169) (by decide +kernel)) (by decide +kernel), tb_in (List.mem_of_getElem? (i := 170) (by decide +kernel)) (by decide +kernel)⟩
set_option maxRecDepth 100000 in
theorem f_C_add : MFv y_C_add b_C_add 2 none 1 := ⟨⟨tb_in (List.mem_of_getElem? (i := 175) rfl) rfl, tb_in (List.mem_of_getElem? (i := 25) (by decide +kernel)) (by decide +kernel), by decide +kernel, by decide +kernel, by decide +kernel⟩, tb_in (List.mem_of_getElem? (i := 173) (by decide +kernel)) (by decide +kernel), tb_in (List.mem_of_getElem? (i := 174) (by decide +kernel)) (by decide +kernel)⟩
set_option maxRecDepth 100000 in
theorem f_A_heading : MFv y_A_heading b_A_heading 2 (some .int) 1 := ⟨⟨tb_in (List.mem_of_getElem? (i := 179) rfl) rfl, tb_in (List.mem_of_getElem? (i := 24) (by decide +kernel)) (by decide +kernel), by decide +kernel, by decide +kernel, by decide +kernel⟩, tb_in (List.mem_of_getElem? (i := 177) (by decide +kernel)) (by decide +kernel), tb_in (List.mem_of_getElem? (i := 178) (by decide +kernel)) (by decide +kernel)⟩
set_option maxRecDepth 100000 in
theorem f_C_moveTo : MFv y_C_moveTo b_C_moveTo 4 (some .boolean) 1 := ⟨⟨tb_in (List.mem_of_getElem? (i := 183) rfl) rfl, tb_in (List.mem_of_getElem? (i := 25) (by decide +kernel)) (by decide +kernel), by decide +kernel, by decide +kernel, by decide +kernel⟩, tb_in (List.mem_of_getElem? (i := 181) (by decide +kernel)) (by decide +kernel), tb_in (List.mem_of_getElem? (i := 182) (by decide +kernel)) (by decide +kernel)⟩
set_option maxRecDepth 100000 in
theorem f_T_clear : MFv y_T_clear b_T_clear 1 none 0 := ⟨⟨tb_in (List.mem_of_getElem? (i := 187) rfl) rfl, tb_in (List.mem_of_getElem? (i := 26) (by decide +kernel)) (by decide +kernel), by decide +kernel, by decide +kernel, by decide +kernel⟩, tb_in (List.mem_of_getElem? (i := 185) (by decide +kernel)) (by decide +kernel), tb_in (List.mem_of_getElem? (i := 186) (by decide +kernel)) (by decide +kernel)⟩
set_option maxRecDepth 100000 in
theorem f_C_isLetterOrDigit : MFs y_C_isLetterOrDigit b_C_isLetterOrDigit 1 (some .boolean) 1 := ⟨⟨tb_in (List.mem_of_getElem? (i := 190) rfl) rfl, tb_in (List.mem_of_getElem? (i := 25) (by decide +kernel)) (by decide +kernel), by decide +kernel, by decide +kernel, by decide +kernel⟩, tb_in (List.mem_of_getElem? (i := 189) (by decide +kernel)) (by decide +kernel)⟩
set_option maxRecDepth 100000 in
theorem f_T_add : MFv y_T_add b_T_add 2 none 1 := ⟨⟨tb_in (List.mem_of_getElem? (i := 194) rfl) rfl, tb_in (List.mem_of_getElem? (i := 26) (by decide +kernel)) (by decide +kernel), by decide +kernel, by decide +kernel, by decide +kernel⟩, tb_in (List.mem_of_getElem? (i := 192) (by decide +kernel)) (by decide +kernel), tb_in (List.mem_of_getElem? (i := 193) (by decide +kernel)) (by decide +kernel)⟩
set_option maxRecDepth 100000 in
theorem f_A_addHeading : MFv y_A_addHeading b_A_addHeading 3 (some .int) 1 := ⟨⟨tb_in (List.mem_of_getElem? (i := 198) rfl) rfl, tb_in (List.mem_of_getElem? (i := 24) (by decide +kernel)) (by decide +kernel), by decide +kernel, by decide +kernel, by decide +kernel⟩, tb_in (List.mem_of_getElem? (i := 197) (by decide +kernel)) (by decide +kernel), tb_in (List.mem_of_getElem? (i := 0) (by decide +kernel)) (by decide +kernel)⟩
set_option maxRecDepth 100000 in
theorem f_H_isFull : MFv y_H_isFull b_H_isFull 1 (some .boolean) 0 := ⟨⟨tb_in (List.mem_of_getElem? (i := 202) rfl) rfl, tb_in (List.mem_of_getElem? (i := 27) (by decide +kernel)) (by decide +kernel), by decide +kernel, by decide +kernel, by decide +kernel⟩, tb_in (List.mem_of_getElem? (i := 200) (by decide +kernel)) (by decide +kernel), tb_in (List.mem_of_getElem? (i := 201) (by decide +kernel)) (by decide +kernel)⟩
set_option maxRecDepth 100000 in
theorem f_H_firstOfKind : MFv y_H_firstOfKind b_H_firstOfKind 5 (some .int) 3 := ⟨⟨tb_in (List.mem_of_getElem? (i := 206) rfl) rfl, tb_in (List.mem_of_getElem? (i := 27) (by decide +kernel)) (by decide +kernel), by decide +kernel, by decide +kernel, by decide +kernel⟩, tb_in (List.mem_of_getElem? (i := 204) (by decide +kernel)) (by decide +kernel), tb_in (List.mem_of_getElem? (i := 205) (by decide +kernel)) (by decide +kernel)⟩
set_option maxRecDepth 100000 in
theorem f_H_hasText : MFv y_H_hasText b_H_hasText 4 (some .boolean) 2 := ⟨⟨tb_in (List.mem_of_getElem? (i := 210) rfl) rfl, tb_in (List.mem_of_getElem? (i := 27) (by decide +kernel)) (by decide +kernel), by decide +kernel, by decide +kernel, by decide +kernel⟩, tb_in (List.mem_of_getElem? (i := 209) (by decide +kernel)) (by decide +kernel), tb_in (List.mem_of_getElem? (i := 1) (by decide +kernel)) (by decide +kernel)⟩
set_option maxRecDepth 100000 in
theorem f_H_small : MFs y_H_small b_H_small 1 (some .int) 1 := ⟨⟨tb_in (List.mem_of_getElem? (i := 213) rfl) rfl, tb_in (List.mem_of_getElem? (i := 27) (by decide +kernel)) (by decide +kernel), by decide +kernel, by decide +kernel, by decide +kernel⟩, tb_in (List.mem_of_getElem? (i := 212) (by decide +kernel)) (by decide +kernel)⟩
set_option maxRecDepth 100000 in
theorem f_H_add : MFv y_H_add b_H_add 3 (some .int) 2 := ⟨⟨tb_in (List.mem_of_getElem? (i := 217) rfl) rfl, tb_in (List.mem_of_getElem? (i := 27) (by decide +kernel)) (by decide +kernel), by decide +kernel, by decide +kernel, by decide +kernel⟩, tb_in (List.mem_of_getElem? (i := 215) (by decide +kernel)) (by decide +kernel), tb_in (List.mem_of_getElem? (i := 216) (by decide +kernel)) (by decide +kernel)⟩
set_option maxRecDepth 100000 in
theorem f_H_setText : MFv y_H_setText b_H_setText 4 none 2 := ⟨⟨tb_in (List.mem_of_getElem? (i := 222) rfl) rfl, tb_in (List.mem_of_getElem? (i := 27) (by decide +kernel)) (by decide +kernel), by decide +kernel, by decide +kernel, by decide +kernel⟩, tb_in (List.mem_of_getElem? (i := 220) (by decide +kernel)) (by decide +kernel), tb_in (List.mem_of_getElem? (i := 221) (by decide +kernel)) (by decide +kernel)⟩
set_option maxRecDepth 100000 in
theorem f_H_isThere : MFv y_H_isThere b_H_isThere 2 (some .boolean) 1 := ⟨⟨tb_in (List.mem_of_getElem? (i := 226) rfl) rfl, tb_in (List.mem_of_getElem? (i := 27) (by decide +kernel)) (by decide +kernel), by decide +kernel, by decide +kernel, by decide +kernel⟩, tb_in (List.mem_of_getElem? (i := 224) (by decide +kernel)) (by decide +kernel), tb_in (List.mem_of_getElem? (i := 225) (by decide +kernel)) (by decide +kernel)⟩
set_option maxRecDepth 100000 in
theorem f_A_link : MFv y_A_link b_A_link 6 (some .int) 4 := ⟨⟨tb_in (List.mem_of_getElem? (i := 230) rfl) rfl, tb_in (List.mem_of_getElem? (i := 24) (by decide +kernel)) (by decide +kernel), by decide +kernel, by decide +kernel, by decide +kernel⟩, tb_in (List.mem_of_getElem? (i := 228) (by decide +kernel)) (by decide +kernel), tb_in (List.mem_of_getElem? (i := 229) (by decide +kernel)) (by decide +kernel)⟩
set_option maxRecDepth 100000 in
theorem f_H_isLive : MFv y_H_isLive b_H_isLive 2 (some .boolean) 1 := ⟨⟨tb_in (List.mem_of_getElem? (i := 234) rfl) rfl, tb_in (List.mem_of_getElem? (i := 27) (by decide +kernel)) (by decide +kernel), by decide +kernel, by decide +kernel, by decide +kernel⟩, tb_in (List.mem_of_getElem? (i := 232) (by decide +kernel)) (by decide +kernel), tb_in (List.mem_of_getElem? (i := 233) (by decide +kernel)) (by decide +kernel)⟩
set_option maxRecDepth 100000 in
theorem f_K_has : MFv y_K_has b_K_has 4 (some .boolean) 3 := ⟨⟨tb_in (List.mem_of_getElem? (i := 238) rfl) rfl, tb_in (List.mem_of_getElem? (i := 28) (by decide +kernel)) (by decide +kernel), by decide +kernel, by decide +kernel, by decide +kernel⟩, tb_in (List.mem_of_getElem? (i := 236) (by decide +kernel)) (by decide +kernel), tb_in (List.mem_of_getElem? (i := 237) (by decide +kernel)) (by decide +kernel)⟩
set_option maxRecDepth 100000 in
theorem f_K_targetsOf : MFv y_K_targetsOf b_K_targetsOf 3 (some .long) 2 := ⟨⟨tb_in (List.mem_of_getElem? (i := 242) rfl) rfl, tb_in (List.mem_of_getElem? (i := 28) (by decide +kernel)) (by decide +kernel), by decide +kernel, by decide +kernel, by decide +kernel⟩, tb_in (List.mem_of_getElem? (i := 240) (by decide +kernel)) (by decide +kernel), tb_in (List.mem_of_getElem? (i := 241) (by decide +kernel)) (by decide +kernel)⟩
set_option maxRecDepth 100000 in
theorem f_K_isPlace : MFs y_K_isPlace b_K_isPlace 2 (some .boolean) 2 := ⟨⟨tb_in (List.mem_of_getElem? (i := 245) rfl) rfl, tb_in (List.mem_of_getElem? (i := 28) (by decide +kernel)) (by decide +kernel), by decide +kernel, by decide +kernel, by decide +kernel⟩, tb_in (List.mem_of_getElem? (i := 244) (by decide +kernel)) (by decide +kernel)⟩
set_option maxRecDepth 100000 in
theorem f_A_holds : MFs y_A_holds b_A_holds 3 (some .boolean) 2 := ⟨⟨tb_in (List.mem_of_getElem? (i := 248) rfl) rfl, tb_in (List.mem_of_getElem? (i := 24) (by decide +kernel)) (by decide +kernel), by decide +kernel, by decide +kernel, by decide +kernel⟩, tb_in (List.mem_of_getElem? (i := 247) (by decide +kernel)) (by decide +kernel)⟩
set_option maxRecDepth 100000 in
theorem f_A_setOf : MFs y_A_setOf b_A_setOf 1 (some .long) 1 := ⟨⟨tb_in (List.mem_of_getElem? (i := 251) rfl) rfl, tb_in (List.mem_of_getElem? (i := 24) (by decide +kernel)) (by decide +kernel), by decide +kernel, by decide +kernel, by decide +kernel⟩, tb_in (List.mem_of_getElem? (i := 250) (by decide +kernel)) (by decide +kernel)⟩
set_option maxRecDepth 100000 in
theorem f_K_isFull : MFv y_K_isFull b_K_isFull 1 (some .boolean) 0 := ⟨⟨tb_in (List.mem_of_getElem? (i := 255) rfl) rfl, tb_in (List.mem_of_getElem? (i := 28) (by decide +kernel)) (by decide +kernel), by decide +kernel, by decide +kernel, by decide +kernel⟩, tb_in (List.mem_of_getElem? (i := 253) (by decide +kernel)) (by decide +kernel), tb_in (List.mem_of_getElem? (i := 254) (by decide +kernel)) (by decide +kernel)⟩
set_option maxRecDepth 100000 in
theorem f_A_wouldChainSees : MFv y_A_wouldChainSees b_A_wouldChainSees 3 (some .boolean) 2 := ⟨⟨tb_in (List.mem_of_getElem? (i := 259) rfl) rfl, tb_in (List.mem_of_getElem? (i := 24) (by decide +kernel)) (by decide +kernel), by decide +kernel, by decide +kernel, by decide +kernel⟩, tb_in (List.mem_of_getElem? (i := 258) (by decide +kernel)) (by decide +kernel), tb_in (List.mem_of_getElem? (i := 2) (by decide +kernel)) (by decide +kernel)⟩
set_option maxRecDepth 100000 in
theorem f_K_sourcesOf : MFv y_K_sourcesOf b_K_sourcesOf 7 (some .long) 2 := ⟨⟨tb_in (List.mem_of_getElem? (i := 264) rfl) rfl, tb_in (List.mem_of_getElem? (i := 28) (by decide +kernel)) (by decide +kernel), by decide +kernel, by decide +kernel, by decide +kernel⟩, tb_in (List.mem_of_getElem? (i := 262) (by decide +kernel)) (by decide +kernel), tb_in (List.mem_of_getElem? (i := 263) (by decide +kernel)) (by decide +kernel)⟩
set_option maxRecDepth 100000 in
theorem f_Y_lay : MFv y_Y_lay b_Y_lay 6 (some .boolean) 4 := ⟨⟨tb_in (List.mem_of_getElem? (i := 269) rfl) rfl, tb_in (List.mem_of_getElem? (i := 30) (by decide +kernel)) (by decide +kernel), by decide +kernel, by decide +kernel, by decide +kernel⟩, tb_in (List.mem_of_getElem? (i := 267) (by decide +kernel)) (by decide +kernel), tb_in (List.mem_of_getElem? (i := 268) (by decide +kernel)) (by decide +kernel)⟩
set_option maxRecDepth 100000 in
theorem f_Y_measure : MFv y_Y_measure b_Y_measure 8 (some .int) 4 := ⟨⟨tb_in (List.mem_of_getElem? (i := 273) rfl) rfl, tb_in (List.mem_of_getElem? (i := 30) (by decide +kernel)) (by decide +kernel), by decide +kernel, by decide +kernel, by decide +kernel⟩, tb_in (List.mem_of_getElem? (i := 272) (by decide +kernel)) (by decide +kernel), tb_in (List.mem_of_getElem? (i := 3) (by decide +kernel)) (by decide +kernel)⟩
set_option maxRecDepth 100000 in
theorem f_Y_walk : MFv y_Y_walk b_Y_walk 8 none 4 := ⟨⟨tb_in (List.mem_of_getElem? (i := 281) rfl) rfl, tb_in (List.mem_of_getElem? (i := 30) (by decide +kernel)) (by decide +kernel), by decide +kernel, by decide +kernel, by decide +kernel⟩, tb_in (List.mem_of_getElem? (i := 280) (by decide +kernel)) (by decide +kernel), tb_in (List.mem_of_getElem? (i := 4) (by decide +kernel)) (by decide +kernel)⟩
set_option maxRecDepth 100000 in
theorem f_A_nthOf : MFs y_A_nthOf b_A_nthOf 5 (some .int) 2 := ⟨⟨tb_in (List.mem_of_getElem? (i := 285) rfl) rfl, tb_in (List.mem_of_getElem? (i := 24) (by decide +kernel)) (by decide +kernel), by decide +kernel, by decide +kernel, by decide +kernel⟩, tb_in (List.mem_of_getElem? (i := 284) (by decide +kernel)) (by decide +kernel)⟩
set_option maxRecDepth 100000 in
theorem f_K_add : MFv y_K_add b_K_add 6 none 4 := ⟨⟨tb_in (List.mem_of_getElem? (i := 290) rfl) rfl, tb_in (List.mem_of_getElem? (i := 28) (by decide +kernel)) (by decide +kernel), by decide +kernel, by decide +kernel, by decide +kernel⟩, tb_in (List.mem_of_getElem? (i := 288) (by decide +kernel)) (by decide +kernel), tb_in (List.mem_of_getElem? (i := 289) (by decide +kernel)) (by decide +kernel)⟩
set_option maxRecDepth 100000 in
theorem f_K_putLater : MFv y_K_putLater b_K_putLater 6 none 4 := ⟨⟨tb_in (List.mem_of_getElem? (i := 295) rfl) rfl, tb_in (List.mem_of_getElem? (i := 28) (by decide +kernel)) (by decide +kernel), by decide +kernel, by decide +kernel, by decide +kernel⟩, tb_in (List.mem_of_getElem? (i := 294) (by decide +kernel)) (by decide +kernel), tb_in (List.mem_of_getElem? (i := 5) (by decide +kernel)) (by decide +kernel)⟩
set_option maxRecDepth 100000 in
theorem f_A_rename : MFv y_A_rename b_A_rename 3 (some .int) 1 := ⟨⟨tb_in (List.mem_of_getElem? (i := 299) rfl) rfl, tb_in (List.mem_of_getElem? (i := 24) (by decide +kernel)) (by decide +kernel), by decide +kernel, by decide +kernel, by decide +kernel⟩, tb_in (List.mem_of_getElem? (i := 297) (by decide +kernel)) (by decide +kernel), tb_in (List.mem_of_getElem? (i := 298) (by decide +kernel)) (by decide +kernel)⟩
set_option maxRecDepth 100000 in
theorem f_H_kindOf : MFv y_H_kindOf b_H_kindOf 2 (some .int) 1 := ⟨⟨tb_in (List.mem_of_getElem? (i := 303) rfl) rfl, tb_in (List.mem_of_getElem? (i := 27) (by decide +kernel)) (by decide +kernel), by decide +kernel, by decide +kernel, by decide +kernel⟩, tb_in (List.mem_of_getElem? (i := 301) (by decide +kernel)) (by decide +kernel), tb_in (List.mem_of_getElem? (i := 302) (by decide +kernel)) (by decide +kernel)⟩
set_option maxRecDepth 100000 in
theorem f_R_countOf : MFv y_R_countOf b_R_countOf 4 (some .int) 1 := ⟨⟨tb_in (List.mem_of_getElem? (i := 308) rfl) rfl, tb_in (List.mem_of_getElem? (i := 29) (by decide +kernel)) (by decide +kernel), by decide +kernel, by decide +kernel, by decide +kernel⟩, tb_in (List.mem_of_getElem? (i := 306) (by decide +kernel)) (by decide +kernel), tb_in (List.mem_of_getElem? (i := 307) (by decide +kernel)) (by decide +kernel)⟩
set_option maxRecDepth 100000 in
theorem f_A_find : MFv y_A_find b_A_find 1 (some .int) 0 := ⟨⟨tb_in (List.mem_of_getElem? (i := 312) rfl) rfl, tb_in (List.mem_of_getElem? (i := 24) (by decide +kernel)) (by decide +kernel), by decide +kernel, by decide +kernel, by decide +kernel⟩, tb_in (List.mem_of_getElem? (i := 310) (by decide +kernel)) (by decide +kernel), tb_in (List.mem_of_getElem? (i := 311) (by decide +kernel)) (by decide +kernel)⟩
set_option maxRecDepth 100000 in
theorem f_H_firstOfAnyKind : MFv y_H_firstOfAnyKind b_H_firstOfAnyKind 3 (some .int) 1 := ⟨⟨tb_in (List.mem_of_getElem? (i := 316) rfl) rfl, tb_in (List.mem_of_getElem? (i := 27) (by decide +kernel)) (by decide +kernel), by decide +kernel, by decide +kernel, by decide +kernel⟩, tb_in (List.mem_of_getElem? (i := 314) (by decide +kernel)) (by decide +kernel), tb_in (List.mem_of_getElem? (i := 315) (by decide +kernel)) (by decide +kernel)⟩
set_option maxRecDepth 100000 in
theorem f_A_see : MFv y_A_see b_A_see 3 (some .int) 2 := ⟨⟨tb_in (List.mem_of_getElem? (i := 320) rfl) rfl, tb_in (List.mem_of_getElem? (i := 24) (by decide +kernel)) (by decide +kernel), by decide +kernel, by decide +kernel, by decide +kernel⟩, tb_in (List.mem_of_getElem? (i := 318) (by decide +kernel)) (by decide +kernel), tb_in (List.mem_of_getElem? (i := 319) (by decide +kernel)) (by decide +kernel)⟩
set_option maxRecDepth 100000 in
theorem f_A_broader : MFv y_A_broader b_A_broader 10 (some .int) 2 := ⟨⟨tb_in (List.mem_of_getElem? (i := 325) rfl) rfl, tb_in (List.mem_of_getElem? (i := 24) (by decide +kernel)) (by decide +kernel), by decide +kernel, by decide +kernel, by decide +kernel⟩, tb_in (List.mem_of_getElem? (i := 323) (by decide +kernel)) (by decide +kernel), tb_in (List.mem_of_getElem? (i := 324) (by decide +kernel)) (by decide +kernel)⟩
set_option maxRecDepth 100000 in
theorem f_J_bitCount : MFs y_J_bitCount b_J_bitCount 2 (some .int) 1 := ⟨⟨tb_in (List.mem_of_getElem? (i := 328) rfl) rfl, tb_in (List.mem_of_getElem? (i := 32) (by decide +kernel)) (by decide +kernel), by decide +kernel, by decide +kernel, by decide +kernel⟩, tb_in (List.mem_of_getElem? (i := 327) (by decide +kernel)) (by decide +kernel)⟩
set_option maxRecDepth 100000 in
theorem f_K_targetsOfAll : MFv y_K_targetsOfAll b_K_targetsOfAll 7 (some .long) 2 := ⟨⟨tb_in (List.mem_of_getElem? (i := 335) rfl) rfl, tb_in (List.mem_of_getElem? (i := 28) (by decide +kernel)) (by decide +kernel), by decide +kernel, by decide +kernel, by decide +kernel⟩, tb_in (List.mem_of_getElem? (i := 333) (by decide +kernel)) (by decide +kernel), tb_in (List.mem_of_getElem? (i := 334) (by decide +kernel)) (by decide +kernel)⟩
set_option maxRecDepth 100000 in
theorem f_A_delete : MFv y_A_delete b_A_delete 3 (some .int) 1 := ⟨⟨tb_in (List.mem_of_getElem? (i := 340) rfl) rfl, tb_in (List.mem_of_getElem? (i := 24) (by decide +kernel)) (by decide +kernel), by decide +kernel, by decide +kernel, by decide +kernel⟩, tb_in (List.mem_of_getElem? (i := 338) (by decide +kernel)) (by decide +kernel), tb_in (List.mem_of_getElem? (i := 339) (by decide +kernel)) (by decide +kernel)⟩
set_option maxRecDepth 100000 in
theorem f_H_end : MFv y_H_end b_H_end 2 none 1 := ⟨⟨tb_in (List.mem_of_getElem? (i := 344) rfl) rfl, tb_in (List.mem_of_getElem? (i := 27) (by decide +kernel)) (by decide +kernel), by decide +kernel, by decide +kernel, by decide +kernel⟩, tb_in (List.mem_of_getElem? (i := 342) (by decide +kernel)) (by decide +kernel), tb_in (List.mem_of_getElem? (i := 343) (by decide +kernel)) (by decide +kernel)⟩
set_option maxRecDepth 100000 in
theorem f_K_removeAllOf : MFv y_K_removeAllOf b_K_removeAllOf 4 none 1 := ⟨⟨tb_in (List.mem_of_getElem? (i := 348) rfl) rfl, tb_in (List.mem_of_getElem? (i := 28) (by decide +kernel)) (by decide +kernel), by decide +kernel, by decide +kernel, by decide +kernel⟩, tb_in (List.mem_of_getElem? (i := 346) (by decide +kernel)) (by decide +kernel), tb_in (List.mem_of_getElem? (i := 347) (by decide +kernel)) (by decide +kernel)⟩
set_option maxRecDepth 100000 in
theorem f_K_removeLaterOf : MFv y_K_removeLaterOf b_K_removeLaterOf 4 none 1 := ⟨⟨tb_in (List.mem_of_getElem? (i := 353) rfl) rfl, tb_in (List.mem_of_getElem? (i := 28) (by decide +kernel)) (by decide +kernel), by decide +kernel, by decide +kernel, by decide +kernel⟩, tb_in (List.mem_of_getElem? (i := 352) (by decide +kernel)) (by decide +kernel), tb_in (List.mem_of_getElem? (i := 6) (by decide +kernel)) (by decide +kernel)⟩
set_option maxRecDepth 100000 in
theorem f_A_split : MFv y_A_split b_A_split 5 (some .int) 2 := ⟨⟨tb_in (List.mem_of_getElem? (i := 357) rfl) rfl, tb_in (List.mem_of_getElem? (i := 24) (by decide +kernel)) (by decide +kernel), by decide +kernel, by decide +kernel, by decide +kernel⟩, tb_in (List.mem_of_getElem? (i := 355) (by decide +kernel)) (by decide +kernel), tb_in (List.mem_of_getElem? (i := 356) (by decide +kernel)) (by decide +kernel)⟩
set_option maxRecDepth 100000 in
theorem f_R_move : MFv y_R_move b_R_move 6 none 3 := ⟨⟨tb_in (List.mem_of_getElem? (i := 361) rfl) rfl, tb_in (List.mem_of_getElem? (i := 29) (by decide +kernel)) (by decide +kernel), by decide +kernel, by decide +kernel, by decide +kernel⟩, tb_in (List.mem_of_getElem? (i := 359) (by decide +kernel)) (by decide +kernel), tb_in (List.mem_of_getElem? (i := 360) (by decide +kernel)) (by decide +kernel)⟩
set_option maxRecDepth 100000 in
theorem f_A_shown : MFv y_A_shown b_A_shown 4 (some .int) 2 := ⟨⟨tb_in (List.mem_of_getElem? (i := 365) rfl) rfl, tb_in (List.mem_of_getElem? (i := 24) (by decide +kernel)) (by decide +kernel), by decide +kernel, by decide +kernel, by decide +kernel⟩, tb_in (List.mem_of_getElem? (i := 363) (by decide +kernel)) (by decide +kernel), tb_in (List.mem_of_getElem? (i := 364) (by decide +kernel)) (by decide +kernel)⟩
set_option maxRecDepth 100000 in
theorem f_A_usedFormOf : MFv y_A_usedFormOf b_A_usedFormOf 3 (some .int) 1 := ⟨⟨tb_in (List.mem_of_getElem? (i := 369) rfl) rfl, tb_in (List.mem_of_getElem? (i := 24) (by decide +kernel)) (by decide +kernel), by decide +kernel, by decide +kernel, by decide +kernel⟩, tb_in (List.mem_of_getElem? (i := 368) (by decide +kernel)) (by decide +kernel), tb_in (List.mem_of_getElem? (i := 7) (by decide +kernel)) (by decide +kernel)⟩
set_option maxRecDepth 100000 in
theorem f_A_formOn : MFv y_A_formOn b_A_formOn 7 (some .int) 2 := ⟨⟨tb_in (List.mem_of_getElem? (i := 373) rfl) rfl, tb_in (List.mem_of_getElem? (i := 24) (by decide +kernel)) (by decide +kernel), by decide +kernel, by decide +kernel, by decide +kernel⟩, tb_in (List.mem_of_getElem? (i := 372) (by decide +kernel)) (by decide +kernel), tb_in (List.mem_of_getElem? (i := 8) (by decide +kernel)) (by decide +kernel)⟩
set_option maxRecDepth 100000 in
theorem f_K_latestOn : MFv y_K_latestOn b_K_latestOn 7 (some .int) 2 := ⟨⟨tb_in (List.mem_of_getElem? (i := 377) rfl) rfl, tb_in (List.mem_of_getElem? (i := 28) (by decide +kernel)) (by decide +kernel), by decide +kernel, by decide +kernel, by decide +kernel⟩, tb_in (List.mem_of_getElem? (i := 375) (by decide +kernel)) (by decide +kernel), tb_in (List.mem_of_getElem? (i := 376) (by decide +kernel)) (by decide +kernel)⟩
set_option maxRecDepth 100000 in
theorem f_A_record : MFv y_A_record b_A_record 4 (some .int) 2 := ⟨⟨tb_in (List.mem_of_getElem? (i := 381) rfl) rfl, tb_in (List.mem_of_getElem? (i := 24) (by decide +kernel)) (by decide +kernel), by decide +kernel, by decide +kernel, by decide +kernel⟩, tb_in (List.mem_of_getElem? (i := 379) (by decide +kernel)) (by decide +kernel), tb_in (List.mem_of_getElem? (i := 380) (by decide +kernel)) (by decide +kernel)⟩
set_option maxRecDepth 100000 in
theorem f_R_isFull : MFv y_R_isFull b_R_isFull 1 (some .boolean) 0 := ⟨⟨tb_in (List.mem_of_getElem? (i := 385) rfl) rfl, tb_in (List.mem_of_getElem? (i := 29) (by decide +kernel)) (by decide +kernel), by decide +kernel, by decide +kernel, by decide +kernel⟩, tb_in (List.mem_of_getElem? (i := 383) (by decide +kernel)) (by decide +kernel), tb_in (List.mem_of_getElem? (i := 384) (by decide +kernel)) (by decide +kernel)⟩
set_option maxRecDepth 100000 in
theorem f_R_add : MFv y_R_add b_R_add 4 (some .int) 2 := ⟨⟨tb_in (List.mem_of_getElem? (i := 389) rfl) rfl, tb_in (List.mem_of_getElem? (i := 29) (by decide +kernel)) (by decide +kernel), by decide +kernel, by decide +kernel, by decide +kernel⟩, tb_in (List.mem_of_getElem? (i := 387) (by decide +kernel)) (by decide +kernel), tb_in (List.mem_of_getElem? (i := 388) (by decide +kernel)) (by decide +kernel)⟩
set_option maxRecDepth 100000 in
theorem f_A_linked : MFv y_A_linked b_A_linked 2 (some .int) 1 := ⟨⟨tb_in (List.mem_of_getElem? (i := 394) rfl) rfl, tb_in (List.mem_of_getElem? (i := 24) (by decide +kernel)) (by decide +kernel), by decide +kernel, by decide +kernel, by decide +kernel⟩, tb_in (List.mem_of_getElem? (i := 392) (by decide +kernel)) (by decide +kernel), tb_in (List.mem_of_getElem? (i := 393) (by decide +kernel)) (by decide +kernel)⟩
set_option maxRecDepth 100000 in
theorem f_R_headingOf : MFv y_R_headingOf b_R_headingOf 2 (some .int) 1 := ⟨⟨tb_in (List.mem_of_getElem? (i := 398) rfl) rfl, tb_in (List.mem_of_getElem? (i := 29) (by decide +kernel)) (by decide +kernel), by decide +kernel, by decide +kernel, by decide +kernel⟩, tb_in (List.mem_of_getElem? (i := 396) (by decide +kernel)) (by decide +kernel), tb_in (List.mem_of_getElem? (i := 397) (by decide +kernel)) (by decide +kernel)⟩
set_option maxRecDepth 100000 in
theorem f_A_form : MFv y_A_form b_A_form 4 (some .int) 2 := ⟨⟨tb_in (List.mem_of_getElem? (i := 402) rfl) rfl, tb_in (List.mem_of_getElem? (i := 24) (by decide +kernel)) (by decide +kernel), by decide +kernel, by decide +kernel, by decide +kernel⟩, tb_in (List.mem_of_getElem? (i := 400) (by decide +kernel)) (by decide +kernel), tb_in (List.mem_of_getElem? (i := 401) (by decide +kernel)) (by decide +kernel)⟩
set_option maxRecDepth 100000 in
theorem f_A_ring : MFv y_A_ring b_A_ring 2 (some .int) 1 := ⟨⟨tb_in (List.mem_of_getElem? (i := 406) rfl) rfl, tb_in (List.mem_of_getElem? (i := 24) (by decide +kernel)) (by decide +kernel), by decide +kernel, by decide +kernel, by decide +kernel⟩, tb_in (List.mem_of_getElem? (i := 404) (by decide +kernel)) (by decide +kernel), tb_in (List.mem_of_getElem? (i := 405) (by decide +kernel)) (by decide +kernel)⟩
set_option maxRecDepth 100000 in
theorem f_Y_at : MFv y_Y_at b_Y_at 2 (some .int) 1 := ⟨⟨tb_in (List.mem_of_getElem? (i := 410) rfl) rfl, tb_in (List.mem_of_getElem? (i := 30) (by decide +kernel)) (by decide +kernel), by decide +kernel, by decide +kernel, by decide +kernel⟩, tb_in (List.mem_of_getElem? (i := 408) (by decide +kernel)) (by decide +kernel), tb_in (List.mem_of_getElem? (i := 409) (by decide +kernel)) (by decide +kernel)⟩
set_option maxRecDepth 100000 in
theorem f_A_letter : MFv y_A_letter b_A_letter 3 (some .int) 2 := ⟨⟨tb_in (List.mem_of_getElem? (i := 414) rfl) rfl, tb_in (List.mem_of_getElem? (i := 24) (by decide +kernel)) (by decide +kernel), by decide +kernel, by decide +kernel, by decide +kernel⟩, tb_in (List.mem_of_getElem? (i := 412) (by decide +kernel)) (by decide +kernel), tb_in (List.mem_of_getElem? (i := 413) (by decide +kernel)) (by decide +kernel)⟩
set_option maxRecDepth 100000 in
theorem f_H_letterOf : MFv y_H_letterOf b_H_letterOf 3 (some .int) 2 := ⟨⟨tb_in (List.mem_of_getElem? (i := 418) rfl) rfl, tb_in (List.mem_of_getElem? (i := 27) (by decide +kernel)) (by decide +kernel), by decide +kernel, by decide +kernel, by decide +kernel⟩, tb_in (List.mem_of_getElem? (i := 416) (by decide +kernel)) (by decide +kernel), tb_in (List.mem_of_getElem? (i := 417) (by decide +kernel)) (by decide +kernel)⟩
set_option maxRecDepth 100000 in
theorem f_M_init : MFi y_M_init b_M_init 1 none 0 := ⟨⟨tb_in (List.mem_of_getElem? (i := 423) rfl) rfl, tb_in (List.mem_of_getElem? (i := 31) (by decide +kernel)) (by decide +kernel), by decide +kernel, by decide +kernel, by decide +kernel⟩, tb_in (List.mem_of_getElem? (i := 422) (by decide +kernel)) (by decide +kernel)⟩
set_option maxRecDepth 100000 in
theorem f_M_sign : MFv y_M_sign b_M_sign 2 none 1 := ⟨⟨tb_in (List.mem_of_getElem? (i := 490) rfl) rfl, tb_in (List.mem_of_getElem? (i := 31) (by decide +kernel)) (by decide +kernel), by decide +kernel, by decide +kernel, by decide +kernel⟩, tb_in (List.mem_of_getElem? (i := 488) (by decide +kernel)) (by decide +kernel), tb_in (List.mem_of_getElem? (i := 489) (by decide +kernel)) (by decide +kernel)⟩
set_option maxRecDepth 100000 in
theorem f_M_heading : MFv y_M_heading b_M_heading 2 (some .int) 1 := ⟨⟨tb_in (List.mem_of_getElem? (i := 494) rfl) rfl, tb_in (List.mem_of_getElem? (i := 31) (by decide +kernel)) (by decide +kernel), by decide +kernel, by decide +kernel, by decide +kernel⟩, tb_in (List.mem_of_getElem? (i := 492) (by decide +kernel)) (by decide +kernel), tb_in (List.mem_of_getElem? (i := 493) (by decide +kernel)) (by decide +kernel)⟩
set_option maxRecDepth 100000 in
theorem f_M_takes : MFv y_M_takes b_M_takes 4 (some .boolean) 0 := ⟨⟨tb_in (List.mem_of_getElem? (i := 498) rfl) rfl, tb_in (List.mem_of_getElem? (i := 31) (by decide +kernel)) (by decide +kernel), by decide +kernel, by decide +kernel, by decide +kernel⟩, tb_in (List.mem_of_getElem? (i := 497) (by decide +kernel)) (by decide +kernel), tb_in (List.mem_of_getElem? (i := 9) (by decide +kernel)) (by decide +kernel)⟩
set_option maxRecDepth 100000 in
theorem f_M_make : MFv y_M_make b_M_make 3 (some .int) 1 := ⟨⟨tb_in (List.mem_of_getElem? (i := 502) rfl) rfl, tb_in (List.mem_of_getElem? (i := 31) (by decide +kernel)) (by decide +kernel), by decide +kernel, by decide +kernel, by decide +kernel⟩, tb_in (List.mem_of_getElem? (i := 501) (by decide +kernel)) (by decide +kernel), tb_in (List.mem_of_getElem? (i := 10) (by decide +kernel)) (by decide +kernel)⟩
set_option maxRecDepth 100000 in
theorem f_M_first : MFv y_M_first b_M_first 4 (some .int) 2 := ⟨⟨tb_in (List.mem_of_getElem? (i := 506) rfl) rfl, tb_in (List.mem_of_getElem? (i := 31) (by decide +kernel)) (by decide +kernel), by decide +kernel, by decide +kernel, by decide +kernel⟩, tb_in (List.mem_of_getElem? (i := 505) (by decide +kernel)) (by decide +kernel), tb_in (List.mem_of_getElem? (i := 11) (by decide +kernel)) (by decide +kernel)⟩
set_option maxRecDepth 100000 in
theorem f_M_hasText : MFv y_M_hasText b_M_hasText 4 (some .boolean) 1 := ⟨⟨tb_in (List.mem_of_getElem? (i := 510) rfl) rfl, tb_in (List.mem_of_getElem? (i := 31) (by decide +kernel)) (by decide +kernel), by decide +kernel, by decide +kernel, by decide +kernel⟩, tb_in (List.mem_of_getElem? (i := 509) (by decide +kernel)) (by decide +kernel), tb_in (List.mem_of_getElem? (i := 12) (by decide +kernel)) (by decide +kernel)⟩
set_option maxRecDepth 100000 in
theorem f_M_small : MFs y_M_small b_M_small 1 (some .int) 1 := ⟨⟨tb_in (List.mem_of_getElem? (i := 513) rfl) rfl, tb_in (List.mem_of_getElem? (i := 31) (by decide +kernel)) (by decide +kernel), by decide +kernel, by decide +kernel, by decide +kernel⟩, tb_in (List.mem_of_getElem? (i := 512) (by decide +kernel)) (by decide +kernel)⟩
set_option maxRecDepth 100000 in
theorem f_M_lay : MFv y_M_lay b_M_lay 3 none 1 := ⟨⟨tb_in (List.mem_of_getElem? (i := 517) rfl) rfl, tb_in (List.mem_of_getElem? (i := 31) (by decide +kernel)) (by decide +kernel), by decide +kernel, by decide +kernel, by decide +kernel⟩, tb_in (List.mem_of_getElem? (i := 516) (by decide +kernel)) (by decide +kernel), tb_in (List.mem_of_getElem? (i := 13) (by decide +kernel)) (by decide +kernel)⟩
set_option maxRecDepth 100000 in
theorem f_M_find : MFv y_M_find b_M_find 1 (some .int) 0 := ⟨⟨tb_in (List.mem_of_getElem? (i := 521) rfl) rfl, tb_in (List.mem_of_getElem? (i := 31) (by decide +kernel)) (by decide +kernel), by decide +kernel, by decide +kernel, by decide +kernel⟩, tb_in (List.mem_of_getElem? (i := 519) (by decide +kernel)) (by decide +kernel), tb_in (List.mem_of_getElem? (i := 520) (by decide +kernel)) (by decide +kernel)⟩
set_option maxRecDepth 100000 in
theorem f_M_rename : MFv y_M_rename b_M_rename 3 (some .int) 1 := ⟨⟨tb_in (List.mem_of_getElem? (i := 525) rfl) rfl, tb_in (List.mem_of_getElem? (i := 31) (by decide +kernel)) (by decide +kernel), by decide +kernel, by decide +kernel, by decide +kernel⟩, tb_in (List.mem_of_getElem? (i := 523) (by decide +kernel)) (by decide +kernel), tb_in (List.mem_of_getElem? (i := 524) (by decide +kernel)) (by decide +kernel)⟩
set_option maxRecDepth 100000 in
theorem f_M_isLive : MFv y_M_isLive b_M_isLive 2 (some .boolean) 1 := ⟨⟨tb_in (List.mem_of_getElem? (i := 529) rfl) rfl, tb_in (List.mem_of_getElem? (i := 31) (by decide +kernel)) (by decide +kernel), by decide +kernel, by decide +kernel, by decide +kernel⟩, tb_in (List.mem_of_getElem? (i := 528) (by decide +kernel)) (by decide +kernel), tb_in (List.mem_of_getElem? (i := 14) (by decide +kernel)) (by decide +kernel)⟩
set_option maxRecDepth 100000 in
theorem f_M_linkedTo : MFv y_M_linkedTo b_M_linkedTo 4 (some .int) 1 := ⟨⟨tb_in (List.mem_of_getElem? (i := 533) rfl) rfl, tb_in (List.mem_of_getElem? (i := 31) (by decide +kernel)) (by decide +kernel), by decide +kernel, by decide +kernel, by decide +kernel⟩, tb_in (List.mem_of_getElem? (i := 532) (by decide +kernel)) (by decide +kernel), tb_in (List.mem_of_getElem? (i := 15) (by decide +kernel)) (by decide +kernel)⟩
set_option maxRecDepth 100000 in
theorem f_M_letter : MFv y_M_letter b_M_letter 3 (some .int) 2 := ⟨⟨tb_in (List.mem_of_getElem? (i := 537) rfl) rfl, tb_in (List.mem_of_getElem? (i := 31) (by decide +kernel)) (by decide +kernel), by decide +kernel, by decide +kernel, by decide +kernel⟩, tb_in (List.mem_of_getElem? (i := 535) (by decide +kernel)) (by decide +kernel), tb_in (List.mem_of_getElem? (i := 536) (by decide +kernel)) (by decide +kernel)⟩
set_option maxRecDepth 100000 in
theorem f_M_link : MFv y_M_link b_M_link 6 (some .int) 4 := ⟨⟨tb_in (List.mem_of_getElem? (i := 541) rfl) rfl, tb_in (List.mem_of_getElem? (i := 31) (by decide +kernel)) (by decide +kernel), by decide +kernel, by decide +kernel, by decide +kernel⟩, tb_in (List.mem_of_getElem? (i := 539) (by decide +kernel)) (by decide +kernel), tb_in (List.mem_of_getElem? (i := 540) (by decide +kernel)) (by decide +kernel)⟩
set_option maxRecDepth 100000 in
theorem f_M_has : MFv y_M_has b_M_has 6 (some .boolean) 3 := ⟨⟨tb_in (List.mem_of_getElem? (i := 545) rfl) rfl, tb_in (List.mem_of_getElem? (i := 31) (by decide +kernel)) (by decide +kernel), by decide +kernel, by decide +kernel, by decide +kernel⟩, tb_in (List.mem_of_getElem? (i := 544) (by decide +kernel)) (by decide +kernel), tb_in (List.mem_of_getElem? (i := 16) (by decide +kernel)) (by decide +kernel)⟩
set_option maxRecDepth 100000 in
theorem f_M_is : MFv y_M_is b_M_is 5 (some .boolean) 4 := ⟨⟨tb_in (List.mem_of_getElem? (i := 549) rfl) rfl, tb_in (List.mem_of_getElem? (i := 31) (by decide +kernel)) (by decide +kernel), by decide +kernel, by decide +kernel, by decide +kernel⟩, tb_in (List.mem_of_getElem? (i := 548) (by decide +kernel)) (by decide +kernel), tb_in (List.mem_of_getElem? (i := 17) (by decide +kernel)) (by decide +kernel)⟩
set_option maxRecDepth 100000 in
theorem f_M_measure : MFv y_M_measure b_M_measure 8 none 3 := ⟨⟨tb_in (List.mem_of_getElem? (i := 553) rfl) rfl, tb_in (List.mem_of_getElem? (i := 31) (by decide +kernel)) (by decide +kernel), by decide +kernel, by decide +kernel, by decide +kernel⟩, tb_in (List.mem_of_getElem? (i := 552) (by decide +kernel)) (by decide +kernel), tb_in (List.mem_of_getElem? (i := 18) (by decide +kernel)) (by decide +kernel)⟩
set_option maxRecDepth 100000 in
theorem f_M_ways : MFv y_M_ways b_M_ways 7 none 3 := ⟨⟨tb_in (List.mem_of_getElem? (i := 557) rfl) rfl, tb_in (List.mem_of_getElem? (i := 31) (by decide +kernel)) (by decide +kernel), by decide +kernel, by decide +kernel, by decide +kernel⟩, tb_in (List.mem_of_getElem? (i := 556) (by decide +kernel)) (by decide +kernel), tb_in (List.mem_of_getElem? (i := 19) (by decide +kernel)) (by decide +kernel)⟩
set_option maxRecDepth 100000 in
theorem f_M_add : MFv y_M_add b_M_add 6 none 4 := ⟨⟨tb_in (List.mem_of_getElem? (i := 561) rfl) rfl, tb_in (List.mem_of_getElem? (i := 31) (by decide +kernel)) (by decide +kernel), by decide +kernel, by decide +kernel, by decide +kernel⟩, tb_in (List.mem_of_getElem? (i := 560) (by decide +kernel)) (by decide +kernel), tb_in (List.mem_of_getElem? (i := 20) (by decide +kernel)) (by decide +kernel)⟩
set_option maxRecDepth 100000 in
theorem f_M_ring : MFv y_M_ring b_M_ring 2 (some .int) 1 := ⟨⟨tb_in (List.mem_of_getElem? (i := 565) rfl) rfl, tb_in (List.mem_of_getElem? (i := 31) (by decide +kernel)) (by decide +kernel), by decide +kernel, by decide +kernel, by decide +kernel⟩, tb_in (List.mem_of_getElem? (i := 563) (by decide +kernel)) (by decide +kernel), tb_in (List.mem_of_getElem? (i := 564) (by decide +kernel)) (by decide +kernel)⟩
set_option maxRecDepth 100000 in
theorem f_M_see : MFv y_M_see b_M_see 5 (some .int) 2 := ⟨⟨tb_in (List.mem_of_getElem? (i := 569) rfl) rfl, tb_in (List.mem_of_getElem? (i := 31) (by decide +kernel)) (by decide +kernel), by decide +kernel, by decide +kernel, by decide +kernel⟩, tb_in (List.mem_of_getElem? (i := 567) (by decide +kernel)) (by decide +kernel), tb_in (List.mem_of_getElem? (i := 568) (by decide +kernel)) (by decide +kernel)⟩
set_option maxRecDepth 100000 in
theorem f_M_broader : MFv y_M_broader b_M_broader 6 (some .int) 2 := ⟨⟨tb_in (List.mem_of_getElem? (i := 573) rfl) rfl, tb_in (List.mem_of_getElem? (i := 31) (by decide +kernel)) (by decide +kernel), by decide +kernel, by decide +kernel, by decide +kernel⟩, tb_in (List.mem_of_getElem? (i := 571) (by decide +kernel)) (by decide +kernel), tb_in (List.mem_of_getElem? (i := 572) (by decide +kernel)) (by decide +kernel)⟩
set_option maxRecDepth 100000 in
theorem f_M_delete : MFv y_M_delete b_M_delete 5 (some .int) 1 := ⟨⟨tb_in (List.mem_of_getElem? (i := 577) rfl) rfl, tb_in (List.mem_of_getElem? (i := 31) (by decide +kernel)) (by decide +kernel), by decide +kernel, by decide +kernel, by decide +kernel⟩, tb_in (List.mem_of_getElem? (i := 575) (by decide +kernel)) (by decide +kernel), tb_in (List.mem_of_getElem? (i := 576) (by decide +kernel)) (by decide +kernel)⟩
set_option maxRecDepth 100000 in
theorem f_M_split : MFv y_M_split b_M_split 6 (some .int) 2 := ⟨⟨tb_in (List.mem_of_getElem? (i := 581) rfl) rfl, tb_in (List.mem_of_getElem? (i := 31) (by decide +kernel)) (by decide +kernel), by decide +kernel, by decide +kernel, by decide +kernel⟩, tb_in (List.mem_of_getElem? (i := 579) (by decide +kernel)) (by decide +kernel), tb_in (List.mem_of_getElem? (i := 580) (by decide +kernel)) (by decide +kernel)⟩
set_option maxRecDepth 100000 in
theorem f_M_form : MFv y_M_form b_M_form 4 (some .int) 2 := ⟨⟨tb_in (List.mem_of_getElem? (i := 585) rfl) rfl, tb_in (List.mem_of_getElem? (i := 31) (by decide +kernel)) (by decide +kernel), by decide +kernel, by decide +kernel, by decide +kernel⟩, tb_in (List.mem_of_getElem? (i := 583) (by decide +kernel)) (by decide +kernel), tb_in (List.mem_of_getElem? (i := 584) (by decide +kernel)) (by decide +kernel)⟩
set_option maxRecDepth 100000 in
theorem f_M_formOf : MFv y_M_formOf b_M_formOf 8 (some .int) 2 := ⟨⟨tb_in (List.mem_of_getElem? (i := 589) rfl) rfl, tb_in (List.mem_of_getElem? (i := 31) (by decide +kernel)) (by decide +kernel), by decide +kernel, by decide +kernel, by decide +kernel⟩, tb_in (List.mem_of_getElem? (i := 588) (by decide +kernel)) (by decide +kernel), tb_in (List.mem_of_getElem? (i := 21) (by decide +kernel)) (by decide +kernel)⟩
set_option maxRecDepth 100000 in
theorem f_M_shown : MFv y_M_shown b_M_shown 4 (some .int) 2 := ⟨⟨tb_in (List.mem_of_getElem? (i := 593) rfl) rfl, tb_in (List.mem_of_getElem? (i := 31) (by decide +kernel)) (by decide +kernel), by decide +kernel, by decide +kernel, by decide +kernel⟩, tb_in (List.mem_of_getElem? (i := 591) (by decide +kernel)) (by decide +kernel), tb_in (List.mem_of_getElem? (i := 592) (by decide +kernel)) (by decide +kernel)⟩
set_option maxRecDepth 100000 in
theorem f_M_used : MFv y_M_used b_M_used 3 (some .int) 1 := ⟨⟨tb_in (List.mem_of_getElem? (i := 597) rfl) rfl, tb_in (List.mem_of_getElem? (i := 31) (by decide +kernel)) (by decide +kernel), by decide +kernel, by decide +kernel, by decide +kernel⟩, tb_in (List.mem_of_getElem? (i := 596) (by decide +kernel)) (by decide +kernel), tb_in (List.mem_of_getElem? (i := 22) (by decide +kernel)) (by decide +kernel)⟩
set_option maxRecDepth 100000 in
theorem f_M_record : MFv y_M_record b_M_record 4 (some .int) 2 := ⟨⟨tb_in (List.mem_of_getElem? (i := 601) rfl) rfl, tb_in (List.mem_of_getElem? (i := 31) (by decide +kernel)) (by decide +kernel), by decide +kernel, by decide +kernel, by decide +kernel⟩, tb_in (List.mem_of_getElem? (i := 599) (by decide +kernel)) (by decide +kernel), tb_in (List.mem_of_getElem? (i := 600) (by decide +kernel)) (by decide +kernel)⟩
set_option maxRecDepth 100000 in
theorem f_M_linked : MFv y_M_linked b_M_linked 2 (some .int) 1 := ⟨⟨tb_in (List.mem_of_getElem? (i := 605) rfl) rfl, tb_in (List.mem_of_getElem? (i := 31) (by decide +kernel)) (by decide +kernel), by decide +kernel, by decide +kernel, by decide +kernel⟩, tb_in (List.mem_of_getElem? (i := 603) (by decide +kernel)) (by decide +kernel), tb_in (List.mem_of_getElem? (i := 604) (by decide +kernel)) (by decide +kernel)⟩
theorem z_L : Cond.initialized R_L ∈ tb := tb_in (List.mem_of_getElem? (i := 23) (by decide +kernel)) (by decide +kernel)
theorem z_A : Cond.initialized R_A ∈ tb := tb_in (List.mem_of_getElem? (i := 24) (by decide +kernel)) (by decide +kernel)
theorem z_C : Cond.initialized R_C ∈ tb := tb_in (List.mem_of_getElem? (i := 25) (by decide +kernel)) (by decide +kernel)
theorem z_T : Cond.initialized R_T ∈ tb := tb_in (List.mem_of_getElem? (i := 26) (by decide +kernel)) (by decide +kernel)
theorem z_H : Cond.initialized R_H ∈ tb := tb_in (List.mem_of_getElem? (i := 27) (by decide +kernel)) (by decide +kernel)
theorem z_K : Cond.initialized R_K ∈ tb := tb_in (List.mem_of_getElem? (i := 28) (by decide +kernel)) (by decide +kernel)
theorem z_R : Cond.initialized R_R ∈ tb := tb_in (List.mem_of_getElem? (i := 29) (by decide +kernel)) (by decide +kernel)
theorem z_Y : Cond.initialized R_Y ∈ tb := tb_in (List.mem_of_getElem? (i := 30) (by decide +kernel)) (by decide +kernel)
theorem z_M : Cond.initialized R_M ∈ tb := tb_in (List.mem_of_getElem? (i := 31) (by decide +kernel)) (by decide +kernel)
theorem z_J : Cond.initialized R_J ∈ tb := tb_in (List.mem_of_getElem? (i := 32) (by decide +kernel)) (by decide +kernel)
theorem k_L_7 : Cond.classLink R_L 7 R_A ∈ tb := tb_in (List.mem_of_getElem? (i := 33) (by decide +kernel)) (by decide +kernel)
theorem s_A : Cond.instantiable R_A 6 ∈ tb := tb_in (List.mem_of_getElem? (i := 34) (by decide +kernel)) (by decide +kernel)
theorem k_L_9 : Cond.methodLink R_L 9 y_A_init ∈ tb := tb_in (List.mem_of_getElem? (i := 35) (by decide +kernel)) (by decide +kernel)
theorem k_A_3 : Cond.methodLink R_A 3 objectInit ∈ tb := tb_in (List.mem_of_getElem? (i := 38) (by decide +kernel)) (by decide +kernel)
theorem k_A_9 : Cond.classLink R_A 9 R_C ∈ tb := tb_in (List.mem_of_getElem? (i := 41) (by decide +kernel)) (by decide +kernel)
theorem s_C : Cond.instantiable R_C 2 ∈ tb := tb_in (List.mem_of_getElem? (i := 42) (by decide +kernel)) (by decide +kernel)
theorem k_A_11 : Cond.methodLinkNest R_A 11 y_C_init "AuthorityRows" ∈ lw_tbl := List.mem_of_getElem? (i := 43) (by decide +kernel)
theorem k_C_3 : Cond.methodLink R_C 3 objectInit ∈ tb := tb_in (List.mem_of_getElem? (i := 46) (by decide +kernel)) (by decide +kernel)
theorem k_C_9 : Cond.fieldLink R_C 9 "AuthorityRows$Collected" "signs" "[C" ∈ tb := tb_in (List.mem_of_getElem? (i := 47) (by decide +kernel)) (by decide +kernel)
theorem k_C_15 : Cond.fieldLink R_C 15 "AuthorityRows$Collected" "count" "I" ∈ tb := tb_in (List.mem_of_getElem? (i := 48) (by decide +kernel)) (by decide +kernel)
theorem a_char : Cond.arrayClass .char ∈ tb := tb_in (List.mem_of_getElem? (i := 54) (by decide +kernel)) (by decide +kernel)
theorem k_A_16 : Cond.classLink R_A 16 R_T ∈ tb := tb_in (List.mem_of_getElem? (i := 55) (by decide +kernel)) (by decide +kernel)
theorem s_T : Cond.instantiable R_T 2 ∈ tb := tb_in (List.mem_of_getElem? (i := 56) (by decide +kernel)) (by decide +kernel)
theorem k_A_18 : Cond.methodLinkNest R_A 18 y_T_init "AuthorityRows" ∈ lw_tbl := List.mem_of_getElem? (i := 57) (by decide +kernel)
theorem k_T_3 : Cond.methodLink R_T 3 objectInit ∈ tb := tb_in (List.mem_of_getElem? (i := 60) (by decide +kernel)) (by decide +kernel)
theorem k_T_9 : Cond.fieldLink R_T 9 "AuthorityRows$Text" "letters" "[C" ∈ tb := tb_in (List.mem_of_getElem? (i := 61) (by decide +kernel)) (by decide +kernel)
theorem k_H_47 : Cond.fieldLinkNest R_H 47 "AuthorityRows$Text" "letters" "[C" "AuthorityRows" ∈ lw_tbl := List.mem_of_getElem? (i := 62) (by decide +kernel)
theorem k_T_15 : Cond.fieldLink R_T 15 "AuthorityRows$Text" "length" "I" ∈ tb := tb_in (List.mem_of_getElem? (i := 63) (by decide +kernel)) (by decide +kernel)
theorem k_H_42 : Cond.fieldLinkNest R_H 42 "AuthorityRows$Text" "length" "I" "AuthorityRows" ∈ lw_tbl := List.mem_of_getElem? (i := 64) (by decide +kernel)
theorem k_A_23 : Cond.classLink R_A 23 R_H ∈ tb := tb_in (List.mem_of_getElem? (i := 70) (by decide +kernel)) (by decide +kernel)
theorem s_H : Cond.instantiable R_H 5 ∈ tb := tb_in (List.mem_of_getElem? (i := 71) (by decide +kernel)) (by decide +kernel)
theorem k_A_25 : Cond.methodLinkNest R_A 25 y_H_init "AuthorityRows" ∈ lw_tbl := List.mem_of_getElem? (i := 72) (by decide +kernel)
theorem k_H_3 : Cond.methodLink R_H 3 objectInit ∈ tb := tb_in (List.mem_of_getElem? (i := 75) (by decide +kernel)) (by decide +kernel)
theorem k_H_9 : Cond.fieldLink R_H 9 "AuthorityRows$Headings" "kinds" "[I" ∈ tb := tb_in (List.mem_of_getElem? (i := 76) (by decide +kernel)) (by decide +kernel)
theorem k_H_15 : Cond.fieldLink R_H 15 "AuthorityRows$Headings" "live" "[Z" ∈ tb := tb_in (List.mem_of_getElem? (i := 77) (by decide +kernel)) (by decide +kernel)
theorem k_H_19 : Cond.fieldLink R_H 19 "AuthorityRows$Headings" "letters" "[C" ∈ tb := tb_in (List.mem_of_getElem? (i := 78) (by decide +kernel)) (by decide +kernel)
theorem k_H_23 : Cond.fieldLink R_H 23 "AuthorityRows$Headings" "lengths" "[I" ∈ tb := tb_in (List.mem_of_getElem? (i := 79) (by decide +kernel)) (by decide +kernel)
theorem k_H_26 : Cond.fieldLink R_H 26 "AuthorityRows$Headings" "count" "I" ∈ tb := tb_in (List.mem_of_getElem? (i := 80) (by decide +kernel)) (by decide +kernel)
theorem a_int : Cond.arrayClass .int ∈ tb := tb_in (List.mem_of_getElem? (i := 92) (by decide +kernel)) (by decide +kernel)
theorem a_boolean : Cond.arrayClass .boolean ∈ tb := tb_in (List.mem_of_getElem? (i := 93) (by decide +kernel)) (by decide +kernel)
theorem k_A_30 : Cond.classLink R_A 30 R_K ∈ tb := tb_in (List.mem_of_getElem? (i := 94) (by decide +kernel)) (by decide +kernel)
theorem s_K : Cond.instantiable R_K 5 ∈ tb := tb_in (List.mem_of_getElem? (i := 95) (by decide +kernel)) (by decide +kernel)
theorem k_A_32 : Cond.methodLinkNest R_A 32 y_K_init "AuthorityRows" ∈ lw_tbl := List.mem_of_getElem? (i := 96) (by decide +kernel)
theorem k_K_3 : Cond.methodLink R_K 3 objectInit ∈ tb := tb_in (List.mem_of_getElem? (i := 99) (by decide +kernel)) (by decide +kernel)
theorem k_K_9 : Cond.fieldLink R_K 9 "AuthorityRows$Links" "targets" "[J" ∈ tb := tb_in (List.mem_of_getElem? (i := 100) (by decide +kernel)) (by decide +kernel)
theorem k_K_15 : Cond.fieldLink R_K 15 "AuthorityRows$Links" "laterFrom" "[I" ∈ tb := tb_in (List.mem_of_getElem? (i := 101) (by decide +kernel)) (by decide +kernel)
theorem k_K_19 : Cond.fieldLink R_K 19 "AuthorityRows$Links" "laterTo" "[I" ∈ tb := tb_in (List.mem_of_getElem? (i := 102) (by decide +kernel)) (by decide +kernel)
theorem k_K_22 : Cond.fieldLink R_K 22 "AuthorityRows$Links" "laterDay" "[J" ∈ tb := tb_in (List.mem_of_getElem? (i := 103) (by decide +kernel)) (by decide +kernel)
theorem k_K_25 : Cond.fieldLink R_K 25 "AuthorityRows$Links" "laterCount" "I" ∈ tb := tb_in (List.mem_of_getElem? (i := 104) (by decide +kernel)) (by decide +kernel)
theorem a_long : Cond.arrayClass .long ∈ tb := tb_in (List.mem_of_getElem? (i := 116) (by decide +kernel)) (by decide +kernel)
theorem k_A_37 : Cond.classLink R_A 37 R_R ∈ tb := tb_in (List.mem_of_getElem? (i := 117) (by decide +kernel)) (by decide +kernel)
theorem s_R : Cond.instantiable R_R 3 ∈ tb := tb_in (List.mem_of_getElem? (i := 118) (by decide +kernel)) (by decide +kernel)
theorem k_A_39 : Cond.methodLinkNest R_A 39 y_R_init "AuthorityRows" ∈ lw_tbl := List.mem_of_getElem? (i := 119) (by decide +kernel)
theorem k_R_3 : Cond.methodLink R_R 3 objectInit ∈ tb := tb_in (List.mem_of_getElem? (i := 122) (by decide +kernel)) (by decide +kernel)
theorem k_R_9 : Cond.fieldLink R_R 9 "AuthorityRows$Records" "headings" "[I" ∈ tb := tb_in (List.mem_of_getElem? (i := 123) (by decide +kernel)) (by decide +kernel)
theorem k_R_15 : Cond.fieldLink R_R 15 "AuthorityRows$Records" "days" "[J" ∈ tb := tb_in (List.mem_of_getElem? (i := 124) (by decide +kernel)) (by decide +kernel)
theorem k_R_19 : Cond.fieldLink R_R 19 "AuthorityRows$Records" "count" "I" ∈ tb := tb_in (List.mem_of_getElem? (i := 125) (by decide +kernel)) (by decide +kernel)
theorem k_A_44 : Cond.classLink R_A 44 R_Y ∈ tb := tb_in (List.mem_of_getElem? (i := 133) (by decide +kernel)) (by decide +kernel)
theorem s_Y : Cond.instantiable R_Y 3 ∈ tb := tb_in (List.mem_of_getElem? (i := 134) (by decide +kernel)) (by decide +kernel)
theorem k_A_46 : Cond.methodLinkNest R_A 46 y_Y_init "AuthorityRows" ∈ lw_tbl := List.mem_of_getElem? (i := 135) (by decide +kernel)
theorem k_Y_3 : Cond.methodLink R_Y 3 objectInit ∈ tb := tb_in (List.mem_of_getElem? (i := 138) (by decide +kernel)) (by decide +kernel)
theorem k_Y_9 : Cond.fieldLink R_Y 9 "AuthorityRows$Way" "stops" "[I" ∈ tb := tb_in (List.mem_of_getElem? (i := 139) (by decide +kernel)) (by decide +kernel)
theorem k_Y_15 : Cond.fieldLink R_Y 15 "AuthorityRows$Way" "length" "I" ∈ tb := tb_in (List.mem_of_getElem? (i := 140) (by decide +kernel)) (by decide +kernel)
theorem k_Y_19 : Cond.fieldLink R_Y 19 "AuthorityRows$Way" "awayFromEnd" "[J" ∈ tb := tb_in (List.mem_of_getElem? (i := 141) (by decide +kernel)) (by decide +kernel)
theorem k_A_12 : Cond.fieldLink R_A 12 "AuthorityRows" "collected" "LAuthorityRows$Collected;" ∈ tb := tb_in (List.mem_of_getElem? (i := 149) (by decide +kernel)) (by decide +kernel)
theorem k_A_19 : Cond.fieldLink R_A 19 "AuthorityRows" "text" "LAuthorityRows$Text;" ∈ tb := tb_in (List.mem_of_getElem? (i := 150) (by decide +kernel)) (by decide +kernel)
theorem k_A_26 : Cond.fieldLink R_A 26 "AuthorityRows" "headings" "LAuthorityRows$Headings;" ∈ tb := tb_in (List.mem_of_getElem? (i := 151) (by decide +kernel)) (by decide +kernel)
theorem k_A_33 : Cond.fieldLink R_A 33 "AuthorityRows" "links" "LAuthorityRows$Links;" ∈ tb := tb_in (List.mem_of_getElem? (i := 152) (by decide +kernel)) (by decide +kernel)
theorem k_A_40 : Cond.fieldLink R_A 40 "AuthorityRows" "records" "LAuthorityRows$Records;" ∈ tb := tb_in (List.mem_of_getElem? (i := 153) (by decide +kernel)) (by decide +kernel)
theorem k_A_47 : Cond.fieldLink R_A 47 "AuthorityRows" "closedWay" "LAuthorityRows$Way;" ∈ tb := tb_in (List.mem_of_getElem? (i := 154) (by decide +kernel)) (by decide +kernel)
theorem k_L_13 : Cond.methodLink R_L 13 y_A_sign ∈ tb := tb_in (List.mem_of_getElem? (i := 168) (by decide +kernel)) (by decide +kernel)
theorem k_A_51 : Cond.methodLink R_A 51 y_C_add ∈ tb := tb_in (List.mem_of_getElem? (i := 172) (by decide +kernel)) (by decide +kernel)
theorem k_L_18 : Cond.methodLink R_L 18 y_A_heading ∈ tb := tb_in (List.mem_of_getElem? (i := 176) (by decide +kernel)) (by decide +kernel)
theorem k_A_55 : Cond.methodLink R_A 55 y_C_moveTo ∈ tb := tb_in (List.mem_of_getElem? (i := 180) (by decide +kernel)) (by decide +kernel)
theorem k_C_19 : Cond.methodLink R_C 19 y_T_clear ∈ tb := tb_in (List.mem_of_getElem? (i := 184) (by decide +kernel)) (by decide +kernel)
theorem k_C_24 : Cond.methodLink R_C 24 y_C_isLetterOrDigit ∈ tb := tb_in (List.mem_of_getElem? (i := 188) (by decide +kernel)) (by decide +kernel)
theorem k_C_28 : Cond.methodLink R_C 28 y_T_add ∈ tb := tb_in (List.mem_of_getElem? (i := 191) (by decide +kernel)) (by decide +kernel)
theorem k_A_59 : Cond.methodLink R_A 59 y_A_addHeading ∈ tb := tb_in (List.mem_of_getElem? (i := 195) (by decide +kernel)) (by decide +kernel)
theorem k_A_162 : Cond.methodLink R_A 162 y_H_isFull ∈ tb := tb_in (List.mem_of_getElem? (i := 199) (by decide +kernel)) (by decide +kernel)
theorem k_A_89 : Cond.methodLink R_A 89 y_H_firstOfKind ∈ tb := tb_in (List.mem_of_getElem? (i := 203) (by decide +kernel)) (by decide +kernel)
theorem k_H_48 : Cond.methodLink R_H 48 y_H_hasText ∈ tb := tb_in (List.mem_of_getElem? (i := 207) (by decide +kernel)) (by decide +kernel)
theorem k_H_52 : Cond.methodLink R_H 52 y_H_small ∈ tb := tb_in (List.mem_of_getElem? (i := 211) (by decide +kernel)) (by decide +kernel)
theorem k_A_163 : Cond.methodLink R_A 163 y_H_add ∈ tb := tb_in (List.mem_of_getElem? (i := 214) (by decide +kernel)) (by decide +kernel)
theorem k_H_34 : Cond.methodLink R_H 34 y_H_isFull ∈ tb := tb_in (List.mem_of_getElem? (i := 218) (by decide +kernel)) (by decide +kernel)
theorem k_H_38 : Cond.methodLink R_H 38 y_H_setText ∈ tb := tb_in (List.mem_of_getElem? (i := 219) (by decide +kernel)) (by decide +kernel)
theorem k_H_30 : Cond.methodLink R_H 30 y_H_isThere ∈ tb := tb_in (List.mem_of_getElem? (i := 223) (by decide +kernel)) (by decide +kernel)
theorem k_L_25 : Cond.methodLink R_L 25 y_A_link ∈ tb := tb_in (List.mem_of_getElem? (i := 227) (by decide +kernel)) (by decide +kernel)
theorem k_A_63 : Cond.methodLink R_A 63 y_H_isLive ∈ tb := tb_in (List.mem_of_getElem? (i := 231) (by decide +kernel)) (by decide +kernel)
theorem k_A_67 : Cond.methodLink R_A 67 y_K_has ∈ tb := tb_in (List.mem_of_getElem? (i := 235) (by decide +kernel)) (by decide +kernel)
theorem k_K_29 : Cond.methodLink R_K 29 y_K_targetsOf ∈ tb := tb_in (List.mem_of_getElem? (i := 239) (by decide +kernel)) (by decide +kernel)
theorem k_K_37 : Cond.methodLink R_K 37 y_K_isPlace ∈ tb := tb_in (List.mem_of_getElem? (i := 243) (by decide +kernel)) (by decide +kernel)
theorem k_K_33 : Cond.methodLinkNest R_K 33 y_A_holds "AuthorityRows" ∈ lw_tbl := List.mem_of_getElem? (i := 246) (by decide +kernel)
theorem k_A_104 : Cond.methodLink R_A 104 y_A_setOf ∈ tb := tb_in (List.mem_of_getElem? (i := 249) (by decide +kernel)) (by decide +kernel)
theorem k_A_71 : Cond.methodLink R_A 71 y_K_isFull ∈ tb := tb_in (List.mem_of_getElem? (i := 252) (by decide +kernel)) (by decide +kernel)
theorem k_A_75 : Cond.methodLink R_A 75 y_A_wouldChainSees ∈ tb := tb_in (List.mem_of_getElem? (i := 256) (by decide +kernel)) (by decide +kernel)
theorem k_A_116 : Cond.methodLink R_A 116 y_K_targetsOf ∈ tb := tb_in (List.mem_of_getElem? (i := 260) (by decide +kernel)) (by decide +kernel)
theorem k_A_108 : Cond.methodLink R_A 108 y_K_sourcesOf ∈ tb := tb_in (List.mem_of_getElem? (i := 261) (by decide +kernel)) (by decide +kernel)
theorem k_K_41 : Cond.methodLinkNest R_K 41 y_A_setOf "AuthorityRows" ∈ lw_tbl := List.mem_of_getElem? (i := 265) (by decide +kernel)
theorem k_A_79 : Cond.methodLink R_A 79 y_Y_lay ∈ tb := tb_in (List.mem_of_getElem? (i := 266) (by decide +kernel)) (by decide +kernel)
theorem k_Y_23 : Cond.methodLink R_Y 23 y_Y_measure ∈ tb := tb_in (List.mem_of_getElem? (i := 270) (by decide +kernel)) (by decide +kernel)
theorem k_Y_31 : Cond.methodLinkNest R_Y 31 y_A_setOf "AuthorityRows" ∈ lw_tbl := List.mem_of_getElem? (i := 274) (by decide +kernel)
theorem k_Y_35 : Cond.methodLinkNest R_Y 35 y_A_holds "AuthorityRows" ∈ lw_tbl := List.mem_of_getElem? (i := 275) (by decide +kernel)
theorem k_Y_39 : Cond.methodLink R_Y 39 y_K_sourcesOf ∈ tb := tb_in (List.mem_of_getElem? (i := 276) (by decide +kernel)) (by decide +kernel)
theorem k_Y_45 : Cond.constantLong R_Y 45 (-1) ∈ tb := tb_in (List.mem_of_getElem? (i := 277) (by decide +kernel)) (by decide +kernel)
theorem k_Y_27 : Cond.methodLink R_Y 27 y_Y_walk ∈ tb := tb_in (List.mem_of_getElem? (i := 278) (by decide +kernel)) (by decide +kernel)
theorem k_Y_47 : Cond.methodLink R_Y 47 y_K_targetsOf ∈ tb := tb_in (List.mem_of_getElem? (i := 282) (by decide +kernel)) (by decide +kernel)
theorem k_Y_51 : Cond.methodLinkNest R_Y 51 y_A_nthOf "AuthorityRows" ∈ lw_tbl := List.mem_of_getElem? (i := 283) (by decide +kernel)
theorem k_A_169 : Cond.methodLink R_A 169 y_A_holds ∈ tb := tb_in (List.mem_of_getElem? (i := 286) (by decide +kernel)) (by decide +kernel)
theorem k_A_83 : Cond.methodLink R_A 83 y_K_add ∈ tb := tb_in (List.mem_of_getElem? (i := 287) (by decide +kernel)) (by decide +kernel)
theorem k_K_45 : Cond.methodLink R_K 45 y_K_isFull ∈ tb := tb_in (List.mem_of_getElem? (i := 291) (by decide +kernel)) (by decide +kernel)
theorem k_K_49 : Cond.methodLink R_K 49 y_K_putLater ∈ tb := tb_in (List.mem_of_getElem? (i := 292) (by decide +kernel)) (by decide +kernel)
theorem k_L_30 : Cond.methodLink R_L 30 y_A_rename ∈ tb := tb_in (List.mem_of_getElem? (i := 296) (by decide +kernel)) (by decide +kernel)
theorem k_A_86 : Cond.methodLink R_A 86 y_H_kindOf ∈ tb := tb_in (List.mem_of_getElem? (i := 300) (by decide +kernel)) (by decide +kernel)
theorem k_A_93 : Cond.methodLink R_A 93 y_H_setText ∈ tb := tb_in (List.mem_of_getElem? (i := 304) (by decide +kernel)) (by decide +kernel)
theorem k_A_97 : Cond.methodLink R_A 97 y_R_countOf ∈ tb := tb_in (List.mem_of_getElem? (i := 305) (by decide +kernel)) (by decide +kernel)
theorem k_L_34 : Cond.methodLink R_L 34 y_A_find ∈ tb := tb_in (List.mem_of_getElem? (i := 309) (by decide +kernel)) (by decide +kernel)
theorem k_A_100 : Cond.methodLink R_A 100 y_H_firstOfAnyKind ∈ tb := tb_in (List.mem_of_getElem? (i := 313) (by decide +kernel)) (by decide +kernel)
theorem k_L_39 : Cond.methodLink R_L 39 y_A_see ∈ tb := tb_in (List.mem_of_getElem? (i := 317) (by decide +kernel)) (by decide +kernel)
theorem k_A_112 : Cond.methodLink R_A 112 y_A_nthOf ∈ tb := tb_in (List.mem_of_getElem? (i := 321) (by decide +kernel)) (by decide +kernel)
theorem k_L_44 : Cond.methodLink R_L 44 y_A_broader ∈ tb := tb_in (List.mem_of_getElem? (i := 322) (by decide +kernel)) (by decide +kernel)
theorem k_A_120 : Cond.methodLink R_A 120 y_J_bitCount ∈ tb := tb_in (List.mem_of_getElem? (i := 326) (by decide +kernel)) (by decide +kernel)
theorem k_J_314 : Cond.constantLong R_J 314 (6148914691236517205) ∈ tb := tb_in (List.mem_of_getElem? (i := 329) (by decide +kernel)) (by decide +kernel)
theorem k_J_316 : Cond.constantLong R_J 316 (3689348814741910323) ∈ tb := tb_in (List.mem_of_getElem? (i := 330) (by decide +kernel)) (by decide +kernel)
theorem k_J_318 : Cond.constantLong R_J 318 (1085102592571150095) ∈ tb := tb_in (List.mem_of_getElem? (i := 331) (by decide +kernel)) (by decide +kernel)
theorem k_A_126 : Cond.methodLink R_A 126 y_K_targetsOfAll ∈ tb := tb_in (List.mem_of_getElem? (i := 332) (by decide +kernel)) (by decide +kernel)
theorem k_A_129 : Cond.constantLong R_A 129 (-1) ∈ tb := tb_in (List.mem_of_getElem? (i := 336) (by decide +kernel)) (by decide +kernel)
theorem k_L_48 : Cond.methodLink R_L 48 y_A_delete ∈ tb := tb_in (List.mem_of_getElem? (i := 337) (by decide +kernel)) (by decide +kernel)
theorem k_A_131 : Cond.methodLink R_A 131 y_H_end ∈ tb := tb_in (List.mem_of_getElem? (i := 341) (by decide +kernel)) (by decide +kernel)
theorem k_A_135 : Cond.methodLink R_A 135 y_K_removeAllOf ∈ tb := tb_in (List.mem_of_getElem? (i := 345) (by decide +kernel)) (by decide +kernel)
theorem k_K_53 : Cond.constantLong R_K 53 (-1) ∈ tb := tb_in (List.mem_of_getElem? (i := 349) (by decide +kernel)) (by decide +kernel)
theorem k_K_55 : Cond.methodLink R_K 55 y_K_removeLaterOf ∈ tb := tb_in (List.mem_of_getElem? (i := 350) (by decide +kernel)) (by decide +kernel)
theorem k_L_52 : Cond.methodLink R_L 52 y_A_split ∈ tb := tb_in (List.mem_of_getElem? (i := 354) (by decide +kernel)) (by decide +kernel)
theorem k_A_138 : Cond.methodLink R_A 138 y_R_move ∈ tb := tb_in (List.mem_of_getElem? (i := 358) (by decide +kernel)) (by decide +kernel)
theorem k_L_57 : Cond.methodLink R_L 57 y_A_shown ∈ tb := tb_in (List.mem_of_getElem? (i := 362) (by decide +kernel)) (by decide +kernel)
theorem k_A_142 : Cond.methodLink R_A 142 y_A_usedFormOf ∈ tb := tb_in (List.mem_of_getElem? (i := 366) (by decide +kernel)) (by decide +kernel)
theorem k_A_145 : Cond.methodLink R_A 145 y_A_formOn ∈ tb := tb_in (List.mem_of_getElem? (i := 370) (by decide +kernel)) (by decide +kernel)
theorem k_A_166 : Cond.methodLink R_A 166 y_K_latestOn ∈ tb := tb_in (List.mem_of_getElem? (i := 374) (by decide +kernel)) (by decide +kernel)
theorem k_L_61 : Cond.methodLink R_L 61 y_A_record ∈ tb := tb_in (List.mem_of_getElem? (i := 378) (by decide +kernel)) (by decide +kernel)
theorem k_A_149 : Cond.methodLink R_A 149 y_R_isFull ∈ tb := tb_in (List.mem_of_getElem? (i := 382) (by decide +kernel)) (by decide +kernel)
theorem k_A_150 : Cond.methodLink R_A 150 y_R_add ∈ tb := tb_in (List.mem_of_getElem? (i := 386) (by decide +kernel)) (by decide +kernel)
theorem k_R_23 : Cond.methodLink R_R 23 y_R_isFull ∈ tb := tb_in (List.mem_of_getElem? (i := 390) (by decide +kernel)) (by decide +kernel)
theorem k_L_65 : Cond.methodLink R_L 65 y_A_linked ∈ tb := tb_in (List.mem_of_getElem? (i := 391) (by decide +kernel)) (by decide +kernel)
theorem k_A_152 : Cond.methodLink R_A 152 y_R_headingOf ∈ tb := tb_in (List.mem_of_getElem? (i := 395) (by decide +kernel)) (by decide +kernel)
theorem k_L_69 : Cond.methodLink R_L 69 y_A_form ∈ tb := tb_in (List.mem_of_getElem? (i := 399) (by decide +kernel)) (by decide +kernel)
theorem k_L_73 : Cond.methodLink R_L 73 y_A_ring ∈ tb := tb_in (List.mem_of_getElem? (i := 403) (by decide +kernel)) (by decide +kernel)
theorem k_A_155 : Cond.methodLink R_A 155 y_Y_at ∈ tb := tb_in (List.mem_of_getElem? (i := 407) (by decide +kernel)) (by decide +kernel)
theorem k_L_77 : Cond.methodLink R_L 77 y_A_letter ∈ tb := tb_in (List.mem_of_getElem? (i := 411) (by decide +kernel)) (by decide +kernel)
theorem k_A_158 : Cond.methodLink R_A 158 y_H_letterOf ∈ tb := tb_in (List.mem_of_getElem? (i := 415) (by decide +kernel)) (by decide +kernel)
theorem k_L_10 : Cond.classLink R_L 10 R_M ∈ tb := tb_in (List.mem_of_getElem? (i := 419) (by decide +kernel)) (by decide +kernel)
theorem s_M : Cond.instantiable R_M 20 ∈ tb := tb_in (List.mem_of_getElem? (i := 420) (by decide +kernel)) (by decide +kernel)
theorem k_L_12 : Cond.methodLink R_L 12 y_M_init ∈ tb := tb_in (List.mem_of_getElem? (i := 421) (by decide +kernel)) (by decide +kernel)
theorem k_M_1 : Cond.methodLink R_M 1 objectInit ∈ tb := tb_in (List.mem_of_getElem? (i := 424) (by decide +kernel)) (by decide +kernel)
theorem k_M_52 : Cond.fieldLink R_M 52 "AuthorityRowsModel" "thrown" "I" ∈ tb := tb_in (List.mem_of_getElem? (i := 425) (by decide +kernel)) (by decide +kernel)
theorem k_M_7 : Cond.fieldLink R_M 7 "AuthorityRowsModel" "said" "[B" ∈ tb := tb_in (List.mem_of_getElem? (i := 426) (by decide +kernel)) (by decide +kernel)
theorem k_M_56 : Cond.fieldLink R_M 56 "AuthorityRowsModel" "size" "I" ∈ tb := tb_in (List.mem_of_getElem? (i := 427) (by decide +kernel)) (by decide +kernel)
theorem k_M_66 : Cond.fieldLink R_M 66 "AuthorityRowsModel" "headings" "I" ∈ tb := tb_in (List.mem_of_getElem? (i := 428) (by decide +kernel)) (by decide +kernel)
theorem k_M_13 : Cond.fieldLink R_M 13 "AuthorityRowsModel" "kinds" "[I" ∈ tb := tb_in (List.mem_of_getElem? (i := 429) (by decide +kernel)) (by decide +kernel)
theorem k_M_17 : Cond.fieldLink R_M 17 "AuthorityRowsModel" "live" "[Z" ∈ tb := tb_in (List.mem_of_getElem? (i := 430) (by decide +kernel)) (by decide +kernel)
theorem k_M_21 : Cond.fieldLink R_M 21 "AuthorityRowsModel" "texts" "[B" ∈ tb := tb_in (List.mem_of_getElem? (i := 431) (by decide +kernel)) (by decide +kernel)
theorem k_M_24 : Cond.fieldLink R_M 24 "AuthorityRowsModel" "sizes" "[I" ∈ tb := tb_in (List.mem_of_getElem? (i := 432) (by decide +kernel)) (by decide +kernel)
theorem k_M_97 : Cond.fieldLink R_M 97 "AuthorityRowsModel" "links" "I" ∈ tb := tb_in (List.mem_of_getElem? (i := 433) (by decide +kernel)) (by decide +kernel)
theorem k_M_27 : Cond.fieldLink R_M 27 "AuthorityRowsModel" "linkSort" "[I" ∈ tb := tb_in (List.mem_of_getElem? (i := 434) (by decide +kernel)) (by decide +kernel)
theorem k_M_30 : Cond.fieldLink R_M 30 "AuthorityRowsModel" "linkFrom" "[I" ∈ tb := tb_in (List.mem_of_getElem? (i := 435) (by decide +kernel)) (by decide +kernel)
theorem k_M_33 : Cond.fieldLink R_M 33 "AuthorityRowsModel" "linkTo" "[I" ∈ tb := tb_in (List.mem_of_getElem? (i := 436) (by decide +kernel)) (by decide +kernel)
theorem k_M_36 : Cond.fieldLink R_M 36 "AuthorityRowsModel" "linkDay" "[J" ∈ tb := tb_in (List.mem_of_getElem? (i := 437) (by decide +kernel)) (by decide +kernel)
theorem k_M_88 : Cond.fieldLink R_M 88 "AuthorityRowsModel" "records" "I" ∈ tb := tb_in (List.mem_of_getElem? (i := 438) (by decide +kernel)) (by decide +kernel)
theorem k_M_40 : Cond.fieldLink R_M 40 "AuthorityRowsModel" "linked" "[I" ∈ tb := tb_in (List.mem_of_getElem? (i := 439) (by decide +kernel)) (by decide +kernel)
theorem k_M_43 : Cond.fieldLink R_M 43 "AuthorityRowsModel" "recordDay" "[J" ∈ tb := tb_in (List.mem_of_getElem? (i := 440) (by decide +kernel)) (by decide +kernel)
theorem k_M_46 : Cond.fieldLink R_M 46 "AuthorityRowsModel" "way" "[I" ∈ tb := tb_in (List.mem_of_getElem? (i := 441) (by decide +kernel)) (by decide +kernel)
theorem k_M_108 : Cond.fieldLink R_M 108 "AuthorityRowsModel" "wayLength" "I" ∈ tb := tb_in (List.mem_of_getElem? (i := 442) (by decide +kernel)) (by decide +kernel)
theorem k_M_49 : Cond.fieldLink R_M 49 "AuthorityRowsModel" "distance" "[I" ∈ tb := tb_in (List.mem_of_getElem? (i := 443) (by decide +kernel)) (by decide +kernel)
theorem k_M_59 : Cond.fieldLink R_M 59 "AuthorityRowsModel" "collected" "I" ∈ tb := tb_in (List.mem_of_getElem? (i := 444) (by decide +kernel)) (by decide +kernel)
theorem a_byte : Cond.arrayClass .byte ∈ tb := tb_in (List.mem_of_getElem? (i := 486) (by decide +kernel)) (by decide +kernel)
theorem k_L_17 : Cond.methodLink R_L 17 y_M_sign ∈ tb := tb_in (List.mem_of_getElem? (i := 487) (by decide +kernel)) (by decide +kernel)
theorem k_L_22 : Cond.methodLink R_L 22 y_M_heading ∈ tb := tb_in (List.mem_of_getElem? (i := 491) (by decide +kernel)) (by decide +kernel)
theorem k_M_81 : Cond.methodLink R_M 81 y_M_takes ∈ tb := tb_in (List.mem_of_getElem? (i := 495) (by decide +kernel)) (by decide +kernel)
theorem k_M_85 : Cond.methodLink R_M 85 y_M_make ∈ tb := tb_in (List.mem_of_getElem? (i := 499) (by decide +kernel)) (by decide +kernel)
theorem k_M_73 : Cond.methodLink R_M 73 y_M_first ∈ tb := tb_in (List.mem_of_getElem? (i := 503) (by decide +kernel)) (by decide +kernel)
theorem k_M_69 : Cond.methodLink R_M 69 y_M_hasText ∈ tb := tb_in (List.mem_of_getElem? (i := 507) (by decide +kernel)) (by decide +kernel)
theorem k_M_62 : Cond.methodLink R_M 62 y_M_small ∈ tb := tb_in (List.mem_of_getElem? (i := 511) (by decide +kernel)) (by decide +kernel)
theorem k_M_77 : Cond.methodLink R_M 77 y_M_lay ∈ tb := tb_in (List.mem_of_getElem? (i := 514) (by decide +kernel)) (by decide +kernel)
theorem k_L_38 : Cond.methodLink R_L 38 y_M_find ∈ tb := tb_in (List.mem_of_getElem? (i := 518) (by decide +kernel)) (by decide +kernel)
theorem k_L_33 : Cond.methodLink R_L 33 y_M_rename ∈ tb := tb_in (List.mem_of_getElem? (i := 522) (by decide +kernel)) (by decide +kernel)
theorem k_M_91 : Cond.methodLink R_M 91 y_M_isLive ∈ tb := tb_in (List.mem_of_getElem? (i := 526) (by decide +kernel)) (by decide +kernel)
theorem k_M_94 : Cond.methodLink R_M 94 y_M_linkedTo ∈ tb := tb_in (List.mem_of_getElem? (i := 530) (by decide +kernel)) (by decide +kernel)
theorem k_L_80 : Cond.methodLink R_L 80 y_M_letter ∈ tb := tb_in (List.mem_of_getElem? (i := 534) (by decide +kernel)) (by decide +kernel)
theorem k_L_29 : Cond.methodLink R_L 29 y_M_link ∈ tb := tb_in (List.mem_of_getElem? (i := 538) (by decide +kernel)) (by decide +kernel)
theorem k_M_111 : Cond.methodLink R_M 111 y_M_has ∈ tb := tb_in (List.mem_of_getElem? (i := 542) (by decide +kernel)) (by decide +kernel)
theorem k_M_100 : Cond.methodLink R_M 100 y_M_is ∈ tb := tb_in (List.mem_of_getElem? (i := 546) (by decide +kernel)) (by decide +kernel)
theorem k_M_104 : Cond.methodLink R_M 104 y_M_measure ∈ tb := tb_in (List.mem_of_getElem? (i := 550) (by decide +kernel)) (by decide +kernel)
theorem k_M_115 : Cond.methodLink R_M 115 y_M_ways ∈ tb := tb_in (List.mem_of_getElem? (i := 554) (by decide +kernel)) (by decide +kernel)
theorem k_M_119 : Cond.methodLink R_M 119 y_M_add ∈ tb := tb_in (List.mem_of_getElem? (i := 558) (by decide +kernel)) (by decide +kernel)
theorem k_L_76 : Cond.methodLink R_L 76 y_M_ring ∈ tb := tb_in (List.mem_of_getElem? (i := 562) (by decide +kernel)) (by decide +kernel)
theorem k_L_43 : Cond.methodLink R_L 43 y_M_see ∈ tb := tb_in (List.mem_of_getElem? (i := 566) (by decide +kernel)) (by decide +kernel)
theorem k_L_47 : Cond.methodLink R_L 47 y_M_broader ∈ tb := tb_in (List.mem_of_getElem? (i := 570) (by decide +kernel)) (by decide +kernel)
theorem k_L_51 : Cond.methodLink R_L 51 y_M_delete ∈ tb := tb_in (List.mem_of_getElem? (i := 574) (by decide +kernel)) (by decide +kernel)
theorem k_L_56 : Cond.methodLink R_L 56 y_M_split ∈ tb := tb_in (List.mem_of_getElem? (i := 578) (by decide +kernel)) (by decide +kernel)
theorem k_L_72 : Cond.methodLink R_L 72 y_M_form ∈ tb := tb_in (List.mem_of_getElem? (i := 582) (by decide +kernel)) (by decide +kernel)
theorem k_M_123 : Cond.methodLink R_M 123 y_M_formOf ∈ tb := tb_in (List.mem_of_getElem? (i := 586) (by decide +kernel)) (by decide +kernel)
theorem k_L_60 : Cond.methodLink R_L 60 y_M_shown ∈ tb := tb_in (List.mem_of_getElem? (i := 590) (by decide +kernel)) (by decide +kernel)
theorem k_M_127 : Cond.methodLink R_M 127 y_M_used ∈ tb := tb_in (List.mem_of_getElem? (i := 594) (by decide +kernel)) (by decide +kernel)
theorem k_L_64 : Cond.methodLink R_L 64 y_M_record ∈ tb := tb_in (List.mem_of_getElem? (i := 598) (by decide +kernel)) (by decide +kernel)
theorem k_L_68 : Cond.methodLink R_L 68 y_M_linked ∈ tb := tb_in (List.mem_of_getElem? (i := 602) (by decide +kernel)) (by decide +kernel)
theorem k_L_23 : Cond.constantLong R_L 23 (4294967295) ∈ tb := tb_in (List.mem_of_getElem? (i := 606) (by decide +kernel)) (by decide +kernel)
theorem f_O : Cond.instanceMethod objectInit ∈ tb := tb_in (List.mem_of_getElem? (i := 39) (by decide +kernel)) (by decide +kernel)
set_option maxRecDepth 100000 in
theorem f_Oc : Cond.code objectInit ⟨#[0xb1]⟩ 1 none ∈ tb := tb_in (List.mem_of_getElem? (i := 40) rfl) rfl
