section
-- ===== PART A: goes FIRST, ahead of the names: the tables' words, and 'selects' of the private methods out of them =====
/-- a private method of a class that the tables say can be made, by its rows of tables_1 -/
def lw_okq (q : MethodName × Nat) : Prop := (q.1.cls ≠ "java/lang/invoke/MethodHandle" ∧ q.1.cls ≠ "java/lang/invoke/VarHandle") ∧ Cond.instantiable q.1.cls q.2 ∈ tables_1 ∧ Cond.privateMethod q.1 ∈ tables_1 ∧ Cond.instanceMethod q.1 ∈ tables_1
theorem lw_p0 : lw_okq (⟨"AuthorityRows", "addHeading", "(I)I"⟩, 6) := ⟨⟨by decide +kernel, by decide +kernel⟩, List.mem_of_getElem? (i := 11) (by decide +kernel), List.mem_of_getElem? (i := 173) (by decide +kernel), List.mem_of_getElem? (i := 174) (by decide +kernel)⟩
theorem lw_p1 : lw_okq (⟨"AuthorityRows$Headings", "hasText", "(ILAuthorityRows$Text;)Z"⟩, 5) := ⟨⟨by decide +kernel, by decide +kernel⟩, List.mem_of_getElem? (i := 48) (by decide +kernel), List.mem_of_getElem? (i := 185) (by decide +kernel), List.mem_of_getElem? (i := 186) (by decide +kernel)⟩
theorem lw_p2 : lw_okq (⟨"AuthorityRows", "wouldChainSees", "(II)Z"⟩, 6) := ⟨⟨by decide +kernel, by decide +kernel⟩, List.mem_of_getElem? (i := 11) (by decide +kernel), List.mem_of_getElem? (i := 231) (by decide +kernel), List.mem_of_getElem? (i := 232) (by decide +kernel)⟩
theorem lw_p3 : lw_okq (⟨"AuthorityRows$Way", "measure", "(LAuthorityRows$Links;III)I"⟩, 3) := ⟨⟨by decide +kernel, by decide +kernel⟩, List.mem_of_getElem? (i := 111) (by decide +kernel), List.mem_of_getElem? (i := 245) (by decide +kernel), List.mem_of_getElem? (i := 246) (by decide +kernel)⟩
theorem lw_p4 : lw_okq (⟨"AuthorityRows$Way", "walk", "(LAuthorityRows$Links;III)V"⟩, 3) := ⟨⟨by decide +kernel, by decide +kernel⟩, List.mem_of_getElem? (i := 111) (by decide +kernel), List.mem_of_getElem? (i := 253) (by decide +kernel), List.mem_of_getElem? (i := 254) (by decide +kernel)⟩
theorem lw_p5 : lw_okq (⟨"AuthorityRows$Links", "putLater", "(IIIJ)V"⟩, 5) := ⟨⟨by decide +kernel, by decide +kernel⟩, List.mem_of_getElem? (i := 72) (by decide +kernel), List.mem_of_getElem? (i := 267) (by decide +kernel), List.mem_of_getElem? (i := 268) (by decide +kernel)⟩
theorem lw_p6 : lw_okq (⟨"AuthorityRows$Links", "removeLaterOf", "(I)V"⟩, 5) := ⟨⟨by decide +kernel, by decide +kernel⟩, List.mem_of_getElem? (i := 72) (by decide +kernel), List.mem_of_getElem? (i := 325) (by decide +kernel), List.mem_of_getElem? (i := 326) (by decide +kernel)⟩
theorem lw_p7 : lw_okq (⟨"AuthorityRows", "usedFormOf", "(I)I"⟩, 6) := ⟨⟨by decide +kernel, by decide +kernel⟩, List.mem_of_getElem? (i := 11) (by decide +kernel), List.mem_of_getElem? (i := 341) (by decide +kernel), List.mem_of_getElem? (i := 342) (by decide +kernel)⟩
theorem lw_p8 : lw_okq (⟨"AuthorityRows", "formOn", "(IJ)I"⟩, 6) := ⟨⟨by decide +kernel, by decide +kernel⟩, List.mem_of_getElem? (i := 11) (by decide +kernel), List.mem_of_getElem? (i := 345) (by decide +kernel), List.mem_of_getElem? (i := 346) (by decide +kernel)⟩
theorem lw_p9 : lw_okq (⟨"AuthorityRowsModel", "takes", "()Z"⟩, 20) := ⟨⟨by decide +kernel, by decide +kernel⟩, List.mem_of_getElem? (i := 394) (by decide +kernel), List.mem_of_getElem? (i := 470) (by decide +kernel), List.mem_of_getElem? (i := 471) (by decide +kernel)⟩
theorem lw_p10 : lw_okq (⟨"AuthorityRowsModel", "make", "(I)I"⟩, 20) := ⟨⟨by decide +kernel, by decide +kernel⟩, List.mem_of_getElem? (i := 394) (by decide +kernel), List.mem_of_getElem? (i := 474) (by decide +kernel), List.mem_of_getElem? (i := 475) (by decide +kernel)⟩
theorem lw_p11 : lw_okq (⟨"AuthorityRowsModel", "first", "(II)I"⟩, 20) := ⟨⟨by decide +kernel, by decide +kernel⟩, List.mem_of_getElem? (i := 394) (by decide +kernel), List.mem_of_getElem? (i := 478) (by decide +kernel), List.mem_of_getElem? (i := 479) (by decide +kernel)⟩
theorem lw_p12 : lw_okq (⟨"AuthorityRowsModel", "hasText", "(I)Z"⟩, 20) := ⟨⟨by decide +kernel, by decide +kernel⟩, List.mem_of_getElem? (i := 394) (by decide +kernel), List.mem_of_getElem? (i := 482) (by decide +kernel), List.mem_of_getElem? (i := 483) (by decide +kernel)⟩
theorem lw_p13 : lw_okq (⟨"AuthorityRowsModel", "lay", "(I)V"⟩, 20) := ⟨⟨by decide +kernel, by decide +kernel⟩, List.mem_of_getElem? (i := 394) (by decide +kernel), List.mem_of_getElem? (i := 489) (by decide +kernel), List.mem_of_getElem? (i := 490) (by decide +kernel)⟩
theorem lw_p14 : lw_okq (⟨"AuthorityRowsModel", "isLive", "(I)Z"⟩, 20) := ⟨⟨by decide +kernel, by decide +kernel⟩, List.mem_of_getElem? (i := 394) (by decide +kernel), List.mem_of_getElem? (i := 501) (by decide +kernel), List.mem_of_getElem? (i := 502) (by decide +kernel)⟩
theorem lw_p15 : lw_okq (⟨"AuthorityRowsModel", "linkedTo", "(I)I"⟩, 20) := ⟨⟨by decide +kernel, by decide +kernel⟩, List.mem_of_getElem? (i := 394) (by decide +kernel), List.mem_of_getElem? (i := 505) (by decide +kernel), List.mem_of_getElem? (i := 506) (by decide +kernel)⟩
def lw_privs_1 : List (MethodName × Nat) := [(⟨"AuthorityRows", "addHeading", "(I)I"⟩, 6), (⟨"AuthorityRows$Headings", "hasText", "(ILAuthorityRows$Text;)Z"⟩, 5), (⟨"AuthorityRows", "wouldChainSees", "(II)Z"⟩, 6), (⟨"AuthorityRows$Way", "measure", "(LAuthorityRows$Links;III)I"⟩, 3), (⟨"AuthorityRows$Way", "walk", "(LAuthorityRows$Links;III)V"⟩, 3), (⟨"AuthorityRows$Links", "putLater", "(IIIJ)V"⟩, 5), (⟨"AuthorityRows$Links", "removeLaterOf", "(I)V"⟩, 5), (⟨"AuthorityRows", "usedFormOf", "(I)I"⟩, 6), (⟨"AuthorityRows", "formOn", "(IJ)I"⟩, 6), (⟨"AuthorityRowsModel", "takes", "()Z"⟩, 20), (⟨"AuthorityRowsModel", "make", "(I)I"⟩, 20), (⟨"AuthorityRowsModel", "first", "(II)I"⟩, 20), (⟨"AuthorityRowsModel", "hasText", "(I)Z"⟩, 20), (⟨"AuthorityRowsModel", "lay", "(I)V"⟩, 20), (⟨"AuthorityRowsModel", "isLive", "(I)Z"⟩, 20), (⟨"AuthorityRowsModel", "linkedTo", "(I)I"⟩, 20)]
theorem lw_r1 : ∀ q ∈ lw_privs_1, lw_okq q := List.forall_mem_cons.mpr ⟨lw_p0, List.forall_mem_cons.mpr ⟨lw_p1, List.forall_mem_cons.mpr ⟨lw_p2, List.forall_mem_cons.mpr ⟨lw_p3, List.forall_mem_cons.mpr ⟨lw_p4, List.forall_mem_cons.mpr ⟨lw_p5, List.forall_mem_cons.mpr ⟨lw_p6, List.forall_mem_cons.mpr ⟨lw_p7, List.forall_mem_cons.mpr ⟨lw_p8, List.forall_mem_cons.mpr ⟨lw_p9, List.forall_mem_cons.mpr ⟨lw_p10, List.forall_mem_cons.mpr ⟨lw_p11, List.forall_mem_cons.mpr ⟨lw_p12, List.forall_mem_cons.mpr ⟨lw_p13, List.forall_mem_cons.mpr ⟨lw_p14, List.forall_mem_cons.mpr ⟨lw_p15, fun _ h => absurd h List.not_mem_nil⟩⟩⟩⟩⟩⟩⟩⟩⟩⟩⟩⟩⟩⟩⟩⟩
theorem lw_p16 : lw_okq (⟨"AuthorityRowsModel", "has", "(III)Z"⟩, 20) := ⟨⟨by decide +kernel, by decide +kernel⟩, List.mem_of_getElem? (i := 394) (by decide +kernel), List.mem_of_getElem? (i := 517) (by decide +kernel), List.mem_of_getElem? (i := 518) (by decide +kernel)⟩
theorem lw_p17 : lw_okq (⟨"AuthorityRowsModel", "is", "(IIII)Z"⟩, 20) := ⟨⟨by decide +kernel, by decide +kernel⟩, List.mem_of_getElem? (i := 394) (by decide +kernel), List.mem_of_getElem? (i := 521) (by decide +kernel), List.mem_of_getElem? (i := 522) (by decide +kernel)⟩
theorem lw_p18 : lw_okq (⟨"AuthorityRowsModel", "measure", "(IIZ)V"⟩, 20) := ⟨⟨by decide +kernel, by decide +kernel⟩, List.mem_of_getElem? (i := 394) (by decide +kernel), List.mem_of_getElem? (i := 525) (by decide +kernel), List.mem_of_getElem? (i := 526) (by decide +kernel)⟩
theorem lw_p19 : lw_okq (⟨"AuthorityRowsModel", "ways", "(III)V"⟩, 20) := ⟨⟨by decide +kernel, by decide +kernel⟩, List.mem_of_getElem? (i := 394) (by decide +kernel), List.mem_of_getElem? (i := 529) (by decide +kernel), List.mem_of_getElem? (i := 530) (by decide +kernel)⟩
theorem lw_p20 : lw_okq (⟨"AuthorityRowsModel", "add", "(IIIJ)V"⟩, 20) := ⟨⟨by decide +kernel, by decide +kernel⟩, List.mem_of_getElem? (i := 394) (by decide +kernel), List.mem_of_getElem? (i := 533) (by decide +kernel), List.mem_of_getElem? (i := 534) (by decide +kernel)⟩
theorem lw_p21 : lw_okq (⟨"AuthorityRowsModel", "formOf", "(IJ)I"⟩, 20) := ⟨⟨by decide +kernel, by decide +kernel⟩, List.mem_of_getElem? (i := 394) (by decide +kernel), List.mem_of_getElem? (i := 561) (by decide +kernel), List.mem_of_getElem? (i := 562) (by decide +kernel)⟩
theorem lw_p22 : lw_okq (⟨"AuthorityRowsModel", "used", "(I)I"⟩, 20) := ⟨⟨by decide +kernel, by decide +kernel⟩, List.mem_of_getElem? (i := 394) (by decide +kernel), List.mem_of_getElem? (i := 569) (by decide +kernel), List.mem_of_getElem? (i := 570) (by decide +kernel)⟩
def lw_privs_2 : List (MethodName × Nat) := [(⟨"AuthorityRowsModel", "has", "(III)Z"⟩, 20), (⟨"AuthorityRowsModel", "is", "(IIII)Z"⟩, 20), (⟨"AuthorityRowsModel", "measure", "(IIZ)V"⟩, 20), (⟨"AuthorityRowsModel", "ways", "(III)V"⟩, 20), (⟨"AuthorityRowsModel", "add", "(IIIJ)V"⟩, 20), (⟨"AuthorityRowsModel", "formOf", "(IJ)I"⟩, 20), (⟨"AuthorityRowsModel", "used", "(I)I"⟩, 20)]
theorem lw_r2 : ∀ q ∈ lw_privs_2, lw_okq q := List.forall_mem_cons.mpr ⟨lw_p16, List.forall_mem_cons.mpr ⟨lw_p17, List.forall_mem_cons.mpr ⟨lw_p18, List.forall_mem_cons.mpr ⟨lw_p19, List.forall_mem_cons.mpr ⟨lw_p20, List.forall_mem_cons.mpr ⟨lw_p21, List.forall_mem_cons.mpr ⟨lw_p22, fun _ h => absurd h List.not_mem_nil⟩⟩⟩⟩⟩⟩⟩
def lw_privs : List (MethodName × Nat) := lw_privs_1 ++ (lw_privs_2)
def lw_tbl : List Cond := k2_sels lw_privs ++ tables_1
theorem lw_privs_ok : ∀ q ∈ lw_privs, lw_okq q := by
  show ∀ q ∈ lw_privs_1 ++ (lw_privs_2), lw_okq q
  exact List.forall_mem_append.mpr ⟨lw_r1, lw_r2⟩
end
section
def R_C : String := "AuthorityRows$Collected"
def R_T : String := "AuthorityRows$Text"
def R_H : String := "AuthorityRows$Headings"
def R_K : String := "AuthorityRows$Links"
def R_R : String := "AuthorityRows$Records"
def R_Y : String := "AuthorityRows$Way"
def R_A : String := "AuthorityRows"
def R_M : String := "AuthorityRowsModel"
def R_J : String := "java/lang/Long"
def R_L : String := "AuthorityRowsLaw"
def F_C : u_T := fun k => match k with
  | 0 => ("AuthorityRows$Collected", "signs", "[C", true)
  | _ => ("AuthorityRows$Collected", "count", "I", false)
def ft_C : Nat → FieldType := fun k => match k with
  | 0 => .array .char
  | _ => .int
theorem n_C : ∀ a, a < 2 → ∀ b, b < 2 → a ≠ b → (F_C a).2.1 ≠ (F_C b).2.1 := by decide +kernel
theorem ft_C_ok : ∀ k, k < 2 → parseFieldDescriptor (F_C k).2.2.1 = some (ft_C k) := by decide +kernel
def F_T : u_T := fun k => match k with
  | 0 => ("AuthorityRows$Text", "letters", "[C", true)
  | _ => ("AuthorityRows$Text", "length", "I", false)
def ft_T : Nat → FieldType := fun k => match k with
  | 0 => .array .char
  | _ => .int
theorem n_T : ∀ a, a < 2 → ∀ b, b < 2 → a ≠ b → (F_T a).2.1 ≠ (F_T b).2.1 := by decide +kernel
theorem ft_T_ok : ∀ k, k < 2 → parseFieldDescriptor (F_T k).2.2.1 = some (ft_T k) := by decide +kernel
def F_H : u_T := fun k => match k with
  | 0 => ("AuthorityRows$Headings", "kinds", "[I", true)
  | 1 => ("AuthorityRows$Headings", "live", "[Z", true)
  | 2 => ("AuthorityRows$Headings", "letters", "[C", true)
  | 3 => ("AuthorityRows$Headings", "lengths", "[I", true)
  | _ => ("AuthorityRows$Headings", "count", "I", false)
def ft_H : Nat → FieldType := fun k => match k with
  | 0 => .array .int
  | 1 => .array .boolean
  | 2 => .array .char
  | 3 => .array .int
  | _ => .int
theorem n_H : ∀ a, a < 5 → ∀ b, b < 5 → a ≠ b → (F_H a).2.1 ≠ (F_H b).2.1 := by decide +kernel
theorem ft_H_ok : ∀ k, k < 5 → parseFieldDescriptor (F_H k).2.2.1 = some (ft_H k) := by decide +kernel
def F_K : u_T := fun k => match k with
  | 0 => ("AuthorityRows$Links", "targets", "[J", true)
  | 1 => ("AuthorityRows$Links", "laterFrom", "[I", true)
  | 2 => ("AuthorityRows$Links", "laterTo", "[I", true)
  | 3 => ("AuthorityRows$Links", "laterDay", "[J", true)
  | _ => ("AuthorityRows$Links", "laterCount", "I", false)
def ft_K : Nat → FieldType := fun k => match k with
  | 0 => .array .long
  | 1 => .array .int
  | 2 => .array .int
  | 3 => .array .long
  | _ => .int
theorem n_K : ∀ a, a < 5 → ∀ b, b < 5 → a ≠ b → (F_K a).2.1 ≠ (F_K b).2.1 := by decide +kernel
theorem ft_K_ok : ∀ k, k < 5 → parseFieldDescriptor (F_K k).2.2.1 = some (ft_K k) := by decide +kernel
def F_R : u_T := fun k => match k with
  | 0 => ("AuthorityRows$Records", "headings", "[I", true)
  | 1 => ("AuthorityRows$Records", "days", "[J", true)
  | _ => ("AuthorityRows$Records", "count", "I", false)
def ft_R : Nat → FieldType := fun k => match k with
  | 0 => .array .int
  | 1 => .array .long
  | _ => .int
theorem n_R : ∀ a, a < 3 → ∀ b, b < 3 → a ≠ b → (F_R a).2.1 ≠ (F_R b).2.1 := by decide +kernel
theorem ft_R_ok : ∀ k, k < 3 → parseFieldDescriptor (F_R k).2.2.1 = some (ft_R k) := by decide +kernel
def F_Y : u_T := fun k => match k with
  | 0 => ("AuthorityRows$Way", "stops", "[I", true)
  | 1 => ("AuthorityRows$Way", "length", "I", false)
  | _ => ("AuthorityRows$Way", "awayFromEnd", "[J", true)
def ft_Y : Nat → FieldType := fun k => match k with
  | 0 => .array .int
  | 1 => .int
  | _ => .array .long
theorem n_Y : ∀ a, a < 3 → ∀ b, b < 3 → a ≠ b → (F_Y a).2.1 ≠ (F_Y b).2.1 := by decide +kernel
theorem ft_Y_ok : ∀ k, k < 3 → parseFieldDescriptor (F_Y k).2.2.1 = some (ft_Y k) := by decide +kernel
def F_A : u_T := fun k => match k with
  | 0 => ("AuthorityRows", "collected", "LAuthorityRows$Collected;", true)
  | 1 => ("AuthorityRows", "text", "LAuthorityRows$Text;", true)
  | 2 => ("AuthorityRows", "headings", "LAuthorityRows$Headings;", true)
  | 3 => ("AuthorityRows", "links", "LAuthorityRows$Links;", true)
  | 4 => ("AuthorityRows", "records", "LAuthorityRows$Records;", true)
  | _ => ("AuthorityRows", "closedWay", "LAuthorityRows$Way;", true)
def ft_A : Nat → FieldType := fun k => match k with
  | 0 => .object "AuthorityRows$Collected"
  | 1 => .object "AuthorityRows$Text"
  | 2 => .object "AuthorityRows$Headings"
  | 3 => .object "AuthorityRows$Links"
  | 4 => .object "AuthorityRows$Records"
  | _ => .object "AuthorityRows$Way"
theorem n_A : ∀ a, a < 6 → ∀ b, b < 6 → a ≠ b → (F_A a).2.1 ≠ (F_A b).2.1 := by decide +kernel
theorem ft_A_ok : ∀ k, k < 6 → parseFieldDescriptor (F_A k).2.2.1 = some (ft_A k) := by decide +kernel
def F_M : u_T := fun k => match k with
  | 0 => ("AuthorityRowsModel", "thrown", "I", false)
  | 1 => ("AuthorityRowsModel", "said", "[B", true)
  | 2 => ("AuthorityRowsModel", "size", "I", false)
  | 3 => ("AuthorityRowsModel", "headings", "I", false)
  | 4 => ("AuthorityRowsModel", "kinds", "[I", true)
  | 5 => ("AuthorityRowsModel", "live", "[Z", true)
  | 6 => ("AuthorityRowsModel", "texts", "[B", true)
  | 7 => ("AuthorityRowsModel", "sizes", "[I", true)
  | 8 => ("AuthorityRowsModel", "links", "I", false)
  | 9 => ("AuthorityRowsModel", "linkSort", "[I", true)
  | 10 => ("AuthorityRowsModel", "linkFrom", "[I", true)
  | 11 => ("AuthorityRowsModel", "linkTo", "[I", true)
  | 12 => ("AuthorityRowsModel", "linkDay", "[J", true)
  | 13 => ("AuthorityRowsModel", "records", "I", false)
  | 14 => ("AuthorityRowsModel", "linked", "[I", true)
  | 15 => ("AuthorityRowsModel", "recordDay", "[J", true)
  | 16 => ("AuthorityRowsModel", "way", "[I", true)
  | 17 => ("AuthorityRowsModel", "wayLength", "I", false)
  | 18 => ("AuthorityRowsModel", "distance", "[I", true)
  | _ => ("AuthorityRowsModel", "collected", "I", false)
def ft_M : Nat → FieldType := fun k => match k with
  | 0 => .int
  | 1 => .array .byte
  | 2 => .int
  | 3 => .int
  | 4 => .array .int
  | 5 => .array .boolean
  | 6 => .array .byte
  | 7 => .array .int
  | 8 => .int
  | 9 => .array .int
  | 10 => .array .int
  | 11 => .array .int
  | 12 => .array .long
  | 13 => .int
  | 14 => .array .int
  | 15 => .array .long
  | 16 => .array .int
  | 17 => .int
  | 18 => .array .int
  | _ => .int
theorem n_M : ∀ a, a < 20 → ∀ b, b < 20 → a ≠ b → (F_M a).2.1 ≠ (F_M b).2.1 := by decide +kernel
theorem ft_M_ok : ∀ k, k < 20 → parseFieldDescriptor (F_M k).2.2.1 = some (ft_M k) := by decide +kernel
abbrev classes : List vw_C := [(R_C, F_C, 2), (R_T, F_T, 2), (R_H, F_H, 5), (R_K, F_K, 5), (R_R, F_R, 3), (R_Y, F_Y, 3), (R_A, F_A, 6), (R_M, F_M, 20)]
def tb : List Cond := lw_tbl.filter goodWord
theorem tb_in {w : Cond} (h : w ∈ lw_tbl) (g : goodWord w = true) : w ∈ tb := List.mem_filter.mpr ⟨h, g⟩
theorem tb_lw {w : Cond} (h : w ∈ tb) : w ∈ lw_tbl := (List.mem_filter.mp h).1
theorem i0_C : ∀ w ∈ u_ws R_C F_C 2, w ∈ lw_tbl ∧ goodWord w = true := by decide +kernel
theorem i_C : ∀ w ∈ u_ws R_C F_C 2, w ∈ tb := fun w h => tb_in (i0_C w h).1 (i0_C w h).2
theorem i0_T : ∀ w ∈ u_ws R_T F_T 2, w ∈ lw_tbl ∧ goodWord w = true := by decide +kernel
theorem i_T : ∀ w ∈ u_ws R_T F_T 2, w ∈ tb := fun w h => tb_in (i0_T w h).1 (i0_T w h).2
theorem i0_H : ∀ w ∈ u_ws R_H F_H 5, w ∈ lw_tbl ∧ goodWord w = true := by decide +kernel
theorem i_H : ∀ w ∈ u_ws R_H F_H 5, w ∈ tb := fun w h => tb_in (i0_H w h).1 (i0_H w h).2
theorem i0_K : ∀ w ∈ u_ws R_K F_K 5, w ∈ lw_tbl ∧ goodWord w = true := by decide +kernel
theorem i_K : ∀ w ∈ u_ws R_K F_K 5, w ∈ tb := fun w h => tb_in (i0_K w h).1 (i0_K w h).2
theorem i0_R : ∀ w ∈ u_ws R_R F_R 3, w ∈ lw_tbl ∧ goodWord w = true := by decide +kernel
theorem i_R : ∀ w ∈ u_ws R_R F_R 3, w ∈ tb := fun w h => tb_in (i0_R w h).1 (i0_R w h).2
theorem i0_Y : ∀ w ∈ u_ws R_Y F_Y 3, w ∈ lw_tbl ∧ goodWord w = true := by decide +kernel
theorem i_Y : ∀ w ∈ u_ws R_Y F_Y 3, w ∈ tb := fun w h => tb_in (i0_Y w h).1 (i0_Y w h).2
theorem i0_A : ∀ w ∈ u_ws R_A F_A 6, w ∈ lw_tbl ∧ goodWord w = true := by decide +kernel
theorem i_A : ∀ w ∈ u_ws R_A F_A 6, w ∈ tb := fun w h => tb_in (i0_A w h).1 (i0_A w h).2
theorem i0_M : ∀ w ∈ u_ws R_M F_M 20, w ∈ lw_tbl ∧ goodWord w = true := by decide +kernel
theorem i_M : ∀ w ∈ u_ws R_M F_M 20, w ∈ tb := fun w h => tb_in (i0_M w h).1 (i0_M w h).2
abbrev b_A_init : ByteArray := prog_1_method_1_code
def y_A_init : MethodName := ⟨R_A, "<init>", "()V"⟩
abbrev b_C_init : ByteArray := prog_2_method_1_code
def y_C_init : MethodName := ⟨R_C, "<init>", "()V"⟩
abbrev b_T_init : ByteArray := prog_6_method_1_code
def y_T_init : MethodName := ⟨R_T, "<init>", "()V"⟩
abbrev b_H_init : ByteArray := prog_3_method_1_code
def y_H_init : MethodName := ⟨R_H, "<init>", "()V"⟩
abbrev b_K_init : ByteArray := prog_4_method_1_code
def y_K_init : MethodName := ⟨R_K, "<init>", "()V"⟩
abbrev b_R_init : ByteArray := prog_5_method_1_code
def y_R_init : MethodName := ⟨R_R, "<init>", "()V"⟩
abbrev b_Y_init : ByteArray := prog_7_method_1_code
def y_Y_init : MethodName := ⟨R_Y, "<init>", "()V"⟩
abbrev b_A_sign : ByteArray := prog_1_method_2_code
def y_A_sign : MethodName := ⟨R_A, "sign", "(I)V"⟩
abbrev b_C_add : ByteArray := prog_2_method_2_code
def y_C_add : MethodName := ⟨R_C, "add", "(C)V"⟩
abbrev b_A_heading : ByteArray := prog_1_method_3_code
def y_A_heading : MethodName := ⟨R_A, "heading", "(I)I"⟩
abbrev b_C_moveTo : ByteArray := prog_2_method_3_code
def y_C_moveTo : MethodName := ⟨R_C, "moveTo", "(LAuthorityRows$Text;)Z"⟩
abbrev b_T_clear : ByteArray := prog_6_method_2_code
def y_T_clear : MethodName := ⟨R_T, "clear", "()V"⟩
abbrev b_C_isLetterOrDigit : ByteArray := prog_2_method_4_code
def y_C_isLetterOrDigit : MethodName := ⟨R_C, "isLetterOrDigit", "(C)Z"⟩
abbrev b_T_add : ByteArray := prog_6_method_3_code
def y_T_add : MethodName := ⟨R_T, "add", "(C)V"⟩
abbrev b_A_addHeading : ByteArray := prog_1_method_17_code
def y_A_addHeading : MethodName := ⟨R_A, "addHeading", "(I)I"⟩
abbrev b_H_isFull : ByteArray := prog_3_method_2_code
def y_H_isFull : MethodName := ⟨R_H, "isFull", "()Z"⟩
abbrev b_H_firstOfKind : ByteArray := prog_3_method_11_code
def y_H_firstOfKind : MethodName := ⟨R_H, "firstOfKind", "(ILAuthorityRows$Text;I)I"⟩
abbrev b_H_hasText : ByteArray := prog_3_method_12_code
def y_H_hasText : MethodName := ⟨R_H, "hasText", "(ILAuthorityRows$Text;)Z"⟩
abbrev b_H_small : ByteArray := prog_3_method_13_code
def y_H_small : MethodName := ⟨R_H, "small", "(C)I"⟩
abbrev b_H_add : ByteArray := prog_3_method_6_code
def y_H_add : MethodName := ⟨R_H, "add", "(ILAuthorityRows$Text;)I"⟩
abbrev b_H_setText : ByteArray := prog_3_method_8_code
def y_H_setText : MethodName := ⟨R_H, "setText", "(ILAuthorityRows$Text;)V"⟩
abbrev b_H_isThere : ByteArray := prog_3_method_3_code
def y_H_isThere : MethodName := ⟨R_H, "isThere", "(I)Z"⟩
abbrev b_A_link : ByteArray := prog_1_method_4_code
def y_A_link : MethodName := ⟨R_A, "link", "(IIIJ)I"⟩
abbrev b_H_isLive : ByteArray := prog_3_method_4_code
def y_H_isLive : MethodName := ⟨R_H, "isLive", "(I)Z"⟩
abbrev b_K_has : ByteArray := prog_4_method_3_code
def y_K_has : MethodName := ⟨R_K, "has", "(III)Z"⟩
abbrev b_K_targetsOf : ByteArray := prog_4_method_4_code
def y_K_targetsOf : MethodName := ⟨R_K, "targetsOf", "(II)J"⟩
abbrev b_A_holds : ByteArray := prog_1_method_22_code
def y_A_holds : MethodName := ⟨R_A, "holds", "(JI)Z"⟩
abbrev b_A_setOf : ByteArray := prog_1_method_21_code
def y_A_setOf : MethodName := ⟨R_A, "setOf", "(I)J"⟩
abbrev b_K_isFull : ByteArray := prog_4_method_2_code
def y_K_isFull : MethodName := ⟨R_K, "isFull", "()Z"⟩
abbrev b_A_wouldChainSees : ByteArray := prog_1_method_18_code
def y_A_wouldChainSees : MethodName := ⟨R_A, "wouldChainSees", "(II)Z"⟩
abbrev b_K_sourcesOf : ByteArray := prog_4_method_6_code
def y_K_sourcesOf : MethodName := ⟨R_K, "sourcesOf", "(IJ)J"⟩
abbrev b_Y_lay : ByteArray := prog_7_method_3_code
def y_Y_lay : MethodName := ⟨R_Y, "lay", "(LAuthorityRows$Links;III)Z"⟩
abbrev b_Y_measure : ByteArray := prog_7_method_4_code
def y_Y_measure : MethodName := ⟨R_Y, "measure", "(LAuthorityRows$Links;III)I"⟩
abbrev b_Y_walk : ByteArray := prog_7_method_5_code
def y_Y_walk : MethodName := ⟨R_Y, "walk", "(LAuthorityRows$Links;III)V"⟩
abbrev b_A_nthOf : ByteArray := prog_1_method_23_code
def y_A_nthOf : MethodName := ⟨R_A, "nthOf", "(JI)I"⟩
abbrev b_K_add : ByteArray := prog_4_method_7_code
def y_K_add : MethodName := ⟨R_K, "add", "(IIIJ)V"⟩
abbrev b_K_putLater : ByteArray := prog_4_method_11_code
def y_K_putLater : MethodName := ⟨R_K, "putLater", "(IIIJ)V"⟩
abbrev b_A_rename : ByteArray := prog_1_method_5_code
def y_A_rename : MethodName := ⟨R_A, "rename", "(I)I"⟩
abbrev b_H_kindOf : ByteArray := prog_3_method_5_code
def y_H_kindOf : MethodName := ⟨R_H, "kindOf", "(I)I"⟩
abbrev b_R_countOf : ByteArray := prog_5_method_5_code
def y_R_countOf : MethodName := ⟨R_R, "countOf", "(I)I"⟩
abbrev b_A_find : ByteArray := prog_1_method_6_code
def y_A_find : MethodName := ⟨R_A, "find", "()I"⟩
abbrev b_H_firstOfAnyKind : ByteArray := prog_3_method_10_code
def y_H_firstOfAnyKind : MethodName := ⟨R_H, "firstOfAnyKind", "(LAuthorityRows$Text;)I"⟩
abbrev b_A_see : ByteArray := prog_1_method_7_code
def y_A_see : MethodName := ⟨R_A, "see", "(II)I"⟩
abbrev b_A_broader : ByteArray := prog_1_method_8_code
def y_A_broader : MethodName := ⟨R_A, "broader", "(II)I"⟩
abbrev b_J_bitCount : ByteArray := prog_10_method_50_code
def y_J_bitCount : MethodName := ⟨R_J, "bitCount", "(J)I"⟩
abbrev b_K_targetsOfAll : ByteArray := prog_4_method_5_code
def y_K_targetsOfAll : MethodName := ⟨R_K, "targetsOfAll", "(IJ)J"⟩
abbrev b_A_delete : ByteArray := prog_1_method_9_code
def y_A_delete : MethodName := ⟨R_A, "delete", "(I)I"⟩
abbrev b_H_end : ByteArray := prog_3_method_7_code
def y_H_end : MethodName := ⟨R_H, "end", "(I)V"⟩
abbrev b_K_removeAllOf : ByteArray := prog_4_method_8_code
def y_K_removeAllOf : MethodName := ⟨R_K, "removeAllOf", "(I)V"⟩
abbrev b_K_removeLaterOf : ByteArray := prog_4_method_10_code
def y_K_removeLaterOf : MethodName := ⟨R_K, "removeLaterOf", "(I)V"⟩
abbrev b_A_split : ByteArray := prog_1_method_10_code
def y_A_split : MethodName := ⟨R_A, "split", "(IJ)I"⟩
abbrev b_R_move : ByteArray := prog_5_method_6_code
def y_R_move : MethodName := ⟨R_R, "move", "(IIJ)V"⟩
abbrev b_A_shown : ByteArray := prog_1_method_11_code
def y_A_shown : MethodName := ⟨R_A, "shown", "(IJ)I"⟩
abbrev b_A_usedFormOf : ByteArray := prog_1_method_19_code
def y_A_usedFormOf : MethodName := ⟨R_A, "usedFormOf", "(I)I"⟩
abbrev b_A_formOn : ByteArray := prog_1_method_20_code
def y_A_formOn : MethodName := ⟨R_A, "formOn", "(IJ)I"⟩
abbrev b_K_latestOn : ByteArray := prog_4_method_9_code
def y_K_latestOn : MethodName := ⟨R_K, "latestOn", "(IJ)I"⟩
abbrev b_A_record : ByteArray := prog_1_method_12_code
def y_A_record : MethodName := ⟨R_A, "record", "(IJ)I"⟩
abbrev b_R_isFull : ByteArray := prog_5_method_2_code
def y_R_isFull : MethodName := ⟨R_R, "isFull", "()Z"⟩
abbrev b_R_add : ByteArray := prog_5_method_3_code
def y_R_add : MethodName := ⟨R_R, "add", "(IJ)I"⟩
abbrev b_A_linked : ByteArray := prog_1_method_13_code
def y_A_linked : MethodName := ⟨R_A, "linked", "(I)I"⟩
abbrev b_R_headingOf : ByteArray := prog_5_method_4_code
def y_R_headingOf : MethodName := ⟨R_R, "headingOf", "(I)I"⟩
abbrev b_A_form : ByteArray := prog_1_method_14_code
def y_A_form : MethodName := ⟨R_A, "form", "(IJ)I"⟩
abbrev b_A_ring : ByteArray := prog_1_method_15_code
def y_A_ring : MethodName := ⟨R_A, "ring", "(I)I"⟩
abbrev b_Y_at : ByteArray := prog_7_method_2_code
def y_Y_at : MethodName := ⟨R_Y, "at", "(I)I"⟩
abbrev b_A_letter : ByteArray := prog_1_method_16_code
def y_A_letter : MethodName := ⟨R_A, "letter", "(II)I"⟩
abbrev b_H_letterOf : ByteArray := prog_3_method_9_code
def y_H_letterOf : MethodName := ⟨R_H, "letterOf", "(II)I"⟩
abbrev b_M_init : ByteArray := prog_9_method_1_code
def y_M_init : MethodName := ⟨R_M, "<init>", "()V"⟩
abbrev b_M_sign : ByteArray := prog_9_method_3_code
def y_M_sign : MethodName := ⟨R_M, "sign", "(I)V"⟩
abbrev b_M_heading : ByteArray := prog_9_method_11_code
def y_M_heading : MethodName := ⟨R_M, "heading", "(I)I"⟩
abbrev b_M_takes : ByteArray := prog_9_method_4_code
def y_M_takes : MethodName := ⟨R_M, "takes", "()Z"⟩
abbrev b_M_make : ByteArray := prog_9_method_10_code
def y_M_make : MethodName := ⟨R_M, "make", "(I)I"⟩
abbrev b_M_first : ByteArray := prog_9_method_8_code
def y_M_first : MethodName := ⟨R_M, "first", "(II)I"⟩
abbrev b_M_hasText : ByteArray := prog_9_method_6_code
def y_M_hasText : MethodName := ⟨R_M, "hasText", "(I)Z"⟩
abbrev b_M_small : ByteArray := prog_9_method_5_code
def y_M_small : MethodName := ⟨R_M, "small", "(I)I"⟩
abbrev b_M_lay : ByteArray := prog_9_method_7_code
def y_M_lay : MethodName := ⟨R_M, "lay", "(I)V"⟩
abbrev b_M_find : ByteArray := prog_9_method_12_code
def y_M_find : MethodName := ⟨R_M, "find", "()I"⟩
abbrev b_M_rename : ByteArray := prog_9_method_14_code
def y_M_rename : MethodName := ⟨R_M, "rename", "(I)I"⟩
abbrev b_M_isLive : ByteArray := prog_9_method_9_code
def y_M_isLive : MethodName := ⟨R_M, "isLive", "(I)Z"⟩
abbrev b_M_linkedTo : ByteArray := prog_9_method_13_code
def y_M_linkedTo : MethodName := ⟨R_M, "linkedTo", "(I)I"⟩
abbrev b_M_letter : ByteArray := prog_9_method_15_code
def y_M_letter : MethodName := ⟨R_M, "letter", "(II)I"⟩
abbrev b_M_link : ByteArray := prog_9_method_21_code
def y_M_link : MethodName := ⟨R_M, "link", "(IIIJ)I"⟩
abbrev b_M_has : ByteArray := prog_9_method_17_code
def y_M_has : MethodName := ⟨R_M, "has", "(III)Z"⟩
abbrev b_M_is : ByteArray := prog_9_method_16_code
def y_M_is : MethodName := ⟨R_M, "is", "(IIII)Z"⟩
abbrev b_M_measure : ByteArray := prog_9_method_19_code
def y_M_measure : MethodName := ⟨R_M, "measure", "(IIZ)V"⟩
abbrev b_M_ways : ByteArray := prog_9_method_20_code
def y_M_ways : MethodName := ⟨R_M, "ways", "(III)V"⟩
abbrev b_M_add : ByteArray := prog_9_method_18_code
def y_M_add : MethodName := ⟨R_M, "add", "(IIIJ)V"⟩
abbrev b_M_ring : ByteArray := prog_9_method_22_code
def y_M_ring : MethodName := ⟨R_M, "ring", "(I)I"⟩
abbrev b_M_see : ByteArray := prog_9_method_23_code
def y_M_see : MethodName := ⟨R_M, "see", "(II)I"⟩
abbrev b_M_broader : ByteArray := prog_9_method_24_code
def y_M_broader : MethodName := ⟨R_M, "broader", "(II)I"⟩
abbrev b_M_delete : ByteArray := prog_9_method_25_code
def y_M_delete : MethodName := ⟨R_M, "delete", "(I)I"⟩
abbrev b_M_split : ByteArray := prog_9_method_26_code
def y_M_split : MethodName := ⟨R_M, "split", "(IJ)I"⟩
abbrev b_M_form : ByteArray := prog_9_method_29_code
def y_M_form : MethodName := ⟨R_M, "form", "(IJ)I"⟩
abbrev b_M_formOf : ByteArray := prog_9_method_28_code
def y_M_formOf : MethodName := ⟨R_M, "formOf", "(IJ)I"⟩
abbrev b_M_shown : ByteArray := prog_9_method_30_code
def y_M_shown : MethodName := ⟨R_M, "shown", "(IJ)I"⟩
abbrev b_M_used : ByteArray := prog_9_method_27_code
def y_M_used : MethodName := ⟨R_M, "used", "(I)I"⟩
abbrev b_M_record : ByteArray := prog_9_method_31_code
def y_M_record : MethodName := ⟨R_M, "record", "(IJ)I"⟩
abbrev b_M_linked : ByteArray := prog_9_method_32_code
def y_M_linked : MethodName := ⟨R_M, "linked", "(I)I"⟩
abbrev b_L_law : ByteArray := code
/-- what a method is, for its callers -/
def MF (y : MethodName) (b : ByteArray) (n : Nat) (ret : Option FieldType) (k : Nat) : Prop := Cond.code y b n ret ∈ tb ∧ Cond.initialized y.cls ∈ tb ∧ y.cls ≠ "java/lang/invoke/MethodHandle" ∧ y.cls ≠ "java/lang/invoke/VarHandle" ∧ (parseMethodDescriptor y.desc).map (fun d => d.parameters.length) = some k
def MFi (y : MethodName) (b : ByteArray) (n : Nat) (ret : Option FieldType) (k : Nat) : Prop := MF y b n ret k ∧ Cond.instanceMethod y ∈ tb
def MFv (y : MethodName) (b : ByteArray) (n : Nat) (ret : Option FieldType) (k : Nat) : Prop := MF y b n ret k ∧ Cond.instanceMethod y ∈ tb ∧ Cond.selects y.cls y y ∈ tb
def MFs (y : MethodName) (b : ByteArray) (n : Nat) (ret : Option FieldType) (k : Nat) : Prop := MF y b n ret k ∧ Cond.static y ∈ tb
set_option maxRecDepth 100000 in
theorem f_A_init : MFi y_A_init b_A_init 1 none 0 := ⟨⟨tb_in (List.mem_of_getElem? (i := 37) rfl) rfl, tb_in (List.mem_of_getElem? (i := 24) (by decide +kernel)) (by decide +kernel), by decide +kernel, by decide +kernel, by decide +kernel⟩, tb_in (List.mem_of_getElem? (i := 36) (by decide +kernel)) (by decide +kernel)⟩
set_option maxRecDepth 100000 in
theorem f_C_init : MFi y_C_init b_C_init 1 none 0 := ⟨⟨tb_in (List.mem_of_getElem? (i := 45) rfl) rfl, tb_in (List.mem_of_getElem? (i := 25) (by decide +kernel)) (by decide +kernel), by decide +kernel, by decide +kernel, by decide +kernel⟩, tb_in (List.mem_of_getElem? (i := 44) (by decide +kernel)) (by decide +kernel)⟩
set_option maxRecDepth 100000 in
theorem f_T_init : MFi y_T_init b_T_init 1 none 0 := ⟨⟨tb_in (List.mem_of_getElem? (i := 59) rfl) rfl, tb_in (List.mem_of_getElem? (i := 26) (by decide +kernel)) (by decide +kernel), by decide +kernel, by decide +kernel, by decide +kernel⟩, tb_in (List.mem_of_getElem? (i := 58) (by decide +kernel)) (by decide +kernel)⟩
set_option maxRecDepth 100000 in
theorem f_H_init : MFi y_H_init b_H_init 1 none 0 := ⟨⟨tb_in (List.mem_of_getElem? (i := 74) rfl) rfl, tb_in (List.mem_of_getElem? (i := 27) (by decide +kernel)) (by decide +kernel), by decide +kernel, by decide +kernel, by decide +kernel⟩, tb_in (List.mem_of_getElem? (i := 73) (by decide +kernel)) (by decide +kernel)⟩
set_option maxRecDepth 100000 in
theorem f_K_init : MFi y_K_init b_K_init 1 none 0 := ⟨⟨tb_in (List.mem_of_getElem? (i := 98) rfl) rfl, tb_in (List.mem_of_getElem? (i := 28) (by decide +kernel)) (by decide +kernel), by decide +kernel, by decide +kernel, by decide +kernel⟩, tb_in (List.mem_of_getElem? (i := 97) (by decide +kernel)) (by decide +kernel)⟩
set_option maxRecDepth 100000 in
theorem f_R_init : MFi y_R_init b_R_init 1 none 0 := ⟨⟨tb_in (List.mem_of_getElem? (i := 121) rfl) rfl, tb_in (List.mem_of_getElem? (i := 29) (by decide +kernel)) (by decide +kernel), by decide +kernel, by decide +kernel, by decide +kernel⟩, tb_in (List.mem_of_getElem? (i := 120) (by decide +kernel)) (by decide +kernel)⟩
set_option maxRecDepth 100000 in
theorem f_Y_init : MFi y_Y_init b_Y_init 1 none 0 := ⟨⟨tb_in (List.mem_of_getElem? (i := 137) rfl) rfl, tb_in (List.mem_of_getElem? (i := 30) (by decide +kernel)) (by decide +kernel), by decide +kernel, by decide +kernel, by decide +kernel⟩, tb_in (List.mem_of_getElem? (i := 136) (by decide +kernel)) (by decide +kernel)⟩
set_option maxRecDepth 100000 in
theorem f_A_sign : MFv y_A_sign b_A_sign 2 none 1 := ⟨⟨tb_in (List.mem_of_getElem? (i := 171) rfl) rfl, tb_in (List.mem_of_getElem? (i := 24) (by decide +kernel)) (by decide +kernel), by decide +kernel, by decide +kernel, by decide +kernel⟩, tb_in (List.mem_of_getElem? (i := 169) (by decide +kernel)) (by decide +kernel), tb_in (List.mem_of_getElem? (i := 170) (by decide +kernel)) (by decide +kernel)⟩
set_option maxRecDepth 100000 in
theorem f_C_add : MFv y_C_add b_C_add 2 none 1 := ⟨⟨tb_in (List.mem_of_getElem? (i := 175) rfl) rfl, tb_in (List.mem_of_getElem? (i := 25) (by decide +kernel)) (by decide +kernel), by decide +kernel, by decide +kernel, by decide +kernel⟩, tb_in (List.mem_of_getElem? (i := 173) (by decide +kernel)) (by decide +kernel), tb_in (List.mem_of_getElem? (i := 174) (by decide +kernel)) (by decide +kernel)⟩
set_option maxRecDepth 100000 in
theorem f_A_heading : MFv y_A_heading b_A_heading 2 (some .int) 1 := ⟨⟨tb_in (List.mem_of_getElem? (i := 179) rfl) rfl, tb_in (List.mem_of_getElem? (i := 24) (by decide +kernel)) (by decide +kernel), by decide +kernel, by decide +kernel, by decide +kernel⟩, tb_in (List.mem_of_getElem? (i := 177) (by decide +kernel)) (by decide +kernel), tb_in (List.mem_of_getElem? (i := 178) (by decide +kernel)) (by decide +kernel)⟩
set_option maxRecDepth 100000 in
theorem f_C_moveTo : MFv y_C_moveTo b_C_moveTo 4 (some .boolean) 1 := ⟨⟨tb_in (List.mem_of_getElem? (i := 183) rfl) rfl, tb_in (List.mem_of_getElem? (i := 25) (by decide +kernel)) (by decide +kernel), by decide +kernel, by decide +kernel, by decide +kernel⟩, tb_in (List.mem_of_getElem? (i := 181) (by decide +kernel)) (by decide +kernel), tb_in (List.mem_of_getElem? (i := 182) (by decide +kernel)) (by decide +kernel)⟩
set_option maxRecDepth 100000 in
theorem f_T_clear : MFv y_T_clear b_T_clear 1 none 0 := ⟨⟨tb_in (List.mem_of_getElem? (i := 187) rfl) rfl, tb_in (List.mem_of_getElem? (i := 26) (by decide +kernel)) (by decide +kernel), by decide +kernel, by decide +kernel, by decide +kernel⟩, tb_in (List.mem_of_getElem? (i := 185) (by decide +kernel)) (by decide +kernel), tb_in (List.mem_of_getElem? (i := 186) (by decide +kernel)) (by decide +kernel)⟩
set_option maxRecDepth 100000 in
theorem f_C_isLetterOrDigit : MFs y_C_isLetterOrDigit b_C_isLetterOrDigit 1 (some .boolean) 1 := ⟨⟨tb_in (List.mem_of_getElem? (i := 190) rfl) rfl, tb_in (List.mem_of_getElem? (i := 25) (by decide +kernel)) (by decide +kernel), by decide +kernel, by decide +kernel, by decide +kernel⟩, tb_in (List.mem_of_getElem? (i := 189) (by decide +kernel)) (by decide +kernel)⟩
set_option maxRecDepth 100000 in
theorem f_T_add : MFv y_T_add b_T_add 2 none 1 := ⟨⟨tb_in (List.mem_of_getElem? (i := 194) rfl) rfl, tb_in (List.mem_of_getElem? (i := 26) (by decide +kernel)) (by decide +kernel), by decide +kernel, by decide +kernel, by decide +kernel⟩, tb_in (List.mem_of_getElem? (i := 192) (by decide +kernel)) (by decide +kernel), tb_in (List.mem_of_getElem? (i := 193) (by decide +kernel)) (by decide +kernel)⟩
set_option maxRecDepth 100000 in
theorem f_A_addHeading : MFv y_A_addHeading b_A_addHeading 3 (some .int) 1 := ⟨⟨tb_in (List.mem_of_getElem? (i := 198) rfl) rfl, tb_in (List.mem_of_getElem? (i := 24) (by decide +kernel)) (by decide +kernel), by decide +kernel, by decide +kernel, by decide +kernel⟩, tb_in (List.mem_of_getElem? (i := 197) (by decide +kernel)) (by decide +kernel), tb_in (List.mem_of_getElem? (i := 0) (by decide +kernel)) (by decide +kernel)⟩
set_option maxRecDepth 100000 in
theorem f_H_isFull : MFv y_H_isFull b_H_isFull 1 (some .boolean) 0 := ⟨⟨tb_in (List.mem_of_getElem? (i := 202) rfl) rfl, tb_in (List.mem_of_getElem? (i := 27) (by decide +kernel)) (by decide +kernel), by decide +kernel, by decide +kernel, by decide +kernel⟩, tb_in (List.mem_of_getElem? (i := 200) (by decide +kernel)) (by decide +kernel), tb_in (List.mem_of_getElem? (i := 201) (by decide +kernel)) (by decide +kernel)⟩
set_option maxRecDepth 100000 in
theorem f_H_firstOfKind : MFv y_H_firstOfKind b_H_firstOfKind 5 (some .int) 3 := ⟨⟨tb_in (List.mem_of_getElem? (i := 206) rfl) rfl, tb_in (List.mem_of_getElem? (i := 27) (by decide +kernel)) (by decide +kernel), by decide +kernel, by decide +kernel, by decide +kernel⟩, tb_in (List.mem_of_getElem? (i := 204) (by decide +kernel)) (by decide +kernel), tb_in (List.mem_of_getElem? (i := 205) (by decide +kernel)) (by decide +kernel)⟩
set_option maxRecDepth 100000 in
theorem f_H_hasText : MFv y_H_hasText b_H_hasText 4 (some .boolean) 2 := ⟨⟨tb_in (List.mem_of_getElem? (i := 210) rfl) rfl, tb_in (List.mem_of_getElem? (i := 27) (by decide +kernel)) (by decide +kernel), by decide +kernel, by decide +kernel, by decide +kernel⟩, tb_in (List.mem_of_getElem? (i := 209) (by decide +kernel)) (by decide +kernel), tb_in (List.mem_of_getElem? (i := 1) (by decide +kernel)) (by decide +kernel)⟩
set_option maxRecDepth 100000 in
theorem f_H_small : MFs y_H_small b_H_small 1 (some .int) 1 := ⟨⟨tb_in (List.mem_of_getElem? (i := 213) rfl) rfl, tb_in (List.mem_of_getElem? (i := 27) (by decide +kernel)) (by decide +kernel), by decide +kernel, by decide +kernel, by decide +kernel⟩, tb_in (List.mem_of_getElem? (i := 212) (by decide +kernel)) (by decide +kernel)⟩
set_option maxRecDepth 100000 in
theorem f_H_add : MFv y_H_add b_H_add 3 (some .int) 2 := ⟨⟨tb_in (List.mem_of_getElem? (i := 217) rfl) rfl, tb_in (List.mem_of_getElem? (i := 27) (by decide +kernel)) (by decide +kernel), by decide +kernel, by decide +kernel, by decide +kernel⟩, tb_in (List.mem_of_getElem? (i := 215) (by decide +kernel)) (by decide +kernel), tb_in (List.mem_of_getElem? (i := 216) (by decide +kernel)) (by decide +kernel)⟩
set_option maxRecDepth 100000 in
theorem f_H_setText : MFv y_H_setText b_H_setText 4 none 2 := ⟨⟨tb_in (List.mem_of_getElem? (i := 222) rfl) rfl, tb_in (List.mem_of_getElem? (i := 27) (by decide +kernel)) (by decide +kernel), by decide +kernel, by decide +kernel, by decide +kernel⟩, tb_in (List.mem_of_getElem? (i := 220) (by decide +kernel)) (by decide +kernel), tb_in (List.mem_of_getElem? (i := 221) (by decide +kernel)) (by decide +kernel)⟩
set_option maxRecDepth 100000 in
theorem f_H_isThere : MFv y_H_isThere b_H_isThere 2 (some .boolean) 1 := ⟨⟨tb_in (List.mem_of_getElem? (i := 226) rfl) rfl, tb_in (List.mem_of_getElem? (i := 27) (by decide +kernel)) (by decide +kernel), by decide +kernel, by decide +kernel, by decide +kernel⟩, tb_in (List.mem_of_getElem? (i := 224) (by decide +kernel)) (by decide +kernel), tb_in (List.mem_of_getElem? (i := 225) (by decide +kernel)) (by decide +kernel)⟩
set_option maxRecDepth 100000 in
theorem f_A_link : MFv y_A_link b_A_link 6 (some .int) 4 := ⟨⟨tb_in (List.mem_of_getElem? (i := 230) rfl) rfl, tb_in (List.mem_of_getElem? (i := 24) (by decide +kernel)) (by decide +kernel), by decide +kernel, by decide +kernel, by decide +kernel⟩, tb_in (List.mem_of_getElem? (i := 228) (by decide +kernel)) (by decide +kernel), tb_in (List.mem_of_getElem? (i := 229) (by decide +kernel)) (by decide +kernel)⟩
set_option maxRecDepth 100000 in
theorem f_H_isLive : MFv y_H_isLive b_H_isLive 2 (some .boolean) 1 := ⟨⟨tb_in (List.mem_of_getElem? (i := 234) rfl) rfl, tb_in (List.mem_of_getElem? (i := 27) (by decide +kernel)) (by decide +kernel), by decide +kernel, by decide +kernel, by decide +kernel⟩, tb_in (List.mem_of_getElem? (i := 232) (by decide +kernel)) (by decide +kernel), tb_in (List.mem_of_getElem? (i := 233) (by decide +kernel)) (by decide +kernel)⟩
set_option maxRecDepth 100000 in
theorem f_K_has : MFv y_K_has b_K_has 4 (some .boolean) 3 := ⟨⟨tb_in (List.mem_of_getElem? (i := 238) rfl) rfl, tb_in (List.mem_of_getElem? (i := 28) (by decide +kernel)) (by decide +kernel), by decide +kernel, by decide +kernel, by decide +kernel⟩, tb_in (List.mem_of_getElem? (i := 236) (by decide +kernel)) (by decide +kernel), tb_in (List.mem_of_getElem? (i := 237) (by decide +kernel)) (by decide +kernel)⟩
set_option maxRecDepth 100000 in
theorem f_K_targetsOf : MFv y_K_targetsOf b_K_targetsOf 3 (some .long) 2 := ⟨⟨tb_in (List.mem_of_getElem? (i := 242) rfl) rfl, tb_in (List.mem_of_getElem? (i := 28) (by decide +kernel)) (by decide +kernel), by decide +kernel, by decide +kernel, by decide +kernel⟩, tb_in (List.mem_of_getElem? (i := 240) (by decide +kernel)) (by decide +kernel), tb_in (List.mem_of_getElem? (i := 241) (by decide +kernel)) (by decide +kernel)⟩
set_option maxRecDepth 100000 in
theorem f_A_holds : MFs y_A_holds b_A_holds 3 (some .boolean) 2 := ⟨⟨tb_in (List.mem_of_getElem? (i := 245) rfl) rfl, tb_in (List.mem_of_getElem? (i := 24) (by decide +kernel)) (by decide +kernel), by decide +kernel, by decide +kernel, by decide +kernel⟩, tb_in (List.mem_of_getElem? (i := 244) (by decide +kernel)) (by decide +kernel)⟩
set_option maxRecDepth 100000 in
theorem f_A_setOf : MFs y_A_setOf b_A_setOf 1 (some .long) 1 := ⟨⟨tb_in (List.mem_of_getElem? (i := 248) rfl) rfl, tb_in (List.mem_of_getElem? (i := 24) (by decide +kernel)) (by decide +kernel), by decide +kernel, by decide +kernel, by decide +kernel⟩, tb_in (List.mem_of_getElem? (i := 247) (by decide +kernel)) (by decide +kernel)⟩
set_option maxRecDepth 100000 in
theorem f_K_isFull : MFv y_K_isFull b_K_isFull 1 (some .boolean) 0 := ⟨⟨tb_in (List.mem_of_getElem? (i := 252) rfl) rfl, tb_in (List.mem_of_getElem? (i := 28) (by decide +kernel)) (by decide +kernel), by decide +kernel, by decide +kernel, by decide +kernel⟩, tb_in (List.mem_of_getElem? (i := 250) (by decide +kernel)) (by decide +kernel), tb_in (List.mem_of_getElem? (i := 251) (by decide +kernel)) (by decide +kernel)⟩
set_option maxRecDepth 100000 in
theorem f_A_wouldChainSees : MFv y_A_wouldChainSees b_A_wouldChainSees 3 (some .boolean) 2 := ⟨⟨tb_in (List.mem_of_getElem? (i := 256) rfl) rfl, tb_in (List.mem_of_getElem? (i := 24) (by decide +kernel)) (by decide +kernel), by decide +kernel, by decide +kernel, by decide +kernel⟩, tb_in (List.mem_of_getElem? (i := 255) (by decide +kernel)) (by decide +kernel), tb_in (List.mem_of_getElem? (i := 2) (by decide +kernel)) (by decide +kernel)⟩
set_option maxRecDepth 100000 in
theorem f_K_sourcesOf : MFv y_K_sourcesOf b_K_sourcesOf 7 (some .long) 2 := ⟨⟨tb_in (List.mem_of_getElem? (i := 261) rfl) rfl, tb_in (List.mem_of_getElem? (i := 28) (by decide +kernel)) (by decide +kernel), by decide +kernel, by decide +kernel, by decide +kernel⟩, tb_in (List.mem_of_getElem? (i := 259) (by decide +kernel)) (by decide +kernel), tb_in (List.mem_of_getElem? (i := 260) (by decide +kernel)) (by decide +kernel)⟩
set_option maxRecDepth 100000 in
theorem f_Y_lay : MFv y_Y_lay b_Y_lay 6 (some .boolean) 4 := ⟨⟨tb_in (List.mem_of_getElem? (i := 266) rfl) rfl, tb_in (List.mem_of_getElem? (i := 30) (by decide +kernel)) (by decide +kernel), by decide +kernel, by decide +kernel, by decide +kernel⟩, tb_in (List.mem_of_getElem? (i := 264) (by decide +kernel)) (by decide +kernel), tb_in (List.mem_of_getElem? (i := 265) (by decide +kernel)) (by decide +kernel)⟩
set_option maxRecDepth 100000 in
theorem f_Y_measure : MFv y_Y_measure b_Y_measure 8 (some .int) 4 := ⟨⟨tb_in (List.mem_of_getElem? (i := 270) rfl) rfl, tb_in (List.mem_of_getElem? (i := 30) (by decide +kernel)) (by decide +kernel), by decide +kernel, by decide +kernel, by decide +kernel⟩, tb_in (List.mem_of_getElem? (i := 269) (by decide +kernel)) (by decide +kernel), tb_in (List.mem_of_getElem? (i := 3) (by decide +kernel)) (by decide +kernel)⟩
set_option maxRecDepth 100000 in
theorem f_Y_walk : MFv y_Y_walk b_Y_walk 8 none 4 := ⟨⟨tb_in (List.mem_of_getElem? (i := 278) rfl) rfl, tb_in (List.mem_of_getElem? (i := 30) (by decide +kernel)) (by decide +kernel), by decide +kernel, by decide +kernel, by decide +kernel⟩, tb_in (List.mem_of_getElem? (i := 277) (by decide +kernel)) (by decide +kernel), tb_in (List.mem_of_getElem? (i := 4) (by decide +kernel)) (by decide +kernel)⟩
set_option maxRecDepth 100000 in
theorem f_A_nthOf : MFs y_A_nthOf b_A_nthOf 5 (some .int) 2 := ⟨⟨tb_in (List.mem_of_getElem? (i := 282) rfl) rfl, tb_in (List.mem_of_getElem? (i := 24) (by decide +kernel)) (by decide +kernel), by decide +kernel, by decide +kernel, by decide +kernel⟩, tb_in (List.mem_of_getElem? (i := 281) (by decide +kernel)) (by decide +kernel)⟩
set_option maxRecDepth 100000 in
theorem f_K_add : MFv y_K_add b_K_add 6 none 4 := ⟨⟨tb_in (List.mem_of_getElem? (i := 287) rfl) rfl, tb_in (List.mem_of_getElem? (i := 28) (by decide +kernel)) (by decide +kernel), by decide +kernel, by decide +kernel, by decide +kernel⟩, tb_in (List.mem_of_getElem? (i := 285) (by decide +kernel)) (by decide +kernel), tb_in (List.mem_of_getElem? (i := 286) (by decide +kernel)) (by decide +kernel)⟩
set_option maxRecDepth 100000 in
theorem f_K_putLater : MFv y_K_putLater b_K_putLater 6 none 4 := ⟨⟨tb_in (List.mem_of_getElem? (i := 292) rfl) rfl, tb_in (List.mem_of_getElem? (i := 28) (by decide +kernel)) (by decide +kernel), by decide +kernel, by decide +kernel, by decide +kernel⟩, tb_in (List.mem_of_getElem? (i := 291) (by decide +kernel)) (by decide +kernel), tb_in (List.mem_of_getElem? (i := 5) (by decide +kernel)) (by decide +kernel)⟩
set_option maxRecDepth 100000 in
theorem f_A_rename : MFv y_A_rename b_A_rename 3 (some .int) 1 := ⟨⟨tb_in (List.mem_of_getElem? (i := 296) rfl) rfl, tb_in (List.mem_of_getElem? (i := 24) (by decide +kernel)) (by decide +kernel), by decide +kernel, by decide +kernel, by decide +kernel⟩, tb_in (List.mem_of_getElem? (i := 294) (by decide +kernel)) (by decide +kernel), tb_in (List.mem_of_getElem? (i := 295) (by decide +kernel)) (by decide +kernel)⟩
set_option maxRecDepth 100000 in
theorem f_H_kindOf : MFv y_H_kindOf b_H_kindOf 2 (some .int) 1 := ⟨⟨tb_in (List.mem_of_getElem? (i := 300) rfl) rfl, tb_in (List.mem_of_getElem? (i := 27) (by decide +kernel)) (by decide +kernel), by decide +kernel, by decide +kernel, by decide +kernel⟩, tb_in (List.mem_of_getElem? (i := 298) (by decide +kernel)) (by decide +kernel), tb_in (List.mem_of_getElem? (i := 299) (by decide +kernel)) (by decide +kernel)⟩
set_option maxRecDepth 100000 in
theorem f_R_countOf : MFv y_R_countOf b_R_countOf 4 (some .int) 1 := ⟨⟨tb_in (List.mem_of_getElem? (i := 305) rfl) rfl, tb_in (List.mem_of_getElem? (i := 29) (by decide +kernel)) (by decide +kernel), by decide +kernel, by decide +kernel, by decide +kernel⟩, tb_in (List.mem_of_getElem? (i := 303) (by decide +kernel)) (by decide +kernel), tb_in (List.mem_of_getElem? (i := 304) (by decide +kernel)) (by decide +kernel)⟩
set_option maxRecDepth 100000 in
theorem f_A_find : MFv y_A_find b_A_find 1 (some .int) 0 := ⟨⟨tb_in (List.mem_of_getElem? (i := 309) rfl) rfl, tb_in (List.mem_of_getElem? (i := 24) (by decide +kernel)) (by decide +kernel), by decide +kernel, by decide +kernel, by decide +kernel⟩, tb_in (List.mem_of_getElem? (i := 307) (by decide +kernel)) (by decide +kernel), tb_in (List.mem_of_getElem? (i := 308) (by decide +kernel)) (by decide +kernel)⟩
set_option maxRecDepth 100000 in
theorem f_H_firstOfAnyKind : MFv y_H_firstOfAnyKind b_H_firstOfAnyKind 3 (some .int) 1 := ⟨⟨tb_in (List.mem_of_getElem? (i := 313) rfl) rfl, tb_in (List.mem_of_getElem? (i := 27) (by decide +kernel)) (by decide +kernel), by decide +kernel, by decide +kernel, by decide +kernel⟩, tb_in (List.mem_of_getElem? (i := 311) (by decide +kernel)) (by decide +kernel), tb_in (List.mem_of_getElem? (i := 312) (by decide +kernel)) (by decide +kernel)⟩
set_option maxRecDepth 100000 in
theorem f_A_see : MFv y_A_see b_A_see 3 (some .int) 2 := ⟨⟨tb_in (List.mem_of_getElem? (i := 317) rfl) rfl, tb_in (List.mem_of_getElem? (i := 24) (by decide +kernel)) (by decide +kernel), by decide +kernel, by decide +kernel, by decide +kernel⟩, tb_in (List.mem_of_getElem? (i := 315) (by decide +kernel)) (by decide +kernel), tb_in (List.mem_of_getElem? (i := 316) (by decide +kernel)) (by decide +kernel)⟩
set_option maxRecDepth 100000 in
theorem f_A_broader : MFv y_A_broader b_A_broader 10 (some .int) 2 := ⟨⟨tb_in (List.mem_of_getElem? (i := 322) rfl) rfl, tb_in (List.mem_of_getElem? (i := 24) (by decide +kernel)) (by decide +kernel), by decide +kernel, by decide +kernel, by decide +kernel⟩, tb_in (List.mem_of_getElem? (i := 320) (by decide +kernel)) (by decide +kernel), tb_in (List.mem_of_getElem? (i := 321) (by decide +kernel)) (by decide +kernel)⟩
set_option maxRecDepth 100000 in
theorem f_J_bitCount : MFs y_J_bitCount b_J_bitCount 2 (some .int) 1 := ⟨⟨tb_in (List.mem_of_getElem? (i := 325) rfl) rfl, tb_in (List.mem_of_getElem? (i := 32) (by decide +kernel)) (by decide +kernel), by decide +kernel, by decide +kernel, by decide +kernel⟩, tb_in (List.mem_of_getElem? (i := 324) (by decide +kernel)) (by decide +kernel)⟩
set_option maxRecDepth 100000 in
theorem f_K_targetsOfAll : MFv y_K_targetsOfAll b_K_targetsOfAll 7 (some .long) 2 := ⟨⟨tb_in (List.mem_of_getElem? (i := 332) rfl) rfl, tb_in (List.mem_of_getElem? (i := 28) (by decide +kernel)) (by decide +kernel), by decide +kernel, by decide +kernel, by decide +kernel⟩, tb_in (List.mem_of_getElem? (i := 330) (by decide +kernel)) (by decide +kernel), tb_in (List.mem_of_getElem? (i := 331) (by decide +kernel)) (by decide +kernel)⟩
set_option maxRecDepth 100000 in
theorem f_A_delete : MFv y_A_delete b_A_delete 3 (some .int) 1 := ⟨⟨tb_in (List.mem_of_getElem? (i := 337) rfl) rfl, tb_in (List.mem_of_getElem? (i := 24) (by decide +kernel)) (by decide +kernel), by decide +kernel, by decide +kernel, by decide +kernel⟩, tb_in (List.mem_of_getElem? (i := 335) (by decide +kernel)) (by decide +kernel), tb_in (List.mem_of_getElem? (i := 336) (by decide +kernel)) (by decide +kernel)⟩
set_option maxRecDepth 100000 in
theorem f_H_end : MFv y_H_end b_H_end 2 none 1 := ⟨⟨tb_in (List.mem_of_getElem? (i := 341) rfl) rfl, tb_in (List.mem_of_getElem? (i := 27) (by decide +kernel)) (by decide +kernel), by decide +kernel, by decide +kernel, by decide +kernel⟩, tb_in (List.mem_of_getElem? (i := 339) (by decide +kernel)) (by decide +kernel), tb_in (List.mem_of_getElem? (i := 340) (by decide +kernel)) (by decide +kernel)⟩
set_option maxRecDepth 100000 in
theorem f_K_removeAllOf : MFv y_K_removeAllOf b_K_removeAllOf 4 none 1 := ⟨⟨tb_in (List.mem_of_getElem? (i := 345) rfl) rfl, tb_in (List.mem_of_getElem? (i := 28) (by decide +kernel)) (by decide +kernel), by decide +kernel, by decide +kernel, by decide +kernel⟩, tb_in (List.mem_of_getElem? (i := 343) (by decide +kernel)) (by decide +kernel), tb_in (List.mem_of_getElem? (i := 344) (by decide +kernel)) (by decide +kernel)⟩
set_option maxRecDepth 100000 in
theorem f_K_removeLaterOf : MFv y_K_removeLaterOf b_K_removeLaterOf 4 none 1 := ⟨⟨tb_in (List.mem_of_getElem? (i := 350) rfl) rfl, tb_in (List.mem_of_getElem? (i := 28) (by decide +kernel)) (by decide +kernel), by decide +kernel, by decide +kernel, by decide +kernel⟩, tb_in (List.mem_of_getElem? (i := 349) (by decide +kernel)) (by decide +kernel), tb_in (List.mem_of_getElem? (i := 6) (by decide +kernel)) (by decide +kernel)⟩
set_option maxRecDepth 100000 in
theorem f_A_split : MFv y_A_split b_A_split 5 (some .int) 2 := ⟨⟨tb_in (List.mem_of_getElem? (i := 354) rfl) rfl, tb_in (List.mem_of_getElem? (i := 24) (by decide +kernel)) (by decide +kernel), by decide +kernel, by decide +kernel, by decide +kernel⟩, tb_in (List.mem_of_getElem? (i := 352) (by decide +kernel)) (by decide +kernel), tb_in (List.mem_of_getElem? (i := 353) (by decide +kernel)) (by decide +kernel)⟩
set_option maxRecDepth 100000 in
theorem f_R_move : MFv y_R_move b_R_move 6 none 3 := ⟨⟨tb_in (List.mem_of_getElem? (i := 358) rfl) rfl, tb_in (List.mem_of_getElem? (i := 29) (by decide +kernel)) (by decide +kernel), by decide +kernel, by decide +kernel, by decide +kernel⟩, tb_in (List.mem_of_getElem? (i := 356) (by decide +kernel)) (by decide +kernel), tb_in (List.mem_of_getElem? (i := 357) (by decide +kernel)) (by decide +kernel)⟩
set_option maxRecDepth 100000 in
theorem f_A_shown : MFv y_A_shown b_A_shown 4 (some .int) 2 := ⟨⟨tb_in (List.mem_of_getElem? (i := 362) rfl) rfl, tb_in (List.mem_of_getElem? (i := 24) (by decide +kernel)) (by decide +kernel), by decide +kernel, by decide +kernel, by decide +kernel⟩, tb_in (List.mem_of_getElem? (i := 360) (by decide +kernel)) (by decide +kernel), tb_in (List.mem_of_getElem? (i := 361) (by decide +kernel)) (by decide +kernel)⟩
set_option maxRecDepth 100000 in
theorem f_A_usedFormOf : MFv y_A_usedFormOf b_A_usedFormOf 3 (some .int) 1 := ⟨⟨tb_in (List.mem_of_getElem? (i := 366) rfl) rfl, tb_in (List.mem_of_getElem? (i := 24) (by decide +kernel)) (by decide +kernel), by decide +kernel, by decide +kernel, by decide +kernel⟩, tb_in (List.mem_of_getElem? (i := 365) (by decide +kernel)) (by decide +kernel), tb_in (List.mem_of_getElem? (i := 7) (by decide +kernel)) (by decide +kernel)⟩
set_option maxRecDepth 100000 in
theorem f_A_formOn : MFv y_A_formOn b_A_formOn 7 (some .int) 2 := ⟨⟨tb_in (List.mem_of_getElem? (i := 370) rfl) rfl, tb_in (List.mem_of_getElem? (i := 24) (by decide +kernel)) (by decide +kernel), by decide +kernel, by decide +kernel, by decide +kernel⟩, tb_in (List.mem_of_getElem? (i := 369) (by decide +kernel)) (by decide +kernel), tb_in (List.mem_of_getElem? (i := 8) (by decide +kernel)) (by decide +kernel)⟩
set_option maxRecDepth 100000 in
theorem f_K_latestOn : MFv y_K_latestOn b_K_latestOn 7 (some .int) 2 := ⟨⟨tb_in (List.mem_of_getElem? (i := 374) rfl) rfl, tb_in (List.mem_of_getElem? (i := 28) (by decide +kernel)) (by decide +kernel), by decide +kernel, by decide +kernel, by decide +kernel⟩, tb_in (List.mem_of_getElem? (i := 372) (by decide +kernel)) (by decide +kernel), tb_in (List.mem_of_getElem? (i := 373) (by decide +kernel)) (by decide +kernel)⟩
set_option maxRecDepth 100000 in
theorem f_A_record : MFv y_A_record b_A_record 4 (some .int) 2 := ⟨⟨tb_in (List.mem_of_getElem? (i := 378) rfl) rfl, tb_in (List.mem_of_getElem? (i := 24) (by decide +kernel)) (by decide +kernel), by decide +kernel, by decide +kernel, by decide +kernel⟩, tb_in (List.mem_of_getElem? (i := 376) (by decide +kernel)) (by decide +kernel), tb_in (List.mem_of_getElem? (i := 377) (by decide +kernel)) (by decide +kernel)⟩
set_option maxRecDepth 100000 in
theorem f_R_isFull : MFv y_R_isFull b_R_isFull 1 (some .boolean) 0 := ⟨⟨tb_in (List.mem_of_getElem? (i := 382) rfl) rfl, tb_in (List.mem_of_getElem? (i := 29) (by decide +kernel)) (by decide +kernel), by decide +kernel, by decide +kernel, by decide +kernel⟩, tb_in (List.mem_of_getElem? (i := 380) (by decide +kernel)) (by decide +kernel), tb_in (List.mem_of_getElem? (i := 381) (by decide +kernel)) (by decide +kernel)⟩
set_option maxRecDepth 100000 in
theorem f_R_add : MFv y_R_add b_R_add 4 (some .int) 2 := ⟨⟨tb_in (List.mem_of_getElem? (i := 386) rfl) rfl, tb_in (List.mem_of_getElem? (i := 29) (by decide +kernel)) (by decide +kernel), by decide +kernel, by decide +kernel, by decide +kernel⟩, tb_in (List.mem_of_getElem? (i := 384) (by decide +kernel)) (by decide +kernel), tb_in (List.mem_of_getElem? (i := 385) (by decide +kernel)) (by decide +kernel)⟩
set_option maxRecDepth 100000 in
theorem f_A_linked : MFv y_A_linked b_A_linked 2 (some .int) 1 := ⟨⟨tb_in (List.mem_of_getElem? (i := 391) rfl) rfl, tb_in (List.mem_of_getElem? (i := 24) (by decide +kernel)) (by decide +kernel), by decide +kernel, by decide +kernel, by decide +kernel⟩, tb_in (List.mem_of_getElem? (i := 389) (by decide +kernel)) (by decide +kernel), tb_in (List.mem_of_getElem? (i := 390) (by decide +kernel)) (by decide +kernel)⟩
set_option maxRecDepth 100000 in
theorem f_R_headingOf : MFv y_R_headingOf b_R_headingOf 2 (some .int) 1 := ⟨⟨tb_in (List.mem_of_getElem? (i := 395) rfl) rfl, tb_in (List.mem_of_getElem? (i := 29) (by decide +kernel)) (by decide +kernel), by decide +kernel, by decide +kernel, by decide +kernel⟩, tb_in (List.mem_of_getElem? (i := 393) (by decide +kernel)) (by decide +kernel), tb_in (List.mem_of_getElem? (i := 394) (by decide +kernel)) (by decide +kernel)⟩
set_option maxRecDepth 100000 in
theorem f_A_form : MFv y_A_form b_A_form 4 (some .int) 2 := ⟨⟨tb_in (List.mem_of_getElem? (i := 399) rfl) rfl, tb_in (List.mem_of_getElem? (i := 24) (by decide +kernel)) (by decide +kernel), by decide +kernel, by decide +kernel, by decide +kernel⟩, tb_in (List.mem_of_getElem? (i := 397) (by decide +kernel)) (by decide +kernel), tb_in (List.mem_of_getElem? (i := 398) (by decide +kernel)) (by decide +kernel)⟩
set_option maxRecDepth 100000 in
theorem f_A_ring : MFv y_A_ring b_A_ring 2 (some .int) 1 := ⟨⟨tb_in (List.mem_of_getElem? (i := 403) rfl) rfl, tb_in (List.mem_of_getElem? (i := 24) (by decide +kernel)) (by decide +kernel), by decide +kernel, by decide +kernel, by decide +kernel⟩, tb_in (List.mem_of_getElem? (i := 401) (by decide +kernel)) (by decide +kernel), tb_in (List.mem_of_getElem? (i := 402) (by decide +kernel)) (by decide +kernel)⟩
set_option maxRecDepth 100000 in
theorem f_Y_at : MFv y_Y_at b_Y_at 2 (some .int) 1 := ⟨⟨tb_in (List.mem_of_getElem? (i := 407) rfl) rfl, tb_in (List.mem_of_getElem? (i := 30) (by decide +kernel)) (by decide +kernel), by decide +kernel, by decide +kernel, by decide +kernel⟩, tb_in (List.mem_of_getElem? (i := 405) (by decide +kernel)) (by decide +kernel), tb_in (List.mem_of_getElem? (i := 406) (by decide +kernel)) (by decide +kernel)⟩
set_option maxRecDepth 100000 in
theorem f_A_letter : MFv y_A_letter b_A_letter 3 (some .int) 2 := ⟨⟨tb_in (List.mem_of_getElem? (i := 411) rfl) rfl, tb_in (List.mem_of_getElem? (i := 24) (by decide +kernel)) (by decide +kernel), by decide +kernel, by decide +kernel, by decide +kernel⟩, tb_in (List.mem_of_getElem? (i := 409) (by decide +kernel)) (by decide +kernel), tb_in (List.mem_of_getElem? (i := 410) (by decide +kernel)) (by decide +kernel)⟩
set_option maxRecDepth 100000 in
theorem f_H_letterOf : MFv y_H_letterOf b_H_letterOf 3 (some .int) 2 := ⟨⟨tb_in (List.mem_of_getElem? (i := 415) rfl) rfl, tb_in (List.mem_of_getElem? (i := 27) (by decide +kernel)) (by decide +kernel), by decide +kernel, by decide +kernel, by decide +kernel⟩, tb_in (List.mem_of_getElem? (i := 413) (by decide +kernel)) (by decide +kernel), tb_in (List.mem_of_getElem? (i := 414) (by decide +kernel)) (by decide +kernel)⟩
set_option maxRecDepth 100000 in
theorem f_M_init : MFi y_M_init b_M_init 1 none 0 := ⟨⟨tb_in (List.mem_of_getElem? (i := 420) rfl) rfl, tb_in (List.mem_of_getElem? (i := 31) (by decide +kernel)) (by decide +kernel), by decide +kernel, by decide +kernel, by decide +kernel⟩, tb_in (List.mem_of_getElem? (i := 419) (by decide +kernel)) (by decide +kernel)⟩
set_option maxRecDepth 100000 in
theorem f_M_sign : MFv y_M_sign b_M_sign 2 none 1 := ⟨⟨tb_in (List.mem_of_getElem? (i := 487) rfl) rfl, tb_in (List.mem_of_getElem? (i := 31) (by decide +kernel)) (by decide +kernel), by decide +kernel, by decide +kernel, by decide +kernel⟩, tb_in (List.mem_of_getElem? (i := 485) (by decide +kernel)) (by decide +kernel), tb_in (List.mem_of_getElem? (i := 486) (by decide +kernel)) (by decide +kernel)⟩
set_option maxRecDepth 100000 in
theorem f_M_heading : MFv y_M_heading b_M_heading 2 (some .int) 1 := ⟨⟨tb_in (List.mem_of_getElem? (i := 491) rfl) rfl, tb_in (List.mem_of_getElem? (i := 31) (by decide +kernel)) (by decide +kernel), by decide +kernel, by decide +kernel, by decide +kernel⟩, tb_in (List.mem_of_getElem? (i := 489) (by decide +kernel)) (by decide +kernel), tb_in (List.mem_of_getElem? (i := 490) (by decide +kernel)) (by decide +kernel)⟩
set_option maxRecDepth 100000 in
theorem f_M_takes : MFv y_M_takes b_M_takes 4 (some .boolean) 0 := ⟨⟨tb_in (List.mem_of_getElem? (i := 495) rfl) rfl, tb_in (List.mem_of_getElem? (i := 31) (by decide +kernel)) (by decide +kernel), by decide +kernel, by decide +kernel, by decide +kernel⟩, tb_in (List.mem_of_getElem? (i := 494) (by decide +kernel)) (by decide +kernel), tb_in (List.mem_of_getElem? (i := 9) (by decide +kernel)) (by decide +kernel)⟩
set_option maxRecDepth 100000 in
theorem f_M_make : MFv y_M_make b_M_make 3 (some .int) 1 := ⟨⟨tb_in (List.mem_of_getElem? (i := 499) rfl) rfl, tb_in (List.mem_of_getElem? (i := 31) (by decide +kernel)) (by decide +kernel), by decide +kernel, by decide +kernel, by decide +kernel⟩, tb_in (List.mem_of_getElem? (i := 498) (by decide +kernel)) (by decide +kernel), tb_in (List.mem_of_getElem? (i := 10) (by decide +kernel)) (by decide +kernel)⟩
set_option maxRecDepth 100000 in
theorem f_M_first : MFv y_M_first b_M_first 4 (some .int) 2 := ⟨⟨tb_in (List.mem_of_getElem? (i := 503) rfl) rfl, tb_in (List.mem_of_getElem? (i := 31) (by decide +kernel)) (by decide +kernel), by decide +kernel, by decide +kernel, by decide +kernel⟩, tb_in (List.mem_of_getElem? (i := 502) (by decide +kernel)) (by decide +kernel), tb_in (List.mem_of_getElem? (i := 11) (by decide +kernel)) (by decide +kernel)⟩
set_option maxRecDepth 100000 in
theorem f_M_hasText : MFv y_M_hasText b_M_hasText 4 (some .boolean) 1 := ⟨⟨tb_in (List.mem_of_getElem? (i := 507) rfl) rfl, tb_in (List.mem_of_getElem? (i := 31) (by decide +kernel)) (by decide +kernel), by decide +kernel, by decide +kernel, by decide +kernel⟩, tb_in (List.mem_of_getElem? (i := 506) (by decide +kernel)) (by decide +kernel), tb_in (List.mem_of_getElem? (i := 12) (by decide +kernel)) (by decide +kernel)⟩
set_option maxRecDepth 100000 in
theorem f_M_small : MFs y_M_small b_M_small 1 (some .int) 1 := ⟨⟨tb_in (List.mem_of_getElem? (i := 510) rfl) rfl, tb_in (List.mem_of_getElem? (i := 31) (by decide +kernel)) (by decide +kernel), by decide +kernel, by decide +kernel, by decide +kernel⟩, tb_in (List.mem_of_getElem? (i := 509) (by decide +kernel)) (by decide +kernel)⟩
set_option maxRecDepth 100000 in
theorem f_M_lay : MFv y_M_lay b_M_lay 3 none 1 := ⟨⟨tb_in (List.mem_of_getElem? (i := 514) rfl) rfl, tb_in (List.mem_of_getElem? (i := 31) (by decide +kernel)) (by decide +kernel), by decide +kernel, by decide +kernel, by decide +kernel⟩, tb_in (List.mem_of_getElem? (i := 513) (by decide +kernel)) (by decide +kernel), tb_in (List.mem_of_getElem? (i := 13) (by decide +kernel)) (by decide +kernel)⟩
set_option maxRecDepth 100000 in
theorem f_M_find : MFv y_M_find b_M_find 1 (some .int) 0 := ⟨⟨tb_in (List.mem_of_getElem? (i := 518) rfl) rfl, tb_in (List.mem_of_getElem? (i := 31) (by decide +kernel)) (by decide +kernel), by decide +kernel, by decide +kernel, by decide +kernel⟩, tb_in (List.mem_of_getElem? (i := 516) (by decide +kernel)) (by decide +kernel), tb_in (List.mem_of_getElem? (i := 517) (by decide +kernel)) (by decide +kernel)⟩
set_option maxRecDepth 100000 in
theorem f_M_rename : MFv y_M_rename b_M_rename 3 (some .int) 1 := ⟨⟨tb_in (List.mem_of_getElem? (i := 522) rfl) rfl, tb_in (List.mem_of_getElem? (i := 31) (by decide +kernel)) (by decide +kernel), by decide +kernel, by decide +kernel, by decide +kernel⟩, tb_in (List.mem_of_getElem? (i := 520) (by decide +kernel)) (by decide +kernel), tb_in (List.mem_of_getElem? (i := 521) (by decide +kernel)) (by decide +kernel)⟩
set_option maxRecDepth 100000 in
theorem f_M_isLive : MFv y_M_isLive b_M_isLive 2 (some .boolean) 1 := ⟨⟨tb_in (List.mem_of_getElem? (i := 526) rfl) rfl, tb_in (List.mem_of_getElem? (i := 31) (by decide +kernel)) (by decide +kernel), by decide +kernel, by decide +kernel, by decide +kernel⟩, tb_in (List.mem_of_getElem? (i := 525) (by decide +kernel)) (by decide +kernel), tb_in (List.mem_of_getElem? (i := 14) (by decide +kernel)) (by decide +kernel)⟩
set_option maxRecDepth 100000 in
theorem f_M_linkedTo : MFv y_M_linkedTo b_M_linkedTo 4 (some .int) 1 := ⟨⟨tb_in (List.mem_of_getElem? (i := 530) rfl) rfl, tb_in (List.mem_of_getElem? (i := 31) (by decide +kernel)) (by decide +kernel), by decide +kernel, by decide +kernel, by decide +kernel⟩, tb_in (List.mem_of_getElem? (i := 529) (by decide +kernel)) (by decide +kernel), tb_in (List.mem_of_getElem? (i := 15) (by decide +kernel)) (by decide +kernel)⟩
set_option maxRecDepth 100000 in
theorem f_M_letter : MFv y_M_letter b_M_letter 3 (some .int) 2 := ⟨⟨tb_in (List.mem_of_getElem? (i := 534) rfl) rfl, tb_in (List.mem_of_getElem? (i := 31) (by decide +kernel)) (by decide +kernel), by decide +kernel, by decide +kernel, by decide +kernel⟩, tb_in (List.mem_of_getElem? (i := 532) (by decide +kernel)) (by decide +kernel), tb_in (List.mem_of_getElem? (i := 533) (by decide +kernel)) (by decide +kernel)⟩
set_option maxRecDepth 100000 in
theorem f_M_link : MFv y_M_link b_M_link 6 (some .int) 4 := ⟨⟨tb_in (List.mem_of_getElem? (i := 538) rfl) rfl, tb_in (List.mem_of_getElem? (i := 31) (by decide +kernel)) (by decide +kernel), by decide +kernel, by decide +kernel, by decide +kernel⟩, tb_in (List.mem_of_getElem? (i := 536) (by decide +kernel)) (by decide +kernel), tb_in (List.mem_of_getElem? (i := 537) (by decide +kernel)) (by decide +kernel)⟩
set_option maxRecDepth 100000 in
theorem f_M_has : MFv y_M_has b_M_has 6 (some .boolean) 3 := ⟨⟨tb_in (List.mem_of_getElem? (i := 542) rfl) rfl, tb_in (List.mem_of_getElem? (i := 31) (by decide +kernel)) (by decide +kernel), by decide +kernel, by decide +kernel, by decide +kernel⟩, tb_in (List.mem_of_getElem? (i := 541) (by decide +kernel)) (by decide +kernel), tb_in (List.mem_of_getElem? (i := 16) (by decide +kernel)) (by decide +kernel)⟩
set_option maxRecDepth 100000 in
theorem f_M_is : MFv y_M_is b_M_is 5 (some .boolean) 4 := ⟨⟨tb_in (List.mem_of_getElem? (i := 546) rfl) rfl, tb_in (List.mem_of_getElem? (i := 31) (by decide +kernel)) (by decide +kernel), by decide +kernel, by decide +kernel, by decide +kernel⟩, tb_in (List.mem_of_getElem? (i := 545) (by decide +kernel)) (by decide +kernel), tb_in (List.mem_of_getElem? (i := 17) (by decide +kernel)) (by decide +kernel)⟩
set_option maxRecDepth 100000 in
theorem f_M_measure : MFv y_M_measure b_M_measure 8 none 3 := ⟨⟨tb_in (List.mem_of_getElem? (i := 550) rfl) rfl, tb_in (List.mem_of_getElem? (i := 31) (by decide +kernel)) (by decide +kernel), by decide +kernel, by decide +kernel, by decide +kernel⟩, tb_in (List.mem_of_getElem? (i := 549) (by decide +kernel)) (by decide +kernel), tb_in (List.mem_of_getElem? (i := 18) (by decide +kernel)) (by decide +kernel)⟩
set_option maxRecDepth 100000 in
theorem f_M_ways : MFv y_M_ways b_M_ways 7 none 3 := ⟨⟨tb_in (List.mem_of_getElem? (i := 554) rfl) rfl, tb_in (List.mem_of_getElem? (i := 31) (by decide +kernel)) (by decide +kernel), by decide +kernel, by decide +kernel, by decide +kernel⟩, tb_in (List.mem_of_getElem? (i := 553) (by decide +kernel)) (by decide +kernel), tb_in (List.mem_of_getElem? (i := 19) (by decide +kernel)) (by decide +kernel)⟩
set_option maxRecDepth 100000 in
theorem f_M_add : MFv y_M_add b_M_add 6 none 4 := ⟨⟨tb_in (List.mem_of_getElem? (i := 558) rfl) rfl, tb_in (List.mem_of_getElem? (i := 31) (by decide +kernel)) (by decide +kernel), by decide +kernel, by decide +kernel, by decide +kernel⟩, tb_in (List.mem_of_getElem? (i := 557) (by decide +kernel)) (by decide +kernel), tb_in (List.mem_of_getElem? (i := 20) (by decide +kernel)) (by decide +kernel)⟩
set_option maxRecDepth 100000 in
theorem f_M_ring : MFv y_M_ring b_M_ring 2 (some .int) 1 := ⟨⟨tb_in (List.mem_of_getElem? (i := 562) rfl) rfl, tb_in (List.mem_of_getElem? (i := 31) (by decide +kernel)) (by decide +kernel), by decide +kernel, by decide +kernel, by decide +kernel⟩, tb_in (List.mem_of_getElem? (i := 560) (by decide +kernel)) (by decide +kernel), tb_in (List.mem_of_getElem? (i := 561) (by decide +kernel)) (by decide +kernel)⟩
set_option maxRecDepth 100000 in
theorem f_M_see : MFv y_M_see b_M_see 5 (some .int) 2 := ⟨⟨tb_in (List.mem_of_getElem? (i := 566) rfl) rfl, tb_in (List.mem_of_getElem? (i := 31) (by decide +kernel)) (by decide +kernel), by decide +kernel, by decide +kernel, by decide +kernel⟩, tb_in (List.mem_of_getElem? (i := 564) (by decide +kernel)) (by decide +kernel), tb_in (List.mem_of_getElem? (i := 565) (by decide +kernel)) (by decide +kernel)⟩
set_option maxRecDepth 100000 in
theorem f_M_broader : MFv y_M_broader b_M_broader 6 (some .int) 2 := ⟨⟨tb_in (List.mem_of_getElem? (i := 570) rfl) rfl, tb_in (List.mem_of_getElem? (i := 31) (by decide +kernel)) (by decide +kernel), by decide +kernel, by decide +kernel, by decide +kernel⟩, tb_in (List.mem_of_getElem? (i := 568) (by decide +kernel)) (by decide +kernel), tb_in (List.mem_of_getElem? (i := 569) (by decide +kernel)) (by decide +kernel)⟩
set_option maxRecDepth 100000 in
theorem f_M_delete : MFv y_M_delete b_M_delete 5 (some .int) 1 := ⟨⟨tb_in (List.mem_of_getElem? (i := 574) rfl) rfl, tb_in (List.mem_of_getElem? (i := 31) (by decide +kernel)) (by decide +kernel), by decide +kernel, by decide +kernel, by decide +kernel⟩, tb_in (List.mem_of_getElem? (i := 572) (by decide +kernel)) (by decide +kernel), tb_in (List.mem_of_getElem? (i := 573) (by decide +kernel)) (by decide +kernel)⟩
set_option maxRecDepth 100000 in
theorem f_M_split : MFv y_M_split b_M_split 6 (some .int) 2 := ⟨⟨tb_in (List.mem_of_getElem? (i := 578) rfl) rfl, tb_in (List.mem_of_getElem? (i := 31) (by decide +kernel)) (by decide +kernel), by decide +kernel, by decide +kernel, by decide +kernel⟩, tb_in (List.mem_of_getElem? (i := 576) (by decide +kernel)) (by decide +kernel), tb_in (List.mem_of_getElem? (i := 577) (by decide +kernel)) (by decide +kernel)⟩
set_option maxRecDepth 100000 in
theorem f_M_form : MFv y_M_form b_M_form 4 (some .int) 2 := ⟨⟨tb_in (List.mem_of_getElem? (i := 582) rfl) rfl, tb_in (List.mem_of_getElem? (i := 31) (by decide +kernel)) (by decide +kernel), by decide +kernel, by decide +kernel, by decide +kernel⟩, tb_in (List.mem_of_getElem? (i := 580) (by decide +kernel)) (by decide +kernel), tb_in (List.mem_of_getElem? (i := 581) (by decide +kernel)) (by decide +kernel)⟩
set_option maxRecDepth 100000 in
theorem f_M_formOf : MFv y_M_formOf b_M_formOf 8 (some .int) 2 := ⟨⟨tb_in (List.mem_of_getElem? (i := 586) rfl) rfl, tb_in (List.mem_of_getElem? (i := 31) (by decide +kernel)) (by decide +kernel), by decide +kernel, by decide +kernel, by decide +kernel⟩, tb_in (List.mem_of_getElem? (i := 585) (by decide +kernel)) (by decide +kernel), tb_in (List.mem_of_getElem? (i := 21) (by decide +kernel)) (by decide +kernel)⟩
set_option maxRecDepth 100000 in
theorem f_M_shown : MFv y_M_shown b_M_shown 4 (some .int) 2 := ⟨⟨tb_in (List.mem_of_getElem? (i := 590) rfl) rfl, tb_in (List.mem_of_getElem? (i := 31) (by decide +kernel)) (by decide +kernel), by decide +kernel, by decide +kernel, by decide +kernel⟩, tb_in (List.mem_of_getElem? (i := 588) (by decide +kernel)) (by decide +kernel), tb_in (List.mem_of_getElem? (i := 589) (by decide +kernel)) (by decide +kernel)⟩
set_option maxRecDepth 100000 in
theorem f_M_used : MFv y_M_used b_M_used 3 (some .int) 1 := ⟨⟨tb_in (List.mem_of_getElem? (i := 594) rfl) rfl, tb_in (List.mem_of_getElem? (i := 31) (by decide +kernel)) (by decide +kernel), by decide +kernel, by decide +kernel, by decide +kernel⟩, tb_in (List.mem_of_getElem? (i := 593) (by decide +kernel)) (by decide +kernel), tb_in (List.mem_of_getElem? (i := 22) (by decide +kernel)) (by decide +kernel)⟩
set_option maxRecDepth 100000 in
theorem f_M_record : MFv y_M_record b_M_record 4 (some .int) 2 := ⟨⟨tb_in (List.mem_of_getElem? (i := 598) rfl) rfl, tb_in (List.mem_of_getElem? (i := 31) (by decide +kernel)) (by decide +kernel), by decide +kernel, by decide +kernel, by decide +kernel⟩, tb_in (List.mem_of_getElem? (i := 596) (by decide +kernel)) (by decide +kernel), tb_in (List.mem_of_getElem? (i := 597) (by decide +kernel)) (by decide +kernel)⟩
set_option maxRecDepth 100000 in
theorem f_M_linked : MFv y_M_linked b_M_linked 2 (some .int) 1 := ⟨⟨tb_in (List.mem_of_getElem? (i := 602) rfl) rfl, tb_in (List.mem_of_getElem? (i := 31) (by decide +kernel)) (by decide +kernel), by decide +kernel, by decide +kernel, by decide +kernel⟩, tb_in (List.mem_of_getElem? (i := 600) (by decide +kernel)) (by decide +kernel), tb_in (List.mem_of_getElem? (i := 601) (by decide +kernel)) (by decide +kernel)⟩
theorem z_L : Cond.initialized R_L ∈ tb := tb_in (List.mem_of_getElem? (i := 23) (by decide +kernel)) (by decide +kernel)
theorem z_A : Cond.initialized R_A ∈ tb := tb_in (List.mem_of_getElem? (i := 24) (by decide +kernel)) (by decide +kernel)
theorem z_C : Cond.initialized R_C ∈ tb := tb_in (List.mem_of_getElem? (i := 25) (by decide +kernel)) (by decide +kernel)
theorem z_T : Cond.initialized R_T ∈ tb := tb_in (List.mem_of_getElem? (i := 26) (by decide +kernel)) (by decide +kernel)
theorem z_H : Cond.initialized R_H ∈ tb := tb_in (List.mem_of_getElem? (i := 27) (by decide +kernel)) (by decide +kernel)
theorem z_K : Cond.initialized R_K ∈ tb := tb_in (List.mem_of_getElem? (i := 28) (by decide +kernel)) (by decide +kernel)
theorem z_R : Cond.initialized R_R ∈ tb := tb_in (List.mem_of_getElem? (i := 29) (by decide +kernel)) (by decide +kernel)
theorem z_Y : Cond.initialized R_Y ∈ tb := tb_in (List.mem_of_getElem? (i := 30) (by decide +kernel)) (by decide +kernel)
theorem z_M : Cond.initialized R_M ∈ tb := tb_in (List.mem_of_getElem? (i := 31) (by decide +kernel)) (by decide +kernel)
theorem z_J : Cond.initialized R_J ∈ tb := tb_in (List.mem_of_getElem? (i := 32) (by decide +kernel)) (by decide +kernel)
theorem k_L_7 : Cond.classLink R_L 7 R_A ∈ tb := tb_in (List.mem_of_getElem? (i := 33) (by decide +kernel)) (by decide +kernel)
theorem s_A : Cond.instantiable R_A 6 ∈ tb := tb_in (List.mem_of_getElem? (i := 34) (by decide +kernel)) (by decide +kernel)
theorem k_L_9 : Cond.methodLink R_L 9 y_A_init ∈ tb := tb_in (List.mem_of_getElem? (i := 35) (by decide +kernel)) (by decide +kernel)
theorem k_A_3 : Cond.methodLink R_A 3 objectInit ∈ tb := tb_in (List.mem_of_getElem? (i := 38) (by decide +kernel)) (by decide +kernel)
theorem k_A_9 : Cond.classLink R_A 9 R_C ∈ tb := tb_in (List.mem_of_getElem? (i := 41) (by decide +kernel)) (by decide +kernel)
theorem s_C : Cond.instantiable R_C 2 ∈ tb := tb_in (List.mem_of_getElem? (i := 42) (by decide +kernel)) (by decide +kernel)
theorem k_A_11 : Cond.methodLinkNest R_A 11 y_C_init "AuthorityRows" ∈ lw_tbl := List.mem_of_getElem? (i := 43) (by decide +kernel)
theorem k_C_3 : Cond.methodLink R_C 3 objectInit ∈ tb := tb_in (List.mem_of_getElem? (i := 46) (by decide +kernel)) (by decide +kernel)
theorem k_C_9 : Cond.fieldLink R_C 9 "AuthorityRows$Collected" "signs" "[C" ∈ tb := tb_in (List.mem_of_getElem? (i := 47) (by decide +kernel)) (by decide +kernel)
theorem k_C_15 : Cond.fieldLink R_C 15 "AuthorityRows$Collected" "count" "I" ∈ tb := tb_in (List.mem_of_getElem? (i := 48) (by decide +kernel)) (by decide +kernel)
theorem a_char : Cond.arrayClass .char ∈ tb := tb_in (List.mem_of_getElem? (i := 54) (by decide +kernel)) (by decide +kernel)
theorem k_A_16 : Cond.classLink R_A 16 R_T ∈ tb := tb_in (List.mem_of_getElem? (i := 55) (by decide +kernel)) (by decide +kernel)
theorem s_T : Cond.instantiable R_T 2 ∈ tb := tb_in (List.mem_of_getElem? (i := 56) (by decide +kernel)) (by decide +kernel)
theorem k_A_18 : Cond.methodLinkNest R_A 18 y_T_init "AuthorityRows" ∈ lw_tbl := List.mem_of_getElem? (i := 57) (by decide +kernel)
theorem k_T_3 : Cond.methodLink R_T 3 objectInit ∈ tb := tb_in (List.mem_of_getElem? (i := 60) (by decide +kernel)) (by decide +kernel)
theorem k_T_9 : Cond.fieldLink R_T 9 "AuthorityRows$Text" "letters" "[C" ∈ tb := tb_in (List.mem_of_getElem? (i := 61) (by decide +kernel)) (by decide +kernel)
theorem k_H_47 : Cond.fieldLinkNest R_H 47 "AuthorityRows$Text" "letters" "[C" "AuthorityRows" ∈ lw_tbl := List.mem_of_getElem? (i := 62) (by decide +kernel)
theorem k_T_15 : Cond.fieldLink R_T 15 "AuthorityRows$Text" "length" "I" ∈ tb := tb_in (List.mem_of_getElem? (i := 63) (by decide +kernel)) (by decide +kernel)
theorem k_H_42 : Cond.fieldLinkNest R_H 42 "AuthorityRows$Text" "length" "I" "AuthorityRows" ∈ lw_tbl := List.mem_of_getElem? (i := 64) (by decide +kernel)
theorem k_A_23 : Cond.classLink R_A 23 R_H ∈ tb := tb_in (List.mem_of_getElem? (i := 70) (by decide +kernel)) (by decide +kernel)
theorem s_H : Cond.instantiable R_H 5 ∈ tb := tb_in (List.mem_of_getElem? (i := 71) (by decide +kernel)) (by decide +kernel)
theorem k_A_25 : Cond.methodLinkNest R_A 25 y_H_init "AuthorityRows" ∈ lw_tbl := List.mem_of_getElem? (i := 72) (by decide +kernel)
theorem k_H_3 : Cond.methodLink R_H 3 objectInit ∈ tb := tb_in (List.mem_of_getElem? (i := 75) (by decide +kernel)) (by decide +kernel)
theorem k_H_9 : Cond.fieldLink R_H 9 "AuthorityRows$Headings" "kinds" "[I" ∈ tb := tb_in (List.mem_of_getElem? (i := 76) (by decide +kernel)) (by decide +kernel)
theorem k_H_15 : Cond.fieldLink R_H 15 "AuthorityRows$Headings" "live" "[Z" ∈ tb := tb_in (List.mem_of_getElem? (i := 77) (by decide +kernel)) (by decide +kernel)
theorem k_H_19 : Cond.fieldLink R_H 19 "AuthorityRows$Headings" "letters" "[C" ∈ tb := tb_in (List.mem_of_getElem? (i := 78) (by decide +kernel)) (by decide +kernel)
theorem k_H_23 : Cond.fieldLink R_H 23 "AuthorityRows$Headings" "lengths" "[I" ∈ tb := tb_in (List.mem_of_getElem? (i := 79) (by decide +kernel)) (by decide +kernel)
theorem k_H_26 : Cond.fieldLink R_H 26 "AuthorityRows$Headings" "count" "I" ∈ tb := tb_in (List.mem_of_getElem? (i := 80) (by decide +kernel)) (by decide +kernel)
theorem a_int : Cond.arrayClass .int ∈ tb := tb_in (List.mem_of_getElem? (i := 92) (by decide +kernel)) (by decide +kernel)
theorem a_boolean : Cond.arrayClass .boolean ∈ tb := tb_in (List.mem_of_getElem? (i := 93) (by decide +kernel)) (by decide +kernel)
theorem k_A_30 : Cond.classLink R_A 30 R_K ∈ tb := tb_in (List.mem_of_getElem? (i := 94) (by decide +kernel)) (by decide +kernel)
theorem s_K : Cond.instantiable R_K 5 ∈ tb := tb_in (List.mem_of_getElem? (i := 95) (by decide +kernel)) (by decide +kernel)
theorem k_A_32 : Cond.methodLinkNest R_A 32 y_K_init "AuthorityRows" ∈ lw_tbl := List.mem_of_getElem? (i := 96) (by decide +kernel)
theorem k_K_3 : Cond.methodLink R_K 3 objectInit ∈ tb := tb_in (List.mem_of_getElem? (i := 99) (by decide +kernel)) (by decide +kernel)
theorem k_K_9 : Cond.fieldLink R_K 9 "AuthorityRows$Links" "targets" "[J" ∈ tb := tb_in (List.mem_of_getElem? (i := 100) (by decide +kernel)) (by decide +kernel)
theorem k_K_15 : Cond.fieldLink R_K 15 "AuthorityRows$Links" "laterFrom" "[I" ∈ tb := tb_in (List.mem_of_getElem? (i := 101) (by decide +kernel)) (by decide +kernel)
theorem k_K_19 : Cond.fieldLink R_K 19 "AuthorityRows$Links" "laterTo" "[I" ∈ tb := tb_in (List.mem_of_getElem? (i := 102) (by decide +kernel)) (by decide +kernel)
theorem k_K_22 : Cond.fieldLink R_K 22 "AuthorityRows$Links" "laterDay" "[J" ∈ tb := tb_in (List.mem_of_getElem? (i := 103) (by decide +kernel)) (by decide +kernel)
theorem k_K_25 : Cond.fieldLink R_K 25 "AuthorityRows$Links" "laterCount" "I" ∈ tb := tb_in (List.mem_of_getElem? (i := 104) (by decide +kernel)) (by decide +kernel)
theorem a_long : Cond.arrayClass .long ∈ tb := tb_in (List.mem_of_getElem? (i := 116) (by decide +kernel)) (by decide +kernel)
theorem k_A_37 : Cond.classLink R_A 37 R_R ∈ tb := tb_in (List.mem_of_getElem? (i := 117) (by decide +kernel)) (by decide +kernel)
theorem s_R : Cond.instantiable R_R 3 ∈ tb := tb_in (List.mem_of_getElem? (i := 118) (by decide +kernel)) (by decide +kernel)
theorem k_A_39 : Cond.methodLinkNest R_A 39 y_R_init "AuthorityRows" ∈ lw_tbl := List.mem_of_getElem? (i := 119) (by decide +kernel)
theorem k_R_3 : Cond.methodLink R_R 3 objectInit ∈ tb := tb_in (List.mem_of_getElem? (i := 122) (by decide +kernel)) (by decide +kernel)
theorem k_R_9 : Cond.fieldLink R_R 9 "AuthorityRows$Records" "headings" "[I" ∈ tb := tb_in (List.mem_of_getElem? (i := 123) (by decide +kernel)) (by decide +kernel)
theorem k_R_15 : Cond.fieldLink R_R 15 "AuthorityRows$Records" "days" "[J" ∈ tb := tb_in (List.mem_of_getElem? (i := 124) (by decide +kernel)) (by decide +kernel)
theorem k_R_19 : Cond.fieldLink R_R 19 "AuthorityRows$Records" "count" "I" ∈ tb := tb_in (List.mem_of_getElem? (i := 125) (by decide +kernel)) (by decide +kernel)
theorem k_A_44 : Cond.classLink R_A 44 R_Y ∈ tb := tb_in (List.mem_of_getElem? (i := 133) (by decide +kernel)) (by decide +kernel)
theorem s_Y : Cond.instantiable R_Y 3 ∈ tb := tb_in (List.mem_of_getElem? (i := 134) (by decide +kernel)) (by decide +kernel)
theorem k_A_46 : Cond.methodLinkNest R_A 46 y_Y_init "AuthorityRows" ∈ lw_tbl := List.mem_of_getElem? (i := 135) (by decide +kernel)
theorem k_Y_3 : Cond.methodLink R_Y 3 objectInit ∈ tb := tb_in (List.mem_of_getElem? (i := 138) (by decide +kernel)) (by decide +kernel)
theorem k_Y_9 : Cond.fieldLink R_Y 9 "AuthorityRows$Way" "stops" "[I" ∈ tb := tb_in (List.mem_of_getElem? (i := 139) (by decide +kernel)) (by decide +kernel)
theorem k_Y_15 : Cond.fieldLink R_Y 15 "AuthorityRows$Way" "length" "I" ∈ tb := tb_in (List.mem_of_getElem? (i := 140) (by decide +kernel)) (by decide +kernel)
theorem k_Y_19 : Cond.fieldLink R_Y 19 "AuthorityRows$Way" "awayFromEnd" "[J" ∈ tb := tb_in (List.mem_of_getElem? (i := 141) (by decide +kernel)) (by decide +kernel)
theorem k_A_12 : Cond.fieldLink R_A 12 "AuthorityRows" "collected" "LAuthorityRows$Collected;" ∈ tb := tb_in (List.mem_of_getElem? (i := 149) (by decide +kernel)) (by decide +kernel)
theorem k_A_19 : Cond.fieldLink R_A 19 "AuthorityRows" "text" "LAuthorityRows$Text;" ∈ tb := tb_in (List.mem_of_getElem? (i := 150) (by decide +kernel)) (by decide +kernel)
theorem k_A_26 : Cond.fieldLink R_A 26 "AuthorityRows" "headings" "LAuthorityRows$Headings;" ∈ tb := tb_in (List.mem_of_getElem? (i := 151) (by decide +kernel)) (by decide +kernel)
theorem k_A_33 : Cond.fieldLink R_A 33 "AuthorityRows" "links" "LAuthorityRows$Links;" ∈ tb := tb_in (List.mem_of_getElem? (i := 152) (by decide +kernel)) (by decide +kernel)
theorem k_A_40 : Cond.fieldLink R_A 40 "AuthorityRows" "records" "LAuthorityRows$Records;" ∈ tb := tb_in (List.mem_of_getElem? (i := 153) (by decide +kernel)) (by decide +kernel)
theorem k_A_47 : Cond.fieldLink R_A 47 "AuthorityRows" "closedWay" "LAuthorityRows$Way;" ∈ tb := tb_in (List.mem_of_getElem? (i := 154) (by decide +kernel)) (by decide +kernel)
theorem k_L_13 : Cond.methodLink R_L 13 y_A_sign ∈ tb := tb_in (List.mem_of_getElem? (i := 168) (by decide +kernel)) (by decide +kernel)
theorem k_A_51 : Cond.methodLink R_A 51 y_C_add ∈ tb := tb_in (List.mem_of_getElem? (i := 172) (by decide +kernel)) (by decide +kernel)
theorem k_L_18 : Cond.methodLink R_L 18 y_A_heading ∈ tb := tb_in (List.mem_of_getElem? (i := 176) (by decide +kernel)) (by decide +kernel)
theorem k_A_55 : Cond.methodLink R_A 55 y_C_moveTo ∈ tb := tb_in (List.mem_of_getElem? (i := 180) (by decide +kernel)) (by decide +kernel)
theorem k_C_19 : Cond.methodLink R_C 19 y_T_clear ∈ tb := tb_in (List.mem_of_getElem? (i := 184) (by decide +kernel)) (by decide +kernel)
theorem k_C_24 : Cond.methodLink R_C 24 y_C_isLetterOrDigit ∈ tb := tb_in (List.mem_of_getElem? (i := 188) (by decide +kernel)) (by decide +kernel)
theorem k_C_28 : Cond.methodLink R_C 28 y_T_add ∈ tb := tb_in (List.mem_of_getElem? (i := 191) (by decide +kernel)) (by decide +kernel)
theorem k_A_59 : Cond.methodLink R_A 59 y_A_addHeading ∈ tb := tb_in (List.mem_of_getElem? (i := 195) (by decide +kernel)) (by decide +kernel)
theorem k_A_162 : Cond.methodLink R_A 162 y_H_isFull ∈ tb := tb_in (List.mem_of_getElem? (i := 199) (by decide +kernel)) (by decide +kernel)
theorem k_A_89 : Cond.methodLink R_A 89 y_H_firstOfKind ∈ tb := tb_in (List.mem_of_getElem? (i := 203) (by decide +kernel)) (by decide +kernel)
theorem k_H_48 : Cond.methodLink R_H 48 y_H_hasText ∈ tb := tb_in (List.mem_of_getElem? (i := 207) (by decide +kernel)) (by decide +kernel)
theorem k_H_52 : Cond.methodLink R_H 52 y_H_small ∈ tb := tb_in (List.mem_of_getElem? (i := 211) (by decide +kernel)) (by decide +kernel)
theorem k_A_163 : Cond.methodLink R_A 163 y_H_add ∈ tb := tb_in (List.mem_of_getElem? (i := 214) (by decide +kernel)) (by decide +kernel)
theorem k_H_34 : Cond.methodLink R_H 34 y_H_isFull ∈ tb := tb_in (List.mem_of_getElem? (i := 218) (by decide +kernel)) (by decide +kernel)
theorem k_H_38 : Cond.methodLink R_H 38 y_H_setText ∈ tb := tb_in (List.mem_of_getElem? (i := 219) (by decide +kernel)) (by decide +kernel)
theorem k_H_30 : Cond.methodLink R_H 30 y_H_isThere ∈ tb := tb_in (List.mem_of_getElem? (i := 223) (by decide +kernel)) (by decide +kernel)
theorem k_L_25 : Cond.methodLink R_L 25 y_A_link ∈ tb := tb_in (List.mem_of_getElem? (i := 227) (by decide +kernel)) (by decide +kernel)
theorem k_A_63 : Cond.methodLink R_A 63 y_H_isLive ∈ tb := tb_in (List.mem_of_getElem? (i := 231) (by decide +kernel)) (by decide +kernel)
theorem k_A_67 : Cond.methodLink R_A 67 y_K_has ∈ tb := tb_in (List.mem_of_getElem? (i := 235) (by decide +kernel)) (by decide +kernel)
theorem k_K_29 : Cond.methodLink R_K 29 y_K_targetsOf ∈ tb := tb_in (List.mem_of_getElem? (i := 239) (by decide +kernel)) (by decide +kernel)
theorem k_K_33 : Cond.methodLinkNest R_K 33 y_A_holds "AuthorityRows" ∈ lw_tbl := List.mem_of_getElem? (i := 243) (by decide +kernel)
theorem k_A_104 : Cond.methodLink R_A 104 y_A_setOf ∈ tb := tb_in (List.mem_of_getElem? (i := 246) (by decide +kernel)) (by decide +kernel)
theorem k_A_71 : Cond.methodLink R_A 71 y_K_isFull ∈ tb := tb_in (List.mem_of_getElem? (i := 249) (by decide +kernel)) (by decide +kernel)
theorem k_A_75 : Cond.methodLink R_A 75 y_A_wouldChainSees ∈ tb := tb_in (List.mem_of_getElem? (i := 253) (by decide +kernel)) (by decide +kernel)
theorem k_A_116 : Cond.methodLink R_A 116 y_K_targetsOf ∈ tb := tb_in (List.mem_of_getElem? (i := 257) (by decide +kernel)) (by decide +kernel)
theorem k_A_108 : Cond.methodLink R_A 108 y_K_sourcesOf ∈ tb := tb_in (List.mem_of_getElem? (i := 258) (by decide +kernel)) (by decide +kernel)
theorem k_K_37 : Cond.methodLinkNest R_K 37 y_A_setOf "AuthorityRows" ∈ lw_tbl := List.mem_of_getElem? (i := 262) (by decide +kernel)
theorem k_A_79 : Cond.methodLink R_A 79 y_Y_lay ∈ tb := tb_in (List.mem_of_getElem? (i := 263) (by decide +kernel)) (by decide +kernel)
theorem k_Y_23 : Cond.methodLink R_Y 23 y_Y_measure ∈ tb := tb_in (List.mem_of_getElem? (i := 267) (by decide +kernel)) (by decide +kernel)
theorem k_Y_31 : Cond.methodLinkNest R_Y 31 y_A_setOf "AuthorityRows" ∈ lw_tbl := List.mem_of_getElem? (i := 271) (by decide +kernel)
theorem k_Y_35 : Cond.methodLinkNest R_Y 35 y_A_holds "AuthorityRows" ∈ lw_tbl := List.mem_of_getElem? (i := 272) (by decide +kernel)
theorem k_Y_39 : Cond.methodLink R_Y 39 y_K_sourcesOf ∈ tb := tb_in (List.mem_of_getElem? (i := 273) (by decide +kernel)) (by decide +kernel)
theorem k_Y_45 : Cond.constantLong R_Y 45 (-1) ∈ tb := tb_in (List.mem_of_getElem? (i := 274) (by decide +kernel)) (by decide +kernel)
theorem k_Y_27 : Cond.methodLink R_Y 27 y_Y_walk ∈ tb := tb_in (List.mem_of_getElem? (i := 275) (by decide +kernel)) (by decide +kernel)
theorem k_Y_47 : Cond.methodLink R_Y 47 y_K_targetsOf ∈ tb := tb_in (List.mem_of_getElem? (i := 279) (by decide +kernel)) (by decide +kernel)
theorem k_Y_51 : Cond.methodLinkNest R_Y 51 y_A_nthOf "AuthorityRows" ∈ lw_tbl := List.mem_of_getElem? (i := 280) (by decide +kernel)
theorem k_A_169 : Cond.methodLink R_A 169 y_A_holds ∈ tb := tb_in (List.mem_of_getElem? (i := 283) (by decide +kernel)) (by decide +kernel)
theorem k_A_83 : Cond.methodLink R_A 83 y_K_add ∈ tb := tb_in (List.mem_of_getElem? (i := 284) (by decide +kernel)) (by decide +kernel)
theorem k_K_41 : Cond.methodLink R_K 41 y_K_isFull ∈ tb := tb_in (List.mem_of_getElem? (i := 288) (by decide +kernel)) (by decide +kernel)
theorem k_K_45 : Cond.methodLink R_K 45 y_K_putLater ∈ tb := tb_in (List.mem_of_getElem? (i := 289) (by decide +kernel)) (by decide +kernel)
theorem k_L_30 : Cond.methodLink R_L 30 y_A_rename ∈ tb := tb_in (List.mem_of_getElem? (i := 293) (by decide +kernel)) (by decide +kernel)
theorem k_A_86 : Cond.methodLink R_A 86 y_H_kindOf ∈ tb := tb_in (List.mem_of_getElem? (i := 297) (by decide +kernel)) (by decide +kernel)
theorem k_A_93 : Cond.methodLink R_A 93 y_H_setText ∈ tb := tb_in (List.mem_of_getElem? (i := 301) (by decide +kernel)) (by decide +kernel)
theorem k_A_97 : Cond.methodLink R_A 97 y_R_countOf ∈ tb := tb_in (List.mem_of_getElem? (i := 302) (by decide +kernel)) (by decide +kernel)
theorem k_L_34 : Cond.methodLink R_L 34 y_A_find ∈ tb := tb_in (List.mem_of_getElem? (i := 306) (by decide +kernel)) (by decide +kernel)
theorem k_A_100 : Cond.methodLink R_A 100 y_H_firstOfAnyKind ∈ tb := tb_in (List.mem_of_getElem? (i := 310) (by decide +kernel)) (by decide +kernel)
theorem k_L_39 : Cond.methodLink R_L 39 y_A_see ∈ tb := tb_in (List.mem_of_getElem? (i := 314) (by decide +kernel)) (by decide +kernel)
theorem k_A_112 : Cond.methodLink R_A 112 y_A_nthOf ∈ tb := tb_in (List.mem_of_getElem? (i := 318) (by decide +kernel)) (by decide +kernel)
theorem k_L_44 : Cond.methodLink R_L 44 y_A_broader ∈ tb := tb_in (List.mem_of_getElem? (i := 319) (by decide +kernel)) (by decide +kernel)
theorem k_A_120 : Cond.methodLink R_A 120 y_J_bitCount ∈ tb := tb_in (List.mem_of_getElem? (i := 323) (by decide +kernel)) (by decide +kernel)
theorem k_J_314 : Cond.constantLong R_J 314 (6148914691236517205) ∈ tb := tb_in (List.mem_of_getElem? (i := 326) (by decide +kernel)) (by decide +kernel)
theorem k_J_316 : Cond.constantLong R_J 316 (3689348814741910323) ∈ tb := tb_in (List.mem_of_getElem? (i := 327) (by decide +kernel)) (by decide +kernel)
theorem k_J_318 : Cond.constantLong R_J 318 (1085102592571150095) ∈ tb := tb_in (List.mem_of_getElem? (i := 328) (by decide +kernel)) (by decide +kernel)
theorem k_A_126 : Cond.methodLink R_A 126 y_K_targetsOfAll ∈ tb := tb_in (List.mem_of_getElem? (i := 329) (by decide +kernel)) (by decide +kernel)
theorem k_A_129 : Cond.constantLong R_A 129 (-1) ∈ tb := tb_in (List.mem_of_getElem? (i := 333) (by decide +kernel)) (by decide +kernel)
theorem k_L_48 : Cond.methodLink R_L 48 y_A_delete ∈ tb := tb_in (List.mem_of_getElem? (i := 334) (by decide +kernel)) (by decide +kernel)
theorem k_A_131 : Cond.methodLink R_A 131 y_H_end ∈ tb := tb_in (List.mem_of_getElem? (i := 338) (by decide +kernel)) (by decide +kernel)
theorem k_A_135 : Cond.methodLink R_A 135 y_K_removeAllOf ∈ tb := tb_in (List.mem_of_getElem? (i := 342) (by decide +kernel)) (by decide +kernel)
theorem k_K_49 : Cond.constantLong R_K 49 (-1) ∈ tb := tb_in (List.mem_of_getElem? (i := 346) (by decide +kernel)) (by decide +kernel)
theorem k_K_51 : Cond.methodLink R_K 51 y_K_removeLaterOf ∈ tb := tb_in (List.mem_of_getElem? (i := 347) (by decide +kernel)) (by decide +kernel)
theorem k_L_52 : Cond.methodLink R_L 52 y_A_split ∈ tb := tb_in (List.mem_of_getElem? (i := 351) (by decide +kernel)) (by decide +kernel)
theorem k_A_138 : Cond.methodLink R_A 138 y_R_move ∈ tb := tb_in (List.mem_of_getElem? (i := 355) (by decide +kernel)) (by decide +kernel)
theorem k_L_57 : Cond.methodLink R_L 57 y_A_shown ∈ tb := tb_in (List.mem_of_getElem? (i := 359) (by decide +kernel)) (by decide +kernel)
theorem k_A_142 : Cond.methodLink R_A 142 y_A_usedFormOf ∈ tb := tb_in (List.mem_of_getElem? (i := 363) (by decide +kernel)) (by decide +kernel)
theorem k_A_145 : Cond.methodLink R_A 145 y_A_formOn ∈ tb := tb_in (List.mem_of_getElem? (i := 367) (by decide +kernel)) (by decide +kernel)
theorem k_A_166 : Cond.methodLink R_A 166 y_K_latestOn ∈ tb := tb_in (List.mem_of_getElem? (i := 371) (by decide +kernel)) (by decide +kernel)
theorem k_L_61 : Cond.methodLink R_L 61 y_A_record ∈ tb := tb_in (List.mem_of_getElem? (i := 375) (by decide +kernel)) (by decide +kernel)
theorem k_A_149 : Cond.methodLink R_A 149 y_R_isFull ∈ tb := tb_in (List.mem_of_getElem? (i := 379) (by decide +kernel)) (by decide +kernel)
theorem k_A_150 : Cond.methodLink R_A 150 y_R_add ∈ tb := tb_in (List.mem_of_getElem? (i := 383) (by decide +kernel)) (by decide +kernel)
theorem k_R_23 : Cond.methodLink R_R 23 y_R_isFull ∈ tb := tb_in (List.mem_of_getElem? (i := 387) (by decide +kernel)) (by decide +kernel)
theorem k_L_65 : Cond.methodLink R_L 65 y_A_linked ∈ tb := tb_in (List.mem_of_getElem? (i := 388) (by decide +kernel)) (by decide +kernel)
theorem k_A_152 : Cond.methodLink R_A 152 y_R_headingOf ∈ tb := tb_in (List.mem_of_getElem? (i := 392) (by decide +kernel)) (by decide +kernel)
theorem k_L_69 : Cond.methodLink R_L 69 y_A_form ∈ tb := tb_in (List.mem_of_getElem? (i := 396) (by decide +kernel)) (by decide +kernel)
theorem k_L_73 : Cond.methodLink R_L 73 y_A_ring ∈ tb := tb_in (List.mem_of_getElem? (i := 400) (by decide +kernel)) (by decide +kernel)
theorem k_A_155 : Cond.methodLink R_A 155 y_Y_at ∈ tb := tb_in (List.mem_of_getElem? (i := 404) (by decide +kernel)) (by decide +kernel)
theorem k_L_77 : Cond.methodLink R_L 77 y_A_letter ∈ tb := tb_in (List.mem_of_getElem? (i := 408) (by decide +kernel)) (by decide +kernel)
theorem k_A_158 : Cond.methodLink R_A 158 y_H_letterOf ∈ tb := tb_in (List.mem_of_getElem? (i := 412) (by decide +kernel)) (by decide +kernel)
theorem k_L_10 : Cond.classLink R_L 10 R_M ∈ tb := tb_in (List.mem_of_getElem? (i := 416) (by decide +kernel)) (by decide +kernel)
theorem s_M : Cond.instantiable R_M 20 ∈ tb := tb_in (List.mem_of_getElem? (i := 417) (by decide +kernel)) (by decide +kernel)
theorem k_L_12 : Cond.methodLink R_L 12 y_M_init ∈ tb := tb_in (List.mem_of_getElem? (i := 418) (by decide +kernel)) (by decide +kernel)
theorem k_M_1 : Cond.methodLink R_M 1 objectInit ∈ tb := tb_in (List.mem_of_getElem? (i := 421) (by decide +kernel)) (by decide +kernel)
theorem k_M_52 : Cond.fieldLink R_M 52 "AuthorityRowsModel" "thrown" "I" ∈ tb := tb_in (List.mem_of_getElem? (i := 422) (by decide +kernel)) (by decide +kernel)
theorem k_M_7 : Cond.fieldLink R_M 7 "AuthorityRowsModel" "said" "[B" ∈ tb := tb_in (List.mem_of_getElem? (i := 423) (by decide +kernel)) (by decide +kernel)
theorem k_M_56 : Cond.fieldLink R_M 56 "AuthorityRowsModel" "size" "I" ∈ tb := tb_in (List.mem_of_getElem? (i := 424) (by decide +kernel)) (by decide +kernel)
theorem k_M_66 : Cond.fieldLink R_M 66 "AuthorityRowsModel" "headings" "I" ∈ tb := tb_in (List.mem_of_getElem? (i := 425) (by decide +kernel)) (by decide +kernel)
theorem k_M_13 : Cond.fieldLink R_M 13 "AuthorityRowsModel" "kinds" "[I" ∈ tb := tb_in (List.mem_of_getElem? (i := 426) (by decide +kernel)) (by decide +kernel)
theorem k_M_17 : Cond.fieldLink R_M 17 "AuthorityRowsModel" "live" "[Z" ∈ tb := tb_in (List.mem_of_getElem? (i := 427) (by decide +kernel)) (by decide +kernel)
theorem k_M_21 : Cond.fieldLink R_M 21 "AuthorityRowsModel" "texts" "[B" ∈ tb := tb_in (List.mem_of_getElem? (i := 428) (by decide +kernel)) (by decide +kernel)
theorem k_M_24 : Cond.fieldLink R_M 24 "AuthorityRowsModel" "sizes" "[I" ∈ tb := tb_in (List.mem_of_getElem? (i := 429) (by decide +kernel)) (by decide +kernel)
theorem k_M_97 : Cond.fieldLink R_M 97 "AuthorityRowsModel" "links" "I" ∈ tb := tb_in (List.mem_of_getElem? (i := 430) (by decide +kernel)) (by decide +kernel)
theorem k_M_27 : Cond.fieldLink R_M 27 "AuthorityRowsModel" "linkSort" "[I" ∈ tb := tb_in (List.mem_of_getElem? (i := 431) (by decide +kernel)) (by decide +kernel)
theorem k_M_30 : Cond.fieldLink R_M 30 "AuthorityRowsModel" "linkFrom" "[I" ∈ tb := tb_in (List.mem_of_getElem? (i := 432) (by decide +kernel)) (by decide +kernel)
theorem k_M_33 : Cond.fieldLink R_M 33 "AuthorityRowsModel" "linkTo" "[I" ∈ tb := tb_in (List.mem_of_getElem? (i := 433) (by decide +kernel)) (by decide +kernel)
theorem k_M_36 : Cond.fieldLink R_M 36 "AuthorityRowsModel" "linkDay" "[J" ∈ tb := tb_in (List.mem_of_getElem? (i := 434) (by decide +kernel)) (by decide +kernel)
theorem k_M_88 : Cond.fieldLink R_M 88 "AuthorityRowsModel" "records" "I" ∈ tb := tb_in (List.mem_of_getElem? (i := 435) (by decide +kernel)) (by decide +kernel)
theorem k_M_40 : Cond.fieldLink R_M 40 "AuthorityRowsModel" "linked" "[I" ∈ tb := tb_in (List.mem_of_getElem? (i := 436) (by decide +kernel)) (by decide +kernel)
theorem k_M_43 : Cond.fieldLink R_M 43 "AuthorityRowsModel" "recordDay" "[J" ∈ tb := tb_in (List.mem_of_getElem? (i := 437) (by decide +kernel)) (by decide +kernel)
theorem k_M_46 : Cond.fieldLink R_M 46 "AuthorityRowsModel" "way" "[I" ∈ tb := tb_in (List.mem_of_getElem? (i := 438) (by decide +kernel)) (by decide +kernel)
theorem k_M_108 : Cond.fieldLink R_M 108 "AuthorityRowsModel" "wayLength" "I" ∈ tb := tb_in (List.mem_of_getElem? (i := 439) (by decide +kernel)) (by decide +kernel)
theorem k_M_49 : Cond.fieldLink R_M 49 "AuthorityRowsModel" "distance" "[I" ∈ tb := tb_in (List.mem_of_getElem? (i := 440) (by decide +kernel)) (by decide +kernel)
theorem k_M_59 : Cond.fieldLink R_M 59 "AuthorityRowsModel" "collected" "I" ∈ tb := tb_in (List.mem_of_getElem? (i := 441) (by decide +kernel)) (by decide +kernel)
theorem a_byte : Cond.arrayClass .byte ∈ tb := tb_in (List.mem_of_getElem? (i := 483) (by decide +kernel)) (by decide +kernel)
theorem k_L_17 : Cond.methodLink R_L 17 y_M_sign ∈ tb := tb_in (List.mem_of_getElem? (i := 484) (by decide +kernel)) (by decide +kernel)
theorem k_L_22 : Cond.methodLink R_L 22 y_M_heading ∈ tb := tb_in (List.mem_of_getElem? (i := 488) (by decide +kernel)) (by decide +kernel)
theorem k_M_81 : Cond.methodLink R_M 81 y_M_takes ∈ tb := tb_in (List.mem_of_getElem? (i := 492) (by decide +kernel)) (by decide +kernel)
theorem k_M_85 : Cond.methodLink R_M 85 y_M_make ∈ tb := tb_in (List.mem_of_getElem? (i := 496) (by decide +kernel)) (by decide +kernel)
theorem k_M_73 : Cond.methodLink R_M 73 y_M_first ∈ tb := tb_in (List.mem_of_getElem? (i := 500) (by decide +kernel)) (by decide +kernel)
theorem k_M_69 : Cond.methodLink R_M 69 y_M_hasText ∈ tb := tb_in (List.mem_of_getElem? (i := 504) (by decide +kernel)) (by decide +kernel)
theorem k_M_62 : Cond.methodLink R_M 62 y_M_small ∈ tb := tb_in (List.mem_of_getElem? (i := 508) (by decide +kernel)) (by decide +kernel)
theorem k_M_77 : Cond.methodLink R_M 77 y_M_lay ∈ tb := tb_in (List.mem_of_getElem? (i := 511) (by decide +kernel)) (by decide +kernel)
theorem k_L_38 : Cond.methodLink R_L 38 y_M_find ∈ tb := tb_in (List.mem_of_getElem? (i := 515) (by decide +kernel)) (by decide +kernel)
theorem k_L_33 : Cond.methodLink R_L 33 y_M_rename ∈ tb := tb_in (List.mem_of_getElem? (i := 519) (by decide +kernel)) (by decide +kernel)
theorem k_M_91 : Cond.methodLink R_M 91 y_M_isLive ∈ tb := tb_in (List.mem_of_getElem? (i := 523) (by decide +kernel)) (by decide +kernel)
theorem k_M_94 : Cond.methodLink R_M 94 y_M_linkedTo ∈ tb := tb_in (List.mem_of_getElem? (i := 527) (by decide +kernel)) (by decide +kernel)
theorem k_L_80 : Cond.methodLink R_L 80 y_M_letter ∈ tb := tb_in (List.mem_of_getElem? (i := 531) (by decide +kernel)) (by decide +kernel)
theorem k_L_29 : Cond.methodLink R_L 29 y_M_link ∈ tb := tb_in (List.mem_of_getElem? (i := 535) (by decide +kernel)) (by decide +kernel)
theorem k_M_111 : Cond.methodLink R_M 111 y_M_has ∈ tb := tb_in (List.mem_of_getElem? (i := 539) (by decide +kernel)) (by decide +kernel)
theorem k_M_100 : Cond.methodLink R_M 100 y_M_is ∈ tb := tb_in (List.mem_of_getElem? (i := 543) (by decide +kernel)) (by decide +kernel)
theorem k_M_104 : Cond.methodLink R_M 104 y_M_measure ∈ tb := tb_in (List.mem_of_getElem? (i := 547) (by decide +kernel)) (by decide +kernel)
theorem k_M_115 : Cond.methodLink R_M 115 y_M_ways ∈ tb := tb_in (List.mem_of_getElem? (i := 551) (by decide +kernel)) (by decide +kernel)
theorem k_M_119 : Cond.methodLink R_M 119 y_M_add ∈ tb := tb_in (List.mem_of_getElem? (i := 555) (by decide +kernel)) (by decide +kernel)
theorem k_L_76 : Cond.methodLink R_L 76 y_M_ring ∈ tb := tb_in (List.mem_of_getElem? (i := 559) (by decide +kernel)) (by decide +kernel)
theorem k_L_43 : Cond.methodLink R_L 43 y_M_see ∈ tb := tb_in (List.mem_of_getElem? (i := 563) (by decide +kernel)) (by decide +kernel)
theorem k_L_47 : Cond.methodLink R_L 47 y_M_broader ∈ tb := tb_in (List.mem_of_getElem? (i := 567) (by decide +kernel)) (by decide +kernel)
theorem k_L_51 : Cond.methodLink R_L 51 y_M_delete ∈ tb := tb_in (List.mem_of_getElem? (i := 571) (by decide +kernel)) (by decide +kernel)
theorem k_L_56 : Cond.methodLink R_L 56 y_M_split ∈ tb := tb_in (List.mem_of_getElem? (i := 575) (by decide +kernel)) (by decide +kernel)
theorem k_L_72 : Cond.methodLink R_L 72 y_M_form ∈ tb := tb_in (List.mem_of_getElem? (i := 579) (by decide +kernel)) (by decide +kernel)
theorem k_M_123 : Cond.methodLink R_M 123 y_M_formOf ∈ tb := tb_in (List.mem_of_getElem? (i := 583) (by decide +kernel)) (by decide +kernel)
theorem k_L_60 : Cond.methodLink R_L 60 y_M_shown ∈ tb := tb_in (List.mem_of_getElem? (i := 587) (by decide +kernel)) (by decide +kernel)
theorem k_M_127 : Cond.methodLink R_M 127 y_M_used ∈ tb := tb_in (List.mem_of_getElem? (i := 591) (by decide +kernel)) (by decide +kernel)
theorem k_L_64 : Cond.methodLink R_L 64 y_M_record ∈ tb := tb_in (List.mem_of_getElem? (i := 595) (by decide +kernel)) (by decide +kernel)
theorem k_L_68 : Cond.methodLink R_L 68 y_M_linked ∈ tb := tb_in (List.mem_of_getElem? (i := 599) (by decide +kernel)) (by decide +kernel)
theorem k_L_23 : Cond.constantLong R_L 23 (4294967295) ∈ tb := tb_in (List.mem_of_getElem? (i := 603) (by decide +kernel)) (by decide +kernel)
theorem f_O : Cond.instanceMethod objectInit ∈ tb := tb_in (List.mem_of_getElem? (i := 39) (by decide +kernel)) (by decide +kernel)
set_option maxRecDepth 100000 in
theorem f_Oc : Cond.code objectInit ⟨#[0xb1]⟩ 1 none ∈ tb := tb_in (List.mem_of_getElem? (i := 40) rfl) rfl
end
section
/-! rows of this claim's own: ints that are numbers of headings, places, counts are kept as nI n -/
def updN (f : Nat → Nat) (k x : Nat) : Nat → Nat := fun j => if j = k then x else f j
theorem updN_s {f : Nat → Nat} {k x : Nat} : updN f k x k = x := by simp [updN]
theorem updN_n {f : Nat → Nat} {k x j : Nat} (h : j ≠ k) : updN f k x j = f j := by simp [updN, h]
theorem updL_s {f : Nat → Int64} {k : Nat} {x : Int64} : vp_updL f k x k = x := by simp [vp_updL]
theorem updL_n {f : Nat → Int64} {k j : Nat} {x : Int64} (h : j ≠ k) : vp_updL f k x j = f j := by simp [vp_updL, h]
theorem upd_nI (f : Nat → Nat) (k x : Nat) : upd (fun j => nI (f j)) k (nI x) = fun j => nI (updN f k x j) := by
  funext j
  by_cases h : j = k
  · subst h; simp [upd, updN]
  · simp [upd, updN, h]
theorem x_narC {q : Nat} (h : q < 65536) : vp_nar .char (nI q) = nI q := by
  unfold vp_nar
  rw [(pk_charN h).1]
theorem x_narZ {q : Nat} (h : q < 2) : vp_nar .boolean (nI q) = nI q := by
  have h2 : q = 0 ∨ q = 1 := by omega
  rcases h2 with rfl | rfl <;> rfl
section XK
variable {p : Program} {l : Launch} {e : Env} {R : Room} {s : State} {m : MethodId} {args : Array Value} {below : List Frame} {meth : Method} {c : Code} {H : Heap} {locs : List Loc} {cells slots : Nat} {Q : State → Prop}
variable {cc : ByteArray} {pc : Nat} {ls : Array Slot} {rest : List Value} {D : va_G} {cl : List vw_C} {A : Nat → Prop} {a : Nat} {tys : List (ClassId × FieldType)} {ws : va_W} {H0 : Heap}
theorem x_iadd (hx : p.tables.exec = Jvm.exec) (hb : c.code = cc) {x y : Nat} (hdg : decode cc pc = .ok (.iadd, 1)) (k : W p l e R s m args below meth c H locs cells slots Q (F0 m (pc + 1) ls (.int (nI (x + y)) :: rest))) : W p l e R s m args below meth c H locs cells slots Q (F0 m pc ls (.int (nI y) :: .int (nI x) :: rest)) := by
  refine lv_iadd hx hb hdg ?_
  rw [nI_add]
  exact k
theorem x_imul (hx : p.tables.exec = Jvm.exec) (hb : c.code = cc) {x y : Nat} (hdg : decode cc pc = .ok (.imul, 1)) (k : W p l e R s m args below meth c H locs cells slots Q (F0 m (pc + 1) ls (.int (nI (x * y)) :: rest))) : W p l e R s m args below meth c H locs cells slots Q (F0 m pc ls (.int (nI y) :: .int (nI x) :: rest)) := by
  refine lv_imul hx hb hdg ?_
  rw [pk_mul]
  exact k
theorem x_isub (hx : p.tables.exec = Jvm.exec) (hb : c.code = cc) {x y : Nat} (hdg : decode cc pc = .ok (.isub, 1)) (k : W p l e R s m args below meth c H locs cells slots Q (F0 m (pc + 1) ls (.int (nI (x - y)) :: rest))) (h : y ≤ x := by omega) : W p l e R s m args below meth c H locs cells slots Q (F0 m pc ls (.int (nI y) :: .int (nI x) :: rest)) := by
  refine lv_isub hx hb hdg ?_
  rw [pk_sub h]
  exact k
theorem x_icmp_eq (hx : p.tables.exec = Jvm.exec) (hb : c.code = cc) {x y : Nat} {off : Int} {tgt : Nat} (hdg : decode cc pc = .ok (.if_icmp .eq off, 3)) (ht : (pc : Int) + off = (tgt : Int)) (kt : x = y → W p l e R s m args below meth c H locs cells slots Q (F0 m tgt ls rest)) (kf : ¬ x = y → W p l e R s m args below meth c H locs cells slots Q (F0 m (pc + 3) ls rest)) (h1 : x < 2 ^ 31 := by omega) (h2 : y < 2 ^ 31 := by omega) : W p l e R s m args below meth c H locs cells slots Q (F0 m pc ls (.int (nI y) :: .int (nI x) :: rest)) :=
  lv_icmp_eq hx hb hdg ht (fun h => kt ((nI_eq h1 h2).mp h)) (fun h => kf (by have h3 : ¬ (x = y) := fun q => h ((nI_eq h1 h2).mpr q); omega))
theorem x_icmp_ne (hx : p.tables.exec = Jvm.exec) (hb : c.code = cc) {x y : Nat} {off : Int} {tgt : Nat} (hdg : decode cc pc = .ok (.if_icmp .ne off, 3)) (ht : (pc : Int) + off = (tgt : Int)) (kt : ¬ x = y → W p l e R s m args below meth c H locs cells slots Q (F0 m tgt ls rest)) (kf : x = y → W p l e R s m args below meth c H locs cells slots Q (F0 m (pc + 3) ls rest)) (h1 : x < 2 ^ 31 := by omega) (h2 : y < 2 ^ 31 := by omega) : W p l e R s m args below meth c H locs cells slots Q (F0 m pc ls (.int (nI y) :: .int (nI x) :: rest)) :=
  lv_icmp_ne hx hb hdg ht (fun h => kt (fun q => h ((nI_eq h1 h2).mpr q))) (fun h => kf ((nI_eq h1 h2).mp h))
theorem x_icmp_lt (hx : p.tables.exec = Jvm.exec) (hb : c.code = cc) {x y : Nat} {off : Int} {tgt : Nat} (hdg : decode cc pc = .ok (.if_icmp .lt off, 3)) (ht : (pc : Int) + off = (tgt : Int)) (kt : x < y → W p l e R s m args below meth c H locs cells slots Q (F0 m tgt ls rest)) (kf : y ≤ x → W p l e R s m args below meth c H locs cells slots Q (F0 m (pc + 3) ls rest)) (h1 : x < 2 ^ 31 := by omega) (h2 : y < 2 ^ 31 := by omega) : W p l e R s m args below meth c H locs cells slots Q (F0 m pc ls (.int (nI y) :: .int (nI x) :: rest)) :=
  lv_icmp_lt hx hb hdg ht (fun h => kt ((nI_ltI h1 h2).mp h)) (fun h => kf (by have h3 : ¬ (x < y) := fun q => h ((nI_ltI h1 h2).mpr q); omega))
theorem x_icmp_ge (hx : p.tables.exec = Jvm.exec) (hb : c.code = cc) {x y : Nat} {off : Int} {tgt : Nat} (hdg : decode cc pc = .ok (.if_icmp .ge off, 3)) (ht : (pc : Int) + off = (tgt : Int)) (kt : y ≤ x → W p l e R s m args below meth c H locs cells slots Q (F0 m tgt ls rest)) (kf : x < y → W p l e R s m args below meth c H locs cells slots Q (F0 m (pc + 3) ls rest)) (h1 : x < 2 ^ 31 := by omega) (h2 : y < 2 ^ 31 := by omega) : W p l e R s m args below meth c H locs cells slots Q (F0 m pc ls (.int (nI y) :: .int (nI x) :: rest)) :=
  lv_icmp_ge hx hb hdg ht (fun h => kt ((nI_leI h2 h1).mp h)) (fun h => kf (by have h3 : ¬ (y ≤ x) := fun q => h ((nI_leI h2 h1).mpr q); omega))
theorem x_icmp_gt (hx : p.tables.exec = Jvm.exec) (hb : c.code = cc) {x y : Nat} {off : Int} {tgt : Nat} (hdg : decode cc pc = .ok (.if_icmp .gt off, 3)) (ht : (pc : Int) + off = (tgt : Int)) (kt : y < x → W p l e R s m args below meth c H locs cells slots Q (F0 m tgt ls rest)) (kf : x ≤ y → W p l e R s m args below meth c H locs cells slots Q (F0 m (pc + 3) ls rest)) (h1 : x < 2 ^ 31 := by omega) (h2 : y < 2 ^ 31 := by omega) : W p l e R s m args below meth c H locs cells slots Q (F0 m pc ls (.int (nI y) :: .int (nI x) :: rest)) :=
  lv_icmp_gt hx hb hdg ht (fun h => kt ((nI_ltI h2 h1).mp h)) (fun h => kf (by have h3 : ¬ (y < x) := fun q => h ((nI_ltI h2 h1).mpr q); omega))
theorem x_icmp_le (hx : p.tables.exec = Jvm.exec) (hb : c.code = cc) {x y : Nat} {off : Int} {tgt : Nat} (hdg : decode cc pc = .ok (.if_icmp .le off, 3)) (ht : (pc : Int) + off = (tgt : Int)) (kt : x ≤ y → W p l e R s m args below meth c H locs cells slots Q (F0 m tgt ls rest)) (kf : y < x → W p l e R s m args below meth c H locs cells slots Q (F0 m (pc + 3) ls rest)) (h1 : x < 2 ^ 31 := by omega) (h2 : y < 2 ^ 31 := by omega) : W p l e R s m args below meth c H locs cells slots Q (F0 m pc ls (.int (nI y) :: .int (nI x) :: rest)) :=
  lv_icmp_le hx hb hdg ht (fun h => kt ((nI_leI h1 h2).mp h)) (fun h => kf (by have h3 : ¬ (x ≤ y) := fun q => h ((nI_leI h1 h2).mpr q); omega))
theorem x_if_eq (hx : p.tables.exec = Jvm.exec) (hb : c.code = cc) {x : Nat} {off : Int} {tgt : Nat} (hdg : decode cc pc = .ok (.ifCond .eq off, 3)) (ht : (pc : Int) + off = (tgt : Int)) (kt : x = 0 → W p l e R s m args below meth c H locs cells slots Q (F0 m tgt ls rest)) (kf : ¬ x = 0 → W p l e R s m args below meth c H locs cells slots Q (F0 m (pc + 3) ls rest)) (h1 : x < 2 ^ 31 := by omega) : W p l e R s m args below meth c H locs cells slots Q (F0 m pc ls (.int (nI x) :: rest)) :=
  lv_if_eq hx hb hdg ht (fun h => kt ((nI_eq h1 (by decide)).mp h)) (fun h => kf (fun q => h ((nI_eq h1 (by decide)).mpr q)))
theorem x_if_ne (hx : p.tables.exec = Jvm.exec) (hb : c.code = cc) {x : Nat} {off : Int} {tgt : Nat} (hdg : decode cc pc = .ok (.ifCond .ne off, 3)) (ht : (pc : Int) + off = (tgt : Int)) (kt : ¬ x = 0 → W p l e R s m args below meth c H locs cells slots Q (F0 m tgt ls rest)) (kf : x = 0 → W p l e R s m args below meth c H locs cells slots Q (F0 m (pc + 3) ls rest)) (h1 : x < 2 ^ 31 := by omega) : W p l e R s m args below meth c H locs cells slots Q (F0 m pc ls (.int (nI x) :: rest)) :=
  lv_if_ne hx hb hdg ht (fun h => kt (fun q => h ((nI_eq h1 (by decide)).mpr q))) (fun h => kf ((nI_eq h1 (by decide)).mp h))
theorem x_if_gt (hx : p.tables.exec = Jvm.exec) (hb : c.code = cc) {x : Nat} {off : Int} {tgt : Nat} (hdg : decode cc pc = .ok (.ifCond .gt off, 3)) (ht : (pc : Int) + off = (tgt : Int)) (kt : 0 < x → W p l e R s m args below meth c H locs cells slots Q (F0 m tgt ls rest)) (kf : x = 0 → W p l e R s m args below meth c H locs cells slots Q (F0 m (pc + 3) ls rest)) (h1 : x < 2 ^ 31 := by omega) : W p l e R s m args below meth c H locs cells slots Q (F0 m pc ls (.int (nI x) :: rest)) :=
  lv_if_gt hx hb hdg ht (fun h => kt ((nI_ltI (by decide) h1).mp h)) (fun h => kf (by have h3 : ¬ (0 < x) := fun q => h ((nI_ltI (a := 0) (by decide) h1).mpr q); omega))
theorem x_if_le (hx : p.tables.exec = Jvm.exec) (hb : c.code = cc) {x : Nat} {off : Int} {tgt : Nat} (hdg : decode cc pc = .ok (.ifCond .le off, 3)) (ht : (pc : Int) + off = (tgt : Int)) (kt : x = 0 → W p l e R s m args below meth c H locs cells slots Q (F0 m tgt ls rest)) (kf : 0 < x → W p l e R s m args below meth c H locs cells slots Q (F0 m (pc + 3) ls rest)) (h1 : x < 2 ^ 31 := by omega) : W p l e R s m args below meth c H locs cells slots Q (F0 m pc ls (.int (nI x) :: rest)) :=
  lv_if_le hx hb hdg ht (fun h => kt (by have := (nI_leI (b := 0) h1 (by decide)).mp h; omega)) (fun h => kf (by have h3 : ¬ (x ≤ 0) := fun q => h ((nI_leI (b := 0) h1 (by decide)).mpr q); omega))
theorem x_if_lt (hx : p.tables.exec = Jvm.exec) (hb : c.code = cc) {x : Nat} {off : Int} {tgt : Nat} (hdg : decode cc pc = .ok (.ifCond .lt off, 3)) (ht : (pc : Int) + off = (tgt : Int)) (kf : W p l e R s m args below meth c H locs cells slots Q (F0 m (pc + 3) ls rest)) (h1 : x < 2 ^ 31 := by omega) : W p l e R s m args below meth c H locs cells slots Q (F0 m pc ls (.int (nI x) :: rest)) :=
  lv_if_lt hx hb hdg ht (fun h => absurd h (nI_pos h1)) (fun _ => kf)
theorem x_if_ge (hx : p.tables.exec = Jvm.exec) (hb : c.code = cc) {x : Nat} {off : Int} {tgt : Nat} (hdg : decode cc pc = .ok (.ifCond .ge off, 3)) (ht : (pc : Int) + off = (tgt : Int)) (kt : W p l e R s m args below meth c H locs cells slots Q (F0 m tgt ls rest)) (h1 : x < 2 ^ 31 := by omega) : W p l e R s m args below meth c H locs cells slots Q (F0 m pc ls (.int (nI x) :: rest)) :=
  lv_if_ge hx hb hdg ht (fun _ => kt) (fun h => absurd (nI_pos' h1) h)
theorem x_lif_eq (hx : p.tables.exec = Jvm.exec) (hb : c.code = cc) {x y : Int64} {off : Int} {tgt : Nat} (hd0 : decode cc pc = .ok (.lcmp, 1)) (hdg : decode cc (pc + 1) = .ok (.ifCond .eq off, 3)) (ht : ((pc + 1 : Nat) : Int) + off = (tgt : Int)) (kt : x = y → W p l e R s m args below meth c H locs cells slots Q (F0 m tgt ls rest)) (kf : ¬ x = y → W p l e R s m args below meth c H locs cells slots Q (F0 m (pc + 4) ls rest)) : W p l e R s m args below meth c H locs cells slots Q (F0 m pc ls (.long y :: .long x :: rest)) :=
  W.lcmp hx hb hd0 (lv_if_eq hx hb hdg ht (fun h => kt ((lg_cmp_eq x y).mp h)) (fun h => kf (fun q => h ((lg_cmp_eq x y).mpr q))))
theorem x_lif_ne (hx : p.tables.exec = Jvm.exec) (hb : c.code = cc) {x y : Int64} {off : Int} {tgt : Nat} (hd0 : decode cc pc = .ok (.lcmp, 1)) (hdg : decode cc (pc + 1) = .ok (.ifCond .ne off, 3)) (ht : ((pc + 1 : Nat) : Int) + off = (tgt : Int)) (kt : ¬ x = y → W p l e R s m args below meth c H locs cells slots Q (F0 m tgt ls rest)) (kf : x = y → W p l e R s m args below meth c H locs cells slots Q (F0 m (pc + 4) ls rest)) : W p l e R s m args below meth c H locs cells slots Q (F0 m pc ls (.long y :: .long x :: rest)) :=
  W.lcmp hx hb hd0 (lv_if_ne hx hb hdg ht (fun h => kt (fun q => h ((lg_cmp_eq x y).mpr q))) (fun h => kf ((lg_cmp_eq x y).mp h)))
theorem x_lif_lt (hx : p.tables.exec = Jvm.exec) (hb : c.code = cc) {x y : Int64} {off : Int} {tgt : Nat} (hd0 : decode cc pc = .ok (.lcmp, 1)) (hdg : decode cc (pc + 1) = .ok (.ifCond .lt off, 3)) (ht : ((pc + 1 : Nat) : Int) + off = (tgt : Int)) (kt : x < y → W p l e R s m args below meth c H locs cells slots Q (F0 m tgt ls rest)) (kf : ¬ x < y → W p l e R s m args below meth c H locs cells slots Q (F0 m (pc + 4) ls rest)) : W p l e R s m args below meth c H locs cells slots Q (F0 m pc ls (.long y :: .long x :: rest)) :=
  W.lcmp hx hb hd0 (lv_if_lt hx hb hdg ht (fun h => kt ((lg_cmp_lt x y).mp h)) (fun h => kf (fun q => h ((lg_cmp_lt x y).mpr q))))
theorem x_lif_ge (hx : p.tables.exec = Jvm.exec) (hb : c.code = cc) {x y : Int64} {off : Int} {tgt : Nat} (hd0 : decode cc pc = .ok (.lcmp, 1)) (hdg : decode cc (pc + 1) = .ok (.ifCond .ge off, 3)) (ht : ((pc + 1 : Nat) : Int) + off = (tgt : Int)) (kt : y ≤ x → W p l e R s m args below meth c H locs cells slots Q (F0 m tgt ls rest)) (kf : ¬ y ≤ x → W p l e R s m args below meth c H locs cells slots Q (F0 m (pc + 4) ls rest)) : W p l e R s m args below meth c H locs cells slots Q (F0 m pc ls (.long y :: .long x :: rest)) :=
  W.lcmp hx hb hd0 (lv_if_ge hx hb hdg ht (fun h => kt ((lg_cmp_ge x y).mp h)) (fun h => kf (fun q => h ((lg_cmp_ge x y).mpr q))))
theorem x_lif_gt (hx : p.tables.exec = Jvm.exec) (hb : c.code = cc) {x y : Int64} {off : Int} {tgt : Nat} (hd0 : decode cc pc = .ok (.lcmp, 1)) (hdg : decode cc (pc + 1) = .ok (.ifCond .gt off, 3)) (ht : ((pc + 1 : Nat) : Int) + off = (tgt : Int)) (kt : y < x → W p l e R s m args below meth c H locs cells slots Q (F0 m tgt ls rest)) (kf : ¬ y < x → W p l e R s m args below meth c H locs cells slots Q (F0 m (pc + 4) ls rest)) : W p l e R s m args below meth c H locs cells slots Q (F0 m pc ls (.long y :: .long x :: rest)) :=
  W.lcmp hx hb hd0 (lv_if_gt hx hb hdg ht (fun h => kt ((lg_cmp_gt x y).mp h)) (fun h => kf (fun q => h ((lg_cmp_gt x y).mpr q))))
theorem x_lif_le (hx : p.tables.exec = Jvm.exec) (hb : c.code = cc) {x y : Int64} {off : Int} {tgt : Nat} (hd0 : decode cc pc = .ok (.lcmp, 1)) (hdg : decode cc (pc + 1) = .ok (.ifCond .le off, 3)) (ht : ((pc + 1 : Nat) : Int) + off = (tgt : Int)) (kt : x ≤ y → W p l e R s m args below meth c H locs cells slots Q (F0 m tgt ls rest)) (kf : ¬ x ≤ y → W p l e R s m args below meth c H locs cells slots Q (F0 m (pc + 4) ls rest)) : W p l e R s m args below meth c H locs cells slots Q (F0 m pc ls (.long y :: .long x :: rest)) :=
  W.lcmp hx hb hd0 (lv_if_le hx hb hdg ht (fun h => kt ((lg_cmp_le x y).mp h)) (fun h => kf (fun q => h ((lg_cmp_le x y).mpr q))))
theorem x_iinc (hx : p.tables.exec = Jvm.exec) (hb : c.code = cc) {i nL k x : Nat} {lv lv' : List (Nat × Value)} (hdg : decode cc pc = .ok (.iinc i 1, 3)) (h : lv_has ls nL lv) (hk : lv[k]? = some (i, .int (nI x))) (hn : i < nL) (hl : (i, Value.int (nI (x + 1))) :: lv.filter (fun q => !(q.1 == i) && !(q.1 + 1 == i && q.2.category == 2)) = lv') (kk : ∀ ls' : Array Slot, lv_has ls' nL lv' → W p l e R s m args below meth c H locs cells slots Q (F0 m (pc + 3) ls' rest)) : W p l e R s m args below meth c H locs cells slots Q (F0 m pc ls rest) :=
  lv_iinc (v := nI (x + 1)) hx hb hdg h hk (nI_1 x) hn hl kk
theorem x_iincW (hx : p.tables.exec = Jvm.exec) (hb : c.code = cc) {i nL k x : Nat} {lv lv' : List (Nat × Value)} (hdg : decode cc pc = .ok (.iinc i 1, 6)) (h : lv_has ls nL lv) (hk : lv[k]? = some (i, .int (nI x))) (hn : i < nL) (hl : (i, Value.int (nI (x + 1))) :: lv.filter (fun q => !(q.1 == i) && !(q.1 + 1 == i && q.2.category == 2)) = lv') (kk : ∀ ls' : Array Slot, lv_has ls' nL lv' → W p l e R s m args below meth c H locs cells slots Q (F0 m (pc + 6) ls' rest)) : W p l e R s m args below meth c H locs cells slots Q (F0 m pc ls rest) :=
  lv_iincW (v := nI (x + 1)) hx hb hdg h hk (nI_1 x) hn hl kk
theorem x_idec (hx : p.tables.exec = Jvm.exec) (hb : c.code = cc) {i nL k x : Nat} {lv lv' : List (Nat × Value)} (hdg : decode cc pc = .ok (.iinc i (-1), 3)) (h : lv_has ls nL lv) (hk : lv[k]? = some (i, .int (nI (x + 1)))) (hn : i < nL) (hl : (i, Value.int (nI x)) :: lv.filter (fun q => !(q.1 == i) && !(q.1 + 1 == i && q.2.category == 2)) = lv') (kk : ∀ ls' : Array Slot, lv_has ls' nL lv' → W p l e R s m args below meth c H locs cells slots Q (F0 m (pc + 3) ls' rest)) : W p l e R s m args below meth c H locs cells slots Q (F0 m pc ls rest) :=
  lv_iinc (v := nI x) hx hb hdg h hk (pk_m1 x) hn hl kk
theorem x_iald (hx : p.tables.exec = Jvm.exec) (hb : c.code = cc) (hK : va_K D cl tys s) (hP : va_P D cl ws H) (q0 t0 : Nat) {cA : ClassId} {N n : Nat} {f : Nat → Nat} (ha : ws[q0]? = some (a, .inl (cA, N, .inl (fun j => nI (f j))))) (ht : tys[t0]? = some (cA, .int)) (hdg : decode cc pc = .ok (.iaload, 1)) (hn : n < N) (kk : W p l e R s m args below meth c H locs cells slots Q (F0 m (pc + 1) ls (.int (nI (f n)) :: rest))) (hN : N < 2 ^ 31 := by decide) : W p l e R s m args below meth c H locs cells slots Q (F0 m pc ls (.int (nI n) :: .ref a :: rest)) :=
  va_iald hx hb hK hP q0 t0 ha ht (vp_in_nI hn hN) hdg (by rw [nI_clamp (Nat.lt_trans hn hN)]; exact kk)
theorem x_cald (hx : p.tables.exec = Jvm.exec) (hb : c.code = cc) (hK : va_K D cl tys s) (hP : va_P D cl ws H) (q0 t0 : Nat) {cA : ClassId} {N n : Nat} {f : Nat → Nat} (ha : ws[q0]? = some (a, .inl (cA, N, .inl (fun j => nI (f j))))) (ht : tys[t0]? = some (cA, .char)) (hdg : decode cc pc = .ok (.caload, 1)) (hn : n < N) (kk : W p l e R s m args below meth c H locs cells slots Q (F0 m (pc + 1) ls (.int (nI (f n)) :: rest))) (hN : N < 2 ^ 31 := by decide) : W p l e R s m args below meth c H locs cells slots Q (F0 m pc ls (.int (nI n) :: .ref a :: rest)) :=
  va_cald hx hb hK hP q0 t0 ha ht (vp_in_nI hn hN) hdg (by rw [nI_clamp (Nat.lt_trans hn hN)]; exact kk)
theorem x_zald (hx : p.tables.exec = Jvm.exec) (hb : c.code = cc) (hK : va_K D cl tys s) (hP : va_P D cl ws H) (q0 t0 : Nat) {cA : ClassId} {N n : Nat} {f : Nat → Nat} (ha : ws[q0]? = some (a, .inl (cA, N, .inl (fun j => nI (f j))))) (ht : tys[t0]? = some (cA, .boolean)) (hdg : decode cc pc = .ok (.baload, 1)) (hn : n < N) (kk : W p l e R s m args below meth c H locs cells slots Q (F0 m (pc + 1) ls (.int (nI (f n)) :: rest))) (hN : N < 2 ^ 31 := by decide) : W p l e R s m args below meth c H locs cells slots Q (F0 m pc ls (.int (nI n) :: .ref a :: rest)) :=
  va_zald hx hb hK hP q0 t0 ha ht (vp_in_nI hn hN) hdg (by rw [nI_clamp (Nat.lt_trans hn hN)]; exact kk)
theorem x_bald (hx : p.tables.exec = Jvm.exec) (hb : c.code = cc) (hK : va_K D cl tys s) (hP : va_P D cl ws H) (q0 t0 : Nat) {cA : ClassId} {N n : Nat} {f : Nat → Nat} (ha : ws[q0]? = some (a, .inl (cA, N, .inl (fun j => nI (f j))))) (ht : tys[t0]? = some (cA, .byte)) (hdg : decode cc pc = .ok (.baload, 1)) (hn : n < N) (kk : W p l e R s m args below meth c H locs cells slots Q (F0 m (pc + 1) ls (.int (nI (f n)) :: rest))) (hN : N < 2 ^ 31 := by decide) : W p l e R s m args below meth c H locs cells slots Q (F0 m pc ls (.int (nI n) :: .ref a :: rest)) :=
  va_bald hx hb hK hP q0 t0 ha ht (vp_in_nI hn hN) hdg (by rw [nI_clamp (Nat.lt_trans hn hN)]; exact kk)
theorem x_sald (hx : p.tables.exec = Jvm.exec) (hb : c.code = cc) (hK : va_K D cl tys s) (hP : va_P D cl ws H) (q0 t0 : Nat) {cA : ClassId} {N n : Nat} {f : Nat → Nat} (ha : ws[q0]? = some (a, .inl (cA, N, .inl (fun j => nI (f j))))) (ht : tys[t0]? = some (cA, .short)) (hdg : decode cc pc = .ok (.saload, 1)) (hn : n < N) (kk : W p l e R s m args below meth c H locs cells slots Q (F0 m (pc + 1) ls (.int (nI (f n)) :: rest))) (hN : N < 2 ^ 31 := by decide) : W p l e R s m args below meth c H locs cells slots Q (F0 m pc ls (.int (nI n) :: .ref a :: rest)) :=
  va_sald hx hb hK hP q0 t0 ha ht (vp_in_nI hn hN) hdg (by rw [nI_clamp (Nat.lt_trans hn hN)]; exact kk)
theorem x_lald (hx : p.tables.exec = Jvm.exec) (hb : c.code = cc) (hK : va_K D cl tys s) (hP : va_P D cl ws H) (q0 t0 : Nat) {cA : ClassId} {N n : Nat} {f : Nat → Int64} (ha : ws[q0]? = some (a, .inl (cA, N, .inr (.inl f)))) (ht : tys[t0]? = some (cA, .long)) (hdg : decode cc pc = .ok (.laload, 1)) (hn : n < N) (kk : W p l e R s m args below meth c H locs cells slots Q (F0 m (pc + 1) ls (.long (f n) :: rest))) (hN : N < 2 ^ 31 := by decide) : W p l e R s m args below meth c H locs cells slots Q (F0 m pc ls (.int (nI n) :: .ref a :: rest)) :=
  va_lald hx hb hK hP q0 t0 ha ht (vp_in_nI hn hN) hdg (by rw [nI_clamp (Nat.lt_trans hn hN)]; exact kk)
theorem x_iast (hx : p.tables.exec = Jvm.exec) (hb : c.code = cc) (hK : va_K D cl tys s) (hP : va_P D cl ws H) (hD : va_D A ws) (hS : va_S A H0 H locs) (q0 t0 : Nat) {cA : ClassId} {N n x : Nat} {f : Nat → Nat} (ha : ws[q0]? = some (a, .inl (cA, N, .inl (fun j => nI (f j))))) (ht : tys[t0]? = some (cA, .int)) (hdg : decode cc pc = .ok (.iastore, 1)) (hn : n < N) (kk : ∀ (H1 : Heap) (locs1 : List Loc), va_P D cl (ws.set q0 (a, .inl (cA, N, .inl (fun j => nI (updN f n x j))))) H1 → va_D A (ws.set q0 (a, .inl (cA, N, .inl (fun j => nI (updN f n x j))))) → va_S A H0 H1 locs1 → W p l e R s m args below meth c H1 locs1 cells slots Q (F0 m (pc + 1) ls rest)) (hN : N < 2 ^ 31 := by decide) : W p l e R s m args below meth c H locs cells slots Q (F0 m pc ls (.int (nI x) :: .int (nI n) :: .ref a :: rest)) :=
  va_iast hx hb hK hP hD hS q0 t0 ha ht (vp_in_nI hn hN) hdg (fun H1 locs1 hP hD hS => by
    rw [nI_clamp (Nat.lt_trans hn hN), upd_nI] at hP hD
    exact kk H1 locs1 hP hD hS)
theorem x_cast (hx : p.tables.exec = Jvm.exec) (hb : c.code = cc) (hK : va_K D cl tys s) (hP : va_P D cl ws H) (hD : va_D A ws) (hS : va_S A H0 H locs) (q0 t0 : Nat) {cA : ClassId} {N n x : Nat} {f : Nat → Nat} (ha : ws[q0]? = some (a, .inl (cA, N, .inl (fun j => nI (f j))))) (ht : tys[t0]? = some (cA, .char)) (hdg : decode cc pc = .ok (.castore, 1)) (hn : n < N) (kk : ∀ (H1 : Heap) (locs1 : List Loc), va_P D cl (ws.set q0 (a, .inl (cA, N, .inl (fun j => nI (updN f n x j))))) H1 → va_D A (ws.set q0 (a, .inl (cA, N, .inl (fun j => nI (updN f n x j))))) → va_S A H0 H1 locs1 → W p l e R s m args below meth c H1 locs1 cells slots Q (F0 m (pc + 1) ls rest)) (hN : N < 2 ^ 31 := by decide) (hr : x < 65536 := by omega) : W p l e R s m args below meth c H locs cells slots Q (F0 m pc ls (.int (nI x) :: .int (nI n) :: .ref a :: rest)) :=
  va_cast hx hb hK hP hD hS q0 t0 ha ht (vp_in_nI hn hN) hdg (fun H1 locs1 hP hD hS => by
    rw [nI_clamp (Nat.lt_trans hn hN), x_narC hr, upd_nI] at hP hD
    exact kk H1 locs1 hP hD hS)
theorem x_zast (hx : p.tables.exec = Jvm.exec) (hb : c.code = cc) (hK : va_K D cl tys s) (hP : va_P D cl ws H) (hD : va_D A ws) (hS : va_S A H0 H locs) (q0 t0 : Nat) {cA : ClassId} {N n x : Nat} {f : Nat → Nat} (ha : ws[q0]? = some (a, .inl (cA, N, .inl (fun j => nI (f j))))) (ht : tys[t0]? = some (cA, .boolean)) (hdg : decode cc pc = .ok (.bastore, 1)) (hn : n < N) (kk : ∀ (H1 : Heap) (locs1 : List Loc), va_P D cl (ws.set q0 (a, .inl (cA, N, .inl (fun j => nI (updN f n x j))))) H1 → va_D A (ws.set q0 (a, .inl (cA, N, .inl (fun j => nI (updN f n x j))))) → va_S A H0 H1 locs1 → W p l e R s m args below meth c H1 locs1 cells slots Q (F0 m (pc + 1) ls rest)) (hN : N < 2 ^ 31 := by decide) (hr : x < 2 := by omega) : W p l e R s m args below meth c H locs cells slots Q (F0 m pc ls (.int (nI x) :: .int (nI n) :: .ref a :: rest)) :=
  va_zast hx hb hK hP hD hS q0 t0 ha ht (vp_in_nI hn hN) hdg (fun H1 locs1 hP hD hS => by
    rw [nI_clamp (Nat.lt_trans hn hN), x_narZ hr, upd_nI] at hP hD
    exact kk H1 locs1 hP hD hS)
theorem x_last (hx : p.tables.exec = Jvm.exec) (hb : c.code = cc) (hK : va_K D cl tys s) (hP : va_P D cl ws H) (hD : va_D A ws) (hS : va_S A H0 H locs) (q0 t0 : Nat) {cA : ClassId} {N n : Nat} {x : Int64} {f : Nat → Int64} (ha : ws[q0]? = some (a, .inl (cA, N, .inr (.inl f)))) (ht : tys[t0]? = some (cA, .long)) (hdg : decode cc pc = .ok (.lastore, 1)) (hn : n < N) (kk : ∀ (H1 : Heap) (locs1 : List Loc), va_P D cl (ws.set q0 (a, .inl (cA, N, .inr (.inl (vp_updL f n x))))) H1 → va_D A (ws.set q0 (a, .inl (cA, N, .inr (.inl (vp_updL f n x))))) → va_S A H0 H1 locs1 → W p l e R s m args below meth c H1 locs1 cells slots Q (F0 m (pc + 1) ls rest)) (hN : N < 2 ^ 31 := by decide) : W p l e R s m args below meth c H locs cells slots Q (F0 m pc ls (.long x :: .int (nI n) :: .ref a :: rest)) :=
  va_last hx hb hK hP hD hS q0 t0 ha ht (vp_in_nI hn hN) hdg (fun H1 locs1 hP hD hS => by
    rw [nI_clamp (Nat.lt_trans hn hN)] at hP hD
    exact kk H1 locs1 hP hD hS)
end XK
/-! words: one list for all methods; links to nest mates stand beside it -/
theorem tb_good : ∀ w ∈ tb, (w.onTables && w.keeps) = true ∨ ∃ ty, w = .arrayClass ty := fun _ h => good_of_word (List.mem_filter.mp h).2
def wS (y : MethodName) (b : ByteArray) (n : Nat) (ret : Option FieldType) : List Cond := .code y b n ret :: tb
theorem tb_S {y : MethodName} {b : ByteArray} {n : Nat} {ret : Option FieldType} (h : Cond.code y b n ret ∈ tb) : GoodIn tb (wS y b n ret) := fun w hw => by
  rcases List.mem_cons.mp hw with rfl | hw
  · exact ⟨h, tb_good _ h⟩
  · exact ⟨hw, tb_good _ hw⟩
def isNest : Cond → Bool
  | .fieldLinkNest .. => true
  | .methodLinkNest .. => true
  | _ => false
def NWs (U : State) : Prop := ∀ w ∈ lw_tbl, isNest w = true → va_Nw w U
theorem NWs.warm {s U : State} (hW : s.WarmedH U.vm) (h : NWs s) : NWs U := fun w hw hn => by
  have h1 := h w hw hn
  cases w <;> first | exact va_Nw.warmF hW h1 | exact va_Nw.warmM hW h1 | exact absurd hn (by simp [isNest])
theorem NWs.same {u U : State} (e : u.vm = U.vm) (h : NWs u) : NWs U := fun w hw hn => by
  have h1 := h w hw hn
  cases w <;> first | exact va_Nw.same rfl e h1 | exact absurd hn (by simp [isNest])
def rD (d : Nat) : Room := { frames := d, cells := 0, slots := 0, locals := 36 * d }
/-- what a method that only reads needs of the state -/
def RB (D : va_G) (tys : List (ClassId × FieldType)) (ws : va_W) (U : State) : Prop := va_P D classes ws U.heap ∧ va_K D classes tys U ∧ NWs U
/-- what a method that writes needs -/
def MB (D : va_G) (tys : List (ClassId × FieldType)) (ws : va_W) (sz : Nat) (U : State) : Prop := U.heap.size = sz ∧ va_P D classes ws U.heap ∧ va_K D classes tys U ∧ NWs U ∧ va_D (fun _ => True) ws
/-- what it leaves -/
def ME (D : va_G) (tys : List (ClassId × FieldType)) (A : Nat → Prop) (ws : va_W) (t : State) : Prop := va_P D classes ws t.heap ∧ va_K D classes tys t ∧ va_D A ws
theorem blR {As : List Value} {D : va_G} {tys : List (ClassId × FieldType)} {ws : va_W} : FrameBlind (va_Pc As (RB D tys ws)) := fun a U g mk q => by
  obtain ⟨q0, qP, qK, qN⟩ := q
  exact ⟨q0, qP, va_K.moved (u := U) (U := U.calling g mk a) (Vm.Alike.refl U.vm) qK, NWs.same (u := U) (U := U.calling g mk a) rfl qN⟩
theorem blM {As : List Value} {D : va_G} {tys : List (ClassId × FieldType)} {ws : va_W} {sz : Nat} : FrameBlind (va_Pc As (MB D tys ws sz)) := fun a U g mk q => by
  obtain ⟨q0, q1, qP, qK, qN, qD⟩ := q
  exact ⟨q0, q1, qP, va_K.moved (u := U) (U := U.calling g mk a) (Vm.Alike.refl U.vm) qK, NWs.same (u := U) (U := U.calling g mk a) rfl qN, qD⟩
theorem blT {As : List Value} : FrameBlind (va_Pc As (fun U => NWs U)) := fun a U g mk q => ⟨q.1, NWs.same (u := U) (U := U.calling g mk a) rfl q.2⟩
theorem x_enter {l : Launch} {y : MethodName} {b : ByteArray} {n : Nat} {ret : Option FieldType} {rm : Room} {As : List Value} {B : State → Prop} {Qc : Array Value → State → Outcome → State → Prop} {mc ms : Nat} {free : Addr → Prop} (hy : plainName y.cls = true) (hlen : (lg_sl As).length ≤ n)
    (body : ∀ (p : Program) (e : Env) (s : State) (m : MethodId) (below : List Frame) (meth : Method) (c : Code) (ls : Array Slot), p.tables.exec = Jvm.exec → c.code = b → meth.sig.returnType = ret → c.maxLocals = n → (∀ w ∈ tb, w.before As.toArray s = true) → s.vm.findClass y.cls = some m.cls → meth.locks = false → meth.name = y.name → lv_has ls n (lv_args 0 As) → B s → W p l e rm s m As.toArray below meth c s.heap [] 0 0 (MQ below Qc As.toArray s mc ms free) (F0 m 0 ls [])) : Met l y (wS y b n ret) rm (va_Pc As B) Qc mc ms free := by
  refine Met.ofW (cc := b) (maxL := n) (ret := ret) hy rfl ?_
  intro p e s m args below meth c s₁ Bd hml hv
  obtain ⟨rfl, hB⟩ := hv
  have hl := lv_entry As (n := n) hlen
  rw [lg_entry_eq]
  exact body p e s m below meth c _ Bd.exec Bd.bytes Bd.returns hml (fun w h => atoms_spec (ws := wS y b n ret) Bd.pre w (List.mem_cons_of_mem _ h)) (findClass_of_methodNamed Bd.named) Bd.notSynchronized (name_of_methodNamed Bd.named Bd.method).1 hl hB
section XC
variable {p : Program} {l : Launch} {e : Env} {R : Room} {s : State} {m : MethodId} {args : Array Value} {below : List Frame} {meth : Method} {c : Code} {H : Heap} {locs : List Loc} {cells slots : Nat} {Q : State → Prop}
variable {cc : ByteArray} {pc : Nat} {ls : Array Slot} {rest st0 : List Value} {D : va_G} {A : Nat → Prop} {a : Nat} {tys : List (ClassId × FieldType)} {ws : va_W} {H0 : Heap}
variable {y : MethodName} {b : ByteArray} {n nL idx k : Nat} {ret : Option FieldType} {rm : Room} {own C : String} {As : List Value} {B : State → Prop} {Qc : Array Value → State → Outcome → State → Prop} {mc ms : Nat} {free : Addr → Prop}
/-- returns of a method that only reads -/
theorem x_ri {post : Int32 → Prop} {v : Int32} (hx : p.tables.exec = Jvm.exec) (hb : c.code = cc) (hr : meth.sig.returnType = some .int) (hlk : meth.locks = false) (hd : decode cc pc = .ok (.ireturn, 1)) (hp : post v) : W p l e R s m args below meth c s.heap [] cells slots (MQ below (vp_Si post) args s cells slots (fun _ => False)) (F0 m pc ls [.int v]) :=
  W.iret hx hb hr (fun t ht _ => ⟨v, rfl, hp, ht⟩) (fun q h => by cases h) hd hlk
theorem x_rz {post : Int32 → Prop} {v : Int32} (hx : p.tables.exec = Jvm.exec) (hb : c.code = cc) (hr : meth.sig.returnType = some .boolean) (hlk : meth.locks = false) (hd : decode cc pc = .ok (.ireturn, 1)) (hn : narrow .boolean (.int v) = .int v) (hp : post v) : W p l e R s m args below meth c s.heap [] cells slots (MQ below (vp_Si post) args s cells slots (fun _ => False)) (F0 m pc ls [.int v]) :=
  W.zret hx hb hr hn (fun t ht _ => ⟨v, rfl, hp, ht⟩) (fun q h => by cases h) hd hlk
theorem x_rl {post : Int64 → Prop} {v : Int64} (hx : p.tables.exec = Jvm.exec) (hb : c.code = cc) (hr : meth.sig.returnType = some .long) (hlk : meth.locks = false) (hd : decode cc pc = .ok (.lreturn, 1)) (hp : post v) : W p l e R s m args below meth c s.heap [] cells slots (MQ below (vp_Sl post) args s cells slots (fun _ => False)) (F0 m pc ls [.long v]) :=
  W.lret hx hb hr (fun t ht _ => ⟨v, rfl, hp, ht⟩) (fun q h => by cases h) hd hlk
/-- returns of a method that writes -/
theorem x_mi {S : Type} {post : Int32 → S → Prop} {wl : S → va_W} {v : Int32} (u : S) (hx : p.tables.exec = Jvm.exec) (hb : c.code = cc) (hr : meth.sig.returnType = some .int) (hlk : meth.locks = false) (hK : va_K D classes tys s) (hP : va_P D classes (wl u) H) (hD : va_D A (wl u)) (hS : va_S A s.heap H locs) (hd : decode cc pc = .ok (.ireturn, 1)) (hp : post v u) : W p l e R s m args below meth c H locs cells slots (MQ below (va_Qi post (fun u => ME D tys A (wl u)) A) args s cells slots A) (F0 m pc ls [.int v]) :=
  W.iret hx hb hr (fun t ht hW => ⟨⟨v, u, rfl, hp, by rw [ht]; exact hP, va_K.moved hW.alike hK, hD⟩, hS.F ht⟩) hS.2.2 hd hlk
theorem x_mz {S : Type} {post : Int32 → S → Prop} {wl : S → va_W} {v : Int32} (u : S) (hx : p.tables.exec = Jvm.exec) (hb : c.code = cc) (hr : meth.sig.returnType = some .boolean) (hlk : meth.locks = false) (hK : va_K D classes tys s) (hP : va_P D classes (wl u) H) (hD : va_D A (wl u)) (hS : va_S A s.heap H locs) (hd : decode cc pc = .ok (.ireturn, 1)) (hn : narrow .boolean (.int v) = .int v) (hp : post v u) : W p l e R s m args below meth c H locs cells slots (MQ below (va_Qi post (fun u => ME D tys A (wl u)) A) args s cells slots A) (F0 m pc ls [.int v]) :=
  W.zret hx hb hr hn (fun t ht hW => ⟨⟨v, u, rfl, hp, by rw [ht]; exact hP, va_K.moved hW.alike hK, hD⟩, hS.F ht⟩) hS.2.2 hd hlk
theorem x_mv {S : Type} {post : S → Prop} {wl : S → va_W} (u : S) (hx : p.tables.exec = Jvm.exec) (hb : c.code = cc) (hr : meth.sig.returnType = none) (hlk : meth.locks = false) (hK : va_K D classes tys s) (hP : va_P D classes (wl u) H) (hD : va_D A (wl u)) (hS : va_S A s.heap H locs) (hd : decode cc pc = .ok (.return_, 1)) (hp : post u) : W p l e R s m args below meth c H locs cells slots (MQ below (va_Qv post (fun u => ME D tys A (wl u)) A) args s cells slots A) (F0 m pc ls []) :=
  W.vret hx hb hr (fun t ht hW => ⟨⟨u, rfl, hp, by rw [ht]; exact hP, va_K.moved hW.alike hK, hD⟩, hS.F ht⟩) hS.2.2 hd hlk
theorem x_runV (S : CallFix p m c cc nL s args tb own) (hM : Met l y (wS y b n ret) rm (va_Pc (.ref a :: As) B) Qc mc ms free) (hf : MFv y b n ret k) (hl : Cond.methodLink own idx y ∈ tb) (hbl : FrameBlind (va_Pc (.ref a :: As) B)) (hrc : ∃ cellB : Cell, H[a]? = some cellB ∧ cellB.vm.isStatics = false ∧ s.vm.findClass y.cls = some cellB.cls) (hB : ∀ U : State, U.heap = H → s.WarmedH U.vm → B U) (hsz : ls.size = nL) (hd : decode cc pc = .ok (.invokevirtual idx, 3)) (hn : As.length = k) (hW : 2 * (F0 m pc ls rest).monitorRoom + (rest.map fun v => v.category).sum ≤ 8) (hR : rm.frames + 1 ≤ R.frames ∧ 8 + (n + 11) + rm.locals ≤ R.locals) (hrm : rm.cells = mc ∧ rm.slots = ms) (hcs : cells + mc ≤ R.cells ∧ slots + ms ≤ R.slots) (hst : st0 = As.reverse ++ .ref a :: rest) :
    va_Run p l e R s m args below meth c H locs cells slots mc ms (F0 m pc ls st0) rest (Qc (Value.ref a :: As).toArray) free := by
  obtain ⟨⟨h1, h2, h3, h4, h5⟩, h6, h7⟩ := hf
  exact va_runV (C := y.cls) S hM ⟨callB_of k S.2.2.2.2 (tb_S h1) rfl hrm.1 hrm.2 (S.2.2.2.2 _ h2) (S.2.2.2.2 _ hl) ⟨h3, h4, h5⟩ hR, S.2.2.2.2 _ h6, S.2.2.2.2 _ h7⟩ ⟨hbl, hrc, fun U e w => ⟨rfl, hB U e w⟩⟩ rfl hn hsz hst hW hd hcs
theorem x_runS (S : CallFix p m c cc nL s args tb own) (hM : Met l y (wS y b n ret) rm (va_Pc As B) Qc mc ms free) (hf : MFs y b n ret k) (hl : Cond.methodLink own idx y ∈ tb) (hbl : FrameBlind (va_Pc As B)) (hB : ∀ U : State, U.heap = H → s.WarmedH U.vm → B U) (hsz : ls.size = nL) (hd : decode cc pc = .ok (.invokestatic idx, 3)) (hn : As.length = k) (hW : 2 * (F0 m pc ls rest).monitorRoom + (rest.map fun v => v.category).sum ≤ 8) (hR : rm.frames + 1 ≤ R.frames ∧ 8 + (n + 11) + rm.locals ≤ R.locals) (hrm : rm.cells = mc ∧ rm.slots = ms) (hcs : cells + mc ≤ R.cells ∧ slots + ms ≤ R.slots) (hst : st0 = As.reverse ++ rest) :
    va_Run p l e R s m args below meth c H locs cells slots mc ms (F0 m pc ls st0) rest (Qc As.toArray) free := by
  obtain ⟨⟨h1, h2, h3, h4, h5⟩, h6⟩ := hf
  exact va_runS S hM ⟨callB_of k S.2.2.2.2 (tb_S h1) rfl hrm.1 hrm.2 (S.2.2.2.2 _ h2) (S.2.2.2.2 _ hl) ⟨h3, h4, h5⟩ hR, S.2.2.2.2 _ h6⟩ ⟨hbl, fun U e w => ⟨rfl, hB U e w⟩⟩ rfl hn hsz hst hW hd hcs
theorem x_runVN {host : String} (S : CallFix p m c cc nL s args tb own) (hN : NWs s) (hM : Met l y (wS y b n ret) rm (va_Pc (.ref a :: As) B) Qc mc ms free) (hf : MFv y b n ret k) (hl : Cond.methodLinkNest own idx y host ∈ lw_tbl) (hbl : FrameBlind (va_Pc (.ref a :: As) B)) (hrc : ∃ cellB : Cell, H[a]? = some cellB ∧ cellB.vm.isStatics = false ∧ s.vm.findClass y.cls = some cellB.cls) (hB : ∀ U : State, U.heap = H → s.WarmedH U.vm → B U) (hsz : ls.size = nL) (hd : decode cc pc = .ok (.invokevirtual idx, 3)) (hn : As.length = k) (hW : 2 * (F0 m pc ls rest).monitorRoom + (rest.map fun v => v.category).sum ≤ 8) (hR : rm.frames + 1 ≤ R.frames ∧ 8 + (n + 11) + rm.locals ≤ R.locals) (hrm : rm.cells = mc ∧ rm.slots = ms) (hcs : cells + mc ≤ R.cells ∧ slots + ms ≤ R.slots) (hst : st0 = As.reverse ++ .ref a :: rest) :
    va_Run p l e R s m args below meth c H locs cells slots mc ms (F0 m pc ls st0) rest (Qc (Value.ref a :: As).toArray) free := by
  obtain ⟨⟨h1, h2, h3, h4, h5⟩, h6, h7⟩ := hf
  exact va_runVN (C := y.cls) (host := host) S hM ⟨va_cnB k S.2.2.2.2 (tb_S h1) rfl hrm.1 hrm.2 (hN _ hl rfl) (S.2.2.2.2 _ h2) ⟨h3, h4, h5⟩ hR, S.2.2.2.2 _ h6, S.2.2.2.2 _ h7⟩ ⟨hbl, hrc, fun U e w => ⟨rfl, hB U e w⟩⟩ rfl hn hsz hst hW hd hcs
theorem x_runSN {host : String} (S : CallFix p m c cc nL s args tb own) (hN : NWs s) (hM : Met l y (wS y b n ret) rm (va_Pc As B) Qc mc ms free) (hf : MFs y b n ret k) (hl : Cond.methodLinkNest own idx y host ∈ lw_tbl) (hbl : FrameBlind (va_Pc As B)) (hB : ∀ U : State, U.heap = H → s.WarmedH U.vm → B U) (hsz : ls.size = nL) (hd : decode cc pc = .ok (.invokestatic idx, 3)) (hn : As.length = k) (hW : 2 * (F0 m pc ls rest).monitorRoom + (rest.map fun v => v.category).sum ≤ 8) (hR : rm.frames + 1 ≤ R.frames ∧ 8 + (n + 11) + rm.locals ≤ R.locals) (hrm : rm.cells = mc ∧ rm.slots = ms) (hcs : cells + mc ≤ R.cells ∧ slots + ms ≤ R.slots) (hst : st0 = As.reverse ++ rest) :
    va_Run p l e R s m args below meth c H locs cells slots mc ms (F0 m pc ls st0) rest (Qc As.toArray) free := by
  obtain ⟨⟨h1, h2, h3, h4, h5⟩, h6⟩ := hf
  exact va_runSN (host := host) S hM ⟨va_cnB k S.2.2.2.2 (tb_S h1) rfl hrm.1 hrm.2 (hN _ hl rfl) (S.2.2.2.2 _ h2) ⟨h3, h4, h5⟩ hR, S.2.2.2.2 _ h6, trivial⟩ ⟨hbl, fun U e w => ⟨rfl, hB U e w⟩⟩ rfl hn hsz hst hW hd hcs
/-- behind a call that only reads -/
theorem x_ci {post : Int32 → Prop} {a0 : Array Value} (hr : va_Run p l e R s m args below meth c H locs cells slots 0 0 (F0 m pc ls st0) rest (vp_Si post a0) (fun _ => False)) (kk : ∀ r : Int32, post r → W p l e R s m args below meth c H locs cells slots Q (F0 m (pc + 3) ls (.int r :: rest))) : W p l e R s m args below meth c H locs cells slots Q (F0 m pc ls st0) := vp_callSi hr.run kk
theorem x_cl {post : Int64 → Prop} {a0 : Array Value} (hr : va_Run p l e R s m args below meth c H locs cells slots 0 0 (F0 m pc ls st0) rest (vp_Sl post a0) (fun _ => False)) (kk : ∀ r : Int64, post r → W p l e R s m args below meth c H locs cells slots Q (F0 m (pc + 3) ls (.long r :: rest))) : W p l e R s m args below meth c H locs cells slots Q (F0 m pc ls st0) := vp_callSl hr.run kk
theorem x_free (hD : va_D A ws) (hS : va_S A H0 H locs) (hA : ∀ q, H0.size ≤ q → A q) : ∀ q, va_A ws H.size q → A q := by
  intro q h
  rcases h with ⟨k, e, h⟩ | h
  · exact hD.2 k (q, e) h
  · exact hA q (Nat.le_trans hS.1 h)
/-- behind a call that writes in the whole of my world -/
theorem x_cMi {S : Type} {post : Int32 → S → Prop} {wl : S → va_W} {a0 : Array Value} (hr : va_Run p l e R s m args below meth c H locs cells slots 0 0 (F0 m pc ls st0) rest (va_Qi post (fun u => ME D tys (va_A ws H.size) (wl u)) (va_A ws H.size) a0) (va_A ws H.size)) (hD : va_D A ws) (hS : va_S A H0 H locs) (hA : ∀ q, H0.size ≤ q → A q)
    (kk : ∀ (r : Int32) (u : S) (H1 : Heap) (locs1 : List Loc), post r u → va_P D classes (wl u) H1 → va_D A (wl u) → va_S A H0 H1 locs1 → W p l e R s m args below meth c H1 locs1 cells slots Q (F0 m (pc + 3) ls (.int r :: rest))) : W p l e R s m args below meth c H locs cells slots Q (F0 m pc ls st0) :=
  va_calli hr hS (fun q _ h => x_free hD hS hA q h) (x_free hD hS hA) (fun r u t H1 locs1 ht _ hp hB _ _ hS1 => kk r u H1 locs1 hp (by rw [← ht]; exact hB.1) (hB.2.2.weaken (fun _ q _ h => x_free hD hS hA q.1 h)) hS1)
theorem x_cMv {S : Type} {post : S → Prop} {wl : S → va_W} {a0 : Array Value} (hr : va_Run p l e R s m args below meth c H locs cells slots 0 0 (F0 m pc ls st0) rest (va_Qv post (fun u => ME D tys (va_A ws H.size) (wl u)) (va_A ws H.size) a0) (va_A ws H.size)) (hD : va_D A ws) (hS : va_S A H0 H locs) (hA : ∀ q, H0.size ≤ q → A q)
    (kk : ∀ (u : S) (H1 : Heap) (locs1 : List Loc), post u → va_P D classes (wl u) H1 → va_D A (wl u) → va_S A H0 H1 locs1 → W p l e R s m args below meth c H1 locs1 cells slots Q (F0 m (pc + 3) ls rest)) : W p l e R s m args below meth c H locs cells slots Q (F0 m pc ls st0) :=
  va_callv hr hS (fun q _ h => x_free hD hS hA q h) (x_free hD hS hA) (fun u t H1 locs1 ht _ hp hB _ _ hS1 => kk u H1 locs1 hp (by rw [← ht]; exact hB.1) (hB.2.2.weaken (fun _ q _ h => x_free hD hS hA q.1 h)) hS1)
theorem x_bR (hK : va_K D classes tys s) (hP : va_P D classes ws H) (hN : NWs s) : ∀ U : State, U.heap = H → s.WarmedH U.vm → RB D tys ws U := fun U hU hW => ⟨by rw [hU]; exact hP, va_K.moved hW.alike hK, hN.warm hW⟩
theorem x_bM (hK : va_K D classes tys s) (hP : va_P D classes ws H) (hN : NWs s) (hD : va_D A ws) : ∀ U : State, U.heap = H → s.WarmedH U.vm → MB D tys ws H.size U := fun U hU hW => ⟨by rw [hU], by rw [hU]; exact hP, va_K.moved hW.alike hK, hN.warm hW, hD.weaken (fun _ _ _ _ => trivial)⟩
theorem x_bT (hN : NWs s) : ∀ U : State, U.heap = H → s.WarmedH U.vm → NWs U := fun _ _ hW => hN.warm hW
end XC
end
section
theorem d_A_init_0 : decode b_A_init 0 = .ok (.aload_n 0, 1) := by decide +kernel
theorem d_A_init_1 : decode b_A_init 1 = .ok (.invokespecial 3, 3) := by decide +kernel
theorem d_A_init_4 : decode b_A_init 4 = .ok (.aload_n 0, 1) := by decide +kernel
theorem d_A_init_5 : decode b_A_init 5 = .ok (.new 9, 3) := by decide +kernel
theorem d_A_init_8 : decode b_A_init 8 = .ok (.dup, 1) := by decide +kernel
theorem d_A_init_9 : decode b_A_init 9 = .ok (.invokespecial 11, 3) := by decide +kernel
theorem d_A_init_12 : decode b_A_init 12 = .ok (.putfield 12, 3) := by decide +kernel
theorem d_A_init_15 : decode b_A_init 15 = .ok (.aload_n 0, 1) := by decide +kernel
theorem d_A_init_16 : decode b_A_init 16 = .ok (.new 16, 3) := by decide +kernel
theorem d_A_init_19 : decode b_A_init 19 = .ok (.dup, 1) := by decide +kernel
theorem d_A_init_20 : decode b_A_init 20 = .ok (.invokespecial 18, 3) := by decide +kernel
theorem d_A_init_23 : decode b_A_init 23 = .ok (.putfield 19, 3) := by decide +kernel
theorem d_A_init_26 : decode b_A_init 26 = .ok (.aload_n 0, 1) := by decide +kernel
theorem d_A_init_27 : decode b_A_init 27 = .ok (.new 23, 3) := by decide +kernel
theorem d_A_init_30 : decode b_A_init 30 = .ok (.dup, 1) := by decide +kernel
theorem d_A_init_31 : decode b_A_init 31 = .ok (.invokespecial 25, 3) := by decide +kernel
theorem d_A_init_34 : decode b_A_init 34 = .ok (.putfield 26, 3) := by decide +kernel
theorem d_A_init_37 : decode b_A_init 37 = .ok (.aload_n 0, 1) := by decide +kernel
theorem d_A_init_38 : decode b_A_init 38 = .ok (.new 30, 3) := by decide +kernel
theorem d_A_init_41 : decode b_A_init 41 = .ok (.dup, 1) := by decide +kernel
theorem d_A_init_42 : decode b_A_init 42 = .ok (.invokespecial 32, 3) := by decide +kernel
theorem d_A_init_45 : decode b_A_init 45 = .ok (.putfield 33, 3) := by decide +kernel
theorem d_A_init_48 : decode b_A_init 48 = .ok (.aload_n 0, 1) := by decide +kernel
theorem d_A_init_49 : decode b_A_init 49 = .ok (.new 37, 3) := by decide +kernel
theorem d_A_init_52 : decode b_A_init 52 = .ok (.dup, 1) := by decide +kernel
theorem d_A_init_53 : decode b_A_init 53 = .ok (.invokespecial 39, 3) := by decide +kernel
theorem d_A_init_56 : decode b_A_init 56 = .ok (.putfield 40, 3) := by decide +kernel
theorem d_A_init_59 : decode b_A_init 59 = .ok (.aload_n 0, 1) := by decide +kernel
theorem d_A_init_60 : decode b_A_init 60 = .ok (.new 44, 3) := by decide +kernel
theorem d_A_init_63 : decode b_A_init 63 = .ok (.dup, 1) := by decide +kernel
theorem d_A_init_64 : decode b_A_init 64 = .ok (.invokespecial 46, 3) := by decide +kernel
theorem d_A_init_67 : decode b_A_init 67 = .ok (.putfield 47, 3) := by decide +kernel
theorem d_A_init_70 : decode b_A_init 70 = .ok (.return_, 1) := by decide +kernel
theorem d_A_sign_0 : decode b_A_sign 0 = .ok (.aload_n 0, 1) := by decide +kernel
theorem d_A_sign_1 : decode b_A_sign 1 = .ok (.getfield 12, 3) := by decide +kernel
theorem d_A_sign_4 : decode b_A_sign 4 = .ok (.iload_n 1, 1) := by decide +kernel
theorem d_A_sign_5 : decode b_A_sign 5 = .ok (.sipush 255, 3) := by decide +kernel
theorem d_A_sign_8 : decode b_A_sign 8 = .ok (.iand, 1) := by decide +kernel
theorem d_A_sign_9 : decode b_A_sign 9 = .ok (.i2c, 1) := by decide +kernel
theorem d_A_sign_10 : decode b_A_sign 10 = .ok (.invokevirtual 51, 3) := by decide +kernel
theorem d_A_sign_13 : decode b_A_sign 13 = .ok (.return_, 1) := by decide +kernel
theorem d_A_heading_0 : decode b_A_heading 0 = .ok (.aload_n 0, 1) := by decide +kernel
theorem d_A_heading_1 : decode b_A_heading 1 = .ok (.getfield 12, 3) := by decide +kernel
theorem d_A_heading_4 : decode b_A_heading 4 = .ok (.aload_n 0, 1) := by decide +kernel
theorem d_A_heading_5 : decode b_A_heading 5 = .ok (.getfield 19, 3) := by decide +kernel
theorem d_A_heading_8 : decode b_A_heading 8 = .ok (.invokevirtual 55, 3) := by decide +kernel
theorem d_A_heading_11 : decode b_A_heading 11 = .ok (.ifCond .ne 6, 3) := by decide +kernel
theorem d_A_heading_14 : decode b_A_heading 14 = .ok (.bipush (-99), 2) := by decide +kernel
theorem d_A_heading_16 : decode b_A_heading 16 = .ok (.ireturn, 1) := by decide +kernel
theorem d_A_heading_17 : decode b_A_heading 17 = .ok (.iload_n 1, 1) := by decide +kernel
theorem d_A_heading_18 : decode b_A_heading 18 = .ok (.ifCond .lt 8, 3) := by decide +kernel
theorem d_A_heading_21 : decode b_A_heading 21 = .ok (.iload_n 1, 1) := by decide +kernel
theorem d_A_heading_22 : decode b_A_heading 22 = .ok (.iconst 4, 1) := by decide +kernel
theorem d_A_heading_23 : decode b_A_heading 23 = .ok (.if_icmp .lt 5, 3) := by decide +kernel
theorem d_A_heading_26 : decode b_A_heading 26 = .ok (.iconst 0, 1) := by decide +kernel
theorem d_A_heading_27 : decode b_A_heading 27 = .ok (.ireturn, 1) := by decide +kernel
theorem d_A_heading_28 : decode b_A_heading 28 = .ok (.aload_n 0, 1) := by decide +kernel
theorem d_A_heading_29 : decode b_A_heading 29 = .ok (.iload_n 1, 1) := by decide +kernel
theorem d_A_heading_30 : decode b_A_heading 30 = .ok (.invokevirtual 59, 3) := by decide +kernel
theorem d_A_heading_33 : decode b_A_heading 33 = .ok (.ireturn, 1) := by decide +kernel
theorem d_A_link_0 : decode b_A_link 0 = .ok (.iload_n 1, 1) := by decide +kernel
theorem d_A_link_1 : decode b_A_link 1 = .ok (.ifCond .lt 13, 3) := by decide +kernel
theorem d_A_link_4 : decode b_A_link 4 = .ok (.iload_n 1, 1) := by decide +kernel
theorem d_A_link_5 : decode b_A_link 5 = .ok (.iconst 4, 1) := by decide +kernel
theorem d_A_link_6 : decode b_A_link 6 = .ok (.if_icmp .ge 8, 3) := by decide +kernel
theorem d_A_link_9 : decode b_A_link 9 = .ok (.iload_n 2, 1) := by decide +kernel
theorem d_A_link_10 : decode b_A_link 10 = .ok (.iload_n 3, 1) := by decide +kernel
theorem d_A_link_11 : decode b_A_link 11 = .ok (.if_icmp .ne 5, 3) := by decide +kernel
theorem d_A_link_14 : decode b_A_link 14 = .ok (.iconst 0, 1) := by decide +kernel
theorem d_A_link_15 : decode b_A_link 15 = .ok (.ireturn, 1) := by decide +kernel
theorem d_A_link_16 : decode b_A_link 16 = .ok (.aload_n 0, 1) := by decide +kernel
theorem d_A_link_17 : decode b_A_link 17 = .ok (.getfield 26, 3) := by decide +kernel
theorem d_A_link_20 : decode b_A_link 20 = .ok (.iload_n 2, 1) := by decide +kernel
theorem d_A_link_21 : decode b_A_link 21 = .ok (.invokevirtual 63, 3) := by decide +kernel
theorem d_A_link_24 : decode b_A_link 24 = .ok (.ifCond .eq 14, 3) := by decide +kernel
theorem d_A_link_27 : decode b_A_link 27 = .ok (.aload_n 0, 1) := by decide +kernel
theorem d_A_link_28 : decode b_A_link 28 = .ok (.getfield 26, 3) := by decide +kernel
theorem d_A_link_31 : decode b_A_link 31 = .ok (.iload_n 3, 1) := by decide +kernel
theorem d_A_link_32 : decode b_A_link 32 = .ok (.invokevirtual 63, 3) := by decide +kernel
theorem d_A_link_35 : decode b_A_link 35 = .ok (.ifCond .ne 5, 3) := by decide +kernel
theorem d_A_link_38 : decode b_A_link 38 = .ok (.iconst 0, 1) := by decide +kernel
theorem d_A_link_39 : decode b_A_link 39 = .ok (.ireturn, 1) := by decide +kernel
theorem d_A_link_40 : decode b_A_link 40 = .ok (.aload_n 0, 1) := by decide +kernel
theorem d_A_link_41 : decode b_A_link 41 = .ok (.getfield 33, 3) := by decide +kernel
theorem d_A_link_44 : decode b_A_link 44 = .ok (.iload_n 1, 1) := by decide +kernel
theorem d_A_link_45 : decode b_A_link 45 = .ok (.iload_n 2, 1) := by decide +kernel
theorem d_A_link_46 : decode b_A_link 46 = .ok (.iload_n 3, 1) := by decide +kernel
theorem d_A_link_47 : decode b_A_link 47 = .ok (.invokevirtual 67, 3) := by decide +kernel
theorem d_A_link_50 : decode b_A_link 50 = .ok (.ifCond .ne 13, 3) := by decide +kernel
theorem d_A_link_53 : decode b_A_link 53 = .ok (.aload_n 0, 1) := by decide +kernel
theorem d_A_link_54 : decode b_A_link 54 = .ok (.getfield 33, 3) := by decide +kernel
theorem d_A_link_57 : decode b_A_link 57 = .ok (.invokevirtual 71, 3) := by decide +kernel
theorem d_A_link_60 : decode b_A_link 60 = .ok (.ifCond .eq 5, 3) := by decide +kernel
theorem d_A_link_63 : decode b_A_link 63 = .ok (.iconst 0, 1) := by decide +kernel
theorem d_A_link_64 : decode b_A_link 64 = .ok (.ireturn, 1) := by decide +kernel
theorem d_A_link_65 : decode b_A_link 65 = .ok (.iload_n 1, 1) := by decide +kernel
theorem d_A_link_66 : decode b_A_link 66 = .ok (.ifCond .ne 14, 3) := by decide +kernel
theorem d_A_link_69 : decode b_A_link 69 = .ok (.aload_n 0, 1) := by decide +kernel
theorem d_A_link_70 : decode b_A_link 70 = .ok (.iload_n 2, 1) := by decide +kernel
theorem d_A_link_71 : decode b_A_link 71 = .ok (.iload_n 3, 1) := by decide +kernel
theorem d_A_link_72 : decode b_A_link 72 = .ok (.invokevirtual 75, 3) := by decide +kernel
theorem d_A_link_75 : decode b_A_link 75 = .ok (.ifCond .eq 5, 3) := by decide +kernel
theorem d_A_link_78 : decode b_A_link 78 = .ok (.iconst 0, 1) := by decide +kernel
theorem d_A_link_79 : decode b_A_link 79 = .ok (.ireturn, 1) := by decide +kernel
theorem d_A_link_80 : decode b_A_link 80 = .ok (.iload_n 1, 1) := by decide +kernel
theorem d_A_link_81 : decode b_A_link 81 = .ok (.iconst 2, 1) := by decide +kernel
theorem d_A_link_82 : decode b_A_link 82 = .ok (.if_icmp .eq 8, 3) := by decide +kernel
theorem d_A_link_85 : decode b_A_link 85 = .ok (.iload_n 1, 1) := by decide +kernel
theorem d_A_link_86 : decode b_A_link 86 = .ok (.iconst 3, 1) := by decide +kernel
theorem d_A_link_87 : decode b_A_link 87 = .ok (.if_icmp .ne 22, 3) := by decide +kernel
theorem d_A_link_90 : decode b_A_link 90 = .ok (.aload_n 0, 1) := by decide +kernel
theorem d_A_link_91 : decode b_A_link 91 = .ok (.getfield 47, 3) := by decide +kernel
theorem d_A_link_94 : decode b_A_link 94 = .ok (.aload_n 0, 1) := by decide +kernel
theorem d_A_link_95 : decode b_A_link 95 = .ok (.getfield 33, 3) := by decide +kernel
theorem d_A_link_98 : decode b_A_link 98 = .ok (.iload_n 1, 1) := by decide +kernel
theorem d_A_link_99 : decode b_A_link 99 = .ok (.iload_n 3, 1) := by decide +kernel
theorem d_A_link_100 : decode b_A_link 100 = .ok (.iload_n 2, 1) := by decide +kernel
theorem d_A_link_101 : decode b_A_link 101 = .ok (.invokevirtual 79, 3) := by decide +kernel
theorem d_A_link_104 : decode b_A_link 104 = .ok (.ifCond .eq 5, 3) := by decide +kernel
theorem d_A_link_107 : decode b_A_link 107 = .ok (.iconst 0, 1) := by decide +kernel
theorem d_A_link_108 : decode b_A_link 108 = .ok (.ireturn, 1) := by decide +kernel
theorem d_A_link_109 : decode b_A_link 109 = .ok (.aload_n 0, 1) := by decide +kernel
theorem d_A_link_110 : decode b_A_link 110 = .ok (.getfield 33, 3) := by decide +kernel
theorem d_A_link_113 : decode b_A_link 113 = .ok (.iload_n 1, 1) := by decide +kernel
theorem d_A_link_114 : decode b_A_link 114 = .ok (.iload_n 2, 1) := by decide +kernel
theorem d_A_link_115 : decode b_A_link 115 = .ok (.iload_n 3, 1) := by decide +kernel
theorem d_A_link_116 : decode b_A_link 116 = .ok (.lload 4, 2) := by decide +kernel
theorem d_A_link_118 : decode b_A_link 118 = .ok (.invokevirtual 83, 3) := by decide +kernel
theorem d_A_link_121 : decode b_A_link 121 = .ok (.iconst 1, 1) := by decide +kernel
theorem d_A_link_122 : decode b_A_link 122 = .ok (.ireturn, 1) := by decide +kernel
theorem d_A_rename_0 : decode b_A_rename 0 = .ok (.aload_n 0, 1) := by decide +kernel
theorem d_A_rename_1 : decode b_A_rename 1 = .ok (.getfield 12, 3) := by decide +kernel
theorem d_A_rename_4 : decode b_A_rename 4 = .ok (.aload_n 0, 1) := by decide +kernel
theorem d_A_rename_5 : decode b_A_rename 5 = .ok (.getfield 19, 3) := by decide +kernel
theorem d_A_rename_8 : decode b_A_rename 8 = .ok (.invokevirtual 55, 3) := by decide +kernel
theorem d_A_rename_11 : decode b_A_rename 11 = .ok (.ifCond .ne 6, 3) := by decide +kernel
theorem d_A_rename_14 : decode b_A_rename 14 = .ok (.bipush (-99), 2) := by decide +kernel
theorem d_A_rename_16 : decode b_A_rename 16 = .ok (.ireturn, 1) := by decide +kernel
theorem d_A_rename_17 : decode b_A_rename 17 = .ok (.aload_n 0, 1) := by decide +kernel
theorem d_A_rename_18 : decode b_A_rename 18 = .ok (.getfield 26, 3) := by decide +kernel
theorem d_A_rename_21 : decode b_A_rename 21 = .ok (.iload_n 1, 1) := by decide +kernel
theorem d_A_rename_22 : decode b_A_rename 22 = .ok (.invokevirtual 63, 3) := by decide +kernel
theorem d_A_rename_25 : decode b_A_rename 25 = .ok (.ifCond .ne 6, 3) := by decide +kernel
theorem d_A_rename_28 : decode b_A_rename 28 = .ok (.bipush (-100), 2) := by decide +kernel
theorem d_A_rename_30 : decode b_A_rename 30 = .ok (.ireturn, 1) := by decide +kernel
theorem d_A_rename_31 : decode b_A_rename 31 = .ok (.aload_n 0, 1) := by decide +kernel
theorem d_A_rename_32 : decode b_A_rename 32 = .ok (.getfield 26, 3) := by decide +kernel
theorem d_A_rename_35 : decode b_A_rename 35 = .ok (.aload_n 0, 1) := by decide +kernel
theorem d_A_rename_36 : decode b_A_rename 36 = .ok (.getfield 26, 3) := by decide +kernel
theorem d_A_rename_39 : decode b_A_rename 39 = .ok (.iload_n 1, 1) := by decide +kernel
theorem d_A_rename_40 : decode b_A_rename 40 = .ok (.invokevirtual 86, 3) := by decide +kernel
theorem d_A_rename_43 : decode b_A_rename 43 = .ok (.aload_n 0, 1) := by decide +kernel
theorem d_A_rename_44 : decode b_A_rename 44 = .ok (.getfield 19, 3) := by decide +kernel
theorem d_A_rename_47 : decode b_A_rename 47 = .ok (.iload_n 1, 1) := by decide +kernel
theorem d_A_rename_48 : decode b_A_rename 48 = .ok (.invokevirtual 89, 3) := by decide +kernel
theorem d_A_rename_51 : decode b_A_rename 51 = .ok (.istore_n 2, 1) := by decide +kernel
theorem d_A_rename_52 : decode b_A_rename 52 = .ok (.iload_n 2, 1) := by decide +kernel
theorem d_A_rename_53 : decode b_A_rename 53 = .ok (.ifCond .eq 6, 3) := by decide +kernel
theorem d_A_rename_56 : decode b_A_rename 56 = .ok (.iload_n 2, 1) := by decide +kernel
theorem d_A_rename_57 : decode b_A_rename 57 = .ok (.ineg, 1) := by decide +kernel
theorem d_A_rename_58 : decode b_A_rename 58 = .ok (.ireturn, 1) := by decide +kernel
theorem d_A_rename_59 : decode b_A_rename 59 = .ok (.aload_n 0, 1) := by decide +kernel
theorem d_A_rename_60 : decode b_A_rename 60 = .ok (.getfield 26, 3) := by decide +kernel
theorem d_A_rename_63 : decode b_A_rename 63 = .ok (.iload_n 1, 1) := by decide +kernel
theorem d_A_rename_64 : decode b_A_rename 64 = .ok (.aload_n 0, 1) := by decide +kernel
theorem d_A_rename_65 : decode b_A_rename 65 = .ok (.getfield 19, 3) := by decide +kernel
theorem d_A_rename_68 : decode b_A_rename 68 = .ok (.invokevirtual 93, 3) := by decide +kernel
theorem d_A_rename_71 : decode b_A_rename 71 = .ok (.aload_n 0, 1) := by decide +kernel
theorem d_A_rename_72 : decode b_A_rename 72 = .ok (.getfield 40, 3) := by decide +kernel
theorem d_A_rename_75 : decode b_A_rename 75 = .ok (.iload_n 1, 1) := by decide +kernel
theorem d_A_rename_76 : decode b_A_rename 76 = .ok (.invokevirtual 97, 3) := by decide +kernel
theorem d_A_rename_79 : decode b_A_rename 79 = .ok (.ireturn, 1) := by decide +kernel
theorem d_A_find_0 : decode b_A_find 0 = .ok (.aload_n 0, 1) := by decide +kernel
theorem d_A_find_1 : decode b_A_find 1 = .ok (.getfield 12, 3) := by decide +kernel
theorem d_A_find_4 : decode b_A_find 4 = .ok (.aload_n 0, 1) := by decide +kernel
theorem d_A_find_5 : decode b_A_find 5 = .ok (.getfield 19, 3) := by decide +kernel
theorem d_A_find_8 : decode b_A_find 8 = .ok (.invokevirtual 55, 3) := by decide +kernel
theorem d_A_find_11 : decode b_A_find 11 = .ok (.ifCond .ne 6, 3) := by decide +kernel
theorem d_A_find_14 : decode b_A_find 14 = .ok (.bipush (-99), 2) := by decide +kernel
theorem d_A_find_16 : decode b_A_find 16 = .ok (.ireturn, 1) := by decide +kernel
theorem d_A_find_17 : decode b_A_find 17 = .ok (.aload_n 0, 1) := by decide +kernel
theorem d_A_find_18 : decode b_A_find 18 = .ok (.getfield 26, 3) := by decide +kernel
theorem d_A_find_21 : decode b_A_find 21 = .ok (.aload_n 0, 1) := by decide +kernel
theorem d_A_find_22 : decode b_A_find 22 = .ok (.getfield 19, 3) := by decide +kernel
theorem d_A_find_25 : decode b_A_find 25 = .ok (.invokevirtual 100, 3) := by decide +kernel
theorem d_A_find_28 : decode b_A_find 28 = .ok (.ireturn, 1) := by decide +kernel
theorem d_A_see_0 : decode b_A_see 0 = .ok (.aload_n 0, 1) := by decide +kernel
theorem d_A_see_1 : decode b_A_see 1 = .ok (.getfield 26, 3) := by decide +kernel
theorem d_A_see_4 : decode b_A_see 4 = .ok (.iload_n 1, 1) := by decide +kernel
theorem d_A_see_5 : decode b_A_see 5 = .ok (.invokevirtual 63, 3) := by decide +kernel
theorem d_A_see_8 : decode b_A_see 8 = .ok (.ifCond .eq 7, 3) := by decide +kernel
theorem d_A_see_11 : decode b_A_see 11 = .ok (.iload_n 2, 1) := by decide +kernel
theorem d_A_see_12 : decode b_A_see 12 = .ok (.ifCond .ge 5, 3) := by decide +kernel
theorem d_A_see_15 : decode b_A_see 15 = .ok (.iconst 0, 1) := by decide +kernel
theorem d_A_see_16 : decode b_A_see 16 = .ok (.ireturn, 1) := by decide +kernel
theorem d_A_see_17 : decode b_A_see 17 = .ok (.aload_n 0, 1) := by decide +kernel
theorem d_A_see_18 : decode b_A_see 18 = .ok (.getfield 33, 3) := by decide +kernel
theorem d_A_see_21 : decode b_A_see 21 = .ok (.iconst 0, 1) := by decide +kernel
theorem d_A_see_22 : decode b_A_see 22 = .ok (.iload_n 1, 1) := by decide +kernel
theorem d_A_see_23 : decode b_A_see 23 = .ok (.invokestatic 104, 3) := by decide +kernel
theorem d_A_see_26 : decode b_A_see 26 = .ok (.invokevirtual 108, 3) := by decide +kernel
theorem d_A_see_29 : decode b_A_see 29 = .ok (.iload_n 2, 1) := by decide +kernel
theorem d_A_see_30 : decode b_A_see 30 = .ok (.invokestatic 112, 3) := by decide +kernel
theorem d_A_see_33 : decode b_A_see 33 = .ok (.ireturn, 1) := by decide +kernel
theorem d_A_broader_0 : decode b_A_broader 0 = .ok (.aload_n 0, 1) := by decide +kernel
theorem d_A_broader_1 : decode b_A_broader 1 = .ok (.getfield 26, 3) := by decide +kernel
theorem d_A_broader_4 : decode b_A_broader 4 = .ok (.iload_n 1, 1) := by decide +kernel
theorem d_A_broader_5 : decode b_A_broader 5 = .ok (.invokevirtual 63, 3) := by decide +kernel
theorem d_A_broader_8 : decode b_A_broader 8 = .ok (.ifCond .eq 7, 3) := by decide +kernel
theorem d_A_broader_11 : decode b_A_broader 11 = .ok (.iload_n 2, 1) := by decide +kernel
theorem d_A_broader_12 : decode b_A_broader 12 = .ok (.ifCond .ge 5, 3) := by decide +kernel
theorem d_A_broader_15 : decode b_A_broader 15 = .ok (.iconst 0, 1) := by decide +kernel
theorem d_A_broader_16 : decode b_A_broader 16 = .ok (.ireturn, 1) := by decide +kernel
theorem d_A_broader_17 : decode b_A_broader 17 = .ok (.iload_n 2, 1) := by decide +kernel
theorem d_A_broader_18 : decode b_A_broader 18 = .ok (.istore_n 3, 1) := by decide +kernel
theorem d_A_broader_19 : decode b_A_broader 19 = .ok (.iload_n 1, 1) := by decide +kernel
theorem d_A_broader_20 : decode b_A_broader 20 = .ok (.invokestatic 104, 3) := by decide +kernel
theorem d_A_broader_23 : decode b_A_broader 23 = .ok (.lstore 4, 2) := by decide +kernel
theorem d_A_broader_25 : decode b_A_broader 25 = .ok (.aload_n 0, 1) := by decide +kernel
theorem d_A_broader_26 : decode b_A_broader 26 = .ok (.getfield 33, 3) := by decide +kernel
theorem d_A_broader_29 : decode b_A_broader 29 = .ok (.iconst 2, 1) := by decide +kernel
theorem d_A_broader_30 : decode b_A_broader 30 = .ok (.iload_n 1, 1) := by decide +kernel
theorem d_A_broader_31 : decode b_A_broader 31 = .ok (.invokevirtual 116, 3) := by decide +kernel
theorem d_A_broader_34 : decode b_A_broader 34 = .ok (.lstore 6, 2) := by decide +kernel
theorem d_A_broader_36 : decode b_A_broader 36 = .ok (.iconst 1, 1) := by decide +kernel
theorem d_A_broader_37 : decode b_A_broader 37 = .ok (.istore 8, 2) := by decide +kernel
theorem d_A_broader_39 : decode b_A_broader 39 = .ok (.iload 8, 2) := by decide +kernel
theorem d_A_broader_41 : decode b_A_broader 41 = .ok (.bipush 60, 2) := by decide +kernel
theorem d_A_broader_43 : decode b_A_broader 43 = .ok (.if_icmp .ge 67, 3) := by decide +kernel
theorem d_A_broader_46 : decode b_A_broader 46 = .ok (.lload 6, 2) := by decide +kernel
theorem d_A_broader_48 : decode b_A_broader 48 = .ok (.lconst 0, 1) := by decide +kernel
theorem d_A_broader_49 : decode b_A_broader 49 = .ok (.lcmp, 1) := by decide +kernel
theorem d_A_broader_50 : decode b_A_broader 50 = .ok (.ifCond .eq 60, 3) := by decide +kernel
theorem d_A_broader_53 : decode b_A_broader 53 = .ok (.lload 6, 2) := by decide +kernel
theorem d_A_broader_55 : decode b_A_broader 55 = .ok (.invokestatic 120, 3) := by decide +kernel
theorem d_A_broader_58 : decode b_A_broader 58 = .ok (.istore 9, 2) := by decide +kernel
theorem d_A_broader_60 : decode b_A_broader 60 = .ok (.iload_n 3, 1) := by decide +kernel
theorem d_A_broader_61 : decode b_A_broader 61 = .ok (.iload 9, 2) := by decide +kernel
theorem d_A_broader_63 : decode b_A_broader 63 = .ok (.if_icmp .ge 10, 3) := by decide +kernel
theorem d_A_broader_66 : decode b_A_broader 66 = .ok (.lload 6, 2) := by decide +kernel
theorem d_A_broader_68 : decode b_A_broader 68 = .ok (.iload_n 3, 1) := by decide +kernel
theorem d_A_broader_69 : decode b_A_broader 69 = .ok (.invokestatic 112, 3) := by decide +kernel
theorem d_A_broader_72 : decode b_A_broader 72 = .ok (.ireturn, 1) := by decide +kernel
theorem d_A_broader_73 : decode b_A_broader 73 = .ok (.iload_n 3, 1) := by decide +kernel
theorem d_A_broader_74 : decode b_A_broader 74 = .ok (.iload 9, 2) := by decide +kernel
theorem d_A_broader_76 : decode b_A_broader 76 = .ok (.isub, 1) := by decide +kernel
theorem d_A_broader_77 : decode b_A_broader 77 = .ok (.istore_n 3, 1) := by decide +kernel
theorem d_A_broader_78 : decode b_A_broader 78 = .ok (.lload 4, 2) := by decide +kernel
theorem d_A_broader_80 : decode b_A_broader 80 = .ok (.lload 6, 2) := by decide +kernel
theorem d_A_broader_82 : decode b_A_broader 82 = .ok (.lor, 1) := by decide +kernel
theorem d_A_broader_83 : decode b_A_broader 83 = .ok (.lstore 4, 2) := by decide +kernel
theorem d_A_broader_85 : decode b_A_broader 85 = .ok (.aload_n 0, 1) := by decide +kernel
theorem d_A_broader_86 : decode b_A_broader 86 = .ok (.getfield 33, 3) := by decide +kernel
theorem d_A_broader_89 : decode b_A_broader 89 = .ok (.iconst 2, 1) := by decide +kernel
theorem d_A_broader_90 : decode b_A_broader 90 = .ok (.lload 6, 2) := by decide +kernel
theorem d_A_broader_92 : decode b_A_broader 92 = .ok (.invokevirtual 126, 3) := by decide +kernel
theorem d_A_broader_95 : decode b_A_broader 95 = .ok (.lload 4, 2) := by decide +kernel
theorem d_A_broader_97 : decode b_A_broader 97 = .ok (.ldc2_w 129, 3) := by decide +kernel
theorem d_A_broader_100 : decode b_A_broader 100 = .ok (.lxor, 1) := by decide +kernel
theorem d_A_broader_101 : decode b_A_broader 101 = .ok (.land, 1) := by decide +kernel
theorem d_A_broader_102 : decode b_A_broader 102 = .ok (.lstore 6, 2) := by decide +kernel
theorem d_A_broader_104 : decode b_A_broader 104 = .ok (.iinc 8 1, 3) := by decide +kernel
theorem d_A_broader_107 : decode b_A_broader 107 = .ok (.goto (-68), 3) := by decide +kernel
theorem d_A_broader_110 : decode b_A_broader 110 = .ok (.iconst 0, 1) := by decide +kernel
theorem d_A_broader_111 : decode b_A_broader 111 = .ok (.ireturn, 1) := by decide +kernel
theorem d_A_delete_0 : decode b_A_delete 0 = .ok (.aload_n 0, 1) := by decide +kernel
theorem d_A_delete_1 : decode b_A_delete 1 = .ok (.getfield 26, 3) := by decide +kernel
theorem d_A_delete_4 : decode b_A_delete 4 = .ok (.iload_n 1, 1) := by decide +kernel
theorem d_A_delete_5 : decode b_A_delete 5 = .ok (.invokevirtual 63, 3) := by decide +kernel
theorem d_A_delete_8 : decode b_A_delete 8 = .ok (.ifCond .ne 5, 3) := by decide +kernel
theorem d_A_delete_11 : decode b_A_delete 11 = .ok (.iconst 0, 1) := by decide +kernel
theorem d_A_delete_12 : decode b_A_delete 12 = .ok (.ireturn, 1) := by decide +kernel
theorem d_A_delete_13 : decode b_A_delete 13 = .ok (.aload_n 0, 1) := by decide +kernel
theorem d_A_delete_14 : decode b_A_delete 14 = .ok (.getfield 40, 3) := by decide +kernel
theorem d_A_delete_17 : decode b_A_delete 17 = .ok (.iload_n 1, 1) := by decide +kernel
theorem d_A_delete_18 : decode b_A_delete 18 = .ok (.invokevirtual 97, 3) := by decide +kernel
theorem d_A_delete_21 : decode b_A_delete 21 = .ok (.istore_n 2, 1) := by decide +kernel
theorem d_A_delete_22 : decode b_A_delete 22 = .ok (.iload_n 2, 1) := by decide +kernel
theorem d_A_delete_23 : decode b_A_delete 23 = .ok (.ifCond .le 6, 3) := by decide +kernel
theorem d_A_delete_26 : decode b_A_delete 26 = .ok (.iload_n 2, 1) := by decide +kernel
theorem d_A_delete_27 : decode b_A_delete 27 = .ok (.ineg, 1) := by decide +kernel
theorem d_A_delete_28 : decode b_A_delete 28 = .ok (.ireturn, 1) := by decide +kernel
theorem d_A_delete_29 : decode b_A_delete 29 = .ok (.aload_n 0, 1) := by decide +kernel
theorem d_A_delete_30 : decode b_A_delete 30 = .ok (.getfield 26, 3) := by decide +kernel
theorem d_A_delete_33 : decode b_A_delete 33 = .ok (.iload_n 1, 1) := by decide +kernel
theorem d_A_delete_34 : decode b_A_delete 34 = .ok (.invokevirtual 131, 3) := by decide +kernel
theorem d_A_delete_37 : decode b_A_delete 37 = .ok (.aload_n 0, 1) := by decide +kernel
theorem d_A_delete_38 : decode b_A_delete 38 = .ok (.getfield 33, 3) := by decide +kernel
theorem d_A_delete_41 : decode b_A_delete 41 = .ok (.iload_n 1, 1) := by decide +kernel
theorem d_A_delete_42 : decode b_A_delete 42 = .ok (.invokevirtual 135, 3) := by decide +kernel
theorem d_A_delete_45 : decode b_A_delete 45 = .ok (.iconst 1, 1) := by decide +kernel
theorem d_A_delete_46 : decode b_A_delete 46 = .ok (.ireturn, 1) := by decide +kernel
theorem d_A_split_0 : decode b_A_split 0 = .ok (.aload_n 0, 1) := by decide +kernel
theorem d_A_split_1 : decode b_A_split 1 = .ok (.getfield 12, 3) := by decide +kernel
theorem d_A_split_4 : decode b_A_split 4 = .ok (.aload_n 0, 1) := by decide +kernel
theorem d_A_split_5 : decode b_A_split 5 = .ok (.getfield 19, 3) := by decide +kernel
theorem d_A_split_8 : decode b_A_split 8 = .ok (.invokevirtual 55, 3) := by decide +kernel
theorem d_A_split_11 : decode b_A_split 11 = .ok (.ifCond .ne 6, 3) := by decide +kernel
theorem d_A_split_14 : decode b_A_split 14 = .ok (.bipush (-99), 2) := by decide +kernel
theorem d_A_split_16 : decode b_A_split 16 = .ok (.ireturn, 1) := by decide +kernel
theorem d_A_split_17 : decode b_A_split 17 = .ok (.aload_n 0, 1) := by decide +kernel
theorem d_A_split_18 : decode b_A_split 18 = .ok (.getfield 26, 3) := by decide +kernel
theorem d_A_split_21 : decode b_A_split 21 = .ok (.iload_n 1, 1) := by decide +kernel
theorem d_A_split_22 : decode b_A_split 22 = .ok (.invokevirtual 63, 3) := by decide +kernel
theorem d_A_split_25 : decode b_A_split 25 = .ok (.ifCond .eq 13, 3) := by decide +kernel
theorem d_A_split_28 : decode b_A_split 28 = .ok (.aload_n 0, 1) := by decide +kernel
theorem d_A_split_29 : decode b_A_split 29 = .ok (.getfield 33, 3) := by decide +kernel
theorem d_A_split_32 : decode b_A_split 32 = .ok (.invokevirtual 71, 3) := by decide +kernel
theorem d_A_split_35 : decode b_A_split 35 = .ok (.ifCond .eq 5, 3) := by decide +kernel
theorem d_A_split_38 : decode b_A_split 38 = .ok (.iconst 0, 1) := by decide +kernel
theorem d_A_split_39 : decode b_A_split 39 = .ok (.ireturn, 1) := by decide +kernel
theorem d_A_split_40 : decode b_A_split 40 = .ok (.aload_n 0, 1) := by decide +kernel
theorem d_A_split_41 : decode b_A_split 41 = .ok (.aload_n 0, 1) := by decide +kernel
theorem d_A_split_42 : decode b_A_split 42 = .ok (.getfield 26, 3) := by decide +kernel
theorem d_A_split_45 : decode b_A_split 45 = .ok (.iload_n 1, 1) := by decide +kernel
theorem d_A_split_46 : decode b_A_split 46 = .ok (.invokevirtual 86, 3) := by decide +kernel
theorem d_A_split_49 : decode b_A_split 49 = .ok (.invokevirtual 59, 3) := by decide +kernel
theorem d_A_split_52 : decode b_A_split 52 = .ok (.istore 4, 2) := by decide +kernel
theorem d_A_split_54 : decode b_A_split 54 = .ok (.iload 4, 2) := by decide +kernel
theorem d_A_split_56 : decode b_A_split 56 = .ok (.ifCond .le 26, 3) := by decide +kernel
theorem d_A_split_59 : decode b_A_split 59 = .ok (.aload_n 0, 1) := by decide +kernel
theorem d_A_split_60 : decode b_A_split 60 = .ok (.getfield 33, 3) := by decide +kernel
theorem d_A_split_63 : decode b_A_split 63 = .ok (.iconst 3, 1) := by decide +kernel
theorem d_A_split_64 : decode b_A_split 64 = .ok (.iload_n 1, 1) := by decide +kernel
theorem d_A_split_65 : decode b_A_split 65 = .ok (.iload 4, 2) := by decide +kernel
theorem d_A_split_67 : decode b_A_split 67 = .ok (.lload_n 2, 1) := by decide +kernel
theorem d_A_split_68 : decode b_A_split 68 = .ok (.invokevirtual 83, 3) := by decide +kernel
theorem d_A_split_71 : decode b_A_split 71 = .ok (.aload_n 0, 1) := by decide +kernel
theorem d_A_split_72 : decode b_A_split 72 = .ok (.getfield 40, 3) := by decide +kernel
theorem d_A_split_75 : decode b_A_split 75 = .ok (.iload_n 1, 1) := by decide +kernel
theorem d_A_split_76 : decode b_A_split 76 = .ok (.iload 4, 2) := by decide +kernel
theorem d_A_split_78 : decode b_A_split 78 = .ok (.lload_n 2, 1) := by decide +kernel
theorem d_A_split_79 : decode b_A_split 79 = .ok (.invokevirtual 138, 3) := by decide +kernel
theorem d_A_split_82 : decode b_A_split 82 = .ok (.iload 4, 2) := by decide +kernel
theorem d_A_split_84 : decode b_A_split 84 = .ok (.ireturn, 1) := by decide +kernel
theorem d_A_shown_0 : decode b_A_shown 0 = .ok (.aload_n 0, 1) := by decide +kernel
theorem d_A_shown_1 : decode b_A_shown 1 = .ok (.getfield 26, 3) := by decide +kernel
theorem d_A_shown_4 : decode b_A_shown 4 = .ok (.iload_n 1, 1) := by decide +kernel
theorem d_A_shown_5 : decode b_A_shown 5 = .ok (.invokevirtual 63, 3) := by decide +kernel
theorem d_A_shown_8 : decode b_A_shown 8 = .ok (.ifCond .ne 5, 3) := by decide +kernel
theorem d_A_shown_11 : decode b_A_shown 11 = .ok (.iconst 0, 1) := by decide +kernel
theorem d_A_shown_12 : decode b_A_shown 12 = .ok (.ireturn, 1) := by decide +kernel
theorem d_A_shown_13 : decode b_A_shown 13 = .ok (.aload_n 0, 1) := by decide +kernel
theorem d_A_shown_14 : decode b_A_shown 14 = .ok (.aload_n 0, 1) := by decide +kernel
theorem d_A_shown_15 : decode b_A_shown 15 = .ok (.iload_n 1, 1) := by decide +kernel
theorem d_A_shown_16 : decode b_A_shown 16 = .ok (.invokevirtual 142, 3) := by decide +kernel
theorem d_A_shown_19 : decode b_A_shown 19 = .ok (.lload_n 2, 1) := by decide +kernel
theorem d_A_shown_20 : decode b_A_shown 20 = .ok (.invokevirtual 145, 3) := by decide +kernel
theorem d_A_shown_23 : decode b_A_shown 23 = .ok (.ireturn, 1) := by decide +kernel
theorem d_A_record_0 : decode b_A_record 0 = .ok (.aload_n 0, 1) := by decide +kernel
theorem d_A_record_1 : decode b_A_record 1 = .ok (.getfield 26, 3) := by decide +kernel
theorem d_A_record_4 : decode b_A_record 4 = .ok (.iload_n 1, 1) := by decide +kernel
theorem d_A_record_5 : decode b_A_record 5 = .ok (.invokevirtual 63, 3) := by decide +kernel
theorem d_A_record_8 : decode b_A_record 8 = .ok (.ifCond .eq 13, 3) := by decide +kernel
theorem d_A_record_11 : decode b_A_record 11 = .ok (.aload_n 0, 1) := by decide +kernel
theorem d_A_record_12 : decode b_A_record 12 = .ok (.getfield 40, 3) := by decide +kernel
theorem d_A_record_15 : decode b_A_record 15 = .ok (.invokevirtual 149, 3) := by decide +kernel
theorem d_A_record_18 : decode b_A_record 18 = .ok (.ifCond .eq 5, 3) := by decide +kernel
theorem d_A_record_21 : decode b_A_record 21 = .ok (.iconst 0, 1) := by decide +kernel
theorem d_A_record_22 : decode b_A_record 22 = .ok (.ireturn, 1) := by decide +kernel
theorem d_A_record_23 : decode b_A_record 23 = .ok (.aload_n 0, 1) := by decide +kernel
theorem d_A_record_24 : decode b_A_record 24 = .ok (.getfield 40, 3) := by decide +kernel
theorem d_A_record_27 : decode b_A_record 27 = .ok (.aload_n 0, 1) := by decide +kernel
theorem d_A_record_28 : decode b_A_record 28 = .ok (.iload_n 1, 1) := by decide +kernel
theorem d_A_record_29 : decode b_A_record 29 = .ok (.invokevirtual 142, 3) := by decide +kernel
theorem d_A_record_32 : decode b_A_record 32 = .ok (.lload_n 2, 1) := by decide +kernel
theorem d_A_record_33 : decode b_A_record 33 = .ok (.invokevirtual 150, 3) := by decide +kernel
theorem d_A_record_36 : decode b_A_record 36 = .ok (.ireturn, 1) := by decide +kernel
theorem d_A_linked_0 : decode b_A_linked 0 = .ok (.aload_n 0, 1) := by decide +kernel
theorem d_A_linked_1 : decode b_A_linked 1 = .ok (.getfield 40, 3) := by decide +kernel
theorem d_A_linked_4 : decode b_A_linked 4 = .ok (.iload_n 1, 1) := by decide +kernel
theorem d_A_linked_5 : decode b_A_linked 5 = .ok (.invokevirtual 152, 3) := by decide +kernel
theorem d_A_linked_8 : decode b_A_linked 8 = .ok (.ireturn, 1) := by decide +kernel
theorem d_A_form_0 : decode b_A_form 0 = .ok (.aload_n 0, 1) := by decide +kernel
theorem d_A_form_1 : decode b_A_form 1 = .ok (.getfield 26, 3) := by decide +kernel
theorem d_A_form_4 : decode b_A_form 4 = .ok (.iload_n 1, 1) := by decide +kernel
theorem d_A_form_5 : decode b_A_form 5 = .ok (.invokevirtual 63, 3) := by decide +kernel
theorem d_A_form_8 : decode b_A_form 8 = .ok (.ifCond .ne 5, 3) := by decide +kernel
theorem d_A_form_11 : decode b_A_form 11 = .ok (.iconst 0, 1) := by decide +kernel
theorem d_A_form_12 : decode b_A_form 12 = .ok (.ireturn, 1) := by decide +kernel
theorem d_A_form_13 : decode b_A_form 13 = .ok (.aload_n 0, 1) := by decide +kernel
theorem d_A_form_14 : decode b_A_form 14 = .ok (.iload_n 1, 1) := by decide +kernel
theorem d_A_form_15 : decode b_A_form 15 = .ok (.lload_n 2, 1) := by decide +kernel
theorem d_A_form_16 : decode b_A_form 16 = .ok (.invokevirtual 145, 3) := by decide +kernel
theorem d_A_form_19 : decode b_A_form 19 = .ok (.ireturn, 1) := by decide +kernel
theorem d_A_ring_0 : decode b_A_ring 0 = .ok (.aload_n 0, 1) := by decide +kernel
theorem d_A_ring_1 : decode b_A_ring 1 = .ok (.getfield 47, 3) := by decide +kernel
theorem d_A_ring_4 : decode b_A_ring 4 = .ok (.iload_n 1, 1) := by decide +kernel
theorem d_A_ring_5 : decode b_A_ring 5 = .ok (.invokevirtual 155, 3) := by decide +kernel
theorem d_A_ring_8 : decode b_A_ring 8 = .ok (.ireturn, 1) := by decide +kernel
theorem d_A_letter_0 : decode b_A_letter 0 = .ok (.aload_n 0, 1) := by decide +kernel
theorem d_A_letter_1 : decode b_A_letter 1 = .ok (.getfield 26, 3) := by decide +kernel
theorem d_A_letter_4 : decode b_A_letter 4 = .ok (.iload_n 1, 1) := by decide +kernel
theorem d_A_letter_5 : decode b_A_letter 5 = .ok (.iload_n 2, 1) := by decide +kernel
theorem d_A_letter_6 : decode b_A_letter 6 = .ok (.invokevirtual 158, 3) := by decide +kernel
theorem d_A_letter_9 : decode b_A_letter 9 = .ok (.ireturn, 1) := by decide +kernel
theorem d_A_addHeading_0 : decode b_A_addHeading 0 = .ok (.aload_n 0, 1) := by decide +kernel
theorem d_A_addHeading_1 : decode b_A_addHeading 1 = .ok (.getfield 26, 3) := by decide +kernel
theorem d_A_addHeading_4 : decode b_A_addHeading 4 = .ok (.invokevirtual 162, 3) := by decide +kernel
theorem d_A_addHeading_7 : decode b_A_addHeading 7 = .ok (.ifCond .eq 5, 3) := by decide +kernel
end
section
theorem d_A_addHeading_10 : decode b_A_addHeading 10 = .ok (.iconst 0, 1) := by decide +kernel
theorem d_A_addHeading_11 : decode b_A_addHeading 11 = .ok (.ireturn, 1) := by decide +kernel
theorem d_A_addHeading_12 : decode b_A_addHeading 12 = .ok (.aload_n 0, 1) := by decide +kernel
theorem d_A_addHeading_13 : decode b_A_addHeading 13 = .ok (.getfield 26, 3) := by decide +kernel
theorem d_A_addHeading_16 : decode b_A_addHeading 16 = .ok (.iload_n 1, 1) := by decide +kernel
theorem d_A_addHeading_17 : decode b_A_addHeading 17 = .ok (.aload_n 0, 1) := by decide +kernel
theorem d_A_addHeading_18 : decode b_A_addHeading 18 = .ok (.getfield 19, 3) := by decide +kernel
theorem d_A_addHeading_21 : decode b_A_addHeading 21 = .ok (.iconst 0, 1) := by decide +kernel
theorem d_A_addHeading_22 : decode b_A_addHeading 22 = .ok (.invokevirtual 89, 3) := by decide +kernel
theorem d_A_addHeading_25 : decode b_A_addHeading 25 = .ok (.istore_n 2, 1) := by decide +kernel
theorem d_A_addHeading_26 : decode b_A_addHeading 26 = .ok (.iload_n 2, 1) := by decide +kernel
theorem d_A_addHeading_27 : decode b_A_addHeading 27 = .ok (.ifCond .eq 6, 3) := by decide +kernel
theorem d_A_addHeading_30 : decode b_A_addHeading 30 = .ok (.iload_n 2, 1) := by decide +kernel
theorem d_A_addHeading_31 : decode b_A_addHeading 31 = .ok (.ineg, 1) := by decide +kernel
theorem d_A_addHeading_32 : decode b_A_addHeading 32 = .ok (.ireturn, 1) := by decide +kernel
theorem d_A_addHeading_33 : decode b_A_addHeading 33 = .ok (.aload_n 0, 1) := by decide +kernel
theorem d_A_addHeading_34 : decode b_A_addHeading 34 = .ok (.getfield 26, 3) := by decide +kernel
theorem d_A_addHeading_37 : decode b_A_addHeading 37 = .ok (.iload_n 1, 1) := by decide +kernel
theorem d_A_addHeading_38 : decode b_A_addHeading 38 = .ok (.aload_n 0, 1) := by decide +kernel
theorem d_A_addHeading_39 : decode b_A_addHeading 39 = .ok (.getfield 19, 3) := by decide +kernel
theorem d_A_addHeading_42 : decode b_A_addHeading 42 = .ok (.invokevirtual 163, 3) := by decide +kernel
theorem d_A_addHeading_45 : decode b_A_addHeading 45 = .ok (.ireturn, 1) := by decide +kernel
theorem d_A_wouldChainSees_0 : decode b_A_wouldChainSees 0 = .ok (.aload_n 0, 1) := by decide +kernel
theorem d_A_wouldChainSees_1 : decode b_A_wouldChainSees 1 = .ok (.getfield 33, 3) := by decide +kernel
theorem d_A_wouldChainSees_4 : decode b_A_wouldChainSees 4 = .ok (.iconst 0, 1) := by decide +kernel
theorem d_A_wouldChainSees_5 : decode b_A_wouldChainSees 5 = .ok (.iload_n 1, 1) := by decide +kernel
theorem d_A_wouldChainSees_6 : decode b_A_wouldChainSees 6 = .ok (.invokevirtual 116, 3) := by decide +kernel
theorem d_A_wouldChainSees_9 : decode b_A_wouldChainSees 9 = .ok (.lconst 0, 1) := by decide +kernel
theorem d_A_wouldChainSees_10 : decode b_A_wouldChainSees 10 = .ok (.lcmp, 1) := by decide +kernel
theorem d_A_wouldChainSees_11 : decode b_A_wouldChainSees 11 = .ok (.ifCond .ne 34, 3) := by decide +kernel
theorem d_A_wouldChainSees_14 : decode b_A_wouldChainSees 14 = .ok (.aload_n 0, 1) := by decide +kernel
theorem d_A_wouldChainSees_15 : decode b_A_wouldChainSees 15 = .ok (.getfield 33, 3) := by decide +kernel
theorem d_A_wouldChainSees_18 : decode b_A_wouldChainSees 18 = .ok (.iconst 0, 1) := by decide +kernel
theorem d_A_wouldChainSees_19 : decode b_A_wouldChainSees 19 = .ok (.iload_n 1, 1) := by decide +kernel
theorem d_A_wouldChainSees_20 : decode b_A_wouldChainSees 20 = .ok (.invokestatic 104, 3) := by decide +kernel
theorem d_A_wouldChainSees_23 : decode b_A_wouldChainSees 23 = .ok (.invokevirtual 108, 3) := by decide +kernel
theorem d_A_wouldChainSees_26 : decode b_A_wouldChainSees 26 = .ok (.lconst 0, 1) := by decide +kernel
theorem d_A_wouldChainSees_27 : decode b_A_wouldChainSees 27 = .ok (.lcmp, 1) := by decide +kernel
theorem d_A_wouldChainSees_28 : decode b_A_wouldChainSees 28 = .ok (.ifCond .ne 17, 3) := by decide +kernel
theorem d_A_wouldChainSees_31 : decode b_A_wouldChainSees 31 = .ok (.aload_n 0, 1) := by decide +kernel
theorem d_A_wouldChainSees_32 : decode b_A_wouldChainSees 32 = .ok (.getfield 33, 3) := by decide +kernel
theorem d_A_wouldChainSees_35 : decode b_A_wouldChainSees 35 = .ok (.iconst 0, 1) := by decide +kernel
theorem d_A_wouldChainSees_36 : decode b_A_wouldChainSees 36 = .ok (.iload_n 2, 1) := by decide +kernel
theorem d_A_wouldChainSees_37 : decode b_A_wouldChainSees 37 = .ok (.invokevirtual 116, 3) := by decide +kernel
theorem d_A_wouldChainSees_40 : decode b_A_wouldChainSees 40 = .ok (.lconst 0, 1) := by decide +kernel
theorem d_A_wouldChainSees_41 : decode b_A_wouldChainSees 41 = .ok (.lcmp, 1) := by decide +kernel
theorem d_A_wouldChainSees_42 : decode b_A_wouldChainSees 42 = .ok (.ifCond .eq 7, 3) := by decide +kernel
theorem d_A_wouldChainSees_45 : decode b_A_wouldChainSees 45 = .ok (.iconst 1, 1) := by decide +kernel
theorem d_A_wouldChainSees_46 : decode b_A_wouldChainSees 46 = .ok (.goto 4, 3) := by decide +kernel
theorem d_A_wouldChainSees_49 : decode b_A_wouldChainSees 49 = .ok (.iconst 0, 1) := by decide +kernel
theorem d_A_wouldChainSees_50 : decode b_A_wouldChainSees 50 = .ok (.ireturn, 1) := by decide +kernel
theorem d_A_usedFormOf_0 : decode b_A_usedFormOf 0 = .ok (.aload_n 0, 1) := by decide +kernel
theorem d_A_usedFormOf_1 : decode b_A_usedFormOf 1 = .ok (.getfield 33, 3) := by decide +kernel
theorem d_A_usedFormOf_4 : decode b_A_usedFormOf 4 = .ok (.iconst 0, 1) := by decide +kernel
theorem d_A_usedFormOf_5 : decode b_A_usedFormOf 5 = .ok (.iload_n 1, 1) := by decide +kernel
theorem d_A_usedFormOf_6 : decode b_A_usedFormOf 6 = .ok (.invokevirtual 116, 3) := by decide +kernel
theorem d_A_usedFormOf_9 : decode b_A_usedFormOf 9 = .ok (.iconst 0, 1) := by decide +kernel
theorem d_A_usedFormOf_10 : decode b_A_usedFormOf 10 = .ok (.invokestatic 112, 3) := by decide +kernel
theorem d_A_usedFormOf_13 : decode b_A_usedFormOf 13 = .ok (.istore_n 2, 1) := by decide +kernel
theorem d_A_usedFormOf_14 : decode b_A_usedFormOf 14 = .ok (.iload_n 2, 1) := by decide +kernel
theorem d_A_usedFormOf_15 : decode b_A_usedFormOf 15 = .ok (.ifCond .ne 7, 3) := by decide +kernel
theorem d_A_usedFormOf_18 : decode b_A_usedFormOf 18 = .ok (.iload_n 1, 1) := by decide +kernel
theorem d_A_usedFormOf_19 : decode b_A_usedFormOf 19 = .ok (.goto 4, 3) := by decide +kernel
theorem d_A_usedFormOf_22 : decode b_A_usedFormOf 22 = .ok (.iload_n 2, 1) := by decide +kernel
theorem d_A_usedFormOf_23 : decode b_A_usedFormOf 23 = .ok (.ireturn, 1) := by decide +kernel
theorem d_A_formOn_0 : decode b_A_formOn 0 = .ok (.iload_n 1, 1) := by decide +kernel
theorem d_A_formOn_1 : decode b_A_formOn 1 = .ok (.istore 4, 2) := by decide +kernel
theorem d_A_formOn_3 : decode b_A_formOn 3 = .ok (.iconst 0, 1) := by decide +kernel
theorem d_A_formOn_4 : decode b_A_formOn 4 = .ok (.istore 5, 2) := by decide +kernel
theorem d_A_formOn_6 : decode b_A_formOn 6 = .ok (.iload 5, 2) := by decide +kernel
theorem d_A_formOn_8 : decode b_A_formOn 8 = .ok (.bipush 60, 2) := by decide +kernel
theorem d_A_formOn_10 : decode b_A_formOn 10 = .ok (.if_icmp .ge 33, 3) := by decide +kernel
theorem d_A_formOn_13 : decode b_A_formOn 13 = .ok (.aload_n 0, 1) := by decide +kernel
theorem d_A_formOn_14 : decode b_A_formOn 14 = .ok (.getfield 33, 3) := by decide +kernel
theorem d_A_formOn_17 : decode b_A_formOn 17 = .ok (.iload 4, 2) := by decide +kernel
theorem d_A_formOn_19 : decode b_A_formOn 19 = .ok (.lload_n 2, 1) := by decide +kernel
theorem d_A_formOn_20 : decode b_A_formOn 20 = .ok (.invokevirtual 166, 3) := by decide +kernel
theorem d_A_formOn_23 : decode b_A_formOn 23 = .ok (.istore 6, 2) := by decide +kernel
theorem d_A_formOn_25 : decode b_A_formOn 25 = .ok (.iload 6, 2) := by decide +kernel
theorem d_A_formOn_27 : decode b_A_formOn 27 = .ok (.ifCond .ne 6, 3) := by decide +kernel
theorem d_A_formOn_30 : decode b_A_formOn 30 = .ok (.iload 4, 2) := by decide +kernel
theorem d_A_formOn_32 : decode b_A_formOn 32 = .ok (.ireturn, 1) := by decide +kernel
theorem d_A_formOn_33 : decode b_A_formOn 33 = .ok (.iload 6, 2) := by decide +kernel
theorem d_A_formOn_35 : decode b_A_formOn 35 = .ok (.istore 4, 2) := by decide +kernel
theorem d_A_formOn_37 : decode b_A_formOn 37 = .ok (.iinc 5 1, 3) := by decide +kernel
theorem d_A_formOn_40 : decode b_A_formOn 40 = .ok (.goto (-34), 3) := by decide +kernel
theorem d_A_formOn_43 : decode b_A_formOn 43 = .ok (.iload 4, 2) := by decide +kernel
theorem d_A_formOn_45 : decode b_A_formOn 45 = .ok (.ireturn, 1) := by decide +kernel
theorem d_A_setOf_0 : decode b_A_setOf 0 = .ok (.lconst 1, 1) := by decide +kernel
theorem d_A_setOf_1 : decode b_A_setOf 1 = .ok (.iload_n 0, 1) := by decide +kernel
theorem d_A_setOf_2 : decode b_A_setOf 2 = .ok (.lshl, 1) := by decide +kernel
theorem d_A_setOf_3 : decode b_A_setOf 3 = .ok (.lreturn, 1) := by decide +kernel
theorem d_A_holds_0 : decode b_A_holds 0 = .ok (.lload_n 0, 1) := by decide +kernel
theorem d_A_holds_1 : decode b_A_holds 1 = .ok (.iload_n 2, 1) := by decide +kernel
theorem d_A_holds_2 : decode b_A_holds 2 = .ok (.invokestatic 104, 3) := by decide +kernel
theorem d_A_holds_5 : decode b_A_holds 5 = .ok (.land, 1) := by decide +kernel
theorem d_A_holds_6 : decode b_A_holds 6 = .ok (.lconst 0, 1) := by decide +kernel
theorem d_A_holds_7 : decode b_A_holds 7 = .ok (.lcmp, 1) := by decide +kernel
theorem d_A_holds_8 : decode b_A_holds 8 = .ok (.ifCond .eq 7, 3) := by decide +kernel
theorem d_A_holds_11 : decode b_A_holds 11 = .ok (.iconst 1, 1) := by decide +kernel
theorem d_A_holds_12 : decode b_A_holds 12 = .ok (.goto 4, 3) := by decide +kernel
theorem d_A_holds_15 : decode b_A_holds 15 = .ok (.iconst 0, 1) := by decide +kernel
theorem d_A_holds_16 : decode b_A_holds 16 = .ok (.ireturn, 1) := by decide +kernel
theorem d_A_nthOf_0 : decode b_A_nthOf 0 = .ok (.iload_n 2, 1) := by decide +kernel
theorem d_A_nthOf_1 : decode b_A_nthOf 1 = .ok (.istore_n 3, 1) := by decide +kernel
theorem d_A_nthOf_2 : decode b_A_nthOf 2 = .ok (.iconst 1, 1) := by decide +kernel
theorem d_A_nthOf_3 : decode b_A_nthOf 3 = .ok (.istore 4, 2) := by decide +kernel
theorem d_A_nthOf_5 : decode b_A_nthOf 5 = .ok (.iload 4, 2) := by decide +kernel
theorem d_A_nthOf_7 : decode b_A_nthOf 7 = .ok (.bipush 60, 2) := by decide +kernel
theorem d_A_nthOf_9 : decode b_A_nthOf 9 = .ok (.if_icmp .gt 28, 3) := by decide +kernel
theorem d_A_nthOf_12 : decode b_A_nthOf 12 = .ok (.lload_n 0, 1) := by decide +kernel
theorem d_A_nthOf_13 : decode b_A_nthOf 13 = .ok (.iload 4, 2) := by decide +kernel
theorem d_A_nthOf_15 : decode b_A_nthOf 15 = .ok (.invokestatic 169, 3) := by decide +kernel
theorem d_A_nthOf_18 : decode b_A_nthOf 18 = .ok (.ifCond .eq 13, 3) := by decide +kernel
theorem d_A_nthOf_21 : decode b_A_nthOf 21 = .ok (.iload_n 3, 1) := by decide +kernel
theorem d_A_nthOf_22 : decode b_A_nthOf 22 = .ok (.ifCond .ne 6, 3) := by decide +kernel
theorem d_A_nthOf_25 : decode b_A_nthOf 25 = .ok (.iload 4, 2) := by decide +kernel
theorem d_A_nthOf_27 : decode b_A_nthOf 27 = .ok (.ireturn, 1) := by decide +kernel
theorem d_A_nthOf_28 : decode b_A_nthOf 28 = .ok (.iinc 3 (-1), 3) := by decide +kernel
theorem d_A_nthOf_31 : decode b_A_nthOf 31 = .ok (.iinc 4 1, 3) := by decide +kernel
theorem d_A_nthOf_34 : decode b_A_nthOf 34 = .ok (.goto (-29), 3) := by decide +kernel
theorem d_A_nthOf_37 : decode b_A_nthOf 37 = .ok (.iconst 0, 1) := by decide +kernel
theorem d_A_nthOf_38 : decode b_A_nthOf 38 = .ok (.ireturn, 1) := by decide +kernel
theorem d_M_init_0 : decode b_M_init 0 = .ok (.aload_n 0, 1) := by decide +kernel
theorem d_M_init_1 : decode b_M_init 1 = .ok (.invokespecial 1, 3) := by decide +kernel
theorem d_M_init_4 : decode b_M_init 4 = .ok (.aload_n 0, 1) := by decide +kernel
theorem d_M_init_5 : decode b_M_init 5 = .ok (.bipush 40, 2) := by decide +kernel
theorem d_M_init_7 : decode b_M_init 7 = .ok (.newarray .byte, 2) := by decide +kernel
theorem d_M_init_9 : decode b_M_init 9 = .ok (.putfield 7, 3) := by decide +kernel
theorem d_M_init_12 : decode b_M_init 12 = .ok (.aload_n 0, 1) := by decide +kernel
theorem d_M_init_13 : decode b_M_init 13 = .ok (.bipush 61, 2) := by decide +kernel
theorem d_M_init_15 : decode b_M_init 15 = .ok (.newarray .int, 2) := by decide +kernel
theorem d_M_init_17 : decode b_M_init 17 = .ok (.putfield 13, 3) := by decide +kernel
theorem d_M_init_20 : decode b_M_init 20 = .ok (.aload_n 0, 1) := by decide +kernel
theorem d_M_init_21 : decode b_M_init 21 = .ok (.bipush 61, 2) := by decide +kernel
theorem d_M_init_23 : decode b_M_init 23 = .ok (.newarray .boolean, 2) := by decide +kernel
theorem d_M_init_25 : decode b_M_init 25 = .ok (.putfield 17, 3) := by decide +kernel
theorem d_M_init_28 : decode b_M_init 28 = .ok (.aload_n 0, 1) := by decide +kernel
theorem d_M_init_29 : decode b_M_init 29 = .ok (.sipush 1220, 3) := by decide +kernel
theorem d_M_init_32 : decode b_M_init 32 = .ok (.newarray .byte, 2) := by decide +kernel
theorem d_M_init_34 : decode b_M_init 34 = .ok (.putfield 21, 3) := by decide +kernel
theorem d_M_init_37 : decode b_M_init 37 = .ok (.aload_n 0, 1) := by decide +kernel
theorem d_M_init_38 : decode b_M_init 38 = .ok (.bipush 61, 2) := by decide +kernel
theorem d_M_init_40 : decode b_M_init 40 = .ok (.newarray .int, 2) := by decide +kernel
theorem d_M_init_42 : decode b_M_init 42 = .ok (.putfield 24, 3) := by decide +kernel
theorem d_M_init_45 : decode b_M_init 45 = .ok (.aload_n 0, 1) := by decide +kernel
theorem d_M_init_46 : decode b_M_init 46 = .ok (.sipush 20000, 3) := by decide +kernel
theorem d_M_init_49 : decode b_M_init 49 = .ok (.newarray .int, 2) := by decide +kernel
theorem d_M_init_51 : decode b_M_init 51 = .ok (.putfield 27, 3) := by decide +kernel
theorem d_M_init_54 : decode b_M_init 54 = .ok (.aload_n 0, 1) := by decide +kernel
theorem d_M_init_55 : decode b_M_init 55 = .ok (.sipush 20000, 3) := by decide +kernel
theorem d_M_init_58 : decode b_M_init 58 = .ok (.newarray .int, 2) := by decide +kernel
theorem d_M_init_60 : decode b_M_init 60 = .ok (.putfield 30, 3) := by decide +kernel
theorem d_M_init_63 : decode b_M_init 63 = .ok (.aload_n 0, 1) := by decide +kernel
theorem d_M_init_64 : decode b_M_init 64 = .ok (.sipush 20000, 3) := by decide +kernel
theorem d_M_init_67 : decode b_M_init 67 = .ok (.newarray .int, 2) := by decide +kernel
theorem d_M_init_69 : decode b_M_init 69 = .ok (.putfield 33, 3) := by decide +kernel
theorem d_M_init_72 : decode b_M_init 72 = .ok (.aload_n 0, 1) := by decide +kernel
theorem d_M_init_73 : decode b_M_init 73 = .ok (.sipush 20000, 3) := by decide +kernel
theorem d_M_init_76 : decode b_M_init 76 = .ok (.newarray .long, 2) := by decide +kernel
theorem d_M_init_78 : decode b_M_init 78 = .ok (.putfield 36, 3) := by decide +kernel
theorem d_M_init_81 : decode b_M_init 81 = .ok (.aload_n 0, 1) := by decide +kernel
theorem d_M_init_82 : decode b_M_init 82 = .ok (.bipush 61, 2) := by decide +kernel
theorem d_M_init_84 : decode b_M_init 84 = .ok (.newarray .int, 2) := by decide +kernel
theorem d_M_init_86 : decode b_M_init 86 = .ok (.putfield 40, 3) := by decide +kernel
theorem d_M_init_89 : decode b_M_init 89 = .ok (.aload_n 0, 1) := by decide +kernel
theorem d_M_init_90 : decode b_M_init 90 = .ok (.bipush 61, 2) := by decide +kernel
theorem d_M_init_92 : decode b_M_init 92 = .ok (.newarray .long, 2) := by decide +kernel
theorem d_M_init_94 : decode b_M_init 94 = .ok (.putfield 43, 3) := by decide +kernel
theorem d_M_init_97 : decode b_M_init 97 = .ok (.aload_n 0, 1) := by decide +kernel
theorem d_M_init_98 : decode b_M_init 98 = .ok (.bipush 61, 2) := by decide +kernel
theorem d_M_init_100 : decode b_M_init 100 = .ok (.newarray .int, 2) := by decide +kernel
theorem d_M_init_102 : decode b_M_init 102 = .ok (.putfield 46, 3) := by decide +kernel
theorem d_M_init_105 : decode b_M_init 105 = .ok (.aload_n 0, 1) := by decide +kernel
theorem d_M_init_106 : decode b_M_init 106 = .ok (.bipush 61, 2) := by decide +kernel
theorem d_M_init_108 : decode b_M_init 108 = .ok (.newarray .int, 2) := by decide +kernel
theorem d_M_init_110 : decode b_M_init 110 = .ok (.putfield 49, 3) := by decide +kernel
theorem d_M_init_113 : decode b_M_init 113 = .ok (.return_, 1) := by decide +kernel
theorem d_M_sign_0 : decode b_M_sign 0 = .ok (.aload_n 0, 1) := by decide +kernel
theorem d_M_sign_1 : decode b_M_sign 1 = .ok (.iconst 0, 1) := by decide +kernel
theorem d_M_sign_2 : decode b_M_sign 2 = .ok (.putfield 52, 3) := by decide +kernel
theorem d_M_sign_5 : decode b_M_sign 5 = .ok (.aload_n 0, 1) := by decide +kernel
theorem d_M_sign_6 : decode b_M_sign 6 = .ok (.getfield 56, 3) := by decide +kernel
theorem d_M_sign_9 : decode b_M_sign 9 = .ok (.bipush 40, 2) := by decide +kernel
theorem d_M_sign_11 : decode b_M_sign 11 = .ok (.if_icmp .ge 24, 3) := by decide +kernel
theorem d_M_sign_14 : decode b_M_sign 14 = .ok (.aload_n 0, 1) := by decide +kernel
theorem d_M_sign_15 : decode b_M_sign 15 = .ok (.getfield 7, 3) := by decide +kernel
theorem d_M_sign_18 : decode b_M_sign 18 = .ok (.aload_n 0, 1) := by decide +kernel
theorem d_M_sign_19 : decode b_M_sign 19 = .ok (.getfield 56, 3) := by decide +kernel
theorem d_M_sign_22 : decode b_M_sign 22 = .ok (.iload_n 1, 1) := by decide +kernel
theorem d_M_sign_23 : decode b_M_sign 23 = .ok (.i2b, 1) := by decide +kernel
theorem d_M_sign_24 : decode b_M_sign 24 = .ok (.bastore, 1) := by decide +kernel
theorem d_M_sign_25 : decode b_M_sign 25 = .ok (.aload_n 0, 1) := by decide +kernel
theorem d_M_sign_26 : decode b_M_sign 26 = .ok (.dup, 1) := by decide +kernel
theorem d_M_sign_27 : decode b_M_sign 27 = .ok (.getfield 56, 3) := by decide +kernel
theorem d_M_sign_30 : decode b_M_sign 30 = .ok (.iconst 1, 1) := by decide +kernel
theorem d_M_sign_31 : decode b_M_sign 31 = .ok (.iadd, 1) := by decide +kernel
theorem d_M_sign_32 : decode b_M_sign 32 = .ok (.putfield 56, 3) := by decide +kernel
theorem d_M_sign_35 : decode b_M_sign 35 = .ok (.return_, 1) := by decide +kernel
theorem d_M_takes_0 : decode b_M_takes 0 = .ok (.aload_n 0, 1) := by decide +kernel
theorem d_M_takes_1 : decode b_M_takes 1 = .ok (.aload_n 0, 1) := by decide +kernel
theorem d_M_takes_2 : decode b_M_takes 2 = .ok (.getfield 56, 3) := by decide +kernel
theorem d_M_takes_5 : decode b_M_takes 5 = .ok (.putfield 59, 3) := by decide +kernel
theorem d_M_takes_8 : decode b_M_takes 8 = .ok (.aload_n 0, 1) := by decide +kernel
theorem d_M_takes_9 : decode b_M_takes 9 = .ok (.iconst 0, 1) := by decide +kernel
theorem d_M_takes_10 : decode b_M_takes 10 = .ok (.putfield 56, 3) := by decide +kernel
theorem d_M_takes_13 : decode b_M_takes 13 = .ok (.aload_n 0, 1) := by decide +kernel
theorem d_M_takes_14 : decode b_M_takes 14 = .ok (.getfield 59, 3) := by decide +kernel
theorem d_M_takes_17 : decode b_M_takes 17 = .ok (.ifCond .le 16, 3) := by decide +kernel
theorem d_M_takes_20 : decode b_M_takes 20 = .ok (.aload_n 0, 1) := by decide +kernel
theorem d_M_takes_21 : decode b_M_takes 21 = .ok (.getfield 59, 3) := by decide +kernel
theorem d_M_takes_24 : decode b_M_takes 24 = .ok (.bipush 21, 2) := by decide +kernel
theorem d_M_takes_26 : decode b_M_takes 26 = .ok (.if_icmp .ge 7, 3) := by decide +kernel
theorem d_M_takes_29 : decode b_M_takes 29 = .ok (.iconst 1, 1) := by decide +kernel
theorem d_M_takes_30 : decode b_M_takes 30 = .ok (.goto 4, 3) := by decide +kernel
theorem d_M_takes_33 : decode b_M_takes 33 = .ok (.iconst 0, 1) := by decide +kernel
theorem d_M_takes_34 : decode b_M_takes 34 = .ok (.istore_n 1, 1) := by decide +kernel
theorem d_M_takes_35 : decode b_M_takes 35 = .ok (.iconst 0, 1) := by decide +kernel
theorem d_M_takes_36 : decode b_M_takes 36 = .ok (.istore_n 2, 1) := by decide +kernel
theorem d_M_takes_37 : decode b_M_takes 37 = .ok (.iload_n 2, 1) := by decide +kernel
theorem d_M_takes_38 : decode b_M_takes 38 = .ok (.aload_n 0, 1) := by decide +kernel
theorem d_M_takes_39 : decode b_M_takes 39 = .ok (.getfield 59, 3) := by decide +kernel
theorem d_M_takes_42 : decode b_M_takes 42 = .ok (.if_icmp .ge 62, 3) := by decide +kernel
theorem d_M_takes_45 : decode b_M_takes 45 = .ok (.aload_n 0, 1) := by decide +kernel
theorem d_M_takes_46 : decode b_M_takes 46 = .ok (.getfield 7, 3) := by decide +kernel
theorem d_M_takes_49 : decode b_M_takes 49 = .ok (.iload_n 2, 1) := by decide +kernel
theorem d_M_takes_50 : decode b_M_takes 50 = .ok (.baload, 1) := by decide +kernel
theorem d_M_takes_51 : decode b_M_takes 51 = .ok (.istore_n 3, 1) := by decide +kernel
theorem d_M_takes_52 : decode b_M_takes 52 = .ok (.iload_n 1, 1) := by decide +kernel
theorem d_M_takes_53 : decode b_M_takes 53 = .ok (.ifCond .eq 43, 3) := by decide +kernel
theorem d_M_takes_56 : decode b_M_takes 56 = .ok (.iload_n 3, 1) := by decide +kernel
theorem d_M_takes_57 : decode b_M_takes 57 = .ok (.bipush 48, 2) := by decide +kernel
theorem d_M_takes_59 : decode b_M_takes 59 = .ok (.if_icmp .lt 9, 3) := by decide +kernel
theorem d_M_takes_62 : decode b_M_takes 62 = .ok (.iload_n 3, 1) := by decide +kernel
theorem d_M_takes_63 : decode b_M_takes 63 = .ok (.bipush 57, 2) := by decide +kernel
theorem d_M_takes_65 : decode b_M_takes 65 = .ok (.if_icmp .le 27, 3) := by decide +kernel
theorem d_M_takes_68 : decode b_M_takes 68 = .ok (.iload_n 3, 1) := by decide +kernel
theorem d_M_takes_69 : decode b_M_takes 69 = .ok (.bipush 65, 2) := by decide +kernel
theorem d_M_takes_71 : decode b_M_takes 71 = .ok (.if_icmp .lt 9, 3) := by decide +kernel
theorem d_M_takes_74 : decode b_M_takes 74 = .ok (.iload_n 3, 1) := by decide +kernel
theorem d_M_takes_75 : decode b_M_takes 75 = .ok (.bipush 90, 2) := by decide +kernel
theorem d_M_takes_77 : decode b_M_takes 77 = .ok (.if_icmp .le 15, 3) := by decide +kernel
theorem d_M_takes_80 : decode b_M_takes 80 = .ok (.iload_n 3, 1) := by decide +kernel
theorem d_M_takes_81 : decode b_M_takes 81 = .ok (.bipush 97, 2) := by decide +kernel
theorem d_M_takes_83 : decode b_M_takes 83 = .ok (.if_icmp .lt 13, 3) := by decide +kernel
theorem d_M_takes_86 : decode b_M_takes 86 = .ok (.iload_n 3, 1) := by decide +kernel
theorem d_M_takes_87 : decode b_M_takes 87 = .ok (.bipush 122, 2) := by decide +kernel
theorem d_M_takes_89 : decode b_M_takes 89 = .ok (.if_icmp .gt 7, 3) := by decide +kernel
theorem d_M_takes_92 : decode b_M_takes 92 = .ok (.iconst 1, 1) := by decide +kernel
theorem d_M_takes_93 : decode b_M_takes 93 = .ok (.goto 4, 3) := by decide +kernel
theorem d_M_takes_96 : decode b_M_takes 96 = .ok (.iconst 0, 1) := by decide +kernel
theorem d_M_takes_97 : decode b_M_takes 97 = .ok (.istore_n 1, 1) := by decide +kernel
theorem d_M_takes_98 : decode b_M_takes 98 = .ok (.iinc 2 1, 3) := by decide +kernel
theorem d_M_takes_101 : decode b_M_takes 101 = .ok (.goto (-64), 3) := by decide +kernel
theorem d_M_takes_104 : decode b_M_takes 104 = .ok (.iload_n 1, 1) := by decide +kernel
theorem d_M_takes_105 : decode b_M_takes 105 = .ok (.ireturn, 1) := by decide +kernel
theorem d_M_small_0 : decode b_M_small 0 = .ok (.iload_n 0, 1) := by decide +kernel
theorem d_M_small_1 : decode b_M_small 1 = .ok (.bipush 65, 2) := by decide +kernel
theorem d_M_small_3 : decode b_M_small 3 = .ok (.if_icmp .lt 16, 3) := by decide +kernel
theorem d_M_small_6 : decode b_M_small 6 = .ok (.iload_n 0, 1) := by decide +kernel
theorem d_M_small_7 : decode b_M_small 7 = .ok (.bipush 90, 2) := by decide +kernel
theorem d_M_small_9 : decode b_M_small 9 = .ok (.if_icmp .gt 10, 3) := by decide +kernel
theorem d_M_small_12 : decode b_M_small 12 = .ok (.iload_n 0, 1) := by decide +kernel
theorem d_M_small_13 : decode b_M_small 13 = .ok (.bipush 32, 2) := by decide +kernel
theorem d_M_small_15 : decode b_M_small 15 = .ok (.iadd, 1) := by decide +kernel
theorem d_M_small_16 : decode b_M_small 16 = .ok (.goto 4, 3) := by decide +kernel
theorem d_M_small_19 : decode b_M_small 19 = .ok (.iload_n 0, 1) := by decide +kernel
theorem d_M_small_20 : decode b_M_small 20 = .ok (.ireturn, 1) := by decide +kernel
theorem d_M_hasText_0 : decode b_M_hasText 0 = .ok (.aload_n 0, 1) := by decide +kernel
theorem d_M_hasText_1 : decode b_M_hasText 1 = .ok (.getfield 24, 3) := by decide +kernel
theorem d_M_hasText_4 : decode b_M_hasText 4 = .ok (.iload_n 1, 1) := by decide +kernel
theorem d_M_hasText_5 : decode b_M_hasText 5 = .ok (.iaload, 1) := by decide +kernel
theorem d_M_hasText_6 : decode b_M_hasText 6 = .ok (.aload_n 0, 1) := by decide +kernel
theorem d_M_hasText_7 : decode b_M_hasText 7 = .ok (.getfield 59, 3) := by decide +kernel
theorem d_M_hasText_10 : decode b_M_hasText 10 = .ok (.if_icmp .ne 7, 3) := by decide +kernel
theorem d_M_hasText_13 : decode b_M_hasText 13 = .ok (.iconst 1, 1) := by decide +kernel
theorem d_M_hasText_14 : decode b_M_hasText 14 = .ok (.goto 4, 3) := by decide +kernel
theorem d_M_hasText_17 : decode b_M_hasText 17 = .ok (.iconst 0, 1) := by decide +kernel
theorem d_M_hasText_18 : decode b_M_hasText 18 = .ok (.istore_n 2, 1) := by decide +kernel
theorem d_M_hasText_19 : decode b_M_hasText 19 = .ok (.iconst 0, 1) := by decide +kernel
theorem d_M_hasText_20 : decode b_M_hasText 20 = .ok (.istore_n 3, 1) := by decide +kernel
theorem d_M_hasText_21 : decode b_M_hasText 21 = .ok (.iload_n 3, 1) := by decide +kernel
theorem d_M_hasText_22 : decode b_M_hasText 22 = .ok (.aload_n 0, 1) := by decide +kernel
theorem d_M_hasText_23 : decode b_M_hasText 23 = .ok (.getfield 59, 3) := by decide +kernel
theorem d_M_hasText_26 : decode b_M_hasText 26 = .ok (.if_icmp .ge 45, 3) := by decide +kernel
theorem d_M_hasText_29 : decode b_M_hasText 29 = .ok (.iload_n 2, 1) := by decide +kernel
theorem d_M_hasText_30 : decode b_M_hasText 30 = .ok (.ifCond .eq 41, 3) := by decide +kernel
theorem d_M_hasText_33 : decode b_M_hasText 33 = .ok (.aload_n 0, 1) := by decide +kernel
theorem d_M_hasText_34 : decode b_M_hasText 34 = .ok (.getfield 21, 3) := by decide +kernel
theorem d_M_hasText_37 : decode b_M_hasText 37 = .ok (.bipush 20, 2) := by decide +kernel
theorem d_M_hasText_39 : decode b_M_hasText 39 = .ok (.iload_n 1, 1) := by decide +kernel
theorem d_M_hasText_40 : decode b_M_hasText 40 = .ok (.imul, 1) := by decide +kernel
theorem d_M_hasText_41 : decode b_M_hasText 41 = .ok (.iload_n 3, 1) := by decide +kernel
theorem d_M_hasText_42 : decode b_M_hasText 42 = .ok (.iadd, 1) := by decide +kernel
theorem d_M_hasText_43 : decode b_M_hasText 43 = .ok (.baload, 1) := by decide +kernel
theorem d_M_hasText_44 : decode b_M_hasText 44 = .ok (.invokestatic 62, 3) := by decide +kernel
theorem d_M_hasText_47 : decode b_M_hasText 47 = .ok (.aload_n 0, 1) := by decide +kernel
theorem d_M_hasText_48 : decode b_M_hasText 48 = .ok (.getfield 7, 3) := by decide +kernel
theorem d_M_hasText_51 : decode b_M_hasText 51 = .ok (.iload_n 3, 1) := by decide +kernel
theorem d_M_hasText_52 : decode b_M_hasText 52 = .ok (.baload, 1) := by decide +kernel
theorem d_M_hasText_53 : decode b_M_hasText 53 = .ok (.invokestatic 62, 3) := by decide +kernel
theorem d_M_hasText_56 : decode b_M_hasText 56 = .ok (.if_icmp .ne 7, 3) := by decide +kernel
theorem d_M_hasText_59 : decode b_M_hasText 59 = .ok (.iconst 1, 1) := by decide +kernel
theorem d_M_hasText_60 : decode b_M_hasText 60 = .ok (.goto 4, 3) := by decide +kernel
theorem d_M_hasText_63 : decode b_M_hasText 63 = .ok (.iconst 0, 1) := by decide +kernel
theorem d_M_hasText_64 : decode b_M_hasText 64 = .ok (.istore_n 2, 1) := by decide +kernel
theorem d_M_hasText_65 : decode b_M_hasText 65 = .ok (.iinc 3 1, 3) := by decide +kernel
theorem d_M_hasText_68 : decode b_M_hasText 68 = .ok (.goto (-47), 3) := by decide +kernel
theorem d_M_hasText_71 : decode b_M_hasText 71 = .ok (.iload_n 2, 1) := by decide +kernel
theorem d_M_hasText_72 : decode b_M_hasText 72 = .ok (.ireturn, 1) := by decide +kernel
theorem d_M_lay_0 : decode b_M_lay 0 = .ok (.aload_n 0, 1) := by decide +kernel
theorem d_M_lay_1 : decode b_M_lay 1 = .ok (.getfield 24, 3) := by decide +kernel
theorem d_M_lay_4 : decode b_M_lay 4 = .ok (.iload_n 1, 1) := by decide +kernel
theorem d_M_lay_5 : decode b_M_lay 5 = .ok (.aload_n 0, 1) := by decide +kernel
theorem d_M_lay_6 : decode b_M_lay 6 = .ok (.getfield 59, 3) := by decide +kernel
theorem d_M_lay_9 : decode b_M_lay 9 = .ok (.iastore, 1) := by decide +kernel
theorem d_M_lay_10 : decode b_M_lay 10 = .ok (.iconst 0, 1) := by decide +kernel
theorem d_M_lay_11 : decode b_M_lay 11 = .ok (.istore_n 2, 1) := by decide +kernel
theorem d_M_lay_12 : decode b_M_lay 12 = .ok (.iload_n 2, 1) := by decide +kernel
theorem d_M_lay_13 : decode b_M_lay 13 = .ok (.aload_n 0, 1) := by decide +kernel
theorem d_M_lay_14 : decode b_M_lay 14 = .ok (.getfield 59, 3) := by decide +kernel
theorem d_M_lay_17 : decode b_M_lay 17 = .ok (.if_icmp .ge 26, 3) := by decide +kernel
theorem d_M_lay_20 : decode b_M_lay 20 = .ok (.aload_n 0, 1) := by decide +kernel
theorem d_M_lay_21 : decode b_M_lay 21 = .ok (.getfield 21, 3) := by decide +kernel
theorem d_M_lay_24 : decode b_M_lay 24 = .ok (.bipush 20, 2) := by decide +kernel
theorem d_M_lay_26 : decode b_M_lay 26 = .ok (.iload_n 1, 1) := by decide +kernel
theorem d_M_lay_27 : decode b_M_lay 27 = .ok (.imul, 1) := by decide +kernel
theorem d_M_lay_28 : decode b_M_lay 28 = .ok (.iload_n 2, 1) := by decide +kernel
theorem d_M_lay_29 : decode b_M_lay 29 = .ok (.iadd, 1) := by decide +kernel
theorem d_M_lay_30 : decode b_M_lay 30 = .ok (.aload_n 0, 1) := by decide +kernel
theorem d_M_lay_31 : decode b_M_lay 31 = .ok (.getfield 7, 3) := by decide +kernel
theorem d_M_lay_34 : decode b_M_lay 34 = .ok (.iload_n 2, 1) := by decide +kernel
theorem d_M_lay_35 : decode b_M_lay 35 = .ok (.baload, 1) := by decide +kernel
theorem d_M_lay_36 : decode b_M_lay 36 = .ok (.bastore, 1) := by decide +kernel
theorem d_M_lay_37 : decode b_M_lay 37 = .ok (.iinc 2 1, 3) := by decide +kernel
theorem d_M_lay_40 : decode b_M_lay 40 = .ok (.goto (-28), 3) := by decide +kernel
theorem d_M_lay_43 : decode b_M_lay 43 = .ok (.return_, 1) := by decide +kernel
theorem d_M_first_0 : decode b_M_first 0 = .ok (.iconst 1, 1) := by decide +kernel
theorem d_M_first_1 : decode b_M_first 1 = .ok (.istore_n 3, 1) := by decide +kernel
theorem d_M_first_2 : decode b_M_first 2 = .ok (.iload_n 3, 1) := by decide +kernel
theorem d_M_first_3 : decode b_M_first 3 = .ok (.aload_n 0, 1) := by decide +kernel
theorem d_M_first_4 : decode b_M_first 4 = .ok (.getfield 66, 3) := by decide +kernel
theorem d_M_first_7 : decode b_M_first 7 = .ok (.if_icmp .gt 48, 3) := by decide +kernel
theorem d_M_first_10 : decode b_M_first 10 = .ok (.aload_n 0, 1) := by decide +kernel
theorem d_M_first_11 : decode b_M_first 11 = .ok (.getfield 17, 3) := by decide +kernel
theorem d_M_first_14 : decode b_M_first 14 = .ok (.iload_n 3, 1) := by decide +kernel
theorem d_M_first_15 : decode b_M_first 15 = .ok (.baload, 1) := by decide +kernel
theorem d_M_first_16 : decode b_M_first 16 = .ok (.ifCond .eq 33, 3) := by decide +kernel
theorem d_M_first_19 : decode b_M_first 19 = .ok (.iload_n 3, 1) := by decide +kernel
theorem d_M_first_20 : decode b_M_first 20 = .ok (.iload_n 2, 1) := by decide +kernel
theorem d_M_first_21 : decode b_M_first 21 = .ok (.if_icmp .eq 28, 3) := by decide +kernel
theorem d_M_first_24 : decode b_M_first 24 = .ok (.iload_n 1, 1) := by decide +kernel
theorem d_M_first_25 : decode b_M_first 25 = .ok (.iconst (-1), 1) := by decide +kernel
theorem d_M_first_26 : decode b_M_first 26 = .ok (.if_icmp .eq 13, 3) := by decide +kernel
theorem d_M_first_29 : decode b_M_first 29 = .ok (.aload_n 0, 1) := by decide +kernel
theorem d_M_first_30 : decode b_M_first 30 = .ok (.getfield 13, 3) := by decide +kernel
theorem d_M_first_33 : decode b_M_first 33 = .ok (.iload_n 3, 1) := by decide +kernel
theorem d_M_first_34 : decode b_M_first 34 = .ok (.iaload, 1) := by decide +kernel
theorem d_M_first_35 : decode b_M_first 35 = .ok (.iload_n 1, 1) := by decide +kernel
theorem d_M_first_36 : decode b_M_first 36 = .ok (.if_icmp .ne 13, 3) := by decide +kernel
theorem d_M_first_39 : decode b_M_first 39 = .ok (.aload_n 0, 1) := by decide +kernel
theorem d_M_first_40 : decode b_M_first 40 = .ok (.iload_n 3, 1) := by decide +kernel
theorem d_M_first_41 : decode b_M_first 41 = .ok (.invokevirtual 69, 3) := by decide +kernel
theorem d_M_first_44 : decode b_M_first 44 = .ok (.ifCond .eq 5, 3) := by decide +kernel
theorem d_M_first_47 : decode b_M_first 47 = .ok (.iload_n 3, 1) := by decide +kernel
theorem d_M_first_48 : decode b_M_first 48 = .ok (.ireturn, 1) := by decide +kernel
theorem d_M_first_49 : decode b_M_first 49 = .ok (.iinc 3 1, 3) := by decide +kernel
theorem d_M_first_52 : decode b_M_first 52 = .ok (.goto (-50), 3) := by decide +kernel
theorem d_M_first_55 : decode b_M_first 55 = .ok (.iconst 0, 1) := by decide +kernel
theorem d_M_first_56 : decode b_M_first 56 = .ok (.ireturn, 1) := by decide +kernel
theorem d_M_isLive_0 : decode b_M_isLive 0 = .ok (.iload_n 1, 1) := by decide +kernel
theorem d_M_isLive_1 : decode b_M_isLive 1 = .ok (.ifCond .le 24, 3) := by decide +kernel
theorem d_M_isLive_4 : decode b_M_isLive 4 = .ok (.iload_n 1, 1) := by decide +kernel
theorem d_M_isLive_5 : decode b_M_isLive 5 = .ok (.aload_n 0, 1) := by decide +kernel
theorem d_M_isLive_6 : decode b_M_isLive 6 = .ok (.getfield 66, 3) := by decide +kernel
theorem d_M_isLive_9 : decode b_M_isLive 9 = .ok (.if_icmp .gt 16, 3) := by decide +kernel
theorem d_M_isLive_12 : decode b_M_isLive 12 = .ok (.aload_n 0, 1) := by decide +kernel
theorem d_M_isLive_13 : decode b_M_isLive 13 = .ok (.getfield 17, 3) := by decide +kernel
theorem d_M_isLive_16 : decode b_M_isLive 16 = .ok (.iload_n 1, 1) := by decide +kernel
theorem d_M_isLive_17 : decode b_M_isLive 17 = .ok (.baload, 1) := by decide +kernel
theorem d_M_isLive_18 : decode b_M_isLive 18 = .ok (.ifCond .eq 7, 3) := by decide +kernel
theorem d_M_isLive_21 : decode b_M_isLive 21 = .ok (.iconst 1, 1) := by decide +kernel
theorem d_M_isLive_22 : decode b_M_isLive 22 = .ok (.goto 4, 3) := by decide +kernel
theorem d_M_isLive_25 : decode b_M_isLive 25 = .ok (.iconst 0, 1) := by decide +kernel
theorem d_M_isLive_26 : decode b_M_isLive 26 = .ok (.ireturn, 1) := by decide +kernel
theorem d_M_make_0 : decode b_M_make 0 = .ok (.iload_n 1, 1) := by decide +kernel
theorem d_M_make_1 : decode b_M_make 1 = .ok (.ifCond .lt 8, 3) := by decide +kernel
theorem d_M_make_4 : decode b_M_make 4 = .ok (.iload_n 1, 1) := by decide +kernel
theorem d_M_make_5 : decode b_M_make 5 = .ok (.iconst 3, 1) := by decide +kernel
theorem d_M_make_6 : decode b_M_make 6 = .ok (.if_icmp .le 5, 3) := by decide +kernel
theorem d_M_make_9 : decode b_M_make 9 = .ok (.iconst 0, 1) := by decide +kernel
theorem d_M_make_10 : decode b_M_make 10 = .ok (.ireturn, 1) := by decide +kernel
theorem d_M_make_11 : decode b_M_make 11 = .ok (.aload_n 0, 1) := by decide +kernel
theorem d_M_make_12 : decode b_M_make 12 = .ok (.iload_n 1, 1) := by decide +kernel
theorem d_M_make_13 : decode b_M_make 13 = .ok (.iconst 0, 1) := by decide +kernel
theorem d_M_make_14 : decode b_M_make 14 = .ok (.invokevirtual 73, 3) := by decide +kernel
theorem d_M_make_17 : decode b_M_make 17 = .ok (.istore_n 2, 1) := by decide +kernel
theorem d_M_make_18 : decode b_M_make 18 = .ok (.iload_n 2, 1) := by decide +kernel
theorem d_M_make_19 : decode b_M_make 19 = .ok (.ifCond .le 6, 3) := by decide +kernel
theorem d_M_make_22 : decode b_M_make 22 = .ok (.iload_n 2, 1) := by decide +kernel
end
section
theorem d_M_make_23 : decode b_M_make 23 = .ok (.ineg, 1) := by decide +kernel
theorem d_M_make_24 : decode b_M_make 24 = .ok (.ireturn, 1) := by decide +kernel
theorem d_M_make_25 : decode b_M_make 25 = .ok (.aload_n 0, 1) := by decide +kernel
theorem d_M_make_26 : decode b_M_make 26 = .ok (.getfield 66, 3) := by decide +kernel
theorem d_M_make_29 : decode b_M_make 29 = .ok (.bipush 60, 2) := by decide +kernel
theorem d_M_make_31 : decode b_M_make 31 = .ok (.if_icmp .ne 5, 3) := by decide +kernel
theorem d_M_make_34 : decode b_M_make 34 = .ok (.iconst 0, 1) := by decide +kernel
theorem d_M_make_35 : decode b_M_make 35 = .ok (.ireturn, 1) := by decide +kernel
theorem d_M_make_36 : decode b_M_make 36 = .ok (.aload_n 0, 1) := by decide +kernel
theorem d_M_make_37 : decode b_M_make 37 = .ok (.dup, 1) := by decide +kernel
theorem d_M_make_38 : decode b_M_make 38 = .ok (.getfield 66, 3) := by decide +kernel
theorem d_M_make_41 : decode b_M_make 41 = .ok (.iconst 1, 1) := by decide +kernel
theorem d_M_make_42 : decode b_M_make 42 = .ok (.iadd, 1) := by decide +kernel
theorem d_M_make_43 : decode b_M_make 43 = .ok (.putfield 66, 3) := by decide +kernel
theorem d_M_make_46 : decode b_M_make 46 = .ok (.aload_n 0, 1) := by decide +kernel
theorem d_M_make_47 : decode b_M_make 47 = .ok (.getfield 13, 3) := by decide +kernel
theorem d_M_make_50 : decode b_M_make 50 = .ok (.aload_n 0, 1) := by decide +kernel
theorem d_M_make_51 : decode b_M_make 51 = .ok (.getfield 66, 3) := by decide +kernel
theorem d_M_make_54 : decode b_M_make 54 = .ok (.iload_n 1, 1) := by decide +kernel
theorem d_M_make_55 : decode b_M_make 55 = .ok (.iastore, 1) := by decide +kernel
theorem d_M_make_56 : decode b_M_make 56 = .ok (.aload_n 0, 1) := by decide +kernel
theorem d_M_make_57 : decode b_M_make 57 = .ok (.getfield 17, 3) := by decide +kernel
theorem d_M_make_60 : decode b_M_make 60 = .ok (.aload_n 0, 1) := by decide +kernel
theorem d_M_make_61 : decode b_M_make 61 = .ok (.getfield 66, 3) := by decide +kernel
theorem d_M_make_64 : decode b_M_make 64 = .ok (.iconst 1, 1) := by decide +kernel
theorem d_M_make_65 : decode b_M_make 65 = .ok (.bastore, 1) := by decide +kernel
theorem d_M_make_66 : decode b_M_make 66 = .ok (.aload_n 0, 1) := by decide +kernel
theorem d_M_make_67 : decode b_M_make 67 = .ok (.aload_n 0, 1) := by decide +kernel
theorem d_M_make_68 : decode b_M_make 68 = .ok (.getfield 66, 3) := by decide +kernel
theorem d_M_make_71 : decode b_M_make 71 = .ok (.invokevirtual 77, 3) := by decide +kernel
theorem d_M_make_74 : decode b_M_make 74 = .ok (.aload_n 0, 1) := by decide +kernel
theorem d_M_make_75 : decode b_M_make 75 = .ok (.getfield 66, 3) := by decide +kernel
theorem d_M_make_78 : decode b_M_make 78 = .ok (.ireturn, 1) := by decide +kernel
theorem d_M_heading_0 : decode b_M_heading 0 = .ok (.aload_n 0, 1) := by decide +kernel
theorem d_M_heading_1 : decode b_M_heading 1 = .ok (.iconst 0, 1) := by decide +kernel
theorem d_M_heading_2 : decode b_M_heading 2 = .ok (.putfield 52, 3) := by decide +kernel
theorem d_M_heading_5 : decode b_M_heading 5 = .ok (.aload_n 0, 1) := by decide +kernel
theorem d_M_heading_6 : decode b_M_heading 6 = .ok (.invokevirtual 81, 3) := by decide +kernel
theorem d_M_heading_9 : decode b_M_heading 9 = .ok (.ifCond .eq 11, 3) := by decide +kernel
theorem d_M_heading_12 : decode b_M_heading 12 = .ok (.aload_n 0, 1) := by decide +kernel
theorem d_M_heading_13 : decode b_M_heading 13 = .ok (.iload_n 1, 1) := by decide +kernel
theorem d_M_heading_14 : decode b_M_heading 14 = .ok (.invokevirtual 85, 3) := by decide +kernel
theorem d_M_heading_17 : decode b_M_heading 17 = .ok (.goto 5, 3) := by decide +kernel
theorem d_M_heading_20 : decode b_M_heading 20 = .ok (.bipush (-99), 2) := by decide +kernel
theorem d_M_heading_22 : decode b_M_heading 22 = .ok (.ireturn, 1) := by decide +kernel
theorem d_M_find_0 : decode b_M_find 0 = .ok (.aload_n 0, 1) := by decide +kernel
theorem d_M_find_1 : decode b_M_find 1 = .ok (.iconst 0, 1) := by decide +kernel
theorem d_M_find_2 : decode b_M_find 2 = .ok (.putfield 52, 3) := by decide +kernel
theorem d_M_find_5 : decode b_M_find 5 = .ok (.aload_n 0, 1) := by decide +kernel
theorem d_M_find_6 : decode b_M_find 6 = .ok (.invokevirtual 81, 3) := by decide +kernel
theorem d_M_find_9 : decode b_M_find 9 = .ok (.ifCond .eq 12, 3) := by decide +kernel
theorem d_M_find_12 : decode b_M_find 12 = .ok (.aload_n 0, 1) := by decide +kernel
theorem d_M_find_13 : decode b_M_find 13 = .ok (.iconst (-1), 1) := by decide +kernel
theorem d_M_find_14 : decode b_M_find 14 = .ok (.iconst 0, 1) := by decide +kernel
theorem d_M_find_15 : decode b_M_find 15 = .ok (.invokevirtual 73, 3) := by decide +kernel
theorem d_M_find_18 : decode b_M_find 18 = .ok (.goto 5, 3) := by decide +kernel
theorem d_M_find_21 : decode b_M_find 21 = .ok (.bipush (-99), 2) := by decide +kernel
theorem d_M_find_23 : decode b_M_find 23 = .ok (.ireturn, 1) := by decide +kernel
theorem d_M_linkedTo_0 : decode b_M_linkedTo 0 = .ok (.iconst 0, 1) := by decide +kernel
theorem d_M_linkedTo_1 : decode b_M_linkedTo 1 = .ok (.istore_n 2, 1) := by decide +kernel
theorem d_M_linkedTo_2 : decode b_M_linkedTo 2 = .ok (.iconst 1, 1) := by decide +kernel
theorem d_M_linkedTo_3 : decode b_M_linkedTo 3 = .ok (.istore_n 3, 1) := by decide +kernel
theorem d_M_linkedTo_4 : decode b_M_linkedTo 4 = .ok (.iload_n 3, 1) := by decide +kernel
theorem d_M_linkedTo_5 : decode b_M_linkedTo 5 = .ok (.aload_n 0, 1) := by decide +kernel
theorem d_M_linkedTo_6 : decode b_M_linkedTo 6 = .ok (.getfield 88, 3) := by decide +kernel
theorem d_M_linkedTo_9 : decode b_M_linkedTo 9 = .ok (.if_icmp .gt 27, 3) := by decide +kernel
theorem d_M_linkedTo_12 : decode b_M_linkedTo 12 = .ok (.iload_n 2, 1) := by decide +kernel
theorem d_M_linkedTo_13 : decode b_M_linkedTo 13 = .ok (.aload_n 0, 1) := by decide +kernel
theorem d_M_linkedTo_14 : decode b_M_linkedTo 14 = .ok (.getfield 40, 3) := by decide +kernel
theorem d_M_linkedTo_17 : decode b_M_linkedTo 17 = .ok (.iload_n 3, 1) := by decide +kernel
theorem d_M_linkedTo_18 : decode b_M_linkedTo 18 = .ok (.iaload, 1) := by decide +kernel
theorem d_M_linkedTo_19 : decode b_M_linkedTo 19 = .ok (.iload_n 1, 1) := by decide +kernel
theorem d_M_linkedTo_20 : decode b_M_linkedTo 20 = .ok (.if_icmp .ne 7, 3) := by decide +kernel
theorem d_M_linkedTo_23 : decode b_M_linkedTo 23 = .ok (.iconst 1, 1) := by decide +kernel
theorem d_M_linkedTo_24 : decode b_M_linkedTo 24 = .ok (.goto 4, 3) := by decide +kernel
theorem d_M_linkedTo_27 : decode b_M_linkedTo 27 = .ok (.iconst 0, 1) := by decide +kernel
theorem d_M_linkedTo_28 : decode b_M_linkedTo 28 = .ok (.iadd, 1) := by decide +kernel
theorem d_M_linkedTo_29 : decode b_M_linkedTo 29 = .ok (.istore_n 2, 1) := by decide +kernel
theorem d_M_linkedTo_30 : decode b_M_linkedTo 30 = .ok (.iinc 3 1, 3) := by decide +kernel
theorem d_M_linkedTo_33 : decode b_M_linkedTo 33 = .ok (.goto (-29), 3) := by decide +kernel
theorem d_M_linkedTo_36 : decode b_M_linkedTo 36 = .ok (.iload_n 2, 1) := by decide +kernel
theorem d_M_linkedTo_37 : decode b_M_linkedTo 37 = .ok (.ireturn, 1) := by decide +kernel
theorem d_M_rename_0 : decode b_M_rename 0 = .ok (.aload_n 0, 1) := by decide +kernel
theorem d_M_rename_1 : decode b_M_rename 1 = .ok (.iconst 0, 1) := by decide +kernel
theorem d_M_rename_2 : decode b_M_rename 2 = .ok (.putfield 52, 3) := by decide +kernel
theorem d_M_rename_5 : decode b_M_rename 5 = .ok (.aload_n 0, 1) := by decide +kernel
theorem d_M_rename_6 : decode b_M_rename 6 = .ok (.invokevirtual 81, 3) := by decide +kernel
theorem d_M_rename_9 : decode b_M_rename 9 = .ok (.ifCond .ne 6, 3) := by decide +kernel
theorem d_M_rename_12 : decode b_M_rename 12 = .ok (.bipush (-99), 2) := by decide +kernel
theorem d_M_rename_14 : decode b_M_rename 14 = .ok (.ireturn, 1) := by decide +kernel
theorem d_M_rename_15 : decode b_M_rename 15 = .ok (.aload_n 0, 1) := by decide +kernel
theorem d_M_rename_16 : decode b_M_rename 16 = .ok (.iload_n 1, 1) := by decide +kernel
theorem d_M_rename_17 : decode b_M_rename 17 = .ok (.invokevirtual 91, 3) := by decide +kernel
theorem d_M_rename_20 : decode b_M_rename 20 = .ok (.ifCond .ne 6, 3) := by decide +kernel
theorem d_M_rename_23 : decode b_M_rename 23 = .ok (.bipush (-100), 2) := by decide +kernel
theorem d_M_rename_25 : decode b_M_rename 25 = .ok (.ireturn, 1) := by decide +kernel
theorem d_M_rename_26 : decode b_M_rename 26 = .ok (.aload_n 0, 1) := by decide +kernel
theorem d_M_rename_27 : decode b_M_rename 27 = .ok (.aload_n 0, 1) := by decide +kernel
theorem d_M_rename_28 : decode b_M_rename 28 = .ok (.getfield 13, 3) := by decide +kernel
theorem d_M_rename_31 : decode b_M_rename 31 = .ok (.iload_n 1, 1) := by decide +kernel
theorem d_M_rename_32 : decode b_M_rename 32 = .ok (.iaload, 1) := by decide +kernel
theorem d_M_rename_33 : decode b_M_rename 33 = .ok (.iload_n 1, 1) := by decide +kernel
theorem d_M_rename_34 : decode b_M_rename 34 = .ok (.invokevirtual 73, 3) := by decide +kernel
theorem d_M_rename_37 : decode b_M_rename 37 = .ok (.istore_n 2, 1) := by decide +kernel
theorem d_M_rename_38 : decode b_M_rename 38 = .ok (.iload_n 2, 1) := by decide +kernel
theorem d_M_rename_39 : decode b_M_rename 39 = .ok (.ifCond .le 6, 3) := by decide +kernel
theorem d_M_rename_42 : decode b_M_rename 42 = .ok (.iload_n 2, 1) := by decide +kernel
theorem d_M_rename_43 : decode b_M_rename 43 = .ok (.ineg, 1) := by decide +kernel
theorem d_M_rename_44 : decode b_M_rename 44 = .ok (.ireturn, 1) := by decide +kernel
theorem d_M_rename_45 : decode b_M_rename 45 = .ok (.aload_n 0, 1) := by decide +kernel
theorem d_M_rename_46 : decode b_M_rename 46 = .ok (.iload_n 1, 1) := by decide +kernel
theorem d_M_rename_47 : decode b_M_rename 47 = .ok (.invokevirtual 77, 3) := by decide +kernel
theorem d_M_rename_50 : decode b_M_rename 50 = .ok (.aload_n 0, 1) := by decide +kernel
theorem d_M_rename_51 : decode b_M_rename 51 = .ok (.iload_n 1, 1) := by decide +kernel
theorem d_M_rename_52 : decode b_M_rename 52 = .ok (.invokevirtual 94, 3) := by decide +kernel
theorem d_M_rename_55 : decode b_M_rename 55 = .ok (.ireturn, 1) := by decide +kernel
theorem d_M_letter_0 : decode b_M_letter 0 = .ok (.aload_n 0, 1) := by decide +kernel
theorem d_M_letter_1 : decode b_M_letter 1 = .ok (.iconst 0, 1) := by decide +kernel
theorem d_M_letter_2 : decode b_M_letter 2 = .ok (.putfield 52, 3) := by decide +kernel
theorem d_M_letter_5 : decode b_M_letter 5 = .ok (.iload_n 1, 1) := by decide +kernel
theorem d_M_letter_6 : decode b_M_letter 6 = .ok (.iconst 1, 1) := by decide +kernel
theorem d_M_letter_7 : decode b_M_letter 7 = .ok (.if_icmp .lt 25, 3) := by decide +kernel
theorem d_M_letter_10 : decode b_M_letter 10 = .ok (.iload_n 1, 1) := by decide +kernel
theorem d_M_letter_11 : decode b_M_letter 11 = .ok (.aload_n 0, 1) := by decide +kernel
theorem d_M_letter_12 : decode b_M_letter 12 = .ok (.getfield 66, 3) := by decide +kernel
theorem d_M_letter_15 : decode b_M_letter 15 = .ok (.if_icmp .gt 17, 3) := by decide +kernel
theorem d_M_letter_18 : decode b_M_letter 18 = .ok (.iload_n 2, 1) := by decide +kernel
theorem d_M_letter_19 : decode b_M_letter 19 = .ok (.ifCond .lt 13, 3) := by decide +kernel
theorem d_M_letter_22 : decode b_M_letter 22 = .ok (.iload_n 2, 1) := by decide +kernel
theorem d_M_letter_23 : decode b_M_letter 23 = .ok (.aload_n 0, 1) := by decide +kernel
theorem d_M_letter_24 : decode b_M_letter 24 = .ok (.getfield 24, 3) := by decide +kernel
theorem d_M_letter_27 : decode b_M_letter 27 = .ok (.iload_n 1, 1) := by decide +kernel
theorem d_M_letter_28 : decode b_M_letter 28 = .ok (.iaload, 1) := by decide +kernel
theorem d_M_letter_29 : decode b_M_letter 29 = .ok (.if_icmp .lt 7, 3) := by decide +kernel
theorem d_M_letter_32 : decode b_M_letter 32 = .ok (.iconst (-1), 1) := by decide +kernel
theorem d_M_letter_33 : decode b_M_letter 33 = .ok (.goto 14, 3) := by decide +kernel
theorem d_M_letter_36 : decode b_M_letter 36 = .ok (.aload_n 0, 1) := by decide +kernel
theorem d_M_letter_37 : decode b_M_letter 37 = .ok (.getfield 21, 3) := by decide +kernel
theorem d_M_letter_40 : decode b_M_letter 40 = .ok (.bipush 20, 2) := by decide +kernel
theorem d_M_letter_42 : decode b_M_letter 42 = .ok (.iload_n 1, 1) := by decide +kernel
theorem d_M_letter_43 : decode b_M_letter 43 = .ok (.imul, 1) := by decide +kernel
theorem d_M_letter_44 : decode b_M_letter 44 = .ok (.iload_n 2, 1) := by decide +kernel
theorem d_M_letter_45 : decode b_M_letter 45 = .ok (.iadd, 1) := by decide +kernel
theorem d_M_letter_46 : decode b_M_letter 46 = .ok (.baload, 1) := by decide +kernel
theorem d_M_letter_47 : decode b_M_letter 47 = .ok (.ireturn, 1) := by decide +kernel
theorem d_M_is_0 : decode b_M_is 0 = .ok (.aload_n 0, 1) := by decide +kernel
theorem d_M_is_1 : decode b_M_is 1 = .ok (.getfield 27, 3) := by decide +kernel
theorem d_M_is_4 : decode b_M_is 4 = .ok (.iload_n 1, 1) := by decide +kernel
theorem d_M_is_5 : decode b_M_is 5 = .ok (.iaload, 1) := by decide +kernel
theorem d_M_is_6 : decode b_M_is 6 = .ok (.iload_n 2, 1) := by decide +kernel
theorem d_M_is_7 : decode b_M_is 7 = .ok (.if_icmp .ne 37, 3) := by decide +kernel
theorem d_M_is_10 : decode b_M_is 10 = .ok (.iload_n 3, 1) := by decide +kernel
theorem d_M_is_11 : decode b_M_is 11 = .ok (.ifCond .eq 13, 3) := by decide +kernel
theorem d_M_is_14 : decode b_M_is 14 = .ok (.aload_n 0, 1) := by decide +kernel
theorem d_M_is_15 : decode b_M_is 15 = .ok (.getfield 30, 3) := by decide +kernel
theorem d_M_is_18 : decode b_M_is 18 = .ok (.iload_n 1, 1) := by decide +kernel
theorem d_M_is_19 : decode b_M_is 19 = .ok (.iaload, 1) := by decide +kernel
theorem d_M_is_20 : decode b_M_is 20 = .ok (.iload_n 3, 1) := by decide +kernel
theorem d_M_is_21 : decode b_M_is 21 = .ok (.if_icmp .ne 23, 3) := by decide +kernel
theorem d_M_is_24 : decode b_M_is 24 = .ok (.iload 4, 2) := by decide +kernel
theorem d_M_is_26 : decode b_M_is 26 = .ok (.ifCond .eq 14, 3) := by decide +kernel
theorem d_M_is_29 : decode b_M_is 29 = .ok (.aload_n 0, 1) := by decide +kernel
theorem d_M_is_30 : decode b_M_is 30 = .ok (.getfield 33, 3) := by decide +kernel
theorem d_M_is_33 : decode b_M_is 33 = .ok (.iload_n 1, 1) := by decide +kernel
theorem d_M_is_34 : decode b_M_is 34 = .ok (.iaload, 1) := by decide +kernel
theorem d_M_is_35 : decode b_M_is 35 = .ok (.iload 4, 2) := by decide +kernel
theorem d_M_is_37 : decode b_M_is 37 = .ok (.if_icmp .ne 7, 3) := by decide +kernel
theorem d_M_is_40 : decode b_M_is 40 = .ok (.iconst 1, 1) := by decide +kernel
theorem d_M_is_41 : decode b_M_is 41 = .ok (.goto 4, 3) := by decide +kernel
theorem d_M_is_44 : decode b_M_is 44 = .ok (.iconst 0, 1) := by decide +kernel
theorem d_M_is_45 : decode b_M_is 45 = .ok (.ireturn, 1) := by decide +kernel
theorem d_M_has_0 : decode b_M_has 0 = .ok (.iconst 0, 1) := by decide +kernel
theorem d_M_has_1 : decode b_M_has 1 = .ok (.istore 4, 2) := by decide +kernel
theorem d_M_has_3 : decode b_M_has 3 = .ok (.iconst 0, 1) := by decide +kernel
theorem d_M_has_4 : decode b_M_has 4 = .ok (.istore 5, 2) := by decide +kernel
theorem d_M_has_6 : decode b_M_has 6 = .ok (.iload 5, 2) := by decide +kernel
theorem d_M_has_8 : decode b_M_has 8 = .ok (.aload_n 0, 1) := by decide +kernel
theorem d_M_has_9 : decode b_M_has 9 = .ok (.getfield 97, 3) := by decide +kernel
theorem d_M_has_12 : decode b_M_has 12 = .ok (.if_icmp .ge 33, 3) := by decide +kernel
theorem d_M_has_15 : decode b_M_has 15 = .ok (.iload 4, 2) := by decide +kernel
theorem d_M_has_17 : decode b_M_has 17 = .ok (.ifCond .ne 15, 3) := by decide +kernel
theorem d_M_has_20 : decode b_M_has 20 = .ok (.aload_n 0, 1) := by decide +kernel
theorem d_M_has_21 : decode b_M_has 21 = .ok (.iload 5, 2) := by decide +kernel
theorem d_M_has_23 : decode b_M_has 23 = .ok (.iload_n 1, 1) := by decide +kernel
theorem d_M_has_24 : decode b_M_has 24 = .ok (.iload_n 2, 1) := by decide +kernel
theorem d_M_has_25 : decode b_M_has 25 = .ok (.iload_n 3, 1) := by decide +kernel
theorem d_M_has_26 : decode b_M_has 26 = .ok (.invokevirtual 100, 3) := by decide +kernel
theorem d_M_has_29 : decode b_M_has 29 = .ok (.ifCond .eq 7, 3) := by decide +kernel
theorem d_M_has_32 : decode b_M_has 32 = .ok (.iconst 1, 1) := by decide +kernel
theorem d_M_has_33 : decode b_M_has 33 = .ok (.goto 4, 3) := by decide +kernel
theorem d_M_has_36 : decode b_M_has 36 = .ok (.iconst 0, 1) := by decide +kernel
theorem d_M_has_37 : decode b_M_has 37 = .ok (.istore 4, 2) := by decide +kernel
theorem d_M_has_39 : decode b_M_has 39 = .ok (.iinc 5 1, 3) := by decide +kernel
theorem d_M_has_42 : decode b_M_has 42 = .ok (.goto (-36), 3) := by decide +kernel
theorem d_M_has_45 : decode b_M_has 45 = .ok (.iload 4, 2) := by decide +kernel
theorem d_M_has_47 : decode b_M_has 47 = .ok (.ireturn, 1) := by decide +kernel
theorem d_M_add_0 : decode b_M_add 0 = .ok (.aload_n 0, 1) := by decide +kernel
theorem d_M_add_1 : decode b_M_add 1 = .ok (.getfield 27, 3) := by decide +kernel
theorem d_M_add_4 : decode b_M_add 4 = .ok (.aload_n 0, 1) := by decide +kernel
theorem d_M_add_5 : decode b_M_add 5 = .ok (.getfield 97, 3) := by decide +kernel
theorem d_M_add_8 : decode b_M_add 8 = .ok (.iload_n 1, 1) := by decide +kernel
theorem d_M_add_9 : decode b_M_add 9 = .ok (.iastore, 1) := by decide +kernel
theorem d_M_add_10 : decode b_M_add 10 = .ok (.aload_n 0, 1) := by decide +kernel
theorem d_M_add_11 : decode b_M_add 11 = .ok (.getfield 30, 3) := by decide +kernel
theorem d_M_add_14 : decode b_M_add 14 = .ok (.aload_n 0, 1) := by decide +kernel
theorem d_M_add_15 : decode b_M_add 15 = .ok (.getfield 97, 3) := by decide +kernel
theorem d_M_add_18 : decode b_M_add 18 = .ok (.iload_n 2, 1) := by decide +kernel
theorem d_M_add_19 : decode b_M_add 19 = .ok (.iastore, 1) := by decide +kernel
theorem d_M_add_20 : decode b_M_add 20 = .ok (.aload_n 0, 1) := by decide +kernel
theorem d_M_add_21 : decode b_M_add 21 = .ok (.getfield 33, 3) := by decide +kernel
theorem d_M_add_24 : decode b_M_add 24 = .ok (.aload_n 0, 1) := by decide +kernel
theorem d_M_add_25 : decode b_M_add 25 = .ok (.getfield 97, 3) := by decide +kernel
theorem d_M_add_28 : decode b_M_add 28 = .ok (.iload_n 3, 1) := by decide +kernel
theorem d_M_add_29 : decode b_M_add 29 = .ok (.iastore, 1) := by decide +kernel
theorem d_M_add_30 : decode b_M_add 30 = .ok (.aload_n 0, 1) := by decide +kernel
theorem d_M_add_31 : decode b_M_add 31 = .ok (.getfield 36, 3) := by decide +kernel
theorem d_M_add_34 : decode b_M_add 34 = .ok (.aload_n 0, 1) := by decide +kernel
theorem d_M_add_35 : decode b_M_add 35 = .ok (.getfield 97, 3) := by decide +kernel
theorem d_M_add_38 : decode b_M_add 38 = .ok (.lload 4, 2) := by decide +kernel
theorem d_M_add_40 : decode b_M_add 40 = .ok (.lastore, 1) := by decide +kernel
theorem d_M_add_41 : decode b_M_add 41 = .ok (.aload_n 0, 1) := by decide +kernel
theorem d_M_add_42 : decode b_M_add 42 = .ok (.dup, 1) := by decide +kernel
theorem d_M_add_43 : decode b_M_add 43 = .ok (.getfield 97, 3) := by decide +kernel
theorem d_M_add_46 : decode b_M_add 46 = .ok (.iconst 1, 1) := by decide +kernel
theorem d_M_add_47 : decode b_M_add 47 = .ok (.iadd, 1) := by decide +kernel
theorem d_M_add_48 : decode b_M_add 48 = .ok (.putfield 97, 3) := by decide +kernel
theorem d_M_add_51 : decode b_M_add 51 = .ok (.return_, 1) := by decide +kernel
theorem d_M_measure_0 : decode b_M_measure 0 = .ok (.iconst 1, 1) := by decide +kernel
theorem d_M_measure_1 : decode b_M_measure 1 = .ok (.istore 4, 2) := by decide +kernel
theorem d_M_measure_3 : decode b_M_measure 3 = .ok (.iload 4, 2) := by decide +kernel
theorem d_M_measure_5 : decode b_M_measure 5 = .ok (.aload_n 0, 1) := by decide +kernel
theorem d_M_measure_6 : decode b_M_measure 6 = .ok (.getfield 66, 3) := by decide +kernel
theorem d_M_measure_9 : decode b_M_measure 9 = .ok (.if_icmp .gt 28, 3) := by decide +kernel
theorem d_M_measure_12 : decode b_M_measure 12 = .ok (.aload_n 0, 1) := by decide +kernel
theorem d_M_measure_13 : decode b_M_measure 13 = .ok (.getfield 49, 3) := by decide +kernel
theorem d_M_measure_16 : decode b_M_measure 16 = .ok (.iload 4, 2) := by decide +kernel
theorem d_M_measure_18 : decode b_M_measure 18 = .ok (.iload 4, 2) := by decide +kernel
theorem d_M_measure_20 : decode b_M_measure 20 = .ok (.iload_n 2, 1) := by decide +kernel
theorem d_M_measure_21 : decode b_M_measure 21 = .ok (.if_icmp .ne 7, 3) := by decide +kernel
theorem d_M_measure_24 : decode b_M_measure 24 = .ok (.iconst 0, 1) := by decide +kernel
theorem d_M_measure_25 : decode b_M_measure 25 = .ok (.goto 5, 3) := by decide +kernel
theorem d_M_measure_28 : decode b_M_measure 28 = .ok (.bipush 100, 2) := by decide +kernel
theorem d_M_measure_30 : decode b_M_measure 30 = .ok (.iastore, 1) := by decide +kernel
theorem d_M_measure_31 : decode b_M_measure 31 = .ok (.iinc 4 1, 3) := by decide +kernel
theorem d_M_measure_34 : decode b_M_measure 34 = .ok (.goto (-31), 3) := by decide +kernel
theorem d_M_measure_37 : decode b_M_measure 37 = .ok (.iconst 1, 1) := by decide +kernel
theorem d_M_measure_38 : decode b_M_measure 38 = .ok (.istore 4, 2) := by decide +kernel
theorem d_M_measure_40 : decode b_M_measure 40 = .ok (.iload 4, 2) := by decide +kernel
theorem d_M_measure_42 : decode b_M_measure 42 = .ok (.ifCond .eq 122, 3) := by decide +kernel
theorem d_M_measure_45 : decode b_M_measure 45 = .ok (.iconst 0, 1) := by decide +kernel
theorem d_M_measure_46 : decode b_M_measure 46 = .ok (.istore 4, 2) := by decide +kernel
theorem d_M_measure_48 : decode b_M_measure 48 = .ok (.iconst 0, 1) := by decide +kernel
theorem d_M_measure_49 : decode b_M_measure 49 = .ok (.istore 5, 2) := by decide +kernel
theorem d_M_measure_51 : decode b_M_measure 51 = .ok (.iload 5, 2) := by decide +kernel
theorem d_M_measure_53 : decode b_M_measure 53 = .ok (.aload_n 0, 1) := by decide +kernel
theorem d_M_measure_54 : decode b_M_measure 54 = .ok (.getfield 97, 3) := by decide +kernel
theorem d_M_measure_57 : decode b_M_measure 57 = .ok (.if_icmp .ge 104, 3) := by decide +kernel
theorem d_M_measure_60 : decode b_M_measure 60 = .ok (.aload_n 0, 1) := by decide +kernel
theorem d_M_measure_61 : decode b_M_measure 61 = .ok (.getfield 27, 3) := by decide +kernel
theorem d_M_measure_64 : decode b_M_measure 64 = .ok (.iload 5, 2) := by decide +kernel
theorem d_M_measure_66 : decode b_M_measure 66 = .ok (.iaload, 1) := by decide +kernel
theorem d_M_measure_67 : decode b_M_measure 67 = .ok (.iload_n 1, 1) := by decide +kernel
theorem d_M_measure_68 : decode b_M_measure 68 = .ok (.if_icmp .ne 87, 3) := by decide +kernel
theorem d_M_measure_71 : decode b_M_measure 71 = .ok (.iload_n 3, 1) := by decide +kernel
theorem d_M_measure_72 : decode b_M_measure 72 = .ok (.ifCond .eq 13, 3) := by decide +kernel
theorem d_M_measure_75 : decode b_M_measure 75 = .ok (.aload_n 0, 1) := by decide +kernel
theorem d_M_measure_76 : decode b_M_measure 76 = .ok (.getfield 33, 3) := by decide +kernel
theorem d_M_measure_79 : decode b_M_measure 79 = .ok (.iload 5, 2) := by decide +kernel
theorem d_M_measure_81 : decode b_M_measure 81 = .ok (.iaload, 1) := by decide +kernel
theorem d_M_measure_82 : decode b_M_measure 82 = .ok (.goto 10, 3) := by decide +kernel
theorem d_M_measure_85 : decode b_M_measure 85 = .ok (.aload_n 0, 1) := by decide +kernel
theorem d_M_measure_86 : decode b_M_measure 86 = .ok (.getfield 30, 3) := by decide +kernel
theorem d_M_measure_89 : decode b_M_measure 89 = .ok (.iload 5, 2) := by decide +kernel
theorem d_M_measure_91 : decode b_M_measure 91 = .ok (.iaload, 1) := by decide +kernel
theorem d_M_measure_92 : decode b_M_measure 92 = .ok (.istore 6, 2) := by decide +kernel
theorem d_M_measure_94 : decode b_M_measure 94 = .ok (.iload_n 3, 1) := by decide +kernel
theorem d_M_measure_95 : decode b_M_measure 95 = .ok (.ifCond .eq 13, 3) := by decide +kernel
theorem d_M_measure_98 : decode b_M_measure 98 = .ok (.aload_n 0, 1) := by decide +kernel
theorem d_M_measure_99 : decode b_M_measure 99 = .ok (.getfield 30, 3) := by decide +kernel
theorem d_M_measure_102 : decode b_M_measure 102 = .ok (.iload 5, 2) := by decide +kernel
theorem d_M_measure_104 : decode b_M_measure 104 = .ok (.iaload, 1) := by decide +kernel
theorem d_M_measure_105 : decode b_M_measure 105 = .ok (.goto 10, 3) := by decide +kernel
theorem d_M_measure_108 : decode b_M_measure 108 = .ok (.aload_n 0, 1) := by decide +kernel
theorem d_M_measure_109 : decode b_M_measure 109 = .ok (.getfield 33, 3) := by decide +kernel
theorem d_M_measure_112 : decode b_M_measure 112 = .ok (.iload 5, 2) := by decide +kernel
theorem d_M_measure_114 : decode b_M_measure 114 = .ok (.iaload, 1) := by decide +kernel
theorem d_M_measure_115 : decode b_M_measure 115 = .ok (.istore 7, 2) := by decide +kernel
theorem d_M_measure_117 : decode b_M_measure 117 = .ok (.aload_n 0, 1) := by decide +kernel
theorem d_M_measure_118 : decode b_M_measure 118 = .ok (.getfield 49, 3) := by decide +kernel
theorem d_M_measure_121 : decode b_M_measure 121 = .ok (.iload 6, 2) := by decide +kernel
theorem d_M_measure_123 : decode b_M_measure 123 = .ok (.iaload, 1) := by decide +kernel
theorem d_M_measure_124 : decode b_M_measure 124 = .ok (.iconst 1, 1) := by decide +kernel
theorem d_M_measure_125 : decode b_M_measure 125 = .ok (.iadd, 1) := by decide +kernel
theorem d_M_measure_126 : decode b_M_measure 126 = .ok (.aload_n 0, 1) := by decide +kernel
theorem d_M_measure_127 : decode b_M_measure 127 = .ok (.getfield 49, 3) := by decide +kernel
theorem d_M_measure_130 : decode b_M_measure 130 = .ok (.iload 7, 2) := by decide +kernel
theorem d_M_measure_132 : decode b_M_measure 132 = .ok (.iaload, 1) := by decide +kernel
theorem d_M_measure_133 : decode b_M_measure 133 = .ok (.if_icmp .ge 22, 3) := by decide +kernel
theorem d_M_measure_136 : decode b_M_measure 136 = .ok (.aload_n 0, 1) := by decide +kernel
theorem d_M_measure_137 : decode b_M_measure 137 = .ok (.getfield 49, 3) := by decide +kernel
theorem d_M_measure_140 : decode b_M_measure 140 = .ok (.iload 7, 2) := by decide +kernel
theorem d_M_measure_142 : decode b_M_measure 142 = .ok (.aload_n 0, 1) := by decide +kernel
theorem d_M_measure_143 : decode b_M_measure 143 = .ok (.getfield 49, 3) := by decide +kernel
theorem d_M_measure_146 : decode b_M_measure 146 = .ok (.iload 6, 2) := by decide +kernel
theorem d_M_measure_148 : decode b_M_measure 148 = .ok (.iaload, 1) := by decide +kernel
theorem d_M_measure_149 : decode b_M_measure 149 = .ok (.iconst 1, 1) := by decide +kernel
theorem d_M_measure_150 : decode b_M_measure 150 = .ok (.iadd, 1) := by decide +kernel
theorem d_M_measure_151 : decode b_M_measure 151 = .ok (.iastore, 1) := by decide +kernel
theorem d_M_measure_152 : decode b_M_measure 152 = .ok (.iconst 1, 1) := by decide +kernel
theorem d_M_measure_153 : decode b_M_measure 153 = .ok (.istore 4, 2) := by decide +kernel
theorem d_M_measure_155 : decode b_M_measure 155 = .ok (.iinc 5 1, 3) := by decide +kernel
theorem d_M_measure_158 : decode b_M_measure 158 = .ok (.goto (-107), 3) := by decide +kernel
theorem d_M_measure_161 : decode b_M_measure 161 = .ok (.goto (-121), 3) := by decide +kernel
theorem d_M_measure_164 : decode b_M_measure 164 = .ok (.return_, 1) := by decide +kernel
theorem d_M_ways_0 : decode b_M_ways 0 = .ok (.aload_n 0, 1) := by decide +kernel
theorem d_M_ways_1 : decode b_M_ways 1 = .ok (.iload_n 1, 1) := by decide +kernel
theorem d_M_ways_2 : decode b_M_ways 2 = .ok (.iload_n 3, 1) := by decide +kernel
theorem d_M_ways_3 : decode b_M_ways 3 = .ok (.iconst 1, 1) := by decide +kernel
theorem d_M_ways_4 : decode b_M_ways 4 = .ok (.invokevirtual 104, 3) := by decide +kernel
theorem d_M_ways_7 : decode b_M_ways 7 = .ok (.iload_n 2, 1) := by decide +kernel
theorem d_M_ways_8 : decode b_M_ways 8 = .ok (.istore 4, 2) := by decide +kernel
theorem d_M_ways_10 : decode b_M_ways 10 = .ok (.aload_n 0, 1) := by decide +kernel
theorem d_M_ways_11 : decode b_M_ways 11 = .ok (.iconst 0, 1) := by decide +kernel
theorem d_M_ways_12 : decode b_M_ways 12 = .ok (.putfield 108, 3) := by decide +kernel
theorem d_M_ways_15 : decode b_M_ways 15 = .ok (.aload_n 0, 1) := by decide +kernel
theorem d_M_ways_16 : decode b_M_ways 16 = .ok (.getfield 46, 3) := by decide +kernel
theorem d_M_ways_19 : decode b_M_ways 19 = .ok (.aload_n 0, 1) := by decide +kernel
theorem d_M_ways_20 : decode b_M_ways 20 = .ok (.getfield 108, 3) := by decide +kernel
theorem d_M_ways_23 : decode b_M_ways 23 = .ok (.iload 4, 2) := by decide +kernel
theorem d_M_ways_25 : decode b_M_ways 25 = .ok (.iastore, 1) := by decide +kernel
theorem d_M_ways_26 : decode b_M_ways 26 = .ok (.aload_n 0, 1) := by decide +kernel
theorem d_M_ways_27 : decode b_M_ways 27 = .ok (.dup, 1) := by decide +kernel
theorem d_M_ways_28 : decode b_M_ways 28 = .ok (.getfield 108, 3) := by decide +kernel
theorem d_M_ways_31 : decode b_M_ways 31 = .ok (.iconst 1, 1) := by decide +kernel
theorem d_M_ways_32 : decode b_M_ways 32 = .ok (.iadd, 1) := by decide +kernel
theorem d_M_ways_33 : decode b_M_ways 33 = .ok (.putfield 108, 3) := by decide +kernel
theorem d_M_ways_36 : decode b_M_ways 36 = .ok (.iload 4, 2) := by decide +kernel
theorem d_M_ways_38 : decode b_M_ways 38 = .ok (.iload_n 3, 1) := by decide +kernel
theorem d_M_ways_39 : decode b_M_ways 39 = .ok (.if_icmp .eq 91, 3) := by decide +kernel
theorem d_M_ways_42 : decode b_M_ways 42 = .ok (.iconst 0, 1) := by decide +kernel
theorem d_M_ways_43 : decode b_M_ways 43 = .ok (.istore 5, 2) := by decide +kernel
theorem d_M_ways_45 : decode b_M_ways 45 = .ok (.aload_n 0, 1) := by decide +kernel
theorem d_M_ways_46 : decode b_M_ways 46 = .ok (.getfield 66, 3) := by decide +kernel
theorem d_M_ways_49 : decode b_M_ways 49 = .ok (.istore 6, 2) := by decide +kernel
theorem d_M_ways_51 : decode b_M_ways 51 = .ok (.iload 6, 2) := by decide +kernel
theorem d_M_ways_53 : decode b_M_ways 53 = .ok (.ifCond .le 49, 3) := by decide +kernel
theorem d_M_ways_56 : decode b_M_ways 56 = .ok (.aload_n 0, 1) := by decide +kernel
theorem d_M_ways_57 : decode b_M_ways 57 = .ok (.getfield 49, 3) := by decide +kernel
theorem d_M_ways_60 : decode b_M_ways 60 = .ok (.iload 6, 2) := by decide +kernel
theorem d_M_ways_62 : decode b_M_ways 62 = .ok (.iaload, 1) := by decide +kernel
theorem d_M_ways_63 : decode b_M_ways 63 = .ok (.aload_n 0, 1) := by decide +kernel
theorem d_M_ways_64 : decode b_M_ways 64 = .ok (.getfield 49, 3) := by decide +kernel
theorem d_M_ways_67 : decode b_M_ways 67 = .ok (.iload 4, 2) := by decide +kernel
theorem d_M_ways_69 : decode b_M_ways 69 = .ok (.iaload, 1) := by decide +kernel
theorem d_M_ways_70 : decode b_M_ways 70 = .ok (.iconst 1, 1) := by decide +kernel
theorem d_M_ways_71 : decode b_M_ways 71 = .ok (.isub, 1) := by decide +kernel
theorem d_M_ways_72 : decode b_M_ways 72 = .ok (.if_icmp .ne 20, 3) := by decide +kernel
theorem d_M_ways_75 : decode b_M_ways 75 = .ok (.aload_n 0, 1) := by decide +kernel
theorem d_M_ways_76 : decode b_M_ways 76 = .ok (.iload_n 1, 1) := by decide +kernel
theorem d_M_ways_77 : decode b_M_ways 77 = .ok (.iload 4, 2) := by decide +kernel
theorem d_M_ways_79 : decode b_M_ways 79 = .ok (.iload 6, 2) := by decide +kernel
theorem d_M_ways_81 : decode b_M_ways 81 = .ok (.invokevirtual 111, 3) := by decide +kernel
theorem d_M_ways_84 : decode b_M_ways 84 = .ok (.ifCond .eq 8, 3) := by decide +kernel
theorem d_M_ways_87 : decode b_M_ways 87 = .ok (.iload 6, 2) := by decide +kernel
theorem d_M_ways_89 : decode b_M_ways 89 = .ok (.goto 5, 3) := by decide +kernel
theorem d_M_ways_92 : decode b_M_ways 92 = .ok (.iload 5, 2) := by decide +kernel
theorem d_M_ways_94 : decode b_M_ways 94 = .ok (.istore 5, 2) := by decide +kernel
theorem d_M_ways_96 : decode b_M_ways 96 = .ok (.iinc 6 (-1), 3) := by decide +kernel
theorem d_M_ways_99 : decode b_M_ways 99 = .ok (.goto (-48), 3) := by decide +kernel
theorem d_M_ways_102 : decode b_M_ways 102 = .ok (.iload 5, 2) := by decide +kernel
theorem d_M_ways_104 : decode b_M_ways 104 = .ok (.istore 4, 2) := by decide +kernel
theorem d_M_ways_106 : decode b_M_ways 106 = .ok (.aload_n 0, 1) := by decide +kernel
theorem d_M_ways_107 : decode b_M_ways 107 = .ok (.getfield 46, 3) := by decide +kernel
theorem d_M_ways_110 : decode b_M_ways 110 = .ok (.aload_n 0, 1) := by decide +kernel
theorem d_M_ways_111 : decode b_M_ways 111 = .ok (.getfield 108, 3) := by decide +kernel
theorem d_M_ways_114 : decode b_M_ways 114 = .ok (.iload 4, 2) := by decide +kernel
theorem d_M_ways_116 : decode b_M_ways 116 = .ok (.iastore, 1) := by decide +kernel
theorem d_M_ways_117 : decode b_M_ways 117 = .ok (.aload_n 0, 1) := by decide +kernel
theorem d_M_ways_118 : decode b_M_ways 118 = .ok (.dup, 1) := by decide +kernel
theorem d_M_ways_119 : decode b_M_ways 119 = .ok (.getfield 108, 3) := by decide +kernel
theorem d_M_ways_122 : decode b_M_ways 122 = .ok (.iconst 1, 1) := by decide +kernel
theorem d_M_ways_123 : decode b_M_ways 123 = .ok (.iadd, 1) := by decide +kernel
theorem d_M_ways_124 : decode b_M_ways 124 = .ok (.putfield 108, 3) := by decide +kernel
theorem d_M_ways_127 : decode b_M_ways 127 = .ok (.goto (-91), 3) := by decide +kernel
theorem d_M_ways_130 : decode b_M_ways 130 = .ok (.return_, 1) := by decide +kernel
theorem d_M_link_0 : decode b_M_link 0 = .ok (.aload_n 0, 1) := by decide +kernel
theorem d_M_link_1 : decode b_M_link 1 = .ok (.iconst 0, 1) := by decide +kernel
theorem d_M_link_2 : decode b_M_link 2 = .ok (.putfield 52, 3) := by decide +kernel
theorem d_M_link_5 : decode b_M_link 5 = .ok (.aload_n 0, 1) := by decide +kernel
theorem d_M_link_6 : decode b_M_link 6 = .ok (.iload_n 2, 1) := by decide +kernel
theorem d_M_link_7 : decode b_M_link 7 = .ok (.invokevirtual 91, 3) := by decide +kernel
theorem d_M_link_10 : decode b_M_link 10 = .ok (.ifCond .eq 35, 3) := by decide +kernel
theorem d_M_link_13 : decode b_M_link 13 = .ok (.aload_n 0, 1) := by decide +kernel
theorem d_M_link_14 : decode b_M_link 14 = .ok (.iload_n 3, 1) := by decide +kernel
theorem d_M_link_15 : decode b_M_link 15 = .ok (.invokevirtual 91, 3) := by decide +kernel
theorem d_M_link_18 : decode b_M_link 18 = .ok (.ifCond .eq 27, 3) := by decide +kernel
theorem d_M_link_21 : decode b_M_link 21 = .ok (.iload_n 2, 1) := by decide +kernel
theorem d_M_link_22 : decode b_M_link 22 = .ok (.iload_n 3, 1) := by decide +kernel
theorem d_M_link_23 : decode b_M_link 23 = .ok (.if_icmp .eq 22, 3) := by decide +kernel
theorem d_M_link_26 : decode b_M_link 26 = .ok (.iload_n 1, 1) := by decide +kernel
end
section
theorem d_M_link_27 : decode b_M_link 27 = .ok (.ifCond .lt 18, 3) := by decide +kernel
theorem d_M_link_30 : decode b_M_link 30 = .ok (.iload_n 1, 1) := by decide +kernel
theorem d_M_link_31 : decode b_M_link 31 = .ok (.iconst 3, 1) := by decide +kernel
theorem d_M_link_32 : decode b_M_link 32 = .ok (.if_icmp .gt 13, 3) := by decide +kernel
theorem d_M_link_35 : decode b_M_link 35 = .ok (.aload_n 0, 1) := by decide +kernel
theorem d_M_link_36 : decode b_M_link 36 = .ok (.iload_n 1, 1) := by decide +kernel
theorem d_M_link_37 : decode b_M_link 37 = .ok (.iload_n 2, 1) := by decide +kernel
theorem d_M_link_38 : decode b_M_link 38 = .ok (.iload_n 3, 1) := by decide +kernel
theorem d_M_link_39 : decode b_M_link 39 = .ok (.invokevirtual 111, 3) := by decide +kernel
theorem d_M_link_42 : decode b_M_link 42 = .ok (.ifCond .eq 5, 3) := by decide +kernel
theorem d_M_link_45 : decode b_M_link 45 = .ok (.iconst 0, 1) := by decide +kernel
theorem d_M_link_46 : decode b_M_link 46 = .ok (.ireturn, 1) := by decide +kernel
theorem d_M_link_47 : decode b_M_link 47 = .ok (.iload_n 1, 1) := by decide +kernel
theorem d_M_link_48 : decode b_M_link 48 = .ok (.ifCond .ne 35, 3) := by decide +kernel
theorem d_M_link_51 : decode b_M_link 51 = .ok (.aload_n 0, 1) := by decide +kernel
theorem d_M_link_52 : decode b_M_link 52 = .ok (.iconst 0, 1) := by decide +kernel
theorem d_M_link_53 : decode b_M_link 53 = .ok (.iload_n 2, 1) := by decide +kernel
theorem d_M_link_54 : decode b_M_link 54 = .ok (.iconst 0, 1) := by decide +kernel
theorem d_M_link_55 : decode b_M_link 55 = .ok (.invokevirtual 111, 3) := by decide +kernel
theorem d_M_link_58 : decode b_M_link 58 = .ok (.ifCond .ne 23, 3) := by decide +kernel
theorem d_M_link_61 : decode b_M_link 61 = .ok (.aload_n 0, 1) := by decide +kernel
theorem d_M_link_62 : decode b_M_link 62 = .ok (.iconst 0, 1) := by decide +kernel
theorem d_M_link_63 : decode b_M_link 63 = .ok (.iconst 0, 1) := by decide +kernel
theorem d_M_link_64 : decode b_M_link 64 = .ok (.iload_n 2, 1) := by decide +kernel
theorem d_M_link_65 : decode b_M_link 65 = .ok (.invokevirtual 111, 3) := by decide +kernel
theorem d_M_link_68 : decode b_M_link 68 = .ok (.ifCond .ne 13, 3) := by decide +kernel
theorem d_M_link_71 : decode b_M_link 71 = .ok (.aload_n 0, 1) := by decide +kernel
theorem d_M_link_72 : decode b_M_link 72 = .ok (.iconst 0, 1) := by decide +kernel
theorem d_M_link_73 : decode b_M_link 73 = .ok (.iload_n 3, 1) := by decide +kernel
theorem d_M_link_74 : decode b_M_link 74 = .ok (.iconst 0, 1) := by decide +kernel
theorem d_M_link_75 : decode b_M_link 75 = .ok (.invokevirtual 111, 3) := by decide +kernel
theorem d_M_link_78 : decode b_M_link 78 = .ok (.ifCond .eq 5, 3) := by decide +kernel
theorem d_M_link_81 : decode b_M_link 81 = .ok (.iconst 0, 1) := by decide +kernel
theorem d_M_link_82 : decode b_M_link 82 = .ok (.ireturn, 1) := by decide +kernel
theorem d_M_link_83 : decode b_M_link 83 = .ok (.iload_n 1, 1) := by decide +kernel
theorem d_M_link_84 : decode b_M_link 84 = .ok (.iconst 1, 1) := by decide +kernel
theorem d_M_link_85 : decode b_M_link 85 = .ok (.if_icmp .le 30, 3) := by decide +kernel
theorem d_M_link_88 : decode b_M_link 88 = .ok (.aload_n 0, 1) := by decide +kernel
theorem d_M_link_89 : decode b_M_link 89 = .ok (.iload_n 1, 1) := by decide +kernel
theorem d_M_link_90 : decode b_M_link 90 = .ok (.iload_n 3, 1) := by decide +kernel
theorem d_M_link_91 : decode b_M_link 91 = .ok (.iconst 0, 1) := by decide +kernel
theorem d_M_link_92 : decode b_M_link 92 = .ok (.invokevirtual 104, 3) := by decide +kernel
theorem d_M_link_95 : decode b_M_link 95 = .ok (.aload_n 0, 1) := by decide +kernel
theorem d_M_link_96 : decode b_M_link 96 = .ok (.getfield 49, 3) := by decide +kernel
theorem d_M_link_99 : decode b_M_link 99 = .ok (.iload_n 2, 1) := by decide +kernel
theorem d_M_link_100 : decode b_M_link 100 = .ok (.iaload, 1) := by decide +kernel
theorem d_M_link_101 : decode b_M_link 101 = .ok (.bipush 100, 2) := by decide +kernel
theorem d_M_link_103 : decode b_M_link 103 = .ok (.if_icmp .ge 12, 3) := by decide +kernel
theorem d_M_link_106 : decode b_M_link 106 = .ok (.aload_n 0, 1) := by decide +kernel
theorem d_M_link_107 : decode b_M_link 107 = .ok (.iload_n 1, 1) := by decide +kernel
theorem d_M_link_108 : decode b_M_link 108 = .ok (.iload_n 3, 1) := by decide +kernel
theorem d_M_link_109 : decode b_M_link 109 = .ok (.iload_n 2, 1) := by decide +kernel
theorem d_M_link_110 : decode b_M_link 110 = .ok (.invokevirtual 115, 3) := by decide +kernel
theorem d_M_link_113 : decode b_M_link 113 = .ok (.iconst 0, 1) := by decide +kernel
theorem d_M_link_114 : decode b_M_link 114 = .ok (.ireturn, 1) := by decide +kernel
theorem d_M_link_115 : decode b_M_link 115 = .ok (.aload_n 0, 1) := by decide +kernel
theorem d_M_link_116 : decode b_M_link 116 = .ok (.iload_n 1, 1) := by decide +kernel
theorem d_M_link_117 : decode b_M_link 117 = .ok (.iload_n 2, 1) := by decide +kernel
theorem d_M_link_118 : decode b_M_link 118 = .ok (.iload_n 3, 1) := by decide +kernel
theorem d_M_link_119 : decode b_M_link 119 = .ok (.lload 4, 2) := by decide +kernel
theorem d_M_link_121 : decode b_M_link 121 = .ok (.invokevirtual 119, 3) := by decide +kernel
theorem d_M_link_124 : decode b_M_link 124 = .ok (.iconst 1, 1) := by decide +kernel
theorem d_M_link_125 : decode b_M_link 125 = .ok (.ireturn, 1) := by decide +kernel
theorem d_M_ring_0 : decode b_M_ring 0 = .ok (.aload_n 0, 1) := by decide +kernel
theorem d_M_ring_1 : decode b_M_ring 1 = .ok (.iconst 0, 1) := by decide +kernel
theorem d_M_ring_2 : decode b_M_ring 2 = .ok (.putfield 52, 3) := by decide +kernel
theorem d_M_ring_5 : decode b_M_ring 5 = .ok (.iload_n 1, 1) := by decide +kernel
theorem d_M_ring_6 : decode b_M_ring 6 = .ok (.ifCond .lt 11, 3) := by decide +kernel
theorem d_M_ring_9 : decode b_M_ring 9 = .ok (.iload_n 1, 1) := by decide +kernel
theorem d_M_ring_10 : decode b_M_ring 10 = .ok (.aload_n 0, 1) := by decide +kernel
theorem d_M_ring_11 : decode b_M_ring 11 = .ok (.getfield 108, 3) := by decide +kernel
theorem d_M_ring_14 : decode b_M_ring 14 = .ok (.if_icmp .lt 7, 3) := by decide +kernel
theorem d_M_ring_17 : decode b_M_ring 17 = .ok (.iconst 0, 1) := by decide +kernel
theorem d_M_ring_18 : decode b_M_ring 18 = .ok (.goto 9, 3) := by decide +kernel
theorem d_M_ring_21 : decode b_M_ring 21 = .ok (.aload_n 0, 1) := by decide +kernel
theorem d_M_ring_22 : decode b_M_ring 22 = .ok (.getfield 46, 3) := by decide +kernel
theorem d_M_ring_25 : decode b_M_ring 25 = .ok (.iload_n 1, 1) := by decide +kernel
theorem d_M_ring_26 : decode b_M_ring 26 = .ok (.iaload, 1) := by decide +kernel
theorem d_M_ring_27 : decode b_M_ring 27 = .ok (.ireturn, 1) := by decide +kernel
theorem d_M_see_0 : decode b_M_see 0 = .ok (.aload_n 0, 1) := by decide +kernel
theorem d_M_see_1 : decode b_M_see 1 = .ok (.iconst 0, 1) := by decide +kernel
theorem d_M_see_2 : decode b_M_see 2 = .ok (.putfield 52, 3) := by decide +kernel
theorem d_M_see_5 : decode b_M_see 5 = .ok (.iconst 0, 1) := by decide +kernel
theorem d_M_see_6 : decode b_M_see 6 = .ok (.istore_n 3, 1) := by decide +kernel
theorem d_M_see_7 : decode b_M_see 7 = .ok (.iconst 1, 1) := by decide +kernel
theorem d_M_see_8 : decode b_M_see 8 = .ok (.istore 4, 2) := by decide +kernel
theorem d_M_see_10 : decode b_M_see 10 = .ok (.iload 4, 2) := by decide +kernel
theorem d_M_see_12 : decode b_M_see 12 = .ok (.aload_n 0, 1) := by decide +kernel
theorem d_M_see_13 : decode b_M_see 13 = .ok (.getfield 66, 3) := by decide +kernel
theorem d_M_see_16 : decode b_M_see 16 = .ok (.if_icmp .gt 43, 3) := by decide +kernel
theorem d_M_see_19 : decode b_M_see 19 = .ok (.iload_n 2, 1) := by decide +kernel
theorem d_M_see_20 : decode b_M_see 20 = .ok (.ifCond .lt 39, 3) := by decide +kernel
theorem d_M_see_23 : decode b_M_see 23 = .ok (.aload_n 0, 1) := by decide +kernel
theorem d_M_see_24 : decode b_M_see 24 = .ok (.iload_n 1, 1) := by decide +kernel
theorem d_M_see_25 : decode b_M_see 25 = .ok (.invokevirtual 91, 3) := by decide +kernel
theorem d_M_see_28 : decode b_M_see 28 = .ok (.ifCond .eq 31, 3) := by decide +kernel
theorem d_M_see_31 : decode b_M_see 31 = .ok (.aload_n 0, 1) := by decide +kernel
theorem d_M_see_32 : decode b_M_see 32 = .ok (.iconst 0, 1) := by decide +kernel
theorem d_M_see_33 : decode b_M_see 33 = .ok (.iload 4, 2) := by decide +kernel
theorem d_M_see_35 : decode b_M_see 35 = .ok (.iload_n 1, 1) := by decide +kernel
theorem d_M_see_36 : decode b_M_see 36 = .ok (.invokevirtual 111, 3) := by decide +kernel
theorem d_M_see_39 : decode b_M_see 39 = .ok (.ifCond .eq 14, 3) := by decide +kernel
theorem d_M_see_42 : decode b_M_see 42 = .ok (.iload_n 3, 1) := by decide +kernel
theorem d_M_see_43 : decode b_M_see 43 = .ok (.iload_n 2, 1) := by decide +kernel
theorem d_M_see_44 : decode b_M_see 44 = .ok (.if_icmp .ne 6, 3) := by decide +kernel
theorem d_M_see_47 : decode b_M_see 47 = .ok (.iload 4, 2) := by decide +kernel
theorem d_M_see_49 : decode b_M_see 49 = .ok (.ireturn, 1) := by decide +kernel
theorem d_M_see_50 : decode b_M_see 50 = .ok (.iinc 3 1, 3) := by decide +kernel
theorem d_M_see_53 : decode b_M_see 53 = .ok (.iinc 4 1, 3) := by decide +kernel
theorem d_M_see_56 : decode b_M_see 56 = .ok (.goto (-46), 3) := by decide +kernel
theorem d_M_see_59 : decode b_M_see 59 = .ok (.iconst 0, 1) := by decide +kernel
theorem d_M_see_60 : decode b_M_see 60 = .ok (.ireturn, 1) := by decide +kernel
theorem d_M_broader_0 : decode b_M_broader 0 = .ok (.aload_n 0, 1) := by decide +kernel
theorem d_M_broader_1 : decode b_M_broader 1 = .ok (.iconst 0, 1) := by decide +kernel
theorem d_M_broader_2 : decode b_M_broader 2 = .ok (.putfield 52, 3) := by decide +kernel
theorem d_M_broader_5 : decode b_M_broader 5 = .ok (.aload_n 0, 1) := by decide +kernel
theorem d_M_broader_6 : decode b_M_broader 6 = .ok (.iload_n 1, 1) := by decide +kernel
theorem d_M_broader_7 : decode b_M_broader 7 = .ok (.invokevirtual 91, 3) := by decide +kernel
theorem d_M_broader_10 : decode b_M_broader 10 = .ok (.ifCond .eq 7, 3) := by decide +kernel
theorem d_M_broader_13 : decode b_M_broader 13 = .ok (.iload_n 2, 1) := by decide +kernel
theorem d_M_broader_14 : decode b_M_broader 14 = .ok (.ifCond .ge 5, 3) := by decide +kernel
theorem d_M_broader_17 : decode b_M_broader 17 = .ok (.iconst 0, 1) := by decide +kernel
theorem d_M_broader_18 : decode b_M_broader 18 = .ok (.ireturn, 1) := by decide +kernel
theorem d_M_broader_19 : decode b_M_broader 19 = .ok (.aload_n 0, 1) := by decide +kernel
theorem d_M_broader_20 : decode b_M_broader 20 = .ok (.iconst 2, 1) := by decide +kernel
theorem d_M_broader_21 : decode b_M_broader 21 = .ok (.iload_n 1, 1) := by decide +kernel
theorem d_M_broader_22 : decode b_M_broader 22 = .ok (.iconst 0, 1) := by decide +kernel
theorem d_M_broader_23 : decode b_M_broader 23 = .ok (.invokevirtual 104, 3) := by decide +kernel
theorem d_M_broader_26 : decode b_M_broader 26 = .ok (.iconst 0, 1) := by decide +kernel
theorem d_M_broader_27 : decode b_M_broader 27 = .ok (.istore_n 3, 1) := by decide +kernel
theorem d_M_broader_28 : decode b_M_broader 28 = .ok (.iconst 1, 1) := by decide +kernel
theorem d_M_broader_29 : decode b_M_broader 29 = .ok (.istore 4, 2) := by decide +kernel
theorem d_M_broader_31 : decode b_M_broader 31 = .ok (.iload 4, 2) := by decide +kernel
theorem d_M_broader_33 : decode b_M_broader 33 = .ok (.bipush 61, 2) := by decide +kernel
theorem d_M_broader_35 : decode b_M_broader 35 = .ok (.if_icmp .ge 50, 3) := by decide +kernel
theorem d_M_broader_38 : decode b_M_broader 38 = .ok (.iconst 1, 1) := by decide +kernel
theorem d_M_broader_39 : decode b_M_broader 39 = .ok (.istore 5, 2) := by decide +kernel
theorem d_M_broader_41 : decode b_M_broader 41 = .ok (.iload 5, 2) := by decide +kernel
theorem d_M_broader_43 : decode b_M_broader 43 = .ok (.aload_n 0, 1) := by decide +kernel
theorem d_M_broader_44 : decode b_M_broader 44 = .ok (.getfield 66, 3) := by decide +kernel
theorem d_M_broader_47 : decode b_M_broader 47 = .ok (.if_icmp .gt 32, 3) := by decide +kernel
theorem d_M_broader_50 : decode b_M_broader 50 = .ok (.aload_n 0, 1) := by decide +kernel
theorem d_M_broader_51 : decode b_M_broader 51 = .ok (.getfield 49, 3) := by decide +kernel
theorem d_M_broader_54 : decode b_M_broader 54 = .ok (.iload 5, 2) := by decide +kernel
theorem d_M_broader_56 : decode b_M_broader 56 = .ok (.iaload, 1) := by decide +kernel
theorem d_M_broader_57 : decode b_M_broader 57 = .ok (.iload 4, 2) := by decide +kernel
theorem d_M_broader_59 : decode b_M_broader 59 = .ok (.if_icmp .ne 14, 3) := by decide +kernel
theorem d_M_broader_62 : decode b_M_broader 62 = .ok (.iload_n 3, 1) := by decide +kernel
theorem d_M_broader_63 : decode b_M_broader 63 = .ok (.iload_n 2, 1) := by decide +kernel
theorem d_M_broader_64 : decode b_M_broader 64 = .ok (.if_icmp .ne 6, 3) := by decide +kernel
theorem d_M_broader_67 : decode b_M_broader 67 = .ok (.iload 5, 2) := by decide +kernel
theorem d_M_broader_69 : decode b_M_broader 69 = .ok (.ireturn, 1) := by decide +kernel
theorem d_M_broader_70 : decode b_M_broader 70 = .ok (.iinc 3 1, 3) := by decide +kernel
theorem d_M_broader_73 : decode b_M_broader 73 = .ok (.iinc 5 1, 3) := by decide +kernel
theorem d_M_broader_76 : decode b_M_broader 76 = .ok (.goto (-35), 3) := by decide +kernel
theorem d_M_broader_79 : decode b_M_broader 79 = .ok (.iinc 4 1, 3) := by decide +kernel
theorem d_M_broader_82 : decode b_M_broader 82 = .ok (.goto (-51), 3) := by decide +kernel
theorem d_M_broader_85 : decode b_M_broader 85 = .ok (.iconst 0, 1) := by decide +kernel
theorem d_M_broader_86 : decode b_M_broader 86 = .ok (.ireturn, 1) := by decide +kernel
theorem d_M_delete_0 : decode b_M_delete 0 = .ok (.aload_n 0, 1) := by decide +kernel
theorem d_M_delete_1 : decode b_M_delete 1 = .ok (.iconst 0, 1) := by decide +kernel
theorem d_M_delete_2 : decode b_M_delete 2 = .ok (.putfield 52, 3) := by decide +kernel
theorem d_M_delete_5 : decode b_M_delete 5 = .ok (.aload_n 0, 1) := by decide +kernel
theorem d_M_delete_6 : decode b_M_delete 6 = .ok (.iload_n 1, 1) := by decide +kernel
theorem d_M_delete_7 : decode b_M_delete 7 = .ok (.invokevirtual 91, 3) := by decide +kernel
theorem d_M_delete_10 : decode b_M_delete 10 = .ok (.ifCond .ne 5, 3) := by decide +kernel
theorem d_M_delete_13 : decode b_M_delete 13 = .ok (.iconst 0, 1) := by decide +kernel
theorem d_M_delete_14 : decode b_M_delete 14 = .ok (.ireturn, 1) := by decide +kernel
theorem d_M_delete_15 : decode b_M_delete 15 = .ok (.aload_n 0, 1) := by decide +kernel
theorem d_M_delete_16 : decode b_M_delete 16 = .ok (.iload_n 1, 1) := by decide +kernel
theorem d_M_delete_17 : decode b_M_delete 17 = .ok (.invokevirtual 94, 3) := by decide +kernel
theorem d_M_delete_20 : decode b_M_delete 20 = .ok (.istore_n 2, 1) := by decide +kernel
theorem d_M_delete_21 : decode b_M_delete 21 = .ok (.iload_n 2, 1) := by decide +kernel
theorem d_M_delete_22 : decode b_M_delete 22 = .ok (.ifCond .le 6, 3) := by decide +kernel
theorem d_M_delete_25 : decode b_M_delete 25 = .ok (.iload_n 2, 1) := by decide +kernel
theorem d_M_delete_26 : decode b_M_delete 26 = .ok (.ineg, 1) := by decide +kernel
theorem d_M_delete_27 : decode b_M_delete 27 = .ok (.ireturn, 1) := by decide +kernel
theorem d_M_delete_28 : decode b_M_delete 28 = .ok (.aload_n 0, 1) := by decide +kernel
theorem d_M_delete_29 : decode b_M_delete 29 = .ok (.getfield 17, 3) := by decide +kernel
theorem d_M_delete_32 : decode b_M_delete 32 = .ok (.iload_n 1, 1) := by decide +kernel
theorem d_M_delete_33 : decode b_M_delete 33 = .ok (.iconst 0, 1) := by decide +kernel
theorem d_M_delete_34 : decode b_M_delete 34 = .ok (.bastore, 1) := by decide +kernel
theorem d_M_delete_35 : decode b_M_delete 35 = .ok (.iconst 0, 1) := by decide +kernel
theorem d_M_delete_36 : decode b_M_delete 36 = .ok (.istore_n 3, 1) := by decide +kernel
theorem d_M_delete_37 : decode b_M_delete 37 = .ok (.iload_n 3, 1) := by decide +kernel
theorem d_M_delete_38 : decode b_M_delete 38 = .ok (.aload_n 0, 1) := by decide +kernel
theorem d_M_delete_39 : decode b_M_delete 39 = .ok (.getfield 97, 3) := by decide +kernel
theorem d_M_delete_42 : decode b_M_delete 42 = .ok (.if_icmp .ge 45, 3) := by decide +kernel
theorem d_M_delete_45 : decode b_M_delete 45 = .ok (.aload_n 0, 1) := by decide +kernel
theorem d_M_delete_46 : decode b_M_delete 46 = .ok (.getfield 27, 3) := by decide +kernel
theorem d_M_delete_49 : decode b_M_delete 49 = .ok (.iload_n 3, 1) := by decide +kernel
theorem d_M_delete_50 : decode b_M_delete 50 = .ok (.aload_n 0, 1) := by decide +kernel
theorem d_M_delete_51 : decode b_M_delete 51 = .ok (.getfield 30, 3) := by decide +kernel
theorem d_M_delete_54 : decode b_M_delete 54 = .ok (.iload_n 3, 1) := by decide +kernel
theorem d_M_delete_55 : decode b_M_delete 55 = .ok (.iaload, 1) := by decide +kernel
theorem d_M_delete_56 : decode b_M_delete 56 = .ok (.iload_n 1, 1) := by decide +kernel
theorem d_M_delete_57 : decode b_M_delete 57 = .ok (.if_icmp .eq 13, 3) := by decide +kernel
theorem d_M_delete_60 : decode b_M_delete 60 = .ok (.aload_n 0, 1) := by decide +kernel
theorem d_M_delete_61 : decode b_M_delete 61 = .ok (.getfield 33, 3) := by decide +kernel
theorem d_M_delete_64 : decode b_M_delete 64 = .ok (.iload_n 3, 1) := by decide +kernel
theorem d_M_delete_65 : decode b_M_delete 65 = .ok (.iaload, 1) := by decide +kernel
theorem d_M_delete_66 : decode b_M_delete 66 = .ok (.iload_n 1, 1) := by decide +kernel
theorem d_M_delete_67 : decode b_M_delete 67 = .ok (.if_icmp .ne 7, 3) := by decide +kernel
theorem d_M_delete_70 : decode b_M_delete 70 = .ok (.iconst (-1), 1) := by decide +kernel
theorem d_M_delete_71 : decode b_M_delete 71 = .ok (.goto 9, 3) := by decide +kernel
theorem d_M_delete_74 : decode b_M_delete 74 = .ok (.aload_n 0, 1) := by decide +kernel
theorem d_M_delete_75 : decode b_M_delete 75 = .ok (.getfield 27, 3) := by decide +kernel
theorem d_M_delete_78 : decode b_M_delete 78 = .ok (.iload_n 3, 1) := by decide +kernel
theorem d_M_delete_79 : decode b_M_delete 79 = .ok (.iaload, 1) := by decide +kernel
theorem d_M_delete_80 : decode b_M_delete 80 = .ok (.iastore, 1) := by decide +kernel
theorem d_M_delete_81 : decode b_M_delete 81 = .ok (.iinc 3 1, 3) := by decide +kernel
theorem d_M_delete_84 : decode b_M_delete 84 = .ok (.goto (-47), 3) := by decide +kernel
theorem d_M_delete_87 : decode b_M_delete 87 = .ok (.iconst 0, 1) := by decide +kernel
theorem d_M_delete_88 : decode b_M_delete 88 = .ok (.istore_n 3, 1) := by decide +kernel
theorem d_M_delete_89 : decode b_M_delete 89 = .ok (.iconst 0, 1) := by decide +kernel
theorem d_M_delete_90 : decode b_M_delete 90 = .ok (.istore 4, 2) := by decide +kernel
theorem d_M_delete_92 : decode b_M_delete 92 = .ok (.iload 4, 2) := by decide +kernel
theorem d_M_delete_94 : decode b_M_delete 94 = .ok (.aload_n 0, 1) := by decide +kernel
theorem d_M_delete_95 : decode b_M_delete 95 = .ok (.getfield 97, 3) := by decide +kernel
theorem d_M_delete_98 : decode b_M_delete 98 = .ok (.if_icmp .ge 75, 3) := by decide +kernel
theorem d_M_delete_101 : decode b_M_delete 101 = .ok (.aload_n 0, 1) := by decide +kernel
theorem d_M_delete_102 : decode b_M_delete 102 = .ok (.getfield 27, 3) := by decide +kernel
theorem d_M_delete_105 : decode b_M_delete 105 = .ok (.iload 4, 2) := by decide +kernel
theorem d_M_delete_107 : decode b_M_delete 107 = .ok (.iaload, 1) := by decide +kernel
theorem d_M_delete_108 : decode b_M_delete 108 = .ok (.iconst (-1), 1) := by decide +kernel
theorem d_M_delete_109 : decode b_M_delete 109 = .ok (.if_icmp .eq 58, 3) := by decide +kernel
theorem d_M_delete_112 : decode b_M_delete 112 = .ok (.aload_n 0, 1) := by decide +kernel
theorem d_M_delete_113 : decode b_M_delete 113 = .ok (.getfield 27, 3) := by decide +kernel
theorem d_M_delete_116 : decode b_M_delete 116 = .ok (.iload_n 3, 1) := by decide +kernel
theorem d_M_delete_117 : decode b_M_delete 117 = .ok (.aload_n 0, 1) := by decide +kernel
theorem d_M_delete_118 : decode b_M_delete 118 = .ok (.getfield 27, 3) := by decide +kernel
theorem d_M_delete_121 : decode b_M_delete 121 = .ok (.iload 4, 2) := by decide +kernel
theorem d_M_delete_123 : decode b_M_delete 123 = .ok (.iaload, 1) := by decide +kernel
theorem d_M_delete_124 : decode b_M_delete 124 = .ok (.iastore, 1) := by decide +kernel
theorem d_M_delete_125 : decode b_M_delete 125 = .ok (.aload_n 0, 1) := by decide +kernel
theorem d_M_delete_126 : decode b_M_delete 126 = .ok (.getfield 30, 3) := by decide +kernel
theorem d_M_delete_129 : decode b_M_delete 129 = .ok (.iload_n 3, 1) := by decide +kernel
theorem d_M_delete_130 : decode b_M_delete 130 = .ok (.aload_n 0, 1) := by decide +kernel
theorem d_M_delete_131 : decode b_M_delete 131 = .ok (.getfield 30, 3) := by decide +kernel
theorem d_M_delete_134 : decode b_M_delete 134 = .ok (.iload 4, 2) := by decide +kernel
theorem d_M_delete_136 : decode b_M_delete 136 = .ok (.iaload, 1) := by decide +kernel
theorem d_M_delete_137 : decode b_M_delete 137 = .ok (.iastore, 1) := by decide +kernel
theorem d_M_delete_138 : decode b_M_delete 138 = .ok (.aload_n 0, 1) := by decide +kernel
theorem d_M_delete_139 : decode b_M_delete 139 = .ok (.getfield 33, 3) := by decide +kernel
theorem d_M_delete_142 : decode b_M_delete 142 = .ok (.iload_n 3, 1) := by decide +kernel
theorem d_M_delete_143 : decode b_M_delete 143 = .ok (.aload_n 0, 1) := by decide +kernel
theorem d_M_delete_144 : decode b_M_delete 144 = .ok (.getfield 33, 3) := by decide +kernel
theorem d_M_delete_147 : decode b_M_delete 147 = .ok (.iload 4, 2) := by decide +kernel
theorem d_M_delete_149 : decode b_M_delete 149 = .ok (.iaload, 1) := by decide +kernel
theorem d_M_delete_150 : decode b_M_delete 150 = .ok (.iastore, 1) := by decide +kernel
theorem d_M_delete_151 : decode b_M_delete 151 = .ok (.aload_n 0, 1) := by decide +kernel
theorem d_M_delete_152 : decode b_M_delete 152 = .ok (.getfield 36, 3) := by decide +kernel
theorem d_M_delete_155 : decode b_M_delete 155 = .ok (.iload_n 3, 1) := by decide +kernel
theorem d_M_delete_156 : decode b_M_delete 156 = .ok (.aload_n 0, 1) := by decide +kernel
theorem d_M_delete_157 : decode b_M_delete 157 = .ok (.getfield 36, 3) := by decide +kernel
theorem d_M_delete_160 : decode b_M_delete 160 = .ok (.iload 4, 2) := by decide +kernel
theorem d_M_delete_162 : decode b_M_delete 162 = .ok (.laload, 1) := by decide +kernel
theorem d_M_delete_163 : decode b_M_delete 163 = .ok (.lastore, 1) := by decide +kernel
theorem d_M_delete_164 : decode b_M_delete 164 = .ok (.iinc 3 1, 3) := by decide +kernel
theorem d_M_delete_167 : decode b_M_delete 167 = .ok (.iinc 4 1, 3) := by decide +kernel
theorem d_M_delete_170 : decode b_M_delete 170 = .ok (.goto (-78), 3) := by decide +kernel
theorem d_M_delete_173 : decode b_M_delete 173 = .ok (.aload_n 0, 1) := by decide +kernel
theorem d_M_delete_174 : decode b_M_delete 174 = .ok (.iload_n 3, 1) := by decide +kernel
theorem d_M_delete_175 : decode b_M_delete 175 = .ok (.putfield 97, 3) := by decide +kernel
theorem d_M_delete_178 : decode b_M_delete 178 = .ok (.iconst 1, 1) := by decide +kernel
theorem d_M_delete_179 : decode b_M_delete 179 = .ok (.ireturn, 1) := by decide +kernel
theorem d_M_split_0 : decode b_M_split 0 = .ok (.aload_n 0, 1) := by decide +kernel
theorem d_M_split_1 : decode b_M_split 1 = .ok (.iconst 0, 1) := by decide +kernel
theorem d_M_split_2 : decode b_M_split 2 = .ok (.putfield 52, 3) := by decide +kernel
theorem d_M_split_5 : decode b_M_split 5 = .ok (.aload_n 0, 1) := by decide +kernel
theorem d_M_split_6 : decode b_M_split 6 = .ok (.invokevirtual 81, 3) := by decide +kernel
theorem d_M_split_9 : decode b_M_split 9 = .ok (.ifCond .ne 6, 3) := by decide +kernel
theorem d_M_split_12 : decode b_M_split 12 = .ok (.bipush (-99), 2) := by decide +kernel
theorem d_M_split_14 : decode b_M_split 14 = .ok (.ireturn, 1) := by decide +kernel
theorem d_M_split_15 : decode b_M_split 15 = .ok (.aload_n 0, 1) := by decide +kernel
theorem d_M_split_16 : decode b_M_split 16 = .ok (.iload_n 1, 1) := by decide +kernel
theorem d_M_split_17 : decode b_M_split 17 = .ok (.invokevirtual 91, 3) := by decide +kernel
theorem d_M_split_20 : decode b_M_split 20 = .ok (.ifCond .ne 5, 3) := by decide +kernel
theorem d_M_split_23 : decode b_M_split 23 = .ok (.iconst 0, 1) := by decide +kernel
theorem d_M_split_24 : decode b_M_split 24 = .ok (.ireturn, 1) := by decide +kernel
theorem d_M_split_25 : decode b_M_split 25 = .ok (.aload_n 0, 1) := by decide +kernel
theorem d_M_split_26 : decode b_M_split 26 = .ok (.aload_n 0, 1) := by decide +kernel
theorem d_M_split_27 : decode b_M_split 27 = .ok (.getfield 13, 3) := by decide +kernel
theorem d_M_split_30 : decode b_M_split 30 = .ok (.iload_n 1, 1) := by decide +kernel
theorem d_M_split_31 : decode b_M_split 31 = .ok (.iaload, 1) := by decide +kernel
theorem d_M_split_32 : decode b_M_split 32 = .ok (.invokevirtual 85, 3) := by decide +kernel
theorem d_M_split_35 : decode b_M_split 35 = .ok (.istore 4, 2) := by decide +kernel
theorem d_M_split_37 : decode b_M_split 37 = .ok (.iload 4, 2) := by decide +kernel
theorem d_M_split_39 : decode b_M_split 39 = .ok (.iconst 1, 1) := by decide +kernel
theorem d_M_split_40 : decode b_M_split 40 = .ok (.if_icmp .ge 6, 3) := by decide +kernel
theorem d_M_split_43 : decode b_M_split 43 = .ok (.iload 4, 2) := by decide +kernel
theorem d_M_split_45 : decode b_M_split 45 = .ok (.ireturn, 1) := by decide +kernel
theorem d_M_split_46 : decode b_M_split 46 = .ok (.aload_n 0, 1) := by decide +kernel
theorem d_M_split_47 : decode b_M_split 47 = .ok (.iconst 3, 1) := by decide +kernel
theorem d_M_split_48 : decode b_M_split 48 = .ok (.iload_n 1, 1) := by decide +kernel
theorem d_M_split_49 : decode b_M_split 49 = .ok (.iload 4, 2) := by decide +kernel
theorem d_M_split_51 : decode b_M_split 51 = .ok (.lload_n 2, 1) := by decide +kernel
theorem d_M_split_52 : decode b_M_split 52 = .ok (.invokevirtual 119, 3) := by decide +kernel
theorem d_M_split_55 : decode b_M_split 55 = .ok (.iconst 1, 1) := by decide +kernel
theorem d_M_split_56 : decode b_M_split 56 = .ok (.istore 5, 2) := by decide +kernel
theorem d_M_split_58 : decode b_M_split 58 = .ok (.iload 5, 2) := by decide +kernel
theorem d_M_split_60 : decode b_M_split 60 = .ok (.aload_n 0, 1) := by decide +kernel
theorem d_M_split_61 : decode b_M_split 61 = .ok (.getfield 88, 3) := by decide +kernel
theorem d_M_split_64 : decode b_M_split 64 = .ok (.if_icmp .gt 51, 3) := by decide +kernel
theorem d_M_split_67 : decode b_M_split 67 = .ok (.aload_n 0, 1) := by decide +kernel
theorem d_M_split_68 : decode b_M_split 68 = .ok (.getfield 40, 3) := by decide +kernel
theorem d_M_split_71 : decode b_M_split 71 = .ok (.iload 5, 2) := by decide +kernel
theorem d_M_split_73 : decode b_M_split 73 = .ok (.aload_n 0, 1) := by decide +kernel
theorem d_M_split_74 : decode b_M_split 74 = .ok (.getfield 40, 3) := by decide +kernel
theorem d_M_split_77 : decode b_M_split 77 = .ok (.iload 5, 2) := by decide +kernel
theorem d_M_split_79 : decode b_M_split 79 = .ok (.iaload, 1) := by decide +kernel
theorem d_M_split_80 : decode b_M_split 80 = .ok (.iload_n 1, 1) := by decide +kernel
theorem d_M_split_81 : decode b_M_split 81 = .ok (.if_icmp .ne 20, 3) := by decide +kernel
theorem d_M_split_84 : decode b_M_split 84 = .ok (.aload_n 0, 1) := by decide +kernel
theorem d_M_split_85 : decode b_M_split 85 = .ok (.getfield 43, 3) := by decide +kernel
theorem d_M_split_88 : decode b_M_split 88 = .ok (.iload 5, 2) := by decide +kernel
theorem d_M_split_90 : decode b_M_split 90 = .ok (.laload, 1) := by decide +kernel
theorem d_M_split_91 : decode b_M_split 91 = .ok (.lload_n 2, 1) := by decide +kernel
theorem d_M_split_92 : decode b_M_split 92 = .ok (.lcmp, 1) := by decide +kernel
theorem d_M_split_93 : decode b_M_split 93 = .ok (.ifCond .lt 8, 3) := by decide +kernel
theorem d_M_split_96 : decode b_M_split 96 = .ok (.iload 4, 2) := by decide +kernel
theorem d_M_split_98 : decode b_M_split 98 = .ok (.goto 10, 3) := by decide +kernel
theorem d_M_split_101 : decode b_M_split 101 = .ok (.aload_n 0, 1) := by decide +kernel
theorem d_M_split_102 : decode b_M_split 102 = .ok (.getfield 40, 3) := by decide +kernel
theorem d_M_split_105 : decode b_M_split 105 = .ok (.iload 5, 2) := by decide +kernel
theorem d_M_split_107 : decode b_M_split 107 = .ok (.iaload, 1) := by decide +kernel
theorem d_M_split_108 : decode b_M_split 108 = .ok (.iastore, 1) := by decide +kernel
theorem d_M_split_109 : decode b_M_split 109 = .ok (.iinc 5 1, 3) := by decide +kernel
theorem d_M_split_112 : decode b_M_split 112 = .ok (.goto (-54), 3) := by decide +kernel
theorem d_M_split_115 : decode b_M_split 115 = .ok (.iload 4, 2) := by decide +kernel
theorem d_M_split_117 : decode b_M_split 117 = .ok (.ireturn, 1) := by decide +kernel
theorem d_M_used_0 : decode b_M_used 0 = .ok (.iconst 0, 1) := by decide +kernel
theorem d_M_used_1 : decode b_M_used 1 = .ok (.istore_n 2, 1) := by decide +kernel
theorem d_M_used_2 : decode b_M_used 2 = .ok (.iload_n 2, 1) := by decide +kernel
theorem d_M_used_3 : decode b_M_used 3 = .ok (.aload_n 0, 1) := by decide +kernel
theorem d_M_used_4 : decode b_M_used 4 = .ok (.getfield 97, 3) := by decide +kernel
theorem d_M_used_7 : decode b_M_used 7 = .ok (.if_icmp .ge 27, 3) := by decide +kernel
theorem d_M_used_10 : decode b_M_used 10 = .ok (.aload_n 0, 1) := by decide +kernel
theorem d_M_used_11 : decode b_M_used 11 = .ok (.iload_n 2, 1) := by decide +kernel
theorem d_M_used_12 : decode b_M_used 12 = .ok (.iconst 0, 1) := by decide +kernel
theorem d_M_used_13 : decode b_M_used 13 = .ok (.iload_n 1, 1) := by decide +kernel
theorem d_M_used_14 : decode b_M_used 14 = .ok (.iconst 0, 1) := by decide +kernel
theorem d_M_used_15 : decode b_M_used 15 = .ok (.invokevirtual 100, 3) := by decide +kernel
theorem d_M_used_18 : decode b_M_used 18 = .ok (.ifCond .eq 10, 3) := by decide +kernel
theorem d_M_used_21 : decode b_M_used 21 = .ok (.aload_n 0, 1) := by decide +kernel
theorem d_M_used_22 : decode b_M_used 22 = .ok (.getfield 33, 3) := by decide +kernel
theorem d_M_used_25 : decode b_M_used 25 = .ok (.iload_n 2, 1) := by decide +kernel
theorem d_M_used_26 : decode b_M_used 26 = .ok (.iaload, 1) := by decide +kernel
theorem d_M_used_27 : decode b_M_used 27 = .ok (.ireturn, 1) := by decide +kernel
theorem d_M_used_28 : decode b_M_used 28 = .ok (.iinc 2 1, 3) := by decide +kernel
theorem d_M_used_31 : decode b_M_used 31 = .ok (.goto (-29), 3) := by decide +kernel
theorem d_M_used_34 : decode b_M_used 34 = .ok (.iload_n 1, 1) := by decide +kernel
theorem d_M_used_35 : decode b_M_used 35 = .ok (.ireturn, 1) := by decide +kernel
theorem d_M_formOf_0 : decode b_M_formOf 0 = .ok (.iload_n 1, 1) := by decide +kernel
theorem d_M_formOf_1 : decode b_M_formOf 1 = .ok (.istore 4, 2) := by decide +kernel
theorem d_M_formOf_3 : decode b_M_formOf 3 = .ok (.iconst 1, 1) := by decide +kernel
theorem d_M_formOf_4 : decode b_M_formOf 4 = .ok (.istore 5, 2) := by decide +kernel
theorem d_M_formOf_6 : decode b_M_formOf 6 = .ok (.iload 5, 2) := by decide +kernel
theorem d_M_formOf_8 : decode b_M_formOf 8 = .ok (.ifCond .eq 112, 3) := by decide +kernel
theorem d_M_formOf_11 : decode b_M_formOf 11 = .ok (.iconst (-1), 1) := by decide +kernel
theorem d_M_formOf_12 : decode b_M_formOf 12 = .ok (.istore 6, 2) := by decide +kernel
theorem d_M_formOf_14 : decode b_M_formOf 14 = .ok (.iconst 0, 1) := by decide +kernel
theorem d_M_formOf_15 : decode b_M_formOf 15 = .ok (.istore 7, 2) := by decide +kernel
theorem d_M_formOf_17 : decode b_M_formOf 17 = .ok (.iload 7, 2) := by decide +kernel
theorem d_M_formOf_19 : decode b_M_formOf 19 = .ok (.aload_n 0, 1) := by decide +kernel
theorem d_M_formOf_20 : decode b_M_formOf 20 = .ok (.getfield 97, 3) := by decide +kernel
theorem d_M_formOf_23 : decode b_M_formOf 23 = .ok (.if_icmp .ge 62, 3) := by decide +kernel
theorem d_M_formOf_26 : decode b_M_formOf 26 = .ok (.aload_n 0, 1) := by decide +kernel
theorem d_M_formOf_27 : decode b_M_formOf 27 = .ok (.iload 7, 2) := by decide +kernel
theorem d_M_formOf_29 : decode b_M_formOf 29 = .ok (.iconst 3, 1) := by decide +kernel
theorem d_M_formOf_30 : decode b_M_formOf 30 = .ok (.iload 4, 2) := by decide +kernel
theorem d_M_formOf_32 : decode b_M_formOf 32 = .ok (.iconst 0, 1) := by decide +kernel
theorem d_M_formOf_33 : decode b_M_formOf 33 = .ok (.invokevirtual 100, 3) := by decide +kernel
theorem d_M_formOf_36 : decode b_M_formOf 36 = .ok (.ifCond .eq 43, 3) := by decide +kernel
theorem d_M_formOf_39 : decode b_M_formOf 39 = .ok (.aload_n 0, 1) := by decide +kernel
theorem d_M_formOf_40 : decode b_M_formOf 40 = .ok (.getfield 36, 3) := by decide +kernel
theorem d_M_formOf_43 : decode b_M_formOf 43 = .ok (.iload 7, 2) := by decide +kernel
theorem d_M_formOf_45 : decode b_M_formOf 45 = .ok (.laload, 1) := by decide +kernel
theorem d_M_formOf_46 : decode b_M_formOf 46 = .ok (.lload_n 2, 1) := by decide +kernel
theorem d_M_formOf_47 : decode b_M_formOf 47 = .ok (.lcmp, 1) := by decide +kernel
theorem d_M_formOf_48 : decode b_M_formOf 48 = .ok (.ifCond .gt 31, 3) := by decide +kernel
theorem d_M_formOf_51 : decode b_M_formOf 51 = .ok (.iload 6, 2) := by decide +kernel
theorem d_M_formOf_53 : decode b_M_formOf 53 = .ok (.iconst (-1), 1) := by decide +kernel
theorem d_M_formOf_54 : decode b_M_formOf 54 = .ok (.if_icmp .eq 21, 3) := by decide +kernel
theorem d_M_formOf_57 : decode b_M_formOf 57 = .ok (.aload_n 0, 1) := by decide +kernel
theorem d_M_formOf_58 : decode b_M_formOf 58 = .ok (.getfield 36, 3) := by decide +kernel
theorem d_M_formOf_61 : decode b_M_formOf 61 = .ok (.iload 7, 2) := by decide +kernel
theorem d_M_formOf_63 : decode b_M_formOf 63 = .ok (.laload, 1) := by decide +kernel
theorem d_M_formOf_64 : decode b_M_formOf 64 = .ok (.aload_n 0, 1) := by decide +kernel
theorem d_M_formOf_65 : decode b_M_formOf 65 = .ok (.getfield 36, 3) := by decide +kernel
theorem d_M_formOf_68 : decode b_M_formOf 68 = .ok (.iload 6, 2) := by decide +kernel
theorem d_M_formOf_70 : decode b_M_formOf 70 = .ok (.laload, 1) := by decide +kernel
theorem d_M_formOf_71 : decode b_M_formOf 71 = .ok (.lcmp, 1) := by decide +kernel
theorem d_M_formOf_72 : decode b_M_formOf 72 = .ok (.ifCond .le 7, 3) := by decide +kernel
theorem d_M_formOf_75 : decode b_M_formOf 75 = .ok (.iload 7, 2) := by decide +kernel
theorem d_M_formOf_77 : decode b_M_formOf 77 = .ok (.istore 6, 2) := by decide +kernel
theorem d_M_formOf_79 : decode b_M_formOf 79 = .ok (.iinc 7 1, 3) := by decide +kernel
theorem d_M_formOf_82 : decode b_M_formOf 82 = .ok (.goto (-65), 3) := by decide +kernel
theorem d_M_formOf_85 : decode b_M_formOf 85 = .ok (.iload 6, 2) := by decide +kernel
theorem d_M_formOf_87 : decode b_M_formOf 87 = .ok (.iconst (-1), 1) := by decide +kernel
end
section
theorem d_M_formOf_88 : decode b_M_formOf 88 = .ok (.if_icmp .eq 7, 3) := by decide +kernel
theorem d_M_formOf_91 : decode b_M_formOf 91 = .ok (.iconst 1, 1) := by decide +kernel
theorem d_M_formOf_92 : decode b_M_formOf 92 = .ok (.goto 4, 3) := by decide +kernel
theorem d_M_formOf_95 : decode b_M_formOf 95 = .ok (.iconst 0, 1) := by decide +kernel
theorem d_M_formOf_96 : decode b_M_formOf 96 = .ok (.istore 5, 2) := by decide +kernel
theorem d_M_formOf_98 : decode b_M_formOf 98 = .ok (.iload 5, 2) := by decide +kernel
theorem d_M_formOf_100 : decode b_M_formOf 100 = .ok (.ifCond .eq 13, 3) := by decide +kernel
theorem d_M_formOf_103 : decode b_M_formOf 103 = .ok (.aload_n 0, 1) := by decide +kernel
theorem d_M_formOf_104 : decode b_M_formOf 104 = .ok (.getfield 33, 3) := by decide +kernel
theorem d_M_formOf_107 : decode b_M_formOf 107 = .ok (.iload 6, 2) := by decide +kernel
theorem d_M_formOf_109 : decode b_M_formOf 109 = .ok (.iaload, 1) := by decide +kernel
theorem d_M_formOf_110 : decode b_M_formOf 110 = .ok (.goto 5, 3) := by decide +kernel
theorem d_M_formOf_113 : decode b_M_formOf 113 = .ok (.iload 4, 2) := by decide +kernel
theorem d_M_formOf_115 : decode b_M_formOf 115 = .ok (.istore 4, 2) := by decide +kernel
theorem d_M_formOf_117 : decode b_M_formOf 117 = .ok (.goto (-111), 3) := by decide +kernel
theorem d_M_formOf_120 : decode b_M_formOf 120 = .ok (.iload 4, 2) := by decide +kernel
theorem d_M_formOf_122 : decode b_M_formOf 122 = .ok (.ireturn, 1) := by decide +kernel
theorem d_M_form_0 : decode b_M_form 0 = .ok (.aload_n 0, 1) := by decide +kernel
theorem d_M_form_1 : decode b_M_form 1 = .ok (.iconst 0, 1) := by decide +kernel
theorem d_M_form_2 : decode b_M_form 2 = .ok (.putfield 52, 3) := by decide +kernel
theorem d_M_form_5 : decode b_M_form 5 = .ok (.aload_n 0, 1) := by decide +kernel
theorem d_M_form_6 : decode b_M_form 6 = .ok (.iload_n 1, 1) := by decide +kernel
theorem d_M_form_7 : decode b_M_form 7 = .ok (.invokevirtual 91, 3) := by decide +kernel
theorem d_M_form_10 : decode b_M_form 10 = .ok (.ifCond .eq 12, 3) := by decide +kernel
theorem d_M_form_13 : decode b_M_form 13 = .ok (.aload_n 0, 1) := by decide +kernel
theorem d_M_form_14 : decode b_M_form 14 = .ok (.iload_n 1, 1) := by decide +kernel
theorem d_M_form_15 : decode b_M_form 15 = .ok (.lload_n 2, 1) := by decide +kernel
theorem d_M_form_16 : decode b_M_form 16 = .ok (.invokevirtual 123, 3) := by decide +kernel
theorem d_M_form_19 : decode b_M_form 19 = .ok (.goto 4, 3) := by decide +kernel
theorem d_M_form_22 : decode b_M_form 22 = .ok (.iconst 0, 1) := by decide +kernel
theorem d_M_form_23 : decode b_M_form 23 = .ok (.ireturn, 1) := by decide +kernel
theorem d_M_shown_0 : decode b_M_shown 0 = .ok (.aload_n 0, 1) := by decide +kernel
theorem d_M_shown_1 : decode b_M_shown 1 = .ok (.iconst 0, 1) := by decide +kernel
theorem d_M_shown_2 : decode b_M_shown 2 = .ok (.putfield 52, 3) := by decide +kernel
theorem d_M_shown_5 : decode b_M_shown 5 = .ok (.aload_n 0, 1) := by decide +kernel
theorem d_M_shown_6 : decode b_M_shown 6 = .ok (.iload_n 1, 1) := by decide +kernel
theorem d_M_shown_7 : decode b_M_shown 7 = .ok (.invokevirtual 91, 3) := by decide +kernel
theorem d_M_shown_10 : decode b_M_shown 10 = .ok (.ifCond .eq 16, 3) := by decide +kernel
theorem d_M_shown_13 : decode b_M_shown 13 = .ok (.aload_n 0, 1) := by decide +kernel
theorem d_M_shown_14 : decode b_M_shown 14 = .ok (.aload_n 0, 1) := by decide +kernel
theorem d_M_shown_15 : decode b_M_shown 15 = .ok (.iload_n 1, 1) := by decide +kernel
theorem d_M_shown_16 : decode b_M_shown 16 = .ok (.invokevirtual 127, 3) := by decide +kernel
theorem d_M_shown_19 : decode b_M_shown 19 = .ok (.lload_n 2, 1) := by decide +kernel
theorem d_M_shown_20 : decode b_M_shown 20 = .ok (.invokevirtual 123, 3) := by decide +kernel
theorem d_M_shown_23 : decode b_M_shown 23 = .ok (.goto 4, 3) := by decide +kernel
theorem d_M_shown_26 : decode b_M_shown 26 = .ok (.iconst 0, 1) := by decide +kernel
theorem d_M_shown_27 : decode b_M_shown 27 = .ok (.ireturn, 1) := by decide +kernel
theorem d_M_record_0 : decode b_M_record 0 = .ok (.aload_n 0, 1) := by decide +kernel
theorem d_M_record_1 : decode b_M_record 1 = .ok (.iconst 0, 1) := by decide +kernel
theorem d_M_record_2 : decode b_M_record 2 = .ok (.putfield 52, 3) := by decide +kernel
theorem d_M_record_5 : decode b_M_record 5 = .ok (.aload_n 0, 1) := by decide +kernel
theorem d_M_record_6 : decode b_M_record 6 = .ok (.iload_n 1, 1) := by decide +kernel
theorem d_M_record_7 : decode b_M_record 7 = .ok (.invokevirtual 91, 3) := by decide +kernel
theorem d_M_record_10 : decode b_M_record 10 = .ok (.ifCond .eq 12, 3) := by decide +kernel
theorem d_M_record_13 : decode b_M_record 13 = .ok (.aload_n 0, 1) := by decide +kernel
theorem d_M_record_14 : decode b_M_record 14 = .ok (.getfield 88, 3) := by decide +kernel
theorem d_M_record_17 : decode b_M_record 17 = .ok (.bipush 60, 2) := by decide +kernel
theorem d_M_record_19 : decode b_M_record 19 = .ok (.if_icmp .ne 5, 3) := by decide +kernel
theorem d_M_record_22 : decode b_M_record 22 = .ok (.iconst 0, 1) := by decide +kernel
theorem d_M_record_23 : decode b_M_record 23 = .ok (.ireturn, 1) := by decide +kernel
theorem d_M_record_24 : decode b_M_record 24 = .ok (.aload_n 0, 1) := by decide +kernel
theorem d_M_record_25 : decode b_M_record 25 = .ok (.dup, 1) := by decide +kernel
theorem d_M_record_26 : decode b_M_record 26 = .ok (.getfield 88, 3) := by decide +kernel
theorem d_M_record_29 : decode b_M_record 29 = .ok (.iconst 1, 1) := by decide +kernel
theorem d_M_record_30 : decode b_M_record 30 = .ok (.iadd, 1) := by decide +kernel
theorem d_M_record_31 : decode b_M_record 31 = .ok (.putfield 88, 3) := by decide +kernel
theorem d_M_record_34 : decode b_M_record 34 = .ok (.aload_n 0, 1) := by decide +kernel
theorem d_M_record_35 : decode b_M_record 35 = .ok (.getfield 40, 3) := by decide +kernel
theorem d_M_record_38 : decode b_M_record 38 = .ok (.aload_n 0, 1) := by decide +kernel
theorem d_M_record_39 : decode b_M_record 39 = .ok (.getfield 88, 3) := by decide +kernel
theorem d_M_record_42 : decode b_M_record 42 = .ok (.aload_n 0, 1) := by decide +kernel
theorem d_M_record_43 : decode b_M_record 43 = .ok (.iload_n 1, 1) := by decide +kernel
theorem d_M_record_44 : decode b_M_record 44 = .ok (.invokevirtual 127, 3) := by decide +kernel
theorem d_M_record_47 : decode b_M_record 47 = .ok (.iastore, 1) := by decide +kernel
theorem d_M_record_48 : decode b_M_record 48 = .ok (.aload_n 0, 1) := by decide +kernel
theorem d_M_record_49 : decode b_M_record 49 = .ok (.getfield 43, 3) := by decide +kernel
theorem d_M_record_52 : decode b_M_record 52 = .ok (.aload_n 0, 1) := by decide +kernel
theorem d_M_record_53 : decode b_M_record 53 = .ok (.getfield 88, 3) := by decide +kernel
theorem d_M_record_56 : decode b_M_record 56 = .ok (.lload_n 2, 1) := by decide +kernel
theorem d_M_record_57 : decode b_M_record 57 = .ok (.lastore, 1) := by decide +kernel
theorem d_M_record_58 : decode b_M_record 58 = .ok (.aload_n 0, 1) := by decide +kernel
theorem d_M_record_59 : decode b_M_record 59 = .ok (.getfield 88, 3) := by decide +kernel
theorem d_M_record_62 : decode b_M_record 62 = .ok (.ireturn, 1) := by decide +kernel
theorem d_M_linked_0 : decode b_M_linked 0 = .ok (.aload_n 0, 1) := by decide +kernel
theorem d_M_linked_1 : decode b_M_linked 1 = .ok (.iconst 0, 1) := by decide +kernel
theorem d_M_linked_2 : decode b_M_linked 2 = .ok (.putfield 52, 3) := by decide +kernel
theorem d_M_linked_5 : decode b_M_linked 5 = .ok (.iload_n 1, 1) := by decide +kernel
theorem d_M_linked_6 : decode b_M_linked 6 = .ok (.ifCond .le 20, 3) := by decide +kernel
theorem d_M_linked_9 : decode b_M_linked 9 = .ok (.iload_n 1, 1) := by decide +kernel
theorem d_M_linked_10 : decode b_M_linked 10 = .ok (.aload_n 0, 1) := by decide +kernel
theorem d_M_linked_11 : decode b_M_linked 11 = .ok (.getfield 88, 3) := by decide +kernel
theorem d_M_linked_14 : decode b_M_linked 14 = .ok (.if_icmp .gt 12, 3) := by decide +kernel
theorem d_M_linked_17 : decode b_M_linked 17 = .ok (.aload_n 0, 1) := by decide +kernel
theorem d_M_linked_18 : decode b_M_linked 18 = .ok (.getfield 40, 3) := by decide +kernel
theorem d_M_linked_21 : decode b_M_linked 21 = .ok (.iload_n 1, 1) := by decide +kernel
theorem d_M_linked_22 : decode b_M_linked 22 = .ok (.iaload, 1) := by decide +kernel
theorem d_M_linked_23 : decode b_M_linked 23 = .ok (.goto 4, 3) := by decide +kernel
theorem d_M_linked_26 : decode b_M_linked 26 = .ok (.iconst 0, 1) := by decide +kernel
theorem d_M_linked_27 : decode b_M_linked 27 = .ok (.ireturn, 1) := by decide +kernel
theorem d_C_init_0 : decode b_C_init 0 = .ok (.aload_n 0, 1) := by decide +kernel
theorem d_C_init_1 : decode b_C_init 1 = .ok (.invokespecial 3, 3) := by decide +kernel
theorem d_C_init_4 : decode b_C_init 4 = .ok (.aload_n 0, 1) := by decide +kernel
theorem d_C_init_5 : decode b_C_init 5 = .ok (.bipush 40, 2) := by decide +kernel
theorem d_C_init_7 : decode b_C_init 7 = .ok (.newarray .char, 2) := by decide +kernel
theorem d_C_init_9 : decode b_C_init 9 = .ok (.putfield 9, 3) := by decide +kernel
theorem d_C_init_12 : decode b_C_init 12 = .ok (.aload_n 0, 1) := by decide +kernel
theorem d_C_init_13 : decode b_C_init 13 = .ok (.iconst 0, 1) := by decide +kernel
theorem d_C_init_14 : decode b_C_init 14 = .ok (.putfield 15, 3) := by decide +kernel
theorem d_C_init_17 : decode b_C_init 17 = .ok (.return_, 1) := by decide +kernel
theorem d_C_add_0 : decode b_C_add 0 = .ok (.aload_n 0, 1) := by decide +kernel
theorem d_C_add_1 : decode b_C_add 1 = .ok (.getfield 15, 3) := by decide +kernel
theorem d_C_add_4 : decode b_C_add 4 = .ok (.bipush 40, 2) := by decide +kernel
theorem d_C_add_6 : decode b_C_add 6 = .ok (.if_icmp .ge 23, 3) := by decide +kernel
theorem d_C_add_9 : decode b_C_add 9 = .ok (.aload_n 0, 1) := by decide +kernel
theorem d_C_add_10 : decode b_C_add 10 = .ok (.getfield 9, 3) := by decide +kernel
theorem d_C_add_13 : decode b_C_add 13 = .ok (.aload_n 0, 1) := by decide +kernel
theorem d_C_add_14 : decode b_C_add 14 = .ok (.getfield 15, 3) := by decide +kernel
theorem d_C_add_17 : decode b_C_add 17 = .ok (.iload_n 1, 1) := by decide +kernel
theorem d_C_add_18 : decode b_C_add 18 = .ok (.castore, 1) := by decide +kernel
theorem d_C_add_19 : decode b_C_add 19 = .ok (.aload_n 0, 1) := by decide +kernel
theorem d_C_add_20 : decode b_C_add 20 = .ok (.dup, 1) := by decide +kernel
theorem d_C_add_21 : decode b_C_add 21 = .ok (.getfield 15, 3) := by decide +kernel
theorem d_C_add_24 : decode b_C_add 24 = .ok (.iconst 1, 1) := by decide +kernel
theorem d_C_add_25 : decode b_C_add 25 = .ok (.iadd, 1) := by decide +kernel
theorem d_C_add_26 : decode b_C_add 26 = .ok (.putfield 15, 3) := by decide +kernel
theorem d_C_add_29 : decode b_C_add 29 = .ok (.return_, 1) := by decide +kernel
theorem d_C_moveTo_0 : decode b_C_moveTo 0 = .ok (.aload_n 0, 1) := by decide +kernel
theorem d_C_moveTo_1 : decode b_C_moveTo 1 = .ok (.getfield 15, 3) := by decide +kernel
theorem d_C_moveTo_4 : decode b_C_moveTo 4 = .ok (.istore_n 2, 1) := by decide +kernel
theorem d_C_moveTo_5 : decode b_C_moveTo 5 = .ok (.aload_n 0, 1) := by decide +kernel
theorem d_C_moveTo_6 : decode b_C_moveTo 6 = .ok (.iconst 0, 1) := by decide +kernel
theorem d_C_moveTo_7 : decode b_C_moveTo 7 = .ok (.putfield 15, 3) := by decide +kernel
theorem d_C_moveTo_10 : decode b_C_moveTo 10 = .ok (.iload_n 2, 1) := by decide +kernel
theorem d_C_moveTo_11 : decode b_C_moveTo 11 = .ok (.iconst 1, 1) := by decide +kernel
theorem d_C_moveTo_12 : decode b_C_moveTo 12 = .ok (.if_icmp .lt 9, 3) := by decide +kernel
theorem d_C_moveTo_15 : decode b_C_moveTo 15 = .ok (.iload_n 2, 1) := by decide +kernel
theorem d_C_moveTo_16 : decode b_C_moveTo 16 = .ok (.bipush 20, 2) := by decide +kernel
theorem d_C_moveTo_18 : decode b_C_moveTo 18 = .ok (.if_icmp .le 5, 3) := by decide +kernel
theorem d_C_moveTo_21 : decode b_C_moveTo 21 = .ok (.iconst 0, 1) := by decide +kernel
theorem d_C_moveTo_22 : decode b_C_moveTo 22 = .ok (.ireturn, 1) := by decide +kernel
theorem d_C_moveTo_23 : decode b_C_moveTo 23 = .ok (.aload_n 1, 1) := by decide +kernel
theorem d_C_moveTo_24 : decode b_C_moveTo 24 = .ok (.invokevirtual 19, 3) := by decide +kernel
theorem d_C_moveTo_27 : decode b_C_moveTo 27 = .ok (.iconst 0, 1) := by decide +kernel
theorem d_C_moveTo_28 : decode b_C_moveTo 28 = .ok (.istore_n 3, 1) := by decide +kernel
theorem d_C_moveTo_29 : decode b_C_moveTo 29 = .ok (.iload_n 3, 1) := by decide +kernel
theorem d_C_moveTo_30 : decode b_C_moveTo 30 = .ok (.iload_n 2, 1) := by decide +kernel
theorem d_C_moveTo_31 : decode b_C_moveTo 31 = .ok (.if_icmp .ge 33, 3) := by decide +kernel
theorem d_C_moveTo_34 : decode b_C_moveTo 34 = .ok (.aload_n 0, 1) := by decide +kernel
theorem d_C_moveTo_35 : decode b_C_moveTo 35 = .ok (.getfield 9, 3) := by decide +kernel
theorem d_C_moveTo_38 : decode b_C_moveTo 38 = .ok (.iload_n 3, 1) := by decide +kernel
theorem d_C_moveTo_39 : decode b_C_moveTo 39 = .ok (.caload, 1) := by decide +kernel
theorem d_C_moveTo_40 : decode b_C_moveTo 40 = .ok (.invokestatic 24, 3) := by decide +kernel
theorem d_C_moveTo_43 : decode b_C_moveTo 43 = .ok (.ifCond .ne 5, 3) := by decide +kernel
theorem d_C_moveTo_46 : decode b_C_moveTo 46 = .ok (.iconst 0, 1) := by decide +kernel
theorem d_C_moveTo_47 : decode b_C_moveTo 47 = .ok (.ireturn, 1) := by decide +kernel
theorem d_C_moveTo_48 : decode b_C_moveTo 48 = .ok (.aload_n 1, 1) := by decide +kernel
theorem d_C_moveTo_49 : decode b_C_moveTo 49 = .ok (.aload_n 0, 1) := by decide +kernel
theorem d_C_moveTo_50 : decode b_C_moveTo 50 = .ok (.getfield 9, 3) := by decide +kernel
theorem d_C_moveTo_53 : decode b_C_moveTo 53 = .ok (.iload_n 3, 1) := by decide +kernel
theorem d_C_moveTo_54 : decode b_C_moveTo 54 = .ok (.caload, 1) := by decide +kernel
theorem d_C_moveTo_55 : decode b_C_moveTo 55 = .ok (.invokevirtual 28, 3) := by decide +kernel
theorem d_C_moveTo_58 : decode b_C_moveTo 58 = .ok (.iinc 3 1, 3) := by decide +kernel
theorem d_C_moveTo_61 : decode b_C_moveTo 61 = .ok (.goto (-32), 3) := by decide +kernel
theorem d_C_moveTo_64 : decode b_C_moveTo 64 = .ok (.iconst 1, 1) := by decide +kernel
theorem d_C_moveTo_65 : decode b_C_moveTo 65 = .ok (.ireturn, 1) := by decide +kernel
theorem d_C_isLetterOrDigit_0 : decode b_C_isLetterOrDigit 0 = .ok (.iload_n 0, 1) := by decide +kernel
theorem d_C_isLetterOrDigit_1 : decode b_C_isLetterOrDigit 1 = .ok (.bipush 97, 2) := by decide +kernel
theorem d_C_isLetterOrDigit_3 : decode b_C_isLetterOrDigit 3 = .ok (.if_icmp .lt 9, 3) := by decide +kernel
theorem d_C_isLetterOrDigit_6 : decode b_C_isLetterOrDigit 6 = .ok (.iload_n 0, 1) := by decide +kernel
theorem d_C_isLetterOrDigit_7 : decode b_C_isLetterOrDigit 7 = .ok (.bipush 122, 2) := by decide +kernel
theorem d_C_isLetterOrDigit_9 : decode b_C_isLetterOrDigit 9 = .ok (.if_icmp .le 27, 3) := by decide +kernel
theorem d_C_isLetterOrDigit_12 : decode b_C_isLetterOrDigit 12 = .ok (.iload_n 0, 1) := by decide +kernel
theorem d_C_isLetterOrDigit_13 : decode b_C_isLetterOrDigit 13 = .ok (.bipush 65, 2) := by decide +kernel
theorem d_C_isLetterOrDigit_15 : decode b_C_isLetterOrDigit 15 = .ok (.if_icmp .lt 9, 3) := by decide +kernel
theorem d_C_isLetterOrDigit_18 : decode b_C_isLetterOrDigit 18 = .ok (.iload_n 0, 1) := by decide +kernel
theorem d_C_isLetterOrDigit_19 : decode b_C_isLetterOrDigit 19 = .ok (.bipush 90, 2) := by decide +kernel
theorem d_C_isLetterOrDigit_21 : decode b_C_isLetterOrDigit 21 = .ok (.if_icmp .le 15, 3) := by decide +kernel
theorem d_C_isLetterOrDigit_24 : decode b_C_isLetterOrDigit 24 = .ok (.iload_n 0, 1) := by decide +kernel
theorem d_C_isLetterOrDigit_25 : decode b_C_isLetterOrDigit 25 = .ok (.bipush 48, 2) := by decide +kernel
theorem d_C_isLetterOrDigit_27 : decode b_C_isLetterOrDigit 27 = .ok (.if_icmp .lt 13, 3) := by decide +kernel
theorem d_C_isLetterOrDigit_30 : decode b_C_isLetterOrDigit 30 = .ok (.iload_n 0, 1) := by decide +kernel
theorem d_C_isLetterOrDigit_31 : decode b_C_isLetterOrDigit 31 = .ok (.bipush 57, 2) := by decide +kernel
theorem d_C_isLetterOrDigit_33 : decode b_C_isLetterOrDigit 33 = .ok (.if_icmp .gt 7, 3) := by decide +kernel
theorem d_C_isLetterOrDigit_36 : decode b_C_isLetterOrDigit 36 = .ok (.iconst 1, 1) := by decide +kernel
theorem d_C_isLetterOrDigit_37 : decode b_C_isLetterOrDigit 37 = .ok (.goto 4, 3) := by decide +kernel
theorem d_C_isLetterOrDigit_40 : decode b_C_isLetterOrDigit 40 = .ok (.iconst 0, 1) := by decide +kernel
theorem d_C_isLetterOrDigit_41 : decode b_C_isLetterOrDigit 41 = .ok (.ireturn, 1) := by decide +kernel
theorem d_H_init_0 : decode b_H_init 0 = .ok (.aload_n 0, 1) := by decide +kernel
theorem d_H_init_1 : decode b_H_init 1 = .ok (.invokespecial 3, 3) := by decide +kernel
theorem d_H_init_4 : decode b_H_init 4 = .ok (.aload_n 0, 1) := by decide +kernel
theorem d_H_init_5 : decode b_H_init 5 = .ok (.bipush 61, 2) := by decide +kernel
theorem d_H_init_7 : decode b_H_init 7 = .ok (.newarray .int, 2) := by decide +kernel
theorem d_H_init_9 : decode b_H_init 9 = .ok (.putfield 9, 3) := by decide +kernel
theorem d_H_init_12 : decode b_H_init 12 = .ok (.aload_n 0, 1) := by decide +kernel
theorem d_H_init_13 : decode b_H_init 13 = .ok (.bipush 61, 2) := by decide +kernel
theorem d_H_init_15 : decode b_H_init 15 = .ok (.newarray .boolean, 2) := by decide +kernel
theorem d_H_init_17 : decode b_H_init 17 = .ok (.putfield 15, 3) := by decide +kernel
theorem d_H_init_20 : decode b_H_init 20 = .ok (.aload_n 0, 1) := by decide +kernel
theorem d_H_init_21 : decode b_H_init 21 = .ok (.sipush 1220, 3) := by decide +kernel
theorem d_H_init_24 : decode b_H_init 24 = .ok (.newarray .char, 2) := by decide +kernel
theorem d_H_init_26 : decode b_H_init 26 = .ok (.putfield 19, 3) := by decide +kernel
theorem d_H_init_29 : decode b_H_init 29 = .ok (.aload_n 0, 1) := by decide +kernel
theorem d_H_init_30 : decode b_H_init 30 = .ok (.bipush 61, 2) := by decide +kernel
theorem d_H_init_32 : decode b_H_init 32 = .ok (.newarray .int, 2) := by decide +kernel
theorem d_H_init_34 : decode b_H_init 34 = .ok (.putfield 23, 3) := by decide +kernel
theorem d_H_init_37 : decode b_H_init 37 = .ok (.aload_n 0, 1) := by decide +kernel
theorem d_H_init_38 : decode b_H_init 38 = .ok (.iconst 0, 1) := by decide +kernel
theorem d_H_init_39 : decode b_H_init 39 = .ok (.putfield 26, 3) := by decide +kernel
theorem d_H_init_42 : decode b_H_init 42 = .ok (.return_, 1) := by decide +kernel
theorem d_H_isFull_0 : decode b_H_isFull 0 = .ok (.aload_n 0, 1) := by decide +kernel
theorem d_H_isFull_1 : decode b_H_isFull 1 = .ok (.getfield 26, 3) := by decide +kernel
theorem d_H_isFull_4 : decode b_H_isFull 4 = .ok (.bipush 60, 2) := by decide +kernel
theorem d_H_isFull_6 : decode b_H_isFull 6 = .ok (.if_icmp .lt 7, 3) := by decide +kernel
theorem d_H_isFull_9 : decode b_H_isFull 9 = .ok (.iconst 1, 1) := by decide +kernel
theorem d_H_isFull_10 : decode b_H_isFull 10 = .ok (.goto 4, 3) := by decide +kernel
theorem d_H_isFull_13 : decode b_H_isFull 13 = .ok (.iconst 0, 1) := by decide +kernel
theorem d_H_isFull_14 : decode b_H_isFull 14 = .ok (.ireturn, 1) := by decide +kernel
theorem d_H_isThere_0 : decode b_H_isThere 0 = .ok (.iload_n 1, 1) := by decide +kernel
theorem d_H_isThere_1 : decode b_H_isThere 1 = .ok (.iconst 1, 1) := by decide +kernel
theorem d_H_isThere_2 : decode b_H_isThere 2 = .ok (.if_icmp .lt 15, 3) := by decide +kernel
theorem d_H_isThere_5 : decode b_H_isThere 5 = .ok (.iload_n 1, 1) := by decide +kernel
theorem d_H_isThere_6 : decode b_H_isThere 6 = .ok (.aload_n 0, 1) := by decide +kernel
theorem d_H_isThere_7 : decode b_H_isThere 7 = .ok (.getfield 26, 3) := by decide +kernel
theorem d_H_isThere_10 : decode b_H_isThere 10 = .ok (.if_icmp .gt 7, 3) := by decide +kernel
theorem d_H_isThere_13 : decode b_H_isThere 13 = .ok (.iconst 1, 1) := by decide +kernel
theorem d_H_isThere_14 : decode b_H_isThere 14 = .ok (.goto 4, 3) := by decide +kernel
theorem d_H_isThere_17 : decode b_H_isThere 17 = .ok (.iconst 0, 1) := by decide +kernel
theorem d_H_isThere_18 : decode b_H_isThere 18 = .ok (.ireturn, 1) := by decide +kernel
theorem d_H_isLive_0 : decode b_H_isLive 0 = .ok (.aload_n 0, 1) := by decide +kernel
theorem d_H_isLive_1 : decode b_H_isLive 1 = .ok (.iload_n 1, 1) := by decide +kernel
theorem d_H_isLive_2 : decode b_H_isLive 2 = .ok (.invokevirtual 30, 3) := by decide +kernel
theorem d_H_isLive_5 : decode b_H_isLive 5 = .ok (.ifCond .eq 16, 3) := by decide +kernel
theorem d_H_isLive_8 : decode b_H_isLive 8 = .ok (.aload_n 0, 1) := by decide +kernel
theorem d_H_isLive_9 : decode b_H_isLive 9 = .ok (.getfield 15, 3) := by decide +kernel
theorem d_H_isLive_12 : decode b_H_isLive 12 = .ok (.iload_n 1, 1) := by decide +kernel
theorem d_H_isLive_13 : decode b_H_isLive 13 = .ok (.baload, 1) := by decide +kernel
theorem d_H_isLive_14 : decode b_H_isLive 14 = .ok (.ifCond .eq 7, 3) := by decide +kernel
theorem d_H_isLive_17 : decode b_H_isLive 17 = .ok (.iconst 1, 1) := by decide +kernel
theorem d_H_isLive_18 : decode b_H_isLive 18 = .ok (.goto 4, 3) := by decide +kernel
theorem d_H_isLive_21 : decode b_H_isLive 21 = .ok (.iconst 0, 1) := by decide +kernel
theorem d_H_isLive_22 : decode b_H_isLive 22 = .ok (.ireturn, 1) := by decide +kernel
theorem d_H_kindOf_0 : decode b_H_kindOf 0 = .ok (.aload_n 0, 1) := by decide +kernel
theorem d_H_kindOf_1 : decode b_H_kindOf 1 = .ok (.iload_n 1, 1) := by decide +kernel
theorem d_H_kindOf_2 : decode b_H_kindOf 2 = .ok (.invokevirtual 30, 3) := by decide +kernel
theorem d_H_kindOf_5 : decode b_H_kindOf 5 = .ok (.ifCond .eq 12, 3) := by decide +kernel
theorem d_H_kindOf_8 : decode b_H_kindOf 8 = .ok (.aload_n 0, 1) := by decide +kernel
theorem d_H_kindOf_9 : decode b_H_kindOf 9 = .ok (.getfield 9, 3) := by decide +kernel
theorem d_H_kindOf_12 : decode b_H_kindOf 12 = .ok (.iload_n 1, 1) := by decide +kernel
theorem d_H_kindOf_13 : decode b_H_kindOf 13 = .ok (.iaload, 1) := by decide +kernel
theorem d_H_kindOf_14 : decode b_H_kindOf 14 = .ok (.goto 4, 3) := by decide +kernel
theorem d_H_kindOf_17 : decode b_H_kindOf 17 = .ok (.iconst (-1), 1) := by decide +kernel
theorem d_H_kindOf_18 : decode b_H_kindOf 18 = .ok (.ireturn, 1) := by decide +kernel
theorem d_H_add_0 : decode b_H_add 0 = .ok (.aload_n 0, 1) := by decide +kernel
theorem d_H_add_1 : decode b_H_add 1 = .ok (.invokevirtual 34, 3) := by decide +kernel
theorem d_H_add_4 : decode b_H_add 4 = .ok (.ifCond .eq 5, 3) := by decide +kernel
theorem d_H_add_7 : decode b_H_add 7 = .ok (.iconst 0, 1) := by decide +kernel
theorem d_H_add_8 : decode b_H_add 8 = .ok (.ireturn, 1) := by decide +kernel
theorem d_H_add_9 : decode b_H_add 9 = .ok (.aload_n 0, 1) := by decide +kernel
theorem d_H_add_10 : decode b_H_add 10 = .ok (.dup, 1) := by decide +kernel
theorem d_H_add_11 : decode b_H_add 11 = .ok (.getfield 26, 3) := by decide +kernel
theorem d_H_add_14 : decode b_H_add 14 = .ok (.iconst 1, 1) := by decide +kernel
theorem d_H_add_15 : decode b_H_add 15 = .ok (.iadd, 1) := by decide +kernel
theorem d_H_add_16 : decode b_H_add 16 = .ok (.putfield 26, 3) := by decide +kernel
theorem d_H_add_19 : decode b_H_add 19 = .ok (.aload_n 0, 1) := by decide +kernel
theorem d_H_add_20 : decode b_H_add 20 = .ok (.getfield 9, 3) := by decide +kernel
theorem d_H_add_23 : decode b_H_add 23 = .ok (.aload_n 0, 1) := by decide +kernel
theorem d_H_add_24 : decode b_H_add 24 = .ok (.getfield 26, 3) := by decide +kernel
theorem d_H_add_27 : decode b_H_add 27 = .ok (.iload_n 1, 1) := by decide +kernel
theorem d_H_add_28 : decode b_H_add 28 = .ok (.iastore, 1) := by decide +kernel
theorem d_H_add_29 : decode b_H_add 29 = .ok (.aload_n 0, 1) := by decide +kernel
theorem d_H_add_30 : decode b_H_add 30 = .ok (.getfield 15, 3) := by decide +kernel
theorem d_H_add_33 : decode b_H_add 33 = .ok (.aload_n 0, 1) := by decide +kernel
theorem d_H_add_34 : decode b_H_add 34 = .ok (.getfield 26, 3) := by decide +kernel
theorem d_H_add_37 : decode b_H_add 37 = .ok (.iconst 1, 1) := by decide +kernel
theorem d_H_add_38 : decode b_H_add 38 = .ok (.bastore, 1) := by decide +kernel
theorem d_H_add_39 : decode b_H_add 39 = .ok (.aload_n 0, 1) := by decide +kernel
theorem d_H_add_40 : decode b_H_add 40 = .ok (.aload_n 0, 1) := by decide +kernel
theorem d_H_add_41 : decode b_H_add 41 = .ok (.getfield 26, 3) := by decide +kernel
theorem d_H_add_44 : decode b_H_add 44 = .ok (.aload_n 2, 1) := by decide +kernel
theorem d_H_add_45 : decode b_H_add 45 = .ok (.invokevirtual 38, 3) := by decide +kernel
theorem d_H_add_48 : decode b_H_add 48 = .ok (.aload_n 0, 1) := by decide +kernel
theorem d_H_add_49 : decode b_H_add 49 = .ok (.getfield 26, 3) := by decide +kernel
theorem d_H_add_52 : decode b_H_add 52 = .ok (.ireturn, 1) := by decide +kernel
theorem d_H_end_0 : decode b_H_end 0 = .ok (.aload_n 0, 1) := by decide +kernel
theorem d_H_end_1 : decode b_H_end 1 = .ok (.iload_n 1, 1) := by decide +kernel
theorem d_H_end_2 : decode b_H_end 2 = .ok (.invokevirtual 30, 3) := by decide +kernel
theorem d_H_end_5 : decode b_H_end 5 = .ok (.ifCond .eq 10, 3) := by decide +kernel
theorem d_H_end_8 : decode b_H_end 8 = .ok (.aload_n 0, 1) := by decide +kernel
theorem d_H_end_9 : decode b_H_end 9 = .ok (.getfield 15, 3) := by decide +kernel
theorem d_H_end_12 : decode b_H_end 12 = .ok (.iload_n 1, 1) := by decide +kernel
theorem d_H_end_13 : decode b_H_end 13 = .ok (.iconst 0, 1) := by decide +kernel
theorem d_H_end_14 : decode b_H_end 14 = .ok (.bastore, 1) := by decide +kernel
theorem d_H_end_15 : decode b_H_end 15 = .ok (.return_, 1) := by decide +kernel
theorem d_H_setText_0 : decode b_H_setText 0 = .ok (.aload_n 0, 1) := by decide +kernel
theorem d_H_setText_1 : decode b_H_setText 1 = .ok (.iload_n 1, 1) := by decide +kernel
theorem d_H_setText_2 : decode b_H_setText 2 = .ok (.invokevirtual 30, 3) := by decide +kernel
theorem d_H_setText_5 : decode b_H_setText 5 = .ok (.ifCond .ne 4, 3) := by decide +kernel
theorem d_H_setText_8 : decode b_H_setText 8 = .ok (.return_, 1) := by decide +kernel
theorem d_H_setText_9 : decode b_H_setText 9 = .ok (.iconst 0, 1) := by decide +kernel
theorem d_H_setText_10 : decode b_H_setText 10 = .ok (.istore_n 3, 1) := by decide +kernel
theorem d_H_setText_11 : decode b_H_setText 11 = .ok (.iload_n 3, 1) := by decide +kernel
theorem d_H_setText_12 : decode b_H_setText 12 = .ok (.aload_n 2, 1) := by decide +kernel
theorem d_H_setText_13 : decode b_H_setText 13 = .ok (.getfield 42, 3) := by decide +kernel
theorem d_H_setText_16 : decode b_H_setText 16 = .ok (.if_icmp .ge 26, 3) := by decide +kernel
theorem d_H_setText_19 : decode b_H_setText 19 = .ok (.aload_n 0, 1) := by decide +kernel
theorem d_H_setText_20 : decode b_H_setText 20 = .ok (.getfield 19, 3) := by decide +kernel
theorem d_H_setText_23 : decode b_H_setText 23 = .ok (.iload_n 1, 1) := by decide +kernel
theorem d_H_setText_24 : decode b_H_setText 24 = .ok (.bipush 20, 2) := by decide +kernel
theorem d_H_setText_26 : decode b_H_setText 26 = .ok (.imul, 1) := by decide +kernel
theorem d_H_setText_27 : decode b_H_setText 27 = .ok (.iload_n 3, 1) := by decide +kernel
theorem d_H_setText_28 : decode b_H_setText 28 = .ok (.iadd, 1) := by decide +kernel
theorem d_H_setText_29 : decode b_H_setText 29 = .ok (.aload_n 2, 1) := by decide +kernel
theorem d_H_setText_30 : decode b_H_setText 30 = .ok (.getfield 47, 3) := by decide +kernel
theorem d_H_setText_33 : decode b_H_setText 33 = .ok (.iload_n 3, 1) := by decide +kernel
theorem d_H_setText_34 : decode b_H_setText 34 = .ok (.caload, 1) := by decide +kernel
theorem d_H_setText_35 : decode b_H_setText 35 = .ok (.castore, 1) := by decide +kernel
theorem d_H_setText_36 : decode b_H_setText 36 = .ok (.iinc 3 1, 3) := by decide +kernel
theorem d_H_setText_39 : decode b_H_setText 39 = .ok (.goto (-28), 3) := by decide +kernel
theorem d_H_setText_42 : decode b_H_setText 42 = .ok (.aload_n 0, 1) := by decide +kernel
theorem d_H_setText_43 : decode b_H_setText 43 = .ok (.getfield 23, 3) := by decide +kernel
theorem d_H_setText_46 : decode b_H_setText 46 = .ok (.iload_n 1, 1) := by decide +kernel
theorem d_H_setText_47 : decode b_H_setText 47 = .ok (.aload_n 2, 1) := by decide +kernel
theorem d_H_setText_48 : decode b_H_setText 48 = .ok (.getfield 42, 3) := by decide +kernel
theorem d_H_setText_51 : decode b_H_setText 51 = .ok (.iastore, 1) := by decide +kernel
theorem d_H_setText_52 : decode b_H_setText 52 = .ok (.return_, 1) := by decide +kernel
theorem d_H_letterOf_0 : decode b_H_letterOf 0 = .ok (.aload_n 0, 1) := by decide +kernel
theorem d_H_letterOf_1 : decode b_H_letterOf 1 = .ok (.iload_n 1, 1) := by decide +kernel
theorem d_H_letterOf_2 : decode b_H_letterOf 2 = .ok (.invokevirtual 30, 3) := by decide +kernel
theorem d_H_letterOf_5 : decode b_H_letterOf 5 = .ok (.ifCond .eq 17, 3) := by decide +kernel
theorem d_H_letterOf_8 : decode b_H_letterOf 8 = .ok (.iload_n 2, 1) := by decide +kernel
theorem d_H_letterOf_9 : decode b_H_letterOf 9 = .ok (.ifCond .lt 13, 3) := by decide +kernel
theorem d_H_letterOf_12 : decode b_H_letterOf 12 = .ok (.iload_n 2, 1) := by decide +kernel
theorem d_H_letterOf_13 : decode b_H_letterOf 13 = .ok (.aload_n 0, 1) := by decide +kernel
theorem d_H_letterOf_14 : decode b_H_letterOf 14 = .ok (.getfield 23, 3) := by decide +kernel
theorem d_H_letterOf_17 : decode b_H_letterOf 17 = .ok (.iload_n 1, 1) := by decide +kernel
theorem d_H_letterOf_18 : decode b_H_letterOf 18 = .ok (.iaload, 1) := by decide +kernel
theorem d_H_letterOf_19 : decode b_H_letterOf 19 = .ok (.if_icmp .lt 5, 3) := by decide +kernel
theorem d_H_letterOf_22 : decode b_H_letterOf 22 = .ok (.iconst (-1), 1) := by decide +kernel
theorem d_H_letterOf_23 : decode b_H_letterOf 23 = .ok (.ireturn, 1) := by decide +kernel
theorem d_H_letterOf_24 : decode b_H_letterOf 24 = .ok (.aload_n 0, 1) := by decide +kernel
theorem d_H_letterOf_25 : decode b_H_letterOf 25 = .ok (.getfield 19, 3) := by decide +kernel
theorem d_H_letterOf_28 : decode b_H_letterOf 28 = .ok (.iload_n 1, 1) := by decide +kernel
theorem d_H_letterOf_29 : decode b_H_letterOf 29 = .ok (.bipush 20, 2) := by decide +kernel
theorem d_H_letterOf_31 : decode b_H_letterOf 31 = .ok (.imul, 1) := by decide +kernel
theorem d_H_letterOf_32 : decode b_H_letterOf 32 = .ok (.iload_n 2, 1) := by decide +kernel
theorem d_H_letterOf_33 : decode b_H_letterOf 33 = .ok (.iadd, 1) := by decide +kernel
theorem d_H_letterOf_34 : decode b_H_letterOf 34 = .ok (.caload, 1) := by decide +kernel
theorem d_H_letterOf_35 : decode b_H_letterOf 35 = .ok (.ireturn, 1) := by decide +kernel
theorem d_H_firstOfAnyKind_0 : decode b_H_firstOfAnyKind 0 = .ok (.iconst 1, 1) := by decide +kernel
theorem d_H_firstOfAnyKind_1 : decode b_H_firstOfAnyKind 1 = .ok (.istore_n 2, 1) := by decide +kernel
theorem d_H_firstOfAnyKind_2 : decode b_H_firstOfAnyKind 2 = .ok (.iload_n 2, 1) := by decide +kernel
theorem d_H_firstOfAnyKind_3 : decode b_H_firstOfAnyKind 3 = .ok (.aload_n 0, 1) := by decide +kernel
theorem d_H_firstOfAnyKind_4 : decode b_H_firstOfAnyKind 4 = .ok (.getfield 26, 3) := by decide +kernel
theorem d_H_firstOfAnyKind_7 : decode b_H_firstOfAnyKind 7 = .ok (.if_icmp .gt 29, 3) := by decide +kernel
theorem d_H_firstOfAnyKind_10 : decode b_H_firstOfAnyKind 10 = .ok (.aload_n 0, 1) := by decide +kernel
theorem d_H_firstOfAnyKind_11 : decode b_H_firstOfAnyKind 11 = .ok (.getfield 15, 3) := by decide +kernel
theorem d_H_firstOfAnyKind_14 : decode b_H_firstOfAnyKind 14 = .ok (.iload_n 2, 1) := by decide +kernel
theorem d_H_firstOfAnyKind_15 : decode b_H_firstOfAnyKind 15 = .ok (.baload, 1) := by decide +kernel
theorem d_H_firstOfAnyKind_16 : decode b_H_firstOfAnyKind 16 = .ok (.ifCond .eq 14, 3) := by decide +kernel
theorem d_H_firstOfAnyKind_19 : decode b_H_firstOfAnyKind 19 = .ok (.aload_n 0, 1) := by decide +kernel
theorem d_H_firstOfAnyKind_20 : decode b_H_firstOfAnyKind 20 = .ok (.iload_n 2, 1) := by decide +kernel
theorem d_H_firstOfAnyKind_21 : decode b_H_firstOfAnyKind 21 = .ok (.aload_n 1, 1) := by decide +kernel
theorem d_H_firstOfAnyKind_22 : decode b_H_firstOfAnyKind 22 = .ok (.invokevirtual 48, 3) := by decide +kernel
theorem d_H_firstOfAnyKind_25 : decode b_H_firstOfAnyKind 25 = .ok (.ifCond .eq 5, 3) := by decide +kernel
theorem d_H_firstOfAnyKind_28 : decode b_H_firstOfAnyKind 28 = .ok (.iload_n 2, 1) := by decide +kernel
theorem d_H_firstOfAnyKind_29 : decode b_H_firstOfAnyKind 29 = .ok (.ireturn, 1) := by decide +kernel
theorem d_H_firstOfAnyKind_30 : decode b_H_firstOfAnyKind 30 = .ok (.iinc 2 1, 3) := by decide +kernel
theorem d_H_firstOfAnyKind_33 : decode b_H_firstOfAnyKind 33 = .ok (.goto (-31), 3) := by decide +kernel
theorem d_H_firstOfAnyKind_36 : decode b_H_firstOfAnyKind 36 = .ok (.iconst 0, 1) := by decide +kernel
theorem d_H_firstOfAnyKind_37 : decode b_H_firstOfAnyKind 37 = .ok (.ireturn, 1) := by decide +kernel
theorem d_H_firstOfKind_0 : decode b_H_firstOfKind 0 = .ok (.iconst 1, 1) := by decide +kernel
theorem d_H_firstOfKind_1 : decode b_H_firstOfKind 1 = .ok (.istore 4, 2) := by decide +kernel
theorem d_H_firstOfKind_3 : decode b_H_firstOfKind 3 = .ok (.iload 4, 2) := by decide +kernel
theorem d_H_firstOfKind_5 : decode b_H_firstOfKind 5 = .ok (.aload_n 0, 1) := by decide +kernel
theorem d_H_firstOfKind_6 : decode b_H_firstOfKind 6 = .ok (.getfield 26, 3) := by decide +kernel
theorem d_H_firstOfKind_9 : decode b_H_firstOfKind 9 = .ok (.if_icmp .gt 49, 3) := by decide +kernel
theorem d_H_firstOfKind_12 : decode b_H_firstOfKind 12 = .ok (.iload 4, 2) := by decide +kernel
theorem d_H_firstOfKind_14 : decode b_H_firstOfKind 14 = .ok (.iload_n 3, 1) := by decide +kernel
theorem d_H_firstOfKind_15 : decode b_H_firstOfKind 15 = .ok (.if_icmp .eq 37, 3) := by decide +kernel
theorem d_H_firstOfKind_18 : decode b_H_firstOfKind 18 = .ok (.aload_n 0, 1) := by decide +kernel
theorem d_H_firstOfKind_19 : decode b_H_firstOfKind 19 = .ok (.getfield 15, 3) := by decide +kernel
theorem d_H_firstOfKind_22 : decode b_H_firstOfKind 22 = .ok (.iload 4, 2) := by decide +kernel
theorem d_H_firstOfKind_24 : decode b_H_firstOfKind 24 = .ok (.baload, 1) := by decide +kernel
theorem d_H_firstOfKind_25 : decode b_H_firstOfKind 25 = .ok (.ifCond .eq 27, 3) := by decide +kernel
theorem d_H_firstOfKind_28 : decode b_H_firstOfKind 28 = .ok (.aload_n 0, 1) := by decide +kernel
theorem d_H_firstOfKind_29 : decode b_H_firstOfKind 29 = .ok (.getfield 9, 3) := by decide +kernel
theorem d_H_firstOfKind_32 : decode b_H_firstOfKind 32 = .ok (.iload 4, 2) := by decide +kernel
theorem d_H_firstOfKind_34 : decode b_H_firstOfKind 34 = .ok (.iaload, 1) := by decide +kernel
theorem d_H_firstOfKind_35 : decode b_H_firstOfKind 35 = .ok (.iload_n 1, 1) := by decide +kernel
theorem d_H_firstOfKind_36 : decode b_H_firstOfKind 36 = .ok (.if_icmp .ne 16, 3) := by decide +kernel
theorem d_H_firstOfKind_39 : decode b_H_firstOfKind 39 = .ok (.aload_n 0, 1) := by decide +kernel
theorem d_H_firstOfKind_40 : decode b_H_firstOfKind 40 = .ok (.iload 4, 2) := by decide +kernel
theorem d_H_firstOfKind_42 : decode b_H_firstOfKind 42 = .ok (.aload_n 2, 1) := by decide +kernel
theorem d_H_firstOfKind_43 : decode b_H_firstOfKind 43 = .ok (.invokevirtual 48, 3) := by decide +kernel
theorem d_H_firstOfKind_46 : decode b_H_firstOfKind 46 = .ok (.ifCond .eq 6, 3) := by decide +kernel
theorem d_H_firstOfKind_49 : decode b_H_firstOfKind 49 = .ok (.iload 4, 2) := by decide +kernel
theorem d_H_firstOfKind_51 : decode b_H_firstOfKind 51 = .ok (.ireturn, 1) := by decide +kernel
theorem d_H_firstOfKind_52 : decode b_H_firstOfKind 52 = .ok (.iinc 4 1, 3) := by decide +kernel
theorem d_H_firstOfKind_55 : decode b_H_firstOfKind 55 = .ok (.goto (-52), 3) := by decide +kernel
theorem d_H_firstOfKind_58 : decode b_H_firstOfKind 58 = .ok (.iconst 0, 1) := by decide +kernel
end
section
theorem d_H_firstOfKind_59 : decode b_H_firstOfKind 59 = .ok (.ireturn, 1) := by decide +kernel
theorem d_H_hasText_0 : decode b_H_hasText 0 = .ok (.aload_n 0, 1) := by decide +kernel
theorem d_H_hasText_1 : decode b_H_hasText 1 = .ok (.getfield 23, 3) := by decide +kernel
theorem d_H_hasText_4 : decode b_H_hasText 4 = .ok (.iload_n 1, 1) := by decide +kernel
theorem d_H_hasText_5 : decode b_H_hasText 5 = .ok (.iaload, 1) := by decide +kernel
theorem d_H_hasText_6 : decode b_H_hasText 6 = .ok (.aload_n 2, 1) := by decide +kernel
theorem d_H_hasText_7 : decode b_H_hasText 7 = .ok (.getfield 42, 3) := by decide +kernel
theorem d_H_hasText_10 : decode b_H_hasText 10 = .ok (.if_icmp .eq 5, 3) := by decide +kernel
theorem d_H_hasText_13 : decode b_H_hasText 13 = .ok (.iconst 0, 1) := by decide +kernel
theorem d_H_hasText_14 : decode b_H_hasText 14 = .ok (.ireturn, 1) := by decide +kernel
theorem d_H_hasText_15 : decode b_H_hasText 15 = .ok (.iconst 0, 1) := by decide +kernel
theorem d_H_hasText_16 : decode b_H_hasText 16 = .ok (.istore_n 3, 1) := by decide +kernel
theorem d_H_hasText_17 : decode b_H_hasText 17 = .ok (.iload_n 3, 1) := by decide +kernel
theorem d_H_hasText_18 : decode b_H_hasText 18 = .ok (.aload_n 2, 1) := by decide +kernel
theorem d_H_hasText_19 : decode b_H_hasText 19 = .ok (.getfield 42, 3) := by decide +kernel
theorem d_H_hasText_22 : decode b_H_hasText 22 = .ok (.if_icmp .ge 37, 3) := by decide +kernel
theorem d_H_hasText_25 : decode b_H_hasText 25 = .ok (.aload_n 0, 1) := by decide +kernel
theorem d_H_hasText_26 : decode b_H_hasText 26 = .ok (.getfield 19, 3) := by decide +kernel
theorem d_H_hasText_29 : decode b_H_hasText 29 = .ok (.iload_n 1, 1) := by decide +kernel
theorem d_H_hasText_30 : decode b_H_hasText 30 = .ok (.bipush 20, 2) := by decide +kernel
theorem d_H_hasText_32 : decode b_H_hasText 32 = .ok (.imul, 1) := by decide +kernel
theorem d_H_hasText_33 : decode b_H_hasText 33 = .ok (.iload_n 3, 1) := by decide +kernel
theorem d_H_hasText_34 : decode b_H_hasText 34 = .ok (.iadd, 1) := by decide +kernel
theorem d_H_hasText_35 : decode b_H_hasText 35 = .ok (.caload, 1) := by decide +kernel
theorem d_H_hasText_36 : decode b_H_hasText 36 = .ok (.invokestatic 52, 3) := by decide +kernel
theorem d_H_hasText_39 : decode b_H_hasText 39 = .ok (.aload_n 2, 1) := by decide +kernel
theorem d_H_hasText_40 : decode b_H_hasText 40 = .ok (.getfield 47, 3) := by decide +kernel
theorem d_H_hasText_43 : decode b_H_hasText 43 = .ok (.iload_n 3, 1) := by decide +kernel
theorem d_H_hasText_44 : decode b_H_hasText 44 = .ok (.caload, 1) := by decide +kernel
theorem d_H_hasText_45 : decode b_H_hasText 45 = .ok (.invokestatic 52, 3) := by decide +kernel
theorem d_H_hasText_48 : decode b_H_hasText 48 = .ok (.if_icmp .eq 5, 3) := by decide +kernel
theorem d_H_hasText_51 : decode b_H_hasText 51 = .ok (.iconst 0, 1) := by decide +kernel
theorem d_H_hasText_52 : decode b_H_hasText 52 = .ok (.ireturn, 1) := by decide +kernel
theorem d_H_hasText_53 : decode b_H_hasText 53 = .ok (.iinc 3 1, 3) := by decide +kernel
theorem d_H_hasText_56 : decode b_H_hasText 56 = .ok (.goto (-39), 3) := by decide +kernel
theorem d_H_hasText_59 : decode b_H_hasText 59 = .ok (.iconst 1, 1) := by decide +kernel
theorem d_H_hasText_60 : decode b_H_hasText 60 = .ok (.ireturn, 1) := by decide +kernel
theorem d_H_small_0 : decode b_H_small 0 = .ok (.iload_n 0, 1) := by decide +kernel
theorem d_H_small_1 : decode b_H_small 1 = .ok (.bipush 65, 2) := by decide +kernel
theorem d_H_small_3 : decode b_H_small 3 = .ok (.if_icmp .lt 19, 3) := by decide +kernel
theorem d_H_small_6 : decode b_H_small 6 = .ok (.iload_n 0, 1) := by decide +kernel
theorem d_H_small_7 : decode b_H_small 7 = .ok (.bipush 90, 2) := by decide +kernel
theorem d_H_small_9 : decode b_H_small 9 = .ok (.if_icmp .gt 13, 3) := by decide +kernel
theorem d_H_small_12 : decode b_H_small 12 = .ok (.iload_n 0, 1) := by decide +kernel
theorem d_H_small_13 : decode b_H_small 13 = .ok (.bipush 65, 2) := by decide +kernel
theorem d_H_small_15 : decode b_H_small 15 = .ok (.isub, 1) := by decide +kernel
theorem d_H_small_16 : decode b_H_small 16 = .ok (.bipush 97, 2) := by decide +kernel
theorem d_H_small_18 : decode b_H_small 18 = .ok (.iadd, 1) := by decide +kernel
theorem d_H_small_19 : decode b_H_small 19 = .ok (.goto 4, 3) := by decide +kernel
theorem d_H_small_22 : decode b_H_small 22 = .ok (.iload_n 0, 1) := by decide +kernel
theorem d_H_small_23 : decode b_H_small 23 = .ok (.ireturn, 1) := by decide +kernel
theorem d_K_init_0 : decode b_K_init 0 = .ok (.aload_n 0, 1) := by decide +kernel
theorem d_K_init_1 : decode b_K_init 1 = .ok (.invokespecial 3, 3) := by decide +kernel
theorem d_K_init_4 : decode b_K_init 4 = .ok (.aload_n 0, 1) := by decide +kernel
theorem d_K_init_5 : decode b_K_init 5 = .ok (.sipush 244, 3) := by decide +kernel
theorem d_K_init_8 : decode b_K_init 8 = .ok (.newarray .long, 2) := by decide +kernel
theorem d_K_init_10 : decode b_K_init 10 = .ok (.putfield 9, 3) := by decide +kernel
theorem d_K_init_13 : decode b_K_init 13 = .ok (.aload_n 0, 1) := by decide +kernel
theorem d_K_init_14 : decode b_K_init 14 = .ok (.sipush 512, 3) := by decide +kernel
theorem d_K_init_17 : decode b_K_init 17 = .ok (.newarray .int, 2) := by decide +kernel
theorem d_K_init_19 : decode b_K_init 19 = .ok (.putfield 15, 3) := by decide +kernel
theorem d_K_init_22 : decode b_K_init 22 = .ok (.aload_n 0, 1) := by decide +kernel
theorem d_K_init_23 : decode b_K_init 23 = .ok (.sipush 512, 3) := by decide +kernel
theorem d_K_init_26 : decode b_K_init 26 = .ok (.newarray .int, 2) := by decide +kernel
theorem d_K_init_28 : decode b_K_init 28 = .ok (.putfield 19, 3) := by decide +kernel
theorem d_K_init_31 : decode b_K_init 31 = .ok (.aload_n 0, 1) := by decide +kernel
theorem d_K_init_32 : decode b_K_init 32 = .ok (.sipush 512, 3) := by decide +kernel
theorem d_K_init_35 : decode b_K_init 35 = .ok (.newarray .long, 2) := by decide +kernel
theorem d_K_init_37 : decode b_K_init 37 = .ok (.putfield 22, 3) := by decide +kernel
theorem d_K_init_40 : decode b_K_init 40 = .ok (.aload_n 0, 1) := by decide +kernel
theorem d_K_init_41 : decode b_K_init 41 = .ok (.iconst 0, 1) := by decide +kernel
theorem d_K_init_42 : decode b_K_init 42 = .ok (.putfield 25, 3) := by decide +kernel
theorem d_K_init_45 : decode b_K_init 45 = .ok (.return_, 1) := by decide +kernel
theorem d_K_isFull_0 : decode b_K_isFull 0 = .ok (.aload_n 0, 1) := by decide +kernel
theorem d_K_isFull_1 : decode b_K_isFull 1 = .ok (.getfield 25, 3) := by decide +kernel
theorem d_K_isFull_4 : decode b_K_isFull 4 = .ok (.sipush 512, 3) := by decide +kernel
theorem d_K_isFull_7 : decode b_K_isFull 7 = .ok (.if_icmp .lt 7, 3) := by decide +kernel
theorem d_K_isFull_10 : decode b_K_isFull 10 = .ok (.iconst 1, 1) := by decide +kernel
theorem d_K_isFull_11 : decode b_K_isFull 11 = .ok (.goto 4, 3) := by decide +kernel
theorem d_K_isFull_14 : decode b_K_isFull 14 = .ok (.iconst 0, 1) := by decide +kernel
theorem d_K_isFull_15 : decode b_K_isFull 15 = .ok (.ireturn, 1) := by decide +kernel
theorem d_K_has_0 : decode b_K_has 0 = .ok (.aload_n 0, 1) := by decide +kernel
theorem d_K_has_1 : decode b_K_has 1 = .ok (.iload_n 1, 1) := by decide +kernel
theorem d_K_has_2 : decode b_K_has 2 = .ok (.iload_n 2, 1) := by decide +kernel
theorem d_K_has_3 : decode b_K_has 3 = .ok (.invokevirtual 29, 3) := by decide +kernel
theorem d_K_has_6 : decode b_K_has 6 = .ok (.iload_n 3, 1) := by decide +kernel
theorem d_K_has_7 : decode b_K_has 7 = .ok (.invokestatic 33, 3) := by decide +kernel
theorem d_K_has_10 : decode b_K_has 10 = .ok (.ireturn, 1) := by decide +kernel
theorem d_K_targetsOf_0 : decode b_K_targetsOf 0 = .ok (.aload_n 0, 1) := by decide +kernel
theorem d_K_targetsOf_1 : decode b_K_targetsOf 1 = .ok (.getfield 9, 3) := by decide +kernel
theorem d_K_targetsOf_4 : decode b_K_targetsOf 4 = .ok (.iload_n 1, 1) := by decide +kernel
theorem d_K_targetsOf_5 : decode b_K_targetsOf 5 = .ok (.bipush 61, 2) := by decide +kernel
theorem d_K_targetsOf_7 : decode b_K_targetsOf 7 = .ok (.imul, 1) := by decide +kernel
theorem d_K_targetsOf_8 : decode b_K_targetsOf 8 = .ok (.iload_n 2, 1) := by decide +kernel
theorem d_K_targetsOf_9 : decode b_K_targetsOf 9 = .ok (.iadd, 1) := by decide +kernel
theorem d_K_targetsOf_10 : decode b_K_targetsOf 10 = .ok (.laload, 1) := by decide +kernel
theorem d_K_targetsOf_11 : decode b_K_targetsOf 11 = .ok (.lreturn, 1) := by decide +kernel
theorem d_K_targetsOfAll_0 : decode b_K_targetsOfAll 0 = .ok (.lconst 0, 1) := by decide +kernel
theorem d_K_targetsOfAll_1 : decode b_K_targetsOfAll 1 = .ok (.lstore 4, 2) := by decide +kernel
theorem d_K_targetsOfAll_3 : decode b_K_targetsOfAll 3 = .ok (.iconst 1, 1) := by decide +kernel
theorem d_K_targetsOfAll_4 : decode b_K_targetsOfAll 4 = .ok (.istore 6, 2) := by decide +kernel
theorem d_K_targetsOfAll_6 : decode b_K_targetsOfAll 6 = .ok (.iload 6, 2) := by decide +kernel
theorem d_K_targetsOfAll_8 : decode b_K_targetsOfAll 8 = .ok (.bipush 60, 2) := by decide +kernel
theorem d_K_targetsOfAll_10 : decode b_K_targetsOfAll 10 = .ok (.if_icmp .gt 30, 3) := by decide +kernel
theorem d_K_targetsOfAll_13 : decode b_K_targetsOfAll 13 = .ok (.lload_n 2, 1) := by decide +kernel
theorem d_K_targetsOfAll_14 : decode b_K_targetsOfAll 14 = .ok (.iload 6, 2) := by decide +kernel
theorem d_K_targetsOfAll_16 : decode b_K_targetsOfAll 16 = .ok (.invokestatic 33, 3) := by decide +kernel
theorem d_K_targetsOfAll_19 : decode b_K_targetsOfAll 19 = .ok (.ifCond .eq 15, 3) := by decide +kernel
theorem d_K_targetsOfAll_22 : decode b_K_targetsOfAll 22 = .ok (.lload 4, 2) := by decide +kernel
theorem d_K_targetsOfAll_24 : decode b_K_targetsOfAll 24 = .ok (.aload_n 0, 1) := by decide +kernel
theorem d_K_targetsOfAll_25 : decode b_K_targetsOfAll 25 = .ok (.iload_n 1, 1) := by decide +kernel
theorem d_K_targetsOfAll_26 : decode b_K_targetsOfAll 26 = .ok (.iload 6, 2) := by decide +kernel
theorem d_K_targetsOfAll_28 : decode b_K_targetsOfAll 28 = .ok (.invokevirtual 29, 3) := by decide +kernel
theorem d_K_targetsOfAll_31 : decode b_K_targetsOfAll 31 = .ok (.lor, 1) := by decide +kernel
theorem d_K_targetsOfAll_32 : decode b_K_targetsOfAll 32 = .ok (.lstore 4, 2) := by decide +kernel
theorem d_K_targetsOfAll_34 : decode b_K_targetsOfAll 34 = .ok (.iinc 6 1, 3) := by decide +kernel
theorem d_K_targetsOfAll_37 : decode b_K_targetsOfAll 37 = .ok (.goto (-31), 3) := by decide +kernel
theorem d_K_targetsOfAll_40 : decode b_K_targetsOfAll 40 = .ok (.lload 4, 2) := by decide +kernel
theorem d_K_targetsOfAll_42 : decode b_K_targetsOfAll 42 = .ok (.lreturn, 1) := by decide +kernel
theorem d_K_sourcesOf_0 : decode b_K_sourcesOf 0 = .ok (.lconst 0, 1) := by decide +kernel
theorem d_K_sourcesOf_1 : decode b_K_sourcesOf 1 = .ok (.lstore 4, 2) := by decide +kernel
theorem d_K_sourcesOf_3 : decode b_K_sourcesOf 3 = .ok (.iconst 1, 1) := by decide +kernel
theorem d_K_sourcesOf_4 : decode b_K_sourcesOf 4 = .ok (.istore 6, 2) := by decide +kernel
theorem d_K_sourcesOf_6 : decode b_K_sourcesOf 6 = .ok (.iload 6, 2) := by decide +kernel
theorem d_K_sourcesOf_8 : decode b_K_sourcesOf 8 = .ok (.bipush 60, 2) := by decide +kernel
theorem d_K_sourcesOf_10 : decode b_K_sourcesOf 10 = .ok (.if_icmp .gt 33, 3) := by decide +kernel
theorem d_K_sourcesOf_13 : decode b_K_sourcesOf 13 = .ok (.aload_n 0, 1) := by decide +kernel
theorem d_K_sourcesOf_14 : decode b_K_sourcesOf 14 = .ok (.iload_n 1, 1) := by decide +kernel
theorem d_K_sourcesOf_15 : decode b_K_sourcesOf 15 = .ok (.iload 6, 2) := by decide +kernel
theorem d_K_sourcesOf_17 : decode b_K_sourcesOf 17 = .ok (.invokevirtual 29, 3) := by decide +kernel
theorem d_K_sourcesOf_20 : decode b_K_sourcesOf 20 = .ok (.lload_n 2, 1) := by decide +kernel
theorem d_K_sourcesOf_21 : decode b_K_sourcesOf 21 = .ok (.land, 1) := by decide +kernel
theorem d_K_sourcesOf_22 : decode b_K_sourcesOf 22 = .ok (.lconst 0, 1) := by decide +kernel
theorem d_K_sourcesOf_23 : decode b_K_sourcesOf 23 = .ok (.lcmp, 1) := by decide +kernel
theorem d_K_sourcesOf_24 : decode b_K_sourcesOf 24 = .ok (.ifCond .eq 13, 3) := by decide +kernel
theorem d_K_sourcesOf_27 : decode b_K_sourcesOf 27 = .ok (.lload 4, 2) := by decide +kernel
theorem d_K_sourcesOf_29 : decode b_K_sourcesOf 29 = .ok (.iload 6, 2) := by decide +kernel
theorem d_K_sourcesOf_31 : decode b_K_sourcesOf 31 = .ok (.invokestatic 37, 3) := by decide +kernel
theorem d_K_sourcesOf_34 : decode b_K_sourcesOf 34 = .ok (.lor, 1) := by decide +kernel
theorem d_K_sourcesOf_35 : decode b_K_sourcesOf 35 = .ok (.lstore 4, 2) := by decide +kernel
theorem d_K_sourcesOf_37 : decode b_K_sourcesOf 37 = .ok (.iinc 6 1, 3) := by decide +kernel
theorem d_K_sourcesOf_40 : decode b_K_sourcesOf 40 = .ok (.goto (-34), 3) := by decide +kernel
theorem d_K_sourcesOf_43 : decode b_K_sourcesOf 43 = .ok (.lload 4, 2) := by decide +kernel
theorem d_K_sourcesOf_45 : decode b_K_sourcesOf 45 = .ok (.lreturn, 1) := by decide +kernel
theorem d_K_add_0 : decode b_K_add 0 = .ok (.aload_n 0, 1) := by decide +kernel
theorem d_K_add_1 : decode b_K_add 1 = .ok (.invokevirtual 41, 3) := by decide +kernel
theorem d_K_add_4 : decode b_K_add 4 = .ok (.ifCond .eq 4, 3) := by decide +kernel
theorem d_K_add_7 : decode b_K_add 7 = .ok (.return_, 1) := by decide +kernel
theorem d_K_add_8 : decode b_K_add 8 = .ok (.aload_n 0, 1) := by decide +kernel
theorem d_K_add_9 : decode b_K_add 9 = .ok (.getfield 9, 3) := by decide +kernel
theorem d_K_add_12 : decode b_K_add 12 = .ok (.iload_n 1, 1) := by decide +kernel
theorem d_K_add_13 : decode b_K_add 13 = .ok (.bipush 61, 2) := by decide +kernel
theorem d_K_add_15 : decode b_K_add 15 = .ok (.imul, 1) := by decide +kernel
theorem d_K_add_16 : decode b_K_add 16 = .ok (.iload_n 2, 1) := by decide +kernel
theorem d_K_add_17 : decode b_K_add 17 = .ok (.iadd, 1) := by decide +kernel
theorem d_K_add_18 : decode b_K_add 18 = .ok (.dup2, 1) := by decide +kernel
theorem d_K_add_19 : decode b_K_add 19 = .ok (.laload, 1) := by decide +kernel
theorem d_K_add_20 : decode b_K_add 20 = .ok (.iload_n 3, 1) := by decide +kernel
theorem d_K_add_21 : decode b_K_add 21 = .ok (.invokestatic 37, 3) := by decide +kernel
theorem d_K_add_24 : decode b_K_add 24 = .ok (.lor, 1) := by decide +kernel
theorem d_K_add_25 : decode b_K_add 25 = .ok (.lastore, 1) := by decide +kernel
theorem d_K_add_26 : decode b_K_add 26 = .ok (.iload_n 1, 1) := by decide +kernel
theorem d_K_add_27 : decode b_K_add 27 = .ok (.iconst 3, 1) := by decide +kernel
theorem d_K_add_28 : decode b_K_add 28 = .ok (.if_icmp .ne 25, 3) := by decide +kernel
theorem d_K_add_31 : decode b_K_add 31 = .ok (.aload_n 0, 1) := by decide +kernel
theorem d_K_add_32 : decode b_K_add 32 = .ok (.aload_n 0, 1) := by decide +kernel
theorem d_K_add_33 : decode b_K_add 33 = .ok (.getfield 25, 3) := by decide +kernel
theorem d_K_add_36 : decode b_K_add 36 = .ok (.iload_n 2, 1) := by decide +kernel
theorem d_K_add_37 : decode b_K_add 37 = .ok (.iload_n 3, 1) := by decide +kernel
theorem d_K_add_38 : decode b_K_add 38 = .ok (.lload 4, 2) := by decide +kernel
theorem d_K_add_40 : decode b_K_add 40 = .ok (.invokevirtual 45, 3) := by decide +kernel
theorem d_K_add_43 : decode b_K_add 43 = .ok (.aload_n 0, 1) := by decide +kernel
theorem d_K_add_44 : decode b_K_add 44 = .ok (.dup, 1) := by decide +kernel
theorem d_K_add_45 : decode b_K_add 45 = .ok (.getfield 25, 3) := by decide +kernel
theorem d_K_add_48 : decode b_K_add 48 = .ok (.iconst 1, 1) := by decide +kernel
theorem d_K_add_49 : decode b_K_add 49 = .ok (.iadd, 1) := by decide +kernel
theorem d_K_add_50 : decode b_K_add 50 = .ok (.putfield 25, 3) := by decide +kernel
theorem d_K_add_53 : decode b_K_add 53 = .ok (.return_, 1) := by decide +kernel
theorem d_K_removeAllOf_0 : decode b_K_removeAllOf 0 = .ok (.iconst 0, 1) := by decide +kernel
theorem d_K_removeAllOf_1 : decode b_K_removeAllOf 1 = .ok (.istore_n 2, 1) := by decide +kernel
theorem d_K_removeAllOf_2 : decode b_K_removeAllOf 2 = .ok (.iload_n 2, 1) := by decide +kernel
theorem d_K_removeAllOf_3 : decode b_K_removeAllOf 3 = .ok (.iconst 4, 1) := by decide +kernel
theorem d_K_removeAllOf_4 : decode b_K_removeAllOf 4 = .ok (.if_icmp .ge 57, 3) := by decide +kernel
theorem d_K_removeAllOf_7 : decode b_K_removeAllOf 7 = .ok (.aload_n 0, 1) := by decide +kernel
theorem d_K_removeAllOf_8 : decode b_K_removeAllOf 8 = .ok (.getfield 9, 3) := by decide +kernel
theorem d_K_removeAllOf_11 : decode b_K_removeAllOf 11 = .ok (.iload_n 2, 1) := by decide +kernel
theorem d_K_removeAllOf_12 : decode b_K_removeAllOf 12 = .ok (.bipush 61, 2) := by decide +kernel
theorem d_K_removeAllOf_14 : decode b_K_removeAllOf 14 = .ok (.imul, 1) := by decide +kernel
theorem d_K_removeAllOf_15 : decode b_K_removeAllOf 15 = .ok (.iload_n 1, 1) := by decide +kernel
theorem d_K_removeAllOf_16 : decode b_K_removeAllOf 16 = .ok (.iadd, 1) := by decide +kernel
theorem d_K_removeAllOf_17 : decode b_K_removeAllOf 17 = .ok (.lconst 0, 1) := by decide +kernel
theorem d_K_removeAllOf_18 : decode b_K_removeAllOf 18 = .ok (.lastore, 1) := by decide +kernel
theorem d_K_removeAllOf_19 : decode b_K_removeAllOf 19 = .ok (.iconst 1, 1) := by decide +kernel
theorem d_K_removeAllOf_20 : decode b_K_removeAllOf 20 = .ok (.istore_n 3, 1) := by decide +kernel
theorem d_K_removeAllOf_21 : decode b_K_removeAllOf 21 = .ok (.iload_n 3, 1) := by decide +kernel
theorem d_K_removeAllOf_22 : decode b_K_removeAllOf 22 = .ok (.bipush 60, 2) := by decide +kernel
theorem d_K_removeAllOf_24 : decode b_K_removeAllOf 24 = .ok (.if_icmp .gt 31, 3) := by decide +kernel
theorem d_K_removeAllOf_27 : decode b_K_removeAllOf 27 = .ok (.aload_n 0, 1) := by decide +kernel
theorem d_K_removeAllOf_28 : decode b_K_removeAllOf 28 = .ok (.getfield 9, 3) := by decide +kernel
theorem d_K_removeAllOf_31 : decode b_K_removeAllOf 31 = .ok (.iload_n 2, 1) := by decide +kernel
theorem d_K_removeAllOf_32 : decode b_K_removeAllOf 32 = .ok (.bipush 61, 2) := by decide +kernel
theorem d_K_removeAllOf_34 : decode b_K_removeAllOf 34 = .ok (.imul, 1) := by decide +kernel
theorem d_K_removeAllOf_35 : decode b_K_removeAllOf 35 = .ok (.iload_n 3, 1) := by decide +kernel
theorem d_K_removeAllOf_36 : decode b_K_removeAllOf 36 = .ok (.iadd, 1) := by decide +kernel
theorem d_K_removeAllOf_37 : decode b_K_removeAllOf 37 = .ok (.dup2, 1) := by decide +kernel
theorem d_K_removeAllOf_38 : decode b_K_removeAllOf 38 = .ok (.laload, 1) := by decide +kernel
theorem d_K_removeAllOf_39 : decode b_K_removeAllOf 39 = .ok (.iload_n 1, 1) := by decide +kernel
theorem d_K_removeAllOf_40 : decode b_K_removeAllOf 40 = .ok (.invokestatic 37, 3) := by decide +kernel
theorem d_K_removeAllOf_43 : decode b_K_removeAllOf 43 = .ok (.ldc2_w 49, 3) := by decide +kernel
theorem d_K_removeAllOf_46 : decode b_K_removeAllOf 46 = .ok (.lxor, 1) := by decide +kernel
theorem d_K_removeAllOf_47 : decode b_K_removeAllOf 47 = .ok (.land, 1) := by decide +kernel
theorem d_K_removeAllOf_48 : decode b_K_removeAllOf 48 = .ok (.lastore, 1) := by decide +kernel
theorem d_K_removeAllOf_49 : decode b_K_removeAllOf 49 = .ok (.iinc 3 1, 3) := by decide +kernel
theorem d_K_removeAllOf_52 : decode b_K_removeAllOf 52 = .ok (.goto (-31), 3) := by decide +kernel
theorem d_K_removeAllOf_55 : decode b_K_removeAllOf 55 = .ok (.iinc 2 1, 3) := by decide +kernel
theorem d_K_removeAllOf_58 : decode b_K_removeAllOf 58 = .ok (.goto (-56), 3) := by decide +kernel
theorem d_K_removeAllOf_61 : decode b_K_removeAllOf 61 = .ok (.aload_n 0, 1) := by decide +kernel
theorem d_K_removeAllOf_62 : decode b_K_removeAllOf 62 = .ok (.iload_n 1, 1) := by decide +kernel
theorem d_K_removeAllOf_63 : decode b_K_removeAllOf 63 = .ok (.invokevirtual 51, 3) := by decide +kernel
theorem d_K_removeAllOf_66 : decode b_K_removeAllOf 66 = .ok (.return_, 1) := by decide +kernel
theorem d_K_latestOn_0 : decode b_K_latestOn 0 = .ok (.iconst (-1), 1) := by decide +kernel
theorem d_K_latestOn_1 : decode b_K_latestOn 1 = .ok (.istore 4, 2) := by decide +kernel
theorem d_K_latestOn_3 : decode b_K_latestOn 3 = .ok (.iconst 0, 1) := by decide +kernel
theorem d_K_latestOn_4 : decode b_K_latestOn 4 = .ok (.istore 5, 2) := by decide +kernel
theorem d_K_latestOn_6 : decode b_K_latestOn 6 = .ok (.iload 5, 2) := by decide +kernel
theorem d_K_latestOn_8 : decode b_K_latestOn 8 = .ok (.aload_n 0, 1) := by decide +kernel
theorem d_K_latestOn_9 : decode b_K_latestOn 9 = .ok (.getfield 25, 3) := by decide +kernel
theorem d_K_latestOn_12 : decode b_K_latestOn 12 = .ok (.if_icmp .ge 72, 3) := by decide +kernel
theorem d_K_latestOn_15 : decode b_K_latestOn 15 = .ok (.aload_n 0, 1) := by decide +kernel
theorem d_K_latestOn_16 : decode b_K_latestOn 16 = .ok (.getfield 15, 3) := by decide +kernel
theorem d_K_latestOn_19 : decode b_K_latestOn 19 = .ok (.iload 5, 2) := by decide +kernel
theorem d_K_latestOn_21 : decode b_K_latestOn 21 = .ok (.iaload, 1) := by decide +kernel
theorem d_K_latestOn_22 : decode b_K_latestOn 22 = .ok (.iload_n 1, 1) := by decide +kernel
theorem d_K_latestOn_23 : decode b_K_latestOn 23 = .ok (.if_icmp .ne 19, 3) := by decide +kernel
theorem d_K_latestOn_26 : decode b_K_latestOn 26 = .ok (.aload_n 0, 1) := by decide +kernel
theorem d_K_latestOn_27 : decode b_K_latestOn 27 = .ok (.getfield 22, 3) := by decide +kernel
theorem d_K_latestOn_30 : decode b_K_latestOn 30 = .ok (.iload 5, 2) := by decide +kernel
theorem d_K_latestOn_32 : decode b_K_latestOn 32 = .ok (.laload, 1) := by decide +kernel
theorem d_K_latestOn_33 : decode b_K_latestOn 33 = .ok (.lload_n 2, 1) := by decide +kernel
theorem d_K_latestOn_34 : decode b_K_latestOn 34 = .ok (.lcmp, 1) := by decide +kernel
theorem d_K_latestOn_35 : decode b_K_latestOn 35 = .ok (.ifCond .gt 7, 3) := by decide +kernel
theorem d_K_latestOn_38 : decode b_K_latestOn 38 = .ok (.iconst 1, 1) := by decide +kernel
theorem d_K_latestOn_39 : decode b_K_latestOn 39 = .ok (.goto 4, 3) := by decide +kernel
theorem d_K_latestOn_42 : decode b_K_latestOn 42 = .ok (.iconst 0, 1) := by decide +kernel
theorem d_K_latestOn_43 : decode b_K_latestOn 43 = .ok (.istore 6, 2) := by decide +kernel
theorem d_K_latestOn_45 : decode b_K_latestOn 45 = .ok (.iload 6, 2) := by decide +kernel
theorem d_K_latestOn_47 : decode b_K_latestOn 47 = .ok (.ifCond .eq 31, 3) := by decide +kernel
theorem d_K_latestOn_50 : decode b_K_latestOn 50 = .ok (.iload 4, 2) := by decide +kernel
theorem d_K_latestOn_52 : decode b_K_latestOn 52 = .ok (.iconst (-1), 1) := by decide +kernel
theorem d_K_latestOn_53 : decode b_K_latestOn 53 = .ok (.if_icmp .eq 21, 3) := by decide +kernel
theorem d_K_latestOn_56 : decode b_K_latestOn 56 = .ok (.aload_n 0, 1) := by decide +kernel
theorem d_K_latestOn_57 : decode b_K_latestOn 57 = .ok (.getfield 22, 3) := by decide +kernel
theorem d_K_latestOn_60 : decode b_K_latestOn 60 = .ok (.iload 5, 2) := by decide +kernel
theorem d_K_latestOn_62 : decode b_K_latestOn 62 = .ok (.laload, 1) := by decide +kernel
theorem d_K_latestOn_63 : decode b_K_latestOn 63 = .ok (.aload_n 0, 1) := by decide +kernel
theorem d_K_latestOn_64 : decode b_K_latestOn 64 = .ok (.getfield 22, 3) := by decide +kernel
theorem d_K_latestOn_67 : decode b_K_latestOn 67 = .ok (.iload 4, 2) := by decide +kernel
theorem d_K_latestOn_69 : decode b_K_latestOn 69 = .ok (.laload, 1) := by decide +kernel
theorem d_K_latestOn_70 : decode b_K_latestOn 70 = .ok (.lcmp, 1) := by decide +kernel
theorem d_K_latestOn_71 : decode b_K_latestOn 71 = .ok (.ifCond .le 7, 3) := by decide +kernel
theorem d_K_latestOn_74 : decode b_K_latestOn 74 = .ok (.iload 5, 2) := by decide +kernel
theorem d_K_latestOn_76 : decode b_K_latestOn 76 = .ok (.istore 4, 2) := by decide +kernel
theorem d_K_latestOn_78 : decode b_K_latestOn 78 = .ok (.iinc 5 1, 3) := by decide +kernel
theorem d_K_latestOn_81 : decode b_K_latestOn 81 = .ok (.goto (-75), 3) := by decide +kernel
theorem d_K_latestOn_84 : decode b_K_latestOn 84 = .ok (.iload 4, 2) := by decide +kernel
theorem d_K_latestOn_86 : decode b_K_latestOn 86 = .ok (.iconst (-1), 1) := by decide +kernel
theorem d_K_latestOn_87 : decode b_K_latestOn 87 = .ok (.if_icmp .ne 7, 3) := by decide +kernel
theorem d_K_latestOn_90 : decode b_K_latestOn 90 = .ok (.iconst 0, 1) := by decide +kernel
theorem d_K_latestOn_91 : decode b_K_latestOn 91 = .ok (.goto 10, 3) := by decide +kernel
theorem d_K_latestOn_94 : decode b_K_latestOn 94 = .ok (.aload_n 0, 1) := by decide +kernel
theorem d_K_latestOn_95 : decode b_K_latestOn 95 = .ok (.getfield 19, 3) := by decide +kernel
theorem d_K_latestOn_98 : decode b_K_latestOn 98 = .ok (.iload 4, 2) := by decide +kernel
theorem d_K_latestOn_100 : decode b_K_latestOn 100 = .ok (.iaload, 1) := by decide +kernel
theorem d_K_latestOn_101 : decode b_K_latestOn 101 = .ok (.ireturn, 1) := by decide +kernel
theorem d_K_removeLaterOf_0 : decode b_K_removeLaterOf 0 = .ok (.iconst 0, 1) := by decide +kernel
theorem d_K_removeLaterOf_1 : decode b_K_removeLaterOf 1 = .ok (.istore_n 2, 1) := by decide +kernel
theorem d_K_removeLaterOf_2 : decode b_K_removeLaterOf 2 = .ok (.iconst 0, 1) := by decide +kernel
theorem d_K_removeLaterOf_3 : decode b_K_removeLaterOf 3 = .ok (.istore_n 3, 1) := by decide +kernel
theorem d_K_removeLaterOf_4 : decode b_K_removeLaterOf 4 = .ok (.iload_n 3, 1) := by decide +kernel
theorem d_K_removeLaterOf_5 : decode b_K_removeLaterOf 5 = .ok (.aload_n 0, 1) := by decide +kernel
theorem d_K_removeLaterOf_6 : decode b_K_removeLaterOf 6 = .ok (.getfield 25, 3) := by decide +kernel
theorem d_K_removeLaterOf_9 : decode b_K_removeLaterOf 9 = .ok (.if_icmp .ge 55, 3) := by decide +kernel
theorem d_K_removeLaterOf_12 : decode b_K_removeLaterOf 12 = .ok (.aload_n 0, 1) := by decide +kernel
theorem d_K_removeLaterOf_13 : decode b_K_removeLaterOf 13 = .ok (.getfield 15, 3) := by decide +kernel
theorem d_K_removeLaterOf_16 : decode b_K_removeLaterOf 16 = .ok (.iload_n 3, 1) := by decide +kernel
theorem d_K_removeLaterOf_17 : decode b_K_removeLaterOf 17 = .ok (.iaload, 1) := by decide +kernel
theorem d_K_removeLaterOf_18 : decode b_K_removeLaterOf 18 = .ok (.iload_n 1, 1) := by decide +kernel
theorem d_K_removeLaterOf_19 : decode b_K_removeLaterOf 19 = .ok (.if_icmp .eq 39, 3) := by decide +kernel
theorem d_K_removeLaterOf_22 : decode b_K_removeLaterOf 22 = .ok (.aload_n 0, 1) := by decide +kernel
theorem d_K_removeLaterOf_23 : decode b_K_removeLaterOf 23 = .ok (.getfield 19, 3) := by decide +kernel
theorem d_K_removeLaterOf_26 : decode b_K_removeLaterOf 26 = .ok (.iload_n 3, 1) := by decide +kernel
theorem d_K_removeLaterOf_27 : decode b_K_removeLaterOf 27 = .ok (.iaload, 1) := by decide +kernel
theorem d_K_removeLaterOf_28 : decode b_K_removeLaterOf 28 = .ok (.iload_n 1, 1) := by decide +kernel
theorem d_K_removeLaterOf_29 : decode b_K_removeLaterOf 29 = .ok (.if_icmp .eq 29, 3) := by decide +kernel
theorem d_K_removeLaterOf_32 : decode b_K_removeLaterOf 32 = .ok (.aload_n 0, 1) := by decide +kernel
theorem d_K_removeLaterOf_33 : decode b_K_removeLaterOf 33 = .ok (.iload_n 2, 1) := by decide +kernel
theorem d_K_removeLaterOf_34 : decode b_K_removeLaterOf 34 = .ok (.aload_n 0, 1) := by decide +kernel
theorem d_K_removeLaterOf_35 : decode b_K_removeLaterOf 35 = .ok (.getfield 15, 3) := by decide +kernel
theorem d_K_removeLaterOf_38 : decode b_K_removeLaterOf 38 = .ok (.iload_n 3, 1) := by decide +kernel
theorem d_K_removeLaterOf_39 : decode b_K_removeLaterOf 39 = .ok (.iaload, 1) := by decide +kernel
theorem d_K_removeLaterOf_40 : decode b_K_removeLaterOf 40 = .ok (.aload_n 0, 1) := by decide +kernel
theorem d_K_removeLaterOf_41 : decode b_K_removeLaterOf 41 = .ok (.getfield 19, 3) := by decide +kernel
theorem d_K_removeLaterOf_44 : decode b_K_removeLaterOf 44 = .ok (.iload_n 3, 1) := by decide +kernel
theorem d_K_removeLaterOf_45 : decode b_K_removeLaterOf 45 = .ok (.iaload, 1) := by decide +kernel
theorem d_K_removeLaterOf_46 : decode b_K_removeLaterOf 46 = .ok (.aload_n 0, 1) := by decide +kernel
theorem d_K_removeLaterOf_47 : decode b_K_removeLaterOf 47 = .ok (.getfield 22, 3) := by decide +kernel
theorem d_K_removeLaterOf_50 : decode b_K_removeLaterOf 50 = .ok (.iload_n 3, 1) := by decide +kernel
theorem d_K_removeLaterOf_51 : decode b_K_removeLaterOf 51 = .ok (.laload, 1) := by decide +kernel
theorem d_K_removeLaterOf_52 : decode b_K_removeLaterOf 52 = .ok (.invokevirtual 45, 3) := by decide +kernel
theorem d_K_removeLaterOf_55 : decode b_K_removeLaterOf 55 = .ok (.iinc 2 1, 3) := by decide +kernel
theorem d_K_removeLaterOf_58 : decode b_K_removeLaterOf 58 = .ok (.iinc 3 1, 3) := by decide +kernel
theorem d_K_removeLaterOf_61 : decode b_K_removeLaterOf 61 = .ok (.goto (-57), 3) := by decide +kernel
theorem d_K_removeLaterOf_64 : decode b_K_removeLaterOf 64 = .ok (.aload_n 0, 1) := by decide +kernel
theorem d_K_removeLaterOf_65 : decode b_K_removeLaterOf 65 = .ok (.iload_n 2, 1) := by decide +kernel
theorem d_K_removeLaterOf_66 : decode b_K_removeLaterOf 66 = .ok (.putfield 25, 3) := by decide +kernel
theorem d_K_removeLaterOf_69 : decode b_K_removeLaterOf 69 = .ok (.return_, 1) := by decide +kernel
theorem d_K_putLater_0 : decode b_K_putLater 0 = .ok (.aload_n 0, 1) := by decide +kernel
theorem d_K_putLater_1 : decode b_K_putLater 1 = .ok (.getfield 15, 3) := by decide +kernel
theorem d_K_putLater_4 : decode b_K_putLater 4 = .ok (.iload_n 1, 1) := by decide +kernel
theorem d_K_putLater_5 : decode b_K_putLater 5 = .ok (.iload_n 2, 1) := by decide +kernel
theorem d_K_putLater_6 : decode b_K_putLater 6 = .ok (.iastore, 1) := by decide +kernel
theorem d_K_putLater_7 : decode b_K_putLater 7 = .ok (.aload_n 0, 1) := by decide +kernel
theorem d_K_putLater_8 : decode b_K_putLater 8 = .ok (.getfield 19, 3) := by decide +kernel
theorem d_K_putLater_11 : decode b_K_putLater 11 = .ok (.iload_n 1, 1) := by decide +kernel
theorem d_K_putLater_12 : decode b_K_putLater 12 = .ok (.iload_n 3, 1) := by decide +kernel
theorem d_K_putLater_13 : decode b_K_putLater 13 = .ok (.iastore, 1) := by decide +kernel
theorem d_K_putLater_14 : decode b_K_putLater 14 = .ok (.aload_n 0, 1) := by decide +kernel
theorem d_K_putLater_15 : decode b_K_putLater 15 = .ok (.getfield 22, 3) := by decide +kernel
theorem d_K_putLater_18 : decode b_K_putLater 18 = .ok (.iload_n 1, 1) := by decide +kernel
theorem d_K_putLater_19 : decode b_K_putLater 19 = .ok (.lload 4, 2) := by decide +kernel
theorem d_K_putLater_21 : decode b_K_putLater 21 = .ok (.lastore, 1) := by decide +kernel
theorem d_K_putLater_22 : decode b_K_putLater 22 = .ok (.return_, 1) := by decide +kernel
theorem d_R_init_0 : decode b_R_init 0 = .ok (.aload_n 0, 1) := by decide +kernel
theorem d_R_init_1 : decode b_R_init 1 = .ok (.invokespecial 3, 3) := by decide +kernel
theorem d_R_init_4 : decode b_R_init 4 = .ok (.aload_n 0, 1) := by decide +kernel
theorem d_R_init_5 : decode b_R_init 5 = .ok (.bipush 61, 2) := by decide +kernel
theorem d_R_init_7 : decode b_R_init 7 = .ok (.newarray .int, 2) := by decide +kernel
theorem d_R_init_9 : decode b_R_init 9 = .ok (.putfield 9, 3) := by decide +kernel
theorem d_R_init_12 : decode b_R_init 12 = .ok (.aload_n 0, 1) := by decide +kernel
theorem d_R_init_13 : decode b_R_init 13 = .ok (.bipush 61, 2) := by decide +kernel
theorem d_R_init_15 : decode b_R_init 15 = .ok (.newarray .long, 2) := by decide +kernel
theorem d_R_init_17 : decode b_R_init 17 = .ok (.putfield 15, 3) := by decide +kernel
theorem d_R_init_20 : decode b_R_init 20 = .ok (.aload_n 0, 1) := by decide +kernel
theorem d_R_init_21 : decode b_R_init 21 = .ok (.iconst 0, 1) := by decide +kernel
theorem d_R_init_22 : decode b_R_init 22 = .ok (.putfield 19, 3) := by decide +kernel
theorem d_R_init_25 : decode b_R_init 25 = .ok (.return_, 1) := by decide +kernel
theorem d_R_isFull_0 : decode b_R_isFull 0 = .ok (.aload_n 0, 1) := by decide +kernel
theorem d_R_isFull_1 : decode b_R_isFull 1 = .ok (.getfield 19, 3) := by decide +kernel
theorem d_R_isFull_4 : decode b_R_isFull 4 = .ok (.bipush 60, 2) := by decide +kernel
theorem d_R_isFull_6 : decode b_R_isFull 6 = .ok (.if_icmp .lt 7, 3) := by decide +kernel
theorem d_R_isFull_9 : decode b_R_isFull 9 = .ok (.iconst 1, 1) := by decide +kernel
theorem d_R_isFull_10 : decode b_R_isFull 10 = .ok (.goto 4, 3) := by decide +kernel
theorem d_R_isFull_13 : decode b_R_isFull 13 = .ok (.iconst 0, 1) := by decide +kernel
theorem d_R_isFull_14 : decode b_R_isFull 14 = .ok (.ireturn, 1) := by decide +kernel
theorem d_R_add_0 : decode b_R_add 0 = .ok (.aload_n 0, 1) := by decide +kernel
theorem d_R_add_1 : decode b_R_add 1 = .ok (.invokevirtual 23, 3) := by decide +kernel
theorem d_R_add_4 : decode b_R_add 4 = .ok (.ifCond .eq 5, 3) := by decide +kernel
theorem d_R_add_7 : decode b_R_add 7 = .ok (.iconst 0, 1) := by decide +kernel
theorem d_R_add_8 : decode b_R_add 8 = .ok (.ireturn, 1) := by decide +kernel
theorem d_R_add_9 : decode b_R_add 9 = .ok (.aload_n 0, 1) := by decide +kernel
theorem d_R_add_10 : decode b_R_add 10 = .ok (.dup, 1) := by decide +kernel
theorem d_R_add_11 : decode b_R_add 11 = .ok (.getfield 19, 3) := by decide +kernel
theorem d_R_add_14 : decode b_R_add 14 = .ok (.iconst 1, 1) := by decide +kernel
theorem d_R_add_15 : decode b_R_add 15 = .ok (.iadd, 1) := by decide +kernel
theorem d_R_add_16 : decode b_R_add 16 = .ok (.putfield 19, 3) := by decide +kernel
theorem d_R_add_19 : decode b_R_add 19 = .ok (.aload_n 0, 1) := by decide +kernel
theorem d_R_add_20 : decode b_R_add 20 = .ok (.getfield 9, 3) := by decide +kernel
theorem d_R_add_23 : decode b_R_add 23 = .ok (.aload_n 0, 1) := by decide +kernel
theorem d_R_add_24 : decode b_R_add 24 = .ok (.getfield 19, 3) := by decide +kernel
theorem d_R_add_27 : decode b_R_add 27 = .ok (.iload_n 1, 1) := by decide +kernel
theorem d_R_add_28 : decode b_R_add 28 = .ok (.iastore, 1) := by decide +kernel
theorem d_R_add_29 : decode b_R_add 29 = .ok (.aload_n 0, 1) := by decide +kernel
theorem d_R_add_30 : decode b_R_add 30 = .ok (.getfield 15, 3) := by decide +kernel
theorem d_R_add_33 : decode b_R_add 33 = .ok (.aload_n 0, 1) := by decide +kernel
theorem d_R_add_34 : decode b_R_add 34 = .ok (.getfield 19, 3) := by decide +kernel
theorem d_R_add_37 : decode b_R_add 37 = .ok (.lload_n 2, 1) := by decide +kernel
theorem d_R_add_38 : decode b_R_add 38 = .ok (.lastore, 1) := by decide +kernel
theorem d_R_add_39 : decode b_R_add 39 = .ok (.aload_n 0, 1) := by decide +kernel
theorem d_R_add_40 : decode b_R_add 40 = .ok (.getfield 19, 3) := by decide +kernel
theorem d_R_add_43 : decode b_R_add 43 = .ok (.ireturn, 1) := by decide +kernel
theorem d_R_headingOf_0 : decode b_R_headingOf 0 = .ok (.iload_n 1, 1) := by decide +kernel
theorem d_R_headingOf_1 : decode b_R_headingOf 1 = .ok (.iconst 1, 1) := by decide +kernel
theorem d_R_headingOf_2 : decode b_R_headingOf 2 = .ok (.if_icmp .lt 20, 3) := by decide +kernel
theorem d_R_headingOf_5 : decode b_R_headingOf 5 = .ok (.iload_n 1, 1) := by decide +kernel
theorem d_R_headingOf_6 : decode b_R_headingOf 6 = .ok (.aload_n 0, 1) := by decide +kernel
theorem d_R_headingOf_7 : decode b_R_headingOf 7 = .ok (.getfield 19, 3) := by decide +kernel
theorem d_R_headingOf_10 : decode b_R_headingOf 10 = .ok (.if_icmp .gt 12, 3) := by decide +kernel
theorem d_R_headingOf_13 : decode b_R_headingOf 13 = .ok (.aload_n 0, 1) := by decide +kernel
theorem d_R_headingOf_14 : decode b_R_headingOf 14 = .ok (.getfield 9, 3) := by decide +kernel
theorem d_R_headingOf_17 : decode b_R_headingOf 17 = .ok (.iload_n 1, 1) := by decide +kernel
theorem d_R_headingOf_18 : decode b_R_headingOf 18 = .ok (.iaload, 1) := by decide +kernel
theorem d_R_headingOf_19 : decode b_R_headingOf 19 = .ok (.goto 4, 3) := by decide +kernel
theorem d_R_headingOf_22 : decode b_R_headingOf 22 = .ok (.iconst 0, 1) := by decide +kernel
theorem d_R_headingOf_23 : decode b_R_headingOf 23 = .ok (.ireturn, 1) := by decide +kernel
theorem d_R_countOf_0 : decode b_R_countOf 0 = .ok (.iconst 0, 1) := by decide +kernel
theorem d_R_countOf_1 : decode b_R_countOf 1 = .ok (.istore_n 2, 1) := by decide +kernel
theorem d_R_countOf_2 : decode b_R_countOf 2 = .ok (.iconst 1, 1) := by decide +kernel
theorem d_R_countOf_3 : decode b_R_countOf 3 = .ok (.istore_n 3, 1) := by decide +kernel
theorem d_R_countOf_4 : decode b_R_countOf 4 = .ok (.iload_n 3, 1) := by decide +kernel
theorem d_R_countOf_5 : decode b_R_countOf 5 = .ok (.aload_n 0, 1) := by decide +kernel
end
section
theorem d_R_countOf_6 : decode b_R_countOf 6 = .ok (.getfield 19, 3) := by decide +kernel
theorem d_R_countOf_9 : decode b_R_countOf 9 = .ok (.if_icmp .gt 22, 3) := by decide +kernel
theorem d_R_countOf_12 : decode b_R_countOf 12 = .ok (.aload_n 0, 1) := by decide +kernel
theorem d_R_countOf_13 : decode b_R_countOf 13 = .ok (.getfield 9, 3) := by decide +kernel
theorem d_R_countOf_16 : decode b_R_countOf 16 = .ok (.iload_n 3, 1) := by decide +kernel
theorem d_R_countOf_17 : decode b_R_countOf 17 = .ok (.iaload, 1) := by decide +kernel
theorem d_R_countOf_18 : decode b_R_countOf 18 = .ok (.iload_n 1, 1) := by decide +kernel
theorem d_R_countOf_19 : decode b_R_countOf 19 = .ok (.if_icmp .ne 6, 3) := by decide +kernel
theorem d_R_countOf_22 : decode b_R_countOf 22 = .ok (.iinc 2 1, 3) := by decide +kernel
theorem d_R_countOf_25 : decode b_R_countOf 25 = .ok (.iinc 3 1, 3) := by decide +kernel
theorem d_R_countOf_28 : decode b_R_countOf 28 = .ok (.goto (-24), 3) := by decide +kernel
theorem d_R_countOf_31 : decode b_R_countOf 31 = .ok (.iload_n 2, 1) := by decide +kernel
theorem d_R_countOf_32 : decode b_R_countOf 32 = .ok (.ireturn, 1) := by decide +kernel
theorem d_R_move_0 : decode b_R_move 0 = .ok (.iconst 1, 1) := by decide +kernel
theorem d_R_move_1 : decode b_R_move 1 = .ok (.istore 5, 2) := by decide +kernel
theorem d_R_move_3 : decode b_R_move 3 = .ok (.iload 5, 2) := by decide +kernel
theorem d_R_move_5 : decode b_R_move 5 = .ok (.aload_n 0, 1) := by decide +kernel
theorem d_R_move_6 : decode b_R_move 6 = .ok (.getfield 19, 3) := by decide +kernel
theorem d_R_move_9 : decode b_R_move 9 = .ok (.if_icmp .gt 40, 3) := by decide +kernel
theorem d_R_move_12 : decode b_R_move 12 = .ok (.aload_n 0, 1) := by decide +kernel
theorem d_R_move_13 : decode b_R_move 13 = .ok (.getfield 9, 3) := by decide +kernel
theorem d_R_move_16 : decode b_R_move 16 = .ok (.iload 5, 2) := by decide +kernel
theorem d_R_move_18 : decode b_R_move 18 = .ok (.iaload, 1) := by decide +kernel
theorem d_R_move_19 : decode b_R_move 19 = .ok (.iload_n 1, 1) := by decide +kernel
theorem d_R_move_20 : decode b_R_move 20 = .ok (.if_icmp .ne 23, 3) := by decide +kernel
theorem d_R_move_23 : decode b_R_move 23 = .ok (.aload_n 0, 1) := by decide +kernel
theorem d_R_move_24 : decode b_R_move 24 = .ok (.getfield 15, 3) := by decide +kernel
theorem d_R_move_27 : decode b_R_move 27 = .ok (.iload 5, 2) := by decide +kernel
theorem d_R_move_29 : decode b_R_move 29 = .ok (.laload, 1) := by decide +kernel
theorem d_R_move_30 : decode b_R_move 30 = .ok (.lload_n 3, 1) := by decide +kernel
theorem d_R_move_31 : decode b_R_move 31 = .ok (.lcmp, 1) := by decide +kernel
theorem d_R_move_32 : decode b_R_move 32 = .ok (.ifCond .lt 11, 3) := by decide +kernel
theorem d_R_move_35 : decode b_R_move 35 = .ok (.aload_n 0, 1) := by decide +kernel
theorem d_R_move_36 : decode b_R_move 36 = .ok (.getfield 9, 3) := by decide +kernel
theorem d_R_move_39 : decode b_R_move 39 = .ok (.iload 5, 2) := by decide +kernel
theorem d_R_move_41 : decode b_R_move 41 = .ok (.iload_n 2, 1) := by decide +kernel
theorem d_R_move_42 : decode b_R_move 42 = .ok (.iastore, 1) := by decide +kernel
theorem d_R_move_43 : decode b_R_move 43 = .ok (.iinc 5 1, 3) := by decide +kernel
theorem d_R_move_46 : decode b_R_move 46 = .ok (.goto (-43), 3) := by decide +kernel
theorem d_R_move_49 : decode b_R_move 49 = .ok (.return_, 1) := by decide +kernel
theorem d_T_init_0 : decode b_T_init 0 = .ok (.aload_n 0, 1) := by decide +kernel
theorem d_T_init_1 : decode b_T_init 1 = .ok (.invokespecial 3, 3) := by decide +kernel
theorem d_T_init_4 : decode b_T_init 4 = .ok (.aload_n 0, 1) := by decide +kernel
theorem d_T_init_5 : decode b_T_init 5 = .ok (.bipush 20, 2) := by decide +kernel
theorem d_T_init_7 : decode b_T_init 7 = .ok (.newarray .char, 2) := by decide +kernel
theorem d_T_init_9 : decode b_T_init 9 = .ok (.putfield 9, 3) := by decide +kernel
theorem d_T_init_12 : decode b_T_init 12 = .ok (.aload_n 0, 1) := by decide +kernel
theorem d_T_init_13 : decode b_T_init 13 = .ok (.iconst 0, 1) := by decide +kernel
theorem d_T_init_14 : decode b_T_init 14 = .ok (.putfield 15, 3) := by decide +kernel
theorem d_T_init_17 : decode b_T_init 17 = .ok (.return_, 1) := by decide +kernel
theorem d_T_clear_0 : decode b_T_clear 0 = .ok (.aload_n 0, 1) := by decide +kernel
theorem d_T_clear_1 : decode b_T_clear 1 = .ok (.iconst 0, 1) := by decide +kernel
theorem d_T_clear_2 : decode b_T_clear 2 = .ok (.putfield 15, 3) := by decide +kernel
theorem d_T_clear_5 : decode b_T_clear 5 = .ok (.return_, 1) := by decide +kernel
theorem d_T_add_0 : decode b_T_add 0 = .ok (.aload_n 0, 1) := by decide +kernel
theorem d_T_add_1 : decode b_T_add 1 = .ok (.getfield 15, 3) := by decide +kernel
theorem d_T_add_4 : decode b_T_add 4 = .ok (.bipush 20, 2) := by decide +kernel
theorem d_T_add_6 : decode b_T_add 6 = .ok (.if_icmp .ge 23, 3) := by decide +kernel
theorem d_T_add_9 : decode b_T_add 9 = .ok (.aload_n 0, 1) := by decide +kernel
theorem d_T_add_10 : decode b_T_add 10 = .ok (.getfield 9, 3) := by decide +kernel
theorem d_T_add_13 : decode b_T_add 13 = .ok (.aload_n 0, 1) := by decide +kernel
theorem d_T_add_14 : decode b_T_add 14 = .ok (.getfield 15, 3) := by decide +kernel
theorem d_T_add_17 : decode b_T_add 17 = .ok (.iload_n 1, 1) := by decide +kernel
theorem d_T_add_18 : decode b_T_add 18 = .ok (.castore, 1) := by decide +kernel
theorem d_T_add_19 : decode b_T_add 19 = .ok (.aload_n 0, 1) := by decide +kernel
theorem d_T_add_20 : decode b_T_add 20 = .ok (.dup, 1) := by decide +kernel
theorem d_T_add_21 : decode b_T_add 21 = .ok (.getfield 15, 3) := by decide +kernel
theorem d_T_add_24 : decode b_T_add 24 = .ok (.iconst 1, 1) := by decide +kernel
theorem d_T_add_25 : decode b_T_add 25 = .ok (.iadd, 1) := by decide +kernel
theorem d_T_add_26 : decode b_T_add 26 = .ok (.putfield 15, 3) := by decide +kernel
theorem d_T_add_29 : decode b_T_add 29 = .ok (.return_, 1) := by decide +kernel
theorem d_Y_init_0 : decode b_Y_init 0 = .ok (.aload_n 0, 1) := by decide +kernel
theorem d_Y_init_1 : decode b_Y_init 1 = .ok (.invokespecial 3, 3) := by decide +kernel
theorem d_Y_init_4 : decode b_Y_init 4 = .ok (.aload_n 0, 1) := by decide +kernel
theorem d_Y_init_5 : decode b_Y_init 5 = .ok (.bipush 60, 2) := by decide +kernel
theorem d_Y_init_7 : decode b_Y_init 7 = .ok (.newarray .int, 2) := by decide +kernel
theorem d_Y_init_9 : decode b_Y_init 9 = .ok (.putfield 9, 3) := by decide +kernel
theorem d_Y_init_12 : decode b_Y_init 12 = .ok (.aload_n 0, 1) := by decide +kernel
theorem d_Y_init_13 : decode b_Y_init 13 = .ok (.iconst 0, 1) := by decide +kernel
theorem d_Y_init_14 : decode b_Y_init 14 = .ok (.putfield 15, 3) := by decide +kernel
theorem d_Y_init_17 : decode b_Y_init 17 = .ok (.aload_n 0, 1) := by decide +kernel
theorem d_Y_init_18 : decode b_Y_init 18 = .ok (.bipush 61, 2) := by decide +kernel
theorem d_Y_init_20 : decode b_Y_init 20 = .ok (.newarray .long, 2) := by decide +kernel
theorem d_Y_init_22 : decode b_Y_init 22 = .ok (.putfield 19, 3) := by decide +kernel
theorem d_Y_init_25 : decode b_Y_init 25 = .ok (.return_, 1) := by decide +kernel
theorem d_Y_at_0 : decode b_Y_at 0 = .ok (.iload_n 1, 1) := by decide +kernel
theorem d_Y_at_1 : decode b_Y_at 1 = .ok (.ifCond .lt 20, 3) := by decide +kernel
theorem d_Y_at_4 : decode b_Y_at 4 = .ok (.iload_n 1, 1) := by decide +kernel
theorem d_Y_at_5 : decode b_Y_at 5 = .ok (.aload_n 0, 1) := by decide +kernel
theorem d_Y_at_6 : decode b_Y_at 6 = .ok (.getfield 15, 3) := by decide +kernel
theorem d_Y_at_9 : decode b_Y_at 9 = .ok (.if_icmp .ge 12, 3) := by decide +kernel
theorem d_Y_at_12 : decode b_Y_at 12 = .ok (.aload_n 0, 1) := by decide +kernel
theorem d_Y_at_13 : decode b_Y_at 13 = .ok (.getfield 9, 3) := by decide +kernel
theorem d_Y_at_16 : decode b_Y_at 16 = .ok (.iload_n 1, 1) := by decide +kernel
theorem d_Y_at_17 : decode b_Y_at 17 = .ok (.iaload, 1) := by decide +kernel
theorem d_Y_at_18 : decode b_Y_at 18 = .ok (.goto 4, 3) := by decide +kernel
theorem d_Y_at_21 : decode b_Y_at 21 = .ok (.iconst 0, 1) := by decide +kernel
theorem d_Y_at_22 : decode b_Y_at 22 = .ok (.ireturn, 1) := by decide +kernel
theorem d_Y_lay_0 : decode b_Y_lay 0 = .ok (.aload_n 0, 1) := by decide +kernel
theorem d_Y_lay_1 : decode b_Y_lay 1 = .ok (.aload_n 1, 1) := by decide +kernel
theorem d_Y_lay_2 : decode b_Y_lay 2 = .ok (.iload_n 2, 1) := by decide +kernel
theorem d_Y_lay_3 : decode b_Y_lay 3 = .ok (.iload_n 3, 1) := by decide +kernel
theorem d_Y_lay_4 : decode b_Y_lay 4 = .ok (.iload 4, 2) := by decide +kernel
theorem d_Y_lay_6 : decode b_Y_lay 6 = .ok (.invokevirtual 23, 3) := by decide +kernel
theorem d_Y_lay_9 : decode b_Y_lay 9 = .ok (.istore 5, 2) := by decide +kernel
theorem d_Y_lay_11 : decode b_Y_lay 11 = .ok (.iload 5, 2) := by decide +kernel
theorem d_Y_lay_13 : decode b_Y_lay 13 = .ok (.iconst (-1), 1) := by decide +kernel
theorem d_Y_lay_14 : decode b_Y_lay 14 = .ok (.if_icmp .ne 5, 3) := by decide +kernel
theorem d_Y_lay_17 : decode b_Y_lay 17 = .ok (.iconst 0, 1) := by decide +kernel
theorem d_Y_lay_18 : decode b_Y_lay 18 = .ok (.ireturn, 1) := by decide +kernel
theorem d_Y_lay_19 : decode b_Y_lay 19 = .ok (.aload_n 0, 1) := by decide +kernel
theorem d_Y_lay_20 : decode b_Y_lay 20 = .ok (.aload_n 1, 1) := by decide +kernel
theorem d_Y_lay_21 : decode b_Y_lay 21 = .ok (.iload_n 2, 1) := by decide +kernel
theorem d_Y_lay_22 : decode b_Y_lay 22 = .ok (.iload_n 3, 1) := by decide +kernel
theorem d_Y_lay_23 : decode b_Y_lay 23 = .ok (.iload 5, 2) := by decide +kernel
theorem d_Y_lay_25 : decode b_Y_lay 25 = .ok (.invokevirtual 27, 3) := by decide +kernel
theorem d_Y_lay_28 : decode b_Y_lay 28 = .ok (.iconst 1, 1) := by decide +kernel
theorem d_Y_lay_29 : decode b_Y_lay 29 = .ok (.ireturn, 1) := by decide +kernel
theorem d_Y_measure_0 : decode b_Y_measure 0 = .ok (.iload 4, 2) := by decide +kernel
theorem d_Y_measure_2 : decode b_Y_measure 2 = .ok (.invokestatic 31, 3) := by decide +kernel
theorem d_Y_measure_5 : decode b_Y_measure 5 = .ok (.lstore 5, 2) := by decide +kernel
theorem d_Y_measure_7 : decode b_Y_measure 7 = .ok (.aload_n 0, 1) := by decide +kernel
theorem d_Y_measure_8 : decode b_Y_measure 8 = .ok (.getfield 19, 3) := by decide +kernel
theorem d_Y_measure_11 : decode b_Y_measure 11 = .ok (.iconst 0, 1) := by decide +kernel
theorem d_Y_measure_12 : decode b_Y_measure 12 = .ok (.lload 5, 2) := by decide +kernel
theorem d_Y_measure_14 : decode b_Y_measure 14 = .ok (.lastore, 1) := by decide +kernel
theorem d_Y_measure_15 : decode b_Y_measure 15 = .ok (.iconst 0, 1) := by decide +kernel
theorem d_Y_measure_16 : decode b_Y_measure 16 = .ok (.istore 7, 2) := by decide +kernel
theorem d_Y_measure_18 : decode b_Y_measure 18 = .ok (.iload 7, 2) := by decide +kernel
theorem d_Y_measure_20 : decode b_Y_measure 20 = .ok (.bipush 60, 2) := by decide +kernel
theorem d_Y_measure_22 : decode b_Y_measure 22 = .ok (.if_icmp .ge 80, 3) := by decide +kernel
theorem d_Y_measure_25 : decode b_Y_measure 25 = .ok (.aload_n 0, 1) := by decide +kernel
theorem d_Y_measure_26 : decode b_Y_measure 26 = .ok (.getfield 19, 3) := by decide +kernel
theorem d_Y_measure_29 : decode b_Y_measure 29 = .ok (.iload 7, 2) := by decide +kernel
theorem d_Y_measure_31 : decode b_Y_measure 31 = .ok (.laload, 1) := by decide +kernel
theorem d_Y_measure_32 : decode b_Y_measure 32 = .ok (.lconst 0, 1) := by decide +kernel
theorem d_Y_measure_33 : decode b_Y_measure 33 = .ok (.lcmp, 1) := by decide +kernel
theorem d_Y_measure_34 : decode b_Y_measure 34 = .ok (.ifCond .eq 68, 3) := by decide +kernel
theorem d_Y_measure_37 : decode b_Y_measure 37 = .ok (.aload_n 0, 1) := by decide +kernel
theorem d_Y_measure_38 : decode b_Y_measure 38 = .ok (.getfield 19, 3) := by decide +kernel
theorem d_Y_measure_41 : decode b_Y_measure 41 = .ok (.iload 7, 2) := by decide +kernel
theorem d_Y_measure_43 : decode b_Y_measure 43 = .ok (.laload, 1) := by decide +kernel
theorem d_Y_measure_44 : decode b_Y_measure 44 = .ok (.iload_n 3, 1) := by decide +kernel
theorem d_Y_measure_45 : decode b_Y_measure 45 = .ok (.invokestatic 35, 3) := by decide +kernel
theorem d_Y_measure_48 : decode b_Y_measure 48 = .ok (.ifCond .eq 6, 3) := by decide +kernel
theorem d_Y_measure_51 : decode b_Y_measure 51 = .ok (.iload 7, 2) := by decide +kernel
theorem d_Y_measure_53 : decode b_Y_measure 53 = .ok (.ireturn, 1) := by decide +kernel
theorem d_Y_measure_54 : decode b_Y_measure 54 = .ok (.aload_n 0, 1) := by decide +kernel
theorem d_Y_measure_55 : decode b_Y_measure 55 = .ok (.getfield 19, 3) := by decide +kernel
theorem d_Y_measure_58 : decode b_Y_measure 58 = .ok (.iload 7, 2) := by decide +kernel
theorem d_Y_measure_60 : decode b_Y_measure 60 = .ok (.iconst 1, 1) := by decide +kernel
theorem d_Y_measure_61 : decode b_Y_measure 61 = .ok (.iadd, 1) := by decide +kernel
theorem d_Y_measure_62 : decode b_Y_measure 62 = .ok (.aload_n 1, 1) := by decide +kernel
theorem d_Y_measure_63 : decode b_Y_measure 63 = .ok (.iload_n 2, 1) := by decide +kernel
theorem d_Y_measure_64 : decode b_Y_measure 64 = .ok (.aload_n 0, 1) := by decide +kernel
theorem d_Y_measure_65 : decode b_Y_measure 65 = .ok (.getfield 19, 3) := by decide +kernel
theorem d_Y_measure_68 : decode b_Y_measure 68 = .ok (.iload 7, 2) := by decide +kernel
theorem d_Y_measure_70 : decode b_Y_measure 70 = .ok (.laload, 1) := by decide +kernel
theorem d_Y_measure_71 : decode b_Y_measure 71 = .ok (.invokevirtual 39, 3) := by decide +kernel
theorem d_Y_measure_74 : decode b_Y_measure 74 = .ok (.lload 5, 2) := by decide +kernel
theorem d_Y_measure_76 : decode b_Y_measure 76 = .ok (.ldc2_w 45, 3) := by decide +kernel
theorem d_Y_measure_79 : decode b_Y_measure 79 = .ok (.lxor, 1) := by decide +kernel
theorem d_Y_measure_80 : decode b_Y_measure 80 = .ok (.land, 1) := by decide +kernel
theorem d_Y_measure_81 : decode b_Y_measure 81 = .ok (.lastore, 1) := by decide +kernel
theorem d_Y_measure_82 : decode b_Y_measure 82 = .ok (.lload 5, 2) := by decide +kernel
theorem d_Y_measure_84 : decode b_Y_measure 84 = .ok (.aload_n 0, 1) := by decide +kernel
theorem d_Y_measure_85 : decode b_Y_measure 85 = .ok (.getfield 19, 3) := by decide +kernel
theorem d_Y_measure_88 : decode b_Y_measure 88 = .ok (.iload 7, 2) := by decide +kernel
theorem d_Y_measure_90 : decode b_Y_measure 90 = .ok (.iconst 1, 1) := by decide +kernel
theorem d_Y_measure_91 : decode b_Y_measure 91 = .ok (.iadd, 1) := by decide +kernel
theorem d_Y_measure_92 : decode b_Y_measure 92 = .ok (.laload, 1) := by decide +kernel
theorem d_Y_measure_93 : decode b_Y_measure 93 = .ok (.lor, 1) := by decide +kernel
theorem d_Y_measure_94 : decode b_Y_measure 94 = .ok (.lstore 5, 2) := by decide +kernel
theorem d_Y_measure_96 : decode b_Y_measure 96 = .ok (.iinc 7 1, 3) := by decide +kernel
theorem d_Y_measure_99 : decode b_Y_measure 99 = .ok (.goto (-81), 3) := by decide +kernel
theorem d_Y_measure_102 : decode b_Y_measure 102 = .ok (.iconst (-1), 1) := by decide +kernel
theorem d_Y_measure_103 : decode b_Y_measure 103 = .ok (.ireturn, 1) := by decide +kernel
theorem d_Y_walk_0 : decode b_Y_walk 0 = .ok (.aload_n 0, 1) := by decide +kernel
theorem d_Y_walk_1 : decode b_Y_walk 1 = .ok (.getfield 9, 3) := by decide +kernel
theorem d_Y_walk_4 : decode b_Y_walk 4 = .ok (.iconst 0, 1) := by decide +kernel
theorem d_Y_walk_5 : decode b_Y_walk 5 = .ok (.iload_n 3, 1) := by decide +kernel
theorem d_Y_walk_6 : decode b_Y_walk 6 = .ok (.iastore, 1) := by decide +kernel
theorem d_Y_walk_7 : decode b_Y_walk 7 = .ok (.aload_n 0, 1) := by decide +kernel
theorem d_Y_walk_8 : decode b_Y_walk 8 = .ok (.iconst 1, 1) := by decide +kernel
theorem d_Y_walk_9 : decode b_Y_walk 9 = .ok (.putfield 15, 3) := by decide +kernel
theorem d_Y_walk_12 : decode b_Y_walk 12 = .ok (.iload 4, 2) := by decide +kernel
theorem d_Y_walk_14 : decode b_Y_walk 14 = .ok (.iconst 1, 1) := by decide +kernel
theorem d_Y_walk_15 : decode b_Y_walk 15 = .ok (.isub, 1) := by decide +kernel
theorem d_Y_walk_16 : decode b_Y_walk 16 = .ok (.istore 5, 2) := by decide +kernel
theorem d_Y_walk_18 : decode b_Y_walk 18 = .ok (.iload 5, 2) := by decide +kernel
theorem d_Y_walk_20 : decode b_Y_walk 20 = .ok (.ifCond .lt 69, 3) := by decide +kernel
theorem d_Y_walk_23 : decode b_Y_walk 23 = .ok (.aload_n 0, 1) := by decide +kernel
theorem d_Y_walk_24 : decode b_Y_walk 24 = .ok (.getfield 15, 3) := by decide +kernel
theorem d_Y_walk_27 : decode b_Y_walk 27 = .ok (.bipush 60, 2) := by decide +kernel
theorem d_Y_walk_29 : decode b_Y_walk 29 = .ok (.if_icmp .ge 60, 3) := by decide +kernel
theorem d_Y_walk_32 : decode b_Y_walk 32 = .ok (.aload_n 1, 1) := by decide +kernel
theorem d_Y_walk_33 : decode b_Y_walk 33 = .ok (.iload_n 2, 1) := by decide +kernel
theorem d_Y_walk_34 : decode b_Y_walk 34 = .ok (.aload_n 0, 1) := by decide +kernel
theorem d_Y_walk_35 : decode b_Y_walk 35 = .ok (.getfield 9, 3) := by decide +kernel
theorem d_Y_walk_38 : decode b_Y_walk 38 = .ok (.aload_n 0, 1) := by decide +kernel
theorem d_Y_walk_39 : decode b_Y_walk 39 = .ok (.getfield 15, 3) := by decide +kernel
theorem d_Y_walk_42 : decode b_Y_walk 42 = .ok (.iconst 1, 1) := by decide +kernel
theorem d_Y_walk_43 : decode b_Y_walk 43 = .ok (.isub, 1) := by decide +kernel
theorem d_Y_walk_44 : decode b_Y_walk 44 = .ok (.iaload, 1) := by decide +kernel
theorem d_Y_walk_45 : decode b_Y_walk 45 = .ok (.invokevirtual 47, 3) := by decide +kernel
theorem d_Y_walk_48 : decode b_Y_walk 48 = .ok (.aload_n 0, 1) := by decide +kernel
theorem d_Y_walk_49 : decode b_Y_walk 49 = .ok (.getfield 19, 3) := by decide +kernel
theorem d_Y_walk_52 : decode b_Y_walk 52 = .ok (.iload 5, 2) := by decide +kernel
theorem d_Y_walk_54 : decode b_Y_walk 54 = .ok (.laload, 1) := by decide +kernel
theorem d_Y_walk_55 : decode b_Y_walk 55 = .ok (.land, 1) := by decide +kernel
theorem d_Y_walk_56 : decode b_Y_walk 56 = .ok (.lstore 6, 2) := by decide +kernel
theorem d_Y_walk_58 : decode b_Y_walk 58 = .ok (.aload_n 0, 1) := by decide +kernel
theorem d_Y_walk_59 : decode b_Y_walk 59 = .ok (.getfield 9, 3) := by decide +kernel
theorem d_Y_walk_62 : decode b_Y_walk 62 = .ok (.aload_n 0, 1) := by decide +kernel
theorem d_Y_walk_63 : decode b_Y_walk 63 = .ok (.getfield 15, 3) := by decide +kernel
theorem d_Y_walk_66 : decode b_Y_walk 66 = .ok (.lload 6, 2) := by decide +kernel
theorem d_Y_walk_68 : decode b_Y_walk 68 = .ok (.iconst 0, 1) := by decide +kernel
theorem d_Y_walk_69 : decode b_Y_walk 69 = .ok (.invokestatic 51, 3) := by decide +kernel
theorem d_Y_walk_72 : decode b_Y_walk 72 = .ok (.iastore, 1) := by decide +kernel
theorem d_Y_walk_73 : decode b_Y_walk 73 = .ok (.aload_n 0, 1) := by decide +kernel
theorem d_Y_walk_74 : decode b_Y_walk 74 = .ok (.dup, 1) := by decide +kernel
theorem d_Y_walk_75 : decode b_Y_walk 75 = .ok (.getfield 15, 3) := by decide +kernel
theorem d_Y_walk_78 : decode b_Y_walk 78 = .ok (.iconst 1, 1) := by decide +kernel
theorem d_Y_walk_79 : decode b_Y_walk 79 = .ok (.iadd, 1) := by decide +kernel
theorem d_Y_walk_80 : decode b_Y_walk 80 = .ok (.putfield 15, 3) := by decide +kernel
theorem d_Y_walk_83 : decode b_Y_walk 83 = .ok (.iinc 5 (-1), 3) := by decide +kernel
theorem d_Y_walk_86 : decode b_Y_walk 86 = .ok (.goto (-68), 3) := by decide +kernel
theorem d_Y_walk_89 : decode b_Y_walk 89 = .ok (.return_, 1) := by decide +kernel
theorem d_J_bitCount_0 : decode b_J_bitCount 0 = .ok (.lload_n 0, 1) := by decide +kernel
theorem d_J_bitCount_1 : decode b_J_bitCount 1 = .ok (.lload_n 0, 1) := by decide +kernel
theorem d_J_bitCount_2 : decode b_J_bitCount 2 = .ok (.iconst 1, 1) := by decide +kernel
theorem d_J_bitCount_3 : decode b_J_bitCount 3 = .ok (.lushr, 1) := by decide +kernel
theorem d_J_bitCount_4 : decode b_J_bitCount 4 = .ok (.ldc2_w 314, 3) := by decide +kernel
theorem d_J_bitCount_7 : decode b_J_bitCount 7 = .ok (.land, 1) := by decide +kernel
theorem d_J_bitCount_8 : decode b_J_bitCount 8 = .ok (.lsub, 1) := by decide +kernel
theorem d_J_bitCount_9 : decode b_J_bitCount 9 = .ok (.lstore_n 0, 1) := by decide +kernel
theorem d_J_bitCount_10 : decode b_J_bitCount 10 = .ok (.lload_n 0, 1) := by decide +kernel
theorem d_J_bitCount_11 : decode b_J_bitCount 11 = .ok (.ldc2_w 316, 3) := by decide +kernel
theorem d_J_bitCount_14 : decode b_J_bitCount 14 = .ok (.land, 1) := by decide +kernel
theorem d_J_bitCount_15 : decode b_J_bitCount 15 = .ok (.lload_n 0, 1) := by decide +kernel
theorem d_J_bitCount_16 : decode b_J_bitCount 16 = .ok (.iconst 2, 1) := by decide +kernel
theorem d_J_bitCount_17 : decode b_J_bitCount 17 = .ok (.lushr, 1) := by decide +kernel
theorem d_J_bitCount_18 : decode b_J_bitCount 18 = .ok (.ldc2_w 316, 3) := by decide +kernel
theorem d_J_bitCount_21 : decode b_J_bitCount 21 = .ok (.land, 1) := by decide +kernel
theorem d_J_bitCount_22 : decode b_J_bitCount 22 = .ok (.ladd, 1) := by decide +kernel
theorem d_J_bitCount_23 : decode b_J_bitCount 23 = .ok (.lstore_n 0, 1) := by decide +kernel
theorem d_J_bitCount_24 : decode b_J_bitCount 24 = .ok (.lload_n 0, 1) := by decide +kernel
theorem d_J_bitCount_25 : decode b_J_bitCount 25 = .ok (.lload_n 0, 1) := by decide +kernel
theorem d_J_bitCount_26 : decode b_J_bitCount 26 = .ok (.iconst 4, 1) := by decide +kernel
theorem d_J_bitCount_27 : decode b_J_bitCount 27 = .ok (.lushr, 1) := by decide +kernel
theorem d_J_bitCount_28 : decode b_J_bitCount 28 = .ok (.ladd, 1) := by decide +kernel
theorem d_J_bitCount_29 : decode b_J_bitCount 29 = .ok (.ldc2_w 318, 3) := by decide +kernel
theorem d_J_bitCount_32 : decode b_J_bitCount 32 = .ok (.land, 1) := by decide +kernel
theorem d_J_bitCount_33 : decode b_J_bitCount 33 = .ok (.lstore_n 0, 1) := by decide +kernel
theorem d_J_bitCount_34 : decode b_J_bitCount 34 = .ok (.lload_n 0, 1) := by decide +kernel
theorem d_J_bitCount_35 : decode b_J_bitCount 35 = .ok (.lload_n 0, 1) := by decide +kernel
theorem d_J_bitCount_36 : decode b_J_bitCount 36 = .ok (.bipush 8, 2) := by decide +kernel
theorem d_J_bitCount_38 : decode b_J_bitCount 38 = .ok (.lushr, 1) := by decide +kernel
theorem d_J_bitCount_39 : decode b_J_bitCount 39 = .ok (.ladd, 1) := by decide +kernel
theorem d_J_bitCount_40 : decode b_J_bitCount 40 = .ok (.lstore_n 0, 1) := by decide +kernel
theorem d_J_bitCount_41 : decode b_J_bitCount 41 = .ok (.lload_n 0, 1) := by decide +kernel
theorem d_J_bitCount_42 : decode b_J_bitCount 42 = .ok (.lload_n 0, 1) := by decide +kernel
theorem d_J_bitCount_43 : decode b_J_bitCount 43 = .ok (.bipush 16, 2) := by decide +kernel
theorem d_J_bitCount_45 : decode b_J_bitCount 45 = .ok (.lushr, 1) := by decide +kernel
theorem d_J_bitCount_46 : decode b_J_bitCount 46 = .ok (.ladd, 1) := by decide +kernel
theorem d_J_bitCount_47 : decode b_J_bitCount 47 = .ok (.lstore_n 0, 1) := by decide +kernel
theorem d_J_bitCount_48 : decode b_J_bitCount 48 = .ok (.lload_n 0, 1) := by decide +kernel
theorem d_J_bitCount_49 : decode b_J_bitCount 49 = .ok (.lload_n 0, 1) := by decide +kernel
theorem d_J_bitCount_50 : decode b_J_bitCount 50 = .ok (.bipush 32, 2) := by decide +kernel
theorem d_J_bitCount_52 : decode b_J_bitCount 52 = .ok (.lushr, 1) := by decide +kernel
theorem d_J_bitCount_53 : decode b_J_bitCount 53 = .ok (.ladd, 1) := by decide +kernel
theorem d_J_bitCount_54 : decode b_J_bitCount 54 = .ok (.lstore_n 0, 1) := by decide +kernel
theorem d_J_bitCount_55 : decode b_J_bitCount 55 = .ok (.lload_n 0, 1) := by decide +kernel
theorem d_J_bitCount_56 : decode b_J_bitCount 56 = .ok (.l2i, 1) := by decide +kernel
theorem d_J_bitCount_57 : decode b_J_bitCount 57 = .ok (.bipush 127, 2) := by decide +kernel
theorem d_J_bitCount_59 : decode b_J_bitCount 59 = .ok (.iand, 1) := by decide +kernel
theorem d_J_bitCount_60 : decode b_J_bitCount 60 = .ok (.ireturn, 1) := by decide +kernel
end
section
/-! the two pictures -/
abbrev SA : Type := ((((((Nat → Nat) × Nat) × (Nat → Nat)) × (Nat × (Nat → Nat))) × ((((Nat → Nat) × (Nat → Nat)) × (Nat → Nat)) × (Nat × (Nat → Int64)))) × (((((Nat → Nat) × (Nat → Nat)) × (Nat → Int64)) × (Nat × (Nat → Nat))) × ((((Nat → Int64) × Nat) × (Nat → Nat)) × (Nat × (Nat → Int64)))))
def a_sg (σ : SA) : (Nat → Nat) := σ.1.1.1.1.1
def a_sn (σ : SA) : Nat := σ.1.1.1.1.2
def a_tx (σ : SA) : (Nat → Nat) := σ.1.1.1.2
def a_tn (σ : SA) : Nat := σ.1.1.2.1
def a_kd (σ : SA) : (Nat → Nat) := σ.1.1.2.2
def a_lv (σ : SA) : (Nat → Nat) := σ.1.2.1.1.1
def a_le (σ : SA) : (Nat → Nat) := σ.1.2.1.1.2
def a_ln (σ : SA) : (Nat → Nat) := σ.1.2.1.2
def a_hn (σ : SA) : Nat := σ.1.2.2.1
def a_tg (σ : SA) : (Nat → Int64) := σ.1.2.2.2
def a_lf (σ : SA) : (Nat → Nat) := σ.2.1.1.1.1
def a_lt (σ : SA) : (Nat → Nat) := σ.2.1.1.1.2
def a_ld (σ : SA) : (Nat → Int64) := σ.2.1.1.2
def a_lc (σ : SA) : Nat := σ.2.1.2.1
def a_rh (σ : SA) : (Nat → Nat) := σ.2.1.2.2
def a_rd (σ : SA) : (Nat → Int64) := σ.2.2.1.1.1
def a_rn (σ : SA) : Nat := σ.2.2.1.1.2
def a_ws (σ : SA) : (Nat → Nat) := σ.2.2.1.2
def a_wn (σ : SA) : Nat := σ.2.2.2.1
def a_aw (σ : SA) : (Nat → Int64) := σ.2.2.2.2
def au_sg (σ : SA) (x : (Nat → Nat)) : SA := (((((x, σ.1.1.1.1.2), σ.1.1.1.2), σ.1.1.2), σ.1.2), σ.2)
def au_sn (σ : SA) (x : Nat) : SA := (((((σ.1.1.1.1.1, x), σ.1.1.1.2), σ.1.1.2), σ.1.2), σ.2)
def au_tx (σ : SA) (x : (Nat → Nat)) : SA := ((((σ.1.1.1.1, x), σ.1.1.2), σ.1.2), σ.2)
def au_tn (σ : SA) (x : Nat) : SA := (((σ.1.1.1, (x, σ.1.1.2.2)), σ.1.2), σ.2)
def au_kd (σ : SA) (x : (Nat → Nat)) : SA := (((σ.1.1.1, (σ.1.1.2.1, x)), σ.1.2), σ.2)
def au_lv (σ : SA) (x : (Nat → Nat)) : SA := ((σ.1.1, (((x, σ.1.2.1.1.2), σ.1.2.1.2), σ.1.2.2)), σ.2)
def au_le (σ : SA) (x : (Nat → Nat)) : SA := ((σ.1.1, (((σ.1.2.1.1.1, x), σ.1.2.1.2), σ.1.2.2)), σ.2)
def au_ln (σ : SA) (x : (Nat → Nat)) : SA := ((σ.1.1, ((σ.1.2.1.1, x), σ.1.2.2)), σ.2)
def au_hn (σ : SA) (x : Nat) : SA := ((σ.1.1, (σ.1.2.1, (x, σ.1.2.2.2))), σ.2)
def au_tg (σ : SA) (x : (Nat → Int64)) : SA := ((σ.1.1, (σ.1.2.1, (σ.1.2.2.1, x))), σ.2)
def au_lf (σ : SA) (x : (Nat → Nat)) : SA := (σ.1, ((((x, σ.2.1.1.1.2), σ.2.1.1.2), σ.2.1.2), σ.2.2))
def au_lt (σ : SA) (x : (Nat → Nat)) : SA := (σ.1, ((((σ.2.1.1.1.1, x), σ.2.1.1.2), σ.2.1.2), σ.2.2))
def au_ld (σ : SA) (x : (Nat → Int64)) : SA := (σ.1, (((σ.2.1.1.1, x), σ.2.1.2), σ.2.2))
def au_lc (σ : SA) (x : Nat) : SA := (σ.1, ((σ.2.1.1, (x, σ.2.1.2.2)), σ.2.2))
def au_rh (σ : SA) (x : (Nat → Nat)) : SA := (σ.1, ((σ.2.1.1, (σ.2.1.2.1, x)), σ.2.2))
def au_rd (σ : SA) (x : (Nat → Int64)) : SA := (σ.1, (σ.2.1, (((x, σ.2.2.1.1.2), σ.2.2.1.2), σ.2.2.2)))
def au_rn (σ : SA) (x : Nat) : SA := (σ.1, (σ.2.1, (((σ.2.2.1.1.1, x), σ.2.2.1.2), σ.2.2.2)))
def au_ws (σ : SA) (x : (Nat → Nat)) : SA := (σ.1, (σ.2.1, ((σ.2.2.1.1, x), σ.2.2.2)))
def au_wn (σ : SA) (x : Nat) : SA := (σ.1, (σ.2.1, (σ.2.2.1, (x, σ.2.2.2.2))))
def au_aw (σ : SA) (x : (Nat → Int64)) : SA := (σ.1, (σ.2.1, (σ.2.2.1, (σ.2.2.2.1, x))))
def wA (a : Nat → Nat) (t : Nat → ClassId) (σ : SA) : va_W := [(a 0, .inr (6, [.ref (a 1), .ref (a 3), .ref (a 5), .ref (a 10), .ref (a 15), .ref (a 18)])), (a 1, .inr (0, [.ref (a 2), .int (nI (a_sn σ))])), (a 2, .inl (t 0, 40, .inl (fun j => nI (a_sg σ j)))), (a 3, .inr (1, [.ref (a 4), .int (nI (a_tn σ))])), (a 4, .inl (t 1, 20, .inl (fun j => nI (a_tx σ j)))), (a 5, .inr (2, [.ref (a 6), .ref (a 7), .ref (a 8), .ref (a 9), .int (nI (a_hn σ))])), (a 6, .inl (t 2, 61, .inl (fun j => nI (a_kd σ j)))), (a 7, .inl (t 3, 61, .inl (fun j => nI (a_lv σ j)))), (a 8, .inl (t 4, 1220, .inl (fun j => nI (a_le σ j)))), (a 9, .inl (t 5, 61, .inl (fun j => nI (a_ln σ j)))), (a 10, .inr (3, [.ref (a 11), .ref (a 12), .ref (a 13), .ref (a 14), .int (nI (a_lc σ))])), (a 11, .inl (t 6, 244, .inr (.inl (a_tg σ)))), (a 12, .inl (t 7, 512, .inl (fun j => nI (a_lf σ j)))), (a 13, .inl (t 8, 512, .inl (fun j => nI (a_lt σ j)))), (a 14, .inl (t 9, 512, .inr (.inl (a_ld σ)))), (a 15, .inr (4, [.ref (a 16), .ref (a 17), .int (nI (a_rn σ))])), (a 16, .inl (t 10, 61, .inl (fun j => nI (a_rh σ j)))), (a 17, .inl (t 11, 61, .inr (.inl (a_rd σ)))), (a 18, .inr (5, [.ref (a 19), .int (nI (a_wn σ)), .ref (a 20)])), (a 19, .inl (t 12, 60, .inl (fun j => nI (a_ws σ j)))), (a 20, .inl (t 13, 61, .inr (.inl (a_aw σ))))]
def yA (t : Nat → ClassId) : List (ClassId × FieldType) := [(t 0, .char), (t 1, .char), (t 2, .int), (t 3, .boolean), (t 4, .char), (t 5, .int), (t 6, .long), (t 7, .int), (t 8, .int), (t 9, .long), (t 10, .int), (t 11, .long), (t 12, .int), (t 13, .long)]
abbrev SM : Type := ((((((Nat → Nat) × Nat) × Nat) × ((Nat → Nat) × (Nat → Nat))) × ((((Nat → Nat) × (Nat → Nat)) × Nat) × ((Nat → Nat) × (Nat → Nat)))) × (((((Nat → Nat) × (Nat → Int64)) × Nat) × ((Nat → Nat) × (Nat → Int64))) × (((Nat → Nat) × Nat) × ((Nat → Nat) × Nat))))
def m_sd (σ : SM) : (Nat → Nat) := σ.1.1.1.1.1
def m_sz (σ : SM) : Nat := σ.1.1.1.1.2
def m_hn (σ : SM) : Nat := σ.1.1.1.2
def m_kd (σ : SM) : (Nat → Nat) := σ.1.1.2.1
def m_lv (σ : SM) : (Nat → Nat) := σ.1.1.2.2
def m_tx (σ : SM) : (Nat → Nat) := σ.1.2.1.1.1
def m_zs (σ : SM) : (Nat → Nat) := σ.1.2.1.1.2
def m_ln (σ : SM) : Nat := σ.1.2.1.2
def m_ls (σ : SM) : (Nat → Nat) := σ.1.2.2.1
def m_lf (σ : SM) : (Nat → Nat) := σ.1.2.2.2
def m_lt (σ : SM) : (Nat → Nat) := σ.2.1.1.1.1
def m_ld (σ : SM) : (Nat → Int64) := σ.2.1.1.1.2
def m_rn (σ : SM) : Nat := σ.2.1.1.2
def m_lk (σ : SM) : (Nat → Nat) := σ.2.1.2.1
def m_rd (σ : SM) : (Nat → Int64) := σ.2.1.2.2
def m_wy (σ : SM) : (Nat → Nat) := σ.2.2.1.1
def m_wn (σ : SM) : Nat := σ.2.2.1.2
def m_di (σ : SM) : (Nat → Nat) := σ.2.2.2.1
def m_co (σ : SM) : Nat := σ.2.2.2.2
def mu_sd (σ : SM) (x : (Nat → Nat)) : SM := (((((x, σ.1.1.1.1.2), σ.1.1.1.2), σ.1.1.2), σ.1.2), σ.2)
def mu_sz (σ : SM) (x : Nat) : SM := (((((σ.1.1.1.1.1, x), σ.1.1.1.2), σ.1.1.2), σ.1.2), σ.2)
def mu_hn (σ : SM) (x : Nat) : SM := ((((σ.1.1.1.1, x), σ.1.1.2), σ.1.2), σ.2)
def mu_kd (σ : SM) (x : (Nat → Nat)) : SM := (((σ.1.1.1, (x, σ.1.1.2.2)), σ.1.2), σ.2)
def mu_lv (σ : SM) (x : (Nat → Nat)) : SM := (((σ.1.1.1, (σ.1.1.2.1, x)), σ.1.2), σ.2)
def mu_tx (σ : SM) (x : (Nat → Nat)) : SM := ((σ.1.1, (((x, σ.1.2.1.1.2), σ.1.2.1.2), σ.1.2.2)), σ.2)
def mu_zs (σ : SM) (x : (Nat → Nat)) : SM := ((σ.1.1, (((σ.1.2.1.1.1, x), σ.1.2.1.2), σ.1.2.2)), σ.2)
def mu_ln (σ : SM) (x : Nat) : SM := ((σ.1.1, ((σ.1.2.1.1, x), σ.1.2.2)), σ.2)
def mu_ls (σ : SM) (x : (Nat → Nat)) : SM := ((σ.1.1, (σ.1.2.1, (x, σ.1.2.2.2))), σ.2)
def mu_lf (σ : SM) (x : (Nat → Nat)) : SM := ((σ.1.1, (σ.1.2.1, (σ.1.2.2.1, x))), σ.2)
def mu_lt (σ : SM) (x : (Nat → Nat)) : SM := (σ.1, ((((x, σ.2.1.1.1.2), σ.2.1.1.2), σ.2.1.2), σ.2.2))
def mu_ld (σ : SM) (x : (Nat → Int64)) : SM := (σ.1, ((((σ.2.1.1.1.1, x), σ.2.1.1.2), σ.2.1.2), σ.2.2))
def mu_rn (σ : SM) (x : Nat) : SM := (σ.1, (((σ.2.1.1.1, x), σ.2.1.2), σ.2.2))
def mu_lk (σ : SM) (x : (Nat → Nat)) : SM := (σ.1, ((σ.2.1.1, (x, σ.2.1.2.2)), σ.2.2))
def mu_rd (σ : SM) (x : (Nat → Int64)) : SM := (σ.1, ((σ.2.1.1, (σ.2.1.2.1, x)), σ.2.2))
def mu_wy (σ : SM) (x : (Nat → Nat)) : SM := (σ.1, (σ.2.1, ((x, σ.2.2.1.2), σ.2.2.2)))
def mu_wn (σ : SM) (x : Nat) : SM := (σ.1, (σ.2.1, ((σ.2.2.1.1, x), σ.2.2.2)))
def mu_di (σ : SM) (x : (Nat → Nat)) : SM := (σ.1, (σ.2.1, (σ.2.2.1, (x, σ.2.2.2.2))))
def mu_co (σ : SM) (x : Nat) : SM := (σ.1, (σ.2.1, (σ.2.2.1, (σ.2.2.2.1, x))))
def wM (a : Nat → Nat) (t : Nat → ClassId) (σ : SM) : va_W := [(a 0, .inr (7, [.int (nI 0), .ref (a 1), .int (nI (m_sz σ)), .int (nI (m_hn σ)), .ref (a 2), .ref (a 3), .ref (a 4), .ref (a 5), .int (nI (m_ln σ)), .ref (a 6), .ref (a 7), .ref (a 8), .ref (a 9), .int (nI (m_rn σ)), .ref (a 10), .ref (a 11), .ref (a 12), .int (nI (m_wn σ)), .ref (a 13), .int (nI (m_co σ))])), (a 1, .inl (t 0, 40, .inl (fun j => sb_b (m_sd σ j)))), (a 2, .inl (t 1, 61, .inl (fun j => nI (m_kd σ j)))), (a 3, .inl (t 2, 61, .inl (fun j => nI (m_lv σ j)))), (a 4, .inl (t 3, 1220, .inl (fun j => nI (m_tx σ j)))), (a 5, .inl (t 4, 61, .inl (fun j => nI (m_zs σ j)))), (a 6, .inl (t 5, 20000, .inl (fun j => nI (m_ls σ j)))), (a 7, .inl (t 6, 20000, .inl (fun j => nI (m_lf σ j)))), (a 8, .inl (t 7, 20000, .inl (fun j => nI (m_lt σ j)))), (a 9, .inl (t 8, 20000, .inr (.inl (m_ld σ)))), (a 10, .inl (t 9, 61, .inl (fun j => nI (m_lk σ j)))), (a 11, .inl (t 10, 61, .inr (.inl (m_rd σ)))), (a 12, .inl (t 11, 61, .inl (fun j => nI (m_wy σ j)))), (a 13, .inl (t 12, 61, .inl (fun j => nI (m_di σ j))))]
def yM (t : Nat → ClassId) : List (ClassId × FieldType) := [(t 0, .byte), (t 1, .int), (t 2, .boolean), (t 3, .byte), (t 4, .int), (t 5, .int), (t 6, .int), (t 7, .int), (t 8, .long), (t 9, .int), (t 10, .long), (t 11, .int), (t 12, .int)]
/-! what holds of the class's picture at any time, as far as its rows need it -/
def GA (σ : SA) : Prop := a_sn σ ≤ 40 ∧ (∀ j, a_sg σ j < 256) ∧ a_tn σ ≤ 20 ∧ (∀ j, a_tx σ j < 256) ∧ (∀ j, a_kd σ j < 4) ∧ (∀ j, a_lv σ j < 2) ∧ (∀ j, a_le σ j < 256) ∧ (∀ j, a_ln σ j ≤ 20) ∧ a_hn σ ≤ 60 ∧ (∀ j, a_lf σ j ≤ 60) ∧ (∀ j, a_lt σ j ≤ 60) ∧ a_lc σ ≤ 512 ∧ (∀ j, a_rh σ j ≤ 60) ∧ a_rn σ ≤ 60 ∧ (∀ j, a_ws σ j ≤ 60) ∧ a_wn σ ≤ 60
/-- a boolean answer -/
def BR (r : Int32) (P : Prop) : Prop := (r = nI 1 ∧ P) ∨ (r = nI 0 ∧ ¬ P)
theorem x_there {x : Int32} {n : Nat} (hn : n < 2 ^ 30) (h1 : ¬ x < nI 1) (h2 : ¬ nI n < x) : ∃ j, 1 ≤ j ∧ j ≤ n ∧ x = nI j := by
  rcases pk_ix x (n := n + 1) (by omega) with h | h | ⟨j, hj, rfl⟩
  · exact absurd (Int32.lt_of_lt_of_le h (show (0 : Int32) ≤ nI 1 by decide)) h1
  · exact absurd (Int32.lt_of_lt_of_le (nI_lt (Nat.lt_succ_self n) (by omega)) h) h2
  · refine ⟨j, ?_, by omega, rfl⟩
    rcases Nat.lt_or_ge j 1 with q | q
    · exact absurd (nI_lt q (by decide)) h1
    · exact q
theorem x_there1 {x : Int32} {n : Nat} (hn : n < 2 ^ 31) (h : x < nI 1) : ¬ ∃ j, 1 ≤ j ∧ j ≤ n ∧ x = nI j := by
  rintro ⟨j, h1, h2, rfl⟩
  have := (nI_ltI (by omega) (by decide)).mp h
  omega
theorem x_there2 {x : Int32} {n : Nat} (hn : n < 2 ^ 31) (h : nI n < x) : ¬ ∃ j, 1 ≤ j ∧ j ≤ n ∧ x = nI j := by
  rintro ⟨j, h1, h2, rfl⟩
  have := (nI_ltI hn (by omega)).mp h
  omega
end
section
def isLD (q : Nat) : Prop := 97 ≤ q ∧ q ≤ 122 ∨ 65 ≤ q ∧ q ≤ 90 ∨ 48 ≤ q ∧ q ≤ 57
set_option maxRecDepth 100000 in
set_option maxHeartbeats 4000000 in
theorem c_C_isLetterOrDigit (l : Launch) (q : Nat) (hq : q < 65536) : Met l y_C_isLetterOrDigit (wS y_C_isLetterOrDigit b_C_isLetterOrDigit 1 (some .boolean)) (rD 0) (va_Pc [.int (nI q)] (fun U => NWs U)) (vp_Si (fun r => BR r (isLD q))) 0 0 (fun _ => False) := by
  refine x_enter (by decide) (Nat.le_of_ble_eq_true rfl) ?_
  intro p e s m below meth c ls hx hb hr hml hT hown hlk hnm hl hB
  have hN : NWs s := hB
  have hl : lv_has ls 1 [(0, .int (nI q))] := hl
  have hown : s.vm.findClass R_C = some m.cls := hown
  refine lv_iload_n hx hb d_C_isLetterOrDigit_0 rfl (lv_at hl 0 rfl) ?_
  refine lv_bipush (v := nI 97) hx hb d_C_isLetterOrDigit_1 (by decide) ?_
  refine x_icmp_lt (tgt := 12) hx hb d_C_isLetterOrDigit_3 (by decide) (fun c3 => ?_) (fun c3 => ?_)
  · refine lv_iload_n hx hb d_C_isLetterOrDigit_12 rfl (lv_at hl 0 rfl) ?_
    refine lv_bipush (v := nI 65) hx hb d_C_isLetterOrDigit_13 (by decide) ?_
    refine x_icmp_lt (tgt := 24) hx hb d_C_isLetterOrDigit_15 (by decide) (fun c15 => ?_) (fun c15 => ?_)
    · refine lv_iload_n hx hb d_C_isLetterOrDigit_24 rfl (lv_at hl 0 rfl) ?_
      refine lv_bipush (v := nI 48) hx hb d_C_isLetterOrDigit_25 (by decide) ?_
      refine x_icmp_lt (tgt := 40) hx hb d_C_isLetterOrDigit_27 (by decide) (fun c27 => ?_) (fun c27 => ?_)
      · refine lv_iconst (v := nI 0) hx hb d_C_isLetterOrDigit_40 (by decide) ?_
        exact x_rz hx hb hr hlk d_C_isLetterOrDigit_41 rfl (Or.inr ⟨rfl, by unfold isLD; omega⟩)
      · refine lv_iload_n hx hb d_C_isLetterOrDigit_30 rfl (lv_at hl 0 rfl) ?_
        refine lv_bipush (v := nI 57) hx hb d_C_isLetterOrDigit_31 (by decide) ?_
        refine x_icmp_gt (tgt := 40) hx hb d_C_isLetterOrDigit_33 (by decide) (fun c33 => ?_) (fun c33 => ?_)
        · refine lv_iconst (v := nI 0) hx hb d_C_isLetterOrDigit_40 (by decide) ?_
          exact x_rz hx hb hr hlk d_C_isLetterOrDigit_41 rfl (Or.inr ⟨rfl, by unfold isLD; omega⟩)
        · refine lv_iconst (v := nI 1) hx hb d_C_isLetterOrDigit_36 (by decide) ?_
          refine lv_goto (tgt := 41) hx hb d_C_isLetterOrDigit_37 (by decide) ?_
          exact x_rz hx hb hr hlk d_C_isLetterOrDigit_41 rfl (Or.inl ⟨rfl, by unfold isLD; omega⟩)
    · refine lv_iload_n hx hb d_C_isLetterOrDigit_18 rfl (lv_at hl 0 rfl) ?_
      refine lv_bipush (v := nI 90) hx hb d_C_isLetterOrDigit_19 (by decide) ?_
      refine x_icmp_le (tgt := 36) hx hb d_C_isLetterOrDigit_21 (by decide) (fun c21 => ?_) (fun c21 => ?_)
      · refine lv_iconst (v := nI 1) hx hb d_C_isLetterOrDigit_36 (by decide) ?_
        refine lv_goto (tgt := 41) hx hb d_C_isLetterOrDigit_37 (by decide) ?_
        exact x_rz hx hb hr hlk d_C_isLetterOrDigit_41 rfl (Or.inl ⟨rfl, by unfold isLD; omega⟩)
      · refine lv_iload_n hx hb d_C_isLetterOrDigit_24 rfl (lv_at hl 0 rfl) ?_
        refine lv_bipush (v := nI 48) hx hb d_C_isLetterOrDigit_25 (by decide) ?_
        refine x_icmp_lt (tgt := 40) hx hb d_C_isLetterOrDigit_27 (by decide) (fun c27 => ?_) (fun c27 => ?_)
        · refine lv_iconst (v := nI 0) hx hb d_C_isLetterOrDigit_40 (by decide) ?_
          exact x_rz hx hb hr hlk d_C_isLetterOrDigit_41 rfl (Or.inr ⟨rfl, by unfold isLD; omega⟩)
        · refine lv_iload_n hx hb d_C_isLetterOrDigit_30 rfl (lv_at hl 0 rfl) ?_
          refine lv_bipush (v := nI 57) hx hb d_C_isLetterOrDigit_31 (by decide) ?_
          refine x_icmp_gt (tgt := 40) hx hb d_C_isLetterOrDigit_33 (by decide) (fun c33 => ?_) (fun c33 => ?_)
          · refine lv_iconst (v := nI 0) hx hb d_C_isLetterOrDigit_40 (by decide) ?_
            exact x_rz hx hb hr hlk d_C_isLetterOrDigit_41 rfl (Or.inr ⟨rfl, by unfold isLD; omega⟩)
          · refine lv_iconst (v := nI 1) hx hb d_C_isLetterOrDigit_36 (by decide) ?_
            refine lv_goto (tgt := 41) hx hb d_C_isLetterOrDigit_37 (by decide) ?_
            exact x_rz hx hb hr hlk d_C_isLetterOrDigit_41 rfl (Or.inl ⟨rfl, by unfold isLD; omega⟩)
  · refine lv_iload_n hx hb d_C_isLetterOrDigit_6 rfl (lv_at hl 0 rfl) ?_
    refine lv_bipush (v := nI 122) hx hb d_C_isLetterOrDigit_7 (by decide) ?_
    refine x_icmp_le (tgt := 36) hx hb d_C_isLetterOrDigit_9 (by decide) (fun c9 => ?_) (fun c9 => ?_)
    · refine lv_iconst (v := nI 1) hx hb d_C_isLetterOrDigit_36 (by decide) ?_
      refine lv_goto (tgt := 41) hx hb d_C_isLetterOrDigit_37 (by decide) ?_
      exact x_rz hx hb hr hlk d_C_isLetterOrDigit_41 rfl (Or.inl ⟨rfl, by unfold isLD; omega⟩)
    · refine lv_iload_n hx hb d_C_isLetterOrDigit_12 rfl (lv_at hl 0 rfl) ?_
      refine lv_bipush (v := nI 65) hx hb d_C_isLetterOrDigit_13 (by decide) ?_
      refine x_icmp_lt (tgt := 24) hx hb d_C_isLetterOrDigit_15 (by decide) (fun c15 => ?_) (fun c15 => ?_)
      · refine lv_iload_n hx hb d_C_isLetterOrDigit_24 rfl (lv_at hl 0 rfl) ?_
        refine lv_bipush (v := nI 48) hx hb d_C_isLetterOrDigit_25 (by decide) ?_
        refine x_icmp_lt (tgt := 40) hx hb d_C_isLetterOrDigit_27 (by decide) (fun c27 => ?_) (fun c27 => ?_)
        · refine lv_iconst (v := nI 0) hx hb d_C_isLetterOrDigit_40 (by decide) ?_
          exact x_rz hx hb hr hlk d_C_isLetterOrDigit_41 rfl (Or.inr ⟨rfl, by unfold isLD; omega⟩)
        · refine lv_iload_n hx hb d_C_isLetterOrDigit_30 rfl (lv_at hl 0 rfl) ?_
          refine lv_bipush (v := nI 57) hx hb d_C_isLetterOrDigit_31 (by decide) ?_
          refine x_icmp_gt (tgt := 40) hx hb d_C_isLetterOrDigit_33 (by decide) (fun c33 => ?_) (fun c33 => ?_)
          · refine lv_iconst (v := nI 0) hx hb d_C_isLetterOrDigit_40 (by decide) ?_
            exact x_rz hx hb hr hlk d_C_isLetterOrDigit_41 rfl (Or.inr ⟨rfl, by unfold isLD; omega⟩)
          · refine lv_iconst (v := nI 1) hx hb d_C_isLetterOrDigit_36 (by decide) ?_
            refine lv_goto (tgt := 41) hx hb d_C_isLetterOrDigit_37 (by decide) ?_
            exact x_rz hx hb hr hlk d_C_isLetterOrDigit_41 rfl (Or.inl ⟨rfl, by unfold isLD; omega⟩)
      · refine lv_iload_n hx hb d_C_isLetterOrDigit_18 rfl (lv_at hl 0 rfl) ?_
        refine lv_bipush (v := nI 90) hx hb d_C_isLetterOrDigit_19 (by decide) ?_
        refine x_icmp_le (tgt := 36) hx hb d_C_isLetterOrDigit_21 (by decide) (fun c21 => ?_) (fun c21 => ?_)
        · refine lv_iconst (v := nI 1) hx hb d_C_isLetterOrDigit_36 (by decide) ?_
          refine lv_goto (tgt := 41) hx hb d_C_isLetterOrDigit_37 (by decide) ?_
          exact x_rz hx hb hr hlk d_C_isLetterOrDigit_41 rfl (Or.inl ⟨rfl, by unfold isLD; omega⟩)
        · refine lv_iload_n hx hb d_C_isLetterOrDigit_24 rfl (lv_at hl 0 rfl) ?_
          refine lv_bipush (v := nI 48) hx hb d_C_isLetterOrDigit_25 (by decide) ?_
          refine x_icmp_lt (tgt := 40) hx hb d_C_isLetterOrDigit_27 (by decide) (fun c27 => ?_) (fun c27 => ?_)
          · refine lv_iconst (v := nI 0) hx hb d_C_isLetterOrDigit_40 (by decide) ?_
            exact x_rz hx hb hr hlk d_C_isLetterOrDigit_41 rfl (Or.inr ⟨rfl, by unfold isLD; omega⟩)
          · refine lv_iload_n hx hb d_C_isLetterOrDigit_30 rfl (lv_at hl 0 rfl) ?_
            refine lv_bipush (v := nI 57) hx hb d_C_isLetterOrDigit_31 (by decide) ?_
            refine x_icmp_gt (tgt := 40) hx hb d_C_isLetterOrDigit_33 (by decide) (fun c33 => ?_) (fun c33 => ?_)
            · refine lv_iconst (v := nI 0) hx hb d_C_isLetterOrDigit_40 (by decide) ?_
              exact x_rz hx hb hr hlk d_C_isLetterOrDigit_41 rfl (Or.inr ⟨rfl, by unfold isLD; omega⟩)
            · refine lv_iconst (v := nI 1) hx hb d_C_isLetterOrDigit_36 (by decide) ?_
              refine lv_goto (tgt := 41) hx hb d_C_isLetterOrDigit_37 (by decide) ?_
              exact x_rz hx hb hr hlk d_C_isLetterOrDigit_41 rfl (Or.inl ⟨rfl, by unfold isLD; omega⟩)

def smN (q : Nat) : Nat := if 65 ≤ q ∧ q ≤ 90 then q + 32 else q
set_option maxRecDepth 100000 in
set_option maxHeartbeats 4000000 in
theorem c_H_small (l : Launch) (q : Nat) (hq : q < 65536) : Met l y_H_small (wS y_H_small b_H_small 1 (some .int)) (rD 0) (va_Pc [.int (nI q)] (fun U => NWs U)) (vp_Si (fun r => r = nI (smN q))) 0 0 (fun _ => False) := by
  refine x_enter (by decide) (Nat.le_of_ble_eq_true rfl) ?_
  intro p e s m below meth c ls hx hb hr hml hT hown hlk hnm hl hB
  have hN : NWs s := hB
  have hl : lv_has ls 1 [(0, .int (nI q))] := hl
  have hown : s.vm.findClass R_H = some m.cls := hown
  refine lv_iload_n hx hb d_H_small_0 rfl (lv_at hl 0 rfl) ?_
  refine lv_bipush (v := nI 65) hx hb d_H_small_1 (by decide) ?_
  refine x_icmp_lt (tgt := 22) hx hb d_H_small_3 (by decide) (fun c3 => ?_) (fun c3 => ?_)
  · refine lv_iload_n hx hb d_H_small_22 rfl (lv_at hl 0 rfl) ?_
    exact x_ri hx hb hr hlk d_H_small_23 (by unfold smN; congr 1; split <;> omega)
  · refine lv_iload_n hx hb d_H_small_6 rfl (lv_at hl 0 rfl) ?_
    refine lv_bipush (v := nI 90) hx hb d_H_small_7 (by decide) ?_
    refine x_icmp_gt (tgt := 22) hx hb d_H_small_9 (by decide) (fun c9 => ?_) (fun c9 => ?_)
    · refine lv_iload_n hx hb d_H_small_22 rfl (lv_at hl 0 rfl) ?_
      exact x_ri hx hb hr hlk d_H_small_23 (by unfold smN; congr 1; split <;> omega)
    · refine lv_iload_n hx hb d_H_small_12 rfl (lv_at hl 0 rfl) ?_
      refine lv_bipush (v := nI 65) hx hb d_H_small_13 (by decide) ?_
      refine x_isub hx hb d_H_small_15 ?_
      refine lv_bipush (v := nI 97) hx hb d_H_small_16 (by decide) ?_
      refine x_iadd hx hb d_H_small_18 ?_
      refine lv_goto (tgt := 23) hx hb d_H_small_19 (by decide) ?_
      exact x_ri hx hb hr hlk d_H_small_23 (by unfold smN; congr 1; split <;> omega)

set_option maxRecDepth 100000 in
set_option maxHeartbeats 4000000 in
theorem c_H_isFull (l : Launch) (dC : Nat → ClassId) (dI : Nat → Nat → Nat) (a : Nat → Nat) (t : Nat → ClassId) (σ : SA) (hG : GA σ) : Met l y_H_isFull (wS y_H_isFull b_H_isFull 1 (some .boolean)) (rD 0) (va_Pc [.ref (a 5)] (RB (dC, dI) (yA t) (wA a t σ))) (vp_Si (fun r => BR r (60 ≤ a_hn σ))) 0 0 (fun _ => False) := by
  refine x_enter (by decide) (Nat.le_of_ble_eq_true rfl) ?_
  intro p e s m below meth c ls hx hb hr hml hT hown hlk hnm hl hB
  obtain ⟨hP, hK, hN⟩ := hB
  have hl : lv_has ls 1 [(0, .ref (a 5))] := hl
  have hown : s.vm.findClass R_H = some m.cls := hown
  obtain ⟨g_sn, g_sg, g_tn, g_tx, g_kd, g_lv, g_le, g_ln, g_hn, g_lf, g_lt, g_lc, g_rh, g_rn, g_ws, g_wn⟩ := hG
  refine lv_aload_n hx hb d_H_isFull_0 rfl (lv_at hl 0 rfl) ?_
  refine va_get (D := (dC, dI)) (C := R_H) (T := F_H) (N := 5) hx hb hT i_H hown hK hP 5 rfl rfl 4 (by decide) (hT _ k_H_26) (fun _ h9 => h9) (v := .int (nI (a_hn σ))) rfl d_H_isFull_1 ?_
  refine lv_bipush (v := nI 60) hx hb d_H_isFull_4 (by decide) ?_
  refine x_icmp_lt (tgt := 13) hx hb d_H_isFull_6 (by decide) (fun c6 => ?_) (fun c6 => ?_)
  · refine lv_iconst (v := nI 0) hx hb d_H_isFull_13 (by decide) ?_
    exact x_rz hx hb hr hlk d_H_isFull_14 rfl (Or.inr ⟨rfl, by omega⟩)
  · refine lv_iconst (v := nI 1) hx hb d_H_isFull_9 (by decide) ?_
    refine lv_goto (tgt := 14) hx hb d_H_isFull_10 (by decide) ?_
    exact x_rz hx hb hr hlk d_H_isFull_14 rfl (Or.inl ⟨rfl, by omega⟩)

set_option maxRecDepth 100000 in
set_option maxHeartbeats 4000000 in
theorem c_K_isFull (l : Launch) (dC : Nat → ClassId) (dI : Nat → Nat → Nat) (a : Nat → Nat) (t : Nat → ClassId) (σ : SA) (hG : GA σ) : Met l y_K_isFull (wS y_K_isFull b_K_isFull 1 (some .boolean)) (rD 0) (va_Pc [.ref (a 10)] (RB (dC, dI) (yA t) (wA a t σ))) (vp_Si (fun r => BR r (512 ≤ a_lc σ))) 0 0 (fun _ => False) := by
  refine x_enter (by decide) (Nat.le_of_ble_eq_true rfl) ?_
  intro p e s m below meth c ls hx hb hr hml hT hown hlk hnm hl hB
  obtain ⟨hP, hK, hN⟩ := hB
  have hl : lv_has ls 1 [(0, .ref (a 10))] := hl
  have hown : s.vm.findClass R_K = some m.cls := hown
  obtain ⟨g_sn, g_sg, g_tn, g_tx, g_kd, g_lv, g_le, g_ln, g_hn, g_lf, g_lt, g_lc, g_rh, g_rn, g_ws, g_wn⟩ := hG
  refine lv_aload_n hx hb d_K_isFull_0 rfl (lv_at hl 0 rfl) ?_
  refine va_get (D := (dC, dI)) (C := R_K) (T := F_K) (N := 5) hx hb hT i_K hown hK hP 10 rfl rfl 4 (by decide) (hT _ k_K_25) (fun _ h9 => h9) (v := .int (nI (a_lc σ))) rfl d_K_isFull_1 ?_
  refine lv_sipush (v := nI 512) hx hb d_K_isFull_4 (by decide) ?_
  refine x_icmp_lt (tgt := 14) hx hb d_K_isFull_7 (by decide) (fun c7 => ?_) (fun c7 => ?_)
  · refine lv_iconst (v := nI 0) hx hb d_K_isFull_14 (by decide) ?_
    exact x_rz hx hb hr hlk d_K_isFull_15 rfl (Or.inr ⟨rfl, by omega⟩)
  · refine lv_iconst (v := nI 1) hx hb d_K_isFull_10 (by decide) ?_
    refine lv_goto (tgt := 15) hx hb d_K_isFull_11 (by decide) ?_
    exact x_rz hx hb hr hlk d_K_isFull_15 rfl (Or.inl ⟨rfl, by omega⟩)

set_option maxRecDepth 100000 in
set_option maxHeartbeats 4000000 in
theorem c_R_isFull (l : Launch) (dC : Nat → ClassId) (dI : Nat → Nat → Nat) (a : Nat → Nat) (t : Nat → ClassId) (σ : SA) (hG : GA σ) : Met l y_R_isFull (wS y_R_isFull b_R_isFull 1 (some .boolean)) (rD 0) (va_Pc [.ref (a 15)] (RB (dC, dI) (yA t) (wA a t σ))) (vp_Si (fun r => BR r (60 ≤ a_rn σ))) 0 0 (fun _ => False) := by
  refine x_enter (by decide) (Nat.le_of_ble_eq_true rfl) ?_
  intro p e s m below meth c ls hx hb hr hml hT hown hlk hnm hl hB
  obtain ⟨hP, hK, hN⟩ := hB
  have hl : lv_has ls 1 [(0, .ref (a 15))] := hl
  have hown : s.vm.findClass R_R = some m.cls := hown
  obtain ⟨g_sn, g_sg, g_tn, g_tx, g_kd, g_lv, g_le, g_ln, g_hn, g_lf, g_lt, g_lc, g_rh, g_rn, g_ws, g_wn⟩ := hG
  refine lv_aload_n hx hb d_R_isFull_0 rfl (lv_at hl 0 rfl) ?_
  refine va_get (D := (dC, dI)) (C := R_R) (T := F_R) (N := 3) hx hb hT i_R hown hK hP 15 rfl rfl 2 (by decide) (hT _ k_R_19) (fun _ h9 => h9) (v := .int (nI (a_rn σ))) rfl d_R_isFull_1 ?_
  refine lv_bipush (v := nI 60) hx hb d_R_isFull_4 (by decide) ?_
  refine x_icmp_lt (tgt := 13) hx hb d_R_isFull_6 (by decide) (fun c6 => ?_) (fun c6 => ?_)
  · refine lv_iconst (v := nI 0) hx hb d_R_isFull_13 (by decide) ?_
    exact x_rz hx hb hr hlk d_R_isFull_14 rfl (Or.inr ⟨rfl, by omega⟩)
  · refine lv_iconst (v := nI 1) hx hb d_R_isFull_9 (by decide) ?_
    refine lv_goto (tgt := 14) hx hb d_R_isFull_10 (by decide) ?_
    exact x_rz hx hb hr hlk d_R_isFull_14 rfl (Or.inl ⟨rfl, by omega⟩)

set_option maxRecDepth 100000 in
set_option maxHeartbeats 4000000 in
theorem c_H_isThere (l : Launch) (dC : Nat → ClassId) (dI : Nat → Nat → Nat) (a : Nat → Nat) (t : Nat → ClassId) (σ : SA) (hG : GA σ) (x : Int32) : Met l y_H_isThere (wS y_H_isThere b_H_isThere 2 (some .boolean)) (rD 0) (va_Pc [.ref (a 5), .int x] (RB (dC, dI) (yA t) (wA a t σ))) (vp_Si (fun r => BR r (∃ j, 1 ≤ j ∧ j ≤ a_hn σ ∧ x = nI j))) 0 0 (fun _ => False) := by
  refine x_enter (by decide) (Nat.le_of_ble_eq_true rfl) ?_
  intro p e s m below meth c ls hx hb hr hml hT hown hlk hnm hl hB
  obtain ⟨hP, hK, hN⟩ := hB
  have hl : lv_has ls 2 [(0, .ref (a 5)), (1, .int x)] := hl
  have hown : s.vm.findClass R_H = some m.cls := hown
  obtain ⟨g_sn, g_sg, g_tn, g_tx, g_kd, g_lv, g_le, g_ln, g_hn, g_lf, g_lt, g_lc, g_rh, g_rn, g_ws, g_wn⟩ := hG
  refine lv_iload_n hx hb d_H_isThere_0 rfl (lv_at hl 1 rfl) ?_
  refine lv_iconst (v := nI 1) hx hb d_H_isThere_1 (by decide) ?_
  refine lv_icmp_lt (tgt := 17) hx hb d_H_isThere_2 (by decide) (fun c2 => ?_) (fun c2 => ?_)
  · refine lv_iconst (v := nI 0) hx hb d_H_isThere_17 (by decide) ?_
    exact x_rz hx hb hr hlk d_H_isThere_18 rfl (Or.inr ⟨rfl, by first | exact x_there1 (by omega) (by assumption) | exact x_there2 (by omega) (by assumption)⟩)
  · refine lv_iload_n hx hb d_H_isThere_5 rfl (lv_at hl 1 rfl) ?_
    refine lv_aload_n hx hb d_H_isThere_6 rfl (lv_at hl 0 rfl) ?_
    refine va_get (D := (dC, dI)) (C := R_H) (T := F_H) (N := 5) hx hb hT i_H hown hK hP 5 rfl rfl 4 (by decide) (hT _ k_H_26) (fun _ h9 => h9) (v := .int (nI (a_hn σ))) rfl d_H_isThere_7 ?_
    refine lv_icmp_gt (tgt := 17) hx hb d_H_isThere_10 (by decide) (fun c10 => ?_) (fun c10 => ?_)
    · refine lv_iconst (v := nI 0) hx hb d_H_isThere_17 (by decide) ?_
      exact x_rz hx hb hr hlk d_H_isThere_18 rfl (Or.inr ⟨rfl, by first | exact x_there1 (by omega) (by assumption) | exact x_there2 (by omega) (by assumption)⟩)
    · refine lv_iconst (v := nI 1) hx hb d_H_isThere_13 (by decide) ?_
      refine lv_goto (tgt := 18) hx hb d_H_isThere_14 (by decide) ?_
      exact x_rz hx hb hr hlk d_H_isThere_18 rfl (Or.inl ⟨rfl, x_there (by omega) (by assumption) (by assumption)⟩)

set_option maxRecDepth 100000 in
set_option maxHeartbeats 4000000 in
theorem c_H_isLive (l : Launch) (dC : Nat → ClassId) (dI : Nat → Nat → Nat) (a : Nat → Nat) (t : Nat → ClassId) (σ : SA) (hG : GA σ) (x : Int32) : Met l y_H_isLive (wS y_H_isLive b_H_isLive 2 (some .boolean)) (rD 1) (va_Pc [.ref (a 5), .int x] (RB (dC, dI) (yA t) (wA a t σ))) (vp_Si (fun r => BR r (∃ j, 1 ≤ j ∧ j ≤ a_hn σ ∧ a_lv σ j = 1 ∧ x = nI j))) 0 0 (fun _ => False) := by
  refine x_enter (by decide) (Nat.le_of_ble_eq_true rfl) ?_
  intro p e s m below meth c ls hx hb hr hml hT hown hlk hnm hl hB
  obtain ⟨hP, hK, hN⟩ := hB
  have hl : lv_has ls 2 [(0, .ref (a 5)), (1, .int x)] := hl
  have hown : s.vm.findClass R_H = some m.cls := hown
  have hG2 := hG
  obtain ⟨g_sn, g_sg, g_tn, g_tx, g_kd, g_lv, g_le, g_ln, g_hn, g_lf, g_lt, g_lc, g_rh, g_rn, g_ws, g_wn⟩ := hG
  refine lv_aload_n hx hb d_H_isLive_0 rfl (lv_at hl 0 rfl) ?_
  refine lv_iload_n hx hb d_H_isLive_1 rfl (lv_at hl 1 rfl) ?_
  refine x_ci (x_runV ⟨hx, hb, hml, hown, hT⟩ (c_H_isThere l dC dI a t σ hG2 x) f_H_isThere k_H_30 blR (va_recv hK hP (ci := 2) (q0 := 5) rfl rfl) (x_bR hK hP hN) hl.1 d_H_isLive_2 rfl (lv_room (Nat.le_of_ble_eq_true rfl)) ⟨Nat.le_of_ble_eq_true rfl, Nat.le_of_ble_eq_true rfl⟩ ⟨rfl, rfl⟩ ⟨Nat.le_refl 0, Nat.le_refl 0⟩ rfl) (fun r2 q2 => ?_)
  rcases q2 with ⟨rfl, j, hj1, hj2, rfl⟩ | ⟨rfl, hj⟩
  · refine x_if_eq (tgt := 21) hx hb d_H_isLive_5 (by decide) (fun h => absurd h (by decide)) (fun _ => ?_)
    refine lv_aload_n hx hb d_H_isLive_8 rfl (lv_at hl 0 rfl) ?_
    refine va_get (D := (dC, dI)) (C := R_H) (T := F_H) (N := 5) hx hb hT i_H hown hK hP 5 rfl rfl 1 (by decide) (hT _ k_H_15) (fun _ h9 => h9) (v := .ref (a 7)) rfl d_H_isLive_9 ?_
    refine lv_iload_n hx hb d_H_isLive_12 rfl (lv_at hl 1 rfl) ?_
    refine x_zald hx hb hK hP 7 3 (f := (a_lv σ)) rfl rfl d_H_isLive_13 (by omega) ?_
    have g1 := g_lv j
    refine x_if_eq (tgt := 21) hx hb d_H_isLive_14 (by decide) (fun c14 => ?_) (fun c14 => ?_)
    · refine lv_iconst (v := nI 0) hx hb d_H_isLive_21 (by decide) ?_
      exact x_rz hx hb hr hlk d_H_isLive_22 rfl (Or.inr ⟨rfl, by first | exact fun ⟨j, h1, h2, _, h4⟩ => hj ⟨j, h1, h2, h4⟩ | (rintro ⟨i, h1, h2, h3, h4⟩; have h5 := (nI_eq (by omega) (by omega)).mp h4; subst h5; omega)⟩)
    · refine lv_iconst (v := nI 1) hx hb d_H_isLive_17 (by decide) ?_
      refine lv_goto (tgt := 22) hx hb d_H_isLive_18 (by decide) ?_
      exact x_rz hx hb hr hlk d_H_isLive_22 rfl (Or.inl ⟨rfl, j, hj1, hj2, by omega, rfl⟩)
  · refine x_if_eq (tgt := 21) hx hb d_H_isLive_5 (by decide) (fun _ => ?_) (fun h => absurd h (by decide))
    refine lv_iconst (v := nI 0) hx hb d_H_isLive_21 (by decide) ?_
    exact x_rz hx hb hr hlk d_H_isLive_22 rfl (Or.inr ⟨rfl, by first | exact fun ⟨j, h1, h2, _, h4⟩ => hj ⟨j, h1, h2, h4⟩ | (rintro ⟨i, h1, h2, h3, h4⟩; have h5 := (nI_eq (by omega) (by omega)).mp h4; subst h5; omega)⟩)
end
section
set_option maxRecDepth 100000 in
set_option maxHeartbeats 4000000 in
theorem c_H_kindOf (l : Launch) (dC : Nat → ClassId) (dI : Nat → Nat → Nat) (a : Nat → Nat) (t : Nat → ClassId) (σ : SA) (hG : GA σ) (j : Nat) (hj1 : 1 ≤ j) (hj2 : j ≤ a_hn σ) : Met l y_H_kindOf (wS y_H_kindOf b_H_kindOf 2 (some .int)) (rD 1) (va_Pc [.ref (a 5), .int (nI j)] (RB (dC, dI) (yA t) (wA a t σ))) (vp_Si (fun r => r = nI (a_kd σ j))) 0 0 (fun _ => False) := by
  refine x_enter (by decide) (Nat.le_of_ble_eq_true rfl) ?_
  intro p e s m below meth c ls hx hb hr hml hT hown hlk hnm hl hB
  obtain ⟨hP, hK, hN⟩ := hB
  have hl : lv_has ls 2 [(0, .ref (a 5)), (1, .int (nI j))] := hl
  have hown : s.vm.findClass R_H = some m.cls := hown
  have hG2 := hG
  obtain ⟨g_sn, g_sg, g_tn, g_tx, g_kd, g_lv, g_le, g_ln, g_hn, g_lf, g_lt, g_lc, g_rh, g_rn, g_ws, g_wn⟩ := hG
  refine lv_aload_n hx hb d_H_kindOf_0 rfl (lv_at hl 0 rfl) ?_
  refine lv_iload_n hx hb d_H_kindOf_1 rfl (lv_at hl 1 rfl) ?_
  refine x_ci (x_runV ⟨hx, hb, hml, hown, hT⟩ (c_H_isThere l dC dI a t σ hG2 (nI j)) f_H_isThere k_H_30 blR (va_recv hK hP (ci := 2) (q0 := 5) rfl rfl) (x_bR hK hP hN) hl.1 d_H_kindOf_2 rfl (lv_room (Nat.le_of_ble_eq_true rfl)) ⟨Nat.le_of_ble_eq_true rfl, Nat.le_of_ble_eq_true rfl⟩ ⟨rfl, rfl⟩ ⟨Nat.le_refl 0, Nat.le_refl 0⟩ rfl) (fun r2 q2 => ?_)
  obtain ⟨rfl, _⟩ : r2 = nI 1 ∧ True := by
    rcases q2 with ⟨h9, _⟩ | ⟨_, h9⟩
    · exact ⟨h9, trivial⟩
    · exact absurd ⟨j, by omega, by omega, rfl⟩ h9
  refine x_if_eq (tgt := 17) hx hb d_H_kindOf_5 (by decide) (fun h => absurd h (by decide)) (fun _ => ?_)
  refine lv_aload_n hx hb d_H_kindOf_8 rfl (lv_at hl 0 rfl) ?_
  refine va_get (D := (dC, dI)) (C := R_H) (T := F_H) (N := 5) hx hb hT i_H hown hK hP 5 rfl rfl 0 (by decide) (hT _ k_H_9) (fun _ h9 => h9) (v := .ref (a 6)) rfl d_H_kindOf_9 ?_
  refine lv_iload_n hx hb d_H_kindOf_12 rfl (lv_at hl 1 rfl) ?_
  refine x_iald hx hb hK hP 6 2 (f := (a_kd σ)) rfl rfl d_H_kindOf_13 (by omega) ?_
  refine lv_goto (tgt := 18) hx hb d_H_kindOf_14 (by decide) ?_
  exact x_ri hx hb hr hlk d_H_kindOf_18 rfl

set_option maxRecDepth 100000 in
set_option maxHeartbeats 4000000 in
theorem c_H_letterOf (l : Launch) (dC : Nat → ClassId) (dI : Nat → Nat → Nat) (a : Nat → Nat) (t : Nat → ClassId) (σ : SA) (hG : GA σ) (x y : Int32) : Met l y_H_letterOf (wS y_H_letterOf b_H_letterOf 3 (some .int)) (rD 1) (va_Pc [.ref (a 5), .int x, .int y] (RB (dC, dI) (yA t) (wA a t σ))) (vp_Si (fun r => (∃ j i, 1 ≤ j ∧ j ≤ a_hn σ ∧ i < a_ln σ j ∧ x = nI j ∧ y = nI i ∧ r = nI (a_le σ (j * 20 + i))) ∨ ((¬ ∃ j i, 1 ≤ j ∧ j ≤ a_hn σ ∧ i < a_ln σ j ∧ x = nI j ∧ y = nI i) ∧ r = -1))) 0 0 (fun _ => False) := by
  refine x_enter (by decide) (Nat.le_of_ble_eq_true rfl) ?_
  intro p e s m below meth c ls hx hb hr hml hT hown hlk hnm hl hB
  obtain ⟨hP, hK, hN⟩ := hB
  have hl : lv_has ls 3 [(0, .ref (a 5)), (1, .int x), (2, .int y)] := hl
  have hown : s.vm.findClass R_H = some m.cls := hown
  have hG2 := hG
  obtain ⟨g_sn, g_sg, g_tn, g_tx, g_kd, g_lv, g_le, g_ln, g_hn, g_lf, g_lt, g_lc, g_rh, g_rn, g_ws, g_wn⟩ := hG
  refine lv_aload_n hx hb d_H_letterOf_0 rfl (lv_at hl 0 rfl) ?_
  refine lv_iload_n hx hb d_H_letterOf_1 rfl (lv_at hl 1 rfl) ?_
  refine x_ci (x_runV ⟨hx, hb, hml, hown, hT⟩ (c_H_isThere l dC dI a t σ hG2 x) f_H_isThere k_H_30 blR (va_recv hK hP (ci := 2) (q0 := 5) rfl rfl) (x_bR hK hP hN) hl.1 d_H_letterOf_2 rfl (lv_room (Nat.le_of_ble_eq_true rfl)) ⟨Nat.le_of_ble_eq_true rfl, Nat.le_of_ble_eq_true rfl⟩ ⟨rfl, rfl⟩ ⟨Nat.le_refl 0, Nat.le_refl 0⟩ rfl) (fun r2 q2 => ?_)
  rcases q2 with ⟨rfl, j, hj1, hj2, rfl⟩ | ⟨rfl, hj⟩
  · refine x_if_eq (tgt := 22) hx hb d_H_letterOf_5 (by decide) (fun h => absurd h (by decide)) (fun _ => ?_)
    refine lv_iload_n hx hb d_H_letterOf_8 rfl (lv_at hl 2 rfl) ?_
    refine lv_if_lt (tgt := 22) hx hb d_H_letterOf_9 (by decide) (fun c9 => ?_) (fun c9 => ?_)
    · refine lv_iconst (v := -1) hx hb d_H_letterOf_22 (by decide) ?_
      exact x_ri hx hb hr hlk d_H_letterOf_23 (Or.inr ⟨by first | (rintro ⟨j', i', h1, h2, h3, h4, h5⟩; exact hj ⟨j', h1, h2, h4⟩) | (rintro ⟨j', i', h1, h2, h3, h4, h5⟩; have g9 := g_ln j'; rw [h5] at c9; exact absurd c9 (nI_pos (by omega))) | (rintro ⟨j', i', h1, h2, h3, h4, h5⟩; have h6 := (nI_eq (by omega) (by omega)).mp h4; subst h6; have g9 := g_ln j; have h7 := (nI_eq (by omega) (by omega)).mp h5; omega), rfl⟩)
    · obtain ⟨i, hi, rfl⟩ := nI_of c9
      have g1 := g_ln j
      refine lv_iload_n hx hb d_H_letterOf_12 rfl (lv_at hl 2 rfl) ?_
      refine lv_aload_n hx hb d_H_letterOf_13 rfl (lv_at hl 0 rfl) ?_
      refine va_get (D := (dC, dI)) (C := R_H) (T := F_H) (N := 5) hx hb hT i_H hown hK hP 5 rfl rfl 3 (by decide) (hT _ k_H_23) (fun _ h9 => h9) (v := .ref (a 9)) rfl d_H_letterOf_14 ?_
      refine lv_iload_n hx hb d_H_letterOf_17 rfl (lv_at hl 1 rfl) ?_
      refine x_iald hx hb hK hP 9 5 (f := (a_ln σ)) rfl rfl d_H_letterOf_18 (by omega) ?_
      refine x_icmp_lt (tgt := 24) hx hb d_H_letterOf_19 (by decide) (fun c19 => ?_) (fun c19 => ?_)
      · refine lv_aload_n hx hb d_H_letterOf_24 rfl (lv_at hl 0 rfl) ?_
        refine va_get (D := (dC, dI)) (C := R_H) (T := F_H) (N := 5) hx hb hT i_H hown hK hP 5 rfl rfl 2 (by decide) (hT _ k_H_19) (fun _ h9 => h9) (v := .ref (a 8)) rfl d_H_letterOf_25 ?_
        refine lv_iload_n hx hb d_H_letterOf_28 rfl (lv_at hl 1 rfl) ?_
        refine lv_bipush (v := nI 20) hx hb d_H_letterOf_29 (by decide) ?_
        refine x_imul hx hb d_H_letterOf_31 ?_
        refine lv_iload_n hx hb d_H_letterOf_32 rfl (lv_at hl 2 rfl) ?_
        refine x_iadd hx hb d_H_letterOf_33 ?_
        refine x_cald hx hb hK hP 8 4 (f := (a_le σ)) rfl rfl d_H_letterOf_34 (by omega) ?_
        exact x_ri hx hb hr hlk d_H_letterOf_35 (Or.inl ⟨j, i, hj1, hj2, by omega, rfl, rfl, rfl⟩)
      · refine lv_iconst (v := -1) hx hb d_H_letterOf_22 (by decide) ?_
        exact x_ri hx hb hr hlk d_H_letterOf_23 (Or.inr ⟨by first | (rintro ⟨j', i', h1, h2, h3, h4, h5⟩; exact hj ⟨j', h1, h2, h4⟩) | (rintro ⟨j', i', h1, h2, h3, h4, h5⟩; have g9 := g_ln j'; rw [h5] at c9; exact absurd c9 (nI_pos (by omega))) | (rintro ⟨j', i', h1, h2, h3, h4, h5⟩; have h6 := (nI_eq (by omega) (by omega)).mp h4; subst h6; have g9 := g_ln j; have h7 := (nI_eq (by omega) (by omega)).mp h5; omega), rfl⟩)
  · refine x_if_eq (tgt := 22) hx hb d_H_letterOf_5 (by decide) (fun _ => ?_) (fun h => absurd h (by decide))
    refine lv_iconst (v := -1) hx hb d_H_letterOf_22 (by decide) ?_
    exact x_ri hx hb hr hlk d_H_letterOf_23 (Or.inr ⟨by first | (rintro ⟨j', i', h1, h2, h3, h4, h5⟩; exact hj ⟨j', h1, h2, h4⟩) | (rintro ⟨j', i', h1, h2, h3, h4, h5⟩; have g9 := g_ln j'; rw [h5] at c9; exact absurd c9 (nI_pos (by omega))) | (rintro ⟨j', i', h1, h2, h3, h4, h5⟩; have h6 := (nI_eq (by omega) (by omega)).mp h4; subst h6; have g9 := g_ln j; have h7 := (nI_eq (by omega) (by omega)).mp h5; omega), rfl⟩)

/-- two texts are the same but for capitals -/
def sameT (f : Nat → Nat) (n : Nat) (g : Nat → Nat) (k : Nat) : Prop := n = k ∧ ∀ i, i < k → smN (f i) = smN (g i)
theorem smN_lt {q : Nat} (h : q < 256) : smN q < 65536 := by unfold smN; split <;> omega
set_option maxRecDepth 100000 in
set_option maxHeartbeats 4000000 in
theorem c_H_hasText (l : Launch) (dC : Nat → ClassId) (dI : Nat → Nat → Nat) (a : Nat → Nat) (t : Nat → ClassId) (σ : SA) (hG : GA σ) (j : Nat) (hj1 : 1 ≤ j) (hj2 : j ≤ a_hn σ) : Met l y_H_hasText (wS y_H_hasText b_H_hasText 4 (some .boolean)) (rD 1) (va_Pc [.ref (a 5), .int (nI j), .ref (a 3)] (RB (dC, dI) (yA t) (wA a t σ))) (vp_Si (fun r => BR r (sameT (fun i => a_le σ (j * 20 + i)) (a_ln σ j) (a_tx σ) (a_tn σ)))) 0 0 (fun _ => False) := by
  refine x_enter (by decide) (Nat.le_of_ble_eq_true rfl) ?_
  intro p e s m below meth c ls hx hb hr hml hT hown hlk hnm hl hB
  obtain ⟨hP, hK, hN⟩ := hB
  have hl : lv_has ls 4 [(0, .ref (a 5)), (1, .int (nI j)), (2, .ref (a 3))] := hl
  have hown : s.vm.findClass R_H = some m.cls := hown
  have hG2 := hG
  obtain ⟨g_sn, g_sg, g_tn, g_tx, g_kd, g_lv, g_le, g_ln, g_hn, g_lf, g_lt, g_lc, g_rh, g_rn, g_ws, g_wn⟩ := hG
  have gj := g_ln j
  refine lv_aload_n hx hb d_H_hasText_0 rfl (lv_at hl 0 rfl) ?_
  refine va_get (D := (dC, dI)) (C := R_H) (T := F_H) (N := 5) hx hb hT i_H hown hK hP 5 rfl rfl 3 (by decide) (hT _ k_H_23) (fun _ h9 => h9) (v := .ref (a 9)) rfl d_H_hasText_1 ?_
  refine lv_iload_n hx hb d_H_hasText_4 rfl (lv_at hl 1 rfl) ?_
  refine x_iald hx hb hK hP 9 5 (f := (a_ln σ)) rfl rfl d_H_hasText_5 (by omega) ?_
  refine lv_aload_n hx hb d_H_hasText_6 rfl (lv_at hl 2 rfl) ?_
  refine va_getN (D := (dC, dI)) (C := R_T) (T := F_T) (N := 2) hx hb hT i_T hown hK hP 3 rfl rfl 1 (by decide) (va_Nw.use rfl (hN _ k_H_42 rfl)) (fun _ h9 => h9) (v := .int (nI (a_tn σ))) rfl d_H_hasText_7 ?_
  refine x_icmp_eq (tgt := 15) hx hb d_H_hasText_10 (by decide) (fun c10 => ?_) (fun c10 => ?_)
  · refine lv_iconst (v := nI 0) hx hb d_H_hasText_15 (by decide) ?_
    refine lv_istore_n (lv' := [(3, .int (nI 0)), (0, .ref (a 5)), (1, .int (nI j)), (2, .ref (a 3))]) hx hb d_H_hasText_16 rfl hl (by decide) rfl (fun ls hl => ?_)
    have hloop17 : ∀ (n17 : Nat) (i : Nat) (ls : Array Slot), i ≤ a_tn σ → (∀ i', i' < i → smN (a_le σ (j * 20 + i')) = smN (a_tx σ i')) → a_tn σ + 1 - i < n17 → lv_has ls 4 [(0, .ref (a 5)), (1, .int (nI j)), (2, .ref (a 3)), (3, .int (nI i))] → W p l e (rD 1) s m ([.ref (a 5), .int (nI j), .ref (a 3)] : List Value).toArray below meth c s.heap [] 0 0 (MQ below (vp_Si (fun r => BR r (sameT (fun i => a_le σ (j * 20 + i)) (a_ln σ j) (a_tx σ) (a_tn σ)))) ([.ref (a 5), .int (nI j), .ref (a 3)] : List Value).toArray s 0 0 (fun _ => False)) (F0 m 17 ls []) := by
      intro n17
      induction n17 with
      | zero => intro i ls _ _ h9; exact absurd h9 (Nat.not_lt_zero _)
      | succ n17 ih17 =>
        intro i ls hi hinv hmu17 hl
        refine lv_iload_n hx hb d_H_hasText_17 rfl (lv_at hl 3 rfl) ?_
        refine lv_aload_n hx hb d_H_hasText_18 rfl (lv_at hl 2 rfl) ?_
        refine va_getN (D := (dC, dI)) (C := R_T) (T := F_T) (N := 2) hx hb hT i_T hown hK hP 3 rfl rfl 1 (by decide) (va_Nw.use rfl (hN _ k_H_42 rfl)) (fun _ h9 => h9) (v := .int (nI (a_tn σ))) rfl d_H_hasText_19 ?_
        refine x_icmp_ge (tgt := 59) hx hb d_H_hasText_22 (by decide) (fun c22 => ?_) (fun c22 => ?_)
        · refine lv_iconst (v := nI 1) hx hb d_H_hasText_59 (by decide) ?_
          exact x_rz hx hb hr hlk d_H_hasText_60 rfl (Or.inl ⟨rfl, by omega, fun i' h9 => hinv i' (by omega)⟩)
        · refine lv_aload_n hx hb d_H_hasText_25 rfl (lv_at hl 0 rfl) ?_
          refine va_get (D := (dC, dI)) (C := R_H) (T := F_H) (N := 5) hx hb hT i_H hown hK hP 5 rfl rfl 2 (by decide) (hT _ k_H_19) (fun _ h9 => h9) (v := .ref (a 8)) rfl d_H_hasText_26 ?_
          refine lv_iload_n hx hb d_H_hasText_29 rfl (lv_at hl 1 rfl) ?_
          refine lv_bipush (v := nI 20) hx hb d_H_hasText_30 (by decide) ?_
          refine x_imul hx hb d_H_hasText_32 ?_
          refine lv_iload_n hx hb d_H_hasText_33 rfl (lv_at hl 3 rfl) ?_
          refine x_iadd hx hb d_H_hasText_34 ?_
          refine x_cald hx hb hK hP 8 4 (f := (a_le σ)) rfl rfl d_H_hasText_35 (by omega) ?_
          refine x_ci (x_runS ⟨hx, hb, hml, hown, hT⟩ (c_H_small l (a_le σ (j * 20 + i)) (by have := g_le (j * 20 + i); have := g_tx i; omega)) f_H_small k_H_52 blT (x_bT hN) hl.1 d_H_hasText_36 rfl (lv_room (Nat.le_of_ble_eq_true rfl)) ⟨Nat.le_of_ble_eq_true rfl, Nat.le_of_ble_eq_true rfl⟩ ⟨rfl, rfl⟩ ⟨Nat.le_refl 0, Nat.le_refl 0⟩ rfl) (fun r36 q36 => ?_)
          subst q36
          refine lv_aload_n hx hb d_H_hasText_39 rfl (lv_at hl 2 rfl) ?_
          refine va_getN (D := (dC, dI)) (C := R_T) (T := F_T) (N := 2) hx hb hT i_T hown hK hP 3 rfl rfl 0 (by decide) (va_Nw.use rfl (hN _ k_H_47 rfl)) (fun _ h9 => h9) (v := .ref (a 4)) rfl d_H_hasText_40 ?_
          refine lv_iload_n hx hb d_H_hasText_43 rfl (lv_at hl 3 rfl) ?_
          refine x_cald hx hb hK hP 4 1 (f := (a_tx σ)) rfl rfl d_H_hasText_44 (by omega) ?_
          refine x_ci (x_runS ⟨hx, hb, hml, hown, hT⟩ (c_H_small l (a_tx σ i) (by have := g_le (j * 20 + i); have := g_tx i; omega)) f_H_small k_H_52 blT (x_bT hN) hl.1 d_H_hasText_45 rfl (lv_room (Nat.le_of_ble_eq_true rfl)) ⟨Nat.le_of_ble_eq_true rfl, Nat.le_of_ble_eq_true rfl⟩ ⟨rfl, rfl⟩ ⟨Nat.le_refl 0, Nat.le_refl 0⟩ rfl) (fun r45 q45 => ?_)
          subst q45
          have g1 := smN_lt (g_le (j * 20 + i))
          have g2 := smN_lt (g_tx i)
          refine x_icmp_eq (tgt := 53) hx hb d_H_hasText_48 (by decide) (fun c48 => ?_) (fun c48 => ?_)
          · refine x_iinc (lv' := [(3, .int (nI (i + 1))), (0, .ref (a 5)), (1, .int (nI j)), (2, .ref (a 3))]) hx hb d_H_hasText_53 hl (k := 3) rfl (by decide) rfl (fun ls hl => ?_)
            refine lv_goto (tgt := 17) hx hb d_H_hasText_56 (by decide) ?_
            exact ih17 (i + 1) ls (by omega) (fun i' h9 => by rcases Nat.lt_succ_iff_lt_or_eq.mp h9 with h8 | h8; exact hinv i' h8; subst h8; exact c48) (by omega) (lv_sub hl [1, 2, 3, 0] rfl)
          · refine lv_iconst (v := nI 0) hx hb d_H_hasText_51 (by decide) ?_
            exact x_rz hx hb hr hlk d_H_hasText_52 rfl (Or.inr ⟨rfl, fun h9 => c48 (h9.2 i (by omega))⟩)
    exact hloop17 _ 0 ls (by omega) (fun i' h9 => absurd h9 (Nat.not_lt_zero _)) (Nat.lt_succ_self _) (lv_sub hl [1, 2, 3, 0] rfl)
  · refine lv_iconst (v := nI 0) hx hb d_H_hasText_13 (by decide) ?_
    exact x_rz hx hb hr hlk d_H_hasText_14 rfl (Or.inr ⟨rfl, fun h9 => by have := h9.1; omega⟩)
end
section
theorem updN_lt {f : Nat → Nat} {b k x : Nat} (h : ∀ j, f j < b) (hx : x < b) : ∀ j, updN f k x j < b := fun j => by unfold updN; split; exact hx; exact h j
theorem updN_le {f : Nat → Nat} {b k x : Nat} (h : ∀ j, f j ≤ b) (hx : x ≤ b) : ∀ j, updN f k x j ≤ b := fun j => by unfold updN; split; exact hx; exact h j
theorem GA_sg {σ : SA} {f : (Nat → Nat)} (h : GA σ) (hf : ∀ j, f j < 256) : GA (au_sg σ f) := by
  obtain ⟨g_sn, g_sg, g_tn, g_tx, g_kd, g_lv, g_le, g_ln, g_hn, g_lf, g_lt, g_lc, g_rh, g_rn, g_ws, g_wn⟩ := h
  exact ⟨g_sn, hf, g_tn, g_tx, g_kd, g_lv, g_le, g_ln, g_hn, g_lf, g_lt, g_lc, g_rh, g_rn, g_ws, g_wn⟩
theorem GA_sn {σ : SA} {f : Nat} (h : GA σ) (hf : f ≤ 40) : GA (au_sn σ f) := by
  obtain ⟨g_sn, g_sg, g_tn, g_tx, g_kd, g_lv, g_le, g_ln, g_hn, g_lf, g_lt, g_lc, g_rh, g_rn, g_ws, g_wn⟩ := h
  exact ⟨hf, g_sg, g_tn, g_tx, g_kd, g_lv, g_le, g_ln, g_hn, g_lf, g_lt, g_lc, g_rh, g_rn, g_ws, g_wn⟩
theorem GA_tx {σ : SA} {f : (Nat → Nat)} (h : GA σ) (hf : ∀ j, f j < 256) : GA (au_tx σ f) := by
  obtain ⟨g_sn, g_sg, g_tn, g_tx, g_kd, g_lv, g_le, g_ln, g_hn, g_lf, g_lt, g_lc, g_rh, g_rn, g_ws, g_wn⟩ := h
  exact ⟨g_sn, g_sg, g_tn, hf, g_kd, g_lv, g_le, g_ln, g_hn, g_lf, g_lt, g_lc, g_rh, g_rn, g_ws, g_wn⟩
theorem GA_tn {σ : SA} {f : Nat} (h : GA σ) (hf : f ≤ 20) : GA (au_tn σ f) := by
  obtain ⟨g_sn, g_sg, g_tn, g_tx, g_kd, g_lv, g_le, g_ln, g_hn, g_lf, g_lt, g_lc, g_rh, g_rn, g_ws, g_wn⟩ := h
  exact ⟨g_sn, g_sg, hf, g_tx, g_kd, g_lv, g_le, g_ln, g_hn, g_lf, g_lt, g_lc, g_rh, g_rn, g_ws, g_wn⟩
theorem GA_kd {σ : SA} {f : (Nat → Nat)} (h : GA σ) (hf : ∀ j, f j < 4) : GA (au_kd σ f) := by
  obtain ⟨g_sn, g_sg, g_tn, g_tx, g_kd, g_lv, g_le, g_ln, g_hn, g_lf, g_lt, g_lc, g_rh, g_rn, g_ws, g_wn⟩ := h
  exact ⟨g_sn, g_sg, g_tn, g_tx, hf, g_lv, g_le, g_ln, g_hn, g_lf, g_lt, g_lc, g_rh, g_rn, g_ws, g_wn⟩
theorem GA_lv {σ : SA} {f : (Nat → Nat)} (h : GA σ) (hf : ∀ j, f j < 2) : GA (au_lv σ f) := by
  obtain ⟨g_sn, g_sg, g_tn, g_tx, g_kd, g_lv, g_le, g_ln, g_hn, g_lf, g_lt, g_lc, g_rh, g_rn, g_ws, g_wn⟩ := h
  exact ⟨g_sn, g_sg, g_tn, g_tx, g_kd, hf, g_le, g_ln, g_hn, g_lf, g_lt, g_lc, g_rh, g_rn, g_ws, g_wn⟩
theorem GA_le {σ : SA} {f : (Nat → Nat)} (h : GA σ) (hf : ∀ j, f j < 256) : GA (au_le σ f) := by
  obtain ⟨g_sn, g_sg, g_tn, g_tx, g_kd, g_lv, g_le, g_ln, g_hn, g_lf, g_lt, g_lc, g_rh, g_rn, g_ws, g_wn⟩ := h
  exact ⟨g_sn, g_sg, g_tn, g_tx, g_kd, g_lv, hf, g_ln, g_hn, g_lf, g_lt, g_lc, g_rh, g_rn, g_ws, g_wn⟩
theorem GA_ln {σ : SA} {f : (Nat → Nat)} (h : GA σ) (hf : ∀ j, f j ≤ 20) : GA (au_ln σ f) := by
  obtain ⟨g_sn, g_sg, g_tn, g_tx, g_kd, g_lv, g_le, g_ln, g_hn, g_lf, g_lt, g_lc, g_rh, g_rn, g_ws, g_wn⟩ := h
  exact ⟨g_sn, g_sg, g_tn, g_tx, g_kd, g_lv, g_le, hf, g_hn, g_lf, g_lt, g_lc, g_rh, g_rn, g_ws, g_wn⟩
theorem GA_hn {σ : SA} {f : Nat} (h : GA σ) (hf : f ≤ 60) : GA (au_hn σ f) := by
  obtain ⟨g_sn, g_sg, g_tn, g_tx, g_kd, g_lv, g_le, g_ln, g_hn, g_lf, g_lt, g_lc, g_rh, g_rn, g_ws, g_wn⟩ := h
  exact ⟨g_sn, g_sg, g_tn, g_tx, g_kd, g_lv, g_le, g_ln, hf, g_lf, g_lt, g_lc, g_rh, g_rn, g_ws, g_wn⟩
theorem GA_tg {σ : SA} {f : (Nat → Int64)} (h : GA σ) : GA (au_tg σ f) := by
  obtain ⟨g_sn, g_sg, g_tn, g_tx, g_kd, g_lv, g_le, g_ln, g_hn, g_lf, g_lt, g_lc, g_rh, g_rn, g_ws, g_wn⟩ := h
  exact ⟨g_sn, g_sg, g_tn, g_tx, g_kd, g_lv, g_le, g_ln, g_hn, g_lf, g_lt, g_lc, g_rh, g_rn, g_ws, g_wn⟩
theorem GA_lf {σ : SA} {f : (Nat → Nat)} (h : GA σ) (hf : ∀ j, f j ≤ 60) : GA (au_lf σ f) := by
  obtain ⟨g_sn, g_sg, g_tn, g_tx, g_kd, g_lv, g_le, g_ln, g_hn, g_lf, g_lt, g_lc, g_rh, g_rn, g_ws, g_wn⟩ := h
  exact ⟨g_sn, g_sg, g_tn, g_tx, g_kd, g_lv, g_le, g_ln, g_hn, hf, g_lt, g_lc, g_rh, g_rn, g_ws, g_wn⟩
theorem GA_lt {σ : SA} {f : (Nat → Nat)} (h : GA σ) (hf : ∀ j, f j ≤ 60) : GA (au_lt σ f) := by
  obtain ⟨g_sn, g_sg, g_tn, g_tx, g_kd, g_lv, g_le, g_ln, g_hn, g_lf, g_lt, g_lc, g_rh, g_rn, g_ws, g_wn⟩ := h
  exact ⟨g_sn, g_sg, g_tn, g_tx, g_kd, g_lv, g_le, g_ln, g_hn, g_lf, hf, g_lc, g_rh, g_rn, g_ws, g_wn⟩
theorem GA_ld {σ : SA} {f : (Nat → Int64)} (h : GA σ) : GA (au_ld σ f) := by
  obtain ⟨g_sn, g_sg, g_tn, g_tx, g_kd, g_lv, g_le, g_ln, g_hn, g_lf, g_lt, g_lc, g_rh, g_rn, g_ws, g_wn⟩ := h
  exact ⟨g_sn, g_sg, g_tn, g_tx, g_kd, g_lv, g_le, g_ln, g_hn, g_lf, g_lt, g_lc, g_rh, g_rn, g_ws, g_wn⟩
theorem GA_lc {σ : SA} {f : Nat} (h : GA σ) (hf : f ≤ 512) : GA (au_lc σ f) := by
  obtain ⟨g_sn, g_sg, g_tn, g_tx, g_kd, g_lv, g_le, g_ln, g_hn, g_lf, g_lt, g_lc, g_rh, g_rn, g_ws, g_wn⟩ := h
  exact ⟨g_sn, g_sg, g_tn, g_tx, g_kd, g_lv, g_le, g_ln, g_hn, g_lf, g_lt, hf, g_rh, g_rn, g_ws, g_wn⟩
theorem GA_rh {σ : SA} {f : (Nat → Nat)} (h : GA σ) (hf : ∀ j, f j ≤ 60) : GA (au_rh σ f) := by
  obtain ⟨g_sn, g_sg, g_tn, g_tx, g_kd, g_lv, g_le, g_ln, g_hn, g_lf, g_lt, g_lc, g_rh, g_rn, g_ws, g_wn⟩ := h
  exact ⟨g_sn, g_sg, g_tn, g_tx, g_kd, g_lv, g_le, g_ln, g_hn, g_lf, g_lt, g_lc, hf, g_rn, g_ws, g_wn⟩
theorem GA_rd {σ : SA} {f : (Nat → Int64)} (h : GA σ) : GA (au_rd σ f) := by
  obtain ⟨g_sn, g_sg, g_tn, g_tx, g_kd, g_lv, g_le, g_ln, g_hn, g_lf, g_lt, g_lc, g_rh, g_rn, g_ws, g_wn⟩ := h
  exact ⟨g_sn, g_sg, g_tn, g_tx, g_kd, g_lv, g_le, g_ln, g_hn, g_lf, g_lt, g_lc, g_rh, g_rn, g_ws, g_wn⟩
theorem GA_rn {σ : SA} {f : Nat} (h : GA σ) (hf : f ≤ 60) : GA (au_rn σ f) := by
  obtain ⟨g_sn, g_sg, g_tn, g_tx, g_kd, g_lv, g_le, g_ln, g_hn, g_lf, g_lt, g_lc, g_rh, g_rn, g_ws, g_wn⟩ := h
  exact ⟨g_sn, g_sg, g_tn, g_tx, g_kd, g_lv, g_le, g_ln, g_hn, g_lf, g_lt, g_lc, g_rh, hf, g_ws, g_wn⟩
theorem GA_ws {σ : SA} {f : (Nat → Nat)} (h : GA σ) (hf : ∀ j, f j ≤ 60) : GA (au_ws σ f) := by
  obtain ⟨g_sn, g_sg, g_tn, g_tx, g_kd, g_lv, g_le, g_ln, g_hn, g_lf, g_lt, g_lc, g_rh, g_rn, g_ws, g_wn⟩ := h
  exact ⟨g_sn, g_sg, g_tn, g_tx, g_kd, g_lv, g_le, g_ln, g_hn, g_lf, g_lt, g_lc, g_rh, g_rn, hf, g_wn⟩
theorem GA_wn {σ : SA} {f : Nat} (h : GA σ) (hf : f ≤ 60) : GA (au_wn σ f) := by
  obtain ⟨g_sn, g_sg, g_tn, g_tx, g_kd, g_lv, g_le, g_ln, g_hn, g_lf, g_lt, g_lc, g_rh, g_rn, g_ws, g_wn⟩ := h
  exact ⟨g_sn, g_sg, g_tn, g_tx, g_kd, g_lv, g_le, g_ln, g_hn, g_lf, g_lt, g_lc, g_rh, g_rn, g_ws, hf⟩
theorem GA_aw {σ : SA} {f : (Nat → Int64)} (h : GA σ) : GA (au_aw σ f) := by
  obtain ⟨g_sn, g_sg, g_tn, g_tx, g_kd, g_lv, g_le, g_ln, g_hn, g_lf, g_lt, g_lc, g_rh, g_rn, g_ws, g_wn⟩ := h
  exact ⟨g_sn, g_sg, g_tn, g_tx, g_kd, g_lv, g_le, g_ln, g_hn, g_lf, g_lt, g_lc, g_rh, g_rn, g_ws, g_wn⟩
/-- the first of 1 .. n with P, or 0 -/
def FST (P : Nat → Prop) (n : Nat) (r : Int32) : Prop := (∃ h, 1 ≤ h ∧ h ≤ n ∧ P h ∧ (∀ i, 1 ≤ i → i < h → ¬ P i) ∧ r = nI h) ∨ ((∀ i, 1 ≤ i → i ≤ n → ¬ P i) ∧ r = nI 0)
def a_same (σ : SA) (h : Nat) : Prop := sameT (fun i => a_le σ (h * 20 + i)) (a_ln σ h) (a_tx σ) (a_tn σ)
theorem notT_s {P : Nat → Prop} {h : Nat} (hi : ∀ i, 1 ≤ i → i < h → ¬ P i) (hp : ¬ P h) : ∀ i, 1 ≤ i → i < h + 1 → ¬ P i := fun i h1 h2 => by
  rcases Nat.lt_succ_iff_lt_or_eq.mp h2 with h3 | h3
  · exact hi i h1 h3
  · rw [h3]; exact hp
set_option maxRecDepth 100000 in
set_option maxHeartbeats 4000000 in
theorem c_H_firstOfAnyKind (l : Launch) (dC : Nat → ClassId) (dI : Nat → Nat → Nat) (a : Nat → Nat) (t : Nat → ClassId) (σ : SA) (hG : GA σ)  : Met l y_H_firstOfAnyKind (wS y_H_firstOfAnyKind b_H_firstOfAnyKind 3 (some .int)) (rD 2) (va_Pc [.ref (a 5), .ref (a 3)] (RB (dC, dI) (yA t) (wA a t σ))) (vp_Si (fun r => FST (fun h => a_lv σ h = 1 ∧ a_same σ h) (a_hn σ) r)) 0 0 (fun _ => False) := by
  refine x_enter (by decide) (Nat.le_of_ble_eq_true rfl) ?_
  intro p e s m below meth c ls hx hb hr hml hT hown hlk hnm hl hB
  obtain ⟨hP, hK, hN⟩ := hB
  have hl : lv_has ls 3 [(0, .ref (a 5)), (1, .ref (a 3))] := hl
  have hown : s.vm.findClass R_H = some m.cls := hown
  have hG2 := hG
  obtain ⟨g_sn, g_sg, g_tn, g_tx, g_kd, g_lv, g_le, g_ln, g_hn, g_lf, g_lt, g_lc, g_rh, g_rn, g_ws, g_wn⟩ := hG
  refine lv_iconst (v := nI 1) hx hb d_H_firstOfAnyKind_0 (by decide) ?_
  refine lv_istore_n (lv' := [(2, .int (nI 1)), (0, .ref (a 5)), (1, .ref (a 3))]) hx hb d_H_firstOfAnyKind_1 rfl hl (by decide) rfl (fun ls hl => ?_)
  have hloop2 : ∀ (n2 : Nat) (h : Nat) (ls : Array Slot), 1 ≤ h → h ≤ a_hn σ + 1 → (∀ i, 1 ≤ i → i < h → ¬ (fun h => a_lv σ h = 1 ∧ a_same σ h) i) → a_hn σ + 1 - h < n2 → lv_has ls 3 [(0, .ref (a 5)), (1, .ref (a 3)), (2, .int (nI h))] → W p l e (rD 2) s m ([.ref (a 5), .ref (a 3)] : List Value).toArray below meth c s.heap [] 0 0 (MQ below (vp_Si (fun r => FST (fun h => a_lv σ h = 1 ∧ a_same σ h) (a_hn σ) r)) ([.ref (a 5), .ref (a 3)] : List Value).toArray s 0 0 (fun _ => False)) (F0 m 2 ls []) := by
    intro n2
    induction n2 with
    | zero => intro h ls _ _ _ h9; exact absurd h9 (Nat.not_lt_zero _)
    | succ n2 ih2 =>
      intro h ls h1 h2 hinv hmu2 hl
      refine lv_iload_n hx hb d_H_firstOfAnyKind_2 rfl (lv_at hl 2 rfl) ?_
      refine lv_aload_n hx hb d_H_firstOfAnyKind_3 rfl (lv_at hl 0 rfl) ?_
      refine va_get (D := (dC, dI)) (C := R_H) (T := F_H) (N := 5) hx hb hT i_H hown hK hP 5 rfl rfl 4 (by decide) (hT _ k_H_26) (fun _ h9 => h9) (v := .int (nI (a_hn σ))) rfl d_H_firstOfAnyKind_4 ?_
      refine x_icmp_gt (tgt := 36) hx hb d_H_firstOfAnyKind_7 (by decide) (fun c7 => ?_) (fun c7 => ?_)
      · refine lv_iconst (v := nI 0) hx hb d_H_firstOfAnyKind_36 (by decide) ?_
        exact x_ri hx hb hr hlk d_H_firstOfAnyKind_37 (Or.inr ⟨fun i h3 h4 => hinv i h3 (by omega), rfl⟩)
      · refine lv_aload_n hx hb d_H_firstOfAnyKind_10 rfl (lv_at hl 0 rfl) ?_
        refine va_get (D := (dC, dI)) (C := R_H) (T := F_H) (N := 5) hx hb hT i_H hown hK hP 5 rfl rfl 1 (by decide) (hT _ k_H_15) (fun _ h9 => h9) (v := .ref (a 7)) rfl d_H_firstOfAnyKind_11 ?_
        refine lv_iload_n hx hb d_H_firstOfAnyKind_14 rfl (lv_at hl 2 rfl) ?_
        refine x_zald hx hb hK hP 7 3 (f := (a_lv σ)) rfl rfl d_H_firstOfAnyKind_15 (by omega) ?_
        have g1 := g_lv h
        refine x_if_eq (tgt := 30) hx hb d_H_firstOfAnyKind_16 (by decide) (fun c16 => ?_) (fun c16 => ?_)
        · refine x_iinc (lv' := [(2, .int (nI (h + 1))), (0, .ref (a 5)), (1, .ref (a 3))]) hx hb d_H_firstOfAnyKind_30 hl (k := 2) rfl (by decide) rfl (fun ls hl => ?_)
          refine lv_goto (tgt := 2) hx hb d_H_firstOfAnyKind_33 (by decide) ?_
          exact ih2 (h + 1) ls (by omega) (by omega) (notT_s hinv (fun h9 => by first | exact hq h9.2 | omega)) (by omega) (lv_sub hl [1, 2, 0] rfl)
        · refine lv_aload_n hx hb d_H_firstOfAnyKind_19 rfl (lv_at hl 0 rfl) ?_
          refine lv_iload_n hx hb d_H_firstOfAnyKind_20 rfl (lv_at hl 2 rfl) ?_
          refine lv_aload_n hx hb d_H_firstOfAnyKind_21 rfl (lv_at hl 1 rfl) ?_
          refine x_ci (x_runV ⟨hx, hb, hml, hown, hT⟩ (c_H_hasText l dC dI a t σ hG2 h (by omega) (by omega)) f_H_hasText k_H_48 blR (va_recv hK hP (ci := 2) (q0 := 5) rfl rfl) (x_bR hK hP hN) hl.1 d_H_firstOfAnyKind_22 rfl (lv_room (Nat.le_of_ble_eq_true rfl)) ⟨Nat.le_of_ble_eq_true rfl, Nat.le_of_ble_eq_true rfl⟩ ⟨rfl, rfl⟩ ⟨Nat.le_refl 0, Nat.le_refl 0⟩ rfl) (fun r22 q22 => ?_)
          rcases q22 with ⟨rfl, hq⟩ | ⟨rfl, hq⟩
          · refine x_if_eq (tgt := 30) hx hb d_H_firstOfAnyKind_25 (by decide) (fun h => absurd h (by decide)) (fun _ => ?_)
            refine lv_iload_n hx hb d_H_firstOfAnyKind_28 rfl (lv_at hl 2 rfl) ?_
            exact x_ri hx hb hr hlk d_H_firstOfAnyKind_29 (Or.inl ⟨h, by omega, by omega, ⟨by omega, hq⟩, fun i h3 h4 => hinv i h3 h4, rfl⟩)
          · refine x_if_eq (tgt := 30) hx hb d_H_firstOfAnyKind_25 (by decide) (fun _ => ?_) (fun h => absurd h (by decide))
            refine x_iinc (lv' := [(2, .int (nI (h + 1))), (0, .ref (a 5)), (1, .ref (a 3))]) hx hb d_H_firstOfAnyKind_30 hl (k := 2) rfl (by decide) rfl (fun ls hl => ?_)
            refine lv_goto (tgt := 2) hx hb d_H_firstOfAnyKind_33 (by decide) ?_
            exact ih2 (h + 1) ls (by omega) (by omega) (notT_s hinv (fun h9 => by first | exact hq h9.2 | omega)) (by omega) (lv_sub hl [1, 2, 0] rfl)
  exact hloop2 _ 1 ls (by omega) (by omega) (fun i h3 h4 => by omega) (Nat.lt_succ_self _) (lv_sub hl [1, 2, 0] rfl)

set_option maxRecDepth 100000 in
set_option maxHeartbeats 4000000 in
theorem c_H_firstOfKind (l : Launch) (dC : Nat → ClassId) (dI : Nat → Nat → Nat) (a : Nat → Nat) (t : Nat → ClassId) (σ : SA) (hG : GA σ) (kk ex : Nat) (hkk : kk < 4) (hex : ex ≤ 60) : Met l y_H_firstOfKind (wS y_H_firstOfKind b_H_firstOfKind 5 (some .int)) (rD 2) (va_Pc [.ref (a 5), .int (nI kk), .ref (a 3), .int (nI ex)] (RB (dC, dI) (yA t) (wA a t σ))) (vp_Si (fun r => FST (fun h => h ≠ ex ∧ a_lv σ h = 1 ∧ a_kd σ h = kk ∧ a_same σ h) (a_hn σ) r)) 0 0 (fun _ => False) := by
  refine x_enter (by decide) (Nat.le_of_ble_eq_true rfl) ?_
  intro p e s m below meth c ls hx hb hr hml hT hown hlk hnm hl hB
  obtain ⟨hP, hK, hN⟩ := hB
  have hl : lv_has ls 5 [(0, .ref (a 5)), (1, .int (nI kk)), (2, .ref (a 3)), (3, .int (nI ex))] := hl
  have hown : s.vm.findClass R_H = some m.cls := hown
  have hG2 := hG
  obtain ⟨g_sn, g_sg, g_tn, g_tx, g_kd, g_lv, g_le, g_ln, g_hn, g_lf, g_lt, g_lc, g_rh, g_rn, g_ws, g_wn⟩ := hG
  refine lv_iconst (v := nI 1) hx hb d_H_firstOfKind_0 (by decide) ?_
  refine lv_istore (lv' := [(4, .int (nI 1)), (0, .ref (a 5)), (1, .int (nI kk)), (2, .ref (a 3)), (3, .int (nI ex))]) hx hb d_H_firstOfKind_1 hl (by decide) rfl (fun ls hl => ?_)
  have hloop3 : ∀ (n3 : Nat) (h : Nat) (ls : Array Slot), 1 ≤ h → h ≤ a_hn σ + 1 → (∀ i, 1 ≤ i → i < h → ¬ (fun h => h ≠ ex ∧ a_lv σ h = 1 ∧ a_kd σ h = kk ∧ a_same σ h) i) → a_hn σ + 1 - h < n3 → lv_has ls 5 [(0, .ref (a 5)), (1, .int (nI kk)), (2, .ref (a 3)), (3, .int (nI ex)), (4, .int (nI h))] → W p l e (rD 2) s m ([.ref (a 5), .int (nI kk), .ref (a 3), .int (nI ex)] : List Value).toArray below meth c s.heap [] 0 0 (MQ below (vp_Si (fun r => FST (fun h => h ≠ ex ∧ a_lv σ h = 1 ∧ a_kd σ h = kk ∧ a_same σ h) (a_hn σ) r)) ([.ref (a 5), .int (nI kk), .ref (a 3), .int (nI ex)] : List Value).toArray s 0 0 (fun _ => False)) (F0 m 3 ls []) := by
    intro n3
    induction n3 with
    | zero => intro h ls _ _ _ h9; exact absurd h9 (Nat.not_lt_zero _)
    | succ n3 ih3 =>
      intro h ls h1 h2 hinv hmu3 hl
      refine lv_iload hx hb d_H_firstOfKind_3 (lv_at hl 4 rfl) ?_
      refine lv_aload_n hx hb d_H_firstOfKind_5 rfl (lv_at hl 0 rfl) ?_
      refine va_get (D := (dC, dI)) (C := R_H) (T := F_H) (N := 5) hx hb hT i_H hown hK hP 5 rfl rfl 4 (by decide) (hT _ k_H_26) (fun _ h9 => h9) (v := .int (nI (a_hn σ))) rfl d_H_firstOfKind_6 ?_
      refine x_icmp_gt (tgt := 58) hx hb d_H_firstOfKind_9 (by decide) (fun c9 => ?_) (fun c9 => ?_)
      · refine lv_iconst (v := nI 0) hx hb d_H_firstOfKind_58 (by decide) ?_
        exact x_ri hx hb hr hlk d_H_firstOfKind_59 (Or.inr ⟨fun i h3 h4 => hinv i h3 (by omega), rfl⟩)
      · refine lv_iload hx hb d_H_firstOfKind_12 (lv_at hl 4 rfl) ?_
        refine lv_iload_n hx hb d_H_firstOfKind_14 rfl (lv_at hl 3 rfl) ?_
        refine x_icmp_eq (tgt := 52) hx hb d_H_firstOfKind_15 (by decide) (fun c15 => ?_) (fun c15 => ?_)
        · refine x_iinc (lv' := [(4, .int (nI (h + 1))), (0, .ref (a 5)), (1, .int (nI kk)), (2, .ref (a 3)), (3, .int (nI ex))]) hx hb d_H_firstOfKind_52 hl (k := 4) rfl (by decide) rfl (fun ls hl => ?_)
          refine lv_goto (tgt := 3) hx hb d_H_firstOfKind_55 (by decide) ?_
          exact ih3 (h + 1) ls (by omega) (by omega) (notT_s hinv (fun h9 => by first | exact hq h9.2.2.2 | omega)) (by omega) (lv_sub hl [1, 2, 3, 4, 0] rfl)
        · refine lv_aload_n hx hb d_H_firstOfKind_18 rfl (lv_at hl 0 rfl) ?_
          refine va_get (D := (dC, dI)) (C := R_H) (T := F_H) (N := 5) hx hb hT i_H hown hK hP 5 rfl rfl 1 (by decide) (hT _ k_H_15) (fun _ h9 => h9) (v := .ref (a 7)) rfl d_H_firstOfKind_19 ?_
          refine lv_iload hx hb d_H_firstOfKind_22 (lv_at hl 4 rfl) ?_
          refine x_zald hx hb hK hP 7 3 (f := (a_lv σ)) rfl rfl d_H_firstOfKind_24 (by omega) ?_
          have g1 := g_lv h
          refine x_if_eq (tgt := 52) hx hb d_H_firstOfKind_25 (by decide) (fun c25 => ?_) (fun c25 => ?_)
          · refine x_iinc (lv' := [(4, .int (nI (h + 1))), (0, .ref (a 5)), (1, .int (nI kk)), (2, .ref (a 3)), (3, .int (nI ex))]) hx hb d_H_firstOfKind_52 hl (k := 4) rfl (by decide) rfl (fun ls hl => ?_)
            refine lv_goto (tgt := 3) hx hb d_H_firstOfKind_55 (by decide) ?_
            exact ih3 (h + 1) ls (by omega) (by omega) (notT_s hinv (fun h9 => by first | exact hq h9.2.2.2 | omega)) (by omega) (lv_sub hl [1, 2, 3, 4, 0] rfl)
          · refine lv_aload_n hx hb d_H_firstOfKind_28 rfl (lv_at hl 0 rfl) ?_
            refine va_get (D := (dC, dI)) (C := R_H) (T := F_H) (N := 5) hx hb hT i_H hown hK hP 5 rfl rfl 0 (by decide) (hT _ k_H_9) (fun _ h9 => h9) (v := .ref (a 6)) rfl d_H_firstOfKind_29 ?_
            refine lv_iload hx hb d_H_firstOfKind_32 (lv_at hl 4 rfl) ?_
            refine x_iald hx hb hK hP 6 2 (f := (a_kd σ)) rfl rfl d_H_firstOfKind_34 (by omega) ?_
            refine lv_iload_n hx hb d_H_firstOfKind_35 rfl (lv_at hl 1 rfl) ?_
            have g2 := g_kd h
            refine x_icmp_ne (tgt := 52) hx hb d_H_firstOfKind_36 (by decide) (fun c36 => ?_) (fun c36 => ?_)
            · refine x_iinc (lv' := [(4, .int (nI (h + 1))), (0, .ref (a 5)), (1, .int (nI kk)), (2, .ref (a 3)), (3, .int (nI ex))]) hx hb d_H_firstOfKind_52 hl (k := 4) rfl (by decide) rfl (fun ls hl => ?_)
              refine lv_goto (tgt := 3) hx hb d_H_firstOfKind_55 (by decide) ?_
              exact ih3 (h + 1) ls (by omega) (by omega) (notT_s hinv (fun h9 => by first | exact hq h9.2.2.2 | omega)) (by omega) (lv_sub hl [1, 2, 3, 4, 0] rfl)
            · refine lv_aload_n hx hb d_H_firstOfKind_39 rfl (lv_at hl 0 rfl) ?_
              refine lv_iload hx hb d_H_firstOfKind_40 (lv_at hl 4 rfl) ?_
              refine lv_aload_n hx hb d_H_firstOfKind_42 rfl (lv_at hl 2 rfl) ?_
              refine x_ci (x_runV ⟨hx, hb, hml, hown, hT⟩ (c_H_hasText l dC dI a t σ hG2 h (by omega) (by omega)) f_H_hasText k_H_48 blR (va_recv hK hP (ci := 2) (q0 := 5) rfl rfl) (x_bR hK hP hN) hl.1 d_H_firstOfKind_43 rfl (lv_room (Nat.le_of_ble_eq_true rfl)) ⟨Nat.le_of_ble_eq_true rfl, Nat.le_of_ble_eq_true rfl⟩ ⟨rfl, rfl⟩ ⟨Nat.le_refl 0, Nat.le_refl 0⟩ rfl) (fun r43 q43 => ?_)
              rcases q43 with ⟨rfl, hq⟩ | ⟨rfl, hq⟩
              · refine x_if_eq (tgt := 52) hx hb d_H_firstOfKind_46 (by decide) (fun h => absurd h (by decide)) (fun _ => ?_)
                refine lv_iload hx hb d_H_firstOfKind_49 (lv_at hl 4 rfl) ?_
                exact x_ri hx hb hr hlk d_H_firstOfKind_51 (Or.inl ⟨h, by omega, by omega, ⟨by omega, by omega, by omega, hq⟩, fun i h3 h4 => hinv i h3 h4, rfl⟩)
              · refine x_if_eq (tgt := 52) hx hb d_H_firstOfKind_46 (by decide) (fun _ => ?_) (fun h => absurd h (by decide))
                refine x_iinc (lv' := [(4, .int (nI (h + 1))), (0, .ref (a 5)), (1, .int (nI kk)), (2, .ref (a 3)), (3, .int (nI ex))]) hx hb d_H_firstOfKind_52 hl (k := 4) rfl (by decide) rfl (fun ls hl => ?_)
                refine lv_goto (tgt := 3) hx hb d_H_firstOfKind_55 (by decide) ?_
                exact ih3 (h + 1) ls (by omega) (by omega) (notT_s hinv (fun h9 => by first | exact hq h9.2.2.2 | omega)) (by omega) (lv_sub hl [1, 2, 3, 4, 0] rfl)
  exact hloop3 _ 1 ls (by omega) (by omega) (fun i h3 h4 => by omega) (Nat.lt_succ_self _) (lv_sub hl [1, 2, 3, 4, 0] rfl)

set_option maxRecDepth 100000 in
set_option maxHeartbeats 4000000 in
theorem c_T_clear (l : Launch) (dC : Nat → ClassId) (dI : Nat → Nat → Nat) (a : Nat → Nat) (t : Nat → ClassId) (σ : SA) (sz : Nat)  : Met l y_T_clear (wS y_T_clear b_T_clear 1 none) (rD 0) (va_Pc [.ref (a 3)] (MB (dC, dI) (yA t) (wA a t σ) sz)) (va_Qv (fun u : SA => u = au_tn σ 0) (fun u => ME (dC, dI) (yA t) (va_A (wA a t σ) sz) (wA a t u)) (va_A (wA a t σ) sz)) 0 0 (va_A (wA a t σ) sz) := by
  refine x_enter (by decide) (Nat.le_of_ble_eq_true rfl) ?_
  intro p e s m below meth c ls hx hb hr hml hT hown hlk hnm hl hB
  obtain ⟨rfl, hP, hK, hN, hD0⟩ := hB
  have hD := hD0.self (sz := s.heap.size)
  generalize hAe : va_A (wA a t σ) s.heap.size = A at hD ⊢
  have hA : ∀ q : Nat, s.heap.size ≤ q → A q := fun q h => by rw [← hAe]; exact Or.inr h
  have hS : va_S A s.heap s.heap [] := va_S.rf
  have hP : va_P (dC, dI) classes (wA a t σ) s.heap := hP
  have hl : lv_has ls 1 [(0, .ref (a 3))] := hl
  have hown : s.vm.findClass R_T = some m.cls := hown
  refine lv_aload_n hx hb d_T_clear_0 rfl (lv_at hl 0 rfl) ?_
  refine lv_iconst (v := nI 0) hx hb d_T_clear_1 (by decide) ?_
  refine va_put (D := (dC, dI)) (v := .int (nI 0)) (ty := .int) (C := R_T) (T := F_T) (N := 2) hx hb hT i_T ft_T ft_T_ok n_T hown hK hP hD hS 3 rfl rfl 1 (by decide) (hT _ k_T_15) (fun _ h9 => h9) rfl (by decide +kernel) rfl rfl (Nat.le_of_ble_eq_true rfl) d_T_clear_2 (fun H locs hP hD hS => ?_)
  have hP : va_P (dC, dI) classes (wA a t (au_tn σ (0))) H := hP
  have hD : va_D A (wA a t (au_tn σ (0))) := hD
  exact x_mv (wl := wA a t) (au_tn σ (0)) hx hb hr hlk hK hP hD hS d_T_clear_5 rfl

set_option maxRecDepth 100000 in
set_option maxHeartbeats 4000000 in
theorem c_T_add (l : Launch) (dC : Nat → ClassId) (dI : Nat → Nat → Nat) (a : Nat → Nat) (t : Nat → ClassId) (σ : SA) (sz : Nat) (hG : GA σ) (q : Nat) (hq : q < 256) : Met l y_T_add (wS y_T_add b_T_add 2 none) (rD 0) (va_Pc [.ref (a 3), .int (nI q)] (MB (dC, dI) (yA t) (wA a t σ) sz)) (va_Qv (fun u : SA => u = if a_tn σ < 20 then au_tn (au_tx σ (updN (a_tx σ) (a_tn σ) q)) (a_tn σ + 1) else σ) (fun u => ME (dC, dI) (yA t) (va_A (wA a t σ) sz) (wA a t u)) (va_A (wA a t σ) sz)) 0 0 (va_A (wA a t σ) sz) := by
  refine x_enter (by decide) (Nat.le_of_ble_eq_true rfl) ?_
  intro p e s m below meth c ls hx hb hr hml hT hown hlk hnm hl hB
  obtain ⟨rfl, hP, hK, hN, hD0⟩ := hB
  have hD := hD0.self (sz := s.heap.size)
  generalize hAe : va_A (wA a t σ) s.heap.size = A at hD ⊢
  have hA : ∀ q : Nat, s.heap.size ≤ q → A q := fun q h => by rw [← hAe]; exact Or.inr h
  have hS : va_S A s.heap s.heap [] := va_S.rf
  have hP : va_P (dC, dI) classes (wA a t σ) s.heap := hP
  have hl : lv_has ls 2 [(0, .ref (a 3)), (1, .int (nI q))] := hl
  have hown : s.vm.findClass R_T = some m.cls := hown
  have hG2 := hG
  obtain ⟨g_sn, g_sg, g_tn, g_tx, g_kd, g_lv, g_le, g_ln, g_hn, g_lf, g_lt, g_lc, g_rh, g_rn, g_ws, g_wn⟩ := hG
  refine lv_aload_n hx hb d_T_add_0 rfl (lv_at hl 0 rfl) ?_
  refine va_get (D := (dC, dI)) (C := R_T) (T := F_T) (N := 2) hx hb hT i_T hown hK hP 3 rfl rfl 1 (by decide) (hT _ k_T_15) (fun _ h9 => h9) (v := .int (nI (a_tn σ))) rfl d_T_add_1 ?_
  refine lv_bipush (v := nI 20) hx hb d_T_add_4 (by decide) ?_
  refine x_icmp_ge (tgt := 29) hx hb d_T_add_6 (by decide) (fun c6 => ?_) (fun c6 => ?_)
  · exact x_mv (wl := wA a t) σ hx hb hr hlk hK hP hD hS d_T_add_29 (by rw [if_neg (by omega)])
  · refine lv_aload_n hx hb d_T_add_9 rfl (lv_at hl 0 rfl) ?_
    refine va_get (D := (dC, dI)) (C := R_T) (T := F_T) (N := 2) hx hb hT i_T hown hK hP 3 rfl rfl 0 (by decide) (hT _ k_T_9) (fun _ h9 => h9) (v := .ref (a 4)) rfl d_T_add_10 ?_
    refine lv_aload_n hx hb d_T_add_13 rfl (lv_at hl 0 rfl) ?_
    refine va_get (D := (dC, dI)) (C := R_T) (T := F_T) (N := 2) hx hb hT i_T hown hK hP 3 rfl rfl 1 (by decide) (hT _ k_T_15) (fun _ h9 => h9) (v := .int (nI (a_tn σ))) rfl d_T_add_14 ?_
    refine lv_iload_n hx hb d_T_add_17 rfl (lv_at hl 1 rfl) ?_
    refine x_cast hx hb hK hP hD hS 4 1 (f := (a_tx σ)) rfl rfl d_T_add_18 (by omega) (fun H locs hP hD hS => ?_)
    have hP : va_P (dC, dI) classes (wA a t (au_tx σ (updN (a_tx σ) (a_tn σ) (q)))) H := hP
    have hD : va_D A (wA a t (au_tx σ (updN (a_tx σ) (a_tn σ) (q)))) := hD
    refine lv_aload_n hx hb d_T_add_19 rfl (lv_at hl 0 rfl) ?_
    refine lv_dup hx hb d_T_add_20 rfl ?_
    refine va_get (D := (dC, dI)) (C := R_T) (T := F_T) (N := 2) hx hb hT i_T hown hK hP 3 rfl rfl 1 (by decide) (hT _ k_T_15) (fun _ h9 => h9) (v := .int (nI (a_tn σ))) rfl d_T_add_21 ?_
    refine lv_iconst (v := nI 1) hx hb d_T_add_24 (by decide) ?_
    refine x_iadd hx hb d_T_add_25 ?_
    refine va_put (D := (dC, dI)) (v := .int (nI ((a_tn σ) + 1))) (ty := .int) (C := R_T) (T := F_T) (N := 2) hx hb hT i_T ft_T ft_T_ok n_T hown hK hP hD hS 3 rfl rfl 1 (by decide) (hT _ k_T_15) (fun _ h9 => h9) rfl (by decide +kernel) rfl rfl (Nat.le_of_ble_eq_true rfl) d_T_add_26 (fun H locs hP hD hS => ?_)
    have hP : va_P (dC, dI) classes (wA a t (au_tn (au_tx σ (updN (a_tx σ) (a_tn σ) (q))) ((a_tn σ) + 1))) H := hP
    have hD : va_D A (wA a t (au_tn (au_tx σ (updN (a_tx σ) (a_tn σ) (q))) ((a_tn σ) + 1))) := hD
    exact x_mv (wl := wA a t) (au_tn (au_tx σ (updN (a_tx σ) (a_tn σ) (q))) ((a_tn σ) + 1)) hx hb hr hlk hK hP hD hS d_T_add_29 (by rw [if_pos (by omega)])

set_option maxRecDepth 100000 in
set_option maxHeartbeats 4000000 in
theorem c_C_add (l : Launch) (dC : Nat → ClassId) (dI : Nat → Nat → Nat) (a : Nat → Nat) (t : Nat → ClassId) (σ : SA) (sz : Nat) (hG : GA σ) (q : Nat) (hq : q < 256) : Met l y_C_add (wS y_C_add b_C_add 2 none) (rD 0) (va_Pc [.ref (a 1), .int (nI q)] (MB (dC, dI) (yA t) (wA a t σ) sz)) (va_Qv (fun u : SA => u = if a_sn σ < 40 then au_sn (au_sg σ (updN (a_sg σ) (a_sn σ) q)) (a_sn σ + 1) else σ) (fun u => ME (dC, dI) (yA t) (va_A (wA a t σ) sz) (wA a t u)) (va_A (wA a t σ) sz)) 0 0 (va_A (wA a t σ) sz) := by
  refine x_enter (by decide) (Nat.le_of_ble_eq_true rfl) ?_
  intro p e s m below meth c ls hx hb hr hml hT hown hlk hnm hl hB
  obtain ⟨rfl, hP, hK, hN, hD0⟩ := hB
  have hD := hD0.self (sz := s.heap.size)
  generalize hAe : va_A (wA a t σ) s.heap.size = A at hD ⊢
  have hA : ∀ q : Nat, s.heap.size ≤ q → A q := fun q h => by rw [← hAe]; exact Or.inr h
  have hS : va_S A s.heap s.heap [] := va_S.rf
  have hP : va_P (dC, dI) classes (wA a t σ) s.heap := hP
  have hl : lv_has ls 2 [(0, .ref (a 1)), (1, .int (nI q))] := hl
  have hown : s.vm.findClass R_C = some m.cls := hown
  have hG2 := hG
  obtain ⟨g_sn, g_sg, g_tn, g_tx, g_kd, g_lv, g_le, g_ln, g_hn, g_lf, g_lt, g_lc, g_rh, g_rn, g_ws, g_wn⟩ := hG
  refine lv_aload_n hx hb d_C_add_0 rfl (lv_at hl 0 rfl) ?_
  refine va_get (D := (dC, dI)) (C := R_C) (T := F_C) (N := 2) hx hb hT i_C hown hK hP 1 rfl rfl 1 (by decide) (hT _ k_C_15) (fun _ h9 => h9) (v := .int (nI (a_sn σ))) rfl d_C_add_1 ?_
  refine lv_bipush (v := nI 40) hx hb d_C_add_4 (by decide) ?_
  refine x_icmp_ge (tgt := 29) hx hb d_C_add_6 (by decide) (fun c6 => ?_) (fun c6 => ?_)
  · exact x_mv (wl := wA a t) σ hx hb hr hlk hK hP hD hS d_C_add_29 (by rw [if_neg (by omega)])
  · refine lv_aload_n hx hb d_C_add_9 rfl (lv_at hl 0 rfl) ?_
    refine va_get (D := (dC, dI)) (C := R_C) (T := F_C) (N := 2) hx hb hT i_C hown hK hP 1 rfl rfl 0 (by decide) (hT _ k_C_9) (fun _ h9 => h9) (v := .ref (a 2)) rfl d_C_add_10 ?_
    refine lv_aload_n hx hb d_C_add_13 rfl (lv_at hl 0 rfl) ?_
    refine va_get (D := (dC, dI)) (C := R_C) (T := F_C) (N := 2) hx hb hT i_C hown hK hP 1 rfl rfl 1 (by decide) (hT _ k_C_15) (fun _ h9 => h9) (v := .int (nI (a_sn σ))) rfl d_C_add_14 ?_
    refine lv_iload_n hx hb d_C_add_17 rfl (lv_at hl 1 rfl) ?_
    refine x_cast hx hb hK hP hD hS 2 0 (f := (a_sg σ)) rfl rfl d_C_add_18 (by omega) (fun H locs hP hD hS => ?_)
    have hP : va_P (dC, dI) classes (wA a t (au_sg σ (updN (a_sg σ) (a_sn σ) (q)))) H := hP
    have hD : va_D A (wA a t (au_sg σ (updN (a_sg σ) (a_sn σ) (q)))) := hD
    refine lv_aload_n hx hb d_C_add_19 rfl (lv_at hl 0 rfl) ?_
    refine lv_dup hx hb d_C_add_20 rfl ?_
    refine va_get (D := (dC, dI)) (C := R_C) (T := F_C) (N := 2) hx hb hT i_C hown hK hP 1 rfl rfl 1 (by decide) (hT _ k_C_15) (fun _ h9 => h9) (v := .int (nI (a_sn σ))) rfl d_C_add_21 ?_
    refine lv_iconst (v := nI 1) hx hb d_C_add_24 (by decide) ?_
    refine x_iadd hx hb d_C_add_25 ?_
    refine va_put (D := (dC, dI)) (v := .int (nI ((a_sn σ) + 1))) (ty := .int) (C := R_C) (T := F_C) (N := 2) hx hb hT i_C ft_C ft_C_ok n_C hown hK hP hD hS 1 rfl rfl 1 (by decide) (hT _ k_C_15) (fun _ h9 => h9) rfl (by decide +kernel) rfl rfl (Nat.le_of_ble_eq_true rfl) d_C_add_26 (fun H locs hP hD hS => ?_)
    have hP : va_P (dC, dI) classes (wA a t (au_sn (au_sg σ (updN (a_sg σ) (a_sn σ) (q))) ((a_sn σ) + 1))) H := hP
    have hD : va_D A (wA a t (au_sn (au_sg σ (updN (a_sg σ) (a_sn σ) (q))) ((a_sn σ) + 1))) := hD
    exact x_mv (wl := wA a t) (au_sn (au_sg σ (updN (a_sg σ) (a_sn σ) (q))) ((a_sn σ) + 1)) hx hb hr hlk hK hP hD hS d_C_add_29 (by rw [if_pos (by omega)])

set_option maxRecDepth 100000 in
set_option maxHeartbeats 4000000 in
theorem c_H_end (l : Launch) (dC : Nat → ClassId) (dI : Nat → Nat → Nat) (a : Nat → Nat) (t : Nat → ClassId) (σ : SA) (sz : Nat) (hG : GA σ) (j : Nat) (hj1 : 1 ≤ j) (hj2 : j ≤ a_hn σ) : Met l y_H_end (wS y_H_end b_H_end 2 none) (rD 1) (va_Pc [.ref (a 5), .int (nI j)] (MB (dC, dI) (yA t) (wA a t σ) sz)) (va_Qv (fun u : SA => u = au_lv σ (updN (a_lv σ) j 0)) (fun u => ME (dC, dI) (yA t) (va_A (wA a t σ) sz) (wA a t u)) (va_A (wA a t σ) sz)) 0 0 (va_A (wA a t σ) sz) := by
  refine x_enter (by decide) (Nat.le_of_ble_eq_true rfl) ?_
  intro p e s m below meth c ls hx hb hr hml hT hown hlk hnm hl hB
  obtain ⟨rfl, hP, hK, hN, hD0⟩ := hB
  have hD := hD0.self (sz := s.heap.size)
  generalize hAe : va_A (wA a t σ) s.heap.size = A at hD ⊢
  have hA : ∀ q : Nat, s.heap.size ≤ q → A q := fun q h => by rw [← hAe]; exact Or.inr h
  have hS : va_S A s.heap s.heap [] := va_S.rf
  have hP : va_P (dC, dI) classes (wA a t σ) s.heap := hP
  have hl : lv_has ls 2 [(0, .ref (a 5)), (1, .int (nI j))] := hl
  have hown : s.vm.findClass R_H = some m.cls := hown
  have hG2 := hG
  obtain ⟨g_sn, g_sg, g_tn, g_tx, g_kd, g_lv, g_le, g_ln, g_hn, g_lf, g_lt, g_lc, g_rh, g_rn, g_ws, g_wn⟩ := hG
  refine lv_aload_n hx hb d_H_end_0 rfl (lv_at hl 0 rfl) ?_
  refine lv_iload_n hx hb d_H_end_1 rfl (lv_at hl 1 rfl) ?_
  refine x_ci (x_runV ⟨hx, hb, hml, hown, hT⟩ (c_H_isThere l dC dI a t σ hG2 (nI j)) f_H_isThere k_H_30 blR (va_recv hK hP (ci := 2) (q0 := 5) rfl rfl) (x_bR hK hP hN) hl.1 d_H_end_2 rfl (lv_room (Nat.le_of_ble_eq_true rfl)) ⟨Nat.le_of_ble_eq_true rfl, Nat.le_of_ble_eq_true rfl⟩ ⟨rfl, rfl⟩ ⟨Nat.le_refl 0, Nat.le_refl 0⟩ rfl) (fun r2 q2 => ?_)
  obtain ⟨rfl, _⟩ : r2 = nI 1 ∧ True := by
    rcases q2 with ⟨h9, _⟩ | ⟨_, h9⟩
    · exact ⟨h9, trivial⟩
    · exact absurd ⟨j, by omega, by omega, rfl⟩ h9
  refine x_if_eq (tgt := 15) hx hb d_H_end_5 (by decide) (fun h => absurd h (by decide)) (fun _ => ?_)
  refine lv_aload_n hx hb d_H_end_8 rfl (lv_at hl 0 rfl) ?_
  refine va_get (D := (dC, dI)) (C := R_H) (T := F_H) (N := 5) hx hb hT i_H hown hK hP 5 rfl rfl 1 (by decide) (hT _ k_H_15) (fun _ h9 => h9) (v := .ref (a 7)) rfl d_H_end_9 ?_
  refine lv_iload_n hx hb d_H_end_12 rfl (lv_at hl 1 rfl) ?_
  refine lv_iconst (v := nI 0) hx hb d_H_end_13 (by decide) ?_
  refine x_zast hx hb hK hP hD hS 7 3 (f := (a_lv σ)) rfl rfl d_H_end_14 (by omega) (fun H locs hP hD hS => ?_)
  have hP : va_P (dC, dI) classes (wA a t (au_lv σ (updN (a_lv σ) (j) (0)))) H := hP
  have hD : va_D A (wA a t (au_lv σ (updN (a_lv σ) (j) (0)))) := hD
  exact x_mv (wl := wA a t) (au_lv σ (updN (a_lv σ) (j) (0))) hx hb hr hlk hK hP hD hS d_H_end_15 rfl

def cpT (f : Nat → Nat) (b : Nat) (g : Nat → Nat) (n : Nat) : Nat → Nat := fun j => if b ≤ j ∧ j < b + n then g (j - b) else f j
theorem cpT_0 (f : Nat → Nat) (b : Nat) (g : Nat → Nat) : cpT f b g 0 = f := by
  funext j
  unfold cpT
  rw [if_neg (by omega)]
theorem cpT_s (f : Nat → Nat) (b : Nat) (g : Nat → Nat) (n : Nat) : updN (cpT f b g n) (b + n) (g n) = cpT f b g (n + 1) := by
  funext j
  unfold updN cpT
  by_cases h : j = b + n
  · subst h; rw [if_pos rfl, if_pos (by omega)]; congr 1; omega
  · rw [if_neg h]
    by_cases h2 : b ≤ j ∧ j < b + n
    · rw [if_pos h2, if_pos (by omega)]
    · rw [if_neg h2, if_neg (by omega)]
theorem cpT_lt {f g : Nat → Nat} {b n c : Nat} (h : ∀ j, f j < c) (h2 : ∀ j, g j < c) : ∀ j, cpT f b g n j < c := fun j => by unfold cpT; split; exact h2 _; exact h j
set_option maxRecDepth 100000 in
set_option maxHeartbeats 4000000 in
theorem c_H_setText (l : Launch) (dC : Nat → ClassId) (dI : Nat → Nat → Nat) (a : Nat → Nat) (t : Nat → ClassId) (σ : SA) (sz : Nat) (hG : GA σ) (j : Nat) (hj1 : 1 ≤ j) (hj2 : j ≤ a_hn σ) : Met l y_H_setText (wS y_H_setText b_H_setText 4 none) (rD 1) (va_Pc [.ref (a 5), .int (nI j), .ref (a 3)] (MB (dC, dI) (yA t) (wA a t σ) sz)) (va_Qv (fun u : SA => u = au_ln (au_le σ (cpT (a_le σ) (j * 20) (a_tx σ) (a_tn σ))) (updN (a_ln σ) j (a_tn σ))) (fun u => ME (dC, dI) (yA t) (va_A (wA a t σ) sz) (wA a t u)) (va_A (wA a t σ) sz)) 0 0 (va_A (wA a t σ) sz) := by
  refine x_enter (by decide) (Nat.le_of_ble_eq_true rfl) ?_
  intro p e s m below meth c ls hx hb hr hml hT hown hlk hnm hl hB
  obtain ⟨rfl, hP, hK, hN, hD0⟩ := hB
  have hD := hD0.self (sz := s.heap.size)
  generalize hAe : va_A (wA a t σ) s.heap.size = A at hD ⊢
  have hA : ∀ q : Nat, s.heap.size ≤ q → A q := fun q h => by rw [← hAe]; exact Or.inr h
  have hS : va_S A s.heap s.heap [] := va_S.rf
  have hP : va_P (dC, dI) classes (wA a t σ) s.heap := hP
  have hl : lv_has ls 4 [(0, .ref (a 5)), (1, .int (nI j)), (2, .ref (a 3))] := hl
  have hown : s.vm.findClass R_H = some m.cls := hown
  have hG2 := hG
  obtain ⟨g_sn, g_sg, g_tn, g_tx, g_kd, g_lv, g_le, g_ln, g_hn, g_lf, g_lt, g_lc, g_rh, g_rn, g_ws, g_wn⟩ := hG
  refine lv_aload_n hx hb d_H_setText_0 rfl (lv_at hl 0 rfl) ?_
  refine lv_iload_n hx hb d_H_setText_1 rfl (lv_at hl 1 rfl) ?_
  refine x_ci (x_runV ⟨hx, hb, hml, hown, hT⟩ (c_H_isThere l dC dI a t σ hG2 (nI j)) f_H_isThere k_H_30 blR (va_recv hK hP (ci := 2) (q0 := 5) rfl rfl) (x_bR hK hP hN) hl.1 d_H_setText_2 rfl (lv_room (Nat.le_of_ble_eq_true rfl)) ⟨Nat.le_of_ble_eq_true rfl, Nat.le_of_ble_eq_true rfl⟩ ⟨rfl, rfl⟩ ⟨Nat.le_refl 0, Nat.le_refl 0⟩ rfl) (fun r2 q2 => ?_)
  obtain ⟨rfl, _⟩ : r2 = nI 1 ∧ True := by
    rcases q2 with ⟨h9, _⟩ | ⟨_, h9⟩
    · exact ⟨h9, trivial⟩
    · exact absurd ⟨j, by omega, by omega, rfl⟩ h9
  refine x_if_ne (tgt := 9) hx hb d_H_setText_5 (by decide) (fun _ => ?_) (fun h => absurd h (by decide))
  have e0 : wA a t σ = wA a t (au_le σ (cpT (a_le σ) (j * 20) (a_tx σ) 0)) := by rw [cpT_0]; rfl
  rw [e0] at hP hD
  refine lv_iconst (v := nI 0) hx hb d_H_setText_9 (by decide) ?_
  refine lv_istore_n (lv' := [(3, .int (nI 0)), (0, .ref (a 5)), (1, .int (nI j)), (2, .ref (a 3))]) hx hb d_H_setText_10 rfl hl (by decide) rfl (fun ls hl => ?_)
  have hloop11 : ∀ (n11 : Nat) (i : Nat) (H : Heap) (locs : List Loc) (ls : Array Slot), i ≤ a_tn σ → a_tn σ + 1 - i < n11 → va_P (dC, dI) classes (wA a t (au_le σ (cpT (a_le σ) (j * 20) (a_tx σ) i))) H → va_D A (wA a t (au_le σ (cpT (a_le σ) (j * 20) (a_tx σ) i))) → va_S A s.heap H locs → lv_has ls 4 [(0, .ref (a 5)), (1, .int (nI j)), (2, .ref (a 3)), (3, .int (nI i))] → W p l e (rD 1) s m ([.ref (a 5), .int (nI j), .ref (a 3)] : List Value).toArray below meth c H locs 0 0 (MQ below (va_Qv (fun u : SA => u = au_ln (au_le σ (cpT (a_le σ) (j * 20) (a_tx σ) (a_tn σ))) (updN (a_ln σ) j (a_tn σ))) (fun u => ME (dC, dI) (yA t) A (wA a t u)) A) ([.ref (a 5), .int (nI j), .ref (a 3)] : List Value).toArray s 0 0 A) (F0 m 11 ls []) := by
    intro n11
    induction n11 with
    | zero => intro i H locs ls _ h9; exact absurd h9 (Nat.not_lt_zero _)
    | succ n11 ih11 =>
      intro i H locs ls hi hmu11 hP hD hS hl
      refine lv_iload_n hx hb d_H_setText_11 rfl (lv_at hl 3 rfl) ?_
      refine lv_aload_n hx hb d_H_setText_12 rfl (lv_at hl 2 rfl) ?_
      refine va_getN (D := (dC, dI)) (C := R_T) (T := F_T) (N := 2) hx hb hT i_T hown hK hP 3 rfl rfl 1 (by decide) (va_Nw.use rfl (hN _ k_H_42 rfl)) (fun _ h9 => h9) (v := .int (nI (a_tn σ))) rfl d_H_setText_13 ?_
      refine x_icmp_ge (tgt := 42) hx hb d_H_setText_16 (by decide) (fun c16 => ?_) (fun c16 => ?_)
      · refine lv_aload_n hx hb d_H_setText_42 rfl (lv_at hl 0 rfl) ?_
        refine va_get (D := (dC, dI)) (C := R_H) (T := F_H) (N := 5) hx hb hT i_H hown hK hP 5 rfl rfl 3 (by decide) (hT _ k_H_23) (fun _ h9 => h9) (v := .ref (a 9)) rfl d_H_setText_43 ?_
        refine lv_iload_n hx hb d_H_setText_46 rfl (lv_at hl 1 rfl) ?_
        refine lv_aload_n hx hb d_H_setText_47 rfl (lv_at hl 2 rfl) ?_
        refine va_getN (D := (dC, dI)) (C := R_T) (T := F_T) (N := 2) hx hb hT i_T hown hK hP 3 rfl rfl 1 (by decide) (va_Nw.use rfl (hN _ k_H_42 rfl)) (fun _ h9 => h9) (v := .int (nI (a_tn σ))) rfl d_H_setText_48 ?_
        refine x_iast hx hb hK hP hD hS 9 5 (f := (a_ln σ)) rfl rfl d_H_setText_51 (by omega) (fun H locs hP hD hS => ?_)
        have hP : va_P (dC, dI) classes (wA a t (au_ln (au_le σ (cpT (a_le σ) (j * 20) (a_tx σ) i)) (updN (a_ln σ) (j) (a_tn σ)))) H := hP
        have hD : va_D A (wA a t (au_ln (au_le σ (cpT (a_le σ) (j * 20) (a_tx σ) i)) (updN (a_ln σ) (j) (a_tn σ)))) := hD
        exact x_mv (wl := wA a t) (au_ln (au_le σ (cpT (a_le σ) (j * 20) (a_tx σ) i)) (updN (a_ln σ) (j) (a_tn σ))) hx hb hr hlk hK hP hD hS d_H_setText_52 (by rw [show i = a_tn σ by omega])
      · refine lv_aload_n hx hb d_H_setText_19 rfl (lv_at hl 0 rfl) ?_
        refine va_get (D := (dC, dI)) (C := R_H) (T := F_H) (N := 5) hx hb hT i_H hown hK hP 5 rfl rfl 2 (by decide) (hT _ k_H_19) (fun _ h9 => h9) (v := .ref (a 8)) rfl d_H_setText_20 ?_
        refine lv_iload_n hx hb d_H_setText_23 rfl (lv_at hl 1 rfl) ?_
        refine lv_bipush (v := nI 20) hx hb d_H_setText_24 (by decide) ?_
        refine x_imul hx hb d_H_setText_26 ?_
        refine lv_iload_n hx hb d_H_setText_27 rfl (lv_at hl 3 rfl) ?_
        refine x_iadd hx hb d_H_setText_28 ?_
        refine lv_aload_n hx hb d_H_setText_29 rfl (lv_at hl 2 rfl) ?_
        refine va_getN (D := (dC, dI)) (C := R_T) (T := F_T) (N := 2) hx hb hT i_T hown hK hP 3 rfl rfl 0 (by decide) (va_Nw.use rfl (hN _ k_H_47 rfl)) (fun _ h9 => h9) (v := .ref (a 4)) rfl d_H_setText_30 ?_
        refine lv_iload_n hx hb d_H_setText_33 rfl (lv_at hl 3 rfl) ?_
        refine x_cald hx hb hK hP 4 1 (f := (a_tx σ)) rfl rfl d_H_setText_34 (by omega) ?_
        have g9 := g_tx i
        refine x_cast hx hb hK hP hD hS 8 4 (f := (cpT (a_le σ) (j * 20) (a_tx σ) i)) rfl rfl d_H_setText_35 (by omega) (fun H locs hP hD hS => ?_)
        have hP : va_P (dC, dI) classes (wA a t (au_le σ (updN (cpT (a_le σ) (j * 20) (a_tx σ) i) ((j * 20) + i) ((a_tx σ) i)))) H := hP
        have hD : va_D A (wA a t (au_le σ (updN (cpT (a_le σ) (j * 20) (a_tx σ) i) ((j * 20) + i) ((a_tx σ) i)))) := hD
        rw [show updN (cpT (a_le σ) (j * 20) (a_tx σ) i) (j * 20 + i) (a_tx σ i) = cpT (a_le σ) (j * 20) (a_tx σ) (i + 1) from cpT_s _ _ _ _] at hP hD
        refine x_iinc (lv' := [(3, .int (nI (i + 1))), (0, .ref (a 5)), (1, .int (nI j)), (2, .ref (a 3))]) hx hb d_H_setText_36 hl (k := 3) rfl (by decide) rfl (fun ls hl => ?_)
        refine lv_goto (tgt := 11) hx hb d_H_setText_39 (by decide) ?_
        exact ih11 (i + 1) H locs ls (by omega) (by omega) hP hD hS (lv_sub hl [1, 2, 3, 0] rfl)
  exact hloop11 _ 0 _ _ ls (by omega) (Nat.lt_succ_self _) hP hD hS (lv_sub hl [1, 2, 3, 0] rfl)

set_option maxRecDepth 100000 in
set_option maxHeartbeats 4000000 in
theorem c_H_add (l : Launch) (dC : Nat → ClassId) (dI : Nat → Nat → Nat) (a : Nat → Nat) (t : Nat → ClassId) (σ : SA) (sz : Nat) (hG : GA σ) (kk : Nat) (hkk : kk < 4) (hf : a_hn σ < 60) : Met l y_H_add (wS y_H_add b_H_add 3 (some .int)) (rD 2) (va_Pc [.ref (a 5), .int (nI kk), .ref (a 3)] (MB (dC, dI) (yA t) (wA a t σ) sz)) (va_Qi (fun (r : Int32) (u : SA) => r = nI (a_hn σ + 1) ∧ u = au_hn (au_ln (au_le (au_lv (au_kd σ (updN (a_kd σ) (a_hn σ + 1) kk)) (updN (a_lv σ) (a_hn σ + 1) 1)) (cpT (a_le σ) ((a_hn σ + 1) * 20) (a_tx σ) (a_tn σ))) (updN (a_ln σ) (a_hn σ + 1) (a_tn σ))) (a_hn σ + 1)) (fun u => ME (dC, dI) (yA t) (va_A (wA a t σ) sz) (wA a t u)) (va_A (wA a t σ) sz)) 0 0 (va_A (wA a t σ) sz) := by
  refine x_enter (by decide) (Nat.le_of_ble_eq_true rfl) ?_
  intro p e s m below meth c ls hx hb hr hml hT hown hlk hnm hl hB
  obtain ⟨rfl, hP, hK, hN, hD0⟩ := hB
  have hD := hD0.self (sz := s.heap.size)
  generalize hAe : va_A (wA a t σ) s.heap.size = A at hD ⊢
  have hA : ∀ q : Nat, s.heap.size ≤ q → A q := fun q h => by rw [← hAe]; exact Or.inr h
  have hS : va_S A s.heap s.heap [] := va_S.rf
  have hP : va_P (dC, dI) classes (wA a t σ) s.heap := hP
  have hl : lv_has ls 3 [(0, .ref (a 5)), (1, .int (nI kk)), (2, .ref (a 3))] := hl
  have hown : s.vm.findClass R_H = some m.cls := hown
  have hG2 := hG
  obtain ⟨g_sn, g_sg, g_tn, g_tx, g_kd, g_lv, g_le, g_ln, g_hn, g_lf, g_lt, g_lc, g_rh, g_rn, g_ws, g_wn⟩ := hG
  refine lv_aload_n hx hb d_H_add_0 rfl (lv_at hl 0 rfl) ?_
  refine x_ci (x_runV ⟨hx, hb, hml, hown, hT⟩ (c_H_isFull l dC dI a t σ hG2) f_H_isFull k_H_34 blR (va_recv hK hP (ci := 2) (q0 := 5) rfl rfl) (x_bR hK hP hN) hl.1 d_H_add_1 rfl (lv_room (Nat.le_of_ble_eq_true rfl)) ⟨Nat.le_of_ble_eq_true rfl, Nat.le_of_ble_eq_true rfl⟩ ⟨rfl, rfl⟩ ⟨Nat.le_refl 0, Nat.le_refl 0⟩ rfl) (fun r1 q1 => ?_)
  rcases q1 with ⟨_, h9⟩ | ⟨rfl, _⟩
  · exact absurd h9 (by omega)
  refine x_if_eq (tgt := 9) hx hb d_H_add_4 (by decide) (fun _ => ?_) (fun h => absurd h (by decide))
  refine lv_aload_n hx hb d_H_add_9 rfl (lv_at hl 0 rfl) ?_
  refine lv_dup hx hb d_H_add_10 rfl ?_
  refine va_get (D := (dC, dI)) (C := R_H) (T := F_H) (N := 5) hx hb hT i_H hown hK hP 5 rfl rfl 4 (by decide) (hT _ k_H_26) (fun _ h9 => h9) (v := .int (nI (a_hn σ))) rfl d_H_add_11 ?_
  refine lv_iconst (v := nI 1) hx hb d_H_add_14 (by decide) ?_
  refine x_iadd hx hb d_H_add_15 ?_
  refine va_put (D := (dC, dI)) (v := .int (nI ((a_hn σ) + 1))) (ty := .int) (C := R_H) (T := F_H) (N := 5) hx hb hT i_H ft_H ft_H_ok n_H hown hK hP hD hS 5 rfl rfl 4 (by decide) (hT _ k_H_26) (fun _ h9 => h9) rfl (by decide +kernel) rfl rfl (Nat.le_of_ble_eq_true rfl) d_H_add_16 (fun H locs hP hD hS => ?_)
  have hP : va_P (dC, dI) classes (wA a t (au_hn σ ((a_hn σ) + 1))) H := hP
  have hD : va_D A (wA a t (au_hn σ ((a_hn σ) + 1))) := hD
  refine lv_aload_n hx hb d_H_add_19 rfl (lv_at hl 0 rfl) ?_
  refine va_get (D := (dC, dI)) (C := R_H) (T := F_H) (N := 5) hx hb hT i_H hown hK hP 5 rfl rfl 0 (by decide) (hT _ k_H_9) (fun _ h9 => h9) (v := .ref (a 6)) rfl d_H_add_20 ?_
  refine lv_aload_n hx hb d_H_add_23 rfl (lv_at hl 0 rfl) ?_
  refine va_get (D := (dC, dI)) (C := R_H) (T := F_H) (N := 5) hx hb hT i_H hown hK hP 5 rfl rfl 4 (by decide) (hT _ k_H_26) (fun _ h9 => h9) (v := .int (nI ((a_hn σ) + 1))) rfl d_H_add_24 ?_
  refine lv_iload_n hx hb d_H_add_27 rfl (lv_at hl 1 rfl) ?_
  refine x_iast hx hb hK hP hD hS 6 2 (f := (a_kd σ)) rfl rfl d_H_add_28 (by omega) (fun H locs hP hD hS => ?_)
  have hP : va_P (dC, dI) classes (wA a t (au_hn (au_kd σ (updN (a_kd σ) ((a_hn σ) + 1) (kk))) ((a_hn σ) + 1))) H := hP
  have hD : va_D A (wA a t (au_hn (au_kd σ (updN (a_kd σ) ((a_hn σ) + 1) (kk))) ((a_hn σ) + 1))) := hD
  refine lv_aload_n hx hb d_H_add_29 rfl (lv_at hl 0 rfl) ?_
  refine va_get (D := (dC, dI)) (C := R_H) (T := F_H) (N := 5) hx hb hT i_H hown hK hP 5 rfl rfl 1 (by decide) (hT _ k_H_15) (fun _ h9 => h9) (v := .ref (a 7)) rfl d_H_add_30 ?_
  refine lv_aload_n hx hb d_H_add_33 rfl (lv_at hl 0 rfl) ?_
  refine va_get (D := (dC, dI)) (C := R_H) (T := F_H) (N := 5) hx hb hT i_H hown hK hP 5 rfl rfl 4 (by decide) (hT _ k_H_26) (fun _ h9 => h9) (v := .int (nI ((a_hn σ) + 1))) rfl d_H_add_34 ?_
  refine lv_iconst (v := nI 1) hx hb d_H_add_37 (by decide) ?_
  refine x_zast hx hb hK hP hD hS 7 3 (f := (a_lv σ)) rfl rfl d_H_add_38 (by omega) (fun H locs hP hD hS => ?_)
  have hP : va_P (dC, dI) classes (wA a t (au_hn (au_lv (au_kd σ (updN (a_kd σ) ((a_hn σ) + 1) (kk))) (updN (a_lv σ) ((a_hn σ) + 1) (1))) ((a_hn σ) + 1))) H := hP
  have hD : va_D A (wA a t (au_hn (au_lv (au_kd σ (updN (a_kd σ) ((a_hn σ) + 1) (kk))) (updN (a_lv σ) ((a_hn σ) + 1) (1))) ((a_hn σ) + 1))) := hD
  refine lv_aload_n hx hb d_H_add_39 rfl (lv_at hl 0 rfl) ?_
  refine lv_aload_n hx hb d_H_add_40 rfl (lv_at hl 0 rfl) ?_
  refine va_get (D := (dC, dI)) (C := R_H) (T := F_H) (N := 5) hx hb hT i_H hown hK hP 5 rfl rfl 4 (by decide) (hT _ k_H_26) (fun _ h9 => h9) (v := .int (nI ((a_hn σ) + 1))) rfl d_H_add_41 ?_
  refine lv_aload_n hx hb d_H_add_44 rfl (lv_at hl 2 rfl) ?_
  refine x_cMv (wl := wA a t) (x_runV ⟨hx, hb, hml, hown, hT⟩ (c_H_setText l dC dI a t (au_hn (au_lv (au_kd σ (updN (a_kd σ) ((a_hn σ) + 1) (kk))) (updN (a_lv σ) ((a_hn σ) + 1) (1))) ((a_hn σ) + 1)) H.size (GA_hn (GA_lv (GA_kd hG2 (updN_lt g_kd hkk)) (updN_lt g_lv (by decide))) (by omega)) (a_hn σ + 1) (by omega) (Nat.le_refl _)) f_H_setText k_H_38 blM (va_recv hK hP (ci := 2) (q0 := 5) rfl rfl) (x_bM hK hP hN hD) hl.1 d_H_add_45 rfl (lv_room (Nat.le_of_ble_eq_true rfl)) ⟨Nat.le_of_ble_eq_true rfl, Nat.le_of_ble_eq_true rfl⟩ ⟨rfl, rfl⟩ ⟨Nat.le_refl 0, Nat.le_refl 0⟩ rfl) hD hS hA (fun u45 H locs q45 hP hD hS => ?_)
  subst q45
  have hP : va_P (dC, dI) classes (wA a t (au_hn (au_ln (au_le (au_lv (au_kd σ (updN (a_kd σ) (a_hn σ + 1) kk)) (updN (a_lv σ) (a_hn σ + 1) 1)) (cpT (a_le σ) ((a_hn σ + 1) * 20) (a_tx σ) (a_tn σ))) (updN (a_ln σ) (a_hn σ + 1) (a_tn σ))) (a_hn σ + 1))) H := hP
  have hD : va_D A (wA a t (au_hn (au_ln (au_le (au_lv (au_kd σ (updN (a_kd σ) (a_hn σ + 1) kk)) (updN (a_lv σ) (a_hn σ + 1) 1)) (cpT (a_le σ) ((a_hn σ + 1) * 20) (a_tx σ) (a_tn σ))) (updN (a_ln σ) (a_hn σ + 1) (a_tn σ))) (a_hn σ + 1))) := hD
  refine lv_aload_n hx hb d_H_add_48 rfl (lv_at hl 0 rfl) ?_
  refine va_get (D := (dC, dI)) (C := R_H) (T := F_H) (N := 5) hx hb hT i_H hown hK hP 5 rfl rfl 4 (by decide) (hT _ k_H_26) (fun _ h9 => h9) (v := .int (nI (a_hn σ + 1))) rfl d_H_add_49 ?_
  exact x_mi (wl := wA a t) (au_hn (au_ln (au_le (au_lv (au_kd σ (updN (a_kd σ) (a_hn σ + 1) kk)) (updN (a_lv σ) (a_hn σ + 1) 1)) (cpT (a_le σ) ((a_hn σ + 1) * 20) (a_tx σ) (a_tn σ))) (updN (a_ln σ) (a_hn σ + 1) (a_tn σ))) (a_hn σ + 1)) hx hb hr hlk hK hP hD hS d_H_add_52 ⟨rfl, rfl⟩
end
section
/-- a text that passes -/
def okT (f : Nat → Nat) (n : Nat) : Prop := 1 ≤ n ∧ n ≤ 20 ∧ ∀ k, k < n → isLD (f k)
set_option maxRecDepth 100000 in
set_option maxHeartbeats 4000000 in
theorem c_C_moveTo (l : Launch) (dC : Nat → ClassId) (dI : Nat → Nat → Nat) (a : Nat → Nat) (t : Nat → ClassId) (σ : SA) (sz : Nat) (hG : GA σ) : Met l y_C_moveTo (wS y_C_moveTo b_C_moveTo 4 (some .boolean)) (rD 1) (va_Pc [.ref (a 1), .ref (a 3)] (MB (dC, dI) (yA t) (wA a t σ) sz)) (va_Qi (fun (r : Int32) (u : SA) => BR r (okT (a_sg σ) (a_sn σ)) ∧ ∃ f n, u = au_tn (au_tx (au_sn σ 0) f) n ∧ GA u ∧ (okT (a_sg σ) (a_sn σ) → n = a_sn σ ∧ ∀ k, k < n → f k = a_sg σ k)) (fun u => ME (dC, dI) (yA t) (va_A (wA a t σ) sz) (wA a t u)) (va_A (wA a t σ) sz)) 0 0 (va_A (wA a t σ) sz) := by
  refine x_enter (by decide) (Nat.le_of_ble_eq_true rfl) ?_
  intro p e s m below meth c ls hx hb hr hml hT hown hlk hnm hl hB
  obtain ⟨rfl, hP, hK, hN, hD0⟩ := hB
  have hD := hD0.self (sz := s.heap.size)
  generalize hAe : va_A (wA a t σ) s.heap.size = A at hD ⊢
  have hA : ∀ q : Nat, s.heap.size ≤ q → A q := fun q h => by rw [← hAe]; exact Or.inr h
  have hS : va_S A s.heap s.heap [] := va_S.rf
  have hP : va_P (dC, dI) classes (wA a t σ) s.heap := hP
  have hl : lv_has ls 4 [(0, .ref (a 1)), (1, .ref (a 3))] := hl
  have hown : s.vm.findClass R_C = some m.cls := hown
  have hG2 := hG
  obtain ⟨g_sn, g_sg, g_tn, g_tx, g_kd, g_lv, g_le, g_ln, g_hn, g_lf, g_lt, g_lc, g_rh, g_rn, g_ws, g_wn⟩ := hG
  refine lv_aload_n hx hb d_C_moveTo_0 rfl (lv_at hl 0 rfl) ?_
  refine va_get (D := (dC, dI)) (C := R_C) (T := F_C) (N := 2) hx hb hT i_C hown hK hP 1 rfl rfl 1 (by decide) (hT _ k_C_15) (fun _ h9 => h9) (v := .int (nI (a_sn σ))) rfl d_C_moveTo_1 ?_
  refine lv_istore_n (lv' := [(2, .int (nI (a_sn σ))), (0, .ref (a 1)), (1, .ref (a 3))]) hx hb d_C_moveTo_4 rfl hl (by decide) rfl (fun ls hl => ?_)
  refine lv_aload_n hx hb d_C_moveTo_5 rfl (lv_at hl 1 rfl) ?_
  refine lv_iconst (v := nI 0) hx hb d_C_moveTo_6 (by decide) ?_
  refine va_put (D := (dC, dI)) (v := .int (nI 0)) (ty := .int) (C := R_C) (T := F_C) (N := 2) hx hb hT i_C ft_C ft_C_ok n_C hown hK hP hD hS 1 rfl rfl 1 (by decide) (hT _ k_C_15) (fun _ h9 => h9) rfl (by decide +kernel) rfl rfl (Nat.le_of_ble_eq_true rfl) d_C_moveTo_7 (fun H locs hP hD hS => ?_)
  have hP : va_P (dC, dI) classes (wA a t (au_sn σ (0))) H := hP
  have hD : va_D A (wA a t (au_sn σ (0))) := hD
  refine lv_iload_n hx hb d_C_moveTo_10 rfl (lv_at hl 0 rfl) ?_
  refine lv_iconst (v := nI 1) hx hb d_C_moveTo_11 (by decide) ?_
  refine x_icmp_lt (tgt := 21) hx hb d_C_moveTo_12 (by decide) (fun c12 => ?_) (fun c12 => ?_)
  · refine lv_iconst (v := nI 0) hx hb d_C_moveTo_21 (by decide) ?_
    exact x_mz (wl := wA a t) (au_sn σ (0)) hx hb hr hlk hK hP hD hS d_C_moveTo_22 rfl ⟨Or.inr ⟨rfl, fun h9 => by have h8 := h9.1; have h7 := h9.2.1; omega⟩, a_tx σ, a_tn σ, rfl, (GA_sn hG2 (by omega)), fun h9 => by have h8 := h9.1; have h7 := h9.2.1; omega⟩
  · refine lv_iload_n hx hb d_C_moveTo_15 rfl (lv_at hl 0 rfl) ?_
    refine lv_bipush (v := nI 20) hx hb d_C_moveTo_16 (by decide) ?_
    refine x_icmp_le (tgt := 23) hx hb d_C_moveTo_18 (by decide) (fun c18 => ?_) (fun c18 => ?_)
    · refine lv_aload_n hx hb d_C_moveTo_23 rfl (lv_at hl 2 rfl) ?_
      refine x_cMv (wl := wA a t) (x_runV ⟨hx, hb, hml, hown, hT⟩ (c_T_clear l dC dI a t (au_sn σ (0)) H.size) f_T_clear k_C_19 blM (va_recv hK hP (ci := 1) (q0 := 3) rfl rfl) (x_bM hK hP hN hD) hl.1 d_C_moveTo_24 rfl (lv_room (Nat.le_of_ble_eq_true rfl)) ⟨Nat.le_of_ble_eq_true rfl, Nat.le_of_ble_eq_true rfl⟩ ⟨rfl, rfl⟩ ⟨Nat.le_refl 0, Nat.le_refl 0⟩ rfl) hD hS hA (fun u24 H locs q24 hP hD hS => ?_)
      subst q24
      have hP : va_P (dC, dI) classes (wA a t (au_tn (au_sn σ (0)) (0))) H := hP
      have hD : va_D A (wA a t (au_tn (au_sn σ (0)) (0))) := hD
      refine lv_iconst (v := nI 0) hx hb d_C_moveTo_27 (by decide) ?_
      refine lv_istore_n (lv' := [(3, .int (nI 0)), (2, .int (nI (a_sn σ))), (0, .ref (a 1)), (1, .ref (a 3))]) hx hb d_C_moveTo_28 rfl hl (by decide) rfl (fun ls hl => ?_)
      have hloop29 : ∀ (n29 : Nat) (i : Nat) (f : Nat → Nat) (H : Heap) (locs : List Loc) (ls : Array Slot), i ≤ a_sn σ → (∀ j, f j < 256) → (∀ k, k < i → isLD (a_sg σ k) ∧ f k = a_sg σ k) → a_sn σ + 1 - i < n29 → va_P (dC, dI) classes (wA a t (au_tn (au_tx (au_sn σ (0)) (f)) (i))) H → va_D A (wA a t (au_tn (au_tx (au_sn σ (0)) (f)) (i))) → va_S A s.heap H locs → lv_has ls 4 [(0, .ref (a 1)), (1, .ref (a 3)), (2, .int (nI (a_sn σ))), (3, .int (nI i))] → W p l e (rD 1) s m ([.ref (a 1), .ref (a 3)] : List Value).toArray below meth c H locs 0 0 (MQ below (va_Qi (fun (r : Int32) (u : SA) => BR r (okT (a_sg σ) (a_sn σ)) ∧ ∃ f n, u = au_tn (au_tx (au_sn σ 0) f) n ∧ GA u ∧ (okT (a_sg σ) (a_sn σ) → n = a_sn σ ∧ ∀ k, k < n → f k = a_sg σ k)) (fun u => ME (dC, dI) (yA t) A (wA a t u)) A) ([.ref (a 1), .ref (a 3)] : List Value).toArray s 0 0 A) (F0 m 29 ls []) := by
        intro n29
        induction n29 with
        | zero => intro i f H locs ls _ _ _ h9; exact absurd h9 (Nat.not_lt_zero _)
        | succ n29 ih29 =>
          intro i f H locs ls hi hf hinv hmu29 hP hD hS hl
          refine lv_iload_n hx hb d_C_moveTo_29 rfl (lv_at hl 3 rfl) ?_
          refine lv_iload_n hx hb d_C_moveTo_30 rfl (lv_at hl 2 rfl) ?_
          refine x_icmp_ge (tgt := 64) hx hb d_C_moveTo_31 (by decide) (fun c31 => ?_) (fun c31 => ?_)
          · refine lv_iconst (v := nI 1) hx hb d_C_moveTo_64 (by decide) ?_
            exact x_mz (wl := wA a t) (au_tn (au_tx (au_sn σ (0)) (f)) (i)) hx hb hr hlk hK hP hD hS d_C_moveTo_65 rfl ⟨Or.inl ⟨rfl, by omega, by omega, fun k h9 => (hinv k (by omega)).1⟩, f, i, rfl, (GA_tn (GA_tx (GA_sn hG2 (by omega)) hf) (by omega)), fun _ => ⟨by omega, fun k h9 => (hinv k h9).2⟩⟩
          · refine lv_aload_n hx hb d_C_moveTo_34 rfl (lv_at hl 0 rfl) ?_
            refine va_get (D := (dC, dI)) (C := R_C) (T := F_C) (N := 2) hx hb hT i_C hown hK hP 1 rfl rfl 0 (by decide) (hT _ k_C_9) (fun _ h9 => h9) (v := .ref (a 2)) rfl d_C_moveTo_35 ?_
            refine lv_iload_n hx hb d_C_moveTo_38 rfl (lv_at hl 3 rfl) ?_
            refine x_cald hx hb hK hP 2 0 (f := (a_sg σ)) rfl rfl d_C_moveTo_39 (by omega) ?_
            refine x_ci (x_runS ⟨hx, hb, hml, hown, hT⟩ (c_C_isLetterOrDigit l (a_sg σ i) (by have := g_sg i; omega)) f_C_isLetterOrDigit k_C_24 blT (x_bT hN) hl.1 d_C_moveTo_40 rfl (lv_room (Nat.le_of_ble_eq_true rfl)) ⟨Nat.le_of_ble_eq_true rfl, Nat.le_of_ble_eq_true rfl⟩ ⟨rfl, rfl⟩ ⟨Nat.le_refl 0, Nat.le_refl 0⟩ rfl) (fun r40 q40 => ?_)
            rcases q40 with ⟨rfl, hq⟩ | ⟨rfl, hq⟩
            · refine x_if_ne (tgt := 48) hx hb d_C_moveTo_43 (by decide) (fun _ => ?_) (fun h => absurd h (by decide))
              refine lv_aload_n hx hb d_C_moveTo_48 rfl (lv_at hl 1 rfl) ?_
              refine lv_aload_n hx hb d_C_moveTo_49 rfl (lv_at hl 0 rfl) ?_
              refine va_get (D := (dC, dI)) (C := R_C) (T := F_C) (N := 2) hx hb hT i_C hown hK hP 1 rfl rfl 0 (by decide) (hT _ k_C_9) (fun _ h9 => h9) (v := .ref (a 2)) rfl d_C_moveTo_50 ?_
              refine lv_iload_n hx hb d_C_moveTo_53 rfl (lv_at hl 3 rfl) ?_
              refine x_cald hx hb hK hP 2 0 (f := (a_sg σ)) rfl rfl d_C_moveTo_54 (by omega) ?_
              refine x_cMv (wl := wA a t) (x_runV ⟨hx, hb, hml, hown, hT⟩ (c_T_add l dC dI a t (au_tn (au_tx (au_sn σ (0)) (f)) (i)) H.size (GA_tn (GA_tx (GA_sn hG2 (by omega)) hf) (by omega)) (a_sg σ i) (g_sg i)) f_T_add k_C_28 blM (va_recv hK hP (ci := 1) (q0 := 3) rfl rfl) (x_bM hK hP hN hD) hl.1 d_C_moveTo_55 rfl (lv_room (Nat.le_of_ble_eq_true rfl)) ⟨Nat.le_of_ble_eq_true rfl, Nat.le_of_ble_eq_true rfl⟩ ⟨rfl, rfl⟩ ⟨Nat.le_refl 0, Nat.le_refl 0⟩ rfl) hD hS hA (fun u55 H locs q55 hP hD hS => ?_)
              rw [if_pos (show a_tn (au_tn (au_tx (au_sn σ 0) f) i) < 20 from (by show i < 20; omega))] at q55
              subst q55
              have hP : va_P (dC, dI) classes (wA a t (au_tn (au_tx (au_sn σ (0)) (updN f i (a_sg σ i))) (i + 1))) H := hP
              have hD : va_D A (wA a t (au_tn (au_tx (au_sn σ (0)) (updN f i (a_sg σ i))) (i + 1))) := hD
              refine x_iinc (lv' := [(3, .int (nI (i + 1))), (0, .ref (a 1)), (1, .ref (a 3)), (2, .int (nI (a_sn σ)))]) hx hb d_C_moveTo_58 hl (k := 3) rfl (by decide) rfl (fun ls hl => ?_)
              refine lv_goto (tgt := 29) hx hb d_C_moveTo_61 (by decide) ?_
              exact ih29 (i + 1) (updN f i (a_sg σ i)) H locs ls (by omega) (updN_lt hf (g_sg i)) (fun k h9 => by rcases Nat.lt_succ_iff_lt_or_eq.mp h9 with h8 | h8; rw [updN_n (by omega)]; exact hinv k h8; subst h8; rw [updN_s]; exact ⟨hq, rfl⟩) (by omega) hP hD hS (lv_sub hl [1, 2, 3, 0] rfl)
            · refine x_if_ne (tgt := 48) hx hb d_C_moveTo_43 (by decide) (fun h => absurd h (by decide)) (fun _ => ?_)
              refine lv_iconst (v := nI 0) hx hb d_C_moveTo_46 (by decide) ?_
              exact x_mz (wl := wA a t) (au_tn (au_tx (au_sn σ (0)) (f)) (i)) hx hb hr hlk hK hP hD hS d_C_moveTo_47 rfl ⟨Or.inr ⟨rfl, fun h9 => hq (h9.2.2 i (by omega))⟩, f, i, rfl, (GA_tn (GA_tx (GA_sn hG2 (by omega)) hf) (by omega)), fun h9 => absurd (h9.2.2 i (by omega)) hq⟩
      exact hloop29 _ 0 (a_tx σ) _ _ ls (by omega) g_tx (fun k h9 => absurd h9 (Nat.not_lt_zero _)) (Nat.lt_succ_self _) hP hD hS (lv_sub hl [2, 3, 1, 0] rfl)
    · refine lv_iconst (v := nI 0) hx hb d_C_moveTo_21 (by decide) ?_
      exact x_mz (wl := wA a t) (au_sn σ (0)) hx hb hr hlk hK hP hD hS d_C_moveTo_22 rfl ⟨Or.inr ⟨rfl, fun h9 => by have h8 := h9.1; have h7 := h9.2.1; omega⟩, a_tx σ, a_tn σ, rfl, (GA_sn hG2 (by omega)), fun h9 => by have h8 := h9.1; have h7 := h9.2.1; omega⟩

set_option maxRecDepth 100000 in
set_option maxHeartbeats 4000000 in
theorem c_R_add (l : Launch) (dC : Nat → ClassId) (dI : Nat → Nat → Nat) (a : Nat → Nat) (t : Nat → ClassId) (σ : SA) (sz : Nat) (hG : GA σ) (j : Nat) (d : Int64) (hj : j ≤ 60) (hf : a_rn σ < 60) : Met l y_R_add (wS y_R_add b_R_add 4 (some .int)) (rD 1) (va_Pc [.ref (a 15), .int (nI j), .long d] (MB (dC, dI) (yA t) (wA a t σ) sz)) (va_Qi (fun (r : Int32) (u : SA) => r = nI (a_rn σ + 1) ∧ u = au_rn (au_rd (au_rh σ (updN (a_rh σ) (a_rn σ + 1) j)) (vp_updL (a_rd σ) (a_rn σ + 1) d)) (a_rn σ + 1)) (fun u => ME (dC, dI) (yA t) (va_A (wA a t σ) sz) (wA a t u)) (va_A (wA a t σ) sz)) 0 0 (va_A (wA a t σ) sz) := by
  refine x_enter (by decide) (Nat.le_of_ble_eq_true rfl) ?_
  intro p e s m below meth c ls hx hb hr hml hT hown hlk hnm hl hB
  obtain ⟨rfl, hP, hK, hN, hD0⟩ := hB
  have hD := hD0.self (sz := s.heap.size)
  generalize hAe : va_A (wA a t σ) s.heap.size = A at hD ⊢
  have hA : ∀ q : Nat, s.heap.size ≤ q → A q := fun q h => by rw [← hAe]; exact Or.inr h
  have hS : va_S A s.heap s.heap [] := va_S.rf
  have hP : va_P (dC, dI) classes (wA a t σ) s.heap := hP
  have hl : lv_has ls 4 [(0, .ref (a 15)), (1, .int (nI j)), (2, .long d)] := hl
  have hown : s.vm.findClass R_R = some m.cls := hown
  have hG2 := hG
  obtain ⟨g_sn, g_sg, g_tn, g_tx, g_kd, g_lv, g_le, g_ln, g_hn, g_lf, g_lt, g_lc, g_rh, g_rn, g_ws, g_wn⟩ := hG
  refine lv_aload_n hx hb d_R_add_0 rfl (lv_at hl 0 rfl) ?_
  refine x_ci (x_runV ⟨hx, hb, hml, hown, hT⟩ (c_R_isFull l dC dI a t σ hG2) f_R_isFull k_R_23 blR (va_recv hK hP (ci := 4) (q0 := 15) rfl rfl) (x_bR hK hP hN) hl.1 d_R_add_1 rfl (lv_room (Nat.le_of_ble_eq_true rfl)) ⟨Nat.le_of_ble_eq_true rfl, Nat.le_of_ble_eq_true rfl⟩ ⟨rfl, rfl⟩ ⟨Nat.le_refl 0, Nat.le_refl 0⟩ rfl) (fun r1 q1 => ?_)
  rcases q1 with ⟨_, h9⟩ | ⟨rfl, _⟩
  · exact absurd h9 (by omega)
  refine x_if_eq (tgt := 9) hx hb d_R_add_4 (by decide) (fun _ => ?_) (fun h => absurd h (by decide))
  refine lv_aload_n hx hb d_R_add_9 rfl (lv_at hl 0 rfl) ?_
  refine lv_dup hx hb d_R_add_10 rfl ?_
  refine va_get (D := (dC, dI)) (C := R_R) (T := F_R) (N := 3) hx hb hT i_R hown hK hP 15 rfl rfl 2 (by decide) (hT _ k_R_19) (fun _ h9 => h9) (v := .int (nI (a_rn σ))) rfl d_R_add_11 ?_
  refine lv_iconst (v := nI 1) hx hb d_R_add_14 (by decide) ?_
  refine x_iadd hx hb d_R_add_15 ?_
  refine va_put (D := (dC, dI)) (v := .int (nI ((a_rn σ) + 1))) (ty := .int) (C := R_R) (T := F_R) (N := 3) hx hb hT i_R ft_R ft_R_ok n_R hown hK hP hD hS 15 rfl rfl 2 (by decide) (hT _ k_R_19) (fun _ h9 => h9) rfl (by decide +kernel) rfl rfl (Nat.le_of_ble_eq_true rfl) d_R_add_16 (fun H locs hP hD hS => ?_)
  have hP : va_P (dC, dI) classes (wA a t (au_rn σ ((a_rn σ) + 1))) H := hP
  have hD : va_D A (wA a t (au_rn σ ((a_rn σ) + 1))) := hD
  refine lv_aload_n hx hb d_R_add_19 rfl (lv_at hl 0 rfl) ?_
  refine va_get (D := (dC, dI)) (C := R_R) (T := F_R) (N := 3) hx hb hT i_R hown hK hP 15 rfl rfl 0 (by decide) (hT _ k_R_9) (fun _ h9 => h9) (v := .ref (a 16)) rfl d_R_add_20 ?_
  refine lv_aload_n hx hb d_R_add_23 rfl (lv_at hl 0 rfl) ?_
  refine va_get (D := (dC, dI)) (C := R_R) (T := F_R) (N := 3) hx hb hT i_R hown hK hP 15 rfl rfl 2 (by decide) (hT _ k_R_19) (fun _ h9 => h9) (v := .int (nI ((a_rn σ) + 1))) rfl d_R_add_24 ?_
  refine lv_iload_n hx hb d_R_add_27 rfl (lv_at hl 1 rfl) ?_
  refine x_iast hx hb hK hP hD hS 16 10 (f := (a_rh σ)) rfl rfl d_R_add_28 (by omega) (fun H locs hP hD hS => ?_)
  have hP : va_P (dC, dI) classes (wA a t (au_rn (au_rh σ (updN (a_rh σ) ((a_rn σ) + 1) (j))) ((a_rn σ) + 1))) H := hP
  have hD : va_D A (wA a t (au_rn (au_rh σ (updN (a_rh σ) ((a_rn σ) + 1) (j))) ((a_rn σ) + 1))) := hD
  refine lv_aload_n hx hb d_R_add_29 rfl (lv_at hl 0 rfl) ?_
  refine va_get (D := (dC, dI)) (C := R_R) (T := F_R) (N := 3) hx hb hT i_R hown hK hP 15 rfl rfl 1 (by decide) (hT _ k_R_15) (fun _ h9 => h9) (v := .ref (a 17)) rfl d_R_add_30 ?_
  refine lv_aload_n hx hb d_R_add_33 rfl (lv_at hl 0 rfl) ?_
  refine va_get (D := (dC, dI)) (C := R_R) (T := F_R) (N := 3) hx hb hT i_R hown hK hP 15 rfl rfl 2 (by decide) (hT _ k_R_19) (fun _ h9 => h9) (v := .int (nI ((a_rn σ) + 1))) rfl d_R_add_34 ?_
  refine lv_lload_n hx hb d_R_add_37 rfl (lv_at hl 2 rfl) ?_
  refine x_last hx hb hK hP hD hS 17 11 (f := (a_rd σ)) rfl rfl d_R_add_38 (by omega) (fun H locs hP hD hS => ?_)
  have hP : va_P (dC, dI) classes (wA a t (au_rn (au_rd (au_rh σ (updN (a_rh σ) ((a_rn σ) + 1) (j))) (vp_updL (a_rd σ) ((a_rn σ) + 1) (d))) ((a_rn σ) + 1))) H := hP
  have hD : va_D A (wA a t (au_rn (au_rd (au_rh σ (updN (a_rh σ) ((a_rn σ) + 1) (j))) (vp_updL (a_rd σ) ((a_rn σ) + 1) (d))) ((a_rn σ) + 1))) := hD
  refine lv_aload_n hx hb d_R_add_39 rfl (lv_at hl 0 rfl) ?_
  refine va_get (D := (dC, dI)) (C := R_R) (T := F_R) (N := 3) hx hb hT i_R hown hK hP 15 rfl rfl 2 (by decide) (hT _ k_R_19) (fun _ h9 => h9) (v := .int (nI ((a_rn σ) + 1))) rfl d_R_add_40 ?_
  exact x_mi (wl := wA a t) (au_rn (au_rd (au_rh σ (updN (a_rh σ) ((a_rn σ) + 1) (j))) (vp_updL (a_rd σ) ((a_rn σ) + 1) (d))) ((a_rn σ) + 1)) hx hb hr hlk hK hP hD hS d_R_add_43 ⟨rfl, rfl⟩

set_option maxRecDepth 100000 in
set_option maxHeartbeats 4000000 in
theorem c_R_headingOf (l : Launch) (dC : Nat → ClassId) (dI : Nat → Nat → Nat) (a : Nat → Nat) (t : Nat → ClassId) (σ : SA) (hG : GA σ) (x : Int32) : Met l y_R_headingOf (wS y_R_headingOf b_R_headingOf 2 (some .int)) (rD 0) (va_Pc [.ref (a 15), .int x] (RB (dC, dI) (yA t) (wA a t σ))) (vp_Si (fun r => (∃ j, 1 ≤ j ∧ j ≤ a_rn σ ∧ x = nI j ∧ r = nI (a_rh σ j)) ∨ ((¬ ∃ j, 1 ≤ j ∧ j ≤ a_rn σ ∧ x = nI j) ∧ r = nI 0))) 0 0 (fun _ => False) := by
  refine x_enter (by decide) (Nat.le_of_ble_eq_true rfl) ?_
  intro p e s m below meth c ls hx hb hr hml hT hown hlk hnm hl hB
  obtain ⟨hP, hK, hN⟩ := hB
  have hl : lv_has ls 2 [(0, .ref (a 15)), (1, .int x)] := hl
  have hown : s.vm.findClass R_R = some m.cls := hown
  have hG2 := hG
  obtain ⟨g_sn, g_sg, g_tn, g_tx, g_kd, g_lv, g_le, g_ln, g_hn, g_lf, g_lt, g_lc, g_rh, g_rn, g_ws, g_wn⟩ := hG
  refine lv_iload_n hx hb d_R_headingOf_0 rfl (lv_at hl 1 rfl) ?_
  refine lv_iconst (v := nI 1) hx hb d_R_headingOf_1 (by decide) ?_
  refine lv_icmp_lt (tgt := 22) hx hb d_R_headingOf_2 (by decide) (fun c2 => ?_) (fun c2 => ?_)
  · refine lv_iconst (v := nI 0) hx hb d_R_headingOf_22 (by decide) ?_
    exact x_ri hx hb hr hlk d_R_headingOf_23 (Or.inr ⟨by first | exact x_there1 (by omega) (by assumption) | exact x_there2 (by omega) (by assumption), rfl⟩)
  · refine lv_iload_n hx hb d_R_headingOf_5 rfl (lv_at hl 1 rfl) ?_
    refine lv_aload_n hx hb d_R_headingOf_6 rfl (lv_at hl 0 rfl) ?_
    refine va_get (D := (dC, dI)) (C := R_R) (T := F_R) (N := 3) hx hb hT i_R hown hK hP 15 rfl rfl 2 (by decide) (hT _ k_R_19) (fun _ h9 => h9) (v := .int (nI (a_rn σ))) rfl d_R_headingOf_7 ?_
    refine lv_icmp_gt (tgt := 22) hx hb d_R_headingOf_10 (by decide) (fun c10 => ?_) (fun c10 => ?_)
    · refine lv_iconst (v := nI 0) hx hb d_R_headingOf_22 (by decide) ?_
      exact x_ri hx hb hr hlk d_R_headingOf_23 (Or.inr ⟨by first | exact x_there1 (by omega) (by assumption) | exact x_there2 (by omega) (by assumption), rfl⟩)
    · obtain ⟨j, hj1, hj2, rfl⟩ := x_there (by omega) c2 c10
      refine lv_aload_n hx hb d_R_headingOf_13 rfl (lv_at hl 0 rfl) ?_
      refine va_get (D := (dC, dI)) (C := R_R) (T := F_R) (N := 3) hx hb hT i_R hown hK hP 15 rfl rfl 0 (by decide) (hT _ k_R_9) (fun _ h9 => h9) (v := .ref (a 16)) rfl d_R_headingOf_14 ?_
      refine lv_iload_n hx hb d_R_headingOf_17 rfl (lv_at hl 1 rfl) ?_
      refine x_iald hx hb hK hP 16 10 (f := (a_rh σ)) rfl rfl d_R_headingOf_18 (by omega) ?_
      refine lv_goto (tgt := 23) hx hb d_R_headingOf_19 (by decide) ?_
      exact x_ri hx hb hr hlk d_R_headingOf_23 (Or.inl ⟨j, hj1, hj2, rfl, rfl⟩)

def cntN (f : Nat → Nat) (h : Nat) : Nat → Nat
  | 0 => 0
  | n + 1 => cntN f h n + if f (n + 1) = h then 1 else 0
theorem cntN_le (f : Nat → Nat) (h : Nat) : ∀ n, cntN f h n ≤ n := by
  intro n
  induction n with
  | zero => exact Nat.le_refl _
  | succ n ih => simp only [cntN]; split <;> omega
set_option maxRecDepth 100000 in
set_option maxHeartbeats 4000000 in
theorem c_R_countOf (l : Launch) (dC : Nat → ClassId) (dI : Nat → Nat → Nat) (a : Nat → Nat) (t : Nat → ClassId) (σ : SA) (hG : GA σ) (j : Nat) (hj : j ≤ 60) : Met l y_R_countOf (wS y_R_countOf b_R_countOf 4 (some .int)) (rD 0) (va_Pc [.ref (a 15), .int (nI j)] (RB (dC, dI) (yA t) (wA a t σ))) (vp_Si (fun r => r = nI (cntN (a_rh σ) j (a_rn σ)))) 0 0 (fun _ => False) := by
  refine x_enter (by decide) (Nat.le_of_ble_eq_true rfl) ?_
  intro p e s m below meth c ls hx hb hr hml hT hown hlk hnm hl hB
  obtain ⟨hP, hK, hN⟩ := hB
  have hl : lv_has ls 4 [(0, .ref (a 15)), (1, .int (nI j))] := hl
  have hown : s.vm.findClass R_R = some m.cls := hown
  have hG2 := hG
  obtain ⟨g_sn, g_sg, g_tn, g_tx, g_kd, g_lv, g_le, g_ln, g_hn, g_lf, g_lt, g_lc, g_rh, g_rn, g_ws, g_wn⟩ := hG
  refine lv_iconst (v := nI 0) hx hb d_R_countOf_0 (by decide) ?_
  refine lv_istore_n (lv' := [(2, .int (nI 0)), (0, .ref (a 15)), (1, .int (nI j))]) hx hb d_R_countOf_1 rfl hl (by decide) rfl (fun ls hl => ?_)
  refine lv_iconst (v := nI 1) hx hb d_R_countOf_2 (by decide) ?_
  refine lv_istore_n (lv' := [(3, .int (nI 1)), (2, .int (nI 0)), (0, .ref (a 15)), (1, .int (nI j))]) hx hb d_R_countOf_3 rfl hl (by decide) rfl (fun ls hl => ?_)
  have hloop4 : ∀ (n4 : Nat) (i : Nat) (k : Nat) (ls : Array Slot), i ≤ a_rn σ → k = cntN (a_rh σ) j i → a_rn σ + 1 - i < n4 → lv_has ls 4 [(0, .ref (a 15)), (1, .int (nI j)), (2, .int (nI k)), (3, .int (nI (i + 1)))] → W p l e (rD 0) s m ([.ref (a 15), .int (nI j)] : List Value).toArray below meth c s.heap [] 0 0 (MQ below (vp_Si (fun r => r = nI (cntN (a_rh σ) j (a_rn σ)))) ([.ref (a 15), .int (nI j)] : List Value).toArray s 0 0 (fun _ => False)) (F0 m 4 ls []) := by
    intro n4
    induction n4 with
    | zero => intro i k ls _ _ h9; exact absurd h9 (Nat.not_lt_zero _)
    | succ n4 ih4 =>
      intro i k ls hi hk hmu4 hl
      refine lv_iload_n hx hb d_R_countOf_4 rfl (lv_at hl 3 rfl) ?_
      refine lv_aload_n hx hb d_R_countOf_5 rfl (lv_at hl 0 rfl) ?_
      refine va_get (D := (dC, dI)) (C := R_R) (T := F_R) (N := 3) hx hb hT i_R hown hK hP 15 rfl rfl 2 (by decide) (hT _ k_R_19) (fun _ h9 => h9) (v := .int (nI (a_rn σ))) rfl d_R_countOf_6 ?_
      refine x_icmp_gt (tgt := 31) hx hb d_R_countOf_9 (by decide) (fun c9 => ?_) (fun c9 => ?_)
      · refine lv_iload_n hx hb d_R_countOf_31 rfl (lv_at hl 2 rfl) ?_
        exact x_ri hx hb hr hlk d_R_countOf_32 (by rw [hk, show i = a_rn σ by omega])
      · have hk2 := cntN_le (a_rh σ) j i
        refine lv_aload_n hx hb d_R_countOf_12 rfl (lv_at hl 0 rfl) ?_
        refine va_get (D := (dC, dI)) (C := R_R) (T := F_R) (N := 3) hx hb hT i_R hown hK hP 15 rfl rfl 0 (by decide) (hT _ k_R_9) (fun _ h9 => h9) (v := .ref (a 16)) rfl d_R_countOf_13 ?_
        refine lv_iload_n hx hb d_R_countOf_16 rfl (lv_at hl 3 rfl) ?_
        refine x_iald hx hb hK hP 16 10 (f := (a_rh σ)) rfl rfl d_R_countOf_17 (by omega) ?_
        refine lv_iload_n hx hb d_R_countOf_18 rfl (lv_at hl 1 rfl) ?_
        have g9 := g_rh (i + 1)
        refine x_icmp_ne (tgt := 25) hx hb d_R_countOf_19 (by decide) (fun c19 => ?_) (fun c19 => ?_)
        · refine x_iinc (lv' := [(3, .int (nI ((i + 1) + 1))), (0, .ref (a 15)), (1, .int (nI j)), (2, .int (nI k))]) hx hb d_R_countOf_25 hl (k := 3) rfl (by decide) rfl (fun ls hl => ?_)
          refine lv_goto (tgt := 4) hx hb d_R_countOf_28 (by decide) ?_
          exact ih4 (i + 1) _ ls (by omega) (by simp only [cntN]; first | (rw [if_pos (by omega)]; omega) | (rw [if_neg (by omega)]; omega)) (by omega) (lv_sub hl [1, 2, 3, 0] rfl)
        · refine x_iinc (lv' := [(2, .int (nI (k + 1))), (0, .ref (a 15)), (1, .int (nI j)), (3, .int (nI (i + 1)))]) hx hb d_R_countOf_22 hl (k := 2) rfl (by decide) rfl (fun ls hl => ?_)
          refine x_iinc (lv' := [(3, .int (nI ((i + 1) + 1))), (2, .int (nI (k + 1))), (0, .ref (a 15)), (1, .int (nI j))]) hx hb d_R_countOf_25 hl (k := 3) rfl (by decide) rfl (fun ls hl => ?_)
          refine lv_goto (tgt := 4) hx hb d_R_countOf_28 (by decide) ?_
          exact ih4 (i + 1) _ ls (by omega) (by simp only [cntN]; first | (rw [if_pos (by omega)]; omega) | (rw [if_neg (by omega)]; omega)) (by omega) (lv_sub hl [2, 3, 1, 0] rfl)
  exact hloop4 _ 0 0 ls (by omega) rfl (Nat.lt_succ_self _) (lv_sub hl [2, 3, 1, 0] rfl)

def mvR (f : Nat → Nat) (d : Nat → Int64) (h g : Nat) (day : Int64) (n : Nat) : Nat → Nat := fun j => if 1 ≤ j ∧ j ≤ n ∧ f j = h ∧ day ≤ d j then g else f j
theorem mvR_0 (f : Nat → Nat) (d : Nat → Int64) (h g : Nat) (day : Int64) : mvR f d h g day 0 = f := by
  funext j
  unfold mvR
  rw [if_neg (by omega)]
theorem mvR_same {f : Nat → Nat} {d : Nat → Int64} {h g : Nat} {day : Int64} {n : Nat} (hn : ¬ (f (n + 1) = h ∧ day ≤ d (n + 1))) : mvR f d h g day (n + 1) = mvR f d h g day n := by
  funext j
  unfold mvR
  by_cases e : j = n + 1
  · subst e
    rw [if_neg (fun q => hn ⟨q.2.2.1, q.2.2.2⟩), if_neg (fun q => by omega)]
  · by_cases q : 1 ≤ j ∧ j ≤ n ∧ f j = h ∧ day ≤ d j
    · rw [if_pos q, if_pos ⟨q.1, by omega, q.2.2⟩]
    · rw [if_neg q, if_neg (fun z => q ⟨z.1, by omega, z.2.2⟩)]
theorem mvR_put {f : Nat → Nat} {d : Nat → Int64} {h g : Nat} {day : Int64} {n : Nat} (h1 : f (n + 1) = h) (h2 : day ≤ d (n + 1)) : updN (mvR f d h g day n) (n + 1) g = mvR f d h g day (n + 1) := by
  funext j
  unfold updN mvR
  by_cases e : j = n + 1
  · subst e
    rw [if_pos rfl, if_pos ⟨by omega, by omega, h1, h2⟩]
  · rw [if_neg e]
    by_cases q : 1 ≤ j ∧ j ≤ n ∧ f j = h ∧ day ≤ d j
    · rw [if_pos q, if_pos ⟨q.1, by omega, q.2.2⟩]
    · rw [if_neg q, if_neg (fun z => q ⟨z.1, by omega, z.2.2⟩)]
theorem mvR_at {f : Nat → Nat} {d : Nat → Int64} {h g : Nat} {day : Int64} {n : Nat} : mvR f d h g day n (n + 1) = f (n + 1) := by
  unfold mvR
  rw [if_neg (by omega)]
theorem mvR_le {f : Nat → Nat} {d : Nat → Int64} {h g b : Nat} {day : Int64} {n : Nat} (hf : ∀ j, f j ≤ b) (hg : g ≤ b) : ∀ j, mvR f d h g day n j ≤ b := fun j => by unfold mvR; split; exact hg; exact hf j
set_option maxRecDepth 100000 in
set_option maxHeartbeats 4000000 in
theorem c_R_move (l : Launch) (dC : Nat → ClassId) (dI : Nat → Nat → Nat) (a : Nat → Nat) (t : Nat → ClassId) (σ : SA) (sz : Nat) (hG : GA σ) (j k : Nat) (d : Int64) (hj : j ≤ 60) (hk : k ≤ 60) : Met l y_R_move (wS y_R_move b_R_move 6 none) (rD 0) (va_Pc [.ref (a 15), .int (nI j), .int (nI k), .long d] (MB (dC, dI) (yA t) (wA a t σ) sz)) (va_Qv (fun u : SA => u = au_rh σ (mvR (a_rh σ) (a_rd σ) j k d (a_rn σ))) (fun u => ME (dC, dI) (yA t) (va_A (wA a t σ) sz) (wA a t u)) (va_A (wA a t σ) sz)) 0 0 (va_A (wA a t σ) sz) := by
  refine x_enter (by decide) (Nat.le_of_ble_eq_true rfl) ?_
  intro p e s m below meth c ls hx hb hr hml hT hown hlk hnm hl hB
  obtain ⟨rfl, hP, hK, hN, hD0⟩ := hB
  have hD := hD0.self (sz := s.heap.size)
  generalize hAe : va_A (wA a t σ) s.heap.size = A at hD ⊢
  have hA : ∀ q : Nat, s.heap.size ≤ q → A q := fun q h => by rw [← hAe]; exact Or.inr h
  have hS : va_S A s.heap s.heap [] := va_S.rf
  have hP : va_P (dC, dI) classes (wA a t σ) s.heap := hP
  have hl : lv_has ls 6 [(0, .ref (a 15)), (1, .int (nI j)), (2, .int (nI k)), (3, .long d)] := hl
  have hown : s.vm.findClass R_R = some m.cls := hown
  have hG2 := hG
  obtain ⟨g_sn, g_sg, g_tn, g_tx, g_kd, g_lv, g_le, g_ln, g_hn, g_lf, g_lt, g_lc, g_rh, g_rn, g_ws, g_wn⟩ := hG
  have e0 : wA a t σ = wA a t (au_rh σ (mvR (a_rh σ) (a_rd σ) j k d 0)) := by rw [mvR_0]; rfl
  rw [e0] at hP hD
  refine lv_iconst (v := nI 1) hx hb d_R_move_0 (by decide) ?_
  refine lv_istore (lv' := [(5, .int (nI 1)), (0, .ref (a 15)), (1, .int (nI j)), (2, .int (nI k)), (3, .long d)]) hx hb d_R_move_1 hl (by decide) rfl (fun ls hl => ?_)
  have hloop3 : ∀ (n3 : Nat) (i : Nat) (H : Heap) (locs : List Loc) (ls : Array Slot), i ≤ a_rn σ → a_rn σ + 1 - i < n3 → va_P (dC, dI) classes (wA a t (au_rh σ (mvR (a_rh σ) (a_rd σ) j k d i))) H → va_D A (wA a t (au_rh σ (mvR (a_rh σ) (a_rd σ) j k d i))) → va_S A s.heap H locs → lv_has ls 6 [(0, .ref (a 15)), (1, .int (nI j)), (2, .int (nI k)), (3, .long d), (5, .int (nI (i + 1)))] → W p l e (rD 0) s m ([.ref (a 15), .int (nI j), .int (nI k), .long d] : List Value).toArray below meth c H locs 0 0 (MQ below (va_Qv (fun u : SA => u = au_rh σ (mvR (a_rh σ) (a_rd σ) j k d (a_rn σ))) (fun u => ME (dC, dI) (yA t) A (wA a t u)) A) ([.ref (a 15), .int (nI j), .int (nI k), .long d] : List Value).toArray s 0 0 A) (F0 m 3 ls []) := by
    intro n3
    induction n3 with
    | zero => intro i H locs ls _ h9; exact absurd h9 (Nat.not_lt_zero _)
    | succ n3 ih3 =>
      intro i H locs ls hi hmu3 hP hD hS hl
      refine lv_iload hx hb d_R_move_3 (lv_at hl 4 rfl) ?_
      refine lv_aload_n hx hb d_R_move_5 rfl (lv_at hl 0 rfl) ?_
      refine va_get (D := (dC, dI)) (C := R_R) (T := F_R) (N := 3) hx hb hT i_R hown hK hP 15 rfl rfl 2 (by decide) (hT _ k_R_19) (fun _ h9 => h9) (v := .int (nI (a_rn σ))) rfl d_R_move_6 ?_
      refine x_icmp_gt (tgt := 49) hx hb d_R_move_9 (by decide) (fun c9 => ?_) (fun c9 => ?_)
      · exact x_mv (wl := wA a t) (au_rh σ (mvR (a_rh σ) (a_rd σ) j k d i)) hx hb hr hlk hK hP hD hS d_R_move_49 (by rw [show i = a_rn σ by omega])
      · refine lv_aload_n hx hb d_R_move_12 rfl (lv_at hl 0 rfl) ?_
        refine va_get (D := (dC, dI)) (C := R_R) (T := F_R) (N := 3) hx hb hT i_R hown hK hP 15 rfl rfl 0 (by decide) (hT _ k_R_9) (fun _ h9 => h9) (v := .ref (a 16)) rfl d_R_move_13 ?_
        refine lv_iload hx hb d_R_move_16 (lv_at hl 4 rfl) ?_
        refine x_iald hx hb hK hP 16 10 (f := (mvR (a_rh σ) (a_rd σ) j k d i)) rfl rfl d_R_move_18 (by omega) ?_
        refine lv_iload_n hx hb d_R_move_19 rfl (lv_at hl 1 rfl) ?_
        rw [mvR_at]
        have g9 := g_rh (i + 1)
        refine x_icmp_ne (tgt := 43) hx hb d_R_move_20 (by decide) (fun c20 => ?_) (fun c20 => ?_)
        · rw [← mvR_same (g := k) (show ¬ (a_rh σ (i + 1) = j ∧ d ≤ a_rd σ (i + 1)) from fun q9 => by first | exact c20 q9.1 | exact absurd q9.2 (Int64.not_le.mpr c31))] at hP hD
          refine x_iinc (lv' := [(5, .int (nI ((i + 1) + 1))), (0, .ref (a 15)), (1, .int (nI j)), (2, .int (nI k)), (3, .long d)]) hx hb d_R_move_43 hl (k := 4) rfl (by decide) rfl (fun ls hl => ?_)
          refine lv_goto (tgt := 3) hx hb d_R_move_46 (by decide) ?_
          exact ih3 (i + 1) H locs ls (by omega) (by omega) hP hD hS (lv_sub hl [1, 2, 3, 4, 0] rfl)
        · refine lv_aload_n hx hb d_R_move_23 rfl (lv_at hl 0 rfl) ?_
          refine va_get (D := (dC, dI)) (C := R_R) (T := F_R) (N := 3) hx hb hT i_R hown hK hP 15 rfl rfl 1 (by decide) (hT _ k_R_15) (fun _ h9 => h9) (v := .ref (a 17)) rfl d_R_move_24 ?_
          refine lv_iload hx hb d_R_move_27 (lv_at hl 4 rfl) ?_
          refine x_lald hx hb hK hP 17 11 (f := (a_rd σ)) rfl rfl d_R_move_29 (by omega) ?_
          refine lv_lload_n hx hb d_R_move_30 rfl (lv_at hl 3 rfl) ?_
          refine x_lif_lt (tgt := 43) hx hb d_R_move_31 d_R_move_32 (by decide) (fun c31 => ?_) (fun c31 => ?_)
          · rw [← mvR_same (g := k) (show ¬ (a_rh σ (i + 1) = j ∧ d ≤ a_rd σ (i + 1)) from fun q9 => by first | exact c20 q9.1 | exact absurd q9.2 (Int64.not_le.mpr c31))] at hP hD
            refine x_iinc (lv' := [(5, .int (nI ((i + 1) + 1))), (0, .ref (a 15)), (1, .int (nI j)), (2, .int (nI k)), (3, .long d)]) hx hb d_R_move_43 hl (k := 4) rfl (by decide) rfl (fun ls hl => ?_)
            refine lv_goto (tgt := 3) hx hb d_R_move_46 (by decide) ?_
            exact ih3 (i + 1) H locs ls (by omega) (by omega) hP hD hS (lv_sub hl [1, 2, 3, 4, 0] rfl)
          · refine lv_aload_n hx hb d_R_move_35 rfl (lv_at hl 0 rfl) ?_
            refine va_get (D := (dC, dI)) (C := R_R) (T := F_R) (N := 3) hx hb hT i_R hown hK hP 15 rfl rfl 0 (by decide) (hT _ k_R_9) (fun _ h9 => h9) (v := .ref (a 16)) rfl d_R_move_36 ?_
            refine lv_iload hx hb d_R_move_39 (lv_at hl 4 rfl) ?_
            refine lv_iload_n hx hb d_R_move_41 rfl (lv_at hl 2 rfl) ?_
            refine x_iast hx hb hK hP hD hS 16 10 (f := (mvR (a_rh σ) (a_rd σ) j k d i)) rfl rfl d_R_move_42 (by omega) (fun H locs hP hD hS => ?_)
            have hP : va_P (dC, dI) classes (wA a t (au_rh σ (updN (mvR (a_rh σ) (a_rd σ) j k d i) (i + 1) (k)))) H := hP
            have hD : va_D A (wA a t (au_rh σ (updN (mvR (a_rh σ) (a_rd σ) j k d i) (i + 1) (k)))) := hD
            rw [mvR_put (by omega) (by first | exact Int64.not_lt.mp c31 | assumption)] at hP hD
            refine x_iinc (lv' := [(5, .int (nI ((i + 1) + 1))), (0, .ref (a 15)), (1, .int (nI j)), (2, .int (nI k)), (3, .long d)]) hx hb d_R_move_43 hl (k := 4) rfl (by decide) rfl (fun ls hl => ?_)
            refine lv_goto (tgt := 3) hx hb d_R_move_46 (by decide) ?_
            exact ih3 (i + 1) H locs ls (by omega) (by omega) hP hD hS (lv_sub hl [1, 2, 3, 4, 0] rfl)
  exact hloop3 _ 0 _ _ ls (by omega) (Nat.lt_succ_self _) hP hD hS (lv_sub hl [1, 2, 3, 4, 0] rfl)

set_option maxRecDepth 100000 in
set_option maxHeartbeats 4000000 in
theorem c_Y_at (l : Launch) (dC : Nat → ClassId) (dI : Nat → Nat → Nat) (a : Nat → Nat) (t : Nat → ClassId) (σ : SA) (hG : GA σ) (x : Int32) : Met l y_Y_at (wS y_Y_at b_Y_at 2 (some .int)) (rD 0) (va_Pc [.ref (a 18), .int x] (RB (dC, dI) (yA t) (wA a t σ))) (vp_Si (fun r => (∃ i, i < a_wn σ ∧ x = nI i ∧ r = nI (a_ws σ i)) ∨ ((¬ ∃ i, i < a_wn σ ∧ x = nI i) ∧ r = nI 0))) 0 0 (fun _ => False) := by
  refine x_enter (by decide) (Nat.le_of_ble_eq_true rfl) ?_
  intro p e s m below meth c ls hx hb hr hml hT hown hlk hnm hl hB
  obtain ⟨hP, hK, hN⟩ := hB
  have hl : lv_has ls 2 [(0, .ref (a 18)), (1, .int x)] := hl
  have hown : s.vm.findClass R_Y = some m.cls := hown
  have hG2 := hG
  obtain ⟨g_sn, g_sg, g_tn, g_tx, g_kd, g_lv, g_le, g_ln, g_hn, g_lf, g_lt, g_lc, g_rh, g_rn, g_ws, g_wn⟩ := hG
  refine lv_iload_n hx hb d_Y_at_0 rfl (lv_at hl 1 rfl) ?_
  refine lv_if_lt (tgt := 21) hx hb d_Y_at_1 (by decide) (fun c1 => ?_) (fun c1 => ?_)
  · refine lv_iconst (v := nI 0) hx hb d_Y_at_21 (by decide) ?_
    exact x_ri hx hb hr hlk d_Y_at_22 (Or.inr ⟨by rintro ⟨i', h1, h2⟩; first | (rw [h2] at c1; exact absurd c1 (nI_pos (by omega))) | (have h3 := (nI_eq (by omega) (by omega)).mp h2; omega), rfl⟩)
  · obtain ⟨i, hi, rfl⟩ := nI_of c1
    refine lv_iload_n hx hb d_Y_at_4 rfl (lv_at hl 1 rfl) ?_
    refine lv_aload_n hx hb d_Y_at_5 rfl (lv_at hl 0 rfl) ?_
    refine va_get (D := (dC, dI)) (C := R_Y) (T := F_Y) (N := 3) hx hb hT i_Y hown hK hP 18 rfl rfl 1 (by decide) (hT _ k_Y_15) (fun _ h9 => h9) (v := .int (nI (a_wn σ))) rfl d_Y_at_6 ?_
    refine x_icmp_ge (tgt := 21) hx hb d_Y_at_9 (by decide) (fun c9 => ?_) (fun c9 => ?_)
    · refine lv_iconst (v := nI 0) hx hb d_Y_at_21 (by decide) ?_
      exact x_ri hx hb hr hlk d_Y_at_22 (Or.inr ⟨by rintro ⟨i', h1, h2⟩; first | (rw [h2] at c1; exact absurd c1 (nI_pos (by omega))) | (have h3 := (nI_eq (by omega) (by omega)).mp h2; omega), rfl⟩)
    · refine lv_aload_n hx hb d_Y_at_12 rfl (lv_at hl 0 rfl) ?_
      refine va_get (D := (dC, dI)) (C := R_Y) (T := F_Y) (N := 3) hx hb hT i_Y hown hK hP 18 rfl rfl 0 (by decide) (hT _ k_Y_9) (fun _ h9 => h9) (v := .ref (a 19)) rfl d_Y_at_13 ?_
      refine lv_iload_n hx hb d_Y_at_16 rfl (lv_at hl 1 rfl) ?_
      refine x_iald hx hb hK hP 19 12 (f := (a_ws σ)) rfl rfl d_Y_at_17 (by omega) ?_
      refine lv_goto (tgt := 22) hx hb d_Y_at_18 (by decide) ?_
      exact x_ri hx hb hr hlk d_Y_at_22 (Or.inl ⟨i, by omega, rfl, rfl⟩)
end
section
theorem wb_tb (n : Nat) : (lN n).toBitVec = BitVec.ofNat 64 n := rfl
theorem wb_inj {a b : Int64} (h : a.toBitVec = b.toBitVec) : a = b := Int64.toBitVec_inj.mp h
theorem wb_tn {n : Nat} (h : n < 2 ^ 64) : (lN n).toBitVec.toNat = n := by rw [wb_tb, BitVec.toNat_ofNat, Nat.mod_eq_of_lt h]
theorem wb_of (x : Int64) : ∃ n, n < 2 ^ 64 ∧ x = lN n := ⟨x.toBitVec.toNat, x.toBitVec.isLt, wb_inj (by rw [wb_tb]; simp)⟩
theorem wb_of32 (x : Int32) : ∃ n, n < 2 ^ 32 ∧ x = nI n := ⟨x.toBitVec.toNat, x.toBitVec.isLt, Int32.toBitVec_inj.mp (by show _ = BitVec.ofNat 32 _; simp)⟩
theorem wb_c : ∀ k, k < 64 → ((nI k).toInt64 &&& 63) = lN k := by decide +kernel
theorem wb_cu : ∀ k, k < 64 → ((nI k).toInt64.toUInt64 &&& Int64.toUInt64 63) = UInt64.ofNat k := by decide +kernel
theorem wb_sm : ∀ k, k < 64 → (BitVec.ofNat 64 k).smod 64 = BitVec.ofNat 64 k := by decide +kernel
theorem wb_pw {a b : Nat} (h : a ≤ b) : 2 ^ b = 2 ^ a * 2 ^ (b - a) := by rw [← Nat.pow_add]; congr 1; omega
theorem wb_lt2 {a b : Nat} (h : a < b) : 2 ^ a < 2 ^ b := Nat.pow_lt_pow_right (by decide) h
theorem wb_mod (n : Nat) : lN n = lN (n % 2 ^ 64) := wb_inj (by rw [wb_tb, wb_tb]; apply BitVec.eq_of_toNat_eq; rw [BitVec.toNat_ofNat, BitVec.toNat_ofNat, Nat.mod_mod])
theorem wb_shr {n k : Nat} (hn : n < 2 ^ 64) (hk : k < 64) : ((lN n).toUInt64 >>> ((nI k).toInt64.toUInt64 &&& Int64.toUInt64 63)).toInt64 = lN (n / 2 ^ k) := by
  rw [wb_cu k hk]
  apply wb_inj
  apply BitVec.eq_of_toNat_eq
  show ((lN n).toUInt64 >>> UInt64.ofNat k).toNat = (BitVec.ofNat 64 _).toNat
  have h1 : (UInt64.ofNat k).toNat = k := by
    show (BitVec.ofNat 64 k).toNat = k
    rw [BitVec.toNat_ofNat, Nat.mod_eq_of_lt (by omega)]
  have h2 : (lN n).toUInt64.toNat = n := wb_tn hn
  rw [UInt64.toNat_shiftRight, h1, h2, Nat.mod_eq_of_lt hk, Nat.shiftRight_eq_div_pow, BitVec.toNat_ofNat, Nat.mod_eq_of_lt (Nat.lt_of_le_of_lt (Nat.div_le_self _ _) hn)]
theorem wb_shl (n : Nat) {k : Nat} (hk : k < 64) : lN n <<< ((nI k).toInt64 &&& 63) = lN (n * 2 ^ k) := by
  rw [wb_c k hk]
  apply wb_inj
  rw [Int64.toBitVec_shiftLeft, wb_tb, wb_tb, wb_tb, wb_sm k hk]
  apply BitVec.eq_of_toNat_eq
  rw [BitVec.shiftLeft_eq', BitVec.toNat_shiftLeft, BitVec.toNat_ofNat, BitVec.toNat_ofNat, BitVec.toNat_ofNat, Nat.mod_eq_of_lt (show k < 2 ^ 64 by omega), Nat.shiftLeft_eq, Nat.mul_mod, Nat.mod_mod, ← Nat.mul_mod]
theorem wb_and {a b : Nat} (ha : a < 2 ^ 64) (hb : b < 2 ^ 64) : lN a &&& lN b = lN (a &&& b) := by
  apply wb_inj
  rw [Int64.toBitVec_and, wb_tb, wb_tb, wb_tb]
  apply BitVec.eq_of_toNat_eq
  rw [BitVec.toNat_and, BitVec.toNat_ofNat, BitVec.toNat_ofNat, BitVec.toNat_ofNat, Nat.mod_eq_of_lt ha, Nat.mod_eq_of_lt hb, Nat.mod_eq_of_lt (Nat.and_lt_two_pow _ hb)]
theorem wb_or {a b : Nat} (ha : a < 2 ^ 64) (hb : b < 2 ^ 64) : lN a ||| lN b = lN (a ||| b) := by
  apply wb_inj
  rw [Int64.toBitVec_or, wb_tb, wb_tb, wb_tb]
  apply BitVec.eq_of_toNat_eq
  rw [BitVec.toNat_or, BitVec.toNat_ofNat, BitVec.toNat_ofNat, BitVec.toNat_ofNat, Nat.mod_eq_of_lt ha, Nat.mod_eq_of_lt hb, Nat.mod_eq_of_lt (Nat.or_lt_two_pow ha hb)]
/-! a set of headings: the bits of a long -/
def bt6 (x : Int64) (j : Nat) : Bool := x.toBitVec.getLsbD j
theorem b6_and (x y : Int64) (j : Nat) : bt6 (x &&& y) j = (bt6 x j && bt6 y j) := by simp [bt6, Int64.toBitVec_and]
theorem b6_or (x y : Int64) (j : Nat) : bt6 (x ||| y) j = (bt6 x j || bt6 y j) := by simp [bt6, Int64.toBitVec_or]
theorem b6_xor (x y : Int64) (j : Nat) : bt6 (x ^^^ y) j = (bt6 x j ^^ bt6 y j) := by simp [bt6, Int64.toBitVec_xor]
theorem b6_ext {x y : Int64} (h : ∀ j, j < 64 → bt6 x j = bt6 y j) : x = y := Int64.toBitVec_inj.mp (BitVec.eq_of_getLsbD_eq h)
theorem b6_big {x : Int64} {j : Nat} (h : 64 ≤ j) : bt6 x j = false := by
  unfold bt6
  exact BitVec.getLsbD_of_ge _ _ h
theorem b6_0 (j : Nat) : bt6 0 j = false := by
  show (0#64).getLsbD j = false
  simp
theorem b6_m1 {j : Nat} (h : j < 64) : bt6 (-1) j = true := by
  have ha : (-1 : Int64).toBitVec = BitVec.allOnes 64 := by decide
  unfold bt6
  rw [ha, BitVec.getLsbD_allOnes]
  simp [h]
theorem b6_not {x : Int64} {j : Nat} (h : j < 64) : bt6 (x ^^^ (-1)) j = !bt6 x j := by
  rw [b6_xor, b6_m1 h]
  cases bt6 x j <;> rfl
def sg (h : Nat) : Int64 := lN (2 ^ h)
theorem sg_bv {h : Nat} : (sg h).toBitVec = BitVec.twoPow 64 h := by
  show BitVec.ofNat 64 (2 ^ h) = _
  apply BitVec.eq_of_toNat_eq
  rw [BitVec.toNat_ofNat, BitVec.toNat_twoPow]
theorem b6_sg {h j : Nat} (hh : h < 64) : bt6 (sg h) j = decide (j = h) := by
  unfold bt6
  rw [sg_bv, BitVec.getLsbD_twoPow]
  by_cases e : j = h
  · subst e; simp [hh]
  · simp [e, Ne.symm e]
theorem sg_shl {h : Nat} (hh : h < 64) : (1 : Int64) <<< ((nI h).toInt64 &&& 63) = sg h := by
  have e := wb_shl 1 hh
  rw [Nat.one_mul] at e
  exact e
theorem b6_zero {x : Int64} : x = 0 ↔ ∀ j, j < 64 → bt6 x j = false := by
  constructor
  · intro h j _; rw [h]; exact b6_0 j
  · intro h; exact b6_ext (fun j hj => by rw [h j hj, b6_0])
theorem b6_hold {x : Int64} {h : Nat} (hh : h < 64) : (x &&& sg h) = 0 ↔ bt6 x h = false := by
  rw [b6_zero]
  constructor
  · intro q
    have := q h hh
    rw [b6_and, b6_sg hh] at this
    simpa using this
  · intro q j _
    rw [b6_and, b6_sg hh]
    by_cases e : j = h
    · subst e; rw [q]; rfl
    · simp [e]
end
section
set_option maxRecDepth 100000 in
set_option maxHeartbeats 4000000 in
theorem c_A_setOf (l : Launch) (h : Nat) (hh : h < 64) : Met l y_A_setOf (wS y_A_setOf b_A_setOf 1 (some .long)) (rD 0) (va_Pc [.int (nI h)] (fun U => NWs U)) (vp_Sl (fun r => r = sg h)) 0 0 (fun _ => False) := by
  refine x_enter (by decide) (Nat.le_of_ble_eq_true rfl) ?_
  intro p e s m below meth c ls hx hb hr hml hT hown hlk hnm hl hB
  have hN : NWs s := hB
  have hl : lv_has ls 1 [(0, .int (nI h))] := hl
  have hown : s.vm.findClass R_A = some m.cls := hown
  refine lv_lconst (v := 1) hx hb d_A_setOf_0 (by decide) ?_
  refine lv_iload_n hx hb d_A_setOf_1 rfl (lv_at hl 0 rfl) ?_
  refine lv_lshl (v := sg h) hx hb d_A_setOf_2 (sg_shl (by omega)) ?_
  exact x_rl hx hb hr hlk d_A_setOf_3 rfl

set_option maxRecDepth 100000 in
set_option maxHeartbeats 4000000 in
theorem c_A_holds (l : Launch) (x : Int64) (h : Nat) (hh : h < 64) : Met l y_A_holds (wS y_A_holds b_A_holds 3 (some .boolean)) (rD 1) (va_Pc [.long x, .int (nI h)] (fun U => NWs U)) (vp_Si (fun r => BR r (bt6 x h = true))) 0 0 (fun _ => False) := by
  refine x_enter (by decide) (Nat.le_of_ble_eq_true rfl) ?_
  intro p e s m below meth c ls hx hb hr hml hT hown hlk hnm hl hB
  have hN : NWs s := hB
  have hl : lv_has ls 3 [(0, .long x), (2, .int (nI h))] := hl
  have hown : s.vm.findClass R_A = some m.cls := hown
  refine lv_lload_n hx hb d_A_holds_0 rfl (lv_at hl 0 rfl) ?_
  refine lv_iload_n hx hb d_A_holds_1 rfl (lv_at hl 1 rfl) ?_
  refine x_cl (x_runS ⟨hx, hb, hml, hown, hT⟩ (c_A_setOf l h hh) f_A_setOf k_A_104 blT (x_bT hN) hl.1 d_A_holds_2 rfl (lv_room (Nat.le_of_ble_eq_true rfl)) ⟨Nat.le_of_ble_eq_true rfl, Nat.le_of_ble_eq_true rfl⟩ ⟨rfl, rfl⟩ ⟨Nat.le_refl 0, Nat.le_refl 0⟩ rfl) (fun r2 q2 => ?_)
  subst q2
  refine lv_land hx hb d_A_holds_5 ?_
  refine lv_lconst (v := 0) hx hb d_A_holds_6 (by decide) ?_
  refine x_lif_eq (tgt := 15) hx hb d_A_holds_7 d_A_holds_8 (by decide) (fun c7 => ?_) (fun c7 => ?_)
  · refine lv_iconst (v := nI 0) hx hb d_A_holds_15 (by decide) ?_
    exact x_rz hx hb hr hlk d_A_holds_16 rfl (Or.inr ⟨rfl, by rw [(b6_hold hh).mp c7]; decide⟩)
  · refine lv_iconst (v := nI 1) hx hb d_A_holds_11 (by decide) ?_
    refine lv_goto (tgt := 16) hx hb d_A_holds_12 (by decide) ?_
    exact x_rz hx hb hr hlk d_A_holds_16 rfl (Or.inl ⟨rfl, by cases hq : bt6 x h; exact absurd ((b6_hold hh).mpr hq) c7; rfl⟩)

/-- how many of 1 .. n -/
def cntP (P : Nat → Bool) : Nat → Nat
  | 0 => 0
  | n + 1 => cntP P n + if P (n + 1) = true then 1 else 0
theorem cntP_s1 {P : Nat → Bool} {n : Nat} (h : P (n + 1) = true) : cntP P (n + 1) = cntP P n + 1 := by simp [cntP, h]
theorem cntP_s0 {P : Nat → Bool} {n : Nat} (h : ¬ P (n + 1) = true) : cntP P (n + 1) = cntP P n := by simp [cntP, h]
/-- the i-th of 1 .. n with P, from 0 on; 0 if there is none such -/
def NTH (P : Nat → Bool) (n i : Nat) (r : Int32) : Prop := (∃ h, h < n ∧ P (h + 1) = true ∧ cntP P h = i ∧ r = nI (h + 1)) ∨ (cntP P n ≤ i ∧ r = nI 0)
set_option maxRecDepth 100000 in
set_option maxHeartbeats 4000000 in
theorem c_A_nthOf (l : Launch) (x : Int64) (i : Nat) (hi : i < 2 ^ 31) : Met l y_A_nthOf (wS y_A_nthOf b_A_nthOf 5 (some .int)) (rD 2) (va_Pc [.long x, .int (nI i)] (fun U => NWs U)) (vp_Si (fun r => NTH (bt6 x) 60 i r)) 0 0 (fun _ => False) := by
  refine x_enter (by decide) (Nat.le_of_ble_eq_true rfl) ?_
  intro p e s m below meth c ls hx hb hr hml hT hown hlk hnm hl hB
  have hN : NWs s := hB
  have hl : lv_has ls 5 [(0, .long x), (2, .int (nI i))] := hl
  have hown : s.vm.findClass R_A = some m.cls := hown
  refine lv_iload_n hx hb d_A_nthOf_0 rfl (lv_at hl 1 rfl) ?_
  refine lv_istore_n (lv' := [(3, .int (nI i)), (0, .long x), (2, .int (nI i))]) hx hb d_A_nthOf_1 rfl hl (by decide) rfl (fun ls hl => ?_)
  refine lv_iconst (v := nI 1) hx hb d_A_nthOf_2 (by decide) ?_
  refine lv_istore (lv' := [(4, .int (nI 1)), (3, .int (nI i)), (0, .long x), (2, .int (nI i))]) hx hb d_A_nthOf_3 hl (by decide) rfl (fun ls hl => ?_)
  have hloop5 : ∀ (n5 : Nat) (k : Nat) (f : Nat) (ls : Array Slot), k ≤ 60 → f + cntP (bt6 x) k = i → 61 - k < n5 → lv_has ls 5 [(0, .long x), (2, .int (nI i)), (3, .int (nI f)), (4, .int (nI (k + 1)))] → W p l e (rD 2) s m ([.long x, .int (nI i)] : List Value).toArray below meth c s.heap [] 0 0 (MQ below (vp_Si (fun r => NTH (bt6 x) 60 i r)) ([.long x, .int (nI i)] : List Value).toArray s 0 0 (fun _ => False)) (F0 m 5 ls []) := by
    intro n5
    induction n5 with
    | zero => intro k f ls _ _ h9; exact absurd h9 (Nat.not_lt_zero _)
    | succ n5 ih5 =>
      intro k f ls hk hf hmu5 hl
      refine lv_iload hx hb d_A_nthOf_5 (lv_at hl 3 rfl) ?_
      refine lv_bipush (v := nI 60) hx hb d_A_nthOf_7 (by decide) ?_
      refine x_icmp_gt (tgt := 37) hx hb d_A_nthOf_9 (by decide) (fun c9 => ?_) (fun c9 => ?_)
      · refine lv_iconst (v := nI 0) hx hb d_A_nthOf_37 (by decide) ?_
        exact x_ri hx hb hr hlk d_A_nthOf_38 (Or.inr ⟨by rw [show 60 = k by omega]; omega, rfl⟩)
      · refine lv_lload_n hx hb d_A_nthOf_12 rfl (lv_at hl 0 rfl) ?_
        refine lv_iload hx hb d_A_nthOf_13 (lv_at hl 3 rfl) ?_
        refine x_ci (x_runS ⟨hx, hb, hml, hown, hT⟩ (c_A_holds l x (k + 1) (by omega)) f_A_holds k_A_169 blT (x_bT hN) hl.1 d_A_nthOf_15 rfl (lv_room (Nat.le_of_ble_eq_true rfl)) ⟨Nat.le_of_ble_eq_true rfl, Nat.le_of_ble_eq_true rfl⟩ ⟨rfl, rfl⟩ ⟨Nat.le_refl 0, Nat.le_refl 0⟩ rfl) (fun r15 q15 => ?_)
        rcases q15 with ⟨rfl, hq⟩ | ⟨rfl, hq⟩
        · refine x_if_eq (tgt := 31) hx hb d_A_nthOf_18 (by decide) (fun h => absurd h (by decide)) (fun _ => ?_)
          refine lv_iload_n hx hb d_A_nthOf_21 rfl (lv_at hl 2 rfl) ?_
          refine x_if_ne (tgt := 28) hx hb d_A_nthOf_22 (by decide) (fun c22 => ?_) (fun c22 => ?_)
          · obtain ⟨f', rfl⟩ : ∃ f', f = f' + 1 := ⟨f - 1, by omega⟩
            refine x_idec (lv' := [(3, .int (nI f')), (0, .long x), (2, .int (nI i)), (4, .int (nI (k + 1)))]) hx hb d_A_nthOf_28 hl (k := 2) rfl (by decide) rfl (fun ls hl => ?_)
            refine x_iinc (lv' := [(4, .int (nI ((k + 1) + 1))), (3, .int (nI f')), (0, .long x), (2, .int (nI i))]) hx hb d_A_nthOf_31 hl (k := 3) rfl (by decide) rfl (fun ls hl => ?_)
            refine lv_goto (tgt := 5) hx hb d_A_nthOf_34 (by decide) ?_
            exact ih5 (k + 1) _ ls (by omega) (by first | (rw [cntP_s0 hq]; omega) | (rw [cntP_s1 hq]; omega)) (by omega) (lv_sub hl [2, 3, 1, 0] rfl)
          · refine lv_iload hx hb d_A_nthOf_25 (lv_at hl 3 rfl) ?_
            exact x_ri hx hb hr hlk d_A_nthOf_27 (Or.inl ⟨k, by omega, hq, by omega, rfl⟩)
        · refine x_if_eq (tgt := 31) hx hb d_A_nthOf_18 (by decide) (fun _ => ?_) (fun h => absurd h (by decide))
          refine x_iinc (lv' := [(4, .int (nI ((k + 1) + 1))), (0, .long x), (2, .int (nI i)), (3, .int (nI f))]) hx hb d_A_nthOf_31 hl (k := 3) rfl (by decide) rfl (fun ls hl => ?_)
          refine lv_goto (tgt := 5) hx hb d_A_nthOf_34 (by decide) ?_
          exact ih5 (k + 1) _ ls (by omega) (by first | (rw [cntP_s0 hq]; omega) | (rw [cntP_s1 hq]; omega)) (by omega) (lv_sub hl [1, 2, 3, 0] rfl)
  exact hloop5 _ 0 i ls (by omega) rfl (Nat.lt_succ_self _) (lv_sub hl [2, 3, 1, 0] rfl)

set_option maxRecDepth 100000 in
set_option maxHeartbeats 4000000 in
theorem c_K_targetsOf (l : Launch) (dC : Nat → ClassId) (dI : Nat → Nat → Nat) (a : Nat → Nat) (t : Nat → ClassId) (σ : SA) (q h : Nat) (hq : q < 4) (hh : h ≤ 60) : Met l y_K_targetsOf (wS y_K_targetsOf b_K_targetsOf 3 (some .long)) (rD 0) (va_Pc [.ref (a 10), .int (nI q), .int (nI h)] (RB (dC, dI) (yA t) (wA a t σ))) (vp_Sl (fun r => r = a_tg σ (q * 61 + h))) 0 0 (fun _ => False) := by
  refine x_enter (by decide) (Nat.le_of_ble_eq_true rfl) ?_
  intro p e s m below meth c ls hx hb hr hml hT hown hlk hnm hl hB
  obtain ⟨hP, hK, hN⟩ := hB
  have hl : lv_has ls 3 [(0, .ref (a 10)), (1, .int (nI q)), (2, .int (nI h))] := hl
  have hown : s.vm.findClass R_K = some m.cls := hown
  refine lv_aload_n hx hb d_K_targetsOf_0 rfl (lv_at hl 0 rfl) ?_
  refine va_get (D := (dC, dI)) (C := R_K) (T := F_K) (N := 5) hx hb hT i_K hown hK hP 10 rfl rfl 0 (by decide) (hT _ k_K_9) (fun _ h9 => h9) (v := .ref (a 11)) rfl d_K_targetsOf_1 ?_
  refine lv_iload_n hx hb d_K_targetsOf_4 rfl (lv_at hl 1 rfl) ?_
  refine lv_bipush (v := nI 61) hx hb d_K_targetsOf_5 (by decide) ?_
  refine x_imul hx hb d_K_targetsOf_7 ?_
  refine lv_iload_n hx hb d_K_targetsOf_8 rfl (lv_at hl 2 rfl) ?_
  refine x_iadd hx hb d_K_targetsOf_9 ?_
  refine x_lald hx hb hK hP 11 6 (f := (a_tg σ)) rfl rfl d_K_targetsOf_10 (by omega) ?_
  exact x_rl hx hb hr hlk d_K_targetsOf_11 rfl

set_option maxRecDepth 100000 in
set_option maxHeartbeats 4000000 in
theorem c_K_has (l : Launch) (dC : Nat → ClassId) (dI : Nat → Nat → Nat) (a : Nat → Nat) (t : Nat → ClassId) (σ : SA) (q h k : Nat) (hq : q < 4) (hh : h ≤ 60) (hk : k ≤ 60) : Met l y_K_has (wS y_K_has b_K_has 4 (some .boolean)) (rD 2) (va_Pc [.ref (a 10), .int (nI q), .int (nI h), .int (nI k)] (RB (dC, dI) (yA t) (wA a t σ))) (vp_Si (fun r => BR r (bt6 (a_tg σ (q * 61 + h)) k = true))) 0 0 (fun _ => False) := by
  refine x_enter (by decide) (Nat.le_of_ble_eq_true rfl) ?_
  intro p e s m below meth c ls hx hb hr hml hT hown hlk hnm hl hB
  obtain ⟨hP, hK, hN⟩ := hB
  have hl : lv_has ls 4 [(0, .ref (a 10)), (1, .int (nI q)), (2, .int (nI h)), (3, .int (nI k))] := hl
  have hown : s.vm.findClass R_K = some m.cls := hown
  refine lv_aload_n hx hb d_K_has_0 rfl (lv_at hl 0 rfl) ?_
  refine lv_iload_n hx hb d_K_has_1 rfl (lv_at hl 1 rfl) ?_
  refine lv_iload_n hx hb d_K_has_2 rfl (lv_at hl 2 rfl) ?_
  refine x_cl (x_runV ⟨hx, hb, hml, hown, hT⟩ (c_K_targetsOf l dC dI a t σ q h (by omega) (by omega)) f_K_targetsOf k_K_29 blR (va_recv hK hP (ci := 3) (q0 := 10) rfl rfl) (x_bR hK hP hN) hl.1 d_K_has_3 rfl (lv_room (Nat.le_of_ble_eq_true rfl)) ⟨Nat.le_of_ble_eq_true rfl, Nat.le_of_ble_eq_true rfl⟩ ⟨rfl, rfl⟩ ⟨Nat.le_refl 0, Nat.le_refl 0⟩ rfl) (fun r3 q3 => ?_)
  subst q3
  refine lv_iload_n hx hb d_K_has_6 rfl (lv_at hl 3 rfl) ?_
  refine x_ci (x_runSN ⟨hx, hb, hml, hown, hT⟩ hN (c_A_holds l (a_tg σ (q * 61 + h)) k (by omega)) f_A_holds k_K_33 blT (x_bT hN) hl.1 d_K_has_7 rfl (lv_room (Nat.le_of_ble_eq_true rfl)) ⟨Nat.le_of_ble_eq_true rfl, Nat.le_of_ble_eq_true rfl⟩ ⟨rfl, rfl⟩ ⟨Nat.le_refl 0, Nat.le_refl 0⟩ rfl) (fun r7 q7 => ?_)
  rcases q7 with ⟨rfl, hq9⟩ | ⟨rfl, hq9⟩
  · exact x_rz hx hb hr hlk d_K_has_10 rfl (Or.inl ⟨rfl, hq9⟩)
  · exact x_rz hx hb hr hlk d_K_has_10 rfl (Or.inr ⟨rfl, hq9⟩)

theorem ex_s {k : Nat} {P : Nat → Nat → Prop} {y y' : Nat → Prop} (hy : ∀ b, y b ↔ ∃ h, h < k ∧ P h b) (h : ∀ b, y' b ↔ (y b ∨ P k b)) : ∀ b, y' b ↔ ∃ h, h < k + 1 ∧ P h b := fun b => by
  rw [h b, hy b]
  constructor
  · rintro (⟨i, h1, h2⟩ | h2)
    · exact ⟨i, by omega, h2⟩
    · exact ⟨k, by omega, h2⟩
  · rintro ⟨i, h1, h2⟩
    rcases Nat.lt_succ_iff_lt_or_eq.mp h1 with h3 | h3
    · exact Or.inl ⟨i, h3, h2⟩
    · rw [h3] at h2; exact Or.inr h2
set_option maxRecDepth 100000 in
set_option maxHeartbeats 4000000 in
theorem c_K_targetsOfAll (l : Launch) (dC : Nat → ClassId) (dI : Nat → Nat → Nat) (a : Nat → Nat) (t : Nat → ClassId) (σ : SA) (q : Nat) (x : Int64) (hq : q < 4) : Met l y_K_targetsOfAll (wS y_K_targetsOfAll b_K_targetsOfAll 7 (some .long)) (rD 2) (va_Pc [.ref (a 10), .int (nI q), .long x] (RB (dC, dI) (yA t) (wA a t σ))) (vp_Sl (fun r => ∀ b, bt6 r b = true ↔ ∃ h, h < 60 ∧ bt6 x (h + 1) = true ∧ bt6 (a_tg σ (q * 61 + (h + 1))) b = true)) 0 0 (fun _ => False) := by
  refine x_enter (by decide) (Nat.le_of_ble_eq_true rfl) ?_
  intro p e s m below meth c ls hx hb hr hml hT hown hlk hnm hl hB
  obtain ⟨hP, hK, hN⟩ := hB
  have hl : lv_has ls 7 [(0, .ref (a 10)), (1, .int (nI q)), (2, .long x)] := hl
  have hown : s.vm.findClass R_K = some m.cls := hown
  refine lv_lconst (v := 0) hx hb d_K_targetsOfAll_0 (by decide) ?_
  refine lv_lstore (lv' := [(4, .long 0), (0, .ref (a 10)), (1, .int (nI q)), (2, .long x)]) hx hb d_K_targetsOfAll_1 hl (by decide) rfl (fun ls hl => ?_)
  refine lv_iconst (v := nI 1) hx hb d_K_targetsOfAll_3 (by decide) ?_
  refine lv_istore (lv' := [(6, .int (nI 1)), (4, .long 0), (0, .ref (a 10)), (1, .int (nI q)), (2, .long x)]) hx hb d_K_targetsOfAll_4 hl (by decide) rfl (fun ls hl => ?_)
  have hloop6 : ∀ (n6 : Nat) (k : Nat) (y : Int64) (ls : Array Slot), k ≤ 60 → (∀ b, bt6 y b = true ↔ ∃ h, h < k ∧ bt6 x (h + 1) = true ∧ bt6 (a_tg σ (q * 61 + (h + 1))) b = true) → 61 - k < n6 → lv_has ls 7 [(0, .ref (a 10)), (1, .int (nI q)), (2, .long x), (4, .long y), (6, .int (nI (k + 1)))] → W p l e (rD 2) s m ([.ref (a 10), .int (nI q), .long x] : List Value).toArray below meth c s.heap [] 0 0 (MQ below (vp_Sl (fun r => ∀ b, bt6 r b = true ↔ ∃ h, h < 60 ∧ bt6 x (h + 1) = true ∧ bt6 (a_tg σ (q * 61 + (h + 1))) b = true)) ([.ref (a 10), .int (nI q), .long x] : List Value).toArray s 0 0 (fun _ => False)) (F0 m 6 ls []) := by
    intro n6
    induction n6 with
    | zero => intro k y ls _ _ h9; exact absurd h9 (Nat.not_lt_zero _)
    | succ n6 ih6 =>
      intro k y ls hk hy hmu6 hl
      refine lv_iload hx hb d_K_targetsOfAll_6 (lv_at hl 4 rfl) ?_
      refine lv_bipush (v := nI 60) hx hb d_K_targetsOfAll_8 (by decide) ?_
      refine x_icmp_gt (tgt := 40) hx hb d_K_targetsOfAll_10 (by decide) (fun c10 => ?_) (fun c10 => ?_)
      · refine lv_lload hx hb d_K_targetsOfAll_40 (lv_at hl 3 rfl) ?_
        exact x_rl hx hb hr hlk d_K_targetsOfAll_42 (by rw [show 60 = k by omega]; exact hy)
      · refine lv_lload_n hx hb d_K_targetsOfAll_13 rfl (lv_at hl 2 rfl) ?_
        refine lv_iload hx hb d_K_targetsOfAll_14 (lv_at hl 4 rfl) ?_
        refine x_ci (x_runSN ⟨hx, hb, hml, hown, hT⟩ hN (c_A_holds l x (k + 1) (by omega)) f_A_holds k_K_33 blT (x_bT hN) hl.1 d_K_targetsOfAll_16 rfl (lv_room (Nat.le_of_ble_eq_true rfl)) ⟨Nat.le_of_ble_eq_true rfl, Nat.le_of_ble_eq_true rfl⟩ ⟨rfl, rfl⟩ ⟨Nat.le_refl 0, Nat.le_refl 0⟩ rfl) (fun r16 q16 => ?_)
        rcases q16 with ⟨rfl, hq9⟩ | ⟨rfl, hq9⟩
        · refine x_if_eq (tgt := 34) hx hb d_K_targetsOfAll_19 (by decide) (fun h => absurd h (by decide)) (fun _ => ?_)
          refine lv_lload hx hb d_K_targetsOfAll_22 (lv_at hl 3 rfl) ?_
          refine lv_aload_n hx hb d_K_targetsOfAll_24 rfl (lv_at hl 0 rfl) ?_
          refine lv_iload_n hx hb d_K_targetsOfAll_25 rfl (lv_at hl 1 rfl) ?_
          refine lv_iload hx hb d_K_targetsOfAll_26 (lv_at hl 4 rfl) ?_
          refine x_cl (x_runV ⟨hx, hb, hml, hown, hT⟩ (c_K_targetsOf l dC dI a t σ q ((k + 1)) (by omega) (by omega)) f_K_targetsOf k_K_29 blR (va_recv hK hP (ci := 3) (q0 := 10) rfl rfl) (x_bR hK hP hN) hl.1 d_K_targetsOfAll_28 rfl (lv_room (Nat.le_of_ble_eq_true rfl)) ⟨Nat.le_of_ble_eq_true rfl, Nat.le_of_ble_eq_true rfl⟩ ⟨rfl, rfl⟩ ⟨Nat.le_refl 0, Nat.le_refl 0⟩ rfl) (fun r28 q28 => ?_)
          subst q28
          refine lv_lor hx hb d_K_targetsOfAll_31 ?_
          refine lv_lstore (lv' := [(4, .long (y ||| (a_tg σ (q * 61 + (k + 1))))), (0, .ref (a 10)), (1, .int (nI q)), (2, .long x), (6, .int (nI (k + 1)))]) hx hb d_K_targetsOfAll_32 hl (by decide) rfl (fun ls hl => ?_)
          refine x_iinc (lv' := [(6, .int (nI ((k + 1) + 1))), (4, .long (y ||| (a_tg σ (q * 61 + (k + 1))))), (0, .ref (a 10)), (1, .int (nI q)), (2, .long x)]) hx hb d_K_targetsOfAll_34 hl (k := 4) rfl (by decide) rfl (fun ls hl => ?_)
          refine lv_goto (tgt := 6) hx hb d_K_targetsOfAll_37 (by decide) ?_
          exact ih6 (k + 1) _ ls (by omega) (ex_s hy (fun b => by first | (rw [b6_or, Bool.or_eq_true]; constructor; (rintro (h9 | h9); exact Or.inl h9; exact Or.inr ⟨hq9, h9⟩); (rintro (h9 | h9); exact Or.inl h9; exact Or.inr h9.2)) | (constructor; exact Or.inl; (rintro (h9 | h9); exact h9; exact absurd h9.1 hq9)))) (by omega) (lv_sub hl [2, 3, 4, 1, 0] rfl)
        · refine x_if_eq (tgt := 34) hx hb d_K_targetsOfAll_19 (by decide) (fun _ => ?_) (fun h => absurd h (by decide))
          refine x_iinc (lv' := [(6, .int (nI ((k + 1) + 1))), (0, .ref (a 10)), (1, .int (nI q)), (2, .long x), (4, .long y)]) hx hb d_K_targetsOfAll_34 hl (k := 4) rfl (by decide) rfl (fun ls hl => ?_)
          refine lv_goto (tgt := 6) hx hb d_K_targetsOfAll_37 (by decide) ?_
          exact ih6 (k + 1) _ ls (by omega) (ex_s hy (fun b => by first | (rw [b6_or, Bool.or_eq_true]; constructor; (rintro (h9 | h9); exact Or.inl h9; exact Or.inr ⟨hq9, h9⟩); (rintro (h9 | h9); exact Or.inl h9; exact Or.inr h9.2)) | (constructor; exact Or.inl; (rintro (h9 | h9); exact h9; exact absurd h9.1 hq9)))) (by omega) (lv_sub hl [1, 2, 3, 4, 0] rfl)
  exact hloop6 _ 0 0 ls (by omega) (fun b => by rw [b6_0]; constructor; (intro h9; cases h9); (rintro ⟨h9, h8, _⟩; omega)) (Nat.lt_succ_self _) (lv_sub hl [2, 3, 4, 1, 0] rfl)

set_option maxRecDepth 100000 in
set_option maxHeartbeats 4000000 in
theorem c_K_sourcesOf (l : Launch) (dC : Nat → ClassId) (dI : Nat → Nat → Nat) (a : Nat → Nat) (t : Nat → ClassId) (σ : SA) (q : Nat) (x : Int64) (hq : q < 4) : Met l y_K_sourcesOf (wS y_K_sourcesOf b_K_sourcesOf 7 (some .long)) (rD 2) (va_Pc [.ref (a 10), .int (nI q), .long x] (RB (dC, dI) (yA t) (wA a t σ))) (vp_Sl (fun r => ∀ b, bt6 r b = true ↔ ∃ h, h < 60 ∧ b = h + 1 ∧ ¬ (a_tg σ (q * 61 + (h + 1)) &&& x) = 0)) 0 0 (fun _ => False) := by
  refine x_enter (by decide) (Nat.le_of_ble_eq_true rfl) ?_
  intro p e s m below meth c ls hx hb hr hml hT hown hlk hnm hl hB
  obtain ⟨hP, hK, hN⟩ := hB
  have hl : lv_has ls 7 [(0, .ref (a 10)), (1, .int (nI q)), (2, .long x)] := hl
  have hown : s.vm.findClass R_K = some m.cls := hown
  refine lv_lconst (v := 0) hx hb d_K_sourcesOf_0 (by decide) ?_
  refine lv_lstore (lv' := [(4, .long 0), (0, .ref (a 10)), (1, .int (nI q)), (2, .long x)]) hx hb d_K_sourcesOf_1 hl (by decide) rfl (fun ls hl => ?_)
  refine lv_iconst (v := nI 1) hx hb d_K_sourcesOf_3 (by decide) ?_
  refine lv_istore (lv' := [(6, .int (nI 1)), (4, .long 0), (0, .ref (a 10)), (1, .int (nI q)), (2, .long x)]) hx hb d_K_sourcesOf_4 hl (by decide) rfl (fun ls hl => ?_)
  have hloop6 : ∀ (n6 : Nat) (k : Nat) (y : Int64) (ls : Array Slot), k ≤ 60 → (∀ b, bt6 y b = true ↔ ∃ h, h < k ∧ b = h + 1 ∧ ¬ (a_tg σ (q * 61 + (h + 1)) &&& x) = 0) → 61 - k < n6 → lv_has ls 7 [(0, .ref (a 10)), (1, .int (nI q)), (2, .long x), (4, .long y), (6, .int (nI (k + 1)))] → W p l e (rD 2) s m ([.ref (a 10), .int (nI q), .long x] : List Value).toArray below meth c s.heap [] 0 0 (MQ below (vp_Sl (fun r => ∀ b, bt6 r b = true ↔ ∃ h, h < 60 ∧ b = h + 1 ∧ ¬ (a_tg σ (q * 61 + (h + 1)) &&& x) = 0)) ([.ref (a 10), .int (nI q), .long x] : List Value).toArray s 0 0 (fun _ => False)) (F0 m 6 ls []) := by
    intro n6
    induction n6 with
    | zero => intro k y ls _ _ h9; exact absurd h9 (Nat.not_lt_zero _)
    | succ n6 ih6 =>
      intro k y ls hk hy hmu6 hl
      refine lv_iload hx hb d_K_sourcesOf_6 (lv_at hl 4 rfl) ?_
      refine lv_bipush (v := nI 60) hx hb d_K_sourcesOf_8 (by decide) ?_
      refine x_icmp_gt (tgt := 43) hx hb d_K_sourcesOf_10 (by decide) (fun c10 => ?_) (fun c10 => ?_)
      · refine lv_lload hx hb d_K_sourcesOf_43 (lv_at hl 3 rfl) ?_
        exact x_rl hx hb hr hlk d_K_sourcesOf_45 (by rw [show 60 = k by omega]; exact hy)
      · refine lv_aload_n hx hb d_K_sourcesOf_13 rfl (lv_at hl 0 rfl) ?_
        refine lv_iload_n hx hb d_K_sourcesOf_14 rfl (lv_at hl 1 rfl) ?_
        refine lv_iload hx hb d_K_sourcesOf_15 (lv_at hl 4 rfl) ?_
        refine x_cl (x_runV ⟨hx, hb, hml, hown, hT⟩ (c_K_targetsOf l dC dI a t σ q ((k + 1)) (by omega) (by omega)) f_K_targetsOf k_K_29 blR (va_recv hK hP (ci := 3) (q0 := 10) rfl rfl) (x_bR hK hP hN) hl.1 d_K_sourcesOf_17 rfl (lv_room (Nat.le_of_ble_eq_true rfl)) ⟨Nat.le_of_ble_eq_true rfl, Nat.le_of_ble_eq_true rfl⟩ ⟨rfl, rfl⟩ ⟨Nat.le_refl 0, Nat.le_refl 0⟩ rfl) (fun r17 q17 => ?_)
        subst q17
        refine lv_lload_n hx hb d_K_sourcesOf_20 rfl (lv_at hl 2 rfl) ?_
        refine lv_land hx hb d_K_sourcesOf_21 ?_
        refine lv_lconst (v := 0) hx hb d_K_sourcesOf_22 (by decide) ?_
        refine x_lif_eq (tgt := 37) hx hb d_K_sourcesOf_23 d_K_sourcesOf_24 (by decide) (fun c23 => ?_) (fun c23 => ?_)
        · refine x_iinc (lv' := [(6, .int (nI ((k + 1) + 1))), (0, .ref (a 10)), (1, .int (nI q)), (2, .long x), (4, .long y)]) hx hb d_K_sourcesOf_37 hl (k := 4) rfl (by decide) rfl (fun ls hl => ?_)
          refine lv_goto (tgt := 6) hx hb d_K_sourcesOf_40 (by decide) ?_
          exact ih6 (k + 1) _ ls (by omega) (ex_s hy (fun b => by first | (rw [b6_or, b6_sg (by omega), Bool.or_eq_true, decide_eq_true_eq]; constructor; (rintro (h9 | h9); exact Or.inl h9; exact Or.inr ⟨h9, c23⟩); (rintro (h9 | h9); exact Or.inl h9; exact Or.inr h9.1)) | (constructor; exact Or.inl; (rintro (h9 | h9); exact h9; exact absurd c23 h9.2)))) (by omega) (lv_sub hl [1, 2, 3, 4, 0] rfl)
        · refine lv_lload hx hb d_K_sourcesOf_27 (lv_at hl 3 rfl) ?_
          refine lv_iload hx hb d_K_sourcesOf_29 (lv_at hl 4 rfl) ?_
          refine x_cl (x_runSN ⟨hx, hb, hml, hown, hT⟩ hN (c_A_setOf l (k + 1) (by omega)) f_A_setOf k_K_37 blT (x_bT hN) hl.1 d_K_sourcesOf_31 rfl (lv_room (Nat.le_of_ble_eq_true rfl)) ⟨Nat.le_of_ble_eq_true rfl, Nat.le_of_ble_eq_true rfl⟩ ⟨rfl, rfl⟩ ⟨Nat.le_refl 0, Nat.le_refl 0⟩ rfl) (fun r31 q31 => ?_)
          subst q31
          refine lv_lor hx hb d_K_sourcesOf_34 ?_
          refine lv_lstore (lv' := [(4, .long (y ||| (sg (k + 1)))), (0, .ref (a 10)), (1, .int (nI q)), (2, .long x), (6, .int (nI (k + 1)))]) hx hb d_K_sourcesOf_35 hl (by decide) rfl (fun ls hl => ?_)
          refine x_iinc (lv' := [(6, .int (nI ((k + 1) + 1))), (4, .long (y ||| (sg (k + 1)))), (0, .ref (a 10)), (1, .int (nI q)), (2, .long x)]) hx hb d_K_sourcesOf_37 hl (k := 4) rfl (by decide) rfl (fun ls hl => ?_)
          refine lv_goto (tgt := 6) hx hb d_K_sourcesOf_40 (by decide) ?_
          exact ih6 (k + 1) _ ls (by omega) (ex_s hy (fun b => by first | (rw [b6_or, b6_sg (by omega), Bool.or_eq_true, decide_eq_true_eq]; constructor; (rintro (h9 | h9); exact Or.inl h9; exact Or.inr ⟨h9, c23⟩); (rintro (h9 | h9); exact Or.inl h9; exact Or.inr h9.1)) | (constructor; exact Or.inl; (rintro (h9 | h9); exact h9; exact absurd c23 h9.2)))) (by omega) (lv_sub hl [2, 3, 4, 1, 0] rfl)
  exact hloop6 _ 0 0 ls (by omega) (fun b => by rw [b6_0]; constructor; (intro h9; cases h9); (rintro ⟨h9, h8, _⟩; omega)) (Nat.lt_succ_self _) (lv_sub hl [2, 3, 4, 1, 0] rfl)
end
section
/-- b is the place of the latest link of h that counts on a day: the latest day, of the same day the first -/
def BST (f : Nat → Nat) (d : Nat → Int64) (n h : Nat) (day : Int64) (b : Nat) : Prop := b < n ∧ f b = h ∧ d b ≤ day ∧ (∀ j, j < n → f j = h → d j ≤ day → d j ≤ d b) ∧ ∀ j, j < b → f j = h → d j ≤ day → d j < d b
def NOB (f : Nat → Nat) (d : Nat → Int64) (n h : Nat) (day : Int64) : Prop := ∀ j, j < n → ¬ (f j = h ∧ d j ≤ day)
theorem NOB_s {f : Nat → Nat} {d : Nat → Int64} {n h : Nat} {day : Int64} (q : NOB f d n h day) (e : ¬ (f n = h ∧ d n ≤ day)) : NOB f d (n + 1) h day := fun j hj => by
  rcases Nat.lt_succ_iff_lt_or_eq.mp hj with h3 | h3
  · exact q j h3
  · rw [h3]; exact e
theorem BST_new {f : Nat → Nat} {d : Nat → Int64} {n h : Nat} {day : Int64} (q : NOB f d n h day) (h1 : f n = h) (h2 : d n ≤ day) : BST f d (n + 1) h day n :=
  ⟨Nat.lt_succ_self n, h1, h2, fun j hj e1 e2 => by
    rcases Nat.lt_succ_iff_lt_or_eq.mp hj with h3 | h3
    · exact absurd ⟨e1, e2⟩ (q j h3)
    · rw [h3]; exact Int64.le_refl _, fun j hj e1 e2 => absurd ⟨e1, e2⟩ (q j hj)⟩
theorem BST_more {f : Nat → Nat} {d : Nat → Int64} {n h b : Nat} {day : Int64} (q : BST f d n h day b) (h1 : f n = h) (h2 : d n ≤ day) (h3 : d b < d n) : BST f d (n + 1) h day n :=
  ⟨Nat.lt_succ_self n, h1, h2, fun j hj e1 e2 => by
    rcases Nat.lt_succ_iff_lt_or_eq.mp hj with h4 | h4
    · exact Int64.le_trans (q.2.2.2.1 j h4 e1 e2) (Int64.le_of_lt h3)
    · rw [h4]; exact Int64.le_refl _, fun j hj e1 e2 => Int64.lt_of_le_of_lt (q.2.2.2.1 j hj e1 e2) h3⟩
theorem BST_same {f : Nat → Nat} {d : Nat → Int64} {n h b : Nat} {day : Int64} (q : BST f d n h day b) (e : ¬ (f n = h ∧ d n ≤ day) ∨ ¬ d b < d n) : BST f d (n + 1) h day b :=
  ⟨Nat.lt_succ_of_lt q.1, q.2.1, q.2.2.1, fun j hj e1 e2 => by
    rcases Nat.lt_succ_iff_lt_or_eq.mp hj with h4 | h4
    · exact q.2.2.2.1 j h4 e1 e2
    · rw [h4] at e1 e2 ⊢
      rcases e with e | e
      · exact absurd ⟨e1, e2⟩ e
      · exact Int64.not_lt.mp e, q.2.2.2.2⟩
theorem nI_m1 {b : Nat} (h : b < 2 ^ 31) : ¬ nI b = -1 := fun e => by
  have h1 := nI_pos h
  rw [e] at h1
  exact h1 (by decide)
set_option maxRecDepth 100000 in
set_option maxHeartbeats 4000000 in
theorem c_K_latestOn (l : Launch) (dC : Nat → ClassId) (dI : Nat → Nat → Nat) (a : Nat → Nat) (t : Nat → ClassId) (σ : SA) (hG : GA σ) (h : Nat) (d : Int64) (hh : h ≤ 60) : Met l y_K_latestOn (wS y_K_latestOn b_K_latestOn 7 (some .int)) (rD 0) (va_Pc [.ref (a 10), .int (nI h), .long d] (RB (dC, dI) (yA t) (wA a t σ))) (vp_Si (fun r => (∃ b, BST (a_lf σ) (a_ld σ) (a_lc σ) h d b ∧ r = nI (a_lt σ b)) ∨ (NOB (a_lf σ) (a_ld σ) (a_lc σ) h d ∧ r = nI 0))) 0 0 (fun _ => False) := by
  refine x_enter (by decide) (Nat.le_of_ble_eq_true rfl) ?_
  intro p e s m below meth c ls hx hb hr hml hT hown hlk hnm hl hB
  obtain ⟨hP, hK, hN⟩ := hB
  have hl : lv_has ls 7 [(0, .ref (a 10)), (1, .int (nI h)), (2, .long d)] := hl
  have hown : s.vm.findClass R_K = some m.cls := hown
  have hG2 := hG
  obtain ⟨g_sn, g_sg, g_tn, g_tx, g_kd, g_lv, g_le, g_ln, g_hn, g_lf, g_lt, g_lc, g_rh, g_rn, g_ws, g_wn⟩ := hG
  refine lv_iconst (v := -1) hx hb d_K_latestOn_0 (by decide) ?_
  refine lv_istore (lv' := [(4, .int (-1)), (0, .ref (a 10)), (1, .int (nI h)), (2, .long d)]) hx hb d_K_latestOn_1 hl (by decide) rfl (fun ls hl => ?_)
  refine lv_iconst (v := nI 0) hx hb d_K_latestOn_3 (by decide) ?_
  refine lv_istore (lv' := [(5, .int (nI 0)), (4, .int (-1)), (0, .ref (a 10)), (1, .int (nI h)), (2, .long d)]) hx hb d_K_latestOn_4 hl (by decide) rfl (fun ls hl => ?_)
  have hloop6 : ∀ (n6 : Nat) (i : Nat) (x : Int32) (ls : Array Slot), i ≤ a_lc σ → ((x = -1 ∧ NOB (a_lf σ) (a_ld σ) i h d) ∨ ∃ b, x = nI b ∧ BST (a_lf σ) (a_ld σ) i h d b) → a_lc σ + 1 - i < n6 → lv_has ls 7 [(0, .ref (a 10)), (1, .int (nI h)), (2, .long d), (4, .int x), (5, .int (nI i))] → W p l e (rD 0) s m ([.ref (a 10), .int (nI h), .long d] : List Value).toArray below meth c s.heap [] 0 0 (MQ below (vp_Si (fun r => (∃ b, BST (a_lf σ) (a_ld σ) (a_lc σ) h d b ∧ r = nI (a_lt σ b)) ∨ (NOB (a_lf σ) (a_ld σ) (a_lc σ) h d ∧ r = nI 0))) ([.ref (a 10), .int (nI h), .long d] : List Value).toArray s 0 0 (fun _ => False)) (F0 m 6 ls []) := by
    intro n6
    induction n6 with
    | zero => intro i x ls _ _ h9; exact absurd h9 (Nat.not_lt_zero _)
    | succ n6 ih6 =>
      intro i x ls hi hx9 hmu6 hl
      rcases hx9 with ⟨rfl, hno⟩ | ⟨b, rfl, hbs⟩
      · refine lv_iload hx hb d_K_latestOn_6 (lv_at hl 4 rfl) ?_
        refine lv_aload_n hx hb d_K_latestOn_8 rfl (lv_at hl 0 rfl) ?_
        refine va_get (D := (dC, dI)) (C := R_K) (T := F_K) (N := 5) hx hb hT i_K hown hK hP 10 rfl rfl 4 (by decide) (hT _ k_K_25) (fun _ h9 => h9) (v := .int (nI (a_lc σ))) rfl d_K_latestOn_9 ?_
        refine x_icmp_ge (tgt := 84) hx hb d_K_latestOn_12 (by decide) (fun c12 => ?_) (fun c12 => ?_)
        · refine lv_iload hx hb d_K_latestOn_84 (lv_at hl 3 rfl) ?_
          refine lv_iconst (v := -1) hx hb d_K_latestOn_86 (by decide) ?_
          refine lv_icmp_ne (tgt := 94) hx hb d_K_latestOn_87 (by decide) (fun h9 => absurd rfl h9) (fun _ => ?_)
          refine lv_iconst (v := nI 0) hx hb d_K_latestOn_90 (by decide) ?_
          refine lv_goto (tgt := 101) hx hb d_K_latestOn_91 (by decide) ?_
          exact x_ri hx hb hr hlk d_K_latestOn_101 (Or.inr ⟨by rw [show a_lc σ = i by omega]; exact hno, rfl⟩)
        · refine lv_aload_n hx hb d_K_latestOn_15 rfl (lv_at hl 0 rfl) ?_
          refine va_get (D := (dC, dI)) (C := R_K) (T := F_K) (N := 5) hx hb hT i_K hown hK hP 10 rfl rfl 1 (by decide) (hT _ k_K_15) (fun _ h9 => h9) (v := .ref (a 12)) rfl d_K_latestOn_16 ?_
          refine lv_iload hx hb d_K_latestOn_19 (lv_at hl 4 rfl) ?_
          refine x_iald hx hb hK hP 12 7 (f := (a_lf σ)) rfl rfl d_K_latestOn_21 (by omega) ?_
          refine lv_iload_n hx hb d_K_latestOn_22 rfl (lv_at hl 1 rfl) ?_
          have g9 := g_lf i
          refine x_icmp_ne (tgt := 42) hx hb d_K_latestOn_23 (by decide) (fun c23 => ?_) (fun c23 => ?_)
          · refine lv_iconst (v := nI 0) hx hb d_K_latestOn_42 (by decide) ?_
            refine lv_istore (lv' := [(6, .int (nI 0)), (0, .ref (a 10)), (1, .int (nI h)), (2, .long d), (4, .int (-1)), (5, .int (nI i))]) hx hb d_K_latestOn_43 hl (by decide) rfl (fun ls hl => ?_)
            refine lv_iload hx hb d_K_latestOn_45 (lv_at hl 0 rfl) ?_
            refine x_if_eq (tgt := 78) hx hb d_K_latestOn_47 (by decide) (fun _ => ?_) (fun h => absurd h (by decide))
            refine x_iinc (lv' := [(5, .int (nI (i + 1))), (6, .int (nI 0)), (0, .ref (a 10)), (1, .int (nI h)), (2, .long d), (4, .int (-1))]) hx hb d_K_latestOn_78 hl (k := 5) rfl (by decide) rfl (fun ls hl => ?_)
            refine lv_goto (tgt := 6) hx hb d_K_latestOn_81 (by decide) ?_
            exact ih6 (i + 1) _ ls (by omega) (Or.inl ⟨rfl, NOB_s hno (fun q9 => by first | exact c23 q9.1 | exact absurd q9.2 (Int64.not_le.mpr c34))⟩) (by omega) (lv_sub hl [2, 3, 4, 5, 0] rfl)
          · refine lv_aload_n hx hb d_K_latestOn_26 rfl (lv_at hl 0 rfl) ?_
            refine va_get (D := (dC, dI)) (C := R_K) (T := F_K) (N := 5) hx hb hT i_K hown hK hP 10 rfl rfl 3 (by decide) (hT _ k_K_22) (fun _ h9 => h9) (v := .ref (a 14)) rfl d_K_latestOn_27 ?_
            refine lv_iload hx hb d_K_latestOn_30 (lv_at hl 4 rfl) ?_
            refine x_lald hx hb hK hP 14 9 (f := (a_ld σ)) rfl rfl d_K_latestOn_32 (by omega) ?_
            refine lv_lload_n hx hb d_K_latestOn_33 rfl (lv_at hl 2 rfl) ?_
            refine x_lif_gt (tgt := 42) hx hb d_K_latestOn_34 d_K_latestOn_35 (by decide) (fun c34 => ?_) (fun c34 => ?_)
            · refine lv_iconst (v := nI 0) hx hb d_K_latestOn_42 (by decide) ?_
              refine lv_istore (lv' := [(6, .int (nI 0)), (0, .ref (a 10)), (1, .int (nI h)), (2, .long d), (4, .int (-1)), (5, .int (nI i))]) hx hb d_K_latestOn_43 hl (by decide) rfl (fun ls hl => ?_)
              refine lv_iload hx hb d_K_latestOn_45 (lv_at hl 0 rfl) ?_
              refine x_if_eq (tgt := 78) hx hb d_K_latestOn_47 (by decide) (fun _ => ?_) (fun h => absurd h (by decide))
              refine x_iinc (lv' := [(5, .int (nI (i + 1))), (6, .int (nI 0)), (0, .ref (a 10)), (1, .int (nI h)), (2, .long d), (4, .int (-1))]) hx hb d_K_latestOn_78 hl (k := 5) rfl (by decide) rfl (fun ls hl => ?_)
              refine lv_goto (tgt := 6) hx hb d_K_latestOn_81 (by decide) ?_
              exact ih6 (i + 1) _ ls (by omega) (Or.inl ⟨rfl, NOB_s hno (fun q9 => by first | exact c23 q9.1 | exact absurd q9.2 (Int64.not_le.mpr c34))⟩) (by omega) (lv_sub hl [2, 3, 4, 5, 0] rfl)
            · refine lv_iconst (v := nI 1) hx hb d_K_latestOn_38 (by decide) ?_
              refine lv_goto (tgt := 43) hx hb d_K_latestOn_39 (by decide) ?_
              refine lv_istore (lv' := [(6, .int (nI 1)), (0, .ref (a 10)), (1, .int (nI h)), (2, .long d), (4, .int (-1)), (5, .int (nI i))]) hx hb d_K_latestOn_43 hl (by decide) rfl (fun ls hl => ?_)
              refine lv_iload hx hb d_K_latestOn_45 (lv_at hl 0 rfl) ?_
              refine x_if_eq (tgt := 78) hx hb d_K_latestOn_47 (by decide) (fun h => absurd h (by decide)) (fun _ => ?_)
              refine lv_iload hx hb d_K_latestOn_50 (lv_at hl 4 rfl) ?_
              refine lv_iconst (v := -1) hx hb d_K_latestOn_52 (by decide) ?_
              refine lv_icmp_eq (tgt := 74) hx hb d_K_latestOn_53 (by decide) (fun _ => ?_) (fun h9 => absurd rfl h9)
              refine lv_iload hx hb d_K_latestOn_74 (lv_at hl 5 rfl) ?_
              refine lv_istore (lv' := [(4, .int (nI i)), (6, .int (nI 1)), (0, .ref (a 10)), (1, .int (nI h)), (2, .long d), (5, .int (nI i))]) hx hb d_K_latestOn_76 hl (by decide) rfl (fun ls hl => ?_)
              refine x_iinc (lv' := [(5, .int (nI (i + 1))), (4, .int (nI i)), (6, .int (nI 1)), (0, .ref (a 10)), (1, .int (nI h)), (2, .long d)]) hx hb d_K_latestOn_78 hl (k := 5) rfl (by decide) rfl (fun ls hl => ?_)
              refine lv_goto (tgt := 6) hx hb d_K_latestOn_81 (by decide) ?_
              exact ih6 (i + 1) _ ls (by omega) (Or.inr ⟨i, rfl, by first | exact BST_new hno (by assumption) (Int64.not_lt.mp c34) | exact BST_more hbs (by assumption) (Int64.not_lt.mp c34) (Int64.not_le.mp c70)⟩) (by omega) (lv_sub hl [3, 4, 5, 1, 0] rfl)
      · refine lv_iload hx hb d_K_latestOn_6 (lv_at hl 4 rfl) ?_
        refine lv_aload_n hx hb d_K_latestOn_8 rfl (lv_at hl 0 rfl) ?_
        refine va_get (D := (dC, dI)) (C := R_K) (T := F_K) (N := 5) hx hb hT i_K hown hK hP 10 rfl rfl 4 (by decide) (hT _ k_K_25) (fun _ h9 => h9) (v := .int (nI (a_lc σ))) rfl d_K_latestOn_9 ?_
        refine x_icmp_ge (tgt := 84) hx hb d_K_latestOn_12 (by decide) (fun c12 => ?_) (fun c12 => ?_)
        · refine lv_iload hx hb d_K_latestOn_84 (lv_at hl 3 rfl) ?_
          refine lv_iconst (v := -1) hx hb d_K_latestOn_86 (by decide) ?_
          refine lv_icmp_ne (tgt := 94) hx hb d_K_latestOn_87 (by decide) (fun _ => ?_) (fun h9 => absurd h9 (nI_m1 (by have := hbs.1; omega)))
          refine lv_aload_n hx hb d_K_latestOn_94 rfl (lv_at hl 0 rfl) ?_
          refine va_get (D := (dC, dI)) (C := R_K) (T := F_K) (N := 5) hx hb hT i_K hown hK hP 10 rfl rfl 2 (by decide) (hT _ k_K_19) (fun _ h9 => h9) (v := .ref (a 13)) rfl d_K_latestOn_95 ?_
          refine lv_iload hx hb d_K_latestOn_98 (lv_at hl 3 rfl) ?_
          refine x_iald hx hb hK hP 13 8 (f := (a_lt σ)) rfl rfl d_K_latestOn_100 (by have := hbs.1; omega) ?_
          exact x_ri hx hb hr hlk d_K_latestOn_101 (Or.inl ⟨b, by rw [show a_lc σ = i by omega]; exact hbs, rfl⟩)
        · refine lv_aload_n hx hb d_K_latestOn_15 rfl (lv_at hl 0 rfl) ?_
          refine va_get (D := (dC, dI)) (C := R_K) (T := F_K) (N := 5) hx hb hT i_K hown hK hP 10 rfl rfl 1 (by decide) (hT _ k_K_15) (fun _ h9 => h9) (v := .ref (a 12)) rfl d_K_latestOn_16 ?_
          refine lv_iload hx hb d_K_latestOn_19 (lv_at hl 4 rfl) ?_
          refine x_iald hx hb hK hP 12 7 (f := (a_lf σ)) rfl rfl d_K_latestOn_21 (by omega) ?_
          refine lv_iload_n hx hb d_K_latestOn_22 rfl (lv_at hl 1 rfl) ?_
          have g9 := g_lf i
          refine x_icmp_ne (tgt := 42) hx hb d_K_latestOn_23 (by decide) (fun c23 => ?_) (fun c23 => ?_)
          · refine lv_iconst (v := nI 0) hx hb d_K_latestOn_42 (by decide) ?_
            refine lv_istore (lv' := [(6, .int (nI 0)), (0, .ref (a 10)), (1, .int (nI h)), (2, .long d), (4, .int (nI b)), (5, .int (nI i))]) hx hb d_K_latestOn_43 hl (by decide) rfl (fun ls hl => ?_)
            refine lv_iload hx hb d_K_latestOn_45 (lv_at hl 0 rfl) ?_
            refine x_if_eq (tgt := 78) hx hb d_K_latestOn_47 (by decide) (fun _ => ?_) (fun h => absurd h (by decide))
            refine x_iinc (lv' := [(5, .int (nI (i + 1))), (6, .int (nI 0)), (0, .ref (a 10)), (1, .int (nI h)), (2, .long d), (4, .int (nI b))]) hx hb d_K_latestOn_78 hl (k := 5) rfl (by decide) rfl (fun ls hl => ?_)
            refine lv_goto (tgt := 6) hx hb d_K_latestOn_81 (by decide) ?_
            exact ih6 (i + 1) _ ls (by omega) (Or.inr ⟨b, rfl, BST_same hbs (by first | exact Or.inr (Int64.not_lt.mpr c70) | exact Or.inl (fun q9 => by first | exact c23 q9.1 | exact absurd q9.2 (Int64.not_le.mpr c34)))⟩) (by omega) (lv_sub hl [2, 3, 4, 5, 0] rfl)
          · refine lv_aload_n hx hb d_K_latestOn_26 rfl (lv_at hl 0 rfl) ?_
            refine va_get (D := (dC, dI)) (C := R_K) (T := F_K) (N := 5) hx hb hT i_K hown hK hP 10 rfl rfl 3 (by decide) (hT _ k_K_22) (fun _ h9 => h9) (v := .ref (a 14)) rfl d_K_latestOn_27 ?_
            refine lv_iload hx hb d_K_latestOn_30 (lv_at hl 4 rfl) ?_
            refine x_lald hx hb hK hP 14 9 (f := (a_ld σ)) rfl rfl d_K_latestOn_32 (by omega) ?_
            refine lv_lload_n hx hb d_K_latestOn_33 rfl (lv_at hl 2 rfl) ?_
            refine x_lif_gt (tgt := 42) hx hb d_K_latestOn_34 d_K_latestOn_35 (by decide) (fun c34 => ?_) (fun c34 => ?_)
            · refine lv_iconst (v := nI 0) hx hb d_K_latestOn_42 (by decide) ?_
              refine lv_istore (lv' := [(6, .int (nI 0)), (0, .ref (a 10)), (1, .int (nI h)), (2, .long d), (4, .int (nI b)), (5, .int (nI i))]) hx hb d_K_latestOn_43 hl (by decide) rfl (fun ls hl => ?_)
              refine lv_iload hx hb d_K_latestOn_45 (lv_at hl 0 rfl) ?_
              refine x_if_eq (tgt := 78) hx hb d_K_latestOn_47 (by decide) (fun _ => ?_) (fun h => absurd h (by decide))
              refine x_iinc (lv' := [(5, .int (nI (i + 1))), (6, .int (nI 0)), (0, .ref (a 10)), (1, .int (nI h)), (2, .long d), (4, .int (nI b))]) hx hb d_K_latestOn_78 hl (k := 5) rfl (by decide) rfl (fun ls hl => ?_)
              refine lv_goto (tgt := 6) hx hb d_K_latestOn_81 (by decide) ?_
              exact ih6 (i + 1) _ ls (by omega) (Or.inr ⟨b, rfl, BST_same hbs (by first | exact Or.inr (Int64.not_lt.mpr c70) | exact Or.inl (fun q9 => by first | exact c23 q9.1 | exact absurd q9.2 (Int64.not_le.mpr c34)))⟩) (by omega) (lv_sub hl [2, 3, 4, 5, 0] rfl)
            · refine lv_iconst (v := nI 1) hx hb d_K_latestOn_38 (by decide) ?_
              refine lv_goto (tgt := 43) hx hb d_K_latestOn_39 (by decide) ?_
              refine lv_istore (lv' := [(6, .int (nI 1)), (0, .ref (a 10)), (1, .int (nI h)), (2, .long d), (4, .int (nI b)), (5, .int (nI i))]) hx hb d_K_latestOn_43 hl (by decide) rfl (fun ls hl => ?_)
              refine lv_iload hx hb d_K_latestOn_45 (lv_at hl 0 rfl) ?_
              refine x_if_eq (tgt := 78) hx hb d_K_latestOn_47 (by decide) (fun h => absurd h (by decide)) (fun _ => ?_)
              refine lv_iload hx hb d_K_latestOn_50 (lv_at hl 4 rfl) ?_
              refine lv_iconst (v := -1) hx hb d_K_latestOn_52 (by decide) ?_
              refine lv_icmp_eq (tgt := 74) hx hb d_K_latestOn_53 (by decide) (fun h9 => absurd h9 (nI_m1 (by have := hbs.1; omega))) (fun _ => ?_)
              refine lv_aload_n hx hb d_K_latestOn_56 rfl (lv_at hl 1 rfl) ?_
              refine va_get (D := (dC, dI)) (C := R_K) (T := F_K) (N := 5) hx hb hT i_K hown hK hP 10 rfl rfl 3 (by decide) (hT _ k_K_22) (fun _ h9 => h9) (v := .ref (a 14)) rfl d_K_latestOn_57 ?_
              refine lv_iload hx hb d_K_latestOn_60 (lv_at hl 5 rfl) ?_
              refine x_lald hx hb hK hP 14 9 (f := (a_ld σ)) rfl rfl d_K_latestOn_62 (by omega) ?_
              refine lv_aload_n hx hb d_K_latestOn_63 rfl (lv_at hl 1 rfl) ?_
              refine va_get (D := (dC, dI)) (C := R_K) (T := F_K) (N := 5) hx hb hT i_K hown hK hP 10 rfl rfl 3 (by decide) (hT _ k_K_22) (fun _ h9 => h9) (v := .ref (a 14)) rfl d_K_latestOn_64 ?_
              refine lv_iload hx hb d_K_latestOn_67 (lv_at hl 4 rfl) ?_
              refine x_lald hx hb hK hP 14 9 (f := (a_ld σ)) rfl rfl d_K_latestOn_69 (by have := hbs.1; omega) ?_
              refine x_lif_le (tgt := 78) hx hb d_K_latestOn_70 d_K_latestOn_71 (by decide) (fun c70 => ?_) (fun c70 => ?_)
              · refine x_iinc (lv' := [(5, .int (nI (i + 1))), (6, .int (nI 1)), (0, .ref (a 10)), (1, .int (nI h)), (2, .long d), (4, .int (nI b))]) hx hb d_K_latestOn_78 hl (k := 5) rfl (by decide) rfl (fun ls hl => ?_)
                refine lv_goto (tgt := 6) hx hb d_K_latestOn_81 (by decide) ?_
                exact ih6 (i + 1) _ ls (by omega) (Or.inr ⟨b, rfl, BST_same hbs (by first | exact Or.inr (Int64.not_lt.mpr c70) | exact Or.inl (fun q9 => by first | exact c23 q9.1 | exact absurd q9.2 (Int64.not_le.mpr c34)))⟩) (by omega) (lv_sub hl [2, 3, 4, 5, 0] rfl)
              · refine lv_iload hx hb d_K_latestOn_74 (lv_at hl 5 rfl) ?_
                refine lv_istore (lv' := [(4, .int (nI i)), (6, .int (nI 1)), (0, .ref (a 10)), (1, .int (nI h)), (2, .long d), (5, .int (nI i))]) hx hb d_K_latestOn_76 hl (by decide) rfl (fun ls hl => ?_)
                refine x_iinc (lv' := [(5, .int (nI (i + 1))), (4, .int (nI i)), (6, .int (nI 1)), (0, .ref (a 10)), (1, .int (nI h)), (2, .long d)]) hx hb d_K_latestOn_78 hl (k := 5) rfl (by decide) rfl (fun ls hl => ?_)
                refine lv_goto (tgt := 6) hx hb d_K_latestOn_81 (by decide) ?_
                exact ih6 (i + 1) _ ls (by omega) (Or.inr ⟨i, rfl, by first | exact BST_new hno (by assumption) (Int64.not_lt.mp c34) | exact BST_more hbs (by assumption) (Int64.not_lt.mp c34) (Int64.not_le.mp c70)⟩) (by omega) (lv_sub hl [3, 4, 5, 1, 0] rfl)
  exact hloop6 _ 0 _ ls (by omega) (Or.inl ⟨rfl, fun j hj => absurd hj (Nat.not_lt_zero _)⟩) (Nat.lt_succ_self _) (lv_sub hl [2, 3, 4, 1, 0] rfl)

set_option maxRecDepth 100000 in
set_option maxHeartbeats 4000000 in
theorem c_K_putLater (l : Launch) (dC : Nat → ClassId) (dI : Nat → Nat → Nat) (a : Nat → Nat) (t : Nat → ClassId) (σ : SA) (sz : Nat) (k f h : Nat) (d : Int64) (hk : k < 512) : Met l y_K_putLater (wS y_K_putLater b_K_putLater 6 none) (rD 0) (va_Pc [.ref (a 10), .int (nI k), .int (nI f), .int (nI h), .long d] (MB (dC, dI) (yA t) (wA a t σ) sz)) (va_Qv (fun u : SA => u = au_ld (au_lt (au_lf σ (updN (a_lf σ) k f)) (updN (a_lt σ) k h)) (vp_updL (a_ld σ) k d)) (fun u => ME (dC, dI) (yA t) (va_A (wA a t σ) sz) (wA a t u)) (va_A (wA a t σ) sz)) 0 0 (va_A (wA a t σ) sz) := by
  refine x_enter (by decide) (Nat.le_of_ble_eq_true rfl) ?_
  intro p e s m below meth c ls hx hb hr hml hT hown hlk hnm hl hB
  obtain ⟨rfl, hP, hK, hN, hD0⟩ := hB
  have hD := hD0.self (sz := s.heap.size)
  generalize hAe : va_A (wA a t σ) s.heap.size = A at hD ⊢
  have hA : ∀ q : Nat, s.heap.size ≤ q → A q := fun q h => by rw [← hAe]; exact Or.inr h
  have hS : va_S A s.heap s.heap [] := va_S.rf
  have hP : va_P (dC, dI) classes (wA a t σ) s.heap := hP
  have hl : lv_has ls 6 [(0, .ref (a 10)), (1, .int (nI k)), (2, .int (nI f)), (3, .int (nI h)), (4, .long d)] := hl
  have hown : s.vm.findClass R_K = some m.cls := hown
  refine lv_aload_n hx hb d_K_putLater_0 rfl (lv_at hl 0 rfl) ?_
  refine va_get (D := (dC, dI)) (C := R_K) (T := F_K) (N := 5) hx hb hT i_K hown hK hP 10 rfl rfl 1 (by decide) (hT _ k_K_15) (fun _ h9 => h9) (v := .ref (a 12)) rfl d_K_putLater_1 ?_
  refine lv_iload_n hx hb d_K_putLater_4 rfl (lv_at hl 1 rfl) ?_
  refine lv_iload_n hx hb d_K_putLater_5 rfl (lv_at hl 2 rfl) ?_
  refine x_iast hx hb hK hP hD hS 12 7 (f := (a_lf σ)) rfl rfl d_K_putLater_6 (by omega) (fun H locs hP hD hS => ?_)
  have hP : va_P (dC, dI) classes (wA a t (au_lf σ (updN (a_lf σ) (k) (f)))) H := hP
  have hD : va_D A (wA a t (au_lf σ (updN (a_lf σ) (k) (f)))) := hD
  refine lv_aload_n hx hb d_K_putLater_7 rfl (lv_at hl 0 rfl) ?_
  refine va_get (D := (dC, dI)) (C := R_K) (T := F_K) (N := 5) hx hb hT i_K hown hK hP 10 rfl rfl 2 (by decide) (hT _ k_K_19) (fun _ h9 => h9) (v := .ref (a 13)) rfl d_K_putLater_8 ?_
  refine lv_iload_n hx hb d_K_putLater_11 rfl (lv_at hl 1 rfl) ?_
  refine lv_iload_n hx hb d_K_putLater_12 rfl (lv_at hl 3 rfl) ?_
  refine x_iast hx hb hK hP hD hS 13 8 (f := (a_lt σ)) rfl rfl d_K_putLater_13 (by omega) (fun H locs hP hD hS => ?_)
  have hP : va_P (dC, dI) classes (wA a t (au_lt (au_lf σ (updN (a_lf σ) (k) (f))) (updN (a_lt σ) (k) (h)))) H := hP
  have hD : va_D A (wA a t (au_lt (au_lf σ (updN (a_lf σ) (k) (f))) (updN (a_lt σ) (k) (h)))) := hD
  refine lv_aload_n hx hb d_K_putLater_14 rfl (lv_at hl 0 rfl) ?_
  refine va_get (D := (dC, dI)) (C := R_K) (T := F_K) (N := 5) hx hb hT i_K hown hK hP 10 rfl rfl 3 (by decide) (hT _ k_K_22) (fun _ h9 => h9) (v := .ref (a 14)) rfl d_K_putLater_15 ?_
  refine lv_iload_n hx hb d_K_putLater_18 rfl (lv_at hl 1 rfl) ?_
  refine lv_lload hx hb d_K_putLater_19 (lv_at hl 4 rfl) ?_
  refine x_last hx hb hK hP hD hS 14 9 (f := (a_ld σ)) rfl rfl d_K_putLater_21 (by omega) (fun H locs hP hD hS => ?_)
  have hP : va_P (dC, dI) classes (wA a t (au_ld (au_lt (au_lf σ (updN (a_lf σ) (k) (f))) (updN (a_lt σ) (k) (h))) (vp_updL (a_ld σ) (k) (d)))) H := hP
  have hD : va_D A (wA a t (au_ld (au_lt (au_lf σ (updN (a_lf σ) (k) (f))) (updN (a_lt σ) (k) (h))) (vp_updL (a_ld σ) (k) (d)))) := hD
  exact x_mv (wl := wA a t) (au_ld (au_lt (au_lf σ (updN (a_lf σ) (k) (f))) (updN (a_lt σ) (k) (h))) (vp_updL (a_ld σ) (k) (d))) hx hb hr hlk hK hP hD hS d_K_putLater_22 rfl

set_option maxRecDepth 100000 in
set_option maxHeartbeats 4000000 in
theorem c_K_add (l : Launch) (dC : Nat → ClassId) (dI : Nat → Nat → Nat) (a : Nat → Nat) (t : Nat → ClassId) (σ : SA) (sz : Nat) (hG : GA σ) (q f h : Nat) (d : Int64) (hq : q < 4) (hf : f ≤ 60) (hh : h ≤ 60) (hn : a_lc σ < 512) : Met l y_K_add (wS y_K_add b_K_add 6 none) (rD 1) (va_Pc [.ref (a 10), .int (nI q), .int (nI f), .int (nI h), .long d] (MB (dC, dI) (yA t) (wA a t σ) sz)) (va_Qv (fun u : SA => u = if q = 3 then au_lc (au_ld (au_lt (au_lf (au_tg σ (vp_updL (a_tg σ) (q * 61 + f) (a_tg σ (q * 61 + f) ||| sg h))) (updN (a_lf σ) (a_lc σ) f)) (updN (a_lt σ) (a_lc σ) h)) (vp_updL (a_ld σ) (a_lc σ) d)) (a_lc σ + 1) else au_tg σ (vp_updL (a_tg σ) (q * 61 + f) (a_tg σ (q * 61 + f) ||| sg h))) (fun u => ME (dC, dI) (yA t) (va_A (wA a t σ) sz) (wA a t u)) (va_A (wA a t σ) sz)) 0 0 (va_A (wA a t σ) sz) := by
  refine x_enter (by decide) (Nat.le_of_ble_eq_true rfl) ?_
  intro p e s m below meth c ls hx hb hr hml hT hown hlk hnm hl hB
  obtain ⟨rfl, hP, hK, hN, hD0⟩ := hB
  have hD := hD0.self (sz := s.heap.size)
  generalize hAe : va_A (wA a t σ) s.heap.size = A at hD ⊢
  have hA : ∀ q : Nat, s.heap.size ≤ q → A q := fun q h => by rw [← hAe]; exact Or.inr h
  have hS : va_S A s.heap s.heap [] := va_S.rf
  have hP : va_P (dC, dI) classes (wA a t σ) s.heap := hP
  have hl : lv_has ls 6 [(0, .ref (a 10)), (1, .int (nI q)), (2, .int (nI f)), (3, .int (nI h)), (4, .long d)] := hl
  have hown : s.vm.findClass R_K = some m.cls := hown
  have hG2 := hG
  obtain ⟨g_sn, g_sg, g_tn, g_tx, g_kd, g_lv, g_le, g_ln, g_hn, g_lf, g_lt, g_lc, g_rh, g_rn, g_ws, g_wn⟩ := hG
  refine lv_aload_n hx hb d_K_add_0 rfl (lv_at hl 0 rfl) ?_
  refine x_ci (x_runV ⟨hx, hb, hml, hown, hT⟩ (c_K_isFull l dC dI a t σ hG2) f_K_isFull k_K_41 blR (va_recv hK hP (ci := 3) (q0 := 10) rfl rfl) (x_bR hK hP hN) hl.1 d_K_add_1 rfl (lv_room (Nat.le_of_ble_eq_true rfl)) ⟨Nat.le_of_ble_eq_true rfl, Nat.le_of_ble_eq_true rfl⟩ ⟨rfl, rfl⟩ ⟨Nat.le_refl 0, Nat.le_refl 0⟩ rfl) (fun r1 q1 => ?_)
  rcases q1 with ⟨_, h9⟩ | ⟨rfl, _⟩
  · exact absurd h9 (by omega)
  refine x_if_eq (tgt := 8) hx hb d_K_add_4 (by decide) (fun _ => ?_) (fun h => absurd h (by decide))
  refine lv_aload_n hx hb d_K_add_8 rfl (lv_at hl 0 rfl) ?_
  refine va_get (D := (dC, dI)) (C := R_K) (T := F_K) (N := 5) hx hb hT i_K hown hK hP 10 rfl rfl 0 (by decide) (hT _ k_K_9) (fun _ h9 => h9) (v := .ref (a 11)) rfl d_K_add_9 ?_
  refine lv_iload_n hx hb d_K_add_12 rfl (lv_at hl 1 rfl) ?_
  refine lv_bipush (v := nI 61) hx hb d_K_add_13 (by decide) ?_
  refine x_imul hx hb d_K_add_15 ?_
  refine lv_iload_n hx hb d_K_add_16 rfl (lv_at hl 2 rfl) ?_
  refine x_iadd hx hb d_K_add_17 ?_
  refine lv_dup2_11 hx hb d_K_add_18 rfl rfl ?_
  refine x_lald hx hb hK hP 11 6 (f := (a_tg σ)) rfl rfl d_K_add_19 (by omega) ?_
  refine lv_iload_n hx hb d_K_add_20 rfl (lv_at hl 3 rfl) ?_
  refine x_cl (x_runSN ⟨hx, hb, hml, hown, hT⟩ hN (c_A_setOf l h (by omega)) f_A_setOf k_K_37 blT (x_bT hN) hl.1 d_K_add_21 rfl (lv_room (Nat.le_of_ble_eq_true rfl)) ⟨Nat.le_of_ble_eq_true rfl, Nat.le_of_ble_eq_true rfl⟩ ⟨rfl, rfl⟩ ⟨Nat.le_refl 0, Nat.le_refl 0⟩ rfl) (fun r21 q21 => ?_)
  subst q21
  refine lv_lor hx hb d_K_add_24 ?_
  refine x_last hx hb hK hP hD hS 11 6 (f := (a_tg σ)) rfl rfl d_K_add_25 (by omega) (fun H locs hP hD hS => ?_)
  have hP : va_P (dC, dI) classes (wA a t (au_tg σ (vp_updL (a_tg σ) ((q * 61) + f) (((a_tg σ) ((q * 61) + f)) ||| (sg h))))) H := hP
  have hD : va_D A (wA a t (au_tg σ (vp_updL (a_tg σ) ((q * 61) + f) (((a_tg σ) ((q * 61) + f)) ||| (sg h))))) := hD
  refine lv_iload_n hx hb d_K_add_26 rfl (lv_at hl 1 rfl) ?_
  refine lv_iconst (v := nI 3) hx hb d_K_add_27 (by decide) ?_
  refine x_icmp_ne (tgt := 53) hx hb d_K_add_28 (by decide) (fun c28 => ?_) (fun c28 => ?_)
  · exact x_mv (wl := wA a t) (au_tg σ (vp_updL (a_tg σ) ((q * 61) + f) (((a_tg σ) ((q * 61) + f)) ||| (sg h)))) hx hb hr hlk hK hP hD hS d_K_add_53 (by rw [if_neg (by omega)])
  · refine lv_aload_n hx hb d_K_add_31 rfl (lv_at hl 0 rfl) ?_
    refine lv_aload_n hx hb d_K_add_32 rfl (lv_at hl 0 rfl) ?_
    refine va_get (D := (dC, dI)) (C := R_K) (T := F_K) (N := 5) hx hb hT i_K hown hK hP 10 rfl rfl 4 (by decide) (hT _ k_K_25) (fun _ h9 => h9) (v := .int (nI (a_lc σ))) rfl d_K_add_33 ?_
    refine lv_iload_n hx hb d_K_add_36 rfl (lv_at hl 2 rfl) ?_
    refine lv_iload_n hx hb d_K_add_37 rfl (lv_at hl 3 rfl) ?_
    refine lv_lload hx hb d_K_add_38 (lv_at hl 4 rfl) ?_
    refine x_cMv (wl := wA a t) (x_runV ⟨hx, hb, hml, hown, hT⟩ (c_K_putLater l dC dI a t (au_tg σ (vp_updL (a_tg σ) ((q * 61) + f) (((a_tg σ) ((q * 61) + f)) ||| (sg h)))) H.size (a_lc σ) f h d (by omega)) f_K_putLater k_K_45 blM (va_recv hK hP (ci := 3) (q0 := 10) rfl rfl) (x_bM hK hP hN hD) hl.1 d_K_add_40 rfl (lv_room (Nat.le_of_ble_eq_true rfl)) ⟨Nat.le_of_ble_eq_true rfl, Nat.le_of_ble_eq_true rfl⟩ ⟨rfl, rfl⟩ ⟨Nat.le_refl 0, Nat.le_refl 0⟩ rfl) hD hS hA (fun u40 H locs q40 hP hD hS => ?_)
    subst q40
    have hP : va_P (dC, dI) classes (wA a t (au_ld (au_lt (au_lf (au_tg σ (vp_updL (a_tg σ) (q * 61 + f) (a_tg σ (q * 61 + f) ||| sg h))) (updN (a_lf σ) (a_lc σ) f)) (updN (a_lt σ) (a_lc σ) h)) (vp_updL (a_ld σ) (a_lc σ) d))) H := hP
    have hD : va_D A (wA a t (au_ld (au_lt (au_lf (au_tg σ (vp_updL (a_tg σ) (q * 61 + f) (a_tg σ (q * 61 + f) ||| sg h))) (updN (a_lf σ) (a_lc σ) f)) (updN (a_lt σ) (a_lc σ) h)) (vp_updL (a_ld σ) (a_lc σ) d))) := hD
    refine lv_aload_n hx hb d_K_add_43 rfl (lv_at hl 0 rfl) ?_
    refine lv_dup hx hb d_K_add_44 rfl ?_
    refine va_get (D := (dC, dI)) (C := R_K) (T := F_K) (N := 5) hx hb hT i_K hown hK hP 10 rfl rfl 4 (by decide) (hT _ k_K_25) (fun _ h9 => h9) (v := .int (nI (a_lc σ))) rfl d_K_add_45 ?_
    refine lv_iconst (v := nI 1) hx hb d_K_add_48 (by decide) ?_
    refine x_iadd hx hb d_K_add_49 ?_
    refine va_put (D := (dC, dI)) (v := .int (nI ((a_lc σ) + 1))) (ty := .int) (C := R_K) (T := F_K) (N := 5) hx hb hT i_K ft_K ft_K_ok n_K hown hK hP hD hS 10 rfl rfl 4 (by decide) (hT _ k_K_25) (fun _ h9 => h9) rfl (by decide +kernel) rfl rfl (Nat.le_of_ble_eq_true rfl) d_K_add_50 (fun H locs hP hD hS => ?_)
    have hP : va_P (dC, dI) classes (wA a t (au_lc (au_ld (au_lt (au_lf (au_tg σ (vp_updL (a_tg σ) (q * 61 + f) (a_tg σ (q * 61 + f) ||| sg h))) (updN (a_lf σ) (a_lc σ) f)) (updN (a_lt σ) (a_lc σ) h)) (vp_updL (a_ld σ) (a_lc σ) d)) ((a_lc σ) + 1))) H := hP
    have hD : va_D A (wA a t (au_lc (au_ld (au_lt (au_lf (au_tg σ (vp_updL (a_tg σ) (q * 61 + f) (a_tg σ (q * 61 + f) ||| sg h))) (updN (a_lf σ) (a_lc σ) f)) (updN (a_lt σ) (a_lc σ) h)) (vp_updL (a_ld σ) (a_lc σ) d)) ((a_lc σ) + 1))) := hD
    exact x_mv (wl := wA a t) (au_lc (au_ld (au_lt (au_lf (au_tg σ (vp_updL (a_tg σ) (q * 61 + f) (a_tg σ (q * 61 + f) ||| sg h))) (updN (a_lf σ) (a_lc σ) f)) (updN (a_lt σ) (a_lc σ) h)) (vp_updL (a_ld σ) (a_lc σ) d)) ((a_lc σ) + 1)) hx hb hr hlk hK hP hD hS d_K_add_53 (by rw [if_pos (by omega)])

/-- the LATER links as a list -/
def lst (f g : Nat → Nat) (d : Nat → Int64) : Nat → List (Nat × Nat × Int64)
  | 0 => []
  | n + 1 => lst f g d n ++ [(f n, g n, d n)]
theorem lst_len (f g : Nat → Nat) (d : Nat → Int64) : ∀ n, (lst f g d n).length = n := by
  intro n
  induction n with
  | zero => rfl
  | succ n ih => simp [lst, ih]
theorem lst_congr {f g f' g' : Nat → Nat} {d d' : Nat → Int64} : ∀ {n : Nat}, (∀ j, j < n → f j = f' j ∧ g j = g' j ∧ d j = d' j) → lst f g d n = lst f' g' d' n := by
  intro n
  induction n with
  | zero => intro _; rfl
  | succ n ih =>
    intro h
    obtain ⟨h1, h2, h3⟩ := h n (Nat.lt_succ_self n)
    simp only [lst]
    rw [ih (fun j hj => h j (Nat.lt_succ_of_lt hj)), h1, h2, h3]
def keepL (h : Nat) (q : Nat × Nat × Int64) : Bool := decide (q.1 ≠ h) && decide (q.2.1 ≠ h)
theorem lst_keep {f g F G : Nat → Nat} {d E : Nat → Int64} {h i k : Nat} (hl : lst F G E k = (lst f g d i).filter (keepL h)) (hk : k ≤ i) (hr : F i = f i ∧ G i = g i ∧ E i = d i) (h1 : ¬ F i = h) (h2 : ¬ G i = h) : lst (updN F k (F i)) (updN G k (G i)) (vp_updL E k (E i)) (k + 1) = (lst f g d (i + 1)).filter (keepL h) := by
  simp only [lst, List.filter_append]
  rw [← hl, updN_s, updN_s, updL_s, hr.1, hr.2.1, hr.2.2]
  rw [hr.1] at h1
  rw [hr.2.1] at h2
  have e : lst (updN F k (f i)) (updN G k (g i)) (vp_updL E k (d i)) k = lst F G E k := lst_congr (fun j hj => ⟨updN_n (by omega), updN_n (by omega), updL_n (by omega)⟩)
  rw [e]
  simp [keepL, h1, h2]
theorem lst_drop {f g F G : Nat → Nat} {d E : Nat → Int64} {h i k : Nat} (hl : lst F G E k = (lst f g d i).filter (keepL h)) (hr : F i = f i ∧ G i = g i ∧ E i = d i) (h1 : F i = h ∨ G i = h) : lst F G E k = (lst f g d (i + 1)).filter (keepL h) := by
  simp only [lst, List.filter_append]
  rw [← hl]
  rw [hr.1, hr.2.1] at h1
  rcases h1 with h1 | h1 <;> simp [keepL, h1]
set_option maxRecDepth 100000 in
set_option maxHeartbeats 4000000 in
theorem c_K_removeLaterOf (l : Launch) (dC : Nat → ClassId) (dI : Nat → Nat → Nat) (a : Nat → Nat) (t : Nat → ClassId) (σ : SA) (sz : Nat) (hG : GA σ) (h : Nat) (hh : h ≤ 60) : Met l y_K_removeLaterOf (wS y_K_removeLaterOf b_K_removeLaterOf 4 none) (rD 1) (va_Pc [.ref (a 10), .int (nI h)] (MB (dC, dI) (yA t) (wA a t σ) sz)) (va_Qv (fun u : SA => ∃ (F G : Nat → Nat) (E : Nat → Int64) (k : Nat), u = au_lc (au_ld (au_lt (au_lf σ F) G) E) k ∧ k ≤ a_lc σ ∧ (∀ j, F j ≤ 60) ∧ (∀ j, G j ≤ 60) ∧ lst F G E k = (lst (a_lf σ) (a_lt σ) (a_ld σ) (a_lc σ)).filter (keepL h)) (fun u => ME (dC, dI) (yA t) (va_A (wA a t σ) sz) (wA a t u)) (va_A (wA a t σ) sz)) 0 0 (va_A (wA a t σ) sz) := by
  refine x_enter (by decide) (Nat.le_of_ble_eq_true rfl) ?_
  intro p e s m below meth c ls hx hb hr hml hT hown hlk hnm hl hB
  obtain ⟨rfl, hP, hK, hN, hD0⟩ := hB
  have hD := hD0.self (sz := s.heap.size)
  generalize hAe : va_A (wA a t σ) s.heap.size = A at hD ⊢
  have hA : ∀ q : Nat, s.heap.size ≤ q → A q := fun q h => by rw [← hAe]; exact Or.inr h
  have hS : va_S A s.heap s.heap [] := va_S.rf
  have hP : va_P (dC, dI) classes (wA a t σ) s.heap := hP
  have hl : lv_has ls 4 [(0, .ref (a 10)), (1, .int (nI h))] := hl
  have hown : s.vm.findClass R_K = some m.cls := hown
  have hG2 := hG
  obtain ⟨g_sn, g_sg, g_tn, g_tx, g_kd, g_lv, g_le, g_ln, g_hn, g_lf, g_lt, g_lc, g_rh, g_rn, g_ws, g_wn⟩ := hG
  refine lv_iconst (v := nI 0) hx hb d_K_removeLaterOf_0 (by decide) ?_
  refine lv_istore_n (lv' := [(2, .int (nI 0)), (0, .ref (a 10)), (1, .int (nI h))]) hx hb d_K_removeLaterOf_1 rfl hl (by decide) rfl (fun ls hl => ?_)
  refine lv_iconst (v := nI 0) hx hb d_K_removeLaterOf_2 (by decide) ?_
  refine lv_istore_n (lv' := [(3, .int (nI 0)), (2, .int (nI 0)), (0, .ref (a 10)), (1, .int (nI h))]) hx hb d_K_removeLaterOf_3 rfl hl (by decide) rfl (fun ls hl => ?_)
  have hloop4 : ∀ (n4 : Nat) (i : Nat) (k : Nat) (F : Nat → Nat) (G : Nat → Nat) (E : Nat → Int64) (H : Heap) (locs : List Loc) (ls : Array Slot), i ≤ a_lc σ → k ≤ i → (∀ j, F j ≤ 60) → (∀ j, G j ≤ 60) → (∀ j, i ≤ j → F j = a_lf σ j ∧ G j = a_lt σ j ∧ E j = a_ld σ j) → lst F G E k = (lst (a_lf σ) (a_lt σ) (a_ld σ) i).filter (keepL h) → a_lc σ + 1 - i < n4 → va_P (dC, dI) classes (wA a t (au_ld (au_lt (au_lf σ (F)) (G)) (E))) H → va_D A (wA a t (au_ld (au_lt (au_lf σ (F)) (G)) (E))) → va_S A s.heap H locs → lv_has ls 4 [(0, .ref (a 10)), (1, .int (nI h)), (2, .int (nI k)), (3, .int (nI i))] → W p l e (rD 1) s m ([.ref (a 10), .int (nI h)] : List Value).toArray below meth c H locs 0 0 (MQ below (va_Qv (fun u : SA => ∃ (F G : Nat → Nat) (E : Nat → Int64) (k : Nat), u = au_lc (au_ld (au_lt (au_lf σ F) G) E) k ∧ k ≤ a_lc σ ∧ (∀ j, F j ≤ 60) ∧ (∀ j, G j ≤ 60) ∧ lst F G E k = (lst (a_lf σ) (a_lt σ) (a_ld σ) (a_lc σ)).filter (keepL h)) (fun u => ME (dC, dI) (yA t) A (wA a t u)) A) ([.ref (a 10), .int (nI h)] : List Value).toArray s 0 0 A) (F0 m 4 ls []) := by
    intro n4
    induction n4 with
    | zero => intro i k F G E H locs ls _ _ _ _ _ _ h9; exact absurd h9 (Nat.not_lt_zero _)
    | succ n4 ih4 =>
      intro i k F G E H locs ls hi hk hF hG9 hrest hlst hmu4 hP hD hS hl
      refine lv_iload_n hx hb d_K_removeLaterOf_4 rfl (lv_at hl 3 rfl) ?_
      refine lv_aload_n hx hb d_K_removeLaterOf_5 rfl (lv_at hl 0 rfl) ?_
      refine va_get (D := (dC, dI)) (C := R_K) (T := F_K) (N := 5) hx hb hT i_K hown hK hP 10 rfl rfl 4 (by decide) (hT _ k_K_25) (fun _ h9 => h9) (v := .int (nI (a_lc σ))) rfl d_K_removeLaterOf_6 ?_
      refine x_icmp_ge (tgt := 64) hx hb d_K_removeLaterOf_9 (by decide) (fun c9 => ?_) (fun c9 => ?_)
      · refine lv_aload_n hx hb d_K_removeLaterOf_64 rfl (lv_at hl 0 rfl) ?_
        refine lv_iload_n hx hb d_K_removeLaterOf_65 rfl (lv_at hl 2 rfl) ?_
        refine va_put (D := (dC, dI)) (v := .int (nI k)) (ty := .int) (C := R_K) (T := F_K) (N := 5) hx hb hT i_K ft_K ft_K_ok n_K hown hK hP hD hS 10 rfl rfl 4 (by decide) (hT _ k_K_25) (fun _ h9 => h9) rfl (by decide +kernel) rfl rfl (Nat.le_of_ble_eq_true rfl) d_K_removeLaterOf_66 (fun H locs hP hD hS => ?_)
        have hP : va_P (dC, dI) classes (wA a t (au_lc (au_ld (au_lt (au_lf σ (F)) (G)) (E)) (k))) H := hP
        have hD : va_D A (wA a t (au_lc (au_ld (au_lt (au_lf σ (F)) (G)) (E)) (k))) := hD
        exact x_mv (wl := wA a t) (au_lc (au_ld (au_lt (au_lf σ (F)) (G)) (E)) (k)) hx hb hr hlk hK hP hD hS d_K_removeLaterOf_69 ⟨F, G, E, k, rfl, by omega, hF, hG9, by rw [show a_lc σ = i by omega]; exact hlst⟩
      · refine lv_aload_n hx hb d_K_removeLaterOf_12 rfl (lv_at hl 0 rfl) ?_
        refine va_get (D := (dC, dI)) (C := R_K) (T := F_K) (N := 5) hx hb hT i_K hown hK hP 10 rfl rfl 1 (by decide) (hT _ k_K_15) (fun _ h9 => h9) (v := .ref (a 12)) rfl d_K_removeLaterOf_13 ?_
        refine lv_iload_n hx hb d_K_removeLaterOf_16 rfl (lv_at hl 3 rfl) ?_
        refine x_iald hx hb hK hP 12 7 (f := F) rfl rfl d_K_removeLaterOf_17 (by omega) ?_
        refine lv_iload_n hx hb d_K_removeLaterOf_18 rfl (lv_at hl 1 rfl) ?_
        have g9 := hF i
        refine x_icmp_eq (tgt := 58) hx hb d_K_removeLaterOf_19 (by decide) (fun c19 => ?_) (fun c19 => ?_)
        · refine x_iinc (lv' := [(3, .int (nI (i + 1))), (0, .ref (a 10)), (1, .int (nI h)), (2, .int (nI k))]) hx hb d_K_removeLaterOf_58 hl (k := 3) rfl (by decide) rfl (fun ls hl => ?_)
          refine lv_goto (tgt := 4) hx hb d_K_removeLaterOf_61 (by decide) ?_
          exact ih4 (i + 1) k F G E H locs ls (by omega) (by omega) hF hG9 (fun j hj => hrest j (by omega)) (lst_drop hlst (hrest i (Nat.le_refl i)) (by first | exact Or.inl (by assumption) | exact Or.inr (by assumption))) (by omega) hP hD hS (lv_sub hl [1, 2, 3, 0] rfl)
        · refine lv_aload_n hx hb d_K_removeLaterOf_22 rfl (lv_at hl 0 rfl) ?_
          refine va_get (D := (dC, dI)) (C := R_K) (T := F_K) (N := 5) hx hb hT i_K hown hK hP 10 rfl rfl 2 (by decide) (hT _ k_K_19) (fun _ h9 => h9) (v := .ref (a 13)) rfl d_K_removeLaterOf_23 ?_
          refine lv_iload_n hx hb d_K_removeLaterOf_26 rfl (lv_at hl 3 rfl) ?_
          refine x_iald hx hb hK hP 13 8 (f := G) rfl rfl d_K_removeLaterOf_27 (by omega) ?_
          refine lv_iload_n hx hb d_K_removeLaterOf_28 rfl (lv_at hl 1 rfl) ?_
          have g8 := hG9 i
          refine x_icmp_eq (tgt := 58) hx hb d_K_removeLaterOf_29 (by decide) (fun c29 => ?_) (fun c29 => ?_)
          · refine x_iinc (lv' := [(3, .int (nI (i + 1))), (0, .ref (a 10)), (1, .int (nI h)), (2, .int (nI k))]) hx hb d_K_removeLaterOf_58 hl (k := 3) rfl (by decide) rfl (fun ls hl => ?_)
            refine lv_goto (tgt := 4) hx hb d_K_removeLaterOf_61 (by decide) ?_
            exact ih4 (i + 1) k F G E H locs ls (by omega) (by omega) hF hG9 (fun j hj => hrest j (by omega)) (lst_drop hlst (hrest i (Nat.le_refl i)) (by first | exact Or.inl (by assumption) | exact Or.inr (by assumption))) (by omega) hP hD hS (lv_sub hl [1, 2, 3, 0] rfl)
          · refine lv_aload_n hx hb d_K_removeLaterOf_32 rfl (lv_at hl 0 rfl) ?_
            refine lv_iload_n hx hb d_K_removeLaterOf_33 rfl (lv_at hl 2 rfl) ?_
            refine lv_aload_n hx hb d_K_removeLaterOf_34 rfl (lv_at hl 0 rfl) ?_
            refine va_get (D := (dC, dI)) (C := R_K) (T := F_K) (N := 5) hx hb hT i_K hown hK hP 10 rfl rfl 1 (by decide) (hT _ k_K_15) (fun _ h9 => h9) (v := .ref (a 12)) rfl d_K_removeLaterOf_35 ?_
            refine lv_iload_n hx hb d_K_removeLaterOf_38 rfl (lv_at hl 3 rfl) ?_
            refine x_iald hx hb hK hP 12 7 (f := F) rfl rfl d_K_removeLaterOf_39 (by omega) ?_
            refine lv_aload_n hx hb d_K_removeLaterOf_40 rfl (lv_at hl 0 rfl) ?_
            refine va_get (D := (dC, dI)) (C := R_K) (T := F_K) (N := 5) hx hb hT i_K hown hK hP 10 rfl rfl 2 (by decide) (hT _ k_K_19) (fun _ h9 => h9) (v := .ref (a 13)) rfl d_K_removeLaterOf_41 ?_
            refine lv_iload_n hx hb d_K_removeLaterOf_44 rfl (lv_at hl 3 rfl) ?_
            refine x_iald hx hb hK hP 13 8 (f := G) rfl rfl d_K_removeLaterOf_45 (by omega) ?_
            refine lv_aload_n hx hb d_K_removeLaterOf_46 rfl (lv_at hl 0 rfl) ?_
            refine va_get (D := (dC, dI)) (C := R_K) (T := F_K) (N := 5) hx hb hT i_K hown hK hP 10 rfl rfl 3 (by decide) (hT _ k_K_22) (fun _ h9 => h9) (v := .ref (a 14)) rfl d_K_removeLaterOf_47 ?_
            refine lv_iload_n hx hb d_K_removeLaterOf_50 rfl (lv_at hl 3 rfl) ?_
            refine x_lald hx hb hK hP 14 9 (f := E) rfl rfl d_K_removeLaterOf_51 (by omega) ?_
            refine x_cMv (wl := wA a t) (x_runV ⟨hx, hb, hml, hown, hT⟩ (c_K_putLater l dC dI a t (au_ld (au_lt (au_lf σ (F)) (G)) (E)) H.size k (F i) (G i) (E i) (by omega)) f_K_putLater k_K_45 blM (va_recv hK hP (ci := 3) (q0 := 10) rfl rfl) (x_bM hK hP hN hD) hl.1 d_K_removeLaterOf_52 rfl (lv_room (Nat.le_of_ble_eq_true rfl)) ⟨Nat.le_of_ble_eq_true rfl, Nat.le_of_ble_eq_true rfl⟩ ⟨rfl, rfl⟩ ⟨Nat.le_refl 0, Nat.le_refl 0⟩ rfl) hD hS hA (fun u52 H locs q52 hP hD hS => ?_)
            subst q52
            have hP : va_P (dC, dI) classes (wA a t (au_ld (au_lt (au_lf σ (updN F k (F i))) (updN G k (G i))) (vp_updL E k (E i)))) H := hP
            have hD : va_D A (wA a t (au_ld (au_lt (au_lf σ (updN F k (F i))) (updN G k (G i))) (vp_updL E k (E i)))) := hD
            refine x_iinc (lv' := [(2, .int (nI (k + 1))), (0, .ref (a 10)), (1, .int (nI h)), (3, .int (nI i))]) hx hb d_K_removeLaterOf_55 hl (k := 2) rfl (by decide) rfl (fun ls hl => ?_)
            refine x_iinc (lv' := [(3, .int (nI (i + 1))), (2, .int (nI (k + 1))), (0, .ref (a 10)), (1, .int (nI h))]) hx hb d_K_removeLaterOf_58 hl (k := 3) rfl (by decide) rfl (fun ls hl => ?_)
            refine lv_goto (tgt := 4) hx hb d_K_removeLaterOf_61 (by decide) ?_
            exact ih4 (i + 1) (k + 1) _ _ _ H locs ls (by omega) (by omega) (updN_le hF (hF i)) (updN_le hG9 (hG9 i)) (fun j hj => by rw [updN_n (by omega), updN_n (by omega), updL_n (by omega)]; exact hrest j (by omega)) (lst_keep hlst hk (hrest i (Nat.le_refl i)) c19 c29) (by omega) hP hD hS (lv_sub hl [2, 3, 1, 0] rfl)
  exact hloop4 _ 0 0 (a_lf σ) (a_lt σ) (a_ld σ) _ _ ls (by omega) (by omega) g_lf g_lt (fun j _ => ⟨rfl, rfl, rfl⟩) rfl (Nat.lt_succ_self _) hP hD hS (lv_sub hl [2, 3, 1, 0] rfl)
end
section
def clrT (tg : Nat → Int64) (h q f : Nat) : Int64 := if f = h then 0 else tg (q * 61 + f) &&& (sg h ^^^ (-1))
theorem b6_0and (x : Int64) : 0 &&& x = 0 := b6_ext (fun j _ => by rw [b6_and, b6_0]; rfl)
theorem rm_step {tg T2 : Nat → Int64} {h q f : Nat} (hT : ∀ q' f', q' < 4 → 1 ≤ f' → f' ≤ 60 → T2 (q' * 61 + f') = if q' < q ∨ (q' = q ∧ f' < f) then clrT tg h q' f' else if q' = q ∧ f' = h then 0 else tg (q' * 61 + f')) (h1 : 1 ≤ f) (h2 : f ≤ 60) (hq : q < 4) : ∀ q' f', q' < 4 → 1 ≤ f' → f' ≤ 60 → vp_updL T2 (q * 61 + f) (T2 (q * 61 + f) &&& (sg h ^^^ (-1))) (q' * 61 + f') = if q' < q ∨ (q' = q ∧ f' < f + 1) then clrT tg h q' f' else if q' = q ∧ f' = h then 0 else tg (q' * 61 + f') := by
  intro q' f' a1 a2 a3
  by_cases e : q' = q ∧ f' = f
  · obtain ⟨rfl, rfl⟩ := e
    rw [updL_s, if_pos (by omega), hT q' f' a1 a2 a3, if_neg (by omega)]
    unfold clrT
    by_cases e2 : f' = h
    · rw [if_pos ⟨rfl, e2⟩, if_pos e2]; exact b6_0and _
    · rw [if_neg (fun z => e2 z.2), if_neg e2]
  · rw [updL_n (by omega), hT q' f' a1 a2 a3]
    by_cases e2 : q' < q ∨ (q' = q ∧ f' < f)
    · rw [if_pos e2, if_pos (by omega)]
    · rw [if_neg e2, if_neg (show ¬ (q' < q ∨ q' = q ∧ f' < f + 1) by omega)]
theorem rm_start {tg T : Nat → Int64} {h q : Nat} (hT : ∀ q' f', q' < 4 → 1 ≤ f' → f' ≤ 60 → T (q' * 61 + f') = if q' < q then clrT tg h q' f' else tg (q' * 61 + f')) (h1 : 1 ≤ h) (h2 : h ≤ 60) (hq : q < 4) : ∀ q' f', q' < 4 → 1 ≤ f' → f' ≤ 60 → vp_updL T (q * 61 + h) 0 (q' * 61 + f') = if q' < q ∨ (q' = q ∧ f' < 1) then clrT tg h q' f' else if q' = q ∧ f' = h then 0 else tg (q' * 61 + f') := by
  intro q' f' a1 a2 a3
  by_cases e : q' = q ∧ f' = h
  · obtain ⟨rfl, rfl⟩ := e
    rw [updL_s, if_neg (by omega), if_pos ⟨rfl, rfl⟩]
  · rw [updL_n (by omega), hT q' f' a1 a2 a3]
    by_cases e2 : q' < q
    · rw [if_pos e2, if_pos (by omega)]
    · rw [if_neg e2, if_neg (by omega), if_neg e]
theorem rm_end {tg T : Nat → Int64} {h q f : Nat} (hT : ∀ q' f', q' < 4 → 1 ≤ f' → f' ≤ 60 → T (q' * 61 + f') = if q' < q ∨ (q' = q ∧ f' < f) then clrT tg h q' f' else if q' = q ∧ f' = h then 0 else tg (q' * 61 + f')) (hf : 60 < f) : ∀ q' f', q' < 4 → 1 ≤ f' → f' ≤ 60 → T (q' * 61 + f') = if q' < q + 1 then clrT tg h q' f' else tg (q' * 61 + f') := by
  intro q' f' a1 a2 a3
  rw [hT q' f' a1 a2 a3]
  by_cases e2 : q' < q + 1
  · rw [if_pos e2, if_pos (by omega)]
  · rw [if_neg e2, if_neg (by omega), if_neg (by omega)]
set_option maxRecDepth 100000 in
set_option maxHeartbeats 4000000 in
theorem c_K_removeAllOf (l : Launch) (dC : Nat → ClassId) (dI : Nat → Nat → Nat) (a : Nat → Nat) (t : Nat → ClassId) (σ : SA) (sz : Nat) (hG : GA σ) (h : Nat) (h1 : 1 ≤ h) (hh : h ≤ 60) : Met l y_K_removeAllOf (wS y_K_removeAllOf b_K_removeAllOf 4 none) (rD 2) (va_Pc [.ref (a 10), .int (nI h)] (MB (dC, dI) (yA t) (wA a t σ) sz)) (va_Qv (fun u : SA => ∃ (T : Nat → Int64) (F G : Nat → Nat) (E : Nat → Int64) (k : Nat), u = au_lc (au_ld (au_lt (au_lf (au_tg σ T) F) G) E) k ∧ k ≤ a_lc σ ∧ (∀ j, F j ≤ 60) ∧ (∀ j, G j ≤ 60) ∧ lst F G E k = (lst (a_lf σ) (a_lt σ) (a_ld σ) (a_lc σ)).filter (keepL h) ∧ ∀ q f, q < 4 → 1 ≤ f → f ≤ 60 → T (q * 61 + f) = clrT (a_tg σ) h q f) (fun u => ME (dC, dI) (yA t) (va_A (wA a t σ) sz) (wA a t u)) (va_A (wA a t σ) sz)) 0 0 (va_A (wA a t σ) sz) := by
  refine x_enter (by decide) (Nat.le_of_ble_eq_true rfl) ?_
  intro p e s m below meth c ls hx hb hr hml hT hown hlk hnm hl hB
  obtain ⟨rfl, hP, hK, hN, hD0⟩ := hB
  have hD := hD0.self (sz := s.heap.size)
  generalize hAe : va_A (wA a t σ) s.heap.size = A at hD ⊢
  have hA : ∀ q : Nat, s.heap.size ≤ q → A q := fun q h => by rw [← hAe]; exact Or.inr h
  have hS : va_S A s.heap s.heap [] := va_S.rf
  have hP : va_P (dC, dI) classes (wA a t σ) s.heap := hP
  have hl : lv_has ls 4 [(0, .ref (a 10)), (1, .int (nI h))] := hl
  have hown : s.vm.findClass R_K = some m.cls := hown
  have hG2 := hG
  obtain ⟨g_sn, g_sg, g_tn, g_tx, g_kd, g_lv, g_le, g_ln, g_hn, g_lf, g_lt, g_lc, g_rh, g_rn, g_ws, g_wn⟩ := hG
  refine lv_iconst (v := nI 0) hx hb d_K_removeAllOf_0 (by decide) ?_
  refine lv_istore_n (lv' := [(2, .int (nI 0)), (0, .ref (a 10)), (1, .int (nI h))]) hx hb d_K_removeAllOf_1 rfl hl (by decide) rfl (fun ls hl => ?_)
  have hloop2 : ∀ (n2 : Nat) (q : Nat) (T : Nat → Int64) (H : Heap) (locs : List Loc) (ls : Array Slot), q ≤ 4 → (∀ q' f', q' < 4 → 1 ≤ f' → f' ≤ 60 → T (q' * 61 + f') = if q' < q then clrT (a_tg σ) h q' f' else a_tg σ (q' * 61 + f')) → 5 - q < n2 → va_P (dC, dI) classes (wA a t (au_tg σ (T))) H → va_D A (wA a t (au_tg σ (T))) → va_S A s.heap H locs → lv_has ls 4 [(0, .ref (a 10)), (1, .int (nI h)), (2, .int (nI q))] → W p l e (rD 2) s m ([.ref (a 10), .int (nI h)] : List Value).toArray below meth c H locs 0 0 (MQ below (va_Qv (fun u : SA => ∃ (T : Nat → Int64) (F G : Nat → Nat) (E : Nat → Int64) (k : Nat), u = au_lc (au_ld (au_lt (au_lf (au_tg σ T) F) G) E) k ∧ k ≤ a_lc σ ∧ (∀ j, F j ≤ 60) ∧ (∀ j, G j ≤ 60) ∧ lst F G E k = (lst (a_lf σ) (a_lt σ) (a_ld σ) (a_lc σ)).filter (keepL h) ∧ ∀ q f, q < 4 → 1 ≤ f → f ≤ 60 → T (q * 61 + f) = clrT (a_tg σ) h q f) (fun u => ME (dC, dI) (yA t) A (wA a t u)) A) ([.ref (a 10), .int (nI h)] : List Value).toArray s 0 0 A) (F0 m 2 ls []) := by
    intro n2
    induction n2 with
    | zero => intro q T H locs ls _ _ h9; exact absurd h9 (Nat.not_lt_zero _)
    | succ n2 ih2 =>
      intro q T H locs ls hq hTo hmu2 hP hD hS hl
      refine lv_iload_n hx hb d_K_removeAllOf_2 rfl (lv_at hl 2 rfl) ?_
      refine lv_iconst (v := nI 4) hx hb d_K_removeAllOf_3 (by decide) ?_
      refine x_icmp_ge (tgt := 61) hx hb d_K_removeAllOf_4 (by decide) (fun c4 => ?_) (fun c4 => ?_)
      · refine lv_aload_n hx hb d_K_removeAllOf_61 rfl (lv_at hl 0 rfl) ?_
        refine lv_iload_n hx hb d_K_removeAllOf_62 rfl (lv_at hl 1 rfl) ?_
        refine x_cMv (wl := wA a t) (x_runV ⟨hx, hb, hml, hown, hT⟩ (c_K_removeLaterOf l dC dI a t (au_tg σ T) H.size (GA_tg hG2) h hh) f_K_removeLaterOf k_K_51 blM (va_recv hK hP (ci := 3) (q0 := 10) rfl rfl) (x_bM hK hP hN hD) hl.1 d_K_removeAllOf_63 rfl (lv_room (Nat.le_of_ble_eq_true rfl)) ⟨Nat.le_of_ble_eq_true rfl, Nat.le_of_ble_eq_true rfl⟩ ⟨rfl, rfl⟩ ⟨Nat.le_refl 0, Nat.le_refl 0⟩ rfl) hD hS hA (fun u63 H locs q63 hP hD hS => ?_)
        obtain ⟨F, G, E, k, rfl, hk, hF, hG9, hls⟩ := q63
        have hP : va_P (dC, dI) classes (wA a t (au_lc (au_ld (au_lt (au_lf (au_tg σ (T)) (F)) (G)) (E)) (k))) H := hP
        have hD : va_D A (wA a t (au_lc (au_ld (au_lt (au_lf (au_tg σ (T)) (F)) (G)) (E)) (k))) := hD
        exact x_mv (wl := wA a t) (au_lc (au_ld (au_lt (au_lf (au_tg σ (T)) (F)) (G)) (E)) (k)) hx hb hr hlk hK hP hD hS d_K_removeAllOf_66 ⟨T, F, G, E, k, rfl, hk, hF, hG9, hls, fun q' f' a1 a2 a3 => by rw [hTo q' f' a1 a2 a3, if_pos (by omega)]⟩
      · have hq4 : q < 4 := by omega
        refine lv_aload_n hx hb d_K_removeAllOf_7 rfl (lv_at hl 0 rfl) ?_
        refine va_get (D := (dC, dI)) (C := R_K) (T := F_K) (N := 5) hx hb hT i_K hown hK hP 10 rfl rfl 0 (by decide) (hT _ k_K_9) (fun _ h9 => h9) (v := .ref (a 11)) rfl d_K_removeAllOf_8 ?_
        refine lv_iload_n hx hb d_K_removeAllOf_11 rfl (lv_at hl 2 rfl) ?_
        refine lv_bipush (v := nI 61) hx hb d_K_removeAllOf_12 (by decide) ?_
        refine x_imul hx hb d_K_removeAllOf_14 ?_
        refine lv_iload_n hx hb d_K_removeAllOf_15 rfl (lv_at hl 1 rfl) ?_
        refine x_iadd hx hb d_K_removeAllOf_16 ?_
        refine lv_lconst (v := 0) hx hb d_K_removeAllOf_17 (by decide) ?_
        refine x_last hx hb hK hP hD hS 11 6 (f := T) rfl rfl d_K_removeAllOf_18 (by omega) (fun H locs hP hD hS => ?_)
        have hP : va_P (dC, dI) classes (wA a t (au_tg σ (vp_updL T ((q * 61) + h) (0)))) H := hP
        have hD : va_D A (wA a t (au_tg σ (vp_updL T ((q * 61) + h) (0)))) := hD
        refine lv_iconst (v := nI 1) hx hb d_K_removeAllOf_19 (by decide) ?_
        refine lv_istore_n (lv' := [(3, .int (nI 1)), (0, .ref (a 10)), (1, .int (nI h)), (2, .int (nI q))]) hx hb d_K_removeAllOf_20 rfl hl (by decide) rfl (fun ls hl => ?_)
        have hloop21 : ∀ (n21 : Nat) (f : Nat) (T2 : Nat → Int64) (H : Heap) (locs : List Loc) (ls : Array Slot), 1 ≤ f → f ≤ 61 → (∀ q' f', q' < 4 → 1 ≤ f' → f' ≤ 60 → T2 (q' * 61 + f') = if q' < q ∨ (q' = q ∧ f' < f) then clrT (a_tg σ) h q' f' else if q' = q ∧ f' = h then 0 else a_tg σ (q' * 61 + f')) → 62 - f < n21 → va_P (dC, dI) classes (wA a t (au_tg σ (T2))) H → va_D A (wA a t (au_tg σ (T2))) → va_S A s.heap H locs → lv_has ls 4 [(0, .ref (a 10)), (1, .int (nI h)), (2, .int (nI q)), (3, .int (nI f))] → W p l e (rD 2) s m ([.ref (a 10), .int (nI h)] : List Value).toArray below meth c H locs 0 0 (MQ below (va_Qv (fun u : SA => ∃ (T : Nat → Int64) (F G : Nat → Nat) (E : Nat → Int64) (k : Nat), u = au_lc (au_ld (au_lt (au_lf (au_tg σ T) F) G) E) k ∧ k ≤ a_lc σ ∧ (∀ j, F j ≤ 60) ∧ (∀ j, G j ≤ 60) ∧ lst F G E k = (lst (a_lf σ) (a_lt σ) (a_ld σ) (a_lc σ)).filter (keepL h) ∧ ∀ q f, q < 4 → 1 ≤ f → f ≤ 60 → T (q * 61 + f) = clrT (a_tg σ) h q f) (fun u => ME (dC, dI) (yA t) A (wA a t u)) A) ([.ref (a 10), .int (nI h)] : List Value).toArray s 0 0 A) (F0 m 21 ls []) := by
          intro n21
          induction n21 with
          | zero => intro f T2 H locs ls _ _ _ h9; exact absurd h9 (Nat.not_lt_zero _)
          | succ n21 ih21 =>
            intro f T2 H locs ls hf1 hf2 hT2 hmu21 hP hD hS hl
            refine lv_iload_n hx hb d_K_removeAllOf_21 rfl (lv_at hl 3 rfl) ?_
            refine lv_bipush (v := nI 60) hx hb d_K_removeAllOf_22 (by decide) ?_
            refine x_icmp_gt (tgt := 55) hx hb d_K_removeAllOf_24 (by decide) (fun c24 => ?_) (fun c24 => ?_)
            · refine x_iinc (lv' := [(2, .int (nI (q + 1))), (0, .ref (a 10)), (1, .int (nI h)), (3, .int (nI f))]) hx hb d_K_removeAllOf_55 hl (k := 2) rfl (by decide) rfl (fun ls hl => ?_)
              refine lv_goto (tgt := 2) hx hb d_K_removeAllOf_58 (by decide) ?_
              exact ih2 (q + 1) T2 H locs ls (by omega) (rm_end hT2 (by omega)) (by omega) hP hD hS (lv_sub hl [1, 2, 0] rfl)
            · refine lv_aload_n hx hb d_K_removeAllOf_27 rfl (lv_at hl 0 rfl) ?_
              refine va_get (D := (dC, dI)) (C := R_K) (T := F_K) (N := 5) hx hb hT i_K hown hK hP 10 rfl rfl 0 (by decide) (hT _ k_K_9) (fun _ h9 => h9) (v := .ref (a 11)) rfl d_K_removeAllOf_28 ?_
              refine lv_iload_n hx hb d_K_removeAllOf_31 rfl (lv_at hl 2 rfl) ?_
              refine lv_bipush (v := nI 61) hx hb d_K_removeAllOf_32 (by decide) ?_
              refine x_imul hx hb d_K_removeAllOf_34 ?_
              refine lv_iload_n hx hb d_K_removeAllOf_35 rfl (lv_at hl 3 rfl) ?_
              refine x_iadd hx hb d_K_removeAllOf_36 ?_
              refine lv_dup2_11 hx hb d_K_removeAllOf_37 rfl rfl ?_
              refine x_lald hx hb hK hP 11 6 (f := T2) rfl rfl d_K_removeAllOf_38 (by omega) ?_
              refine lv_iload_n hx hb d_K_removeAllOf_39 rfl (lv_at hl 1 rfl) ?_
              refine x_cl (x_runSN ⟨hx, hb, hml, hown, hT⟩ hN (c_A_setOf l h (by omega)) f_A_setOf k_K_37 blT (x_bT hN) hl.1 d_K_removeAllOf_40 rfl (lv_room (Nat.le_of_ble_eq_true rfl)) ⟨Nat.le_of_ble_eq_true rfl, Nat.le_of_ble_eq_true rfl⟩ ⟨rfl, rfl⟩ ⟨Nat.le_refl 0, Nat.le_refl 0⟩ rfl) (fun r40 q40 => ?_)
              subst q40
              refine lv_ldc2 (v := -1) hx hb hown (hT _ k_K_49) d_K_removeAllOf_43 ?_
              refine lv_lxor hx hb d_K_removeAllOf_46 ?_
              refine lv_land hx hb d_K_removeAllOf_47 ?_
              refine x_last hx hb hK hP hD hS 11 6 (f := T2) rfl rfl d_K_removeAllOf_48 (by omega) (fun H locs hP hD hS => ?_)
              have hP : va_P (dC, dI) classes (wA a t (au_tg σ (vp_updL T2 ((q * 61) + f) ((T2 ((q * 61) + f)) &&& ((sg h) ^^^ ((-1))))))) H := hP
              have hD : va_D A (wA a t (au_tg σ (vp_updL T2 ((q * 61) + f) ((T2 ((q * 61) + f)) &&& ((sg h) ^^^ ((-1))))))) := hD
              refine x_iinc (lv' := [(3, .int (nI (f + 1))), (0, .ref (a 10)), (1, .int (nI h)), (2, .int (nI q))]) hx hb d_K_removeAllOf_49 hl (k := 3) rfl (by decide) rfl (fun ls hl => ?_)
              refine lv_goto (tgt := 21) hx hb d_K_removeAllOf_52 (by decide) ?_
              exact ih21 (f + 1) _ H locs ls (by omega) (by omega) (rm_step hT2 hf1 (by omega) hq4) (by omega) hP hD hS (lv_sub hl [1, 2, 3, 0] rfl)
        exact hloop21 _ 1 _ _ _ ls (by omega) (by omega) (rm_start hTo h1 hh hq4) (Nat.lt_succ_self _) hP hD hS (lv_sub hl [1, 2, 3, 0] rfl)
  exact hloop2 _ 0 (a_tg σ) _ _ ls (by omega) (fun q' f' _ _ _ => by rw [if_neg (by omega)]) (Nat.lt_succ_self _) hP hD hS (lv_sub hl [1, 2, 0] rfl)

/-- in at most d links of the sort to the end -/
def rchA (tg : Nat → Int64) (q z : Nat) : Nat → Nat → Prop
  | 0, h => h = z
  | d + 1, h => rchA tg q z d h ∨ (1 ≤ h ∧ h ≤ 60 ∧ ∃ b, b < 64 ∧ bt6 (tg (q * 61 + h)) b = true ∧ rchA tg q z d b)
def levA (tg : Nat → Int64) (q z d h : Nat) : Prop := rchA tg q z d h ∧ ∀ e, e < d → ¬ rchA tg q z e h
theorem rchA_mono {tg : Nat → Int64} {q z h : Nat} : ∀ {d e : Nat}, d ≤ e → rchA tg q z d h → rchA tg q z e h := by
  intro d e hde
  induction hde with
  | refl => exact id
  | step _ ih => exact fun r => Or.inl (ih r)
theorem levA_s {tg : Nat → Int64} {q z d h : Nat} : levA tg q z (d + 1) h ↔ ((1 ≤ h ∧ h ≤ 60 ∧ ∃ b, b < 64 ∧ bt6 (tg (q * 61 + h)) b = true ∧ levA tg q z d b) ∧ ¬ rchA tg q z d h) := by
  constructor
  · rintro ⟨h1, h2⟩
    have h3 : ¬ rchA tg q z d h := h2 d (Nat.lt_succ_self d)
    rcases h1 with h1 | ⟨a1, a2, b, hb, a3, a4⟩
    · exact absurd h1 h3
    · refine ⟨⟨a1, a2, b, hb, a3, a4, fun e he r => h3 ?_⟩, h3⟩
      have : rchA tg q z (e + 1) h := Or.inr ⟨a1, a2, b, hb, a3, r⟩
      exact rchA_mono (by omega) this
  · rintro ⟨⟨a1, a2, b, hb, a3, a4⟩, h3⟩
    exact ⟨Or.inr ⟨a1, a2, b, hb, a3, a4.1⟩, fun e he r => h3 (rchA_mono (by omega) r)⟩
theorem levA_0 {tg : Nat → Int64} {q z h : Nat} : levA tg q z 0 h ↔ h = z := ⟨fun r => r.1, fun r => ⟨r, fun e he => absurd he (Nat.not_lt_zero _)⟩⟩
theorem levA_none {tg : Nat → Int64} {q z : Nat} : ∀ {d e : Nat}, d ≤ e → (∀ h, h < 64 → ¬ levA tg q z d h) → ∀ h, h < 64 → ¬ levA tg q z e h := by
  intro d e hde
  induction hde with
  | refl => exact id
  | step _ ih =>
    intro q0 h hh r
    obtain ⟨⟨_, _, b, hb, _, r2⟩, _⟩ := levA_s.mp r
    exact ih q0 b hb r2
/-- the next level, and what has been seen -/
theorem lay_step {tg : Nat → Int64} {q z d : Nat} {av sv nv : Int64} (ha : ∀ b, b < 64 → (bt6 av b = true ↔ levA tg q z d b)) (hs : ∀ b, b < 64 → (bt6 sv b = true ↔ rchA tg q z d b)) (hn : ∀ b, bt6 nv b = true ↔ ∃ h, h < 60 ∧ b = h + 1 ∧ ¬ (tg (q * 61 + (h + 1)) &&& av) = 0) : (∀ b, b < 64 → (bt6 (nv &&& (sv ^^^ (-1))) b = true ↔ levA tg q z (d + 1) b)) ∧ ∀ b, b < 64 → (bt6 (sv ||| (nv &&& (sv ^^^ (-1)))) b = true ↔ rchA tg q z (d + 1) b) := by
  have key : ∀ b, b < 64 → (bt6 (nv &&& (sv ^^^ (-1))) b = true ↔ levA tg q z (d + 1) b) := by
    intro b hb
    rw [levA_s, b6_and, b6_not hb, Bool.and_eq_true, hn b]
    constructor
    · rintro ⟨⟨h, h1, rfl, h3⟩, h4⟩
      refine ⟨⟨by omega, by omega, ?_⟩, fun r => ?_⟩
      · rw [b6_zero] at h3
        obtain ⟨j, hj⟩ := Classical.not_forall.mp h3
        obtain ⟨hj1, hj2⟩ := Classical.not_imp.mp hj
        rw [b6_and] at hj2
        have hj3 : (bt6 (tg (q * 61 + (h + 1))) j && bt6 av j) = true := by
          cases hz : (bt6 (tg (q * 61 + (h + 1))) j && bt6 av j)
          · exact absurd hz hj2
          · rfl
        rw [Bool.and_eq_true] at hj3
        exact ⟨j, hj1, hj3.1, (ha j hj1).mp hj3.2⟩
      · rw [(hs _ hb).mpr r] at h4
        exact absurd h4 (by decide)
    · rintro ⟨⟨h1, h2, j, hj, h3, h4⟩, h5⟩
      refine ⟨⟨b - 1, by omega, by omega, ?_⟩, ?_⟩
      · rw [show b - 1 + 1 = b by omega, b6_zero]
        intro h6
        have h7 := h6 j hj
        rw [b6_and, h3, (ha j hj).mpr h4] at h7
        exact absurd h7 (by decide)
      · cases hz : bt6 sv b
        · rfl
        · exact absurd ((hs b hb).mp hz) h5
  refine ⟨key, fun b hb => ?_⟩
  rw [b6_or, Bool.or_eq_true, hs b hb, key b hb]
  constructor
  · rintro (r | r)
    · exact Or.inl r
    · exact r.1
  · intro r
    by_cases h5 : rchA tg q z d b
    · exact Or.inl h5
    · exact Or.inr ⟨r, fun e he r2 => h5 (rchA_mono (by omega) r2)⟩
set_option maxRecDepth 100000 in
set_option maxHeartbeats 4000000 in
theorem c_Y_measure (l : Launch) (dC : Nat → ClassId) (dI : Nat → Nat → Nat) (a : Nat → Nat) (t : Nat → ClassId) (σ : SA) (sz : Nat) (q x z : Nat) (hq : q < 4) (hx9 : x ≤ 60) (hz : z ≤ 60) : Met l y_Y_measure (wS y_Y_measure b_Y_measure 8 (some .int)) (rD 3) (va_Pc [.ref (a 18), .ref (a 10), .int (nI q), .int (nI x), .int (nI z)] (MB (dC, dI) (yA t) (wA a t σ) sz)) (va_Qi (fun (r : Int32) (u : SA) => ∃ V : Nat → Int64, u = au_aw σ V ∧ ((∃ d, d < 60 ∧ r = nI d ∧ levA (a_tg σ) q z d x ∧ ∀ e, e ≤ d → ∀ b, b < 64 → (bt6 (V e) b = true ↔ levA (a_tg σ) q z e b)) ∨ (r = -1 ∧ ∀ d, d < 60 → ¬ levA (a_tg σ) q z d x))) (fun u => ME (dC, dI) (yA t) (va_A (wA a t σ) sz) (wA a t u)) (va_A (wA a t σ) sz)) 0 0 (va_A (wA a t σ) sz) := by
  refine x_enter (by decide) (Nat.le_of_ble_eq_true rfl) ?_
  intro p e s m below meth c ls hx hb hr hml hT hown hlk hnm hl hB
  obtain ⟨rfl, hP, hK, hN, hD0⟩ := hB
  have hD := hD0.self (sz := s.heap.size)
  generalize hAe : va_A (wA a t σ) s.heap.size = A at hD ⊢
  have hA : ∀ q : Nat, s.heap.size ≤ q → A q := fun q h => by rw [← hAe]; exact Or.inr h
  have hS : va_S A s.heap s.heap [] := va_S.rf
  have hP : va_P (dC, dI) classes (wA a t σ) s.heap := hP
  have hl : lv_has ls 8 [(0, .ref (a 18)), (1, .ref (a 10)), (2, .int (nI q)), (3, .int (nI x)), (4, .int (nI z))] := hl
  have hown : s.vm.findClass R_Y = some m.cls := hown
  refine lv_iload hx hb d_Y_measure_0 (lv_at hl 4 rfl) ?_
  refine x_cl (x_runSN ⟨hx, hb, hml, hown, hT⟩ hN (c_A_setOf l z (by omega)) f_A_setOf k_Y_31 blT (x_bT hN) hl.1 d_Y_measure_2 rfl (lv_room (Nat.le_of_ble_eq_true rfl)) ⟨Nat.le_of_ble_eq_true rfl, Nat.le_of_ble_eq_true rfl⟩ ⟨rfl, rfl⟩ ⟨Nat.le_refl 0, Nat.le_refl 0⟩ rfl) (fun r2 q2 => ?_)
  subst q2
  refine lv_lstore (lv' := [(5, .long (sg z)), (0, .ref (a 18)), (1, .ref (a 10)), (2, .int (nI q)), (3, .int (nI x)), (4, .int (nI z))]) hx hb d_Y_measure_5 hl (by decide) rfl (fun ls hl => ?_)
  refine lv_aload_n hx hb d_Y_measure_7 rfl (lv_at hl 1 rfl) ?_
  refine va_get (D := (dC, dI)) (C := R_Y) (T := F_Y) (N := 3) hx hb hT i_Y hown hK hP 18 rfl rfl 2 (by decide) (hT _ k_Y_19) (fun _ h9 => h9) (v := .ref (a 20)) rfl d_Y_measure_8 ?_
  refine lv_iconst (v := nI 0) hx hb d_Y_measure_11 (by decide) ?_
  refine lv_lload hx hb d_Y_measure_12 (lv_at hl 0 rfl) ?_
  refine x_last hx hb hK hP hD hS 20 13 (f := (a_aw σ)) rfl rfl d_Y_measure_14 (by omega) (fun H locs hP hD hS => ?_)
  have hP : va_P (dC, dI) classes (wA a t (au_aw σ (vp_updL (a_aw σ) (0) (sg z)))) H := hP
  have hD : va_D A (wA a t (au_aw σ (vp_updL (a_aw σ) (0) (sg z)))) := hD
  refine lv_iconst (v := nI 0) hx hb d_Y_measure_15 (by decide) ?_
  refine lv_istore (lv' := [(7, .int (nI 0)), (5, .long (sg z)), (0, .ref (a 18)), (1, .ref (a 10)), (2, .int (nI q)), (3, .int (nI x)), (4, .int (nI z))]) hx hb d_Y_measure_16 hl (by decide) rfl (fun ls hl => ?_)
  have hloop18 : ∀ (n18 : Nat) (d : Nat) (y : Int64) (V : Nat → Int64) (H : Heap) (locs : List Loc) (ls : Array Slot), d ≤ 60 → (∀ b, b < 64 → (bt6 y b = true ↔ rchA (a_tg σ) q z d b)) → (∀ e, e ≤ d → ∀ b, b < 64 → (bt6 (V e) b = true ↔ levA (a_tg σ) q z e b)) → (∀ e, e < d → ¬ levA (a_tg σ) q z e x) → 61 - d < n18 → va_P (dC, dI) classes (wA a t (au_aw σ (V))) H → va_D A (wA a t (au_aw σ (V))) → va_S A s.heap H locs → lv_has ls 8 [(0, .ref (a 18)), (1, .ref (a 10)), (2, .int (nI q)), (3, .int (nI x)), (4, .int (nI z)), (5, .long y), (7, .int (nI d))] → W p l e (rD 3) s m ([.ref (a 18), .ref (a 10), .int (nI q), .int (nI x), .int (nI z)] : List Value).toArray below meth c H locs 0 0 (MQ below (va_Qi (fun (r : Int32) (u : SA) => ∃ V : Nat → Int64, u = au_aw σ V ∧ ((∃ d, d < 60 ∧ r = nI d ∧ levA (a_tg σ) q z d x ∧ ∀ e, e ≤ d → ∀ b, b < 64 → (bt6 (V e) b = true ↔ levA (a_tg σ) q z e b)) ∨ (r = -1 ∧ ∀ d, d < 60 → ¬ levA (a_tg σ) q z d x))) (fun u => ME (dC, dI) (yA t) A (wA a t u)) A) ([.ref (a 18), .ref (a 10), .int (nI q), .int (nI x), .int (nI z)] : List Value).toArray s 0 0 A) (F0 m 18 ls []) := by
    intro n18
    induction n18 with
    | zero => intro d y V H locs ls _ _ _ _ h9; exact absurd h9 (Nat.not_lt_zero _)
    | succ n18 ih18 =>
      intro d y V H locs ls hd hy hW hno hmu18 hP hD hS hl
      refine lv_iload hx hb d_Y_measure_18 (lv_at hl 6 rfl) ?_
      refine lv_bipush (v := nI 60) hx hb d_Y_measure_20 (by decide) ?_
      refine x_icmp_ge (tgt := 102) hx hb d_Y_measure_22 (by decide) (fun c22 => ?_) (fun c22 => ?_)
      · refine lv_iconst (v := -1) hx hb d_Y_measure_102 (by decide) ?_
        exact x_mi (wl := wA a t) (au_aw σ (V)) hx hb hr hlk hK hP hD hS d_Y_measure_103 ⟨V, rfl, Or.inr ⟨rfl, fun e he r9 => by first | exact hno e (by omega) r9 | (rcases Nat.lt_or_ge e d with h8 | h8; exact hno e h8 r9; exact levA_none h8 (fun b hb9 r8 => by have h7 := (hW d (Nat.le_refl d) b hb9).mpr r8; rw [c33, b6_0] at h7; exact absurd h7 (by decide)) x (by omega) r9)⟩⟩
      · refine lv_aload_n hx hb d_Y_measure_25 rfl (lv_at hl 0 rfl) ?_
        refine va_get (D := (dC, dI)) (C := R_Y) (T := F_Y) (N := 3) hx hb hT i_Y hown hK hP 18 rfl rfl 2 (by decide) (hT _ k_Y_19) (fun _ h9 => h9) (v := .ref (a 20)) rfl d_Y_measure_26 ?_
        refine lv_iload hx hb d_Y_measure_29 (lv_at hl 6 rfl) ?_
        refine x_lald hx hb hK hP 20 13 (f := V) rfl rfl d_Y_measure_31 (by omega) ?_
        refine lv_lconst (v := 0) hx hb d_Y_measure_32 (by decide) ?_
        refine x_lif_eq (tgt := 102) hx hb d_Y_measure_33 d_Y_measure_34 (by decide) (fun c33 => ?_) (fun c33 => ?_)
        · refine lv_iconst (v := -1) hx hb d_Y_measure_102 (by decide) ?_
          exact x_mi (wl := wA a t) (au_aw σ (V)) hx hb hr hlk hK hP hD hS d_Y_measure_103 ⟨V, rfl, Or.inr ⟨rfl, fun e he r9 => by first | exact hno e (by omega) r9 | (rcases Nat.lt_or_ge e d with h8 | h8; exact hno e h8 r9; exact levA_none h8 (fun b hb9 r8 => by have h7 := (hW d (Nat.le_refl d) b hb9).mpr r8; rw [c33, b6_0] at h7; exact absurd h7 (by decide)) x (by omega) r9)⟩⟩
        · refine lv_aload_n hx hb d_Y_measure_37 rfl (lv_at hl 0 rfl) ?_
          refine va_get (D := (dC, dI)) (C := R_Y) (T := F_Y) (N := 3) hx hb hT i_Y hown hK hP 18 rfl rfl 2 (by decide) (hT _ k_Y_19) (fun _ h9 => h9) (v := .ref (a 20)) rfl d_Y_measure_38 ?_
          refine lv_iload hx hb d_Y_measure_41 (lv_at hl 6 rfl) ?_
          refine x_lald hx hb hK hP 20 13 (f := V) rfl rfl d_Y_measure_43 (by omega) ?_
          refine lv_iload_n hx hb d_Y_measure_44 rfl (lv_at hl 3 rfl) ?_
          refine x_ci (x_runSN ⟨hx, hb, hml, hown, hT⟩ hN (c_A_holds l (V d) x (by omega)) f_A_holds k_Y_35 blT (x_bT hN) hl.1 d_Y_measure_45 rfl (lv_room (Nat.le_of_ble_eq_true rfl)) ⟨Nat.le_of_ble_eq_true rfl, Nat.le_of_ble_eq_true rfl⟩ ⟨rfl, rfl⟩ ⟨Nat.le_refl 0, Nat.le_refl 0⟩ rfl) (fun r45 q45 => ?_)
          rcases q45 with ⟨rfl, hq9⟩ | ⟨rfl, hq9⟩
          · refine x_if_eq (tgt := 54) hx hb d_Y_measure_48 (by decide) (fun h => absurd h (by decide)) (fun _ => ?_)
            refine lv_iload hx hb d_Y_measure_51 (lv_at hl 6 rfl) ?_
            exact x_mi (wl := wA a t) (au_aw σ (V)) hx hb hr hlk hK hP hD hS d_Y_measure_53 ⟨V, rfl, Or.inl ⟨d, by omega, rfl, (hW d (Nat.le_refl d) x (by omega)).mp hq9, hW⟩⟩
          · refine x_if_eq (tgt := 54) hx hb d_Y_measure_48 (by decide) (fun _ => ?_) (fun h => absurd h (by decide))
            refine lv_aload_n hx hb d_Y_measure_54 rfl (lv_at hl 0 rfl) ?_
            refine va_get (D := (dC, dI)) (C := R_Y) (T := F_Y) (N := 3) hx hb hT i_Y hown hK hP 18 rfl rfl 2 (by decide) (hT _ k_Y_19) (fun _ h9 => h9) (v := .ref (a 20)) rfl d_Y_measure_55 ?_
            refine lv_iload hx hb d_Y_measure_58 (lv_at hl 6 rfl) ?_
            refine lv_iconst (v := nI 1) hx hb d_Y_measure_60 (by decide) ?_
            refine x_iadd hx hb d_Y_measure_61 ?_
            refine lv_aload_n hx hb d_Y_measure_62 rfl (lv_at hl 1 rfl) ?_
            refine lv_iload_n hx hb d_Y_measure_63 rfl (lv_at hl 2 rfl) ?_
            refine lv_aload_n hx hb d_Y_measure_64 rfl (lv_at hl 0 rfl) ?_
            refine va_get (D := (dC, dI)) (C := R_Y) (T := F_Y) (N := 3) hx hb hT i_Y hown hK hP 18 rfl rfl 2 (by decide) (hT _ k_Y_19) (fun _ h9 => h9) (v := .ref (a 20)) rfl d_Y_measure_65 ?_
            refine lv_iload hx hb d_Y_measure_68 (lv_at hl 6 rfl) ?_
            refine x_lald hx hb hK hP 20 13 (f := V) rfl rfl d_Y_measure_70 (by omega) ?_
            refine x_cl (x_runV ⟨hx, hb, hml, hown, hT⟩ (c_K_sourcesOf l dC dI a t (au_aw σ V) q (V d) hq) f_K_sourcesOf k_Y_39 blR (va_recv hK hP (ci := 3) (q0 := 10) rfl rfl) (x_bR hK hP hN) hl.1 d_Y_measure_71 rfl (lv_room (Nat.le_of_ble_eq_true rfl)) ⟨Nat.le_of_ble_eq_true rfl, Nat.le_of_ble_eq_true rfl⟩ ⟨rfl, rfl⟩ ⟨Nat.le_refl 0, Nat.le_refl 0⟩ rfl) (fun nv q71 => ?_)
            have hst := lay_step (tg := a_tg σ) (q := q) (z := z) (hW d (Nat.le_refl d)) hy q71
            have hnx : ¬ levA (a_tg σ) q z d x := fun r9 => hq9 ((hW d (Nat.le_refl d) x (by omega)).mpr r9)
            refine lv_lload hx hb d_Y_measure_74 (lv_at hl 5 rfl) ?_
            refine lv_ldc2 (v := -1) hx hb hown (hT _ k_Y_45) d_Y_measure_76 ?_
            refine lv_lxor hx hb d_Y_measure_79 ?_
            refine lv_land hx hb d_Y_measure_80 ?_
            refine x_last hx hb hK hP hD hS 20 13 (f := V) rfl rfl d_Y_measure_81 (by omega) (fun H locs hP hD hS => ?_)
            have hP : va_P (dC, dI) classes (wA a t (au_aw σ (vp_updL V (d + 1) (nv &&& (y ^^^ ((-1))))))) H := hP
            have hD : va_D A (wA a t (au_aw σ (vp_updL V (d + 1) (nv &&& (y ^^^ ((-1))))))) := hD
            refine lv_lload hx hb d_Y_measure_82 (lv_at hl 5 rfl) ?_
            refine lv_aload_n hx hb d_Y_measure_84 rfl (lv_at hl 0 rfl) ?_
            refine va_get (D := (dC, dI)) (C := R_Y) (T := F_Y) (N := 3) hx hb hT i_Y hown hK hP 18 rfl rfl 2 (by decide) (hT _ k_Y_19) (fun _ h9 => h9) (v := .ref (a 20)) rfl d_Y_measure_85 ?_
            refine lv_iload hx hb d_Y_measure_88 (lv_at hl 6 rfl) ?_
            refine lv_iconst (v := nI 1) hx hb d_Y_measure_90 (by decide) ?_
            refine x_iadd hx hb d_Y_measure_91 ?_
            refine x_lald hx hb hK hP 20 13 (f := (vp_updL V (d + 1) (nv &&& (y ^^^ ((-1)))))) rfl rfl d_Y_measure_92 (by omega) ?_
            refine lv_lor hx hb d_Y_measure_93 ?_
            refine lv_lstore (lv' := [(5, .long (y ||| ((vp_updL V (d + 1) (nv &&& (y ^^^ ((-1))))) (d + 1)))), (0, .ref (a 18)), (1, .ref (a 10)), (2, .int (nI q)), (3, .int (nI x)), (4, .int (nI z)), (7, .int (nI d))]) hx hb d_Y_measure_94 hl (by decide) rfl (fun ls hl => ?_)
            refine x_iinc (lv' := [(7, .int (nI (d + 1))), (5, .long (y ||| ((vp_updL V (d + 1) (nv &&& (y ^^^ ((-1))))) (d + 1)))), (0, .ref (a 18)), (1, .ref (a 10)), (2, .int (nI q)), (3, .int (nI x)), (4, .int (nI z))]) hx hb d_Y_measure_96 hl (k := 6) rfl (by decide) rfl (fun ls hl => ?_)
            refine lv_goto (tgt := 18) hx hb d_Y_measure_99 (by decide) ?_
            exact ih18 (d + 1) _ _ H locs ls (by omega) (by rw [updL_s]; exact hst.2) (fun e he b hb9 => by rcases Nat.lt_or_ge e (d + 1) with h8 | h8; rw [updL_n (by omega)]; exact hW e (by omega) b hb9; rw [show e = d + 1 by omega, updL_s]; exact hst.1 b hb9) (fun e he => by rcases Nat.lt_succ_iff_lt_or_eq.mp he with h8 | h8; exact hno e h8; rw [h8]; exact hnx) (by omega) hP hD hS (lv_sub hl [2, 3, 4, 5, 6, 1, 0] rfl)
  exact hloop18 _ 0 (sg z) _ _ _ ls (by omega) (fun b hb9 => by rw [b6_sg (by omega), decide_eq_true_eq]; exact Iff.rfl) (fun e he b hb9 => by rw [show e = 0 by omega, updL_s, b6_sg (by omega), decide_eq_true_eq, levA_0]) (fun e he => absurd he (Nat.not_lt_zero _)) (Nat.lt_succ_self _) hP hD hS (lv_sub hl [2, 3, 4, 5, 6, 1, 0] rfl)
end
section
theorem NTH_N {P : Nat → Bool} {n i : Nat} {r : Int32} (h : NTH P n i r) : ∃ v, v ≤ n ∧ r = nI v ∧ NTH P n i (nI v) := by
  rcases h with ⟨k, h1, h2, h3, rfl⟩ | ⟨h1, rfl⟩
  · exact ⟨k + 1, h1, rfl, Or.inl ⟨k, h1, h2, h3, rfl⟩⟩
  · exact ⟨0, Nat.zero_le _, rfl, Or.inr ⟨h1, rfl⟩⟩
theorem wk_s {tg aw : Nat → Int64} {S : Nat → Nat} {k v E q d : Nat} (hSj : ∀ j, j + 1 < k → NTH (bt6 (tg (q * 61 + S j) &&& aw (E - j))) 60 0 (nI (S (j + 1)))) (hk : 1 ≤ k) (hd : d + k = E + 1) (hn : NTH (bt6 (tg (q * 61 + S (k - 1)) &&& aw d)) 60 0 (nI v)) : ∀ j, j + 1 < k + 1 → NTH (bt6 (tg (q * 61 + updN S k v j) &&& aw (E - j))) 60 0 (nI (updN S k v (j + 1))) := by
  intro j hj
  rcases Nat.lt_or_ge (j + 1) k with h8 | h8
  · rw [updN_n (by omega), updN_n (by omega)]
    exact hSj j h8
  · have h7 : k = j + 1 := by omega
    subst h7
    have h6 : E - j = d := by omega
    rw [updN_n (by omega), updN_s, h6]
    exact hn
set_option maxRecDepth 100000 in
set_option maxHeartbeats 4000000 in
theorem c_Y_walk (l : Launch) (dC : Nat → ClassId) (dI : Nat → Nat → Nat) (a : Nat → Nat) (t : Nat → ClassId) (σ : SA) (sz : Nat) (q x E : Nat) (hq : q < 4) (hx9 : x ≤ 60) (hE : E < 59) (hws : ∀ j, a_ws σ j ≤ 60) : Met l y_Y_walk (wS y_Y_walk b_Y_walk 8 none) (rD 3) (va_Pc [.ref (a 18), .ref (a 10), .int (nI q), .int (nI x), .int (nI (E + 1))] (MB (dC, dI) (yA t) (wA a t σ) sz)) (va_Qv (fun u : SA => ∃ S : Nat → Nat, u = au_wn (au_ws σ S) (E + 2) ∧ (∀ j, S j ≤ 60) ∧ S 0 = x ∧ ∀ j, j < E + 1 → NTH (bt6 (a_tg σ (q * 61 + S j) &&& a_aw σ (E - j))) 60 0 (nI (S (j + 1)))) (fun u => ME (dC, dI) (yA t) (va_A (wA a t σ) sz) (wA a t u)) (va_A (wA a t σ) sz)) 0 0 (va_A (wA a t σ) sz) := by
  refine x_enter (by decide) (Nat.le_of_ble_eq_true rfl) ?_
  intro p e s m below meth c ls hx hb hr hml hT hown hlk hnm hl hB
  obtain ⟨rfl, hP, hK, hN, hD0⟩ := hB
  have hD := hD0.self (sz := s.heap.size)
  generalize hAe : va_A (wA a t σ) s.heap.size = A at hD ⊢
  have hA : ∀ q : Nat, s.heap.size ≤ q → A q := fun q h => by rw [← hAe]; exact Or.inr h
  have hS : va_S A s.heap s.heap [] := va_S.rf
  have hP : va_P (dC, dI) classes (wA a t σ) s.heap := hP
  have hl : lv_has ls 8 [(0, .ref (a 18)), (1, .ref (a 10)), (2, .int (nI q)), (3, .int (nI x)), (4, .int (nI (E + 1)))] := hl
  have hown : s.vm.findClass R_Y = some m.cls := hown
  refine lv_aload_n hx hb d_Y_walk_0 rfl (lv_at hl 0 rfl) ?_
  refine va_get (D := (dC, dI)) (C := R_Y) (T := F_Y) (N := 3) hx hb hT i_Y hown hK hP 18 rfl rfl 0 (by decide) (hT _ k_Y_9) (fun _ h9 => h9) (v := .ref (a 19)) rfl d_Y_walk_1 ?_
  refine lv_iconst (v := nI 0) hx hb d_Y_walk_4 (by decide) ?_
  refine lv_iload_n hx hb d_Y_walk_5 rfl (lv_at hl 3 rfl) ?_
  refine x_iast hx hb hK hP hD hS 19 12 (f := (a_ws σ)) rfl rfl d_Y_walk_6 (by omega) (fun H locs hP hD hS => ?_)
  have hP : va_P (dC, dI) classes (wA a t (au_ws σ (updN (a_ws σ) (0) (x)))) H := hP
  have hD : va_D A (wA a t (au_ws σ (updN (a_ws σ) (0) (x)))) := hD
  refine lv_aload_n hx hb d_Y_walk_7 rfl (lv_at hl 0 rfl) ?_
  refine lv_iconst (v := nI 1) hx hb d_Y_walk_8 (by decide) ?_
  refine va_put (D := (dC, dI)) (v := .int (nI 1)) (ty := .int) (C := R_Y) (T := F_Y) (N := 3) hx hb hT i_Y ft_Y ft_Y_ok n_Y hown hK hP hD hS 18 rfl rfl 1 (by decide) (hT _ k_Y_15) (fun _ h9 => h9) rfl (by decide +kernel) rfl rfl (Nat.le_of_ble_eq_true rfl) d_Y_walk_9 (fun H locs hP hD hS => ?_)
  have hP : va_P (dC, dI) classes (wA a t (au_wn (au_ws σ (updN (a_ws σ) (0) (x))) (1))) H := hP
  have hD : va_D A (wA a t (au_wn (au_ws σ (updN (a_ws σ) (0) (x))) (1))) := hD
  refine lv_iload hx hb d_Y_walk_12 (lv_at hl 4 rfl) ?_
  refine lv_iconst (v := nI 1) hx hb d_Y_walk_14 (by decide) ?_
  refine x_isub hx hb d_Y_walk_15 ?_
  refine lv_istore (lv' := [(5, .int (nI ((E + 1) - 1))), (0, .ref (a 18)), (1, .ref (a 10)), (2, .int (nI q)), (3, .int (nI x)), (4, .int (nI (E + 1)))]) hx hb d_Y_walk_16 hl (by decide) rfl (fun ls hl => ?_)
  have hloop18 : ∀ (n18 : Nat) (k : Nat) (S : Nat → Nat) (y : Int32) (H : Heap) (locs : List Loc) (ls : Array Slot), 1 ≤ k ∧ k ≤ E + 2 → (∀ j, S j ≤ 60) → S 0 = x → (∀ j, j + 1 < k → NTH (bt6 (a_tg σ (q * 61 + S j) &&& a_aw σ (E - j))) 60 0 (nI (S (j + 1)))) → ((∃ d, y = nI d ∧ d + k = E + 1) ∨ (y = -1 ∧ k = E + 2)) → E + 3 - k < n18 → va_P (dC, dI) classes (wA a t (au_wn (au_ws σ (S)) (k))) H → va_D A (wA a t (au_wn (au_ws σ (S)) (k))) → va_S A s.heap H locs → lv_has ls 8 [(0, .ref (a 18)), (1, .ref (a 10)), (2, .int (nI q)), (3, .int (nI x)), (4, .int (nI (E + 1))), (5, .int y)] → W p l e (rD 3) s m ([.ref (a 18), .ref (a 10), .int (nI q), .int (nI x), .int (nI (E + 1))] : List Value).toArray below meth c H locs 0 0 (MQ below (va_Qv (fun u : SA => ∃ S : Nat → Nat, u = au_wn (au_ws σ S) (E + 2) ∧ (∀ j, S j ≤ 60) ∧ S 0 = x ∧ ∀ j, j < E + 1 → NTH (bt6 (a_tg σ (q * 61 + S j) &&& a_aw σ (E - j))) 60 0 (nI (S (j + 1)))) (fun u => ME (dC, dI) (yA t) A (wA a t u)) A) ([.ref (a 18), .ref (a 10), .int (nI q), .int (nI x), .int (nI (E + 1))] : List Value).toArray s 0 0 A) (F0 m 18 ls []) := by
    intro n18
    induction n18 with
    | zero => intro k S y H locs ls _ _ _ _ _ h9; exact absurd h9 (Nat.not_lt_zero _)
    | succ n18 ih18 =>
      intro k S y H locs ls hk1 hS9 hS0 hSj hy hmu18 hP hD hS hl
      rcases hy with ⟨d, rfl, hdk⟩ | ⟨rfl, hdk⟩
      · refine lv_iload hx hb d_Y_walk_18 (lv_at hl 5 rfl) ?_
        refine x_if_lt (tgt := 89) hx hb d_Y_walk_20 (by decide) ?_
        refine lv_aload_n hx hb d_Y_walk_23 rfl (lv_at hl 0 rfl) ?_
        refine va_get (D := (dC, dI)) (C := R_Y) (T := F_Y) (N := 3) hx hb hT i_Y hown hK hP 18 rfl rfl 1 (by decide) (hT _ k_Y_15) (fun _ h9 => h9) (v := .int (nI k)) rfl d_Y_walk_24 ?_
        refine lv_bipush (v := nI 60) hx hb d_Y_walk_27 (by decide) ?_
        refine x_icmp_ge (tgt := 89) hx hb d_Y_walk_29 (by decide) (fun c29 => ?_) (fun c29 => ?_)
        · exact x_mv (wl := wA a t) (au_wn (au_ws σ (S)) (k)) hx hb hr hlk hK hP hD hS d_Y_walk_89 (by exfalso; omega)
        · refine lv_aload_n hx hb d_Y_walk_32 rfl (lv_at hl 1 rfl) ?_
          refine lv_iload_n hx hb d_Y_walk_33 rfl (lv_at hl 2 rfl) ?_
          refine lv_aload_n hx hb d_Y_walk_34 rfl (lv_at hl 0 rfl) ?_
          refine va_get (D := (dC, dI)) (C := R_Y) (T := F_Y) (N := 3) hx hb hT i_Y hown hK hP 18 rfl rfl 0 (by decide) (hT _ k_Y_9) (fun _ h9 => h9) (v := .ref (a 19)) rfl d_Y_walk_35 ?_
          refine lv_aload_n hx hb d_Y_walk_38 rfl (lv_at hl 0 rfl) ?_
          refine va_get (D := (dC, dI)) (C := R_Y) (T := F_Y) (N := 3) hx hb hT i_Y hown hK hP 18 rfl rfl 1 (by decide) (hT _ k_Y_15) (fun _ h9 => h9) (v := .int (nI k)) rfl d_Y_walk_39 ?_
          refine lv_iconst (v := nI 1) hx hb d_Y_walk_42 (by decide) ?_
          refine x_isub hx hb d_Y_walk_43 ?_
          refine x_iald hx hb hK hP 19 12 (f := S) rfl rfl d_Y_walk_44 (by omega) ?_
          refine x_cl (x_runV ⟨hx, hb, hml, hown, hT⟩ (c_K_targetsOf l dC dI a t (au_wn (au_ws σ S) k) q (S (k - 1)) hq (hS9 _)) f_K_targetsOf k_Y_47 blR (va_recv hK hP (ci := 3) (q0 := 10) rfl rfl) (x_bR hK hP hN) hl.1 d_Y_walk_45 rfl (lv_room (Nat.le_of_ble_eq_true rfl)) ⟨Nat.le_of_ble_eq_true rfl, Nat.le_of_ble_eq_true rfl⟩ ⟨rfl, rfl⟩ ⟨Nat.le_refl 0, Nat.le_refl 0⟩ rfl) (fun r45 q45 => ?_)
          subst q45
          refine lv_aload_n hx hb d_Y_walk_48 rfl (lv_at hl 0 rfl) ?_
          refine va_get (D := (dC, dI)) (C := R_Y) (T := F_Y) (N := 3) hx hb hT i_Y hown hK hP 18 rfl rfl 2 (by decide) (hT _ k_Y_19) (fun _ h9 => h9) (v := .ref (a 20)) rfl d_Y_walk_49 ?_
          refine lv_iload hx hb d_Y_walk_52 (lv_at hl 5 rfl) ?_
          refine x_lald hx hb hK hP 20 13 (f := (a_aw σ)) rfl rfl d_Y_walk_54 (by omega) ?_
          refine lv_land hx hb d_Y_walk_55 ?_
          refine lv_lstore (lv' := [(6, .long ((a_tg σ (q * 61 + S (k - 1))) &&& ((a_aw σ) d))), (0, .ref (a 18)), (1, .ref (a 10)), (2, .int (nI q)), (3, .int (nI x)), (4, .int (nI (E + 1))), (5, .int (nI d))]) hx hb d_Y_walk_56 hl (by decide) rfl (fun ls hl => ?_)
          refine lv_aload_n hx hb d_Y_walk_58 rfl (lv_at hl 1 rfl) ?_
          refine va_get (D := (dC, dI)) (C := R_Y) (T := F_Y) (N := 3) hx hb hT i_Y hown hK hP 18 rfl rfl 0 (by decide) (hT _ k_Y_9) (fun _ h9 => h9) (v := .ref (a 19)) rfl d_Y_walk_59 ?_
          refine lv_aload_n hx hb d_Y_walk_62 rfl (lv_at hl 1 rfl) ?_
          refine va_get (D := (dC, dI)) (C := R_Y) (T := F_Y) (N := 3) hx hb hT i_Y hown hK hP 18 rfl rfl 1 (by decide) (hT _ k_Y_15) (fun _ h9 => h9) (v := .int (nI k)) rfl d_Y_walk_63 ?_
          refine lv_lload hx hb d_Y_walk_66 (lv_at hl 0 rfl) ?_
          refine lv_iconst (v := nI 0) hx hb d_Y_walk_68 (by decide) ?_
          refine x_ci (x_runSN ⟨hx, hb, hml, hown, hT⟩ hN (c_A_nthOf l ((a_tg σ (q * 61 + S (k - 1))) &&& ((a_aw σ) d)) 0 (by decide)) f_A_nthOf k_Y_51 blT (x_bT hN) hl.1 d_Y_walk_69 rfl (lv_room (Nat.le_of_ble_eq_true rfl)) ⟨Nat.le_of_ble_eq_true rfl, Nat.le_of_ble_eq_true rfl⟩ ⟨rfl, rfl⟩ ⟨Nat.le_refl 0, Nat.le_refl 0⟩ rfl) (fun r69 q69 => ?_)
          obtain ⟨v, hv, rfl, hnv⟩ := NTH_N q69
          refine x_iast hx hb hK hP hD hS 19 12 (f := S) rfl rfl d_Y_walk_72 (by omega) (fun H locs hP hD hS => ?_)
          have hP : va_P (dC, dI) classes (wA a t (au_wn (au_ws σ (updN S (k) (v))) (k))) H := hP
          have hD : va_D A (wA a t (au_wn (au_ws σ (updN S (k) (v))) (k))) := hD
          refine lv_aload_n hx hb d_Y_walk_73 rfl (lv_at hl 1 rfl) ?_
          refine lv_dup hx hb d_Y_walk_74 rfl ?_
          refine va_get (D := (dC, dI)) (C := R_Y) (T := F_Y) (N := 3) hx hb hT i_Y hown hK hP 18 rfl rfl 1 (by decide) (hT _ k_Y_15) (fun _ h9 => h9) (v := .int (nI k)) rfl d_Y_walk_75 ?_
          refine lv_iconst (v := nI 1) hx hb d_Y_walk_78 (by decide) ?_
          refine x_iadd hx hb d_Y_walk_79 ?_
          refine va_put (D := (dC, dI)) (v := .int (nI (k + 1))) (ty := .int) (C := R_Y) (T := F_Y) (N := 3) hx hb hT i_Y ft_Y ft_Y_ok n_Y hown hK hP hD hS 18 rfl rfl 1 (by decide) (hT _ k_Y_15) (fun _ h9 => h9) rfl (by decide +kernel) rfl rfl (Nat.le_of_ble_eq_true rfl) d_Y_walk_80 (fun H locs hP hD hS => ?_)
          have hP : va_P (dC, dI) classes (wA a t (au_wn (au_ws σ (updN S (k) (v))) (k + 1))) H := hP
          have hD : va_D A (wA a t (au_wn (au_ws σ (updN S (k) (v))) (k + 1))) := hD
          have hl : lv_has ls 8 [(0, .ref (a 18)), (1, .ref (a 10)), (2, .int (nI q)), (3, .int (nI x)), (4, .int (nI (E + 1))), (5, .int (nI d))] := lv_sub hl [1, 2, 3, 4, 5, 6] rfl
          rcases Nat.eq_zero_or_pos d with hd0 | hd0
          · subst hd0
            refine lv_iinc (v := -1) (lv' := [(5, .int (-1)), (0, .ref (a 18)), (1, .ref (a 10)), (2, .int (nI q)), (3, .int (nI x)), (4, .int (nI (E + 1)))]) hx hb d_Y_walk_83 hl (k := 5) rfl (by decide) (by decide) rfl (fun ls hl => ?_)
            refine lv_goto (tgt := 18) hx hb d_Y_walk_86 (by decide) ?_
            exact ih18 _ _ _ H locs ls (by omega) (updN_le hS9 hv) (by rw [updN_n (by omega)]; exact hS0) (wk_s hSj hk1.1 hdk hnv) (Or.inr ⟨rfl, by omega⟩) (by omega) hP hD hS (lv_sub hl [1, 2, 3, 4, 5, 0] rfl)
          · obtain ⟨d', rfl⟩ : ∃ d', d = d' + 1 := ⟨d - 1, by omega⟩
            refine x_idec (lv' := [(5, .int (nI d')), (0, .ref (a 18)), (1, .ref (a 10)), (2, .int (nI q)), (3, .int (nI x)), (4, .int (nI (E + 1)))]) hx hb d_Y_walk_83 hl (k := 5) rfl (by decide) rfl (fun ls hl => ?_)
            refine lv_goto (tgt := 18) hx hb d_Y_walk_86 (by decide) ?_
            exact ih18 _ _ _ H locs ls (by omega) (updN_le hS9 hv) (by rw [updN_n (by omega)]; exact hS0) (wk_s hSj hk1.1 hdk hnv) (Or.inl ⟨d', rfl, by omega⟩) (by omega) hP hD hS (lv_sub hl [1, 2, 3, 4, 5, 0] rfl)
      · refine lv_iload hx hb d_Y_walk_18 (lv_at hl 5 rfl) ?_
        refine lv_if_lt (tgt := 89) hx hb d_Y_walk_20 (by decide) (fun _ => ?_) (fun h9 => absurd (by decide) h9)
        exact x_mv (wl := wA a t) (au_wn (au_ws σ (S)) (k)) hx hb hr hlk hK hP hD hS d_Y_walk_89 ⟨S, by rw [hdk], hS9, hS0, fun j hj => hSj j (by omega)⟩
  exact hloop18 _ 1 _ _ _ _ ls (by omega) (updN_le hws hx9) updN_s (fun j hj => by omega) (Or.inl ⟨E, rfl, by omega⟩) (Nat.lt_succ_self _) hP hD hS (lv_sub hl [1, 2, 3, 4, 5, 0] rfl)

set_option maxRecDepth 100000 in
set_option maxHeartbeats 4000000 in
theorem c_Y_lay (l : Launch) (dC : Nat → ClassId) (dI : Nat → Nat → Nat) (a : Nat → Nat) (t : Nat → ClassId) (σ : SA) (sz : Nat) (hG : GA σ) (q x z : Nat) (hq : q < 4) (hx9 : x ≤ 60) (hz : z ≤ 60) (hxz : x ≠ z) : Met l y_Y_lay (wS y_Y_lay b_Y_lay 6 (some .boolean)) (rD 4) (va_Pc [.ref (a 18), .ref (a 10), .int (nI q), .int (nI x), .int (nI z)] (MB (dC, dI) (yA t) (wA a t σ) sz)) (va_Qi (fun (r : Int32) (u : SA) => ∃ V : Nat → Int64, (r = nI 0 ∧ u = au_aw σ V ∧ ∀ d, d < 60 → ¬ levA (a_tg σ) q z d x) ∨ ∃ (d : Nat) (S : Nat → Nat), r = nI 1 ∧ d < 59 ∧ levA (a_tg σ) q z (d + 1) x ∧ u = au_wn (au_ws (au_aw σ V) S) (d + 2) ∧ (∀ j, S j ≤ 60) ∧ S 0 = x ∧ (∀ j, j < d + 1 → NTH (bt6 (a_tg σ (q * 61 + S j) &&& V (d - j))) 60 0 (nI (S (j + 1)))) ∧ ∀ e, e ≤ d + 1 → ∀ b, b < 64 → (bt6 (V e) b = true ↔ levA (a_tg σ) q z e b)) (fun u => ME (dC, dI) (yA t) (va_A (wA a t σ) sz) (wA a t u)) (va_A (wA a t σ) sz)) 0 0 (va_A (wA a t σ) sz) := by
  refine x_enter (by decide) (Nat.le_of_ble_eq_true rfl) ?_
  intro p e s m below meth c ls hx hb hr hml hT hown hlk hnm hl hB
  obtain ⟨rfl, hP, hK, hN, hD0⟩ := hB
  have hD := hD0.self (sz := s.heap.size)
  generalize hAe : va_A (wA a t σ) s.heap.size = A at hD ⊢
  have hA : ∀ q : Nat, s.heap.size ≤ q → A q := fun q h => by rw [← hAe]; exact Or.inr h
  have hS : va_S A s.heap s.heap [] := va_S.rf
  have hP : va_P (dC, dI) classes (wA a t σ) s.heap := hP
  have hl : lv_has ls 6 [(0, .ref (a 18)), (1, .ref (a 10)), (2, .int (nI q)), (3, .int (nI x)), (4, .int (nI z))] := hl
  have hown : s.vm.findClass R_Y = some m.cls := hown
  have hG2 := hG
  obtain ⟨g_sn, g_sg, g_tn, g_tx, g_kd, g_lv, g_le, g_ln, g_hn, g_lf, g_lt, g_lc, g_rh, g_rn, g_ws, g_wn⟩ := hG
  refine lv_aload_n hx hb d_Y_lay_0 rfl (lv_at hl 0 rfl) ?_
  refine lv_aload_n hx hb d_Y_lay_1 rfl (lv_at hl 1 rfl) ?_
  refine lv_iload_n hx hb d_Y_lay_2 rfl (lv_at hl 2 rfl) ?_
  refine lv_iload_n hx hb d_Y_lay_3 rfl (lv_at hl 3 rfl) ?_
  refine lv_iload hx hb d_Y_lay_4 (lv_at hl 4 rfl) ?_
  refine x_cMi (wl := wA a t) (x_runV ⟨hx, hb, hml, hown, hT⟩ (c_Y_measure l dC dI a t σ s.heap.size q x z hq hx9 hz) f_Y_measure k_Y_23 blM (va_recv hK hP (ci := 5) (q0 := 18) rfl rfl) (x_bM hK hP hN hD) hl.1 d_Y_lay_6 rfl (lv_room (Nat.le_of_ble_eq_true rfl)) ⟨Nat.le_of_ble_eq_true rfl, Nat.le_of_ble_eq_true rfl⟩ ⟨rfl, rfl⟩ ⟨Nat.le_refl 0, Nat.le_refl 0⟩ rfl) hD hS hA (fun r6 u6 H locs q6 hP hD hS => ?_)
  obtain ⟨V, rfl, hV⟩ := q6
  rcases hV with ⟨d0, hd0, rfl, hlev, hV⟩ | ⟨rfl, hno⟩
  · obtain ⟨d, rfl⟩ : ∃ d, d0 = d + 1 := ⟨d0 - 1, by rcases Nat.eq_zero_or_pos d0 with h9 | h9; rw [h9] at hlev; exact absurd (levA_0.mp hlev) hxz; omega⟩
    refine lv_istore (lv' := [(5, .int (nI (d + 1))), (0, .ref (a 18)), (1, .ref (a 10)), (2, .int (nI q)), (3, .int (nI x)), (4, .int (nI z))]) hx hb d_Y_lay_9 hl (by decide) rfl (fun ls hl => ?_)
    refine lv_iload hx hb d_Y_lay_11 (lv_at hl 0 rfl) ?_
    refine lv_iconst (v := -1) hx hb d_Y_lay_13 (by decide) ?_
    refine lv_icmp_ne (tgt := 19) hx hb d_Y_lay_14 (by decide) (fun _ => ?_) (fun h9 => absurd h9 (nI_m1 (by omega)))
    refine lv_aload_n hx hb d_Y_lay_19 rfl (lv_at hl 1 rfl) ?_
    refine lv_aload_n hx hb d_Y_lay_20 rfl (lv_at hl 2 rfl) ?_
    refine lv_iload_n hx hb d_Y_lay_21 rfl (lv_at hl 3 rfl) ?_
    refine lv_iload_n hx hb d_Y_lay_22 rfl (lv_at hl 4 rfl) ?_
    refine lv_iload hx hb d_Y_lay_23 (lv_at hl 0 rfl) ?_
    refine x_cMv (wl := wA a t) (x_runV ⟨hx, hb, hml, hown, hT⟩ (c_Y_walk l dC dI a t (au_aw σ V) H.size q x d hq hx9 (by omega) g_ws) f_Y_walk k_Y_27 blM (va_recv hK hP (ci := 5) (q0 := 18) rfl rfl) (x_bM hK hP hN hD) hl.1 d_Y_lay_25 rfl (lv_room (Nat.le_of_ble_eq_true rfl)) ⟨Nat.le_of_ble_eq_true rfl, Nat.le_of_ble_eq_true rfl⟩ ⟨rfl, rfl⟩ ⟨Nat.le_refl 0, Nat.le_refl 0⟩ rfl) hD hS hA (fun u25 H locs q25 hP hD hS => ?_)
    obtain ⟨S, rfl, hS9, hS0, hSj⟩ := q25
    have hP : va_P (dC, dI) classes (wA a t (au_aw (au_wn (au_ws σ (S)) (d + 2)) (V))) H := hP
    have hD : va_D A (wA a t (au_aw (au_wn (au_ws σ (S)) (d + 2)) (V))) := hD
    refine lv_iconst (v := nI 1) hx hb d_Y_lay_28 (by decide) ?_
    exact x_mz (wl := wA a t) (au_aw (au_wn (au_ws σ (S)) (d + 2)) (V)) hx hb hr hlk hK hP hD hS d_Y_lay_29 rfl ⟨V, Or.inr ⟨d, S, rfl, by omega, hlev, rfl, hS9, hS0, hSj, hV⟩⟩
  · refine lv_istore (lv' := [(5, .int (-1)), (0, .ref (a 18)), (1, .ref (a 10)), (2, .int (nI q)), (3, .int (nI x)), (4, .int (nI z))]) hx hb d_Y_lay_9 hl (by decide) rfl (fun ls hl => ?_)
    refine lv_iload hx hb d_Y_lay_11 (lv_at hl 0 rfl) ?_
    refine lv_iconst (v := -1) hx hb d_Y_lay_13 (by decide) ?_
    refine lv_icmp_ne (tgt := 19) hx hb d_Y_lay_14 (by decide) (fun h9 => absurd rfl h9) (fun _ => ?_)
    refine lv_iconst (v := nI 0) hx hb d_Y_lay_17 (by decide) ?_
    exact x_mz (wl := wA a t) (au_aw σ (V)) hx hb hr hlk hK hP hD hS d_Y_lay_18 rfl ⟨V, Or.inl ⟨rfl, rfl, hno⟩⟩

def ADH (σ : SA) (kk : Nat) (r : Int32) (u : SA) : Prop := (a_hn σ = 60 ∧ r = nI 0 ∧ u = σ) ∨ (a_hn σ < 60 ∧ ((∃ j, 1 ≤ j ∧ j ≤ a_hn σ ∧ r = -nI j ∧ FST (fun h => h ≠ 0 ∧ a_lv σ h = 1 ∧ a_kd σ h = kk ∧ a_same σ h) (a_hn σ) (nI j) ∧ u = σ) ∨ (FST (fun h => h ≠ 0 ∧ a_lv σ h = 1 ∧ a_kd σ h = kk ∧ a_same σ h) (a_hn σ) (nI 0) ∧ r = nI (a_hn σ + 1) ∧ u = au_hn (au_ln (au_le (au_lv (au_kd σ (updN (a_kd σ) (a_hn σ + 1) kk)) (updN (a_lv σ) (a_hn σ + 1) 1)) (cpT (a_le σ) ((a_hn σ + 1) * 20) (a_tx σ) (a_tn σ))) (updN (a_ln σ) (a_hn σ + 1) (a_tn σ))) (a_hn σ + 1))))
set_option maxRecDepth 100000 in
set_option maxHeartbeats 4000000 in
theorem c_A_addHeading (l : Launch) (dC : Nat → ClassId) (dI : Nat → Nat → Nat) (a : Nat → Nat) (t : Nat → ClassId) (σ : SA) (sz : Nat) (hG : GA σ) (kk : Nat) (hkk : kk < 4) : Met l y_A_addHeading (wS y_A_addHeading b_A_addHeading 3 (some .int)) (rD 3) (va_Pc [.ref (a 0), .int (nI kk)] (MB (dC, dI) (yA t) (wA a t σ) sz)) (va_Qi (fun (r : Int32) (u : SA) => ADH σ kk r u) (fun u => ME (dC, dI) (yA t) (va_A (wA a t σ) sz) (wA a t u)) (va_A (wA a t σ) sz)) 0 0 (va_A (wA a t σ) sz) := by
  refine x_enter (by decide) (Nat.le_of_ble_eq_true rfl) ?_
  intro p e s m below meth c ls hx hb hr hml hT hown hlk hnm hl hB
  obtain ⟨rfl, hP, hK, hN, hD0⟩ := hB
  have hD := hD0.self (sz := s.heap.size)
  generalize hAe : va_A (wA a t σ) s.heap.size = A at hD ⊢
  have hA : ∀ q : Nat, s.heap.size ≤ q → A q := fun q h => by rw [← hAe]; exact Or.inr h
  have hS : va_S A s.heap s.heap [] := va_S.rf
  have hP : va_P (dC, dI) classes (wA a t σ) s.heap := hP
  have hl : lv_has ls 3 [(0, .ref (a 0)), (1, .int (nI kk))] := hl
  have hown : s.vm.findClass R_A = some m.cls := hown
  have hG2 := hG
  obtain ⟨g_sn, g_sg, g_tn, g_tx, g_kd, g_lv, g_le, g_ln, g_hn, g_lf, g_lt, g_lc, g_rh, g_rn, g_ws, g_wn⟩ := hG
  refine lv_aload_n hx hb d_A_addHeading_0 rfl (lv_at hl 0 rfl) ?_
  refine va_get (D := (dC, dI)) (C := R_A) (T := F_A) (N := 6) hx hb hT i_A hown hK hP 0 rfl rfl 2 (by decide) (hT _ k_A_26) (fun _ h9 => h9) (v := .ref (a 5)) rfl d_A_addHeading_1 ?_
  refine x_ci (x_runV ⟨hx, hb, hml, hown, hT⟩ (c_H_isFull l dC dI a t σ hG2) f_H_isFull k_A_162 blR (va_recv hK hP (ci := 2) (q0 := 5) rfl rfl) (x_bR hK hP hN) hl.1 d_A_addHeading_4 rfl (lv_room (Nat.le_of_ble_eq_true rfl)) ⟨Nat.le_of_ble_eq_true rfl, Nat.le_of_ble_eq_true rfl⟩ ⟨rfl, rfl⟩ ⟨Nat.le_refl 0, Nat.le_refl 0⟩ rfl) (fun r4 q4 => ?_)
  rcases q4 with ⟨rfl, hq⟩ | ⟨rfl, hq⟩
  · refine x_if_eq (tgt := 12) hx hb d_A_addHeading_7 (by decide) (fun h => absurd h (by decide)) (fun _ => ?_)
    refine lv_iconst (v := nI 0) hx hb d_A_addHeading_10 (by decide) ?_
    exact x_mi (wl := wA a t) σ hx hb hr hlk hK hP hD hS d_A_addHeading_11 (Or.inl ⟨by omega, rfl, rfl⟩)
  · refine x_if_eq (tgt := 12) hx hb d_A_addHeading_7 (by decide) (fun _ => ?_) (fun h => absurd h (by decide))
    refine lv_aload_n hx hb d_A_addHeading_12 rfl (lv_at hl 0 rfl) ?_
    refine va_get (D := (dC, dI)) (C := R_A) (T := F_A) (N := 6) hx hb hT i_A hown hK hP 0 rfl rfl 2 (by decide) (hT _ k_A_26) (fun _ h9 => h9) (v := .ref (a 5)) rfl d_A_addHeading_13 ?_
    refine lv_iload_n hx hb d_A_addHeading_16 rfl (lv_at hl 1 rfl) ?_
    refine lv_aload_n hx hb d_A_addHeading_17 rfl (lv_at hl 0 rfl) ?_
    refine va_get (D := (dC, dI)) (C := R_A) (T := F_A) (N := 6) hx hb hT i_A hown hK hP 0 rfl rfl 1 (by decide) (hT _ k_A_19) (fun _ h9 => h9) (v := .ref (a 3)) rfl d_A_addHeading_18 ?_
    refine lv_iconst (v := nI 0) hx hb d_A_addHeading_21 (by decide) ?_
    refine x_ci (x_runV ⟨hx, hb, hml, hown, hT⟩ (c_H_firstOfKind l dC dI a t σ hG2 kk 0 hkk (by omega)) f_H_firstOfKind k_A_89 blR (va_recv hK hP (ci := 2) (q0 := 5) rfl rfl) (x_bR hK hP hN) hl.1 d_A_addHeading_22 rfl (lv_room (Nat.le_of_ble_eq_true rfl)) ⟨Nat.le_of_ble_eq_true rfl, Nat.le_of_ble_eq_true rfl⟩ ⟨rfl, rfl⟩ ⟨Nat.le_refl 0, Nat.le_refl 0⟩ rfl) (fun r22 q22 => ?_)
    have qF := q22
    rcases q22 with ⟨j, hj1, hj2, _, _, rfl⟩ | ⟨_, rfl⟩
    · refine lv_istore_n (lv' := [(2, .int (nI j)), (0, .ref (a 0)), (1, .int (nI kk))]) hx hb d_A_addHeading_25 rfl hl (by decide) rfl (fun ls hl => ?_)
      refine lv_iload_n hx hb d_A_addHeading_26 rfl (lv_at hl 0 rfl) ?_
      refine x_if_eq (tgt := 33) hx hb d_A_addHeading_27 (by decide) (fun c27 => ?_) (fun c27 => ?_)
      · refine lv_aload_n hx hb d_A_addHeading_33 rfl (lv_at hl 1 rfl) ?_
        refine va_get (D := (dC, dI)) (C := R_A) (T := F_A) (N := 6) hx hb hT i_A hown hK hP 0 rfl rfl 2 (by decide) (hT _ k_A_26) (fun _ h9 => h9) (v := .ref (a 5)) rfl d_A_addHeading_34 ?_
        refine lv_iload_n hx hb d_A_addHeading_37 rfl (lv_at hl 2 rfl) ?_
        refine lv_aload_n hx hb d_A_addHeading_38 rfl (lv_at hl 1 rfl) ?_
        refine va_get (D := (dC, dI)) (C := R_A) (T := F_A) (N := 6) hx hb hT i_A hown hK hP 0 rfl rfl 1 (by decide) (hT _ k_A_19) (fun _ h9 => h9) (v := .ref (a 3)) rfl d_A_addHeading_39 ?_
        refine x_cMi (wl := wA a t) (x_runV ⟨hx, hb, hml, hown, hT⟩ (c_H_add l dC dI a t σ s.heap.size hG2 kk hkk (by omega)) f_H_add k_A_163 blM (va_recv hK hP (ci := 2) (q0 := 5) rfl rfl) (x_bM hK hP hN hD) hl.1 d_A_addHeading_42 rfl (lv_room (Nat.le_of_ble_eq_true rfl)) ⟨Nat.le_of_ble_eq_true rfl, Nat.le_of_ble_eq_true rfl⟩ ⟨rfl, rfl⟩ ⟨Nat.le_refl 0, Nat.le_refl 0⟩ rfl) hD hS hA (fun r42 u42 H locs q42 hP hD hS => ?_)
        obtain ⟨rfl, rfl⟩ := q42
        exact x_mi (wl := wA a t) (au_hn (au_ln (au_le (au_lv (au_kd σ (updN (a_kd σ) (a_hn σ + 1) kk)) (updN (a_lv σ) (a_hn σ + 1) 1)) (cpT (a_le σ) ((a_hn σ + 1) * 20) (a_tx σ) (a_tn σ))) (updN (a_ln σ) (a_hn σ + 1) (a_tn σ))) (a_hn σ + 1)) hx hb hr hlk hK hP hD hS d_A_addHeading_45 (Or.inr ⟨by omega, Or.inr ⟨by first | exact qF | (exfalso; omega), rfl, rfl⟩⟩)
      · refine lv_iload_n hx hb d_A_addHeading_30 rfl (lv_at hl 0 rfl) ?_
        refine lv_ineg hx hb d_A_addHeading_31 ?_
        exact x_mi (wl := wA a t) σ hx hb hr hlk hK hP hD hS d_A_addHeading_32 (Or.inr ⟨by omega, Or.inl ⟨j, hj1, hj2, rfl, qF, rfl⟩⟩)
    · refine lv_istore_n (lv' := [(2, .int (nI 0)), (0, .ref (a 0)), (1, .int (nI kk))]) hx hb d_A_addHeading_25 rfl hl (by decide) rfl (fun ls hl => ?_)
      refine lv_iload_n hx hb d_A_addHeading_26 rfl (lv_at hl 0 rfl) ?_
      refine x_if_eq (tgt := 33) hx hb d_A_addHeading_27 (by decide) (fun _ => ?_) (fun h => absurd h (by decide))
      refine lv_aload_n hx hb d_A_addHeading_33 rfl (lv_at hl 1 rfl) ?_
      refine va_get (D := (dC, dI)) (C := R_A) (T := F_A) (N := 6) hx hb hT i_A hown hK hP 0 rfl rfl 2 (by decide) (hT _ k_A_26) (fun _ h9 => h9) (v := .ref (a 5)) rfl d_A_addHeading_34 ?_
      refine lv_iload_n hx hb d_A_addHeading_37 rfl (lv_at hl 2 rfl) ?_
      refine lv_aload_n hx hb d_A_addHeading_38 rfl (lv_at hl 1 rfl) ?_
      refine va_get (D := (dC, dI)) (C := R_A) (T := F_A) (N := 6) hx hb hT i_A hown hK hP 0 rfl rfl 1 (by decide) (hT _ k_A_19) (fun _ h9 => h9) (v := .ref (a 3)) rfl d_A_addHeading_39 ?_
      refine x_cMi (wl := wA a t) (x_runV ⟨hx, hb, hml, hown, hT⟩ (c_H_add l dC dI a t σ s.heap.size hG2 kk hkk (by omega)) f_H_add k_A_163 blM (va_recv hK hP (ci := 2) (q0 := 5) rfl rfl) (x_bM hK hP hN hD) hl.1 d_A_addHeading_42 rfl (lv_room (Nat.le_of_ble_eq_true rfl)) ⟨Nat.le_of_ble_eq_true rfl, Nat.le_of_ble_eq_true rfl⟩ ⟨rfl, rfl⟩ ⟨Nat.le_refl 0, Nat.le_refl 0⟩ rfl) hD hS hA (fun r42 u42 H locs q42 hP hD hS => ?_)
      obtain ⟨rfl, rfl⟩ := q42
      exact x_mi (wl := wA a t) (au_hn (au_ln (au_le (au_lv (au_kd σ (updN (a_kd σ) (a_hn σ + 1) kk)) (updN (a_lv σ) (a_hn σ + 1) 1)) (cpT (a_le σ) ((a_hn σ + 1) * 20) (a_tx σ) (a_tn σ))) (updN (a_ln σ) (a_hn σ + 1) (a_tn σ))) (a_hn σ + 1)) hx hb hr hlk hK hP hD hS d_A_addHeading_45 (Or.inr ⟨by omega, Or.inr ⟨by first | exact qF | (exfalso; omega), rfl, rfl⟩⟩)

theorem src0 {tg : Nat → Int64} {x : Nat} (hx : x < 64) {r : Int64} (h : ∀ b, bt6 r b = true ↔ ∃ h, h < 60 ∧ b = h + 1 ∧ ¬ (tg (0 * 61 + (h + 1)) &&& sg x) = 0) : ¬ r = 0 ↔ ∃ h, h < 60 ∧ bt6 (tg (0 * 61 + (h + 1))) x = true := by
  constructor
  · intro hr
    rw [b6_zero] at hr
    obtain ⟨j, hj⟩ := Classical.not_forall.mp hr
    obtain ⟨hj1, hj2⟩ := Classical.not_imp.mp hj
    have hj3 : bt6 r j = true := by cases hz : bt6 r j; exact absurd hz hj2; rfl
    obtain ⟨k, hk, _, h3⟩ := (h j).mp hj3
    rw [b6_hold hx] at h3
    exact ⟨k, hk, by cases hz : bt6 (tg (0 * 61 + (k + 1))) x; exact absurd hz h3; rfl⟩
  · rintro ⟨k, hk, h2⟩ hr
    have h4 := (h (k + 1)).mpr ⟨k, hk, rfl, by rw [b6_hold hx, h2]; decide⟩
    rw [hr, b6_0] at h4
    exact absurd h4 (by decide)
set_option maxRecDepth 100000 in
set_option maxHeartbeats 4000000 in
theorem c_A_wouldChainSees (l : Launch) (dC : Nat → ClassId) (dI : Nat → Nat → Nat) (a : Nat → Nat) (t : Nat → ClassId) (σ : SA) (x z : Nat) (hx9 : x ≤ 60) (hz : z ≤ 60) : Met l y_A_wouldChainSees (wS y_A_wouldChainSees b_A_wouldChainSees 3 (some .boolean)) (rD 3) (va_Pc [.ref (a 0), .int (nI x), .int (nI z)] (RB (dC, dI) (yA t) (wA a t σ))) (vp_Si (fun r => BR r (¬ a_tg σ (0 * 61 + x) = 0 ∨ (∃ h, h < 60 ∧ bt6 (a_tg σ (0 * 61 + (h + 1))) x = true) ∨ ¬ a_tg σ (0 * 61 + z) = 0))) 0 0 (fun _ => False) := by
  refine x_enter (by decide) (Nat.le_of_ble_eq_true rfl) ?_
  intro p e s m below meth c ls hx hb hr hml hT hown hlk hnm hl hB
  obtain ⟨hP, hK, hN⟩ := hB
  have hl : lv_has ls 3 [(0, .ref (a 0)), (1, .int (nI x)), (2, .int (nI z))] := hl
  have hown : s.vm.findClass R_A = some m.cls := hown
  refine lv_aload_n hx hb d_A_wouldChainSees_0 rfl (lv_at hl 0 rfl) ?_
  refine va_get (D := (dC, dI)) (C := R_A) (T := F_A) (N := 6) hx hb hT i_A hown hK hP 0 rfl rfl 3 (by decide) (hT _ k_A_33) (fun _ h9 => h9) (v := .ref (a 10)) rfl d_A_wouldChainSees_1 ?_
  refine lv_iconst (v := nI 0) hx hb d_A_wouldChainSees_4 (by decide) ?_
  refine lv_iload_n hx hb d_A_wouldChainSees_5 rfl (lv_at hl 1 rfl) ?_
  refine x_cl (x_runV ⟨hx, hb, hml, hown, hT⟩ (c_K_targetsOf l dC dI a t σ 0 x (by omega) (by omega)) f_K_targetsOf k_A_116 blR (va_recv hK hP (ci := 3) (q0 := 10) rfl rfl) (x_bR hK hP hN) hl.1 d_A_wouldChainSees_6 rfl (lv_room (Nat.le_of_ble_eq_true rfl)) ⟨Nat.le_of_ble_eq_true rfl, Nat.le_of_ble_eq_true rfl⟩ ⟨rfl, rfl⟩ ⟨Nat.le_refl 0, Nat.le_refl 0⟩ rfl) (fun r6 q6 => ?_)
  subst q6
  refine lv_lconst (v := 0) hx hb d_A_wouldChainSees_9 (by decide) ?_
  refine x_lif_ne (tgt := 45) hx hb d_A_wouldChainSees_10 d_A_wouldChainSees_11 (by decide) (fun c10 => ?_) (fun c10 => ?_)
  · refine lv_iconst (v := nI 1) hx hb d_A_wouldChainSees_45 (by decide) ?_
    refine lv_goto (tgt := 50) hx hb d_A_wouldChainSees_46 (by decide) ?_
    exact x_rz hx hb hr hlk d_A_wouldChainSees_50 rfl (Or.inl ⟨rfl, by first | exact Or.inl c10 | exact Or.inr (Or.inl (hsr.mp c27)) | exact Or.inr (Or.inr c41)⟩)
  · refine lv_aload_n hx hb d_A_wouldChainSees_14 rfl (lv_at hl 0 rfl) ?_
    refine va_get (D := (dC, dI)) (C := R_A) (T := F_A) (N := 6) hx hb hT i_A hown hK hP 0 rfl rfl 3 (by decide) (hT _ k_A_33) (fun _ h9 => h9) (v := .ref (a 10)) rfl d_A_wouldChainSees_15 ?_
    refine lv_iconst (v := nI 0) hx hb d_A_wouldChainSees_18 (by decide) ?_
    refine lv_iload_n hx hb d_A_wouldChainSees_19 rfl (lv_at hl 1 rfl) ?_
    refine x_cl (x_runS ⟨hx, hb, hml, hown, hT⟩ (c_A_setOf l x (by omega)) f_A_setOf k_A_104 blT (x_bT hN) hl.1 d_A_wouldChainSees_20 rfl (lv_room (Nat.le_of_ble_eq_true rfl)) ⟨Nat.le_of_ble_eq_true rfl, Nat.le_of_ble_eq_true rfl⟩ ⟨rfl, rfl⟩ ⟨Nat.le_refl 0, Nat.le_refl 0⟩ rfl) (fun r20 q20 => ?_)
    subst q20
    refine x_cl (x_runV ⟨hx, hb, hml, hown, hT⟩ (c_K_sourcesOf l dC dI a t σ 0 (sg x) (by omega)) f_K_sourcesOf k_A_108 blR (va_recv hK hP (ci := 3) (q0 := 10) rfl rfl) (x_bR hK hP hN) hl.1 d_A_wouldChainSees_23 rfl (lv_room (Nat.le_of_ble_eq_true rfl)) ⟨Nat.le_of_ble_eq_true rfl, Nat.le_of_ble_eq_true rfl⟩ ⟨rfl, rfl⟩ ⟨Nat.le_refl 0, Nat.le_refl 0⟩ rfl) (fun nv q23 => ?_)
    have hsr := src0 (by omega) q23
    refine lv_lconst (v := 0) hx hb d_A_wouldChainSees_26 (by decide) ?_
    refine x_lif_ne (tgt := 45) hx hb d_A_wouldChainSees_27 d_A_wouldChainSees_28 (by decide) (fun c27 => ?_) (fun c27 => ?_)
    · refine lv_iconst (v := nI 1) hx hb d_A_wouldChainSees_45 (by decide) ?_
      refine lv_goto (tgt := 50) hx hb d_A_wouldChainSees_46 (by decide) ?_
      exact x_rz hx hb hr hlk d_A_wouldChainSees_50 rfl (Or.inl ⟨rfl, by first | exact Or.inl c10 | exact Or.inr (Or.inl (hsr.mp c27)) | exact Or.inr (Or.inr c41)⟩)
    · refine lv_aload_n hx hb d_A_wouldChainSees_31 rfl (lv_at hl 0 rfl) ?_
      refine va_get (D := (dC, dI)) (C := R_A) (T := F_A) (N := 6) hx hb hT i_A hown hK hP 0 rfl rfl 3 (by decide) (hT _ k_A_33) (fun _ h9 => h9) (v := .ref (a 10)) rfl d_A_wouldChainSees_32 ?_
      refine lv_iconst (v := nI 0) hx hb d_A_wouldChainSees_35 (by decide) ?_
      refine lv_iload_n hx hb d_A_wouldChainSees_36 rfl (lv_at hl 2 rfl) ?_
      refine x_cl (x_runV ⟨hx, hb, hml, hown, hT⟩ (c_K_targetsOf l dC dI a t σ 0 z (by omega) (by omega)) f_K_targetsOf k_A_116 blR (va_recv hK hP (ci := 3) (q0 := 10) rfl rfl) (x_bR hK hP hN) hl.1 d_A_wouldChainSees_37 rfl (lv_room (Nat.le_of_ble_eq_true rfl)) ⟨Nat.le_of_ble_eq_true rfl, Nat.le_of_ble_eq_true rfl⟩ ⟨rfl, rfl⟩ ⟨Nat.le_refl 0, Nat.le_refl 0⟩ rfl) (fun r37 q37 => ?_)
      subst q37
      refine lv_lconst (v := 0) hx hb d_A_wouldChainSees_40 (by decide) ?_
      refine x_lif_eq (tgt := 49) hx hb d_A_wouldChainSees_41 d_A_wouldChainSees_42 (by decide) (fun c41 => ?_) (fun c41 => ?_)
      · refine lv_iconst (v := nI 0) hx hb d_A_wouldChainSees_49 (by decide) ?_
        exact x_rz hx hb hr hlk d_A_wouldChainSees_50 rfl (Or.inr ⟨rfl, fun h9 => by rcases h9 with h9 | h9 | h9; exact h9 c10; exact hsr.mpr h9 c27; exact h9 c41⟩)
      · refine lv_iconst (v := nI 1) hx hb d_A_wouldChainSees_45 (by decide) ?_
        refine lv_goto (tgt := 50) hx hb d_A_wouldChainSees_46 (by decide) ?_
        exact x_rz hx hb hr hlk d_A_wouldChainSees_50 rfl (Or.inl ⟨rfl, by first | exact Or.inl c10 | exact Or.inr (Or.inl (hsr.mp c27)) | exact Or.inr (Or.inr c41)⟩)

set_option maxRecDepth 100000 in
set_option maxHeartbeats 4000000 in
theorem c_A_usedFormOf (l : Launch) (dC : Nat → ClassId) (dI : Nat → Nat → Nat) (a : Nat → Nat) (t : Nat → ClassId) (σ : SA) (x : Nat) (hx9 : x ≤ 60) : Met l y_A_usedFormOf (wS y_A_usedFormOf b_A_usedFormOf 3 (some .int)) (rD 3) (va_Pc [.ref (a 0), .int (nI x)] (RB (dC, dI) (yA t) (wA a t σ))) (vp_Si (fun r => ∃ v, v ≤ 60 ∧ NTH (bt6 (a_tg σ (0 * 61 + x))) 60 0 (nI v) ∧ r = nI (if v = 0 then x else v))) 0 0 (fun _ => False) := by
  refine x_enter (by decide) (Nat.le_of_ble_eq_true rfl) ?_
  intro p e s m below meth c ls hx hb hr hml hT hown hlk hnm hl hB
  obtain ⟨hP, hK, hN⟩ := hB
  have hl : lv_has ls 3 [(0, .ref (a 0)), (1, .int (nI x))] := hl
  have hown : s.vm.findClass R_A = some m.cls := hown
  refine lv_aload_n hx hb d_A_usedFormOf_0 rfl (lv_at hl 0 rfl) ?_
  refine va_get (D := (dC, dI)) (C := R_A) (T := F_A) (N := 6) hx hb hT i_A hown hK hP 0 rfl rfl 3 (by decide) (hT _ k_A_33) (fun _ h9 => h9) (v := .ref (a 10)) rfl d_A_usedFormOf_1 ?_
  refine lv_iconst (v := nI 0) hx hb d_A_usedFormOf_4 (by decide) ?_
  refine lv_iload_n hx hb d_A_usedFormOf_5 rfl (lv_at hl 1 rfl) ?_
  refine x_cl (x_runV ⟨hx, hb, hml, hown, hT⟩ (c_K_targetsOf l dC dI a t σ 0 x (by omega) (by omega)) f_K_targetsOf k_A_116 blR (va_recv hK hP (ci := 3) (q0 := 10) rfl rfl) (x_bR hK hP hN) hl.1 d_A_usedFormOf_6 rfl (lv_room (Nat.le_of_ble_eq_true rfl)) ⟨Nat.le_of_ble_eq_true rfl, Nat.le_of_ble_eq_true rfl⟩ ⟨rfl, rfl⟩ ⟨Nat.le_refl 0, Nat.le_refl 0⟩ rfl) (fun r6 q6 => ?_)
  subst q6
  refine lv_iconst (v := nI 0) hx hb d_A_usedFormOf_9 (by decide) ?_
  refine x_ci (x_runS ⟨hx, hb, hml, hown, hT⟩ (c_A_nthOf l (a_tg σ (0 * 61 + x)) 0 (by decide)) f_A_nthOf k_A_112 blT (x_bT hN) hl.1 d_A_usedFormOf_10 rfl (lv_room (Nat.le_of_ble_eq_true rfl)) ⟨Nat.le_of_ble_eq_true rfl, Nat.le_of_ble_eq_true rfl⟩ ⟨rfl, rfl⟩ ⟨Nat.le_refl 0, Nat.le_refl 0⟩ rfl) (fun r10 q10 => ?_)
  obtain ⟨v, hv, rfl, hnv⟩ := NTH_N q10
  refine lv_istore_n (lv' := [(2, .int (nI v)), (0, .ref (a 0)), (1, .int (nI x))]) hx hb d_A_usedFormOf_13 rfl hl (by decide) rfl (fun ls hl => ?_)
  refine lv_iload_n hx hb d_A_usedFormOf_14 rfl (lv_at hl 0 rfl) ?_
  refine x_if_ne (tgt := 22) hx hb d_A_usedFormOf_15 (by decide) (fun c15 => ?_) (fun c15 => ?_)
  · refine lv_iload_n hx hb d_A_usedFormOf_22 rfl (lv_at hl 0 rfl) ?_
    exact x_ri hx hb hr hlk d_A_usedFormOf_23 ⟨v, hv, hnv, by rw [if_neg (by omega)]⟩
  · refine lv_iload_n hx hb d_A_usedFormOf_18 rfl (lv_at hl 2 rfl) ?_
    refine lv_goto (tgt := 23) hx hb d_A_usedFormOf_19 (by decide) ?_
    exact x_ri hx hb hr hlk d_A_usedFormOf_23 ⟨v, hv, hnv, by rw [if_pos (by omega)]⟩

/-- the way of LATER links from x on a day: k steps to v -/
def FRM (f g : Nat → Nat) (d : Nat → Int64) (n : Nat) (day : Int64) : Nat → Nat → Nat → Prop
  | 0, x, v => x = v
  | k + 1, x, v => ∃ w, FRM f g d n day k x w ∧ ∃ b, BST f d n w day b ∧ v = g b
set_option maxRecDepth 100000 in
set_option maxHeartbeats 4000000 in
theorem c_A_formOn (l : Launch) (dC : Nat → ClassId) (dI : Nat → Nat → Nat) (a : Nat → Nat) (t : Nat → ClassId) (σ : SA) (hG : GA σ) (x : Nat) (d : Int64) (hx9 : x ≤ 60) (hlt : ∀ j, j < a_lc σ → 1 ≤ a_lt σ j) : Met l y_A_formOn (wS y_A_formOn b_A_formOn 7 (some .int)) (rD 1) (va_Pc [.ref (a 0), .int (nI x), .long d] (RB (dC, dI) (yA t) (wA a t σ))) (vp_Si (fun r => ∃ k v, k ≤ 60 ∧ v ≤ 60 ∧ r = nI v ∧ FRM (a_lf σ) (a_lt σ) (a_ld σ) (a_lc σ) d k x v ∧ (k = 60 ∨ NOB (a_lf σ) (a_ld σ) (a_lc σ) v d))) 0 0 (fun _ => False) := by
  refine x_enter (by decide) (Nat.le_of_ble_eq_true rfl) ?_
  intro p e s m below meth c ls hx hb hr hml hT hown hlk hnm hl hB
  obtain ⟨hP, hK, hN⟩ := hB
  have hl : lv_has ls 7 [(0, .ref (a 0)), (1, .int (nI x)), (2, .long d)] := hl
  have hown : s.vm.findClass R_A = some m.cls := hown
  have hG2 := hG
  obtain ⟨g_sn, g_sg, g_tn, g_tx, g_kd, g_lv, g_le, g_ln, g_hn, g_lf, g_lt, g_lc, g_rh, g_rn, g_ws, g_wn⟩ := hG
  refine lv_iload_n hx hb d_A_formOn_0 rfl (lv_at hl 1 rfl) ?_
  refine lv_istore (lv' := [(4, .int (nI x)), (0, .ref (a 0)), (1, .int (nI x)), (2, .long d)]) hx hb d_A_formOn_1 hl (by decide) rfl (fun ls hl => ?_)
  refine lv_iconst (v := nI 0) hx hb d_A_formOn_3 (by decide) ?_
  refine lv_istore (lv' := [(5, .int (nI 0)), (4, .int (nI x)), (0, .ref (a 0)), (1, .int (nI x)), (2, .long d)]) hx hb d_A_formOn_4 hl (by decide) rfl (fun ls hl => ?_)
  have hloop6 : ∀ (n6 : Nat) (k : Nat) (v : Nat) (ls : Array Slot), k ≤ 60 → v ≤ 60 → FRM (a_lf σ) (a_lt σ) (a_ld σ) (a_lc σ) d k x v → 61 - k < n6 → lv_has ls 7 [(0, .ref (a 0)), (1, .int (nI x)), (2, .long d), (4, .int (nI v)), (5, .int (nI k))] → W p l e (rD 1) s m ([.ref (a 0), .int (nI x), .long d] : List Value).toArray below meth c s.heap [] 0 0 (MQ below (vp_Si (fun r => ∃ k v, k ≤ 60 ∧ v ≤ 60 ∧ r = nI v ∧ FRM (a_lf σ) (a_lt σ) (a_ld σ) (a_lc σ) d k x v ∧ (k = 60 ∨ NOB (a_lf σ) (a_ld σ) (a_lc σ) v d))) ([.ref (a 0), .int (nI x), .long d] : List Value).toArray s 0 0 (fun _ => False)) (F0 m 6 ls []) := by
    intro n6
    induction n6 with
    | zero => intro k v ls _ _ _ h9; exact absurd h9 (Nat.not_lt_zero _)
    | succ n6 ih6 =>
      intro k v ls hk hv hf hmu6 hl
      refine lv_iload hx hb d_A_formOn_6 (lv_at hl 4 rfl) ?_
      refine lv_bipush (v := nI 60) hx hb d_A_formOn_8 (by decide) ?_
      refine x_icmp_ge (tgt := 43) hx hb d_A_formOn_10 (by decide) (fun c10 => ?_) (fun c10 => ?_)
      · refine lv_iload hx hb d_A_formOn_43 (lv_at hl 3 rfl) ?_
        exact x_ri hx hb hr hlk d_A_formOn_45 ⟨k, v, hk, hv, rfl, hf, Or.inl (by omega)⟩
      · refine lv_aload_n hx hb d_A_formOn_13 rfl (lv_at hl 0 rfl) ?_
        refine va_get (D := (dC, dI)) (C := R_A) (T := F_A) (N := 6) hx hb hT i_A hown hK hP 0 rfl rfl 3 (by decide) (hT _ k_A_33) (fun _ h9 => h9) (v := .ref (a 10)) rfl d_A_formOn_14 ?_
        refine lv_iload hx hb d_A_formOn_17 (lv_at hl 3 rfl) ?_
        refine lv_lload_n hx hb d_A_formOn_19 rfl (lv_at hl 2 rfl) ?_
        refine x_ci (x_runV ⟨hx, hb, hml, hown, hT⟩ (c_K_latestOn l dC dI a t σ hG2 v d hv) f_K_latestOn k_A_166 blR (va_recv hK hP (ci := 3) (q0 := 10) rfl rfl) (x_bR hK hP hN) hl.1 d_A_formOn_20 rfl (lv_room (Nat.le_of_ble_eq_true rfl)) ⟨Nat.le_of_ble_eq_true rfl, Nat.le_of_ble_eq_true rfl⟩ ⟨rfl, rfl⟩ ⟨Nat.le_refl 0, Nat.le_refl 0⟩ rfl) (fun r20 q20 => ?_)
        rcases q20 with ⟨b, hbs, rfl⟩ | ⟨hno, rfl⟩
        · have g8 := hlt b hbs.1
          have g9 := g_lt b
          refine lv_istore (lv' := [(6, .int (nI (a_lt σ b))), (0, .ref (a 0)), (1, .int (nI x)), (2, .long d), (4, .int (nI v)), (5, .int (nI k))]) hx hb d_A_formOn_23 hl (by decide) rfl (fun ls hl => ?_)
          refine lv_iload hx hb d_A_formOn_25 (lv_at hl 0 rfl) ?_
          refine x_if_ne (tgt := 33) hx hb d_A_formOn_27 (by decide) (fun c27 => ?_) (fun c27 => ?_)
          · refine lv_iload hx hb d_A_formOn_33 (lv_at hl 0 rfl) ?_
            refine lv_istore (lv' := [(4, .int (nI (a_lt σ b))), (6, .int (nI (a_lt σ b))), (0, .ref (a 0)), (1, .int (nI x)), (2, .long d), (5, .int (nI k))]) hx hb d_A_formOn_35 hl (by decide) rfl (fun ls hl => ?_)
            refine x_iinc (lv' := [(5, .int (nI (k + 1))), (4, .int (nI (a_lt σ b))), (6, .int (nI (a_lt σ b))), (0, .ref (a 0)), (1, .int (nI x)), (2, .long d)]) hx hb d_A_formOn_37 hl (k := 5) rfl (by decide) rfl (fun ls hl => ?_)
            refine lv_goto (tgt := 6) hx hb d_A_formOn_40 (by decide) ?_
            exact ih6 (k + 1) _ ls (by omega) (g_lt b) ⟨v, hf, b, hbs, rfl⟩ (by omega) (lv_sub hl [3, 4, 5, 1, 0] rfl)
          · refine lv_iload hx hb d_A_formOn_30 (lv_at hl 4 rfl) ?_
            exact x_ri hx hb hr hlk d_A_formOn_32 ⟨k, v, hk, hv, rfl, hf, by first | exact Or.inr hno | (exfalso; omega)⟩
        · refine lv_istore (lv' := [(6, .int (nI 0)), (0, .ref (a 0)), (1, .int (nI x)), (2, .long d), (4, .int (nI v)), (5, .int (nI k))]) hx hb d_A_formOn_23 hl (by decide) rfl (fun ls hl => ?_)
          refine lv_iload hx hb d_A_formOn_25 (lv_at hl 0 rfl) ?_
          refine x_if_ne (tgt := 33) hx hb d_A_formOn_27 (by decide) (fun h => absurd h (by decide)) (fun _ => ?_)
          refine lv_iload hx hb d_A_formOn_30 (lv_at hl 4 rfl) ?_
          exact x_ri hx hb hr hlk d_A_formOn_32 ⟨k, v, hk, hv, rfl, hf, by first | exact Or.inr hno | (exfalso; omega)⟩
  exact hloop6 _ 0 x ls (by omega) hx9 rfl (Nat.lt_succ_self _) (lv_sub hl [2, 3, 4, 1, 0] rfl)
end
section
def lowB (x : Int32) : Nat := x.toBitVec.toNat % 256
theorem lowB_lt (x : Int32) : lowB x < 256 := Nat.mod_lt _ (by decide)
theorem lowB_c (x : Int32) : ((x &&& nI 255).toUInt32 % 65536).toInt32 = nI (lowB x) := by
  have e : x &&& nI 255 = nI (lowB x) := pk_and x 8 (by decide)
  rw [e, pk_char, pk_tn (Nat.lt_trans (lowB_lt x) (by decide)), Nat.mod_eq_of_lt (Nat.lt_trans (lowB_lt x) (by decide))]
set_option maxRecDepth 100000 in
set_option maxHeartbeats 4000000 in
theorem c_A_sign (l : Launch) (dC : Nat → ClassId) (dI : Nat → Nat → Nat) (a : Nat → Nat) (t : Nat → ClassId) (σ : SA) (sz : Nat) (hG : GA σ) (x : Int32) : Met l y_A_sign (wS y_A_sign b_A_sign 2 none) (rD 1) (va_Pc [.ref (a 0), .int x] (MB (dC, dI) (yA t) (wA a t σ) sz)) (va_Qv (fun u : SA => u = if a_sn σ < 40 then au_sn (au_sg σ (updN (a_sg σ) (a_sn σ) (lowB x))) (a_sn σ + 1) else σ) (fun u => ME (dC, dI) (yA t) (va_A (wA a t σ) sz) (wA a t u)) (va_A (wA a t σ) sz)) 0 0 (va_A (wA a t σ) sz) := by
  refine x_enter (by decide) (Nat.le_of_ble_eq_true rfl) ?_
  intro p e s m below meth c ls hx hb hr hml hT hown hlk hnm hl hB
  obtain ⟨rfl, hP, hK, hN, hD0⟩ := hB
  have hD := hD0.self (sz := s.heap.size)
  generalize hAe : va_A (wA a t σ) s.heap.size = A at hD ⊢
  have hA : ∀ q : Nat, s.heap.size ≤ q → A q := fun q h => by rw [← hAe]; exact Or.inr h
  have hS : va_S A s.heap s.heap [] := va_S.rf
  have hP : va_P (dC, dI) classes (wA a t σ) s.heap := hP
  have hl : lv_has ls 2 [(0, .ref (a 0)), (1, .int x)] := hl
  have hown : s.vm.findClass R_A = some m.cls := hown
  have hG2 := hG
  obtain ⟨g_sn, g_sg, g_tn, g_tx, g_kd, g_lv, g_le, g_ln, g_hn, g_lf, g_lt, g_lc, g_rh, g_rn, g_ws, g_wn⟩ := hG
  refine lv_aload_n hx hb d_A_sign_0 rfl (lv_at hl 0 rfl) ?_
  refine va_get (D := (dC, dI)) (C := R_A) (T := F_A) (N := 6) hx hb hT i_A hown hK hP 0 rfl rfl 0 (by decide) (hT _ k_A_12) (fun _ h9 => h9) (v := .ref (a 1)) rfl d_A_sign_1 ?_
  refine lv_iload_n hx hb d_A_sign_4 rfl (lv_at hl 1 rfl) ?_
  refine lv_sipush (v := nI 255) hx hb d_A_sign_5 (by decide) ?_
  refine lv_iand hx hb d_A_sign_8 ?_
  refine lv_i2c (v := (nI (lowB x))) hx hb d_A_sign_9 (lowB_c x) ?_
  refine x_cMv (wl := wA a t) (x_runV ⟨hx, hb, hml, hown, hT⟩ (c_C_add l dC dI a t σ s.heap.size hG2 (lowB x) (lowB_lt x)) f_C_add k_A_51 blM (va_recv hK hP (ci := 0) (q0 := 1) rfl rfl) (x_bM hK hP hN hD) hl.1 d_A_sign_10 rfl (lv_room (Nat.le_of_ble_eq_true rfl)) ⟨Nat.le_of_ble_eq_true rfl, Nat.le_of_ble_eq_true rfl⟩ ⟨rfl, rfl⟩ ⟨Nat.le_refl 0, Nat.le_refl 0⟩ rfl) hD hS hA (fun u10 H locs q10 hP hD hS => ?_)
  exact x_mv (wl := wA a t) u10 hx hb hr hlk hK hP hD hS d_A_sign_13 q10

/-- behind a call that wants a text -/
def TKN (σ τ : SA) : Prop := ∃ f n, τ = au_tn (au_tx (au_sn σ 0) f) n ∧ GA τ ∧ (okT (a_sg σ) (a_sn σ) → n = a_sn σ ∧ ∀ k, k < n → f k = a_sg σ k)
set_option maxRecDepth 100000 in
set_option maxHeartbeats 4000000 in
theorem c_A_heading (l : Launch) (dC : Nat → ClassId) (dI : Nat → Nat → Nat) (a : Nat → Nat) (t : Nat → ClassId) (σ : SA) (sz : Nat) (hG : GA σ) (x : Int32) : Met l y_A_heading (wS y_A_heading b_A_heading 2 (some .int)) (rD 4) (va_Pc [.ref (a 0), .int x] (MB (dC, dI) (yA t) (wA a t σ) sz)) (va_Qi (fun (r : Int32) (u : SA) => ∃ τ, TKN σ τ ∧ ((¬ okT (a_sg σ) (a_sn σ) ∧ r = -99 ∧ u = τ) ∨ (okT (a_sg σ) (a_sn σ) ∧ ((¬ (∃ kk, kk < 4 ∧ x = nI kk) ∧ r = nI 0 ∧ u = τ) ∨ ∃ kk, kk < 4 ∧ x = nI kk ∧ ADH τ kk r u)))) (fun u => ME (dC, dI) (yA t) (va_A (wA a t σ) sz) (wA a t u)) (va_A (wA a t σ) sz)) 0 0 (va_A (wA a t σ) sz) := by
  refine x_enter (by decide) (Nat.le_of_ble_eq_true rfl) ?_
  intro p e s m below meth c ls hx hb hr hml hT hown hlk hnm hl hB
  obtain ⟨rfl, hP, hK, hN, hD0⟩ := hB
  have hD := hD0.self (sz := s.heap.size)
  generalize hAe : va_A (wA a t σ) s.heap.size = A at hD ⊢
  have hA : ∀ q : Nat, s.heap.size ≤ q → A q := fun q h => by rw [← hAe]; exact Or.inr h
  have hS : va_S A s.heap s.heap [] := va_S.rf
  have hP : va_P (dC, dI) classes (wA a t σ) s.heap := hP
  have hl : lv_has ls 2 [(0, .ref (a 0)), (1, .int x)] := hl
  have hown : s.vm.findClass R_A = some m.cls := hown
  have hG2 := hG
  obtain ⟨g_sn, g_sg, g_tn, g_tx, g_kd, g_lv, g_le, g_ln, g_hn, g_lf, g_lt, g_lc, g_rh, g_rn, g_ws, g_wn⟩ := hG
  refine lv_aload_n hx hb d_A_heading_0 rfl (lv_at hl 0 rfl) ?_
  refine va_get (D := (dC, dI)) (C := R_A) (T := F_A) (N := 6) hx hb hT i_A hown hK hP 0 rfl rfl 0 (by decide) (hT _ k_A_12) (fun _ h9 => h9) (v := .ref (a 1)) rfl d_A_heading_1 ?_
  refine lv_aload_n hx hb d_A_heading_4 rfl (lv_at hl 0 rfl) ?_
  refine va_get (D := (dC, dI)) (C := R_A) (T := F_A) (N := 6) hx hb hT i_A hown hK hP 0 rfl rfl 1 (by decide) (hT _ k_A_19) (fun _ h9 => h9) (v := .ref (a 3)) rfl d_A_heading_5 ?_
  refine x_cMi (wl := wA a t) (x_runV ⟨hx, hb, hml, hown, hT⟩ (c_C_moveTo l dC dI a t σ s.heap.size hG2) f_C_moveTo k_A_55 blM (va_recv hK hP (ci := 0) (q0 := 1) rfl rfl) (x_bM hK hP hN hD) hl.1 d_A_heading_8 rfl (lv_room (Nat.le_of_ble_eq_true rfl)) ⟨Nat.le_of_ble_eq_true rfl, Nat.le_of_ble_eq_true rfl⟩ ⟨rfl, rfl⟩ ⟨Nat.le_refl 0, Nat.le_refl 0⟩ rfl) hD hS hA (fun r8 τ H locs q8 hP hD hS => ?_)
  obtain ⟨hok, hτ⟩ := q8
  have hτ : TKN σ τ := hτ
  have hGτ : GA τ := by obtain ⟨_, _, _, h9, _⟩ := hτ; exact h9
  obtain ⟨t_sn, t_sg, t_tn, t_tx, t_kd, t_lv, t_le, t_ln, t_hn, t_lf, t_lt, t_lc, t_rh, t_rn, t_ws, t_wn⟩ := id hGτ
  rcases hok with ⟨rfl, hok⟩ | ⟨rfl, hok⟩
  · refine x_if_ne (tgt := 17) hx hb d_A_heading_11 (by decide) (fun _ => ?_) (fun h => absurd h (by decide))
    refine lv_iload_n hx hb d_A_heading_17 rfl (lv_at hl 1 rfl) ?_
    refine lv_if_lt (tgt := 26) hx hb d_A_heading_18 (by decide) (fun c18 => ?_) (fun c18 => ?_)
    · refine lv_iconst (v := nI 0) hx hb d_A_heading_26 (by decide) ?_
      exact x_mi (wl := wA a t) (τ) hx hb hr hlk hK hP hD hS d_A_heading_27 ⟨τ, hτ, Or.inr ⟨hok, Or.inl ⟨by rintro ⟨k', h1, h2⟩; first | (rw [h2] at c18; exact absurd c18 (nI_pos (by omega))) | (have h3 := (nI_eq (by omega) (by omega)).mp h2; omega), rfl, rfl⟩⟩⟩
    · obtain ⟨kk, hkk0, rfl⟩ := nI_of c18
      refine lv_iload_n hx hb d_A_heading_21 rfl (lv_at hl 1 rfl) ?_
      refine lv_iconst (v := nI 4) hx hb d_A_heading_22 (by decide) ?_
      refine x_icmp_lt (tgt := 28) hx hb d_A_heading_23 (by decide) (fun c23 => ?_) (fun c23 => ?_)
      · refine lv_aload_n hx hb d_A_heading_28 rfl (lv_at hl 0 rfl) ?_
        refine lv_iload_n hx hb d_A_heading_29 rfl (lv_at hl 1 rfl) ?_
        refine x_cMi (wl := wA a t) (x_runV ⟨hx, hb, hml, hown, hT⟩ (c_A_addHeading l dC dI a t τ H.size hGτ kk (by omega)) f_A_addHeading k_A_59 blM (va_recv hK hP (ci := 6) (q0 := 0) rfl rfl) (x_bM hK hP hN hD) hl.1 d_A_heading_30 rfl (lv_room (Nat.le_of_ble_eq_true rfl)) ⟨Nat.le_of_ble_eq_true rfl, Nat.le_of_ble_eq_true rfl⟩ ⟨rfl, rfl⟩ ⟨Nat.le_refl 0, Nat.le_refl 0⟩ rfl) hD hS hA (fun r30 u30 H locs q30 hP hD hS => ?_)
        exact x_mi (wl := wA a t) u30 hx hb hr hlk hK hP hD hS d_A_heading_33 ⟨τ, hτ, Or.inr ⟨hok, Or.inr ⟨kk, by omega, rfl, q30⟩⟩⟩
      · refine lv_iconst (v := nI 0) hx hb d_A_heading_26 (by decide) ?_
        exact x_mi (wl := wA a t) (τ) hx hb hr hlk hK hP hD hS d_A_heading_27 ⟨τ, hτ, Or.inr ⟨hok, Or.inl ⟨by rintro ⟨k', h1, h2⟩; first | (rw [h2] at c18; exact absurd c18 (nI_pos (by omega))) | (have h3 := (nI_eq (by omega) (by omega)).mp h2; omega), rfl, rfl⟩⟩⟩
  · refine x_if_ne (tgt := 17) hx hb d_A_heading_11 (by decide) (fun h => absurd h (by decide)) (fun _ => ?_)
    refine lv_bipush (v := -99) hx hb d_A_heading_14 (by decide) ?_
    exact x_mi (wl := wA a t) (τ) hx hb hr hlk hK hP hD hS d_A_heading_16 ⟨τ, hτ, Or.inl ⟨hok, rfl, rfl⟩⟩

set_option maxRecDepth 100000 in
set_option maxHeartbeats 4000000 in
theorem c_A_find (l : Launch) (dC : Nat → ClassId) (dI : Nat → Nat → Nat) (a : Nat → Nat) (t : Nat → ClassId) (σ : SA) (sz : Nat) (hG : GA σ) : Met l y_A_find (wS y_A_find b_A_find 1 (some .int)) (rD 3) (va_Pc [.ref (a 0)] (MB (dC, dI) (yA t) (wA a t σ) sz)) (va_Qi (fun (r : Int32) (u : SA) => TKN σ u ∧ ((¬ okT (a_sg σ) (a_sn σ) ∧ r = -99) ∨ (okT (a_sg σ) (a_sn σ) ∧ FST (fun h => a_lv u h = 1 ∧ a_same u h) (a_hn u) r))) (fun u => ME (dC, dI) (yA t) (va_A (wA a t σ) sz) (wA a t u)) (va_A (wA a t σ) sz)) 0 0 (va_A (wA a t σ) sz) := by
  refine x_enter (by decide) (Nat.le_of_ble_eq_true rfl) ?_
  intro p e s m below meth c ls hx hb hr hml hT hown hlk hnm hl hB
  obtain ⟨rfl, hP, hK, hN, hD0⟩ := hB
  have hD := hD0.self (sz := s.heap.size)
  generalize hAe : va_A (wA a t σ) s.heap.size = A at hD ⊢
  have hA : ∀ q : Nat, s.heap.size ≤ q → A q := fun q h => by rw [← hAe]; exact Or.inr h
  have hS : va_S A s.heap s.heap [] := va_S.rf
  have hP : va_P (dC, dI) classes (wA a t σ) s.heap := hP
  have hl : lv_has ls 1 [(0, .ref (a 0))] := hl
  have hown : s.vm.findClass R_A = some m.cls := hown
  have hG2 := hG
  obtain ⟨g_sn, g_sg, g_tn, g_tx, g_kd, g_lv, g_le, g_ln, g_hn, g_lf, g_lt, g_lc, g_rh, g_rn, g_ws, g_wn⟩ := hG
  refine lv_aload_n hx hb d_A_find_0 rfl (lv_at hl 0 rfl) ?_
  refine va_get (D := (dC, dI)) (C := R_A) (T := F_A) (N := 6) hx hb hT i_A hown hK hP 0 rfl rfl 0 (by decide) (hT _ k_A_12) (fun _ h9 => h9) (v := .ref (a 1)) rfl d_A_find_1 ?_
  refine lv_aload_n hx hb d_A_find_4 rfl (lv_at hl 0 rfl) ?_
  refine va_get (D := (dC, dI)) (C := R_A) (T := F_A) (N := 6) hx hb hT i_A hown hK hP 0 rfl rfl 1 (by decide) (hT _ k_A_19) (fun _ h9 => h9) (v := .ref (a 3)) rfl d_A_find_5 ?_
  refine x_cMi (wl := wA a t) (x_runV ⟨hx, hb, hml, hown, hT⟩ (c_C_moveTo l dC dI a t σ s.heap.size hG2) f_C_moveTo k_A_55 blM (va_recv hK hP (ci := 0) (q0 := 1) rfl rfl) (x_bM hK hP hN hD) hl.1 d_A_find_8 rfl (lv_room (Nat.le_of_ble_eq_true rfl)) ⟨Nat.le_of_ble_eq_true rfl, Nat.le_of_ble_eq_true rfl⟩ ⟨rfl, rfl⟩ ⟨Nat.le_refl 0, Nat.le_refl 0⟩ rfl) hD hS hA (fun r8 τ H locs q8 hP hD hS => ?_)
  obtain ⟨hok, hτ⟩ := q8
  have hτ : TKN σ τ := hτ
  have hGτ : GA τ := by obtain ⟨_, _, _, h9, _⟩ := hτ; exact h9
  obtain ⟨t_sn, t_sg, t_tn, t_tx, t_kd, t_lv, t_le, t_ln, t_hn, t_lf, t_lt, t_lc, t_rh, t_rn, t_ws, t_wn⟩ := id hGτ
  rcases hok with ⟨rfl, hok⟩ | ⟨rfl, hok⟩
  · refine x_if_ne (tgt := 17) hx hb d_A_find_11 (by decide) (fun _ => ?_) (fun h => absurd h (by decide))
    refine lv_aload_n hx hb d_A_find_17 rfl (lv_at hl 0 rfl) ?_
    refine va_get (D := (dC, dI)) (C := R_A) (T := F_A) (N := 6) hx hb hT i_A hown hK hP 0 rfl rfl 2 (by decide) (hT _ k_A_26) (fun _ h9 => h9) (v := .ref (a 5)) rfl d_A_find_18 ?_
    refine lv_aload_n hx hb d_A_find_21 rfl (lv_at hl 0 rfl) ?_
    refine va_get (D := (dC, dI)) (C := R_A) (T := F_A) (N := 6) hx hb hT i_A hown hK hP 0 rfl rfl 1 (by decide) (hT _ k_A_19) (fun _ h9 => h9) (v := .ref (a 3)) rfl d_A_find_22 ?_
    refine x_ci (x_runV ⟨hx, hb, hml, hown, hT⟩ (c_H_firstOfAnyKind l dC dI a t τ hGτ) f_H_firstOfAnyKind k_A_100 blR (va_recv hK hP (ci := 2) (q0 := 5) rfl rfl) (x_bR hK hP hN) hl.1 d_A_find_25 rfl (lv_room (Nat.le_of_ble_eq_true rfl)) ⟨Nat.le_of_ble_eq_true rfl, Nat.le_of_ble_eq_true rfl⟩ ⟨rfl, rfl⟩ ⟨Nat.le_refl 0, Nat.le_refl 0⟩ rfl) (fun r25 q25 => ?_)
    exact x_mi (wl := wA a t) (τ) hx hb hr hlk hK hP hD hS d_A_find_28 ⟨hτ, Or.inr ⟨hok, q25⟩⟩
  · refine x_if_ne (tgt := 17) hx hb d_A_find_11 (by decide) (fun h => absurd h (by decide)) (fun _ => ?_)
    refine lv_bipush (v := -99) hx hb d_A_find_14 (by decide) ?_
    exact x_mi (wl := wA a t) (τ) hx hb hr hlk hK hP hD hS d_A_find_16 ⟨hτ, Or.inl ⟨hok, rfl⟩⟩

set_option maxRecDepth 100000 in
set_option maxHeartbeats 4000000 in
theorem c_A_rename (l : Launch) (dC : Nat → ClassId) (dI : Nat → Nat → Nat) (a : Nat → Nat) (t : Nat → ClassId) (σ : SA) (sz : Nat) (hG : GA σ) (x : Int32) : Met l y_A_rename (wS y_A_rename b_A_rename 3 (some .int)) (rD 3) (va_Pc [.ref (a 0), .int x] (MB (dC, dI) (yA t) (wA a t σ) sz)) (va_Qi (fun (r : Int32) (u : SA) => ∃ τ, TKN σ τ ∧ ((¬ okT (a_sg σ) (a_sn σ) ∧ r = -99 ∧ u = τ) ∨ (okT (a_sg σ) (a_sn σ) ∧ ((¬ (∃ j, 1 ≤ j ∧ j ≤ a_hn τ ∧ a_lv τ j = 1 ∧ x = nI j) ∧ r = -100 ∧ u = τ) ∨ ∃ j, 1 ≤ j ∧ j ≤ a_hn τ ∧ a_lv τ j = 1 ∧ x = nI j ∧ ((∃ i, 1 ≤ i ∧ i ≤ a_hn τ ∧ r = -nI i ∧ FST (fun h => h ≠ j ∧ a_lv τ h = 1 ∧ a_kd τ h = a_kd τ j ∧ a_same τ h) (a_hn τ) (nI i) ∧ u = τ) ∨ (FST (fun h => h ≠ j ∧ a_lv τ h = 1 ∧ a_kd τ h = a_kd τ j ∧ a_same τ h) (a_hn τ) (nI 0) ∧ r = nI (cntN (a_rh τ) j (a_rn τ)) ∧ u = au_ln (au_le τ (cpT (a_le τ) (j * 20) (a_tx τ) (a_tn τ))) (updN (a_ln τ) j (a_tn τ)))))))) (fun u => ME (dC, dI) (yA t) (va_A (wA a t σ) sz) (wA a t u)) (va_A (wA a t σ) sz)) 0 0 (va_A (wA a t σ) sz) := by
  refine x_enter (by decide) (Nat.le_of_ble_eq_true rfl) ?_
  intro p e s m below meth c ls hx hb hr hml hT hown hlk hnm hl hB
  obtain ⟨rfl, hP, hK, hN, hD0⟩ := hB
  have hD := hD0.self (sz := s.heap.size)
  generalize hAe : va_A (wA a t σ) s.heap.size = A at hD ⊢
  have hA : ∀ q : Nat, s.heap.size ≤ q → A q := fun q h => by rw [← hAe]; exact Or.inr h
  have hS : va_S A s.heap s.heap [] := va_S.rf
  have hP : va_P (dC, dI) classes (wA a t σ) s.heap := hP
  have hl : lv_has ls 3 [(0, .ref (a 0)), (1, .int x)] := hl
  have hown : s.vm.findClass R_A = some m.cls := hown
  have hG2 := hG
  obtain ⟨g_sn, g_sg, g_tn, g_tx, g_kd, g_lv, g_le, g_ln, g_hn, g_lf, g_lt, g_lc, g_rh, g_rn, g_ws, g_wn⟩ := hG
  refine lv_aload_n hx hb d_A_rename_0 rfl (lv_at hl 0 rfl) ?_
  refine va_get (D := (dC, dI)) (C := R_A) (T := F_A) (N := 6) hx hb hT i_A hown hK hP 0 rfl rfl 0 (by decide) (hT _ k_A_12) (fun _ h9 => h9) (v := .ref (a 1)) rfl d_A_rename_1 ?_
  refine lv_aload_n hx hb d_A_rename_4 rfl (lv_at hl 0 rfl) ?_
  refine va_get (D := (dC, dI)) (C := R_A) (T := F_A) (N := 6) hx hb hT i_A hown hK hP 0 rfl rfl 1 (by decide) (hT _ k_A_19) (fun _ h9 => h9) (v := .ref (a 3)) rfl d_A_rename_5 ?_
  refine x_cMi (wl := wA a t) (x_runV ⟨hx, hb, hml, hown, hT⟩ (c_C_moveTo l dC dI a t σ s.heap.size hG2) f_C_moveTo k_A_55 blM (va_recv hK hP (ci := 0) (q0 := 1) rfl rfl) (x_bM hK hP hN hD) hl.1 d_A_rename_8 rfl (lv_room (Nat.le_of_ble_eq_true rfl)) ⟨Nat.le_of_ble_eq_true rfl, Nat.le_of_ble_eq_true rfl⟩ ⟨rfl, rfl⟩ ⟨Nat.le_refl 0, Nat.le_refl 0⟩ rfl) hD hS hA (fun r8 τ H locs q8 hP hD hS => ?_)
  obtain ⟨hok, hτ⟩ := q8
  have hτ : TKN σ τ := hτ
  have hGτ : GA τ := by obtain ⟨_, _, _, h9, _⟩ := hτ; exact h9
  obtain ⟨t_sn, t_sg, t_tn, t_tx, t_kd, t_lv, t_le, t_ln, t_hn, t_lf, t_lt, t_lc, t_rh, t_rn, t_ws, t_wn⟩ := id hGτ
  rcases hok with ⟨rfl, hok⟩ | ⟨rfl, hok⟩
  · refine x_if_ne (tgt := 17) hx hb d_A_rename_11 (by decide) (fun _ => ?_) (fun h => absurd h (by decide))
    refine lv_aload_n hx hb d_A_rename_17 rfl (lv_at hl 0 rfl) ?_
    refine va_get (D := (dC, dI)) (C := R_A) (T := F_A) (N := 6) hx hb hT i_A hown hK hP 0 rfl rfl 2 (by decide) (hT _ k_A_26) (fun _ h9 => h9) (v := .ref (a 5)) rfl d_A_rename_18 ?_
    refine lv_iload_n hx hb d_A_rename_21 rfl (lv_at hl 1 rfl) ?_
    refine x_ci (x_runV ⟨hx, hb, hml, hown, hT⟩ (c_H_isLive l dC dI a t (τ) hGτ x) f_H_isLive k_A_63 blR (va_recv hK hP (ci := 2) (q0 := 5) rfl rfl) (x_bR hK hP hN) hl.1 d_A_rename_22 rfl (lv_room (Nat.le_of_ble_eq_true rfl)) ⟨Nat.le_of_ble_eq_true rfl, Nat.le_of_ble_eq_true rfl⟩ ⟨rfl, rfl⟩ ⟨Nat.le_refl 0, Nat.le_refl 0⟩ rfl) (fun r22 q22 => ?_)
    rcases q22 with ⟨rfl, j, hj1, hj2, hj3, rfl⟩ | ⟨rfl, hnj⟩
    · refine x_if_ne (tgt := 31) hx hb d_A_rename_25 (by decide) (fun _ => ?_) (fun h => absurd h (by decide))
      refine lv_aload_n hx hb d_A_rename_31 rfl (lv_at hl 0 rfl) ?_
      refine va_get (D := (dC, dI)) (C := R_A) (T := F_A) (N := 6) hx hb hT i_A hown hK hP 0 rfl rfl 2 (by decide) (hT _ k_A_26) (fun _ h9 => h9) (v := .ref (a 5)) rfl d_A_rename_32 ?_
      refine lv_aload_n hx hb d_A_rename_35 rfl (lv_at hl 0 rfl) ?_
      refine va_get (D := (dC, dI)) (C := R_A) (T := F_A) (N := 6) hx hb hT i_A hown hK hP 0 rfl rfl 2 (by decide) (hT _ k_A_26) (fun _ h9 => h9) (v := .ref (a 5)) rfl d_A_rename_36 ?_
      refine lv_iload_n hx hb d_A_rename_39 rfl (lv_at hl 1 rfl) ?_
      refine x_ci (x_runV ⟨hx, hb, hml, hown, hT⟩ (c_H_kindOf l dC dI a t τ hGτ j (by omega) (by omega)) f_H_kindOf k_A_86 blR (va_recv hK hP (ci := 2) (q0 := 5) rfl rfl) (x_bR hK hP hN) hl.1 d_A_rename_40 rfl (lv_room (Nat.le_of_ble_eq_true rfl)) ⟨Nat.le_of_ble_eq_true rfl, Nat.le_of_ble_eq_true rfl⟩ ⟨rfl, rfl⟩ ⟨Nat.le_refl 0, Nat.le_refl 0⟩ rfl) (fun r40 q40 => ?_)
      subst q40
      refine lv_aload_n hx hb d_A_rename_43 rfl (lv_at hl 0 rfl) ?_
      refine va_get (D := (dC, dI)) (C := R_A) (T := F_A) (N := 6) hx hb hT i_A hown hK hP 0 rfl rfl 1 (by decide) (hT _ k_A_19) (fun _ h9 => h9) (v := .ref (a 3)) rfl d_A_rename_44 ?_
      refine lv_iload_n hx hb d_A_rename_47 rfl (lv_at hl 1 rfl) ?_
      refine x_ci (x_runV ⟨hx, hb, hml, hown, hT⟩ (c_H_firstOfKind l dC dI a t τ hGτ (a_kd τ j) j (t_kd j) (by omega)) f_H_firstOfKind k_A_89 blR (va_recv hK hP (ci := 2) (q0 := 5) rfl rfl) (x_bR hK hP hN) hl.1 d_A_rename_48 rfl (lv_room (Nat.le_of_ble_eq_true rfl)) ⟨Nat.le_of_ble_eq_true rfl, Nat.le_of_ble_eq_true rfl⟩ ⟨rfl, rfl⟩ ⟨Nat.le_refl 0, Nat.le_refl 0⟩ rfl) (fun r48 q48 => ?_)
      have qF := q48
      rcases q48 with ⟨i, hi1, hi2, _, _, rfl⟩ | ⟨_, rfl⟩
      · refine lv_istore_n (lv' := [(2, .int (nI i)), (0, .ref (a 0)), (1, .int (nI j))]) hx hb d_A_rename_51 rfl hl (by decide) rfl (fun ls hl => ?_)
        refine lv_iload_n hx hb d_A_rename_52 rfl (lv_at hl 0 rfl) ?_
        refine x_if_eq (tgt := 59) hx hb d_A_rename_53 (by decide) (fun c53 => ?_) (fun c53 => ?_)
        · refine lv_aload_n hx hb d_A_rename_59 rfl (lv_at hl 1 rfl) ?_
          refine va_get (D := (dC, dI)) (C := R_A) (T := F_A) (N := 6) hx hb hT i_A hown hK hP 0 rfl rfl 2 (by decide) (hT _ k_A_26) (fun _ h9 => h9) (v := .ref (a 5)) rfl d_A_rename_60 ?_
          refine lv_iload_n hx hb d_A_rename_63 rfl (lv_at hl 2 rfl) ?_
          refine lv_aload_n hx hb d_A_rename_64 rfl (lv_at hl 1 rfl) ?_
          refine va_get (D := (dC, dI)) (C := R_A) (T := F_A) (N := 6) hx hb hT i_A hown hK hP 0 rfl rfl 1 (by decide) (hT _ k_A_19) (fun _ h9 => h9) (v := .ref (a 3)) rfl d_A_rename_65 ?_
          refine x_cMv (wl := wA a t) (x_runV ⟨hx, hb, hml, hown, hT⟩ (c_H_setText l dC dI a t τ H.size hGτ j (by omega) (by omega)) f_H_setText k_A_93 blM (va_recv hK hP (ci := 2) (q0 := 5) rfl rfl) (x_bM hK hP hN hD) hl.1 d_A_rename_68 rfl (lv_room (Nat.le_of_ble_eq_true rfl)) ⟨Nat.le_of_ble_eq_true rfl, Nat.le_of_ble_eq_true rfl⟩ ⟨rfl, rfl⟩ ⟨Nat.le_refl 0, Nat.le_refl 0⟩ rfl) hD hS hA (fun u68 H locs q68 hP hD hS => ?_)
          subst q68
          have hP : va_P (dC, dI) classes (wA a t (au_ln (au_le (τ) (cpT (a_le τ) (j * 20) (a_tx τ) (a_tn τ))) (updN (a_ln τ) j (a_tn τ)))) H := hP
          have hD : va_D A (wA a t (au_ln (au_le (τ) (cpT (a_le τ) (j * 20) (a_tx τ) (a_tn τ))) (updN (a_ln τ) j (a_tn τ)))) := hD
          refine lv_aload_n hx hb d_A_rename_71 rfl (lv_at hl 1 rfl) ?_
          refine va_get (D := (dC, dI)) (C := R_A) (T := F_A) (N := 6) hx hb hT i_A hown hK hP 0 rfl rfl 4 (by decide) (hT _ k_A_40) (fun _ h9 => h9) (v := .ref (a 15)) rfl d_A_rename_72 ?_
          refine lv_iload_n hx hb d_A_rename_75 rfl (lv_at hl 2 rfl) ?_
          refine x_ci (x_runV ⟨hx, hb, hml, hown, hT⟩ (c_R_countOf l dC dI a t (au_ln (au_le (τ) (cpT (a_le τ) (j * 20) (a_tx τ) (a_tn τ))) (updN (a_ln τ) j (a_tn τ))) (GA_ln (GA_le hGτ (cpT_lt t_le t_tx)) (updN_le t_ln t_tn)) j (by omega)) f_R_countOf k_A_97 blR (va_recv hK hP (ci := 4) (q0 := 15) rfl rfl) (x_bR hK hP hN) hl.1 d_A_rename_76 rfl (lv_room (Nat.le_of_ble_eq_true rfl)) ⟨Nat.le_of_ble_eq_true rfl, Nat.le_of_ble_eq_true rfl⟩ ⟨rfl, rfl⟩ ⟨Nat.le_refl 0, Nat.le_refl 0⟩ rfl) (fun r76 q76 => ?_)
          subst q76
          exact x_mi (wl := wA a t) (au_ln (au_le (τ) (cpT (a_le τ) (j * 20) (a_tx τ) (a_tn τ))) (updN (a_ln τ) j (a_tn τ))) hx hb hr hlk hK hP hD hS d_A_rename_79 ⟨τ, hτ, Or.inr ⟨hok, Or.inr ⟨j, hj1, hj2, hj3, rfl, Or.inr ⟨by first | exact qF | (exfalso; omega), rfl, rfl⟩⟩⟩⟩
        · refine lv_iload_n hx hb d_A_rename_56 rfl (lv_at hl 0 rfl) ?_
          refine lv_ineg hx hb d_A_rename_57 ?_
          exact x_mi (wl := wA a t) (τ) hx hb hr hlk hK hP hD hS d_A_rename_58 ⟨τ, hτ, Or.inr ⟨hok, Or.inr ⟨j, hj1, hj2, hj3, rfl, Or.inl ⟨i, hi1, hi2, rfl, qF, rfl⟩⟩⟩⟩
      · refine lv_istore_n (lv' := [(2, .int (nI 0)), (0, .ref (a 0)), (1, .int (nI j))]) hx hb d_A_rename_51 rfl hl (by decide) rfl (fun ls hl => ?_)
        refine lv_iload_n hx hb d_A_rename_52 rfl (lv_at hl 0 rfl) ?_
        refine x_if_eq (tgt := 59) hx hb d_A_rename_53 (by decide) (fun _ => ?_) (fun h => absurd h (by decide))
        refine lv_aload_n hx hb d_A_rename_59 rfl (lv_at hl 1 rfl) ?_
        refine va_get (D := (dC, dI)) (C := R_A) (T := F_A) (N := 6) hx hb hT i_A hown hK hP 0 rfl rfl 2 (by decide) (hT _ k_A_26) (fun _ h9 => h9) (v := .ref (a 5)) rfl d_A_rename_60 ?_
        refine lv_iload_n hx hb d_A_rename_63 rfl (lv_at hl 2 rfl) ?_
        refine lv_aload_n hx hb d_A_rename_64 rfl (lv_at hl 1 rfl) ?_
        refine va_get (D := (dC, dI)) (C := R_A) (T := F_A) (N := 6) hx hb hT i_A hown hK hP 0 rfl rfl 1 (by decide) (hT _ k_A_19) (fun _ h9 => h9) (v := .ref (a 3)) rfl d_A_rename_65 ?_
        refine x_cMv (wl := wA a t) (x_runV ⟨hx, hb, hml, hown, hT⟩ (c_H_setText l dC dI a t τ H.size hGτ j (by omega) (by omega)) f_H_setText k_A_93 blM (va_recv hK hP (ci := 2) (q0 := 5) rfl rfl) (x_bM hK hP hN hD) hl.1 d_A_rename_68 rfl (lv_room (Nat.le_of_ble_eq_true rfl)) ⟨Nat.le_of_ble_eq_true rfl, Nat.le_of_ble_eq_true rfl⟩ ⟨rfl, rfl⟩ ⟨Nat.le_refl 0, Nat.le_refl 0⟩ rfl) hD hS hA (fun u68 H locs q68 hP hD hS => ?_)
        subst q68
        have hP : va_P (dC, dI) classes (wA a t (au_ln (au_le (τ) (cpT (a_le τ) (j * 20) (a_tx τ) (a_tn τ))) (updN (a_ln τ) j (a_tn τ)))) H := hP
        have hD : va_D A (wA a t (au_ln (au_le (τ) (cpT (a_le τ) (j * 20) (a_tx τ) (a_tn τ))) (updN (a_ln τ) j (a_tn τ)))) := hD
        refine lv_aload_n hx hb d_A_rename_71 rfl (lv_at hl 1 rfl) ?_
        refine va_get (D := (dC, dI)) (C := R_A) (T := F_A) (N := 6) hx hb hT i_A hown hK hP 0 rfl rfl 4 (by decide) (hT _ k_A_40) (fun _ h9 => h9) (v := .ref (a 15)) rfl d_A_rename_72 ?_
        refine lv_iload_n hx hb d_A_rename_75 rfl (lv_at hl 2 rfl) ?_
        refine x_ci (x_runV ⟨hx, hb, hml, hown, hT⟩ (c_R_countOf l dC dI a t (au_ln (au_le (τ) (cpT (a_le τ) (j * 20) (a_tx τ) (a_tn τ))) (updN (a_ln τ) j (a_tn τ))) (GA_ln (GA_le hGτ (cpT_lt t_le t_tx)) (updN_le t_ln t_tn)) j (by omega)) f_R_countOf k_A_97 blR (va_recv hK hP (ci := 4) (q0 := 15) rfl rfl) (x_bR hK hP hN) hl.1 d_A_rename_76 rfl (lv_room (Nat.le_of_ble_eq_true rfl)) ⟨Nat.le_of_ble_eq_true rfl, Nat.le_of_ble_eq_true rfl⟩ ⟨rfl, rfl⟩ ⟨Nat.le_refl 0, Nat.le_refl 0⟩ rfl) (fun r76 q76 => ?_)
        subst q76
        exact x_mi (wl := wA a t) (au_ln (au_le (τ) (cpT (a_le τ) (j * 20) (a_tx τ) (a_tn τ))) (updN (a_ln τ) j (a_tn τ))) hx hb hr hlk hK hP hD hS d_A_rename_79 ⟨τ, hτ, Or.inr ⟨hok, Or.inr ⟨j, hj1, hj2, hj3, rfl, Or.inr ⟨by first | exact qF | (exfalso; omega), rfl, rfl⟩⟩⟩⟩
    · refine x_if_ne (tgt := 31) hx hb d_A_rename_25 (by decide) (fun h => absurd h (by decide)) (fun _ => ?_)
      refine lv_bipush (v := -100) hx hb d_A_rename_28 (by decide) ?_
      exact x_mi (wl := wA a t) (τ) hx hb hr hlk hK hP hD hS d_A_rename_30 ⟨τ, hτ, Or.inr ⟨hok, Or.inl ⟨hnj, rfl, rfl⟩⟩⟩
  · refine x_if_ne (tgt := 17) hx hb d_A_rename_11 (by decide) (fun h => absurd h (by decide)) (fun _ => ?_)
    refine lv_bipush (v := -99) hx hb d_A_rename_14 (by decide) ?_
    exact x_mi (wl := wA a t) (τ) hx hb hr hlk hK hP hD hS d_A_rename_16 ⟨τ, hτ, Or.inl ⟨hok, rfl, rfl⟩⟩

set_option maxRecDepth 100000 in
set_option maxHeartbeats 4000000 in
theorem c_A_linked (l : Launch) (dC : Nat → ClassId) (dI : Nat → Nat → Nat) (a : Nat → Nat) (t : Nat → ClassId) (σ : SA) (hG : GA σ) (x : Int32) : Met l y_A_linked (wS y_A_linked b_A_linked 2 (some .int)) (rD 1) (va_Pc [.ref (a 0), .int x] (RB (dC, dI) (yA t) (wA a t σ))) (vp_Si (fun r => (∃ j, 1 ≤ j ∧ j ≤ a_rn σ ∧ x = nI j ∧ r = nI (a_rh σ j)) ∨ ((¬ ∃ j, 1 ≤ j ∧ j ≤ a_rn σ ∧ x = nI j) ∧ r = nI 0))) 0 0 (fun _ => False) := by
  refine x_enter (by decide) (Nat.le_of_ble_eq_true rfl) ?_
  intro p e s m below meth c ls hx hb hr hml hT hown hlk hnm hl hB
  obtain ⟨hP, hK, hN⟩ := hB
  have hl : lv_has ls 2 [(0, .ref (a 0)), (1, .int x)] := hl
  have hown : s.vm.findClass R_A = some m.cls := hown
  refine lv_aload_n hx hb d_A_linked_0 rfl (lv_at hl 0 rfl) ?_
  refine va_get (D := (dC, dI)) (C := R_A) (T := F_A) (N := 6) hx hb hT i_A hown hK hP 0 rfl rfl 4 (by decide) (hT _ k_A_40) (fun _ h9 => h9) (v := .ref (a 15)) rfl d_A_linked_1 ?_
  refine lv_iload_n hx hb d_A_linked_4 rfl (lv_at hl 1 rfl) ?_
  refine x_ci (x_runV ⟨hx, hb, hml, hown, hT⟩ (c_R_headingOf l dC dI a t σ hG x) f_R_headingOf k_A_152 blR (va_recv hK hP (ci := 4) (q0 := 15) rfl rfl) (x_bR hK hP hN) hl.1 d_A_linked_5 rfl (lv_room (Nat.le_of_ble_eq_true rfl)) ⟨Nat.le_of_ble_eq_true rfl, Nat.le_of_ble_eq_true rfl⟩ ⟨rfl, rfl⟩ ⟨Nat.le_refl 0, Nat.le_refl 0⟩ rfl) (fun r5 q5 => ?_)
  exact x_ri hx hb hr hlk d_A_linked_8 q5

set_option maxRecDepth 100000 in
set_option maxHeartbeats 4000000 in
theorem c_A_ring (l : Launch) (dC : Nat → ClassId) (dI : Nat → Nat → Nat) (a : Nat → Nat) (t : Nat → ClassId) (σ : SA) (hG : GA σ) (x : Int32) : Met l y_A_ring (wS y_A_ring b_A_ring 2 (some .int)) (rD 1) (va_Pc [.ref (a 0), .int x] (RB (dC, dI) (yA t) (wA a t σ))) (vp_Si (fun r => (∃ i, i < a_wn σ ∧ x = nI i ∧ r = nI (a_ws σ i)) ∨ ((¬ ∃ i, i < a_wn σ ∧ x = nI i) ∧ r = nI 0))) 0 0 (fun _ => False) := by
  refine x_enter (by decide) (Nat.le_of_ble_eq_true rfl) ?_
  intro p e s m below meth c ls hx hb hr hml hT hown hlk hnm hl hB
  obtain ⟨hP, hK, hN⟩ := hB
  have hl : lv_has ls 2 [(0, .ref (a 0)), (1, .int x)] := hl
  have hown : s.vm.findClass R_A = some m.cls := hown
  refine lv_aload_n hx hb d_A_ring_0 rfl (lv_at hl 0 rfl) ?_
  refine va_get (D := (dC, dI)) (C := R_A) (T := F_A) (N := 6) hx hb hT i_A hown hK hP 0 rfl rfl 5 (by decide) (hT _ k_A_47) (fun _ h9 => h9) (v := .ref (a 18)) rfl d_A_ring_1 ?_
  refine lv_iload_n hx hb d_A_ring_4 rfl (lv_at hl 1 rfl) ?_
  refine x_ci (x_runV ⟨hx, hb, hml, hown, hT⟩ (c_Y_at l dC dI a t σ hG x) f_Y_at k_A_155 blR (va_recv hK hP (ci := 5) (q0 := 18) rfl rfl) (x_bR hK hP hN) hl.1 d_A_ring_5 rfl (lv_room (Nat.le_of_ble_eq_true rfl)) ⟨Nat.le_of_ble_eq_true rfl, Nat.le_of_ble_eq_true rfl⟩ ⟨rfl, rfl⟩ ⟨Nat.le_refl 0, Nat.le_refl 0⟩ rfl) (fun r5 q5 => ?_)
  exact x_ri hx hb hr hlk d_A_ring_8 q5

set_option maxRecDepth 100000 in
set_option maxHeartbeats 4000000 in
theorem c_A_letter (l : Launch) (dC : Nat → ClassId) (dI : Nat → Nat → Nat) (a : Nat → Nat) (t : Nat → ClassId) (σ : SA) (hG : GA σ) (x y : Int32) : Met l y_A_letter (wS y_A_letter b_A_letter 3 (some .int)) (rD 2) (va_Pc [.ref (a 0), .int x, .int y] (RB (dC, dI) (yA t) (wA a t σ))) (vp_Si (fun r => (∃ j i, 1 ≤ j ∧ j ≤ a_hn σ ∧ i < a_ln σ j ∧ x = nI j ∧ y = nI i ∧ r = nI (a_le σ (j * 20 + i))) ∨ ((¬ ∃ j i, 1 ≤ j ∧ j ≤ a_hn σ ∧ i < a_ln σ j ∧ x = nI j ∧ y = nI i) ∧ r = -1))) 0 0 (fun _ => False) := by
  refine x_enter (by decide) (Nat.le_of_ble_eq_true rfl) ?_
  intro p e s m below meth c ls hx hb hr hml hT hown hlk hnm hl hB
  obtain ⟨hP, hK, hN⟩ := hB
  have hl : lv_has ls 3 [(0, .ref (a 0)), (1, .int x), (2, .int y)] := hl
  have hown : s.vm.findClass R_A = some m.cls := hown
  refine lv_aload_n hx hb d_A_letter_0 rfl (lv_at hl 0 rfl) ?_
  refine va_get (D := (dC, dI)) (C := R_A) (T := F_A) (N := 6) hx hb hT i_A hown hK hP 0 rfl rfl 2 (by decide) (hT _ k_A_26) (fun _ h9 => h9) (v := .ref (a 5)) rfl d_A_letter_1 ?_
  refine lv_iload_n hx hb d_A_letter_4 rfl (lv_at hl 1 rfl) ?_
  refine lv_iload_n hx hb d_A_letter_5 rfl (lv_at hl 2 rfl) ?_
  refine x_ci (x_runV ⟨hx, hb, hml, hown, hT⟩ (c_H_letterOf l dC dI a t σ hG x y) f_H_letterOf k_A_158 blR (va_recv hK hP (ci := 2) (q0 := 5) rfl rfl) (x_bR hK hP hN) hl.1 d_A_letter_6 rfl (lv_room (Nat.le_of_ble_eq_true rfl)) ⟨Nat.le_of_ble_eq_true rfl, Nat.le_of_ble_eq_true rfl⟩ ⟨rfl, rfl⟩ ⟨Nat.le_refl 0, Nat.le_refl 0⟩ rfl) (fun r6 q6 => ?_)
  exact x_ri hx hb hr hlk d_A_letter_9 q6

set_option maxRecDepth 100000 in
set_option maxHeartbeats 4000000 in
theorem c_A_see (l : Launch) (dC : Nat → ClassId) (dI : Nat → Nat → Nat) (a : Nat → Nat) (t : Nat → ClassId) (σ : SA) (hG : GA σ) (x y : Int32) : Met l y_A_see (wS y_A_see b_A_see 3 (some .int)) (rD 3) (va_Pc [.ref (a 0), .int x, .int y] (RB (dC, dI) (yA t) (wA a t σ))) (vp_Si (fun r => (¬ (∃ j i, 1 ≤ j ∧ j ≤ a_hn σ ∧ a_lv σ j = 1 ∧ x = nI j ∧ i < 2 ^ 31 ∧ y = nI i) ∧ r = nI 0) ∨ ∃ j i, 1 ≤ j ∧ j ≤ a_hn σ ∧ a_lv σ j = 1 ∧ x = nI j ∧ i < 2 ^ 31 ∧ y = nI i ∧ ∃ sv : Int64, (∀ b, bt6 sv b = true ↔ ∃ h, h < 60 ∧ b = h + 1 ∧ ¬ (a_tg σ (0 * 61 + (h + 1)) &&& sg j) = 0) ∧ NTH (bt6 sv) 60 i r)) 0 0 (fun _ => False) := by
  refine x_enter (by decide) (Nat.le_of_ble_eq_true rfl) ?_
  intro p e s m below meth c ls hx hb hr hml hT hown hlk hnm hl hB
  obtain ⟨hP, hK, hN⟩ := hB
  have hl : lv_has ls 3 [(0, .ref (a 0)), (1, .int x), (2, .int y)] := hl
  have hown : s.vm.findClass R_A = some m.cls := hown
  have hG2 := hG
  obtain ⟨g_sn, g_sg, g_tn, g_tx, g_kd, g_lv, g_le, g_ln, g_hn, g_lf, g_lt, g_lc, g_rh, g_rn, g_ws, g_wn⟩ := hG
  refine lv_aload_n hx hb d_A_see_0 rfl (lv_at hl 0 rfl) ?_
  refine va_get (D := (dC, dI)) (C := R_A) (T := F_A) (N := 6) hx hb hT i_A hown hK hP 0 rfl rfl 2 (by decide) (hT _ k_A_26) (fun _ h9 => h9) (v := .ref (a 5)) rfl d_A_see_1 ?_
  refine lv_iload_n hx hb d_A_see_4 rfl (lv_at hl 1 rfl) ?_
  refine x_ci (x_runV ⟨hx, hb, hml, hown, hT⟩ (c_H_isLive l dC dI a t σ hG2 x) f_H_isLive k_A_63 blR (va_recv hK hP (ci := 2) (q0 := 5) rfl rfl) (x_bR hK hP hN) hl.1 d_A_see_5 rfl (lv_room (Nat.le_of_ble_eq_true rfl)) ⟨Nat.le_of_ble_eq_true rfl, Nat.le_of_ble_eq_true rfl⟩ ⟨rfl, rfl⟩ ⟨Nat.le_refl 0, Nat.le_refl 0⟩ rfl) (fun r5 q5 => ?_)
  rcases q5 with ⟨rfl, j, hj1, hj2, hj3, rfl⟩ | ⟨rfl, hnj⟩
  · refine x_if_eq (tgt := 15) hx hb d_A_see_8 (by decide) (fun h => absurd h (by decide)) (fun _ => ?_)
    refine lv_iload_n hx hb d_A_see_11 rfl (lv_at hl 2 rfl) ?_
    refine lv_if_ge (tgt := 17) hx hb d_A_see_12 (by decide) (fun c12 => ?_) (fun c12 => ?_)
    · obtain ⟨i, hi, rfl⟩ := nI_of (show ¬ y < 0 from Int32.not_lt.mpr c12)
      refine lv_aload_n hx hb d_A_see_17 rfl (lv_at hl 0 rfl) ?_
      refine va_get (D := (dC, dI)) (C := R_A) (T := F_A) (N := 6) hx hb hT i_A hown hK hP 0 rfl rfl 3 (by decide) (hT _ k_A_33) (fun _ h9 => h9) (v := .ref (a 10)) rfl d_A_see_18 ?_
      refine lv_iconst (v := nI 0) hx hb d_A_see_21 (by decide) ?_
      refine lv_iload_n hx hb d_A_see_22 rfl (lv_at hl 1 rfl) ?_
      refine x_cl (x_runS ⟨hx, hb, hml, hown, hT⟩ (c_A_setOf l j (by omega)) f_A_setOf k_A_104 blT (x_bT hN) hl.1 d_A_see_23 rfl (lv_room (Nat.le_of_ble_eq_true rfl)) ⟨Nat.le_of_ble_eq_true rfl, Nat.le_of_ble_eq_true rfl⟩ ⟨rfl, rfl⟩ ⟨Nat.le_refl 0, Nat.le_refl 0⟩ rfl) (fun r23 q23 => ?_)
      subst q23
      refine x_cl (x_runV ⟨hx, hb, hml, hown, hT⟩ (c_K_sourcesOf l dC dI a t σ 0 (sg j) (by omega)) f_K_sourcesOf k_A_108 blR (va_recv hK hP (ci := 3) (q0 := 10) rfl rfl) (x_bR hK hP hN) hl.1 d_A_see_26 rfl (lv_room (Nat.le_of_ble_eq_true rfl)) ⟨Nat.le_of_ble_eq_true rfl, Nat.le_of_ble_eq_true rfl⟩ ⟨rfl, rfl⟩ ⟨Nat.le_refl 0, Nat.le_refl 0⟩ rfl) (fun sv q26 => ?_)
      refine lv_iload_n hx hb d_A_see_29 rfl (lv_at hl 2 rfl) ?_
      refine x_ci (x_runS ⟨hx, hb, hml, hown, hT⟩ (c_A_nthOf l sv i hi) f_A_nthOf k_A_112 blT (x_bT hN) hl.1 d_A_see_30 rfl (lv_room (Nat.le_of_ble_eq_true rfl)) ⟨Nat.le_of_ble_eq_true rfl, Nat.le_of_ble_eq_true rfl⟩ ⟨rfl, rfl⟩ ⟨Nat.le_refl 0, Nat.le_refl 0⟩ rfl) (fun r30 q30 => ?_)
      exact x_ri hx hb hr hlk d_A_see_33 (Or.inr ⟨j, i, hj1, hj2, hj3, rfl, hi, rfl, sv, q26, q30⟩)
    · refine lv_iconst (v := nI 0) hx hb d_A_see_15 (by decide) ?_
      exact x_ri hx hb hr hlk d_A_see_16 (Or.inl ⟨by rintro ⟨j', i', h1, h2, h3, h4, h5, h6⟩; first | exact hnj ⟨j', h1, h2, h3, h4⟩ | (rw [h6] at c12; exact c12 (nI_pos' h5)), rfl⟩)
  · refine x_if_eq (tgt := 15) hx hb d_A_see_8 (by decide) (fun _ => ?_) (fun h => absurd h (by decide))
    refine lv_iconst (v := nI 0) hx hb d_A_see_15 (by decide) ?_
    exact x_ri hx hb hr hlk d_A_see_16 (Or.inl ⟨by rintro ⟨j', i', h1, h2, h3, h4, h5, h6⟩; first | exact hnj ⟨j', h1, h2, h3, h4⟩ | (rw [h6] at c12; exact c12 (nI_pos' h5)), rfl⟩)
end
section
/-- a link more -/
def ADK (σ : SA) (q f h : Nat) (d : Int64) : SA := if q = 3 then au_lc (au_ld (au_lt (au_lf (au_tg σ (vp_updL (a_tg σ) (q * 61 + f) (a_tg σ (q * 61 + f) ||| sg h))) (updN (a_lf σ) (a_lc σ) f)) (updN (a_lt σ) (a_lc σ) h)) (vp_updL (a_ld σ) (a_lc σ) d)) (a_lc σ + 1) else au_tg σ (vp_updL (a_tg σ) (q * 61 + f) (a_tg σ (q * 61 + f) ||| sg h))
/-- the way that would have been closed -/
def RNG (σ : SA) (q z x : Nat) (u : SA) : Prop := ∃ (V : Nat → Int64) (d : Nat) (S : Nat → Nat), d < 59 ∧ levA (a_tg σ) q z (d + 1) x ∧ u = au_wn (au_ws (au_aw σ V) S) (d + 2) ∧ (∀ j, S j ≤ 60) ∧ S 0 = x ∧ (∀ j, j < d + 1 → NTH (bt6 (a_tg σ (q * 61 + S j) &&& V (d - j))) 60 0 (nI (S (j + 1)))) ∧ ∀ e, e ≤ d + 1 → ∀ b, b < 64 → (bt6 (V e) b = true ↔ levA (a_tg σ) q z e b)
def CHN (σ : SA) (x z : Nat) : Prop := ¬ a_tg σ (0 * 61 + x) = 0 ∨ (∃ h, h < 60 ∧ bt6 (a_tg σ (0 * 61 + (h + 1))) x = true) ∨ ¬ a_tg σ (0 * 61 + z) = 0
def VLD (σ : SA) (x y z : Int32) (q i j : Nat) : Prop := q < 4 ∧ (1 ≤ i ∧ i ≤ a_hn σ ∧ a_lv σ i = 1) ∧ (1 ≤ j ∧ j ≤ a_hn σ ∧ a_lv σ j = 1) ∧ i ≠ j ∧ x = nI q ∧ y = nI i ∧ z = nI j
def LNK (σ : SA) (x y z : Int32) (d : Int64) (r : Int32) (u : SA) : Prop := ((¬ ∃ q i j, VLD σ x y z q i j) ∧ r = nI 0 ∧ u = σ) ∨ ∃ q i j, VLD σ x y z q i j ∧ ((bt6 (a_tg σ (q * 61 + i)) j = true ∧ r = nI 0 ∧ u = σ) ∨ (¬ bt6 (a_tg σ (q * 61 + i)) j = true ∧ ((q = 0 ∧ CHN σ i j ∧ r = nI 0 ∧ u = σ) ∨ (q = 0 ∧ ¬ CHN σ i j ∧ r = nI 1 ∧ u = ADK σ q i j d) ∨ (q = 1 ∧ r = nI 1 ∧ u = ADK σ q i j d) ∨ (2 ≤ q ∧ ((r = nI 0 ∧ RNG σ q i j u) ∨ ∃ V, r = nI 1 ∧ (∀ e, e < 60 → ¬ levA (a_tg σ) q i e j) ∧ u = ADK (au_aw σ V) q i j d)))))
set_option maxRecDepth 100000 in
set_option maxHeartbeats 4000000 in
theorem c_A_link (l : Launch) (dC : Nat → ClassId) (dI : Nat → Nat → Nat) (a : Nat → Nat) (t : Nat → ClassId) (σ : SA) (sz : Nat) (hG : GA σ) (x y z : Int32) (d : Int64) (hlc : a_lc σ < 512) : Met l y_A_link (wS y_A_link b_A_link 6 (some .int)) (rD 5) (va_Pc [.ref (a 0), .int x, .int y, .int z, .long d] (MB (dC, dI) (yA t) (wA a t σ) sz)) (va_Qi (fun (r : Int32) (u : SA) => LNK σ x y z d r u) (fun u => ME (dC, dI) (yA t) (va_A (wA a t σ) sz) (wA a t u)) (va_A (wA a t σ) sz)) 0 0 (va_A (wA a t σ) sz) := by
  refine x_enter (by decide) (Nat.le_of_ble_eq_true rfl) ?_
  intro p e s m below meth c ls hx hb hr hml hT hown hlk hnm hl hB
  obtain ⟨rfl, hP, hK, hN, hD0⟩ := hB
  have hD := hD0.self (sz := s.heap.size)
  generalize hAe : va_A (wA a t σ) s.heap.size = A at hD ⊢
  have hA : ∀ q : Nat, s.heap.size ≤ q → A q := fun q h => by rw [← hAe]; exact Or.inr h
  have hS : va_S A s.heap s.heap [] := va_S.rf
  have hP : va_P (dC, dI) classes (wA a t σ) s.heap := hP
  have hl : lv_has ls 6 [(0, .ref (a 0)), (1, .int x), (2, .int y), (3, .int z), (4, .long d)] := hl
  have hown : s.vm.findClass R_A = some m.cls := hown
  have hG2 := hG
  obtain ⟨g_sn, g_sg, g_tn, g_tx, g_kd, g_lv, g_le, g_ln, g_hn, g_lf, g_lt, g_lc, g_rh, g_rn, g_ws, g_wn⟩ := hG
  refine lv_iload_n hx hb d_A_link_0 rfl (lv_at hl 1 rfl) ?_
  refine lv_if_lt (tgt := 14) hx hb d_A_link_1 (by decide) (fun c1 => ?_) (fun c1 => ?_)
  · refine lv_iconst (v := nI 0) hx hb d_A_link_14 (by decide) ?_
    exact x_mi (wl := wA a t) σ hx hb hr hlk hK hP hD hS d_A_link_15 (Or.inl ⟨by rintro ⟨q', i', j', h1, h2, h3, h4, h5, h6, h7⟩; first | exact hni ⟨i', h2.1, h2.2.1, h2.2.2, h6⟩ | exact hnj ⟨j', h3.1, h3.2.1, h3.2.2, h7⟩ | (rw [h5] at c1; exact absurd c1 (nI_pos (by omega))) | (have h8 := (nI_eq (by omega) (by omega)).mp h5; omega) | (rw [h6, h7] at c11; exact h4 ((nI_eq (by omega) (by omega)).mp c11)), rfl, rfl⟩)
  · obtain ⟨q, hq0, rfl⟩ := nI_of c1
    refine lv_iload_n hx hb d_A_link_4 rfl (lv_at hl 1 rfl) ?_
    refine lv_iconst (v := nI 4) hx hb d_A_link_5 (by decide) ?_
    refine x_icmp_ge (tgt := 14) hx hb d_A_link_6 (by decide) (fun c6 => ?_) (fun c6 => ?_)
    · refine lv_iconst (v := nI 0) hx hb d_A_link_14 (by decide) ?_
      exact x_mi (wl := wA a t) σ hx hb hr hlk hK hP hD hS d_A_link_15 (Or.inl ⟨by rintro ⟨q', i', j', h1, h2, h3, h4, h5, h6, h7⟩; first | exact hni ⟨i', h2.1, h2.2.1, h2.2.2, h6⟩ | exact hnj ⟨j', h3.1, h3.2.1, h3.2.2, h7⟩ | (rw [h5] at c1; exact absurd c1 (nI_pos (by omega))) | (have h8 := (nI_eq (by omega) (by omega)).mp h5; omega) | (rw [h6, h7] at c11; exact h4 ((nI_eq (by omega) (by omega)).mp c11)), rfl, rfl⟩)
    · refine lv_iload_n hx hb d_A_link_9 rfl (lv_at hl 2 rfl) ?_
      refine lv_iload_n hx hb d_A_link_10 rfl (lv_at hl 3 rfl) ?_
      refine lv_icmp_ne (tgt := 16) hx hb d_A_link_11 (by decide) (fun c11 => ?_) (fun c11 => ?_)
      · refine lv_aload_n hx hb d_A_link_16 rfl (lv_at hl 0 rfl) ?_
        refine va_get (D := (dC, dI)) (C := R_A) (T := F_A) (N := 6) hx hb hT i_A hown hK hP 0 rfl rfl 2 (by decide) (hT _ k_A_26) (fun _ h9 => h9) (v := .ref (a 5)) rfl d_A_link_17 ?_
        refine lv_iload_n hx hb d_A_link_20 rfl (lv_at hl 2 rfl) ?_
        refine x_ci (x_runV ⟨hx, hb, hml, hown, hT⟩ (c_H_isLive l dC dI a t σ hG2 y) f_H_isLive k_A_63 blR (va_recv hK hP (ci := 2) (q0 := 5) rfl rfl) (x_bR hK hP hN) hl.1 d_A_link_21 rfl (lv_room (Nat.le_of_ble_eq_true rfl)) ⟨Nat.le_of_ble_eq_true rfl, Nat.le_of_ble_eq_true rfl⟩ ⟨rfl, rfl⟩ ⟨Nat.le_refl 0, Nat.le_refl 0⟩ rfl) (fun r21 q21 => ?_)
        rcases q21 with ⟨rfl, i, hi1, hi2, hi3, rfl⟩ | ⟨rfl, hni⟩
        · refine x_if_eq (tgt := 38) hx hb d_A_link_24 (by decide) (fun h => absurd h (by decide)) (fun _ => ?_)
          refine lv_aload_n hx hb d_A_link_27 rfl (lv_at hl 0 rfl) ?_
          refine va_get (D := (dC, dI)) (C := R_A) (T := F_A) (N := 6) hx hb hT i_A hown hK hP 0 rfl rfl 2 (by decide) (hT _ k_A_26) (fun _ h9 => h9) (v := .ref (a 5)) rfl d_A_link_28 ?_
          refine lv_iload_n hx hb d_A_link_31 rfl (lv_at hl 3 rfl) ?_
          refine x_ci (x_runV ⟨hx, hb, hml, hown, hT⟩ (c_H_isLive l dC dI a t σ hG2 z) f_H_isLive k_A_63 blR (va_recv hK hP (ci := 2) (q0 := 5) rfl rfl) (x_bR hK hP hN) hl.1 d_A_link_32 rfl (lv_room (Nat.le_of_ble_eq_true rfl)) ⟨Nat.le_of_ble_eq_true rfl, Nat.le_of_ble_eq_true rfl⟩ ⟨rfl, rfl⟩ ⟨Nat.le_refl 0, Nat.le_refl 0⟩ rfl) (fun r32 q32 => ?_)
          rcases q32 with ⟨rfl, j, hj1, hj2, hj3, rfl⟩ | ⟨rfl, hnj⟩
          · refine x_if_ne (tgt := 40) hx hb d_A_link_35 (by decide) (fun _ => ?_) (fun h => absurd h (by decide))
            refine lv_aload_n hx hb d_A_link_40 rfl (lv_at hl 0 rfl) ?_
            refine va_get (D := (dC, dI)) (C := R_A) (T := F_A) (N := 6) hx hb hT i_A hown hK hP 0 rfl rfl 3 (by decide) (hT _ k_A_33) (fun _ h9 => h9) (v := .ref (a 10)) rfl d_A_link_41 ?_
            refine lv_iload_n hx hb d_A_link_44 rfl (lv_at hl 1 rfl) ?_
            refine lv_iload_n hx hb d_A_link_45 rfl (lv_at hl 2 rfl) ?_
            refine lv_iload_n hx hb d_A_link_46 rfl (lv_at hl 3 rfl) ?_
            have hij : i ≠ j := fun h9 => c11 (by rw [h9])
            have hvl : VLD σ (nI q) (nI i) (nI j) q i j := ⟨by omega, ⟨hi1, hi2, hi3⟩, ⟨hj1, hj2, hj3⟩, hij, rfl, rfl, rfl⟩
            refine x_ci (x_runV ⟨hx, hb, hml, hown, hT⟩ (c_K_has l dC dI a t σ q i j (by omega) (by omega) (by omega)) f_K_has k_A_67 blR (va_recv hK hP (ci := 3) (q0 := 10) rfl rfl) (x_bR hK hP hN) hl.1 d_A_link_47 rfl (lv_room (Nat.le_of_ble_eq_true rfl)) ⟨Nat.le_of_ble_eq_true rfl, Nat.le_of_ble_eq_true rfl⟩ ⟨rfl, rfl⟩ ⟨Nat.le_refl 0, Nat.le_refl 0⟩ rfl) (fun r47 q47 => ?_)
            rcases q47 with ⟨rfl, hhas⟩ | ⟨rfl, hhas⟩
            · refine x_if_ne (tgt := 63) hx hb d_A_link_50 (by decide) (fun _ => ?_) (fun h => absurd h (by decide))
              refine lv_iconst (v := nI 0) hx hb d_A_link_63 (by decide) ?_
              exact x_mi (wl := wA a t) σ hx hb hr hlk hK hP hD hS d_A_link_64 (Or.inr ⟨q, i, j, hvl, Or.inl ⟨hhas, rfl, rfl⟩⟩)
            · refine x_if_ne (tgt := 63) hx hb d_A_link_50 (by decide) (fun h => absurd h (by decide)) (fun _ => ?_)
              refine lv_aload_n hx hb d_A_link_53 rfl (lv_at hl 0 rfl) ?_
              refine va_get (D := (dC, dI)) (C := R_A) (T := F_A) (N := 6) hx hb hT i_A hown hK hP 0 rfl rfl 3 (by decide) (hT _ k_A_33) (fun _ h9 => h9) (v := .ref (a 10)) rfl d_A_link_54 ?_
              refine x_ci (x_runV ⟨hx, hb, hml, hown, hT⟩ (c_K_isFull l dC dI a t σ hG2) f_K_isFull k_A_71 blR (va_recv hK hP (ci := 3) (q0 := 10) rfl rfl) (x_bR hK hP hN) hl.1 d_A_link_57 rfl (lv_room (Nat.le_of_ble_eq_true rfl)) ⟨Nat.le_of_ble_eq_true rfl, Nat.le_of_ble_eq_true rfl⟩ ⟨rfl, rfl⟩ ⟨Nat.le_refl 0, Nat.le_refl 0⟩ rfl) (fun r57 q57 => ?_)
              rcases q57 with ⟨_, h9⟩ | ⟨rfl, _⟩
              · exact absurd h9 (by omega)
              refine x_if_eq (tgt := 65) hx hb d_A_link_60 (by decide) (fun _ => ?_) (fun h => absurd h (by decide))
              refine lv_iload_n hx hb d_A_link_65 rfl (lv_at hl 1 rfl) ?_
              refine x_if_ne (tgt := 80) hx hb d_A_link_66 (by decide) (fun c66 => ?_) (fun c66 => ?_)
              · refine lv_iload_n hx hb d_A_link_80 rfl (lv_at hl 1 rfl) ?_
                refine lv_iconst (v := nI 2) hx hb d_A_link_81 (by decide) ?_
                refine x_icmp_eq (tgt := 90) hx hb d_A_link_82 (by decide) (fun c82 => ?_) (fun c82 => ?_)
                · refine lv_aload_n hx hb d_A_link_90 rfl (lv_at hl 0 rfl) ?_
                  refine va_get (D := (dC, dI)) (C := R_A) (T := F_A) (N := 6) hx hb hT i_A hown hK hP 0 rfl rfl 5 (by decide) (hT _ k_A_47) (fun _ h9 => h9) (v := .ref (a 18)) rfl d_A_link_91 ?_
                  refine lv_aload_n hx hb d_A_link_94 rfl (lv_at hl 0 rfl) ?_
                  refine va_get (D := (dC, dI)) (C := R_A) (T := F_A) (N := 6) hx hb hT i_A hown hK hP 0 rfl rfl 3 (by decide) (hT _ k_A_33) (fun _ h9 => h9) (v := .ref (a 10)) rfl d_A_link_95 ?_
                  refine lv_iload_n hx hb d_A_link_98 rfl (lv_at hl 1 rfl) ?_
                  refine lv_iload_n hx hb d_A_link_99 rfl (lv_at hl 3 rfl) ?_
                  refine lv_iload_n hx hb d_A_link_100 rfl (lv_at hl 2 rfl) ?_
                  refine x_cMi (wl := wA a t) (x_runV ⟨hx, hb, hml, hown, hT⟩ (c_Y_lay l dC dI a t σ s.heap.size hG2 q j i (by omega) (by omega) (by omega) (Ne.symm hij)) f_Y_lay k_A_79 blM (va_recv hK hP (ci := 5) (q0 := 18) rfl rfl) (x_bM hK hP hN hD) hl.1 d_A_link_101 rfl (lv_room (Nat.le_of_ble_eq_true rfl)) ⟨Nat.le_of_ble_eq_true rfl, Nat.le_of_ble_eq_true rfl⟩ ⟨rfl, rfl⟩ ⟨Nat.le_refl 0, Nat.le_refl 0⟩ rfl) hD hS hA (fun r101 u101 H locs q101 hP hD hS => ?_)
                  obtain ⟨V, q101⟩ := q101
                  rcases q101 with ⟨rfl, rfl, hno⟩ | ⟨d0, S, rfl, hd0, hl9, hu9, hS9, hS0, hSj, hV⟩
                  · refine x_if_eq (tgt := 109) hx hb d_A_link_104 (by decide) (fun _ => ?_) (fun h => absurd h (by decide))
                    refine lv_aload_n hx hb d_A_link_109 rfl (lv_at hl 0 rfl) ?_
                    refine va_get (D := (dC, dI)) (C := R_A) (T := F_A) (N := 6) hx hb hT i_A hown hK hP 0 rfl rfl 3 (by decide) (hT _ k_A_33) (fun _ h9 => h9) (v := .ref (a 10)) rfl d_A_link_110 ?_
                    refine lv_iload_n hx hb d_A_link_113 rfl (lv_at hl 1 rfl) ?_
                    refine lv_iload_n hx hb d_A_link_114 rfl (lv_at hl 2 rfl) ?_
                    refine lv_iload_n hx hb d_A_link_115 rfl (lv_at hl 3 rfl) ?_
                    refine lv_lload hx hb d_A_link_116 (lv_at hl 4 rfl) ?_
                    refine x_cMv (wl := wA a t) (x_runV ⟨hx, hb, hml, hown, hT⟩ (c_K_add l dC dI a t (au_aw σ (V)) H.size (GA_aw hG2) q i j d (by omega) (by omega) (by omega) hlc) f_K_add k_A_83 blM (va_recv hK hP (ci := 3) (q0 := 10) rfl rfl) (x_bM hK hP hN hD) hl.1 d_A_link_118 rfl (lv_room (Nat.le_of_ble_eq_true rfl)) ⟨Nat.le_of_ble_eq_true rfl, Nat.le_of_ble_eq_true rfl⟩ ⟨rfl, rfl⟩ ⟨Nat.le_refl 0, Nat.le_refl 0⟩ rfl) hD hS hA (fun u118 H locs q118 hP hD hS => ?_)
                    refine lv_iconst (v := nI 1) hx hb d_A_link_121 (by decide) ?_
                    exact x_mi (wl := wA a t) u118 hx hb hr hlk hK hP hD hS d_A_link_122 (Or.inr ⟨q, i, j, hvl, Or.inr ⟨hhas, Or.inr (Or.inr (Or.inr ⟨by omega, Or.inr ⟨V, rfl, hno, q118⟩⟩))⟩⟩)
                  · refine x_if_eq (tgt := 109) hx hb d_A_link_104 (by decide) (fun h => absurd h (by decide)) (fun _ => ?_)
                    refine lv_iconst (v := nI 0) hx hb d_A_link_107 (by decide) ?_
                    exact x_mi (wl := wA a t) u101 hx hb hr hlk hK hP hD hS d_A_link_108 (Or.inr ⟨q, i, j, hvl, Or.inr ⟨hhas, Or.inr (Or.inr (Or.inr ⟨by omega, Or.inl ⟨rfl, V, d0, S, hd0, hl9, hu9, hS9, hS0, hSj, hV⟩⟩))⟩⟩)
                · refine lv_iload_n hx hb d_A_link_85 rfl (lv_at hl 1 rfl) ?_
                  refine lv_iconst (v := nI 3) hx hb d_A_link_86 (by decide) ?_
                  refine x_icmp_ne (tgt := 109) hx hb d_A_link_87 (by decide) (fun c87 => ?_) (fun c87 => ?_)
                  · refine lv_aload_n hx hb d_A_link_109 rfl (lv_at hl 0 rfl) ?_
                    refine va_get (D := (dC, dI)) (C := R_A) (T := F_A) (N := 6) hx hb hT i_A hown hK hP 0 rfl rfl 3 (by decide) (hT _ k_A_33) (fun _ h9 => h9) (v := .ref (a 10)) rfl d_A_link_110 ?_
                    refine lv_iload_n hx hb d_A_link_113 rfl (lv_at hl 1 rfl) ?_
                    refine lv_iload_n hx hb d_A_link_114 rfl (lv_at hl 2 rfl) ?_
                    refine lv_iload_n hx hb d_A_link_115 rfl (lv_at hl 3 rfl) ?_
                    refine lv_lload hx hb d_A_link_116 (lv_at hl 4 rfl) ?_
                    refine x_cMv (wl := wA a t) (x_runV ⟨hx, hb, hml, hown, hT⟩ (c_K_add l dC dI a t σ s.heap.size hG2 q i j d (by omega) (by omega) (by omega) hlc) f_K_add k_A_83 blM (va_recv hK hP (ci := 3) (q0 := 10) rfl rfl) (x_bM hK hP hN hD) hl.1 d_A_link_118 rfl (lv_room (Nat.le_of_ble_eq_true rfl)) ⟨Nat.le_of_ble_eq_true rfl, Nat.le_of_ble_eq_true rfl⟩ ⟨rfl, rfl⟩ ⟨Nat.le_refl 0, Nat.le_refl 0⟩ rfl) hD hS hA (fun u118 H locs q118 hP hD hS => ?_)
                    refine lv_iconst (v := nI 1) hx hb d_A_link_121 (by decide) ?_
                    exact x_mi (wl := wA a t) u118 hx hb hr hlk hK hP hD hS d_A_link_122 (Or.inr ⟨q, i, j, hvl, Or.inr ⟨hhas, by first | exact Or.inr (Or.inl ⟨by omega, hch, rfl, q118⟩) | exact Or.inr (Or.inr (Or.inl ⟨by omega, rfl, q118⟩)) | (exfalso; omega)⟩⟩)
                  · refine lv_aload_n hx hb d_A_link_90 rfl (lv_at hl 0 rfl) ?_
                    refine va_get (D := (dC, dI)) (C := R_A) (T := F_A) (N := 6) hx hb hT i_A hown hK hP 0 rfl rfl 5 (by decide) (hT _ k_A_47) (fun _ h9 => h9) (v := .ref (a 18)) rfl d_A_link_91 ?_
                    refine lv_aload_n hx hb d_A_link_94 rfl (lv_at hl 0 rfl) ?_
                    refine va_get (D := (dC, dI)) (C := R_A) (T := F_A) (N := 6) hx hb hT i_A hown hK hP 0 rfl rfl 3 (by decide) (hT _ k_A_33) (fun _ h9 => h9) (v := .ref (a 10)) rfl d_A_link_95 ?_
                    refine lv_iload_n hx hb d_A_link_98 rfl (lv_at hl 1 rfl) ?_
                    refine lv_iload_n hx hb d_A_link_99 rfl (lv_at hl 3 rfl) ?_
                    refine lv_iload_n hx hb d_A_link_100 rfl (lv_at hl 2 rfl) ?_
                    refine x_cMi (wl := wA a t) (x_runV ⟨hx, hb, hml, hown, hT⟩ (c_Y_lay l dC dI a t σ s.heap.size hG2 q j i (by omega) (by omega) (by omega) (Ne.symm hij)) f_Y_lay k_A_79 blM (va_recv hK hP (ci := 5) (q0 := 18) rfl rfl) (x_bM hK hP hN hD) hl.1 d_A_link_101 rfl (lv_room (Nat.le_of_ble_eq_true rfl)) ⟨Nat.le_of_ble_eq_true rfl, Nat.le_of_ble_eq_true rfl⟩ ⟨rfl, rfl⟩ ⟨Nat.le_refl 0, Nat.le_refl 0⟩ rfl) hD hS hA (fun r101 u101 H locs q101 hP hD hS => ?_)
                    obtain ⟨V, q101⟩ := q101
                    rcases q101 with ⟨rfl, rfl, hno⟩ | ⟨d0, S, rfl, hd0, hl9, hu9, hS9, hS0, hSj, hV⟩
                    · refine x_if_eq (tgt := 109) hx hb d_A_link_104 (by decide) (fun _ => ?_) (fun h => absurd h (by decide))
                      refine lv_aload_n hx hb d_A_link_109 rfl (lv_at hl 0 rfl) ?_
                      refine va_get (D := (dC, dI)) (C := R_A) (T := F_A) (N := 6) hx hb hT i_A hown hK hP 0 rfl rfl 3 (by decide) (hT _ k_A_33) (fun _ h9 => h9) (v := .ref (a 10)) rfl d_A_link_110 ?_
                      refine lv_iload_n hx hb d_A_link_113 rfl (lv_at hl 1 rfl) ?_
                      refine lv_iload_n hx hb d_A_link_114 rfl (lv_at hl 2 rfl) ?_
                      refine lv_iload_n hx hb d_A_link_115 rfl (lv_at hl 3 rfl) ?_
                      refine lv_lload hx hb d_A_link_116 (lv_at hl 4 rfl) ?_
                      refine x_cMv (wl := wA a t) (x_runV ⟨hx, hb, hml, hown, hT⟩ (c_K_add l dC dI a t (au_aw σ (V)) H.size (GA_aw hG2) q i j d (by omega) (by omega) (by omega) hlc) f_K_add k_A_83 blM (va_recv hK hP (ci := 3) (q0 := 10) rfl rfl) (x_bM hK hP hN hD) hl.1 d_A_link_118 rfl (lv_room (Nat.le_of_ble_eq_true rfl)) ⟨Nat.le_of_ble_eq_true rfl, Nat.le_of_ble_eq_true rfl⟩ ⟨rfl, rfl⟩ ⟨Nat.le_refl 0, Nat.le_refl 0⟩ rfl) hD hS hA (fun u118 H locs q118 hP hD hS => ?_)
                      refine lv_iconst (v := nI 1) hx hb d_A_link_121 (by decide) ?_
                      exact x_mi (wl := wA a t) u118 hx hb hr hlk hK hP hD hS d_A_link_122 (Or.inr ⟨q, i, j, hvl, Or.inr ⟨hhas, Or.inr (Or.inr (Or.inr ⟨by omega, Or.inr ⟨V, rfl, hno, q118⟩⟩))⟩⟩)
                    · refine x_if_eq (tgt := 109) hx hb d_A_link_104 (by decide) (fun h => absurd h (by decide)) (fun _ => ?_)
                      refine lv_iconst (v := nI 0) hx hb d_A_link_107 (by decide) ?_
                      exact x_mi (wl := wA a t) u101 hx hb hr hlk hK hP hD hS d_A_link_108 (Or.inr ⟨q, i, j, hvl, Or.inr ⟨hhas, Or.inr (Or.inr (Or.inr ⟨by omega, Or.inl ⟨rfl, V, d0, S, hd0, hl9, hu9, hS9, hS0, hSj, hV⟩⟩))⟩⟩)
              · refine lv_aload_n hx hb d_A_link_69 rfl (lv_at hl 0 rfl) ?_
                refine lv_iload_n hx hb d_A_link_70 rfl (lv_at hl 2 rfl) ?_
                refine lv_iload_n hx hb d_A_link_71 rfl (lv_at hl 3 rfl) ?_
                refine x_ci (x_runV ⟨hx, hb, hml, hown, hT⟩ (c_A_wouldChainSees l dC dI a t σ i j (by omega) (by omega)) f_A_wouldChainSees k_A_75 blR (va_recv hK hP (ci := 6) (q0 := 0) rfl rfl) (x_bR hK hP hN) hl.1 d_A_link_72 rfl (lv_room (Nat.le_of_ble_eq_true rfl)) ⟨Nat.le_of_ble_eq_true rfl, Nat.le_of_ble_eq_true rfl⟩ ⟨rfl, rfl⟩ ⟨Nat.le_refl 0, Nat.le_refl 0⟩ rfl) (fun r72 q72 => ?_)
                rcases q72 with ⟨rfl, hch⟩ | ⟨rfl, hch⟩
                · refine x_if_eq (tgt := 80) hx hb d_A_link_75 (by decide) (fun h => absurd h (by decide)) (fun _ => ?_)
                  refine lv_iconst (v := nI 0) hx hb d_A_link_78 (by decide) ?_
                  exact x_mi (wl := wA a t) σ hx hb hr hlk hK hP hD hS d_A_link_79 (Or.inr ⟨q, i, j, hvl, Or.inr ⟨hhas, Or.inl ⟨by omega, hch, rfl, rfl⟩⟩⟩)
                · refine x_if_eq (tgt := 80) hx hb d_A_link_75 (by decide) (fun _ => ?_) (fun h => absurd h (by decide))
                  refine lv_iload_n hx hb d_A_link_80 rfl (lv_at hl 1 rfl) ?_
                  refine lv_iconst (v := nI 2) hx hb d_A_link_81 (by decide) ?_
                  refine x_icmp_eq (tgt := 90) hx hb d_A_link_82 (by decide) (fun c82 => ?_) (fun c82 => ?_)
                  · refine lv_aload_n hx hb d_A_link_90 rfl (lv_at hl 0 rfl) ?_
                    refine va_get (D := (dC, dI)) (C := R_A) (T := F_A) (N := 6) hx hb hT i_A hown hK hP 0 rfl rfl 5 (by decide) (hT _ k_A_47) (fun _ h9 => h9) (v := .ref (a 18)) rfl d_A_link_91 ?_
                    refine lv_aload_n hx hb d_A_link_94 rfl (lv_at hl 0 rfl) ?_
                    refine va_get (D := (dC, dI)) (C := R_A) (T := F_A) (N := 6) hx hb hT i_A hown hK hP 0 rfl rfl 3 (by decide) (hT _ k_A_33) (fun _ h9 => h9) (v := .ref (a 10)) rfl d_A_link_95 ?_
                    refine lv_iload_n hx hb d_A_link_98 rfl (lv_at hl 1 rfl) ?_
                    refine lv_iload_n hx hb d_A_link_99 rfl (lv_at hl 3 rfl) ?_
                    refine lv_iload_n hx hb d_A_link_100 rfl (lv_at hl 2 rfl) ?_
                    refine x_cMi (wl := wA a t) (x_runV ⟨hx, hb, hml, hown, hT⟩ (c_Y_lay l dC dI a t σ s.heap.size hG2 q j i (by omega) (by omega) (by omega) (Ne.symm hij)) f_Y_lay k_A_79 blM (va_recv hK hP (ci := 5) (q0 := 18) rfl rfl) (x_bM hK hP hN hD) hl.1 d_A_link_101 rfl (lv_room (Nat.le_of_ble_eq_true rfl)) ⟨Nat.le_of_ble_eq_true rfl, Nat.le_of_ble_eq_true rfl⟩ ⟨rfl, rfl⟩ ⟨Nat.le_refl 0, Nat.le_refl 0⟩ rfl) hD hS hA (fun r101 u101 H locs q101 hP hD hS => ?_)
                    obtain ⟨V, q101⟩ := q101
                    rcases q101 with ⟨rfl, rfl, hno⟩ | ⟨d0, S, rfl, hd0, hl9, hu9, hS9, hS0, hSj, hV⟩
                    · refine x_if_eq (tgt := 109) hx hb d_A_link_104 (by decide) (fun _ => ?_) (fun h => absurd h (by decide))
                      refine lv_aload_n hx hb d_A_link_109 rfl (lv_at hl 0 rfl) ?_
                      refine va_get (D := (dC, dI)) (C := R_A) (T := F_A) (N := 6) hx hb hT i_A hown hK hP 0 rfl rfl 3 (by decide) (hT _ k_A_33) (fun _ h9 => h9) (v := .ref (a 10)) rfl d_A_link_110 ?_
                      refine lv_iload_n hx hb d_A_link_113 rfl (lv_at hl 1 rfl) ?_
                      refine lv_iload_n hx hb d_A_link_114 rfl (lv_at hl 2 rfl) ?_
                      refine lv_iload_n hx hb d_A_link_115 rfl (lv_at hl 3 rfl) ?_
                      refine lv_lload hx hb d_A_link_116 (lv_at hl 4 rfl) ?_
                      refine x_cMv (wl := wA a t) (x_runV ⟨hx, hb, hml, hown, hT⟩ (c_K_add l dC dI a t (au_aw σ (V)) H.size (GA_aw hG2) q i j d (by omega) (by omega) (by omega) hlc) f_K_add k_A_83 blM (va_recv hK hP (ci := 3) (q0 := 10) rfl rfl) (x_bM hK hP hN hD) hl.1 d_A_link_118 rfl (lv_room (Nat.le_of_ble_eq_true rfl)) ⟨Nat.le_of_ble_eq_true rfl, Nat.le_of_ble_eq_true rfl⟩ ⟨rfl, rfl⟩ ⟨Nat.le_refl 0, Nat.le_refl 0⟩ rfl) hD hS hA (fun u118 H locs q118 hP hD hS => ?_)
                      refine lv_iconst (v := nI 1) hx hb d_A_link_121 (by decide) ?_
                      exact x_mi (wl := wA a t) u118 hx hb hr hlk hK hP hD hS d_A_link_122 (Or.inr ⟨q, i, j, hvl, Or.inr ⟨hhas, Or.inr (Or.inr (Or.inr ⟨by omega, Or.inr ⟨V, rfl, hno, q118⟩⟩))⟩⟩)
                    · refine x_if_eq (tgt := 109) hx hb d_A_link_104 (by decide) (fun h => absurd h (by decide)) (fun _ => ?_)
                      refine lv_iconst (v := nI 0) hx hb d_A_link_107 (by decide) ?_
                      exact x_mi (wl := wA a t) u101 hx hb hr hlk hK hP hD hS d_A_link_108 (Or.inr ⟨q, i, j, hvl, Or.inr ⟨hhas, Or.inr (Or.inr (Or.inr ⟨by omega, Or.inl ⟨rfl, V, d0, S, hd0, hl9, hu9, hS9, hS0, hSj, hV⟩⟩))⟩⟩)
                  · refine lv_iload_n hx hb d_A_link_85 rfl (lv_at hl 1 rfl) ?_
                    refine lv_iconst (v := nI 3) hx hb d_A_link_86 (by decide) ?_
                    refine x_icmp_ne (tgt := 109) hx hb d_A_link_87 (by decide) (fun c87 => ?_) (fun c87 => ?_)
                    · refine lv_aload_n hx hb d_A_link_109 rfl (lv_at hl 0 rfl) ?_
                      refine va_get (D := (dC, dI)) (C := R_A) (T := F_A) (N := 6) hx hb hT i_A hown hK hP 0 rfl rfl 3 (by decide) (hT _ k_A_33) (fun _ h9 => h9) (v := .ref (a 10)) rfl d_A_link_110 ?_
                      refine lv_iload_n hx hb d_A_link_113 rfl (lv_at hl 1 rfl) ?_
                      refine lv_iload_n hx hb d_A_link_114 rfl (lv_at hl 2 rfl) ?_
                      refine lv_iload_n hx hb d_A_link_115 rfl (lv_at hl 3 rfl) ?_
                      refine lv_lload hx hb d_A_link_116 (lv_at hl 4 rfl) ?_
                      refine x_cMv (wl := wA a t) (x_runV ⟨hx, hb, hml, hown, hT⟩ (c_K_add l dC dI a t σ s.heap.size hG2 q i j d (by omega) (by omega) (by omega) hlc) f_K_add k_A_83 blM (va_recv hK hP (ci := 3) (q0 := 10) rfl rfl) (x_bM hK hP hN hD) hl.1 d_A_link_118 rfl (lv_room (Nat.le_of_ble_eq_true rfl)) ⟨Nat.le_of_ble_eq_true rfl, Nat.le_of_ble_eq_true rfl⟩ ⟨rfl, rfl⟩ ⟨Nat.le_refl 0, Nat.le_refl 0⟩ rfl) hD hS hA (fun u118 H locs q118 hP hD hS => ?_)
                      refine lv_iconst (v := nI 1) hx hb d_A_link_121 (by decide) ?_
                      exact x_mi (wl := wA a t) u118 hx hb hr hlk hK hP hD hS d_A_link_122 (Or.inr ⟨q, i, j, hvl, Or.inr ⟨hhas, by first | exact Or.inr (Or.inl ⟨by omega, hch, rfl, q118⟩) | exact Or.inr (Or.inr (Or.inl ⟨by omega, rfl, q118⟩)) | (exfalso; omega)⟩⟩)
                    · refine lv_aload_n hx hb d_A_link_90 rfl (lv_at hl 0 rfl) ?_
                      refine va_get (D := (dC, dI)) (C := R_A) (T := F_A) (N := 6) hx hb hT i_A hown hK hP 0 rfl rfl 5 (by decide) (hT _ k_A_47) (fun _ h9 => h9) (v := .ref (a 18)) rfl d_A_link_91 ?_
                      refine lv_aload_n hx hb d_A_link_94 rfl (lv_at hl 0 rfl) ?_
                      refine va_get (D := (dC, dI)) (C := R_A) (T := F_A) (N := 6) hx hb hT i_A hown hK hP 0 rfl rfl 3 (by decide) (hT _ k_A_33) (fun _ h9 => h9) (v := .ref (a 10)) rfl d_A_link_95 ?_
                      refine lv_iload_n hx hb d_A_link_98 rfl (lv_at hl 1 rfl) ?_
                      refine lv_iload_n hx hb d_A_link_99 rfl (lv_at hl 3 rfl) ?_
                      refine lv_iload_n hx hb d_A_link_100 rfl (lv_at hl 2 rfl) ?_
                      refine x_cMi (wl := wA a t) (x_runV ⟨hx, hb, hml, hown, hT⟩ (c_Y_lay l dC dI a t σ s.heap.size hG2 q j i (by omega) (by omega) (by omega) (Ne.symm hij)) f_Y_lay k_A_79 blM (va_recv hK hP (ci := 5) (q0 := 18) rfl rfl) (x_bM hK hP hN hD) hl.1 d_A_link_101 rfl (lv_room (Nat.le_of_ble_eq_true rfl)) ⟨Nat.le_of_ble_eq_true rfl, Nat.le_of_ble_eq_true rfl⟩ ⟨rfl, rfl⟩ ⟨Nat.le_refl 0, Nat.le_refl 0⟩ rfl) hD hS hA (fun r101 u101 H locs q101 hP hD hS => ?_)
                      obtain ⟨V, q101⟩ := q101
                      rcases q101 with ⟨rfl, rfl, hno⟩ | ⟨d0, S, rfl, hd0, hl9, hu9, hS9, hS0, hSj, hV⟩
                      · refine x_if_eq (tgt := 109) hx hb d_A_link_104 (by decide) (fun _ => ?_) (fun h => absurd h (by decide))
                        refine lv_aload_n hx hb d_A_link_109 rfl (lv_at hl 0 rfl) ?_
                        refine va_get (D := (dC, dI)) (C := R_A) (T := F_A) (N := 6) hx hb hT i_A hown hK hP 0 rfl rfl 3 (by decide) (hT _ k_A_33) (fun _ h9 => h9) (v := .ref (a 10)) rfl d_A_link_110 ?_
                        refine lv_iload_n hx hb d_A_link_113 rfl (lv_at hl 1 rfl) ?_
                        refine lv_iload_n hx hb d_A_link_114 rfl (lv_at hl 2 rfl) ?_
                        refine lv_iload_n hx hb d_A_link_115 rfl (lv_at hl 3 rfl) ?_
                        refine lv_lload hx hb d_A_link_116 (lv_at hl 4 rfl) ?_
                        refine x_cMv (wl := wA a t) (x_runV ⟨hx, hb, hml, hown, hT⟩ (c_K_add l dC dI a t (au_aw σ (V)) H.size (GA_aw hG2) q i j d (by omega) (by omega) (by omega) hlc) f_K_add k_A_83 blM (va_recv hK hP (ci := 3) (q0 := 10) rfl rfl) (x_bM hK hP hN hD) hl.1 d_A_link_118 rfl (lv_room (Nat.le_of_ble_eq_true rfl)) ⟨Nat.le_of_ble_eq_true rfl, Nat.le_of_ble_eq_true rfl⟩ ⟨rfl, rfl⟩ ⟨Nat.le_refl 0, Nat.le_refl 0⟩ rfl) hD hS hA (fun u118 H locs q118 hP hD hS => ?_)
                        refine lv_iconst (v := nI 1) hx hb d_A_link_121 (by decide) ?_
                        exact x_mi (wl := wA a t) u118 hx hb hr hlk hK hP hD hS d_A_link_122 (Or.inr ⟨q, i, j, hvl, Or.inr ⟨hhas, Or.inr (Or.inr (Or.inr ⟨by omega, Or.inr ⟨V, rfl, hno, q118⟩⟩))⟩⟩)
                      · refine x_if_eq (tgt := 109) hx hb d_A_link_104 (by decide) (fun h => absurd h (by decide)) (fun _ => ?_)
                        refine lv_iconst (v := nI 0) hx hb d_A_link_107 (by decide) ?_
                        exact x_mi (wl := wA a t) u101 hx hb hr hlk hK hP hD hS d_A_link_108 (Or.inr ⟨q, i, j, hvl, Or.inr ⟨hhas, Or.inr (Or.inr (Or.inr ⟨by omega, Or.inl ⟨rfl, V, d0, S, hd0, hl9, hu9, hS9, hS0, hSj, hV⟩⟩))⟩⟩)
          · refine x_if_ne (tgt := 40) hx hb d_A_link_35 (by decide) (fun h => absurd h (by decide)) (fun _ => ?_)
            refine lv_iconst (v := nI 0) hx hb d_A_link_38 (by decide) ?_
            exact x_mi (wl := wA a t) σ hx hb hr hlk hK hP hD hS d_A_link_39 (Or.inl ⟨by rintro ⟨q', i', j', h1, h2, h3, h4, h5, h6, h7⟩; first | exact hni ⟨i', h2.1, h2.2.1, h2.2.2, h6⟩ | exact hnj ⟨j', h3.1, h3.2.1, h3.2.2, h7⟩ | (rw [h5] at c1; exact absurd c1 (nI_pos (by omega))) | (have h8 := (nI_eq (by omega) (by omega)).mp h5; omega) | (rw [h6, h7] at c11; exact h4 ((nI_eq (by omega) (by omega)).mp c11)), rfl, rfl⟩)
        · refine x_if_eq (tgt := 38) hx hb d_A_link_24 (by decide) (fun _ => ?_) (fun h => absurd h (by decide))
          refine lv_iconst (v := nI 0) hx hb d_A_link_38 (by decide) ?_
          exact x_mi (wl := wA a t) σ hx hb hr hlk hK hP hD hS d_A_link_39 (Or.inl ⟨by rintro ⟨q', i', j', h1, h2, h3, h4, h5, h6, h7⟩; first | exact hni ⟨i', h2.1, h2.2.1, h2.2.2, h6⟩ | exact hnj ⟨j', h3.1, h3.2.1, h3.2.2, h7⟩ | (rw [h5] at c1; exact absurd c1 (nI_pos (by omega))) | (have h8 := (nI_eq (by omega) (by omega)).mp h5; omega) | (rw [h6, h7] at c11; exact h4 ((nI_eq (by omega) (by omega)).mp c11)), rfl, rfl⟩)
      · refine lv_iconst (v := nI 0) hx hb d_A_link_14 (by decide) ?_
        exact x_mi (wl := wA a t) σ hx hb hr hlk hK hP hD hS d_A_link_15 (Or.inl ⟨by rintro ⟨q', i', j', h1, h2, h3, h4, h5, h6, h7⟩; first | exact hni ⟨i', h2.1, h2.2.1, h2.2.2, h6⟩ | exact hnj ⟨j', h3.1, h3.2.1, h3.2.2, h7⟩ | (rw [h5] at c1; exact absurd c1 (nI_pos (by omega))) | (have h8 := (nI_eq (by omega) (by omega)).mp h5; omega) | (rw [h6, h7] at c11; exact h4 ((nI_eq (by omega) (by omega)).mp c11)), rfl, rfl⟩)

def DEL (σ : SA) (x : Int32) (r : Int32) (u : SA) : Prop := (¬ (∃ j, 1 ≤ j ∧ j ≤ a_hn σ ∧ a_lv σ j = 1 ∧ x = nI j) ∧ r = nI 0 ∧ u = σ) ∨ ∃ j, 1 ≤ j ∧ j ≤ a_hn σ ∧ a_lv σ j = 1 ∧ x = nI j ∧ ((0 < cntN (a_rh σ) j (a_rn σ) ∧ r = -nI (cntN (a_rh σ) j (a_rn σ)) ∧ u = σ) ∨ (cntN (a_rh σ) j (a_rn σ) = 0 ∧ r = nI 1 ∧ ∃ (T : Nat → Int64) (F G : Nat → Nat) (E : Nat → Int64) (k : Nat), u = au_lc (au_ld (au_lt (au_lf (au_tg (au_lv σ (updN (a_lv σ) j 0)) T) F) G) E) k ∧ k ≤ a_lc σ ∧ (∀ j, F j ≤ 60) ∧ (∀ j, G j ≤ 60) ∧ lst F G E k = (lst (a_lf σ) (a_lt σ) (a_ld σ) (a_lc σ)).filter (keepL j) ∧ ∀ q f, q < 4 → 1 ≤ f → f ≤ 60 → T (q * 61 + f) = clrT (a_tg σ) j q f))
set_option maxRecDepth 100000 in
set_option maxHeartbeats 4000000 in
theorem c_A_delete (l : Launch) (dC : Nat → ClassId) (dI : Nat → Nat → Nat) (a : Nat → Nat) (t : Nat → ClassId) (σ : SA) (sz : Nat) (hG : GA σ) (x : Int32) : Met l y_A_delete (wS y_A_delete b_A_delete 3 (some .int)) (rD 3) (va_Pc [.ref (a 0), .int x] (MB (dC, dI) (yA t) (wA a t σ) sz)) (va_Qi (fun (r : Int32) (u : SA) => DEL σ x r u) (fun u => ME (dC, dI) (yA t) (va_A (wA a t σ) sz) (wA a t u)) (va_A (wA a t σ) sz)) 0 0 (va_A (wA a t σ) sz) := by
  refine x_enter (by decide) (Nat.le_of_ble_eq_true rfl) ?_
  intro p e s m below meth c ls hx hb hr hml hT hown hlk hnm hl hB
  obtain ⟨rfl, hP, hK, hN, hD0⟩ := hB
  have hD := hD0.self (sz := s.heap.size)
  generalize hAe : va_A (wA a t σ) s.heap.size = A at hD ⊢
  have hA : ∀ q : Nat, s.heap.size ≤ q → A q := fun q h => by rw [← hAe]; exact Or.inr h
  have hS : va_S A s.heap s.heap [] := va_S.rf
  have hP : va_P (dC, dI) classes (wA a t σ) s.heap := hP
  have hl : lv_has ls 3 [(0, .ref (a 0)), (1, .int x)] := hl
  have hown : s.vm.findClass R_A = some m.cls := hown
  have hG2 := hG
  obtain ⟨g_sn, g_sg, g_tn, g_tx, g_kd, g_lv, g_le, g_ln, g_hn, g_lf, g_lt, g_lc, g_rh, g_rn, g_ws, g_wn⟩ := hG
  refine lv_aload_n hx hb d_A_delete_0 rfl (lv_at hl 0 rfl) ?_
  refine va_get (D := (dC, dI)) (C := R_A) (T := F_A) (N := 6) hx hb hT i_A hown hK hP 0 rfl rfl 2 (by decide) (hT _ k_A_26) (fun _ h9 => h9) (v := .ref (a 5)) rfl d_A_delete_1 ?_
  refine lv_iload_n hx hb d_A_delete_4 rfl (lv_at hl 1 rfl) ?_
  refine x_ci (x_runV ⟨hx, hb, hml, hown, hT⟩ (c_H_isLive l dC dI a t σ hG2 x) f_H_isLive k_A_63 blR (va_recv hK hP (ci := 2) (q0 := 5) rfl rfl) (x_bR hK hP hN) hl.1 d_A_delete_5 rfl (lv_room (Nat.le_of_ble_eq_true rfl)) ⟨Nat.le_of_ble_eq_true rfl, Nat.le_of_ble_eq_true rfl⟩ ⟨rfl, rfl⟩ ⟨Nat.le_refl 0, Nat.le_refl 0⟩ rfl) (fun r5 q5 => ?_)
  rcases q5 with ⟨rfl, j, hj1, hj2, hj3, rfl⟩ | ⟨rfl, hnj⟩
  · refine x_if_ne (tgt := 13) hx hb d_A_delete_8 (by decide) (fun _ => ?_) (fun h => absurd h (by decide))
    refine lv_aload_n hx hb d_A_delete_13 rfl (lv_at hl 0 rfl) ?_
    refine va_get (D := (dC, dI)) (C := R_A) (T := F_A) (N := 6) hx hb hT i_A hown hK hP 0 rfl rfl 4 (by decide) (hT _ k_A_40) (fun _ h9 => h9) (v := .ref (a 15)) rfl d_A_delete_14 ?_
    refine lv_iload_n hx hb d_A_delete_17 rfl (lv_at hl 1 rfl) ?_
    refine x_ci (x_runV ⟨hx, hb, hml, hown, hT⟩ (c_R_countOf l dC dI a t σ hG2 j (by omega)) f_R_countOf k_A_97 blR (va_recv hK hP (ci := 4) (q0 := 15) rfl rfl) (x_bR hK hP hN) hl.1 d_A_delete_18 rfl (lv_room (Nat.le_of_ble_eq_true rfl)) ⟨Nat.le_of_ble_eq_true rfl, Nat.le_of_ble_eq_true rfl⟩ ⟨rfl, rfl⟩ ⟨Nat.le_refl 0, Nat.le_refl 0⟩ rfl) (fun r18 q18 => ?_)
    subst q18
    have hcn := cntN_le (a_rh σ) j (a_rn σ)
    refine lv_istore_n (lv' := [(2, .int (nI (cntN (a_rh σ) j (a_rn σ)))), (0, .ref (a 0)), (1, .int (nI j))]) hx hb d_A_delete_21 rfl hl (by decide) rfl (fun ls hl => ?_)
    refine lv_iload_n hx hb d_A_delete_22 rfl (lv_at hl 0 rfl) ?_
    refine x_if_le (tgt := 29) hx hb d_A_delete_23 (by decide) (fun c23 => ?_) (fun c23 => ?_)
    · refine lv_aload_n hx hb d_A_delete_29 rfl (lv_at hl 1 rfl) ?_
      refine va_get (D := (dC, dI)) (C := R_A) (T := F_A) (N := 6) hx hb hT i_A hown hK hP 0 rfl rfl 2 (by decide) (hT _ k_A_26) (fun _ h9 => h9) (v := .ref (a 5)) rfl d_A_delete_30 ?_
      refine lv_iload_n hx hb d_A_delete_33 rfl (lv_at hl 2 rfl) ?_
      refine x_cMv (wl := wA a t) (x_runV ⟨hx, hb, hml, hown, hT⟩ (c_H_end l dC dI a t σ s.heap.size hG2 j (by omega) (by omega)) f_H_end k_A_131 blM (va_recv hK hP (ci := 2) (q0 := 5) rfl rfl) (x_bM hK hP hN hD) hl.1 d_A_delete_34 rfl (lv_room (Nat.le_of_ble_eq_true rfl)) ⟨Nat.le_of_ble_eq_true rfl, Nat.le_of_ble_eq_true rfl⟩ ⟨rfl, rfl⟩ ⟨Nat.le_refl 0, Nat.le_refl 0⟩ rfl) hD hS hA (fun u34 H locs q34 hP hD hS => ?_)
      subst q34
      have hP : va_P (dC, dI) classes (wA a t (au_lv σ (updN (a_lv σ) j 0))) H := hP
      have hD : va_D A (wA a t (au_lv σ (updN (a_lv σ) j 0))) := hD
      refine lv_aload_n hx hb d_A_delete_37 rfl (lv_at hl 1 rfl) ?_
      refine va_get (D := (dC, dI)) (C := R_A) (T := F_A) (N := 6) hx hb hT i_A hown hK hP 0 rfl rfl 3 (by decide) (hT _ k_A_33) (fun _ h9 => h9) (v := .ref (a 10)) rfl d_A_delete_38 ?_
      refine lv_iload_n hx hb d_A_delete_41 rfl (lv_at hl 2 rfl) ?_
      refine x_cMv (wl := wA a t) (x_runV ⟨hx, hb, hml, hown, hT⟩ (c_K_removeAllOf l dC dI a t (au_lv σ (updN (a_lv σ) j 0)) H.size (GA_lv hG2 (updN_lt g_lv (by decide))) j (by omega) (by omega)) f_K_removeAllOf k_A_135 blM (va_recv hK hP (ci := 3) (q0 := 10) rfl rfl) (x_bM hK hP hN hD) hl.1 d_A_delete_42 rfl (lv_room (Nat.le_of_ble_eq_true rfl)) ⟨Nat.le_of_ble_eq_true rfl, Nat.le_of_ble_eq_true rfl⟩ ⟨rfl, rfl⟩ ⟨Nat.le_refl 0, Nat.le_refl 0⟩ rfl) hD hS hA (fun u42 H locs q42 hP hD hS => ?_)
      refine lv_iconst (v := nI 1) hx hb d_A_delete_45 (by decide) ?_
      exact x_mi (wl := wA a t) u42 hx hb hr hlk hK hP hD hS d_A_delete_46 (Or.inr ⟨j, hj1, hj2, hj3, rfl, Or.inr ⟨by omega, rfl, q42⟩⟩)
    · refine lv_iload_n hx hb d_A_delete_26 rfl (lv_at hl 0 rfl) ?_
      refine lv_ineg hx hb d_A_delete_27 ?_
      exact x_mi (wl := wA a t) σ hx hb hr hlk hK hP hD hS d_A_delete_28 (Or.inr ⟨j, hj1, hj2, hj3, rfl, Or.inl ⟨by omega, rfl, rfl⟩⟩)
  · refine x_if_ne (tgt := 13) hx hb d_A_delete_8 (by decide) (fun h => absurd h (by decide)) (fun _ => ?_)
    refine lv_iconst (v := nI 0) hx hb d_A_delete_11 (by decide) ?_
    exact x_mi (wl := wA a t) σ hx hb hr hlk hK hP hD hS d_A_delete_12 (Or.inl ⟨hnj, rfl, rfl⟩)

set_option maxRecDepth 100000 in
set_option maxHeartbeats 4000000 in
theorem c_A_form (l : Launch) (dC : Nat → ClassId) (dI : Nat → Nat → Nat) (a : Nat → Nat) (t : Nat → ClassId) (σ : SA) (hG : GA σ) (x : Int32) (d : Int64) (hlt : ∀ j, j < a_lc σ → 1 ≤ a_lt σ j) : Met l y_A_form (wS y_A_form b_A_form 4 (some .int)) (rD 2) (va_Pc [.ref (a 0), .int x, .long d] (RB (dC, dI) (yA t) (wA a t σ))) (vp_Si (fun r => (¬ (∃ j, 1 ≤ j ∧ j ≤ a_hn σ ∧ a_lv σ j = 1 ∧ x = nI j) ∧ r = nI 0) ∨ ∃ j, 1 ≤ j ∧ j ≤ a_hn σ ∧ a_lv σ j = 1 ∧ x = nI j ∧ ∃ k v, k ≤ 60 ∧ v ≤ 60 ∧ r = nI v ∧ FRM (a_lf σ) (a_lt σ) (a_ld σ) (a_lc σ) d k (j) v ∧ (k = 60 ∨ NOB (a_lf σ) (a_ld σ) (a_lc σ) v d))) 0 0 (fun _ => False) := by
  refine x_enter (by decide) (Nat.le_of_ble_eq_true rfl) ?_
  intro p e s m below meth c ls hx hb hr hml hT hown hlk hnm hl hB
  obtain ⟨hP, hK, hN⟩ := hB
  have hl : lv_has ls 4 [(0, .ref (a 0)), (1, .int x), (2, .long d)] := hl
  have hown : s.vm.findClass R_A = some m.cls := hown
  have hG2 := hG
  obtain ⟨g_sn, g_sg, g_tn, g_tx, g_kd, g_lv, g_le, g_ln, g_hn, g_lf, g_lt, g_lc, g_rh, g_rn, g_ws, g_wn⟩ := hG
  refine lv_aload_n hx hb d_A_form_0 rfl (lv_at hl 0 rfl) ?_
  refine va_get (D := (dC, dI)) (C := R_A) (T := F_A) (N := 6) hx hb hT i_A hown hK hP 0 rfl rfl 2 (by decide) (hT _ k_A_26) (fun _ h9 => h9) (v := .ref (a 5)) rfl d_A_form_1 ?_
  refine lv_iload_n hx hb d_A_form_4 rfl (lv_at hl 1 rfl) ?_
  refine x_ci (x_runV ⟨hx, hb, hml, hown, hT⟩ (c_H_isLive l dC dI a t σ hG2 x) f_H_isLive k_A_63 blR (va_recv hK hP (ci := 2) (q0 := 5) rfl rfl) (x_bR hK hP hN) hl.1 d_A_form_5 rfl (lv_room (Nat.le_of_ble_eq_true rfl)) ⟨Nat.le_of_ble_eq_true rfl, Nat.le_of_ble_eq_true rfl⟩ ⟨rfl, rfl⟩ ⟨Nat.le_refl 0, Nat.le_refl 0⟩ rfl) (fun r5 q5 => ?_)
  rcases q5 with ⟨rfl, j, hj1, hj2, hj3, rfl⟩ | ⟨rfl, hnj⟩
  · refine x_if_ne (tgt := 13) hx hb d_A_form_8 (by decide) (fun _ => ?_) (fun h => absurd h (by decide))
    refine lv_aload_n hx hb d_A_form_13 rfl (lv_at hl 0 rfl) ?_
    refine lv_iload_n hx hb d_A_form_14 rfl (lv_at hl 1 rfl) ?_
    refine lv_lload_n hx hb d_A_form_15 rfl (lv_at hl 2 rfl) ?_
    refine x_ci (x_runV ⟨hx, hb, hml, hown, hT⟩ (c_A_formOn l dC dI a t σ hG2 j d (by omega) hlt) f_A_formOn k_A_145 blR (va_recv hK hP (ci := 6) (q0 := 0) rfl rfl) (x_bR hK hP hN) hl.1 d_A_form_16 rfl (lv_room (Nat.le_of_ble_eq_true rfl)) ⟨Nat.le_of_ble_eq_true rfl, Nat.le_of_ble_eq_true rfl⟩ ⟨rfl, rfl⟩ ⟨Nat.le_refl 0, Nat.le_refl 0⟩ rfl) (fun r16 q16 => ?_)
    exact x_ri hx hb hr hlk d_A_form_19 (Or.inr ⟨j, hj1, hj2, hj3, rfl, q16⟩)
  · refine x_if_ne (tgt := 13) hx hb d_A_form_8 (by decide) (fun h => absurd h (by decide)) (fun _ => ?_)
    refine lv_iconst (v := nI 0) hx hb d_A_form_11 (by decide) ?_
    exact x_ri hx hb hr hlk d_A_form_12 (Or.inl ⟨hnj, rfl⟩)

set_option maxRecDepth 100000 in
set_option maxHeartbeats 4000000 in
theorem c_A_shown (l : Launch) (dC : Nat → ClassId) (dI : Nat → Nat → Nat) (a : Nat → Nat) (t : Nat → ClassId) (σ : SA) (hG : GA σ) (x : Int32) (d : Int64) (hlt : ∀ j, j < a_lc σ → 1 ≤ a_lt σ j) : Met l y_A_shown (wS y_A_shown b_A_shown 4 (some .int)) (rD 4) (va_Pc [.ref (a 0), .int x, .long d] (RB (dC, dI) (yA t) (wA a t σ))) (vp_Si (fun r => (¬ (∃ j, 1 ≤ j ∧ j ≤ a_hn σ ∧ a_lv σ j = 1 ∧ x = nI j) ∧ r = nI 0) ∨ ∃ j, 1 ≤ j ∧ j ≤ a_hn σ ∧ a_lv σ j = 1 ∧ x = nI j ∧ ∃ v0, v0 ≤ 60 ∧ NTH (bt6 (a_tg σ (0 * 61 + j))) 60 0 (nI v0) ∧ ∃ k v, k ≤ 60 ∧ v ≤ 60 ∧ r = nI v ∧ FRM (a_lf σ) (a_lt σ) (a_ld σ) (a_lc σ) d k (if v0 = 0 then j else v0) v ∧ (k = 60 ∨ NOB (a_lf σ) (a_ld σ) (a_lc σ) v d))) 0 0 (fun _ => False) := by
  refine x_enter (by decide) (Nat.le_of_ble_eq_true rfl) ?_
  intro p e s m below meth c ls hx hb hr hml hT hown hlk hnm hl hB
  obtain ⟨hP, hK, hN⟩ := hB
  have hl : lv_has ls 4 [(0, .ref (a 0)), (1, .int x), (2, .long d)] := hl
  have hown : s.vm.findClass R_A = some m.cls := hown
  have hG2 := hG
  obtain ⟨g_sn, g_sg, g_tn, g_tx, g_kd, g_lv, g_le, g_ln, g_hn, g_lf, g_lt, g_lc, g_rh, g_rn, g_ws, g_wn⟩ := hG
  refine lv_aload_n hx hb d_A_shown_0 rfl (lv_at hl 0 rfl) ?_
  refine va_get (D := (dC, dI)) (C := R_A) (T := F_A) (N := 6) hx hb hT i_A hown hK hP 0 rfl rfl 2 (by decide) (hT _ k_A_26) (fun _ h9 => h9) (v := .ref (a 5)) rfl d_A_shown_1 ?_
  refine lv_iload_n hx hb d_A_shown_4 rfl (lv_at hl 1 rfl) ?_
  refine x_ci (x_runV ⟨hx, hb, hml, hown, hT⟩ (c_H_isLive l dC dI a t σ hG2 x) f_H_isLive k_A_63 blR (va_recv hK hP (ci := 2) (q0 := 5) rfl rfl) (x_bR hK hP hN) hl.1 d_A_shown_5 rfl (lv_room (Nat.le_of_ble_eq_true rfl)) ⟨Nat.le_of_ble_eq_true rfl, Nat.le_of_ble_eq_true rfl⟩ ⟨rfl, rfl⟩ ⟨Nat.le_refl 0, Nat.le_refl 0⟩ rfl) (fun r5 q5 => ?_)
  rcases q5 with ⟨rfl, j, hj1, hj2, hj3, rfl⟩ | ⟨rfl, hnj⟩
  · refine x_if_ne (tgt := 13) hx hb d_A_shown_8 (by decide) (fun _ => ?_) (fun h => absurd h (by decide))
    refine lv_aload_n hx hb d_A_shown_13 rfl (lv_at hl 0 rfl) ?_
    refine lv_aload_n hx hb d_A_shown_14 rfl (lv_at hl 0 rfl) ?_
    refine lv_iload_n hx hb d_A_shown_15 rfl (lv_at hl 1 rfl) ?_
    refine x_ci (x_runV ⟨hx, hb, hml, hown, hT⟩ (c_A_usedFormOf l dC dI a t σ j (by omega)) f_A_usedFormOf k_A_142 blR (va_recv hK hP (ci := 6) (q0 := 0) rfl rfl) (x_bR hK hP hN) hl.1 d_A_shown_16 rfl (lv_room (Nat.le_of_ble_eq_true rfl)) ⟨Nat.le_of_ble_eq_true rfl, Nat.le_of_ble_eq_true rfl⟩ ⟨rfl, rfl⟩ ⟨Nat.le_refl 0, Nat.le_refl 0⟩ rfl) (fun r16 q16 => ?_)
    obtain ⟨v0, hv0, hnv, rfl⟩ := q16
    have hus : (if v0 = 0 then j else v0) ≤ 60 := by split <;> omega
    refine lv_lload_n hx hb d_A_shown_19 rfl (lv_at hl 2 rfl) ?_
    refine x_ci (x_runV ⟨hx, hb, hml, hown, hT⟩ (c_A_formOn l dC dI a t σ hG2 (if v0 = 0 then j else v0) d hus hlt) f_A_formOn k_A_145 blR (va_recv hK hP (ci := 6) (q0 := 0) rfl rfl) (x_bR hK hP hN) hl.1 d_A_shown_20 rfl (lv_room (Nat.le_of_ble_eq_true rfl)) ⟨Nat.le_of_ble_eq_true rfl, Nat.le_of_ble_eq_true rfl⟩ ⟨rfl, rfl⟩ ⟨Nat.le_refl 0, Nat.le_refl 0⟩ rfl) (fun r20 q20 => ?_)
    exact x_ri hx hb hr hlk d_A_shown_23 (Or.inr ⟨j, hj1, hj2, hj3, rfl, v0, hv0, hnv, q20⟩)
  · refine x_if_ne (tgt := 13) hx hb d_A_shown_8 (by decide) (fun h => absurd h (by decide)) (fun _ => ?_)
    refine lv_iconst (v := nI 0) hx hb d_A_shown_11 (by decide) ?_
    exact x_ri hx hb hr hlk d_A_shown_12 (Or.inl ⟨hnj, rfl⟩)

def REC (σ : SA) (x : Int32) (d : Int64) (r : Int32) (u : SA) : Prop := (¬ (∃ j, 1 ≤ j ∧ j ≤ a_hn σ ∧ a_lv σ j = 1 ∧ x = nI j) ∧ r = nI 0 ∧ u = σ) ∨ ∃ j, 1 ≤ j ∧ j ≤ a_hn σ ∧ a_lv σ j = 1 ∧ x = nI j ∧ ((a_rn σ = 60 ∧ r = nI 0 ∧ u = σ) ∨ (a_rn σ < 60 ∧ r = nI (a_rn σ + 1) ∧ ∃ v0, v0 ≤ 60 ∧ NTH (bt6 (a_tg σ (0 * 61 + j))) 60 0 (nI v0) ∧ u = au_rn (au_rd (au_rh σ (updN (a_rh σ) (a_rn σ + 1) (if v0 = 0 then j else v0))) (vp_updL (a_rd σ) (a_rn σ + 1) d)) (a_rn σ + 1)))
set_option maxRecDepth 100000 in
set_option maxHeartbeats 4000000 in
theorem c_A_record (l : Launch) (dC : Nat → ClassId) (dI : Nat → Nat → Nat) (a : Nat → Nat) (t : Nat → ClassId) (σ : SA) (sz : Nat) (hG : GA σ) (x : Int32) (d : Int64) : Met l y_A_record (wS y_A_record b_A_record 4 (some .int)) (rD 4) (va_Pc [.ref (a 0), .int x, .long d] (MB (dC, dI) (yA t) (wA a t σ) sz)) (va_Qi (fun (r : Int32) (u : SA) => REC σ x d r u) (fun u => ME (dC, dI) (yA t) (va_A (wA a t σ) sz) (wA a t u)) (va_A (wA a t σ) sz)) 0 0 (va_A (wA a t σ) sz) := by
  refine x_enter (by decide) (Nat.le_of_ble_eq_true rfl) ?_
  intro p e s m below meth c ls hx hb hr hml hT hown hlk hnm hl hB
  obtain ⟨rfl, hP, hK, hN, hD0⟩ := hB
  have hD := hD0.self (sz := s.heap.size)
  generalize hAe : va_A (wA a t σ) s.heap.size = A at hD ⊢
  have hA : ∀ q : Nat, s.heap.size ≤ q → A q := fun q h => by rw [← hAe]; exact Or.inr h
  have hS : va_S A s.heap s.heap [] := va_S.rf
  have hP : va_P (dC, dI) classes (wA a t σ) s.heap := hP
  have hl : lv_has ls 4 [(0, .ref (a 0)), (1, .int x), (2, .long d)] := hl
  have hown : s.vm.findClass R_A = some m.cls := hown
  have hG2 := hG
  obtain ⟨g_sn, g_sg, g_tn, g_tx, g_kd, g_lv, g_le, g_ln, g_hn, g_lf, g_lt, g_lc, g_rh, g_rn, g_ws, g_wn⟩ := hG
  refine lv_aload_n hx hb d_A_record_0 rfl (lv_at hl 0 rfl) ?_
  refine va_get (D := (dC, dI)) (C := R_A) (T := F_A) (N := 6) hx hb hT i_A hown hK hP 0 rfl rfl 2 (by decide) (hT _ k_A_26) (fun _ h9 => h9) (v := .ref (a 5)) rfl d_A_record_1 ?_
  refine lv_iload_n hx hb d_A_record_4 rfl (lv_at hl 1 rfl) ?_
  refine x_ci (x_runV ⟨hx, hb, hml, hown, hT⟩ (c_H_isLive l dC dI a t σ hG2 x) f_H_isLive k_A_63 blR (va_recv hK hP (ci := 2) (q0 := 5) rfl rfl) (x_bR hK hP hN) hl.1 d_A_record_5 rfl (lv_room (Nat.le_of_ble_eq_true rfl)) ⟨Nat.le_of_ble_eq_true rfl, Nat.le_of_ble_eq_true rfl⟩ ⟨rfl, rfl⟩ ⟨Nat.le_refl 0, Nat.le_refl 0⟩ rfl) (fun r5 q5 => ?_)
  rcases q5 with ⟨rfl, j, hj1, hj2, hj3, rfl⟩ | ⟨rfl, hnj⟩
  · refine x_if_eq (tgt := 21) hx hb d_A_record_8 (by decide) (fun h => absurd h (by decide)) (fun _ => ?_)
    refine lv_aload_n hx hb d_A_record_11 rfl (lv_at hl 0 rfl) ?_
    refine va_get (D := (dC, dI)) (C := R_A) (T := F_A) (N := 6) hx hb hT i_A hown hK hP 0 rfl rfl 4 (by decide) (hT _ k_A_40) (fun _ h9 => h9) (v := .ref (a 15)) rfl d_A_record_12 ?_
    refine x_ci (x_runV ⟨hx, hb, hml, hown, hT⟩ (c_R_isFull l dC dI a t σ hG2) f_R_isFull k_A_149 blR (va_recv hK hP (ci := 4) (q0 := 15) rfl rfl) (x_bR hK hP hN) hl.1 d_A_record_15 rfl (lv_room (Nat.le_of_ble_eq_true rfl)) ⟨Nat.le_of_ble_eq_true rfl, Nat.le_of_ble_eq_true rfl⟩ ⟨rfl, rfl⟩ ⟨Nat.le_refl 0, Nat.le_refl 0⟩ rfl) (fun r15 q15 => ?_)
    rcases q15 with ⟨rfl, hq⟩ | ⟨rfl, hq⟩
    · refine x_if_eq (tgt := 23) hx hb d_A_record_18 (by decide) (fun h => absurd h (by decide)) (fun _ => ?_)
      refine lv_iconst (v := nI 0) hx hb d_A_record_21 (by decide) ?_
      exact x_mi (wl := wA a t) σ hx hb hr hlk hK hP hD hS d_A_record_22 (by first | exact Or.inl ⟨hnj, rfl, rfl⟩ | exact Or.inr ⟨j, hj1, hj2, hj3, rfl, Or.inl ⟨by omega, rfl, rfl⟩⟩)
    · refine x_if_eq (tgt := 23) hx hb d_A_record_18 (by decide) (fun _ => ?_) (fun h => absurd h (by decide))
      refine lv_aload_n hx hb d_A_record_23 rfl (lv_at hl 0 rfl) ?_
      refine va_get (D := (dC, dI)) (C := R_A) (T := F_A) (N := 6) hx hb hT i_A hown hK hP 0 rfl rfl 4 (by decide) (hT _ k_A_40) (fun _ h9 => h9) (v := .ref (a 15)) rfl d_A_record_24 ?_
      refine lv_aload_n hx hb d_A_record_27 rfl (lv_at hl 0 rfl) ?_
      refine lv_iload_n hx hb d_A_record_28 rfl (lv_at hl 1 rfl) ?_
      refine x_ci (x_runV ⟨hx, hb, hml, hown, hT⟩ (c_A_usedFormOf l dC dI a t σ j (by omega)) f_A_usedFormOf k_A_142 blR (va_recv hK hP (ci := 6) (q0 := 0) rfl rfl) (x_bR hK hP hN) hl.1 d_A_record_29 rfl (lv_room (Nat.le_of_ble_eq_true rfl)) ⟨Nat.le_of_ble_eq_true rfl, Nat.le_of_ble_eq_true rfl⟩ ⟨rfl, rfl⟩ ⟨Nat.le_refl 0, Nat.le_refl 0⟩ rfl) (fun r29 q29 => ?_)
      obtain ⟨v0, hv0, hnv, rfl⟩ := q29
      have hus : (if v0 = 0 then j else v0) ≤ 60 := by split <;> omega
      refine lv_lload_n hx hb d_A_record_32 rfl (lv_at hl 2 rfl) ?_
      refine x_cMi (wl := wA a t) (x_runV ⟨hx, hb, hml, hown, hT⟩ (c_R_add l dC dI a t σ s.heap.size hG2 (if v0 = 0 then j else v0) d hus (by omega)) f_R_add k_A_150 blM (va_recv hK hP (ci := 4) (q0 := 15) rfl rfl) (x_bM hK hP hN hD) hl.1 d_A_record_33 rfl (lv_room (Nat.le_of_ble_eq_true rfl)) ⟨Nat.le_of_ble_eq_true rfl, Nat.le_of_ble_eq_true rfl⟩ ⟨rfl, rfl⟩ ⟨Nat.le_refl 0, Nat.le_refl 0⟩ rfl) hD hS hA (fun r33 u33 H locs q33 hP hD hS => ?_)
      obtain ⟨rfl, hu9⟩ := q33
      exact x_mi (wl := wA a t) u33 hx hb hr hlk hK hP hD hS d_A_record_36 (Or.inr ⟨j, hj1, hj2, hj3, rfl, Or.inr ⟨by omega, rfl, v0, hv0, hnv, hu9⟩⟩)
  · refine x_if_eq (tgt := 21) hx hb d_A_record_8 (by decide) (fun _ => ?_) (fun h => absurd h (by decide))
    refine lv_iconst (v := nI 0) hx hb d_A_record_21 (by decide) ?_
    exact x_mi (wl := wA a t) σ hx hb hr hlk hK hP hD hS d_A_record_22 (by first | exact Or.inl ⟨hnj, rfl, rfl⟩ | exact Or.inr ⟨j, hj1, hj2, hj3, rfl, Or.inl ⟨by omega, rfl, rfl⟩⟩)

def SPL (σ τ : SA) (x : Int32) (d : Int64) (r : Int32) (u : SA) : Prop := (¬ okT (a_sg σ) (a_sn σ) ∧ r = -99 ∧ u = τ) ∨ (okT (a_sg σ) (a_sn σ) ∧ ((¬ (∃ j, 1 ≤ j ∧ j ≤ a_hn τ ∧ a_lv τ j = 1 ∧ x = nI j) ∧ r = nI 0 ∧ u = τ) ∨ ∃ j, 1 ≤ j ∧ j ≤ a_hn τ ∧ a_lv τ j = 1 ∧ x = nI j ∧ ∃ w, ADH τ (a_kd τ j) r w ∧ ((r = nI (a_hn τ + 1) ∧ a_hn τ < 60 ∧ u = au_rh (ADK w 3 j (a_hn τ + 1) d) (mvR (a_rh τ) (a_rd τ) j (a_hn τ + 1) d (a_rn τ))) ∨ (¬ r = nI (a_hn τ + 1) ∧ u = w))))
theorem neg_le {i : Nat} (h : 1 ≤ i) (h2 : i ≤ 60) : -nI i ≤ 0 := (sb_nle (a := i) (b := 0) (by omega) (by decide)).mpr (Nat.zero_le _)
theorem neg_ne {i k : Nat} (h : 1 ≤ i) (h2 : i ≤ 60) (hk : k ≤ 100) : ¬ -nI i = nI k := fun e => by
  have h1 := congrArg Int32.toInt e
  rw [sb_negT (by omega), nI_toInt (by omega)] at h1
  omega
set_option maxRecDepth 100000 in
set_option maxHeartbeats 4000000 in
theorem c_A_split (l : Launch) (dC : Nat → ClassId) (dI : Nat → Nat → Nat) (a : Nat → Nat) (t : Nat → ClassId) (σ : SA) (sz : Nat) (hG : GA σ) (x : Int32) (d : Int64) (hlc : a_lc σ < 512) : Met l y_A_split (wS y_A_split b_A_split 5 (some .int)) (rD 4) (va_Pc [.ref (a 0), .int x, .long d] (MB (dC, dI) (yA t) (wA a t σ) sz)) (va_Qi (fun (r : Int32) (u : SA) => ∃ τ, TKN σ τ ∧ SPL σ τ x d r u) (fun u => ME (dC, dI) (yA t) (va_A (wA a t σ) sz) (wA a t u)) (va_A (wA a t σ) sz)) 0 0 (va_A (wA a t σ) sz) := by
  refine x_enter (by decide) (Nat.le_of_ble_eq_true rfl) ?_
  intro p e s m below meth c ls hx hb hr hml hT hown hlk hnm hl hB
  obtain ⟨rfl, hP, hK, hN, hD0⟩ := hB
  have hD := hD0.self (sz := s.heap.size)
  generalize hAe : va_A (wA a t σ) s.heap.size = A at hD ⊢
  have hA : ∀ q : Nat, s.heap.size ≤ q → A q := fun q h => by rw [← hAe]; exact Or.inr h
  have hS : va_S A s.heap s.heap [] := va_S.rf
  have hP : va_P (dC, dI) classes (wA a t σ) s.heap := hP
  have hl : lv_has ls 5 [(0, .ref (a 0)), (1, .int x), (2, .long d)] := hl
  have hown : s.vm.findClass R_A = some m.cls := hown
  have hG2 := hG
  obtain ⟨g_sn, g_sg, g_tn, g_tx, g_kd, g_lv, g_le, g_ln, g_hn, g_lf, g_lt, g_lc, g_rh, g_rn, g_ws, g_wn⟩ := hG
  refine lv_aload_n hx hb d_A_split_0 rfl (lv_at hl 0 rfl) ?_
  refine va_get (D := (dC, dI)) (C := R_A) (T := F_A) (N := 6) hx hb hT i_A hown hK hP 0 rfl rfl 0 (by decide) (hT _ k_A_12) (fun _ h9 => h9) (v := .ref (a 1)) rfl d_A_split_1 ?_
  refine lv_aload_n hx hb d_A_split_4 rfl (lv_at hl 0 rfl) ?_
  refine va_get (D := (dC, dI)) (C := R_A) (T := F_A) (N := 6) hx hb hT i_A hown hK hP 0 rfl rfl 1 (by decide) (hT _ k_A_19) (fun _ h9 => h9) (v := .ref (a 3)) rfl d_A_split_5 ?_
  refine x_cMi (wl := wA a t) (x_runV ⟨hx, hb, hml, hown, hT⟩ (c_C_moveTo l dC dI a t σ s.heap.size hG2) f_C_moveTo k_A_55 blM (va_recv hK hP (ci := 0) (q0 := 1) rfl rfl) (x_bM hK hP hN hD) hl.1 d_A_split_8 rfl (lv_room (Nat.le_of_ble_eq_true rfl)) ⟨Nat.le_of_ble_eq_true rfl, Nat.le_of_ble_eq_true rfl⟩ ⟨rfl, rfl⟩ ⟨Nat.le_refl 0, Nat.le_refl 0⟩ rfl) hD hS hA (fun r8 τ H locs q8 hP hD hS => ?_)
  obtain ⟨hok, hτ⟩ := q8
  have hτ : TKN σ τ := hτ
  have hGτ : GA τ := by obtain ⟨_, _, _, h9, _⟩ := hτ; exact h9
  obtain ⟨t_sn, t_sg, t_tn, t_tx, t_kd, t_lv, t_le, t_ln, t_hn, t_lf, t_lt, t_lc, t_rh, t_rn, t_ws, t_wn⟩ := id hGτ
  rcases hok with ⟨rfl, hok⟩ | ⟨rfl, hok⟩
  · refine x_if_ne (tgt := 17) hx hb d_A_split_11 (by decide) (fun _ => ?_) (fun h => absurd h (by decide))
    refine lv_aload_n hx hb d_A_split_17 rfl (lv_at hl 0 rfl) ?_
    refine va_get (D := (dC, dI)) (C := R_A) (T := F_A) (N := 6) hx hb hT i_A hown hK hP 0 rfl rfl 2 (by decide) (hT _ k_A_26) (fun _ h9 => h9) (v := .ref (a 5)) rfl d_A_split_18 ?_
    refine lv_iload_n hx hb d_A_split_21 rfl (lv_at hl 1 rfl) ?_
    refine x_ci (x_runV ⟨hx, hb, hml, hown, hT⟩ (c_H_isLive l dC dI a t (τ) hGτ x) f_H_isLive k_A_63 blR (va_recv hK hP (ci := 2) (q0 := 5) rfl rfl) (x_bR hK hP hN) hl.1 d_A_split_22 rfl (lv_room (Nat.le_of_ble_eq_true rfl)) ⟨Nat.le_of_ble_eq_true rfl, Nat.le_of_ble_eq_true rfl⟩ ⟨rfl, rfl⟩ ⟨Nat.le_refl 0, Nat.le_refl 0⟩ rfl) (fun r22 q22 => ?_)
    rcases q22 with ⟨rfl, j, hj1, hj2, hj3, rfl⟩ | ⟨rfl, hnj⟩
    · refine x_if_eq (tgt := 38) hx hb d_A_split_25 (by decide) (fun h => absurd h (by decide)) (fun _ => ?_)
      refine lv_aload_n hx hb d_A_split_28 rfl (lv_at hl 0 rfl) ?_
      refine va_get (D := (dC, dI)) (C := R_A) (T := F_A) (N := 6) hx hb hT i_A hown hK hP 0 rfl rfl 3 (by decide) (hT _ k_A_33) (fun _ h9 => h9) (v := .ref (a 10)) rfl d_A_split_29 ?_
      have hlcτ : a_lc τ < 512 := by obtain ⟨_, _, rfl, _⟩ := hτ; exact hlc
      refine x_ci (x_runV ⟨hx, hb, hml, hown, hT⟩ (c_K_isFull l dC dI a t τ hGτ) f_K_isFull k_A_71 blR (va_recv hK hP (ci := 3) (q0 := 10) rfl rfl) (x_bR hK hP hN) hl.1 d_A_split_32 rfl (lv_room (Nat.le_of_ble_eq_true rfl)) ⟨Nat.le_of_ble_eq_true rfl, Nat.le_of_ble_eq_true rfl⟩ ⟨rfl, rfl⟩ ⟨Nat.le_refl 0, Nat.le_refl 0⟩ rfl) (fun r32 q32 => ?_)
      rcases q32 with ⟨_, h9⟩ | ⟨rfl, _⟩
      · exact absurd h9 (by omega)
      refine x_if_eq (tgt := 40) hx hb d_A_split_35 (by decide) (fun _ => ?_) (fun h => absurd h (by decide))
      refine lv_aload_n hx hb d_A_split_40 rfl (lv_at hl 0 rfl) ?_
      refine lv_aload_n hx hb d_A_split_41 rfl (lv_at hl 0 rfl) ?_
      refine va_get (D := (dC, dI)) (C := R_A) (T := F_A) (N := 6) hx hb hT i_A hown hK hP 0 rfl rfl 2 (by decide) (hT _ k_A_26) (fun _ h9 => h9) (v := .ref (a 5)) rfl d_A_split_42 ?_
      refine lv_iload_n hx hb d_A_split_45 rfl (lv_at hl 1 rfl) ?_
      refine x_ci (x_runV ⟨hx, hb, hml, hown, hT⟩ (c_H_kindOf l dC dI a t τ hGτ j (by omega) (by omega)) f_H_kindOf k_A_86 blR (va_recv hK hP (ci := 2) (q0 := 5) rfl rfl) (x_bR hK hP hN) hl.1 d_A_split_46 rfl (lv_room (Nat.le_of_ble_eq_true rfl)) ⟨Nat.le_of_ble_eq_true rfl, Nat.le_of_ble_eq_true rfl⟩ ⟨rfl, rfl⟩ ⟨Nat.le_refl 0, Nat.le_refl 0⟩ rfl) (fun r46 q46 => ?_)
      subst q46
      refine x_cMi (wl := wA a t) (x_runV ⟨hx, hb, hml, hown, hT⟩ (c_A_addHeading l dC dI a t τ H.size hGτ (a_kd τ j) (t_kd j)) f_A_addHeading k_A_59 blM (va_recv hK hP (ci := 6) (q0 := 0) rfl rfl) (x_bM hK hP hN hD) hl.1 d_A_split_49 rfl (lv_room (Nat.le_of_ble_eq_true rfl)) ⟨Nat.le_of_ble_eq_true rfl, Nat.le_of_ble_eq_true rfl⟩ ⟨rfl, rfl⟩ ⟨Nat.le_refl 0, Nat.le_refl 0⟩ rfl) hD hS hA (fun r49 u49 H locs q49 hP hD hS => ?_)
      have hadh := q49
      rcases q49 with ⟨h60, rfl, hu9⟩ | ⟨h60, ⟨i, hi1, hi2, rfl, _, hu9⟩ | ⟨_, rfl, rfl⟩⟩
      · refine lv_istore (lv' := [(4, .int (nI 0)), (0, .ref (a 0)), (1, .int (nI j)), (2, .long d)]) hx hb d_A_split_52 hl (by decide) rfl (fun ls hl => ?_)
        refine lv_iload hx hb d_A_split_54 (lv_at hl 0 rfl) ?_
        refine x_if_le (tgt := 82) hx hb d_A_split_56 (by decide) (fun _ => ?_) (fun h9 => absurd h9 (by decide))
        refine lv_iload hx hb d_A_split_82 (lv_at hl 0 rfl) ?_
        exact x_mi (wl := wA a t) u49 hx hb hr hlk hK hP hD hS d_A_split_84 ⟨τ, hτ, Or.inr ⟨hok, Or.inr ⟨j, hj1, hj2, hj3, rfl, _, hadh, Or.inr ⟨(fun h9 => by have h8 := (nI_eq (by omega) (by omega)).mp h9; omega), rfl⟩⟩⟩⟩
      · refine lv_istore (lv' := [(4, .int (-nI i)), (0, .ref (a 0)), (1, .int (nI j)), (2, .long d)]) hx hb d_A_split_52 hl (by decide) rfl (fun ls hl => ?_)
        refine lv_iload hx hb d_A_split_54 (lv_at hl 0 rfl) ?_
        refine lv_if_le (tgt := 82) hx hb d_A_split_56 (by decide) (fun _ => ?_) (fun h9 => absurd (neg_le hi1 (by omega)) h9)
        refine lv_iload hx hb d_A_split_82 (lv_at hl 0 rfl) ?_
        exact x_mi (wl := wA a t) u49 hx hb hr hlk hK hP hD hS d_A_split_84 ⟨τ, hτ, Or.inr ⟨hok, Or.inr ⟨j, hj1, hj2, hj3, rfl, _, hadh, Or.inr ⟨(neg_ne hi1 (by omega) (by omega)), rfl⟩⟩⟩⟩
      · refine lv_istore (lv' := [(4, .int (nI (a_hn τ + 1))), (0, .ref (a 0)), (1, .int (nI j)), (2, .long d)]) hx hb d_A_split_52 hl (by decide) rfl (fun ls hl => ?_)
        refine lv_iload hx hb d_A_split_54 (lv_at hl 0 rfl) ?_
        refine x_if_le (tgt := 82) hx hb d_A_split_56 (by decide) (fun h9 => absurd h9 (by omega)) (fun _ => ?_)
        refine lv_aload_n hx hb d_A_split_59 rfl (lv_at hl 1 rfl) ?_
        refine va_get (D := (dC, dI)) (C := R_A) (T := F_A) (N := 6) hx hb hT i_A hown hK hP 0 rfl rfl 3 (by decide) (hT _ k_A_33) (fun _ h9 => h9) (v := .ref (a 10)) rfl d_A_split_60 ?_
        refine lv_iconst (v := nI 3) hx hb d_A_split_63 (by decide) ?_
        refine lv_iload_n hx hb d_A_split_64 rfl (lv_at hl 2 rfl) ?_
        refine lv_iload hx hb d_A_split_65 (lv_at hl 0 rfl) ?_
        refine lv_lload_n hx hb d_A_split_67 rfl (lv_at hl 3 rfl) ?_
        refine x_cMv (wl := wA a t) (x_runV ⟨hx, hb, hml, hown, hT⟩ (c_K_add l dC dI a t (au_hn (au_ln (au_le (au_lv (au_kd (τ) (updN (a_kd τ) (a_hn τ + 1) (a_kd τ j))) (updN (a_lv τ) (a_hn τ + 1) 1)) (cpT (a_le τ) ((a_hn τ + 1) * 20) (a_tx τ) (a_tn τ))) (updN (a_ln τ) (a_hn τ + 1) (a_tn τ))) (a_hn τ + 1)) H.size (GA_hn (GA_ln (GA_le (GA_lv (GA_kd hGτ (updN_lt t_kd (t_kd j))) (updN_lt t_lv (by decide))) (cpT_lt t_le t_tx)) (updN_le t_ln t_tn)) (by omega)) 3 j (a_hn τ + 1) d (by omega) (by omega) (by omega) hlcτ) f_K_add k_A_83 blM (va_recv hK hP (ci := 3) (q0 := 10) rfl rfl) (x_bM hK hP hN hD) hl.1 d_A_split_68 rfl (lv_room (Nat.le_of_ble_eq_true rfl)) ⟨Nat.le_of_ble_eq_true rfl, Nat.le_of_ble_eq_true rfl⟩ ⟨rfl, rfl⟩ ⟨Nat.le_refl 0, Nat.le_refl 0⟩ rfl) hD hS hA (fun u68 H locs q68 hP hD hS => ?_)
        rw [if_pos rfl] at q68
        subst q68
        have hP : va_P (dC, dI) classes (wA a t (au_lc (au_ld (au_lt (au_lf (au_tg (au_hn (au_ln (au_le (au_lv (au_kd (τ) (updN (a_kd τ) (a_hn τ + 1) (a_kd τ j))) (updN (a_lv τ) (a_hn τ + 1) 1)) (cpT (a_le τ) ((a_hn τ + 1) * 20) (a_tx τ) (a_tn τ))) (updN (a_ln τ) (a_hn τ + 1) (a_tn τ))) (a_hn τ + 1)) (vp_updL (a_tg τ) (3 * 61 + j) (a_tg τ (3 * 61 + j) ||| sg (a_hn τ + 1)))) (updN (a_lf τ) (a_lc τ) j)) (updN (a_lt τ) (a_lc τ) (a_hn τ + 1))) (vp_updL (a_ld τ) (a_lc τ) d)) (a_lc τ + 1))) H := hP
        have hD : va_D A (wA a t (au_lc (au_ld (au_lt (au_lf (au_tg (au_hn (au_ln (au_le (au_lv (au_kd (τ) (updN (a_kd τ) (a_hn τ + 1) (a_kd τ j))) (updN (a_lv τ) (a_hn τ + 1) 1)) (cpT (a_le τ) ((a_hn τ + 1) * 20) (a_tx τ) (a_tn τ))) (updN (a_ln τ) (a_hn τ + 1) (a_tn τ))) (a_hn τ + 1)) (vp_updL (a_tg τ) (3 * 61 + j) (a_tg τ (3 * 61 + j) ||| sg (a_hn τ + 1)))) (updN (a_lf τ) (a_lc τ) j)) (updN (a_lt τ) (a_lc τ) (a_hn τ + 1))) (vp_updL (a_ld τ) (a_lc τ) d)) (a_lc τ + 1))) := hD
        refine lv_aload_n hx hb d_A_split_71 rfl (lv_at hl 1 rfl) ?_
        refine va_get (D := (dC, dI)) (C := R_A) (T := F_A) (N := 6) hx hb hT i_A hown hK hP 0 rfl rfl 4 (by decide) (hT _ k_A_40) (fun _ h9 => h9) (v := .ref (a 15)) rfl d_A_split_72 ?_
        refine lv_iload_n hx hb d_A_split_75 rfl (lv_at hl 2 rfl) ?_
        refine lv_iload hx hb d_A_split_76 (lv_at hl 0 rfl) ?_
        refine lv_lload_n hx hb d_A_split_78 rfl (lv_at hl 3 rfl) ?_
        refine x_cMv (wl := wA a t) (x_runV ⟨hx, hb, hml, hown, hT⟩ (c_R_move l dC dI a t (au_lc (au_ld (au_lt (au_lf (au_tg (au_hn (au_ln (au_le (au_lv (au_kd (τ) (updN (a_kd τ) (a_hn τ + 1) (a_kd τ j))) (updN (a_lv τ) (a_hn τ + 1) 1)) (cpT (a_le τ) ((a_hn τ + 1) * 20) (a_tx τ) (a_tn τ))) (updN (a_ln τ) (a_hn τ + 1) (a_tn τ))) (a_hn τ + 1)) (vp_updL (a_tg τ) (3 * 61 + j) (a_tg τ (3 * 61 + j) ||| sg (a_hn τ + 1)))) (updN (a_lf τ) (a_lc τ) j)) (updN (a_lt τ) (a_lc τ) (a_hn τ + 1))) (vp_updL (a_ld τ) (a_lc τ) d)) (a_lc τ + 1)) H.size (GA_lc (GA_ld (GA_lt (GA_lf (GA_tg (GA_hn (GA_ln (GA_le (GA_lv (GA_kd hGτ (updN_lt t_kd (t_kd j))) (updN_lt t_lv (by decide))) (cpT_lt t_le t_tx)) (updN_le t_ln t_tn)) (by omega))) (updN_le t_lf (by omega))) (updN_le t_lt (by omega)))) (by omega)) j (a_hn τ + 1) d (by omega) (by omega)) f_R_move k_A_138 blM (va_recv hK hP (ci := 4) (q0 := 15) rfl rfl) (x_bM hK hP hN hD) hl.1 d_A_split_79 rfl (lv_room (Nat.le_of_ble_eq_true rfl)) ⟨Nat.le_of_ble_eq_true rfl, Nat.le_of_ble_eq_true rfl⟩ ⟨rfl, rfl⟩ ⟨Nat.le_refl 0, Nat.le_refl 0⟩ rfl) hD hS hA (fun u79 H locs q79 hP hD hS => ?_)
        subst q79
        have hP : va_P (dC, dI) classes (wA a t (au_rh (au_lc (au_ld (au_lt (au_lf (au_tg (au_hn (au_ln (au_le (au_lv (au_kd (τ) (updN (a_kd τ) (a_hn τ + 1) (a_kd τ j))) (updN (a_lv τ) (a_hn τ + 1) 1)) (cpT (a_le τ) ((a_hn τ + 1) * 20) (a_tx τ) (a_tn τ))) (updN (a_ln τ) (a_hn τ + 1) (a_tn τ))) (a_hn τ + 1)) (vp_updL (a_tg τ) (3 * 61 + j) (a_tg τ (3 * 61 + j) ||| sg (a_hn τ + 1)))) (updN (a_lf τ) (a_lc τ) j)) (updN (a_lt τ) (a_lc τ) (a_hn τ + 1))) (vp_updL (a_ld τ) (a_lc τ) d)) (a_lc τ + 1)) (mvR (a_rh τ) (a_rd τ) j (a_hn τ + 1) d (a_rn τ)))) H := hP
        have hD : va_D A (wA a t (au_rh (au_lc (au_ld (au_lt (au_lf (au_tg (au_hn (au_ln (au_le (au_lv (au_kd (τ) (updN (a_kd τ) (a_hn τ + 1) (a_kd τ j))) (updN (a_lv τ) (a_hn τ + 1) 1)) (cpT (a_le τ) ((a_hn τ + 1) * 20) (a_tx τ) (a_tn τ))) (updN (a_ln τ) (a_hn τ + 1) (a_tn τ))) (a_hn τ + 1)) (vp_updL (a_tg τ) (3 * 61 + j) (a_tg τ (3 * 61 + j) ||| sg (a_hn τ + 1)))) (updN (a_lf τ) (a_lc τ) j)) (updN (a_lt τ) (a_lc τ) (a_hn τ + 1))) (vp_updL (a_ld τ) (a_lc τ) d)) (a_lc τ + 1)) (mvR (a_rh τ) (a_rd τ) j (a_hn τ + 1) d (a_rn τ)))) := hD
        refine lv_iload hx hb d_A_split_82 (lv_at hl 0 rfl) ?_
        exact x_mi (wl := wA a t) (au_rh (au_lc (au_ld (au_lt (au_lf (au_tg (au_hn (au_ln (au_le (au_lv (au_kd (τ) (updN (a_kd τ) (a_hn τ + 1) (a_kd τ j))) (updN (a_lv τ) (a_hn τ + 1) 1)) (cpT (a_le τ) ((a_hn τ + 1) * 20) (a_tx τ) (a_tn τ))) (updN (a_ln τ) (a_hn τ + 1) (a_tn τ))) (a_hn τ + 1)) (vp_updL (a_tg τ) (3 * 61 + j) (a_tg τ (3 * 61 + j) ||| sg (a_hn τ + 1)))) (updN (a_lf τ) (a_lc τ) j)) (updN (a_lt τ) (a_lc τ) (a_hn τ + 1))) (vp_updL (a_ld τ) (a_lc τ) d)) (a_lc τ + 1)) (mvR (a_rh τ) (a_rd τ) j (a_hn τ + 1) d (a_rn τ))) hx hb hr hlk hK hP hD hS d_A_split_84 ⟨τ, hτ, Or.inr ⟨hok, Or.inr ⟨j, hj1, hj2, hj3, rfl, _, hadh, Or.inl ⟨rfl, h60, rfl⟩⟩⟩⟩
    · refine x_if_eq (tgt := 38) hx hb d_A_split_25 (by decide) (fun _ => ?_) (fun h => absurd h (by decide))
      refine lv_iconst (v := nI 0) hx hb d_A_split_38 (by decide) ?_
      exact x_mi (wl := wA a t) (τ) hx hb hr hlk hK hP hD hS d_A_split_39 ⟨τ, hτ, Or.inr ⟨hok, Or.inl ⟨hnj, rfl, rfl⟩⟩⟩
  · refine x_if_ne (tgt := 17) hx hb d_A_split_11 (by decide) (fun h => absurd h (by decide)) (fun _ => ?_)
    refine lv_bipush (v := -99) hx hb d_A_split_14 (by decide) ?_
    exact x_mi (wl := wA a t) (τ) hx hb hr hlk hK hP hD hS d_A_split_16 ⟨τ, hτ, Or.inl ⟨hok, rfl, rfl⟩⟩
end
section
set_option maxRecDepth 100000 in
set_option maxHeartbeats 4000000 in
theorem c_J_bitCount (l : Launch) (x : Int64) : Met l y_J_bitCount (wS y_J_bitCount b_J_bitCount 2 (some .int)) (rD 0) (va_Pc [.long x] (fun U => NWs U)) (vp_Si (fun r => ∃ v, v < 128 ∧ r = nI v)) 0 0 (fun _ => False) := by
  refine x_enter (by decide) (Nat.le_of_ble_eq_true rfl) ?_
  intro p e s m below meth c ls hx hb hr hml hT hown hlk hnm hl hB
  have hN : NWs s := hB
  have hl : lv_has ls 2 [(0, .long x)] := hl
  have hown : s.vm.findClass R_J = some m.cls := hown
  refine lv_lload_n hx hb d_J_bitCount_0 rfl (lv_at hl 0 rfl) ?_
  refine lv_lload_n hx hb d_J_bitCount_1 rfl (lv_at hl 0 rfl) ?_
  refine lv_iconst (v := nI 1) hx hb d_J_bitCount_2 (by decide) ?_
  refine lv_lushr hx hb d_J_bitCount_3 rfl ?_
  refine lv_topl (fun y1_ _ => ?_)
  refine lv_ldc2 (v := 6148914691236517205) hx hb hown (hT _ k_J_314) d_J_bitCount_4 ?_
  refine lv_land hx hb d_J_bitCount_7 ?_
  refine lv_topl (fun y2_ _ => ?_)
  refine lv_lsub hx hb d_J_bitCount_8 ?_
  refine lv_topl (fun y3_ _ => ?_)
  refine lv_lstore_n (lv' := [(0, .long y3_)]) hx hb d_J_bitCount_9 rfl hl (by decide) rfl (fun ls hl => ?_)
  refine lv_lload_n hx hb d_J_bitCount_10 rfl (lv_at hl 0 rfl) ?_
  refine lv_ldc2 (v := 3689348814741910323) hx hb hown (hT _ k_J_316) d_J_bitCount_11 ?_
  refine lv_land hx hb d_J_bitCount_14 ?_
  refine lv_topl (fun y4_ _ => ?_)
  refine lv_lload_n hx hb d_J_bitCount_15 rfl (lv_at hl 0 rfl) ?_
  refine lv_iconst (v := nI 2) hx hb d_J_bitCount_16 (by decide) ?_
  refine lv_lushr hx hb d_J_bitCount_17 rfl ?_
  refine lv_topl (fun y5_ _ => ?_)
  refine lv_ldc2 (v := 3689348814741910323) hx hb hown (hT _ k_J_316) d_J_bitCount_18 ?_
  refine lv_land hx hb d_J_bitCount_21 ?_
  refine lv_topl (fun y6_ _ => ?_)
  refine lv_ladd hx hb d_J_bitCount_22 ?_
  refine lv_topl (fun y7_ _ => ?_)
  refine lv_lstore_n (lv' := [(0, .long y7_)]) hx hb d_J_bitCount_23 rfl hl (by decide) rfl (fun ls hl => ?_)
  refine lv_lload_n hx hb d_J_bitCount_24 rfl (lv_at hl 0 rfl) ?_
  refine lv_lload_n hx hb d_J_bitCount_25 rfl (lv_at hl 0 rfl) ?_
  refine lv_iconst (v := nI 4) hx hb d_J_bitCount_26 (by decide) ?_
  refine lv_lushr hx hb d_J_bitCount_27 rfl ?_
  refine lv_topl (fun y8_ _ => ?_)
  refine lv_ladd hx hb d_J_bitCount_28 ?_
  refine lv_topl (fun y9_ _ => ?_)
  refine lv_ldc2 (v := 1085102592571150095) hx hb hown (hT _ k_J_318) d_J_bitCount_29 ?_
  refine lv_land hx hb d_J_bitCount_32 ?_
  refine lv_topl (fun y10_ _ => ?_)
  refine lv_lstore_n (lv' := [(0, .long y10_)]) hx hb d_J_bitCount_33 rfl hl (by decide) rfl (fun ls hl => ?_)
  refine lv_lload_n hx hb d_J_bitCount_34 rfl (lv_at hl 0 rfl) ?_
  refine lv_lload_n hx hb d_J_bitCount_35 rfl (lv_at hl 0 rfl) ?_
  refine lv_bipush (v := nI 8) hx hb d_J_bitCount_36 (by decide) ?_
  refine lv_lushr hx hb d_J_bitCount_38 rfl ?_
  refine lv_topl (fun y11_ _ => ?_)
  refine lv_ladd hx hb d_J_bitCount_39 ?_
  refine lv_topl (fun y12_ _ => ?_)
  refine lv_lstore_n (lv' := [(0, .long y12_)]) hx hb d_J_bitCount_40 rfl hl (by decide) rfl (fun ls hl => ?_)
  refine lv_lload_n hx hb d_J_bitCount_41 rfl (lv_at hl 0 rfl) ?_
  refine lv_lload_n hx hb d_J_bitCount_42 rfl (lv_at hl 0 rfl) ?_
  refine lv_bipush (v := nI 16) hx hb d_J_bitCount_43 (by decide) ?_
  refine lv_lushr hx hb d_J_bitCount_45 rfl ?_
  refine lv_topl (fun y13_ _ => ?_)
  refine lv_ladd hx hb d_J_bitCount_46 ?_
  refine lv_topl (fun y14_ _ => ?_)
  refine lv_lstore_n (lv' := [(0, .long y14_)]) hx hb d_J_bitCount_47 rfl hl (by decide) rfl (fun ls hl => ?_)
  refine lv_lload_n hx hb d_J_bitCount_48 rfl (lv_at hl 0 rfl) ?_
  refine lv_lload_n hx hb d_J_bitCount_49 rfl (lv_at hl 0 rfl) ?_
  refine lv_bipush (v := nI 32) hx hb d_J_bitCount_50 (by decide) ?_
  refine lv_lushr hx hb d_J_bitCount_52 rfl ?_
  refine lv_topl (fun y15_ _ => ?_)
  refine lv_ladd hx hb d_J_bitCount_53 ?_
  refine lv_topl (fun y16_ _ => ?_)
  refine lv_lstore_n (lv' := [(0, .long y16_)]) hx hb d_J_bitCount_54 rfl hl (by decide) rfl (fun ls hl => ?_)
  refine lv_lload_n hx hb d_J_bitCount_55 rfl (lv_at hl 0 rfl) ?_
  refine lv_l2i hx hb d_J_bitCount_56 rfl ?_
  refine lv_topi (fun y17_ _ => ?_)
  refine lv_bipush (v := nI 127) hx hb d_J_bitCount_57 (by decide) ?_
  refine lv_iand hx hb d_J_bitCount_59 ?_
  exact x_ri hx hb hr hlk d_J_bitCount_60 ⟨_, Nat.mod_lt _ (by decide), pk_and _ 7 (by decide)⟩

set_option maxRecDepth 100000 in
set_option maxHeartbeats 4000000 in
theorem c_A_broader (l : Launch) (dC : Nat → ClassId) (dI : Nat → Nat → Nat) (a : Nat → Nat) (t : Nat → ClassId) (σ : SA) (hG : GA σ) (x y : Int32) : Met l y_A_broader (wS y_A_broader b_A_broader 10 (some .int)) (rD 3) (va_Pc [.ref (a 0), .int x, .int y] (RB (dC, dI) (yA t) (wA a t σ))) (vp_Si (fun r => ∃ v, v ≤ 60 ∧ r = nI v)) 0 0 (fun _ => False) := by
  refine x_enter (by decide) (Nat.le_of_ble_eq_true rfl) ?_
  intro p e s m below meth c ls hx hb hr hml hT hown hlk hnm hl hB
  obtain ⟨hP, hK, hN⟩ := hB
  have hl : lv_has ls 10 [(0, .ref (a 0)), (1, .int x), (2, .int y)] := hl
  have hown : s.vm.findClass R_A = some m.cls := hown
  have hG2 := hG
  obtain ⟨g_sn, g_sg, g_tn, g_tx, g_kd, g_lv, g_le, g_ln, g_hn, g_lf, g_lt, g_lc, g_rh, g_rn, g_ws, g_wn⟩ := hG
  refine lv_aload_n hx hb d_A_broader_0 rfl (lv_at hl 0 rfl) ?_
  refine va_get (D := (dC, dI)) (C := R_A) (T := F_A) (N := 6) hx hb hT i_A hown hK hP 0 rfl rfl 2 (by decide) (hT _ k_A_26) (fun _ h9 => h9) (v := .ref (a 5)) rfl d_A_broader_1 ?_
  refine lv_iload_n hx hb d_A_broader_4 rfl (lv_at hl 1 rfl) ?_
  refine x_ci (x_runV ⟨hx, hb, hml, hown, hT⟩ (c_H_isLive l dC dI a t σ hG2 x) f_H_isLive k_A_63 blR (va_recv hK hP (ci := 2) (q0 := 5) rfl rfl) (x_bR hK hP hN) hl.1 d_A_broader_5 rfl (lv_room (Nat.le_of_ble_eq_true rfl)) ⟨Nat.le_of_ble_eq_true rfl, Nat.le_of_ble_eq_true rfl⟩ ⟨rfl, rfl⟩ ⟨Nat.le_refl 0, Nat.le_refl 0⟩ rfl) (fun r5 q5 => ?_)
  rcases q5 with ⟨rfl, j, hj1, hj2, hj3, rfl⟩ | ⟨rfl, hnj⟩
  · refine x_if_eq (tgt := 15) hx hb d_A_broader_8 (by decide) (fun h => absurd h (by decide)) (fun _ => ?_)
    refine lv_iload_n hx hb d_A_broader_11 rfl (lv_at hl 2 rfl) ?_
    refine lv_if_ge (tgt := 17) hx hb d_A_broader_12 (by decide) (fun c12 => ?_) (fun c12 => ?_)
    · obtain ⟨i, hi, rfl⟩ := nI_of (show ¬ y < 0 from Int32.not_lt.mpr c12)
      refine lv_iload_n hx hb d_A_broader_17 rfl (lv_at hl 2 rfl) ?_
      refine lv_istore_n (lv' := [(3, .int (nI i)), (0, .ref (a 0)), (1, .int (nI j)), (2, .int (nI i))]) hx hb d_A_broader_18 rfl hl (by decide) rfl (fun ls hl => ?_)
      refine lv_iload_n hx hb d_A_broader_19 rfl (lv_at hl 2 rfl) ?_
      refine x_cl (x_runS ⟨hx, hb, hml, hown, hT⟩ (c_A_setOf l j (by omega)) f_A_setOf k_A_104 blT (x_bT hN) hl.1 d_A_broader_20 rfl (lv_room (Nat.le_of_ble_eq_true rfl)) ⟨Nat.le_of_ble_eq_true rfl, Nat.le_of_ble_eq_true rfl⟩ ⟨rfl, rfl⟩ ⟨Nat.le_refl 0, Nat.le_refl 0⟩ rfl) (fun r20 q20 => ?_)
      subst q20
      refine lv_lstore (lv' := [(4, .long (sg j)), (3, .int (nI i)), (0, .ref (a 0)), (1, .int (nI j)), (2, .int (nI i))]) hx hb d_A_broader_23 hl (by decide) rfl (fun ls hl => ?_)
      refine lv_aload_n hx hb d_A_broader_25 rfl (lv_at hl 2 rfl) ?_
      refine va_get (D := (dC, dI)) (C := R_A) (T := F_A) (N := 6) hx hb hT i_A hown hK hP 0 rfl rfl 3 (by decide) (hT _ k_A_33) (fun _ h9 => h9) (v := .ref (a 10)) rfl d_A_broader_26 ?_
      refine lv_iconst (v := nI 2) hx hb d_A_broader_29 (by decide) ?_
      refine lv_iload_n hx hb d_A_broader_30 rfl (lv_at hl 3 rfl) ?_
      refine x_cl (x_runV ⟨hx, hb, hml, hown, hT⟩ (c_K_targetsOf l dC dI a t σ 2 j (by omega) (by omega)) f_K_targetsOf k_A_116 blR (va_recv hK hP (ci := 3) (q0 := 10) rfl rfl) (x_bR hK hP hN) hl.1 d_A_broader_31 rfl (lv_room (Nat.le_of_ble_eq_true rfl)) ⟨Nat.le_of_ble_eq_true rfl, Nat.le_of_ble_eq_true rfl⟩ ⟨rfl, rfl⟩ ⟨Nat.le_refl 0, Nat.le_refl 0⟩ rfl) (fun r31 q31 => ?_)
      subst q31
      refine lv_lstore (lv' := [(6, .long (a_tg σ (2 * 61 + j))), (4, .long (sg j)), (3, .int (nI i)), (0, .ref (a 0)), (1, .int (nI j)), (2, .int (nI i))]) hx hb d_A_broader_34 hl (by decide) rfl (fun ls hl => ?_)
      refine lv_iconst (v := nI 1) hx hb d_A_broader_36 (by decide) ?_
      refine lv_istore (lv' := [(8, .int (nI 1)), (6, .long (a_tg σ (2 * 61 + j))), (4, .long (sg j)), (3, .int (nI i)), (0, .ref (a 0)), (1, .int (nI j)), (2, .int (nI i))]) hx hb d_A_broader_37 hl (by decide) rfl (fun ls hl => ?_)
      have hloop39 : ∀ (n39 : Nat) (k : Nat) (f : Nat) (sv : Int64) (lx : Int64) (ls : Array Slot), 1 ≤ k ∧ k ≤ 60 → f < 2 ^ 31 → 61 - k < n39 → lv_has ls 10 [(0, .ref (a 0)), (1, .int (nI j)), (2, .int (nI i)), (3, .int (nI f)), (4, .long sv), (6, .long lx), (8, .int (nI k))] → W p l e (rD 3) s m ([.ref (a 0), .int (nI j), .int (nI i)] : List Value).toArray below meth c s.heap [] 0 0 (MQ below (vp_Si (fun r => ∃ v, v ≤ 60 ∧ r = nI v)) ([.ref (a 0), .int (nI j), .int (nI i)] : List Value).toArray s 0 0 (fun _ => False)) (F0 m 39 ls []) := by
        intro n39
        induction n39 with
        | zero => intro k f sv lx ls _ _ h9; exact absurd h9 (Nat.not_lt_zero _)
        | succ n39 ih39 =>
          intro k f sv lx ls hk hf hmu39 hl
          refine lv_iload hx hb d_A_broader_39 (lv_at hl 6 rfl) ?_
          refine lv_bipush (v := nI 60) hx hb d_A_broader_41 (by decide) ?_
          refine x_icmp_ge (tgt := 110) hx hb d_A_broader_43 (by decide) (fun c43 => ?_) (fun c43 => ?_)
          · refine lv_iconst (v := nI 0) hx hb d_A_broader_110 (by decide) ?_
            exact x_ri hx hb hr hlk d_A_broader_111 ⟨0, by omega, rfl⟩
          · refine lv_lload hx hb d_A_broader_46 (lv_at hl 5 rfl) ?_
            refine lv_lconst (v := 0) hx hb d_A_broader_48 (by decide) ?_
            refine x_lif_eq (tgt := 110) hx hb d_A_broader_49 d_A_broader_50 (by decide) (fun c49 => ?_) (fun c49 => ?_)
            · refine lv_iconst (v := nI 0) hx hb d_A_broader_110 (by decide) ?_
              exact x_ri hx hb hr hlk d_A_broader_111 ⟨0, by omega, rfl⟩
            · refine lv_lload hx hb d_A_broader_53 (lv_at hl 5 rfl) ?_
              refine x_ci (x_runS ⟨hx, hb, hml, hown, hT⟩ (c_J_bitCount l lx) f_J_bitCount k_A_120 blT (x_bT hN) hl.1 d_A_broader_55 rfl (lv_room (Nat.le_of_ble_eq_true rfl)) ⟨Nat.le_of_ble_eq_true rfl, Nat.le_of_ble_eq_true rfl⟩ ⟨rfl, rfl⟩ ⟨Nat.le_refl 0, Nat.le_refl 0⟩ rfl) (fun r55 q55 => ?_)
              obtain ⟨bc, hbc, rfl⟩ := q55
              refine lv_istore (lv' := [(9, .int (nI bc)), (0, .ref (a 0)), (1, .int (nI j)), (2, .int (nI i)), (3, .int (nI f)), (4, .long sv), (6, .long lx), (8, .int (nI k))]) hx hb d_A_broader_58 hl (by decide) rfl (fun ls hl => ?_)
              refine lv_iload_n hx hb d_A_broader_60 rfl (lv_at hl 4 rfl) ?_
              refine lv_iload hx hb d_A_broader_61 (lv_at hl 0 rfl) ?_
              refine x_icmp_ge (tgt := 73) hx hb d_A_broader_63 (by decide) (fun c63 => ?_) (fun c63 => ?_)
              · refine lv_iload_n hx hb d_A_broader_73 rfl (lv_at hl 4 rfl) ?_
                refine lv_iload hx hb d_A_broader_74 (lv_at hl 0 rfl) ?_
                refine x_isub hx hb d_A_broader_76 ?_
                refine lv_istore_n (lv' := [(3, .int (nI (f - bc))), (9, .int (nI bc)), (0, .ref (a 0)), (1, .int (nI j)), (2, .int (nI i)), (4, .long sv), (6, .long lx), (8, .int (nI k))]) hx hb d_A_broader_77 rfl hl (by decide) rfl (fun ls hl => ?_)
                refine lv_lload hx hb d_A_broader_78 (lv_at hl 5 rfl) ?_
                refine lv_lload hx hb d_A_broader_80 (lv_at hl 6 rfl) ?_
                refine lv_lor hx hb d_A_broader_82 ?_
                refine lv_lstore (lv' := [(4, .long (sv ||| lx)), (3, .int (nI (f - bc))), (9, .int (nI bc)), (0, .ref (a 0)), (1, .int (nI j)), (2, .int (nI i)), (6, .long lx), (8, .int (nI k))]) hx hb d_A_broader_83 hl (by decide) rfl (fun ls hl => ?_)
                refine lv_aload_n hx hb d_A_broader_85 rfl (lv_at hl 3 rfl) ?_
                refine va_get (D := (dC, dI)) (C := R_A) (T := F_A) (N := 6) hx hb hT i_A hown hK hP 0 rfl rfl 3 (by decide) (hT _ k_A_33) (fun _ h9 => h9) (v := .ref (a 10)) rfl d_A_broader_86 ?_
                refine lv_iconst (v := nI 2) hx hb d_A_broader_89 (by decide) ?_
                refine lv_lload hx hb d_A_broader_90 (lv_at hl 6 rfl) ?_
                refine x_cl (x_runV ⟨hx, hb, hml, hown, hT⟩ (c_K_targetsOfAll l dC dI a t σ 2 lx (by omega)) f_K_targetsOfAll k_A_126 blR (va_recv hK hP (ci := 3) (q0 := 10) rfl rfl) (x_bR hK hP hN) hl.1 d_A_broader_92 rfl (lv_room (Nat.le_of_ble_eq_true rfl)) ⟨Nat.le_of_ble_eq_true rfl, Nat.le_of_ble_eq_true rfl⟩ ⟨rfl, rfl⟩ ⟨Nat.le_refl 0, Nat.le_refl 0⟩ rfl) (fun av q92 => ?_)
                refine lv_lload hx hb d_A_broader_95 (lv_at hl 0 rfl) ?_
                refine lv_ldc2 (v := -1) hx hb hown (hT _ k_A_129) d_A_broader_97 ?_
                refine lv_lxor hx hb d_A_broader_100 ?_
                refine lv_land hx hb d_A_broader_101 ?_
                refine lv_lstore (lv' := [(6, .long (av &&& ((sv ||| lx) ^^^ ((-1))))), (4, .long (sv ||| lx)), (3, .int (nI (f - bc))), (9, .int (nI bc)), (0, .ref (a 0)), (1, .int (nI j)), (2, .int (nI i)), (8, .int (nI k))]) hx hb d_A_broader_102 hl (by decide) rfl (fun ls hl => ?_)
                refine x_iinc (lv' := [(8, .int (nI (k + 1))), (6, .long (av &&& ((sv ||| lx) ^^^ ((-1))))), (4, .long (sv ||| lx)), (3, .int (nI (f - bc))), (9, .int (nI bc)), (0, .ref (a 0)), (1, .int (nI j)), (2, .int (nI i))]) hx hb d_A_broader_104 hl (k := 7) rfl (by decide) rfl (fun ls hl => ?_)
                refine lv_goto (tgt := 39) hx hb d_A_broader_107 (by decide) ?_
                exact ih39 (k + 1) _ _ _ ls (by omega) (by omega) (by omega) (lv_sub hl [5, 6, 7, 3, 2, 1, 0] rfl)
              · refine lv_lload hx hb d_A_broader_66 (lv_at hl 6 rfl) ?_
                refine lv_iload_n hx hb d_A_broader_68 rfl (lv_at hl 4 rfl) ?_
                refine x_ci (x_runS ⟨hx, hb, hml, hown, hT⟩ (c_A_nthOf l lx f hf) f_A_nthOf k_A_112 blT (x_bT hN) hl.1 d_A_broader_69 rfl (lv_room (Nat.le_of_ble_eq_true rfl)) ⟨Nat.le_of_ble_eq_true rfl, Nat.le_of_ble_eq_true rfl⟩ ⟨rfl, rfl⟩ ⟨Nat.le_refl 0, Nat.le_refl 0⟩ rfl) (fun r69 q69 => ?_)
                obtain ⟨v, hv, rfl, _⟩ := NTH_N q69
                exact x_ri hx hb hr hlk d_A_broader_72 ⟨v, hv, rfl⟩
      exact hloop39 _ 1 i _ _ ls (by omega) hi (Nat.lt_succ_self _) (lv_sub hl [4, 5, 6, 3, 2, 1, 0] rfl)
    · refine lv_iconst (v := nI 0) hx hb d_A_broader_15 (by decide) ?_
      exact x_ri hx hb hr hlk d_A_broader_16 ⟨0, by omega, rfl⟩
  · refine x_if_eq (tgt := 15) hx hb d_A_broader_8 (by decide) (fun _ => ?_) (fun h => absurd h (by decide))
    refine lv_iconst (v := nI 0) hx hb d_A_broader_15 (by decide) ?_
    exact x_ri hx hb hr hlk d_A_broader_16 ⟨0, by omega, rfl⟩
end
section
def GM (σ : SM) : Prop := m_sz σ ≤ 40 ∧ (∀ j, m_sd σ j < 256) ∧ m_hn σ ≤ 60 ∧ (∀ j, m_kd σ j < 4) ∧ (∀ j, m_lv σ j < 2) ∧ (∀ j, m_tx σ j < 128) ∧ (∀ j, m_zs σ j ≤ 20) ∧ m_ln σ ≤ 512 ∧ (∀ j, m_lf σ j ≤ 60) ∧ (∀ j, m_lt σ j ≤ 60) ∧ m_rn σ ≤ 60 ∧ (∀ j, m_lk σ j ≤ 60) ∧ (∀ j, m_wy σ j ≤ 60) ∧ m_wn σ ≤ 61 ∧ (∀ j, m_di σ j ≤ 100) ∧ m_co σ ≤ 40
theorem GM_sd {σ : SM} {f : (Nat → Nat)} (h : GM σ) (hf : ∀ j, f j < 256) : GM (mu_sd σ f) := by
  obtain ⟨g_sz, g_sd, g_hn, g_kd, g_lv, g_tx, g_zs, g_ln, g_lf, g_lt, g_rn, g_lk, g_wy, g_wn, g_di, g_co⟩ := h
  exact ⟨g_sz, hf, g_hn, g_kd, g_lv, g_tx, g_zs, g_ln, g_lf, g_lt, g_rn, g_lk, g_wy, g_wn, g_di, g_co⟩
theorem GM_sz {σ : SM} {f : Nat} (h : GM σ) (hf : f ≤ 40) : GM (mu_sz σ f) := by
  obtain ⟨g_sz, g_sd, g_hn, g_kd, g_lv, g_tx, g_zs, g_ln, g_lf, g_lt, g_rn, g_lk, g_wy, g_wn, g_di, g_co⟩ := h
  exact ⟨hf, g_sd, g_hn, g_kd, g_lv, g_tx, g_zs, g_ln, g_lf, g_lt, g_rn, g_lk, g_wy, g_wn, g_di, g_co⟩
theorem GM_hn {σ : SM} {f : Nat} (h : GM σ) (hf : f ≤ 60) : GM (mu_hn σ f) := by
  obtain ⟨g_sz, g_sd, g_hn, g_kd, g_lv, g_tx, g_zs, g_ln, g_lf, g_lt, g_rn, g_lk, g_wy, g_wn, g_di, g_co⟩ := h
  exact ⟨g_sz, g_sd, hf, g_kd, g_lv, g_tx, g_zs, g_ln, g_lf, g_lt, g_rn, g_lk, g_wy, g_wn, g_di, g_co⟩
theorem GM_kd {σ : SM} {f : (Nat → Nat)} (h : GM σ) (hf : ∀ j, f j < 4) : GM (mu_kd σ f) := by
  obtain ⟨g_sz, g_sd, g_hn, g_kd, g_lv, g_tx, g_zs, g_ln, g_lf, g_lt, g_rn, g_lk, g_wy, g_wn, g_di, g_co⟩ := h
  exact ⟨g_sz, g_sd, g_hn, hf, g_lv, g_tx, g_zs, g_ln, g_lf, g_lt, g_rn, g_lk, g_wy, g_wn, g_di, g_co⟩
theorem GM_lv {σ : SM} {f : (Nat → Nat)} (h : GM σ) (hf : ∀ j, f j < 2) : GM (mu_lv σ f) := by
  obtain ⟨g_sz, g_sd, g_hn, g_kd, g_lv, g_tx, g_zs, g_ln, g_lf, g_lt, g_rn, g_lk, g_wy, g_wn, g_di, g_co⟩ := h
  exact ⟨g_sz, g_sd, g_hn, g_kd, hf, g_tx, g_zs, g_ln, g_lf, g_lt, g_rn, g_lk, g_wy, g_wn, g_di, g_co⟩
theorem GM_tx {σ : SM} {f : (Nat → Nat)} (h : GM σ) (hf : ∀ j, f j < 128) : GM (mu_tx σ f) := by
  obtain ⟨g_sz, g_sd, g_hn, g_kd, g_lv, g_tx, g_zs, g_ln, g_lf, g_lt, g_rn, g_lk, g_wy, g_wn, g_di, g_co⟩ := h
  exact ⟨g_sz, g_sd, g_hn, g_kd, g_lv, hf, g_zs, g_ln, g_lf, g_lt, g_rn, g_lk, g_wy, g_wn, g_di, g_co⟩
theorem GM_zs {σ : SM} {f : (Nat → Nat)} (h : GM σ) (hf : ∀ j, f j ≤ 20) : GM (mu_zs σ f) := by
  obtain ⟨g_sz, g_sd, g_hn, g_kd, g_lv, g_tx, g_zs, g_ln, g_lf, g_lt, g_rn, g_lk, g_wy, g_wn, g_di, g_co⟩ := h
  exact ⟨g_sz, g_sd, g_hn, g_kd, g_lv, g_tx, hf, g_ln, g_lf, g_lt, g_rn, g_lk, g_wy, g_wn, g_di, g_co⟩
theorem GM_ln {σ : SM} {f : Nat} (h : GM σ) (hf : f ≤ 512) : GM (mu_ln σ f) := by
  obtain ⟨g_sz, g_sd, g_hn, g_kd, g_lv, g_tx, g_zs, g_ln, g_lf, g_lt, g_rn, g_lk, g_wy, g_wn, g_di, g_co⟩ := h
  exact ⟨g_sz, g_sd, g_hn, g_kd, g_lv, g_tx, g_zs, hf, g_lf, g_lt, g_rn, g_lk, g_wy, g_wn, g_di, g_co⟩
theorem GM_ls {σ : SM} {f : (Nat → Nat)} (h : GM σ) : GM (mu_ls σ f) := by
  obtain ⟨g_sz, g_sd, g_hn, g_kd, g_lv, g_tx, g_zs, g_ln, g_lf, g_lt, g_rn, g_lk, g_wy, g_wn, g_di, g_co⟩ := h
  exact ⟨g_sz, g_sd, g_hn, g_kd, g_lv, g_tx, g_zs, g_ln, g_lf, g_lt, g_rn, g_lk, g_wy, g_wn, g_di, g_co⟩
theorem GM_lf {σ : SM} {f : (Nat → Nat)} (h : GM σ) (hf : ∀ j, f j ≤ 60) : GM (mu_lf σ f) := by
  obtain ⟨g_sz, g_sd, g_hn, g_kd, g_lv, g_tx, g_zs, g_ln, g_lf, g_lt, g_rn, g_lk, g_wy, g_wn, g_di, g_co⟩ := h
  exact ⟨g_sz, g_sd, g_hn, g_kd, g_lv, g_tx, g_zs, g_ln, hf, g_lt, g_rn, g_lk, g_wy, g_wn, g_di, g_co⟩
theorem GM_lt {σ : SM} {f : (Nat → Nat)} (h : GM σ) (hf : ∀ j, f j ≤ 60) : GM (mu_lt σ f) := by
  obtain ⟨g_sz, g_sd, g_hn, g_kd, g_lv, g_tx, g_zs, g_ln, g_lf, g_lt, g_rn, g_lk, g_wy, g_wn, g_di, g_co⟩ := h
  exact ⟨g_sz, g_sd, g_hn, g_kd, g_lv, g_tx, g_zs, g_ln, g_lf, hf, g_rn, g_lk, g_wy, g_wn, g_di, g_co⟩
theorem GM_ld {σ : SM} {f : (Nat → Int64)} (h : GM σ) : GM (mu_ld σ f) := by
  obtain ⟨g_sz, g_sd, g_hn, g_kd, g_lv, g_tx, g_zs, g_ln, g_lf, g_lt, g_rn, g_lk, g_wy, g_wn, g_di, g_co⟩ := h
  exact ⟨g_sz, g_sd, g_hn, g_kd, g_lv, g_tx, g_zs, g_ln, g_lf, g_lt, g_rn, g_lk, g_wy, g_wn, g_di, g_co⟩
theorem GM_rn {σ : SM} {f : Nat} (h : GM σ) (hf : f ≤ 60) : GM (mu_rn σ f) := by
  obtain ⟨g_sz, g_sd, g_hn, g_kd, g_lv, g_tx, g_zs, g_ln, g_lf, g_lt, g_rn, g_lk, g_wy, g_wn, g_di, g_co⟩ := h
  exact ⟨g_sz, g_sd, g_hn, g_kd, g_lv, g_tx, g_zs, g_ln, g_lf, g_lt, hf, g_lk, g_wy, g_wn, g_di, g_co⟩
theorem GM_lk {σ : SM} {f : (Nat → Nat)} (h : GM σ) (hf : ∀ j, f j ≤ 60) : GM (mu_lk σ f) := by
  obtain ⟨g_sz, g_sd, g_hn, g_kd, g_lv, g_tx, g_zs, g_ln, g_lf, g_lt, g_rn, g_lk, g_wy, g_wn, g_di, g_co⟩ := h
  exact ⟨g_sz, g_sd, g_hn, g_kd, g_lv, g_tx, g_zs, g_ln, g_lf, g_lt, g_rn, hf, g_wy, g_wn, g_di, g_co⟩
theorem GM_rd {σ : SM} {f : (Nat → Int64)} (h : GM σ) : GM (mu_rd σ f) := by
  obtain ⟨g_sz, g_sd, g_hn, g_kd, g_lv, g_tx, g_zs, g_ln, g_lf, g_lt, g_rn, g_lk, g_wy, g_wn, g_di, g_co⟩ := h
  exact ⟨g_sz, g_sd, g_hn, g_kd, g_lv, g_tx, g_zs, g_ln, g_lf, g_lt, g_rn, g_lk, g_wy, g_wn, g_di, g_co⟩
theorem GM_wy {σ : SM} {f : (Nat → Nat)} (h : GM σ) (hf : ∀ j, f j ≤ 60) : GM (mu_wy σ f) := by
  obtain ⟨g_sz, g_sd, g_hn, g_kd, g_lv, g_tx, g_zs, g_ln, g_lf, g_lt, g_rn, g_lk, g_wy, g_wn, g_di, g_co⟩ := h
  exact ⟨g_sz, g_sd, g_hn, g_kd, g_lv, g_tx, g_zs, g_ln, g_lf, g_lt, g_rn, g_lk, hf, g_wn, g_di, g_co⟩
theorem GM_wn {σ : SM} {f : Nat} (h : GM σ) (hf : f ≤ 61) : GM (mu_wn σ f) := by
  obtain ⟨g_sz, g_sd, g_hn, g_kd, g_lv, g_tx, g_zs, g_ln, g_lf, g_lt, g_rn, g_lk, g_wy, g_wn, g_di, g_co⟩ := h
  exact ⟨g_sz, g_sd, g_hn, g_kd, g_lv, g_tx, g_zs, g_ln, g_lf, g_lt, g_rn, g_lk, g_wy, hf, g_di, g_co⟩
theorem GM_di {σ : SM} {f : (Nat → Nat)} (h : GM σ) (hf : ∀ j, f j ≤ 100) : GM (mu_di σ f) := by
  obtain ⟨g_sz, g_sd, g_hn, g_kd, g_lv, g_tx, g_zs, g_ln, g_lf, g_lt, g_rn, g_lk, g_wy, g_wn, g_di, g_co⟩ := h
  exact ⟨g_sz, g_sd, g_hn, g_kd, g_lv, g_tx, g_zs, g_ln, g_lf, g_lt, g_rn, g_lk, g_wy, g_wn, hf, g_co⟩
theorem GM_co {σ : SM} {f : Nat} (h : GM σ) (hf : f ≤ 40) : GM (mu_co σ f) := by
  obtain ⟨g_sz, g_sd, g_hn, g_kd, g_lv, g_tx, g_zs, g_ln, g_lf, g_lt, g_rn, g_lk, g_wy, g_wn, g_di, g_co⟩ := h
  exact ⟨g_sz, g_sd, g_hn, g_kd, g_lv, g_tx, g_zs, g_ln, g_lf, g_lt, g_rn, g_lk, g_wy, g_wn, g_di, hf⟩
theorem sb_pos : ∀ q, q < 128 → sb_b q = nI q := by decide +kernel
theorem sb_neg : ∀ q, q < 256 → 128 ≤ q → sb_b q < 0 := by decide +kernel
theorem sb_nar : ∀ q, q < 256 → vp_nar .byte (sb_b q) = sb_b q := by decide +kernel
theorem nar_b : ∀ q, q < 128 → vp_nar .byte (nI q) = nI q := by decide +kernel
theorem neg_ltN {x : Int32} {k : Nat} (h : x < 0) (hk : k < 2 ^ 31) : x < nI k := Int32.lt_of_lt_of_le h (nI_pos' hk)
theorem lowB_b (x : Int32) : x.toInt8.toInt32 = sb_b (lowB x) := by
  have h1 : nI (lowB x) = x &&& 255 := (pk_and x 8 (by decide)).symm
  unfold sb_b
  rw [h1]
  apply Int32.toBitVec_inj.mp
  show (x.toBitVec.signExtend 8).signExtend 32 = ((x.toBitVec &&& 255#32).signExtend 8).signExtend 32
  congr 1
  apply BitVec.eq_of_getLsbD_eq
  intro i hi
  have hb : (255#32).getLsbD i = true := by
    have : ∀ i, i < 8 → (255#32).getLsbD i = true := by decide
    exact this i hi
  have hb8 : ∀ (i : Nat) (h : i < 8), (255#8)[i] = true := by decide
  simp [BitVec.getLsbD_signExtend, hi, hb, show i < 32 by omega]
  intro _
  exact hb8 i hi
theorem upd_sb (f : Nat → Nat) (k x : Nat) : upd (fun j => sb_b (f j)) k (sb_b x) = fun j => sb_b (updN f k x j) := by
  funext j
  by_cases h : j = k
  · subst h; simp [upd, updN]
  · simp [upd, updN, h]
section XM
variable {p : Program} {l : Launch} {e : Env} {R : Room} {s : State} {m : MethodId} {args : Array Value} {below : List Frame} {meth : Method} {c : Code} {H : Heap} {locs : List Loc} {cells slots : Nat} {Q : State → Prop}
variable {cc : ByteArray} {pc : Nat} {ls : Array Slot} {rest : List Value} {D : va_G} {cl : List vw_C} {A : Nat → Prop} {a : Nat} {tys : List (ClassId × FieldType)} {ws : va_W} {H0 : Heap}
theorem x_Rald (hx : p.tables.exec = Jvm.exec) (hb : c.code = cc) (hK : va_K D cl tys s) (hP : va_P D cl ws H) (q0 t0 : Nat) {cA : ClassId} {N n : Nat} {f : Nat → Nat} (ha : ws[q0]? = some (a, .inl (cA, N, .inl (fun j => sb_b (f j))))) (ht : tys[t0]? = some (cA, .byte)) (hdg : decode cc pc = .ok (.baload, 1)) (hn : n < N) (kk : W p l e R s m args below meth c H locs cells slots Q (F0 m (pc + 1) ls (.int (sb_b (f n)) :: rest))) (hN : N < 2 ^ 31 := by decide) : W p l e R s m args below meth c H locs cells slots Q (F0 m pc ls (.int (nI n) :: .ref a :: rest)) :=
  va_bald hx hb hK hP q0 t0 ha ht (vp_in_nI hn hN) hdg (by rw [nI_clamp (Nat.lt_trans hn hN)]; exact kk)
theorem x_Bald (hx : p.tables.exec = Jvm.exec) (hb : c.code = cc) (hK : va_K D cl tys s) (hP : va_P D cl ws H) (q0 t0 : Nat) {cA : ClassId} {N n : Nat} {f : Nat → Nat} (ha : ws[q0]? = some (a, .inl (cA, N, .inl (fun j => sb_b (f j))))) (ht : tys[t0]? = some (cA, .byte)) (hdg : decode cc pc = .ok (.baload, 1)) (hn : n < N) (hq : f n < 128) (kk : W p l e R s m args below meth c H locs cells slots Q (F0 m (pc + 1) ls (.int (nI (f n)) :: rest))) (hN : N < 2 ^ 31 := by decide) : W p l e R s m args below meth c H locs cells slots Q (F0 m pc ls (.int (nI n) :: .ref a :: rest)) :=
  va_bald hx hb hK hP q0 t0 ha ht (vp_in_nI hn hN) hdg (by rw [nI_clamp (Nat.lt_trans hn hN)]; rw [sb_pos _ hq]; exact kk)
theorem x_Bast (hx : p.tables.exec = Jvm.exec) (hb : c.code = cc) (hK : va_K D cl tys s) (hP : va_P D cl ws H) (hD : va_D A ws) (hS : va_S A H0 H locs) (q0 t0 : Nat) {cA : ClassId} {N n x : Nat} {f : Nat → Nat} (ha : ws[q0]? = some (a, .inl (cA, N, .inl (fun j => sb_b (f j))))) (ht : tys[t0]? = some (cA, .byte)) (hdg : decode cc pc = .ok (.bastore, 1)) (hn : n < N) (kk : ∀ (H1 : Heap) (locs1 : List Loc), va_P D cl (ws.set q0 (a, .inl (cA, N, .inl (fun j => sb_b (updN f n x j))))) H1 → va_D A (ws.set q0 (a, .inl (cA, N, .inl (fun j => sb_b (updN f n x j))))) → va_S A H0 H1 locs1 → W p l e R s m args below meth c H1 locs1 cells slots Q (F0 m (pc + 1) ls rest)) (hN : N < 2 ^ 31 := by decide) (hr : x < 256 := by omega) : W p l e R s m args below meth c H locs cells slots Q (F0 m pc ls (.int (sb_b x) :: .int (nI n) :: .ref a :: rest)) :=
  va_bast hx hb hK hP hD hS q0 t0 ha ht (vp_in_nI hn hN) hdg (fun H1 locs1 hP hD hS => by
    rw [nI_clamp (Nat.lt_trans hn hN), sb_nar _ hr, upd_sb] at hP hD
    exact kk H1 locs1 hP hD hS)
theorem x_bast (hx : p.tables.exec = Jvm.exec) (hb : c.code = cc) (hK : va_K D cl tys s) (hP : va_P D cl ws H) (hD : va_D A ws) (hS : va_S A H0 H locs) (q0 t0 : Nat) {cA : ClassId} {N n x : Nat} {f : Nat → Nat} (ha : ws[q0]? = some (a, .inl (cA, N, .inl (fun j => nI (f j))))) (ht : tys[t0]? = some (cA, .byte)) (hdg : decode cc pc = .ok (.bastore, 1)) (hn : n < N) (kk : ∀ (H1 : Heap) (locs1 : List Loc), va_P D cl (ws.set q0 (a, .inl (cA, N, .inl (fun j => nI (updN f n x j))))) H1 → va_D A (ws.set q0 (a, .inl (cA, N, .inl (fun j => nI (updN f n x j))))) → va_S A H0 H1 locs1 → W p l e R s m args below meth c H1 locs1 cells slots Q (F0 m (pc + 1) ls rest)) (hN : N < 2 ^ 31 := by decide) (hr : x < 128 := by omega) : W p l e R s m args below meth c H locs cells slots Q (F0 m pc ls (.int (nI x) :: .int (nI n) :: .ref a :: rest)) :=
  va_bast hx hb hK hP hD hS q0 t0 ha ht (vp_in_nI hn hN) hdg (fun H1 locs1 hP hD hS => by
    rw [nI_clamp (Nat.lt_trans hn hN), nar_b _ hr, upd_nI] at hP hD
    exact kk H1 locs1 hP hD hS)
end XM
set_option maxRecDepth 100000 in
set_option maxHeartbeats 4000000 in
theorem c_M_sign (l : Launch) (dC : Nat → ClassId) (dI : Nat → Nat → Nat) (a : Nat → Nat) (t : Nat → ClassId) (σ : SM) (sz : Nat) (hG : GM σ) (x : Int32) : Met l y_M_sign (wS y_M_sign b_M_sign 2 none) (rD 0) (va_Pc [.ref (a 0), .int x] (MB (dC, dI) (yM t) (wM a t σ) sz)) (va_Qv (fun u : SM => u = if m_sz σ < 40 then mu_sz (mu_sd σ (updN (m_sd σ) (m_sz σ) (lowB x))) (m_sz σ + 1) else σ) (fun u => ME (dC, dI) (yM t) (va_A (wM a t σ) sz) (wM a t u)) (va_A (wM a t σ) sz)) 0 0 (va_A (wM a t σ) sz) := by
  refine x_enter (by decide) (Nat.le_of_ble_eq_true rfl) ?_
  intro p e s m below meth c ls hx hb hr hml hT hown hlk hnm hl hB
  obtain ⟨rfl, hP, hK, hN, hD0⟩ := hB
  have hD := hD0.self (sz := s.heap.size)
  generalize hAe : va_A (wM a t σ) s.heap.size = A at hD ⊢
  have hA : ∀ q : Nat, s.heap.size ≤ q → A q := fun q h => by rw [← hAe]; exact Or.inr h
  have hS : va_S A s.heap s.heap [] := va_S.rf
  have hP : va_P (dC, dI) classes (wM a t σ) s.heap := hP
  have hl : lv_has ls 2 [(0, .ref (a 0)), (1, .int x)] := hl
  have hown : s.vm.findClass R_M = some m.cls := hown
  have hG2 := hG
  obtain ⟨g_sz, g_sd, g_hn, g_kd, g_lv, g_tx, g_zs, g_ln, g_lf, g_lt, g_rn, g_lk, g_wy, g_wn, g_di, g_co⟩ := hG
  have hlb := lowB_lt x
  refine lv_aload_n hx hb d_M_sign_0 rfl (lv_at hl 0 rfl) ?_
  refine lv_iconst (v := nI 0) hx hb d_M_sign_1 (by decide) ?_
  refine va_put (D := (dC, dI)) (v := .int (nI 0)) (ty := .int) (C := R_M) (T := F_M) (N := 20) hx hb hT i_M ft_M ft_M_ok n_M hown hK hP hD hS 0 rfl rfl 0 (by decide) (hT _ k_M_52) (fun _ h9 => h9) rfl (by decide +kernel) rfl rfl (Nat.le_of_ble_eq_true rfl) d_M_sign_2 (fun H locs hP hD hS => ?_)
  have hP : va_P (dC, dI) classes (wM a t σ) H := hP
  have hD : va_D A (wM a t σ) := hD
  refine lv_aload_n hx hb d_M_sign_5 rfl (lv_at hl 0 rfl) ?_
  refine va_get (D := (dC, dI)) (C := R_M) (T := F_M) (N := 20) hx hb hT i_M hown hK hP 0 rfl rfl 2 (by decide) (hT _ k_M_56) (fun _ h9 => h9) (v := .int (nI (m_sz σ))) rfl d_M_sign_6 ?_
  refine lv_bipush (v := nI 40) hx hb d_M_sign_9 (by decide) ?_
  refine x_icmp_ge (tgt := 35) hx hb d_M_sign_11 (by decide) (fun c11 => ?_) (fun c11 => ?_)
  · exact x_mv (wl := wM a t) σ hx hb hr hlk hK hP hD hS d_M_sign_35 (by rw [if_neg (by omega)])
  · refine lv_aload_n hx hb d_M_sign_14 rfl (lv_at hl 0 rfl) ?_
    refine va_get (D := (dC, dI)) (C := R_M) (T := F_M) (N := 20) hx hb hT i_M hown hK hP 0 rfl rfl 1 (by decide) (hT _ k_M_7) (fun _ h9 => h9) (v := .ref (a 1)) rfl d_M_sign_15 ?_
    refine lv_aload_n hx hb d_M_sign_18 rfl (lv_at hl 0 rfl) ?_
    refine va_get (D := (dC, dI)) (C := R_M) (T := F_M) (N := 20) hx hb hT i_M hown hK hP 0 rfl rfl 2 (by decide) (hT _ k_M_56) (fun _ h9 => h9) (v := .int (nI (m_sz σ))) rfl d_M_sign_19 ?_
    refine lv_iload_n hx hb d_M_sign_22 rfl (lv_at hl 1 rfl) ?_
    refine lv_i2b (v := (sb_b (lowB x))) hx hb d_M_sign_23 (lowB_b x) ?_
    refine x_Bast hx hb hK hP hD hS 1 0 (f := (m_sd σ)) rfl rfl d_M_sign_24 (by omega) (fun H locs hP hD hS => ?_)
    have hP : va_P (dC, dI) classes (wM a t (mu_sd σ (updN (m_sd σ) (m_sz σ) (lowB x)))) H := hP
    have hD : va_D A (wM a t (mu_sd σ (updN (m_sd σ) (m_sz σ) (lowB x)))) := hD
    refine lv_aload_n hx hb d_M_sign_25 rfl (lv_at hl 0 rfl) ?_
    refine lv_dup hx hb d_M_sign_26 rfl ?_
    refine va_get (D := (dC, dI)) (C := R_M) (T := F_M) (N := 20) hx hb hT i_M hown hK hP 0 rfl rfl 2 (by decide) (hT _ k_M_56) (fun _ h9 => h9) (v := .int (nI (m_sz σ))) rfl d_M_sign_27 ?_
    refine lv_iconst (v := nI 1) hx hb d_M_sign_30 (by decide) ?_
    refine x_iadd hx hb d_M_sign_31 ?_
    refine va_put (D := (dC, dI)) (v := .int (nI ((m_sz σ) + 1))) (ty := .int) (C := R_M) (T := F_M) (N := 20) hx hb hT i_M ft_M ft_M_ok n_M hown hK hP hD hS 0 rfl rfl 2 (by decide) (hT _ k_M_56) (fun _ h9 => h9) rfl (by decide +kernel) rfl rfl (Nat.le_of_ble_eq_true rfl) d_M_sign_32 (fun H locs hP hD hS => ?_)
    have hP : va_P (dC, dI) classes (wM a t (mu_sz (mu_sd σ (updN (m_sd σ) (m_sz σ) (lowB x))) ((m_sz σ) + 1))) H := hP
    have hD : va_D A (wM a t (mu_sz (mu_sd σ (updN (m_sd σ) (m_sz σ) (lowB x))) ((m_sz σ) + 1))) := hD
    exact x_mv (wl := wM a t) (mu_sz (mu_sd σ (updN (m_sd σ) (m_sz σ) (lowB x))) ((m_sz σ) + 1)) hx hb hr hlk hK hP hD hS d_M_sign_35 (by rw [if_pos (by omega)])

set_option maxRecDepth 100000 in
set_option maxHeartbeats 4000000 in
theorem c_M_small (l : Launch) (q : Nat) (hq : q < 65536) : Met l y_M_small (wS y_M_small b_M_small 1 (some .int)) (rD 0) (va_Pc [.int (nI q)] (fun U => NWs U)) (vp_Si (fun r => r = nI (smN q))) 0 0 (fun _ => False) := by
  refine x_enter (by decide) (Nat.le_of_ble_eq_true rfl) ?_
  intro p e s m below meth c ls hx hb hr hml hT hown hlk hnm hl hB
  have hN : NWs s := hB
  have hl : lv_has ls 1 [(0, .int (nI q))] := hl
  have hown : s.vm.findClass R_M = some m.cls := hown
  refine lv_iload_n hx hb d_M_small_0 rfl (lv_at hl 0 rfl) ?_
  refine lv_bipush (v := nI 65) hx hb d_M_small_1 (by decide) ?_
  refine x_icmp_lt (tgt := 19) hx hb d_M_small_3 (by decide) (fun c3 => ?_) (fun c3 => ?_)
  · refine lv_iload_n hx hb d_M_small_19 rfl (lv_at hl 0 rfl) ?_
    exact x_ri hx hb hr hlk d_M_small_20 (by unfold smN; congr 1; split <;> omega)
  · refine lv_iload_n hx hb d_M_small_6 rfl (lv_at hl 0 rfl) ?_
    refine lv_bipush (v := nI 90) hx hb d_M_small_7 (by decide) ?_
    refine x_icmp_gt (tgt := 19) hx hb d_M_small_9 (by decide) (fun c9 => ?_) (fun c9 => ?_)
    · refine lv_iload_n hx hb d_M_small_19 rfl (lv_at hl 0 rfl) ?_
      exact x_ri hx hb hr hlk d_M_small_20 (by unfold smN; congr 1; split <;> omega)
    · refine lv_iload_n hx hb d_M_small_12 rfl (lv_at hl 0 rfl) ?_
      refine lv_bipush (v := nI 32) hx hb d_M_small_13 (by decide) ?_
      refine x_iadd hx hb d_M_small_15 ?_
      refine lv_goto (tgt := 20) hx hb d_M_small_16 (by decide) ?_
      exact x_ri hx hb hr hlk d_M_small_20 (by unfold smN; congr 1; split <;> omega)

set_option maxRecDepth 100000 in
set_option maxHeartbeats 4000000 in
theorem c_M_takes (l : Launch) (dC : Nat → ClassId) (dI : Nat → Nat → Nat) (a : Nat → Nat) (t : Nat → ClassId) (σ : SM) (sz : Nat) (hG : GM σ) : Met l y_M_takes (wS y_M_takes b_M_takes 4 (some .boolean)) (rD 0) (va_Pc [.ref (a 0)] (MB (dC, dI) (yM t) (wM a t σ) sz)) (va_Qi (fun (r : Int32) (u : SM) => BR r (okT (m_sd σ) (m_sz σ)) ∧ u = mu_co (mu_sz σ 0) (m_sz σ)) (fun u => ME (dC, dI) (yM t) (va_A (wM a t σ) sz) (wM a t u)) (va_A (wM a t σ) sz)) 0 0 (va_A (wM a t σ) sz) := by
  refine x_enter (by decide) (Nat.le_of_ble_eq_true rfl) ?_
  intro p e s m below meth c ls hx hb hr hml hT hown hlk hnm hl hB
  obtain ⟨rfl, hP, hK, hN, hD0⟩ := hB
  have hD := hD0.self (sz := s.heap.size)
  generalize hAe : va_A (wM a t σ) s.heap.size = A at hD ⊢
  have hA : ∀ q : Nat, s.heap.size ≤ q → A q := fun q h => by rw [← hAe]; exact Or.inr h
  have hS : va_S A s.heap s.heap [] := va_S.rf
  have hP : va_P (dC, dI) classes (wM a t σ) s.heap := hP
  have hl : lv_has ls 4 [(0, .ref (a 0))] := hl
  have hown : s.vm.findClass R_M = some m.cls := hown
  have hG2 := hG
  obtain ⟨g_sz, g_sd, g_hn, g_kd, g_lv, g_tx, g_zs, g_ln, g_lf, g_lt, g_rn, g_lk, g_wy, g_wn, g_di, g_co⟩ := hG
  refine lv_aload_n hx hb d_M_takes_0 rfl (lv_at hl 0 rfl) ?_
  refine lv_aload_n hx hb d_M_takes_1 rfl (lv_at hl 0 rfl) ?_
  refine va_get (D := (dC, dI)) (C := R_M) (T := F_M) (N := 20) hx hb hT i_M hown hK hP 0 rfl rfl 2 (by decide) (hT _ k_M_56) (fun _ h9 => h9) (v := .int (nI (m_sz σ))) rfl d_M_takes_2 ?_
  refine va_put (D := (dC, dI)) (v := .int (nI (m_sz σ))) (ty := .int) (C := R_M) (T := F_M) (N := 20) hx hb hT i_M ft_M ft_M_ok n_M hown hK hP hD hS 0 rfl rfl 19 (by decide) (hT _ k_M_59) (fun _ h9 => h9) rfl (by decide +kernel) rfl rfl (Nat.le_of_ble_eq_true rfl) d_M_takes_5 (fun H locs hP hD hS => ?_)
  have hP : va_P (dC, dI) classes (wM a t (mu_co σ (m_sz σ))) H := hP
  have hD : va_D A (wM a t (mu_co σ (m_sz σ))) := hD
  refine lv_aload_n hx hb d_M_takes_8 rfl (lv_at hl 0 rfl) ?_
  refine lv_iconst (v := nI 0) hx hb d_M_takes_9 (by decide) ?_
  refine va_put (D := (dC, dI)) (v := .int (nI 0)) (ty := .int) (C := R_M) (T := F_M) (N := 20) hx hb hT i_M ft_M ft_M_ok n_M hown hK hP hD hS 0 rfl rfl 2 (by decide) (hT _ k_M_56) (fun _ h9 => h9) rfl (by decide +kernel) rfl rfl (Nat.le_of_ble_eq_true rfl) d_M_takes_10 (fun H locs hP hD hS => ?_)
  have hP : va_P (dC, dI) classes (wM a t (mu_co (mu_sz σ (0)) (m_sz σ))) H := hP
  have hD : va_D A (wM a t (mu_co (mu_sz σ (0)) (m_sz σ))) := hD
  have hloop37 : ∀ (n37 : Nat) (k : Nat) (y : Int32) (H : Heap) (locs : List Loc) (ls : Array Slot), k ≤ m_sz σ → ((y = nI 1 ∧ 1 ≤ m_sz σ ∧ m_sz σ ≤ 20 ∧ ∀ k', k' < k → isLD (m_sd σ k')) ∨ (y = nI 0 ∧ ¬ okT (m_sd σ) (m_sz σ))) → m_sz σ + 1 - k < n37 → va_P (dC, dI) classes (wM a t (mu_co (mu_sz σ (0)) (m_sz σ))) H → va_D A (wM a t (mu_co (mu_sz σ (0)) (m_sz σ))) → va_S A s.heap H locs → lv_has ls 4 [(0, .ref (a 0)), (1, .int y), (2, .int (nI k))] → W p l e (rD 0) s m ([.ref (a 0)] : List Value).toArray below meth c H locs 0 0 (MQ below (va_Qi (fun (r : Int32) (u : SM) => BR r (okT (m_sd σ) (m_sz σ)) ∧ u = mu_co (mu_sz σ 0) (m_sz σ)) (fun u => ME (dC, dI) (yM t) A (wM a t u)) A) ([.ref (a 0)] : List Value).toArray s 0 0 A) (F0 m 37 ls []) := by
    intro n37
    induction n37 with
    | zero => intro k y H locs ls _ _ h9; exact absurd h9 (Nat.not_lt_zero _)
    | succ n37 ih37 =>
      intro k y H locs ls hk hy hmu37 hP hD hS hl
      rcases hy with ⟨rfl, h1n, h2n, hall⟩ | ⟨rfl, hno⟩
      · refine lv_iload_n hx hb d_M_takes_37 rfl (lv_at hl 2 rfl) ?_
        refine lv_aload_n hx hb d_M_takes_38 rfl (lv_at hl 0 rfl) ?_
        refine va_get (D := (dC, dI)) (C := R_M) (T := F_M) (N := 20) hx hb hT i_M hown hK hP 0 rfl rfl 19 (by decide) (hT _ k_M_59) (fun _ h9 => h9) (v := .int (nI (m_sz σ))) rfl d_M_takes_39 ?_
        refine x_icmp_ge (tgt := 104) hx hb d_M_takes_42 (by decide) (fun c42 => ?_) (fun c42 => ?_)
        · refine lv_iload_n hx hb d_M_takes_104 rfl (lv_at hl 1 rfl) ?_
          exact x_mz (wl := wM a t) (mu_co (mu_sz σ (0)) (m_sz σ)) hx hb hr hlk hK hP hD hS d_M_takes_105 rfl ⟨Or.inl ⟨rfl, h1n, h2n, fun k' h9 => hall k' (by omega)⟩, rfl⟩
        · refine lv_aload_n hx hb d_M_takes_45 rfl (lv_at hl 0 rfl) ?_
          refine va_get (D := (dC, dI)) (C := R_M) (T := F_M) (N := 20) hx hb hT i_M hown hK hP 0 rfl rfl 1 (by decide) (hT _ k_M_7) (fun _ h9 => h9) (v := .ref (a 1)) rfl d_M_takes_46 ?_
          refine lv_iload_n hx hb d_M_takes_49 rfl (lv_at hl 2 rfl) ?_
          refine x_Rald hx hb hK hP 1 0 (f := (m_sd σ)) rfl rfl d_M_takes_50 (by omega) ?_
          have gk := g_sd k
          rcases Nat.lt_or_ge (m_sd σ k) 128 with h128 | h128
          · rw [sb_pos _ h128]
            refine lv_istore_n (lv' := [(3, .int (nI (m_sd σ k))), (0, .ref (a 0)), (1, .int (nI 1)), (2, .int (nI k))]) hx hb d_M_takes_51 rfl hl (by decide) rfl (fun ls hl => ?_)
            refine lv_iload_n hx hb d_M_takes_52 rfl (lv_at hl 2 rfl) ?_
            refine x_if_eq (tgt := 96) hx hb d_M_takes_53 (by decide) (fun h => absurd h (by decide)) (fun _ => ?_)
            refine lv_iload_n hx hb d_M_takes_56 rfl (lv_at hl 0 rfl) ?_
            refine lv_bipush (v := nI 48) hx hb d_M_takes_57 (by decide) ?_
            refine x_icmp_lt (tgt := 68) hx hb d_M_takes_59 (by decide) (fun c59 => ?_) (fun c59 => ?_)
            · refine lv_iload_n hx hb d_M_takes_68 rfl (lv_at hl 0 rfl) ?_
              refine lv_bipush (v := nI 65) hx hb d_M_takes_69 (by decide) ?_
              refine x_icmp_lt (tgt := 80) hx hb d_M_takes_71 (by decide) (fun c71 => ?_) (fun c71 => ?_)
              · refine lv_iload_n hx hb d_M_takes_80 rfl (lv_at hl 0 rfl) ?_
                refine lv_bipush (v := nI 97) hx hb d_M_takes_81 (by decide) ?_
                refine x_icmp_lt (tgt := 96) hx hb d_M_takes_83 (by decide) (fun c83 => ?_) (fun c83 => ?_)
                · refine lv_iconst (v := nI 0) hx hb d_M_takes_96 (by decide) ?_
                  refine lv_istore_n (lv' := [(1, .int (nI 0)), (3, .int (nI (m_sd σ k))), (0, .ref (a 0)), (2, .int (nI k))]) hx hb d_M_takes_97 rfl hl (by decide) rfl (fun ls hl => ?_)
                  refine x_iinc (lv' := [(2, .int (nI (k + 1))), (1, .int (nI 0)), (3, .int (nI (m_sd σ k))), (0, .ref (a 0))]) hx hb d_M_takes_98 hl (k := 3) rfl (by decide) rfl (fun ls hl => ?_)
                  refine lv_goto (tgt := 37) hx hb d_M_takes_101 (by decide) ?_
                  exact ih37 (k + 1) _ H locs ls (by omega) (Or.inr ⟨rfl, by first | exact hno | (intro h9; have h8 := h9.2.2 k (by omega); unfold isLD at h8; omega)⟩) (by omega) hP hD hS (lv_sub hl [3, 1, 0] rfl)
                · refine lv_iload_n hx hb d_M_takes_86 rfl (lv_at hl 0 rfl) ?_
                  refine lv_bipush (v := nI 122) hx hb d_M_takes_87 (by decide) ?_
                  refine x_icmp_gt (tgt := 96) hx hb d_M_takes_89 (by decide) (fun c89 => ?_) (fun c89 => ?_)
                  · refine lv_iconst (v := nI 0) hx hb d_M_takes_96 (by decide) ?_
                    refine lv_istore_n (lv' := [(1, .int (nI 0)), (3, .int (nI (m_sd σ k))), (0, .ref (a 0)), (2, .int (nI k))]) hx hb d_M_takes_97 rfl hl (by decide) rfl (fun ls hl => ?_)
                    refine x_iinc (lv' := [(2, .int (nI (k + 1))), (1, .int (nI 0)), (3, .int (nI (m_sd σ k))), (0, .ref (a 0))]) hx hb d_M_takes_98 hl (k := 3) rfl (by decide) rfl (fun ls hl => ?_)
                    refine lv_goto (tgt := 37) hx hb d_M_takes_101 (by decide) ?_
                    exact ih37 (k + 1) _ H locs ls (by omega) (Or.inr ⟨rfl, by first | exact hno | (intro h9; have h8 := h9.2.2 k (by omega); unfold isLD at h8; omega)⟩) (by omega) hP hD hS (lv_sub hl [3, 1, 0] rfl)
                  · refine lv_iconst (v := nI 1) hx hb d_M_takes_92 (by decide) ?_
                    refine lv_goto (tgt := 97) hx hb d_M_takes_93 (by decide) ?_
                    refine lv_istore_n (lv' := [(1, .int (nI 1)), (3, .int (nI (m_sd σ k))), (0, .ref (a 0)), (2, .int (nI k))]) hx hb d_M_takes_97 rfl hl (by decide) rfl (fun ls hl => ?_)
                    refine x_iinc (lv' := [(2, .int (nI (k + 1))), (1, .int (nI 1)), (3, .int (nI (m_sd σ k))), (0, .ref (a 0))]) hx hb d_M_takes_98 hl (k := 3) rfl (by decide) rfl (fun ls hl => ?_)
                    refine lv_goto (tgt := 37) hx hb d_M_takes_101 (by decide) ?_
                    exact ih37 (k + 1) _ H locs ls (by omega) (Or.inl ⟨rfl, h1n, h2n, fun k' h9 => by rcases Nat.lt_succ_iff_lt_or_eq.mp h9 with h8 | h8; exact hall k' h8; rw [h8]; unfold isLD; omega⟩) (by omega) hP hD hS (lv_sub hl [3, 1, 0] rfl)
              · refine lv_iload_n hx hb d_M_takes_74 rfl (lv_at hl 0 rfl) ?_
                refine lv_bipush (v := nI 90) hx hb d_M_takes_75 (by decide) ?_
                refine x_icmp_le (tgt := 92) hx hb d_M_takes_77 (by decide) (fun c77 => ?_) (fun c77 => ?_)
                · refine lv_iconst (v := nI 1) hx hb d_M_takes_92 (by decide) ?_
                  refine lv_goto (tgt := 97) hx hb d_M_takes_93 (by decide) ?_
                  refine lv_istore_n (lv' := [(1, .int (nI 1)), (3, .int (nI (m_sd σ k))), (0, .ref (a 0)), (2, .int (nI k))]) hx hb d_M_takes_97 rfl hl (by decide) rfl (fun ls hl => ?_)
                  refine x_iinc (lv' := [(2, .int (nI (k + 1))), (1, .int (nI 1)), (3, .int (nI (m_sd σ k))), (0, .ref (a 0))]) hx hb d_M_takes_98 hl (k := 3) rfl (by decide) rfl (fun ls hl => ?_)
                  refine lv_goto (tgt := 37) hx hb d_M_takes_101 (by decide) ?_
                  exact ih37 (k + 1) _ H locs ls (by omega) (Or.inl ⟨rfl, h1n, h2n, fun k' h9 => by rcases Nat.lt_succ_iff_lt_or_eq.mp h9 with h8 | h8; exact hall k' h8; rw [h8]; unfold isLD; omega⟩) (by omega) hP hD hS (lv_sub hl [3, 1, 0] rfl)
                · refine lv_iload_n hx hb d_M_takes_80 rfl (lv_at hl 0 rfl) ?_
                  refine lv_bipush (v := nI 97) hx hb d_M_takes_81 (by decide) ?_
                  refine x_icmp_lt (tgt := 96) hx hb d_M_takes_83 (by decide) (fun c83 => ?_) (fun c83 => ?_)
                  · refine lv_iconst (v := nI 0) hx hb d_M_takes_96 (by decide) ?_
                    refine lv_istore_n (lv' := [(1, .int (nI 0)), (3, .int (nI (m_sd σ k))), (0, .ref (a 0)), (2, .int (nI k))]) hx hb d_M_takes_97 rfl hl (by decide) rfl (fun ls hl => ?_)
                    refine x_iinc (lv' := [(2, .int (nI (k + 1))), (1, .int (nI 0)), (3, .int (nI (m_sd σ k))), (0, .ref (a 0))]) hx hb d_M_takes_98 hl (k := 3) rfl (by decide) rfl (fun ls hl => ?_)
                    refine lv_goto (tgt := 37) hx hb d_M_takes_101 (by decide) ?_
                    exact ih37 (k + 1) _ H locs ls (by omega) (Or.inr ⟨rfl, by first | exact hno | (intro h9; have h8 := h9.2.2 k (by omega); unfold isLD at h8; omega)⟩) (by omega) hP hD hS (lv_sub hl [3, 1, 0] rfl)
                  · refine lv_iload_n hx hb d_M_takes_86 rfl (lv_at hl 0 rfl) ?_
                    refine lv_bipush (v := nI 122) hx hb d_M_takes_87 (by decide) ?_
                    refine x_icmp_gt (tgt := 96) hx hb d_M_takes_89 (by decide) (fun c89 => ?_) (fun c89 => ?_)
                    · refine lv_iconst (v := nI 0) hx hb d_M_takes_96 (by decide) ?_
                      refine lv_istore_n (lv' := [(1, .int (nI 0)), (3, .int (nI (m_sd σ k))), (0, .ref (a 0)), (2, .int (nI k))]) hx hb d_M_takes_97 rfl hl (by decide) rfl (fun ls hl => ?_)
                      refine x_iinc (lv' := [(2, .int (nI (k + 1))), (1, .int (nI 0)), (3, .int (nI (m_sd σ k))), (0, .ref (a 0))]) hx hb d_M_takes_98 hl (k := 3) rfl (by decide) rfl (fun ls hl => ?_)
                      refine lv_goto (tgt := 37) hx hb d_M_takes_101 (by decide) ?_
                      exact ih37 (k + 1) _ H locs ls (by omega) (Or.inr ⟨rfl, by first | exact hno | (intro h9; have h8 := h9.2.2 k (by omega); unfold isLD at h8; omega)⟩) (by omega) hP hD hS (lv_sub hl [3, 1, 0] rfl)
                    · refine lv_iconst (v := nI 1) hx hb d_M_takes_92 (by decide) ?_
                      refine lv_goto (tgt := 97) hx hb d_M_takes_93 (by decide) ?_
                      refine lv_istore_n (lv' := [(1, .int (nI 1)), (3, .int (nI (m_sd σ k))), (0, .ref (a 0)), (2, .int (nI k))]) hx hb d_M_takes_97 rfl hl (by decide) rfl (fun ls hl => ?_)
                      refine x_iinc (lv' := [(2, .int (nI (k + 1))), (1, .int (nI 1)), (3, .int (nI (m_sd σ k))), (0, .ref (a 0))]) hx hb d_M_takes_98 hl (k := 3) rfl (by decide) rfl (fun ls hl => ?_)
                      refine lv_goto (tgt := 37) hx hb d_M_takes_101 (by decide) ?_
                      exact ih37 (k + 1) _ H locs ls (by omega) (Or.inl ⟨rfl, h1n, h2n, fun k' h9 => by rcases Nat.lt_succ_iff_lt_or_eq.mp h9 with h8 | h8; exact hall k' h8; rw [h8]; unfold isLD; omega⟩) (by omega) hP hD hS (lv_sub hl [3, 1, 0] rfl)
            · refine lv_iload_n hx hb d_M_takes_62 rfl (lv_at hl 0 rfl) ?_
              refine lv_bipush (v := nI 57) hx hb d_M_takes_63 (by decide) ?_
              refine x_icmp_le (tgt := 92) hx hb d_M_takes_65 (by decide) (fun c65 => ?_) (fun c65 => ?_)
              · refine lv_iconst (v := nI 1) hx hb d_M_takes_92 (by decide) ?_
                refine lv_goto (tgt := 97) hx hb d_M_takes_93 (by decide) ?_
                refine lv_istore_n (lv' := [(1, .int (nI 1)), (3, .int (nI (m_sd σ k))), (0, .ref (a 0)), (2, .int (nI k))]) hx hb d_M_takes_97 rfl hl (by decide) rfl (fun ls hl => ?_)
                refine x_iinc (lv' := [(2, .int (nI (k + 1))), (1, .int (nI 1)), (3, .int (nI (m_sd σ k))), (0, .ref (a 0))]) hx hb d_M_takes_98 hl (k := 3) rfl (by decide) rfl (fun ls hl => ?_)
                refine lv_goto (tgt := 37) hx hb d_M_takes_101 (by decide) ?_
                exact ih37 (k + 1) _ H locs ls (by omega) (Or.inl ⟨rfl, h1n, h2n, fun k' h9 => by rcases Nat.lt_succ_iff_lt_or_eq.mp h9 with h8 | h8; exact hall k' h8; rw [h8]; unfold isLD; omega⟩) (by omega) hP hD hS (lv_sub hl [3, 1, 0] rfl)
              · refine lv_iload_n hx hb d_M_takes_68 rfl (lv_at hl 0 rfl) ?_
                refine lv_bipush (v := nI 65) hx hb d_M_takes_69 (by decide) ?_
                refine x_icmp_lt (tgt := 80) hx hb d_M_takes_71 (by decide) (fun c71 => ?_) (fun c71 => ?_)
                · refine lv_iload_n hx hb d_M_takes_80 rfl (lv_at hl 0 rfl) ?_
                  refine lv_bipush (v := nI 97) hx hb d_M_takes_81 (by decide) ?_
                  refine x_icmp_lt (tgt := 96) hx hb d_M_takes_83 (by decide) (fun c83 => ?_) (fun c83 => ?_)
                  · refine lv_iconst (v := nI 0) hx hb d_M_takes_96 (by decide) ?_
                    refine lv_istore_n (lv' := [(1, .int (nI 0)), (3, .int (nI (m_sd σ k))), (0, .ref (a 0)), (2, .int (nI k))]) hx hb d_M_takes_97 rfl hl (by decide) rfl (fun ls hl => ?_)
                    refine x_iinc (lv' := [(2, .int (nI (k + 1))), (1, .int (nI 0)), (3, .int (nI (m_sd σ k))), (0, .ref (a 0))]) hx hb d_M_takes_98 hl (k := 3) rfl (by decide) rfl (fun ls hl => ?_)
                    refine lv_goto (tgt := 37) hx hb d_M_takes_101 (by decide) ?_
                    exact ih37 (k + 1) _ H locs ls (by omega) (Or.inr ⟨rfl, by first | exact hno | (intro h9; have h8 := h9.2.2 k (by omega); unfold isLD at h8; omega)⟩) (by omega) hP hD hS (lv_sub hl [3, 1, 0] rfl)
                  · refine lv_iload_n hx hb d_M_takes_86 rfl (lv_at hl 0 rfl) ?_
                    refine lv_bipush (v := nI 122) hx hb d_M_takes_87 (by decide) ?_
                    refine x_icmp_gt (tgt := 96) hx hb d_M_takes_89 (by decide) (fun c89 => ?_) (fun c89 => ?_)
                    · refine lv_iconst (v := nI 0) hx hb d_M_takes_96 (by decide) ?_
                      refine lv_istore_n (lv' := [(1, .int (nI 0)), (3, .int (nI (m_sd σ k))), (0, .ref (a 0)), (2, .int (nI k))]) hx hb d_M_takes_97 rfl hl (by decide) rfl (fun ls hl => ?_)
                      refine x_iinc (lv' := [(2, .int (nI (k + 1))), (1, .int (nI 0)), (3, .int (nI (m_sd σ k))), (0, .ref (a 0))]) hx hb d_M_takes_98 hl (k := 3) rfl (by decide) rfl (fun ls hl => ?_)
                      refine lv_goto (tgt := 37) hx hb d_M_takes_101 (by decide) ?_
                      exact ih37 (k + 1) _ H locs ls (by omega) (Or.inr ⟨rfl, by first | exact hno | (intro h9; have h8 := h9.2.2 k (by omega); unfold isLD at h8; omega)⟩) (by omega) hP hD hS (lv_sub hl [3, 1, 0] rfl)
                    · refine lv_iconst (v := nI 1) hx hb d_M_takes_92 (by decide) ?_
                      refine lv_goto (tgt := 97) hx hb d_M_takes_93 (by decide) ?_
                      refine lv_istore_n (lv' := [(1, .int (nI 1)), (3, .int (nI (m_sd σ k))), (0, .ref (a 0)), (2, .int (nI k))]) hx hb d_M_takes_97 rfl hl (by decide) rfl (fun ls hl => ?_)
                      refine x_iinc (lv' := [(2, .int (nI (k + 1))), (1, .int (nI 1)), (3, .int (nI (m_sd σ k))), (0, .ref (a 0))]) hx hb d_M_takes_98 hl (k := 3) rfl (by decide) rfl (fun ls hl => ?_)
                      refine lv_goto (tgt := 37) hx hb d_M_takes_101 (by decide) ?_
                      exact ih37 (k + 1) _ H locs ls (by omega) (Or.inl ⟨rfl, h1n, h2n, fun k' h9 => by rcases Nat.lt_succ_iff_lt_or_eq.mp h9 with h8 | h8; exact hall k' h8; rw [h8]; unfold isLD; omega⟩) (by omega) hP hD hS (lv_sub hl [3, 1, 0] rfl)
                · refine lv_iload_n hx hb d_M_takes_74 rfl (lv_at hl 0 rfl) ?_
                  refine lv_bipush (v := nI 90) hx hb d_M_takes_75 (by decide) ?_
                  refine x_icmp_le (tgt := 92) hx hb d_M_takes_77 (by decide) (fun c77 => ?_) (fun c77 => ?_)
                  · refine lv_iconst (v := nI 1) hx hb d_M_takes_92 (by decide) ?_
                    refine lv_goto (tgt := 97) hx hb d_M_takes_93 (by decide) ?_
                    refine lv_istore_n (lv' := [(1, .int (nI 1)), (3, .int (nI (m_sd σ k))), (0, .ref (a 0)), (2, .int (nI k))]) hx hb d_M_takes_97 rfl hl (by decide) rfl (fun ls hl => ?_)
                    refine x_iinc (lv' := [(2, .int (nI (k + 1))), (1, .int (nI 1)), (3, .int (nI (m_sd σ k))), (0, .ref (a 0))]) hx hb d_M_takes_98 hl (k := 3) rfl (by decide) rfl (fun ls hl => ?_)
                    refine lv_goto (tgt := 37) hx hb d_M_takes_101 (by decide) ?_
                    exact ih37 (k + 1) _ H locs ls (by omega) (Or.inl ⟨rfl, h1n, h2n, fun k' h9 => by rcases Nat.lt_succ_iff_lt_or_eq.mp h9 with h8 | h8; exact hall k' h8; rw [h8]; unfold isLD; omega⟩) (by omega) hP hD hS (lv_sub hl [3, 1, 0] rfl)
                  · refine lv_iload_n hx hb d_M_takes_80 rfl (lv_at hl 0 rfl) ?_
                    refine lv_bipush (v := nI 97) hx hb d_M_takes_81 (by decide) ?_
                    refine x_icmp_lt (tgt := 96) hx hb d_M_takes_83 (by decide) (fun c83 => ?_) (fun c83 => ?_)
                    · refine lv_iconst (v := nI 0) hx hb d_M_takes_96 (by decide) ?_
                      refine lv_istore_n (lv' := [(1, .int (nI 0)), (3, .int (nI (m_sd σ k))), (0, .ref (a 0)), (2, .int (nI k))]) hx hb d_M_takes_97 rfl hl (by decide) rfl (fun ls hl => ?_)
                      refine x_iinc (lv' := [(2, .int (nI (k + 1))), (1, .int (nI 0)), (3, .int (nI (m_sd σ k))), (0, .ref (a 0))]) hx hb d_M_takes_98 hl (k := 3) rfl (by decide) rfl (fun ls hl => ?_)
                      refine lv_goto (tgt := 37) hx hb d_M_takes_101 (by decide) ?_
                      exact ih37 (k + 1) _ H locs ls (by omega) (Or.inr ⟨rfl, by first | exact hno | (intro h9; have h8 := h9.2.2 k (by omega); unfold isLD at h8; omega)⟩) (by omega) hP hD hS (lv_sub hl [3, 1, 0] rfl)
                    · refine lv_iload_n hx hb d_M_takes_86 rfl (lv_at hl 0 rfl) ?_
                      refine lv_bipush (v := nI 122) hx hb d_M_takes_87 (by decide) ?_
                      refine x_icmp_gt (tgt := 96) hx hb d_M_takes_89 (by decide) (fun c89 => ?_) (fun c89 => ?_)
                      · refine lv_iconst (v := nI 0) hx hb d_M_takes_96 (by decide) ?_
                        refine lv_istore_n (lv' := [(1, .int (nI 0)), (3, .int (nI (m_sd σ k))), (0, .ref (a 0)), (2, .int (nI k))]) hx hb d_M_takes_97 rfl hl (by decide) rfl (fun ls hl => ?_)
                        refine x_iinc (lv' := [(2, .int (nI (k + 1))), (1, .int (nI 0)), (3, .int (nI (m_sd σ k))), (0, .ref (a 0))]) hx hb d_M_takes_98 hl (k := 3) rfl (by decide) rfl (fun ls hl => ?_)
                        refine lv_goto (tgt := 37) hx hb d_M_takes_101 (by decide) ?_
                        exact ih37 (k + 1) _ H locs ls (by omega) (Or.inr ⟨rfl, by first | exact hno | (intro h9; have h8 := h9.2.2 k (by omega); unfold isLD at h8; omega)⟩) (by omega) hP hD hS (lv_sub hl [3, 1, 0] rfl)
                      · refine lv_iconst (v := nI 1) hx hb d_M_takes_92 (by decide) ?_
                        refine lv_goto (tgt := 97) hx hb d_M_takes_93 (by decide) ?_
                        refine lv_istore_n (lv' := [(1, .int (nI 1)), (3, .int (nI (m_sd σ k))), (0, .ref (a 0)), (2, .int (nI k))]) hx hb d_M_takes_97 rfl hl (by decide) rfl (fun ls hl => ?_)
                        refine x_iinc (lv' := [(2, .int (nI (k + 1))), (1, .int (nI 1)), (3, .int (nI (m_sd σ k))), (0, .ref (a 0))]) hx hb d_M_takes_98 hl (k := 3) rfl (by decide) rfl (fun ls hl => ?_)
                        refine lv_goto (tgt := 37) hx hb d_M_takes_101 (by decide) ?_
                        exact ih37 (k + 1) _ H locs ls (by omega) (Or.inl ⟨rfl, h1n, h2n, fun k' h9 => by rcases Nat.lt_succ_iff_lt_or_eq.mp h9 with h8 | h8; exact hall k' h8; rw [h8]; unfold isLD; omega⟩) (by omega) hP hD hS (lv_sub hl [3, 1, 0] rfl)
          · have hneg := sb_neg _ gk h128
            refine lv_istore_n (lv' := [(3, .int (sb_b ((m_sd σ) k))), (0, .ref (a 0)), (1, .int (nI 1)), (2, .int (nI k))]) hx hb d_M_takes_51 rfl hl (by decide) rfl (fun ls hl => ?_)
            refine lv_iload_n hx hb d_M_takes_52 rfl (lv_at hl 2 rfl) ?_
            refine x_if_eq (tgt := 96) hx hb d_M_takes_53 (by decide) (fun h => absurd h (by decide)) (fun _ => ?_)
            refine lv_iload_n hx hb d_M_takes_56 rfl (lv_at hl 0 rfl) ?_
            refine lv_bipush (v := nI 48) hx hb d_M_takes_57 (by decide) ?_
            refine lv_icmp_lt (tgt := 68) hx hb d_M_takes_59 (by decide) (fun _ => ?_) (fun h9 => absurd (neg_ltN hneg (by decide)) h9)
            refine lv_iload_n hx hb d_M_takes_68 rfl (lv_at hl 0 rfl) ?_
            refine lv_bipush (v := nI 65) hx hb d_M_takes_69 (by decide) ?_
            refine lv_icmp_lt (tgt := 80) hx hb d_M_takes_71 (by decide) (fun _ => ?_) (fun h9 => absurd (neg_ltN hneg (by decide)) h9)
            refine lv_iload_n hx hb d_M_takes_80 rfl (lv_at hl 0 rfl) ?_
            refine lv_bipush (v := nI 97) hx hb d_M_takes_81 (by decide) ?_
            refine lv_icmp_lt (tgt := 96) hx hb d_M_takes_83 (by decide) (fun _ => ?_) (fun h9 => absurd (neg_ltN hneg (by decide)) h9)
            refine lv_iconst (v := nI 0) hx hb d_M_takes_96 (by decide) ?_
            refine lv_istore_n (lv' := [(1, .int (nI 0)), (3, .int (sb_b ((m_sd σ) k))), (0, .ref (a 0)), (2, .int (nI k))]) hx hb d_M_takes_97 rfl hl (by decide) rfl (fun ls hl => ?_)
            refine x_iinc (lv' := [(2, .int (nI (k + 1))), (1, .int (nI 0)), (3, .int (sb_b ((m_sd σ) k))), (0, .ref (a 0))]) hx hb d_M_takes_98 hl (k := 3) rfl (by decide) rfl (fun ls hl => ?_)
            refine lv_goto (tgt := 37) hx hb d_M_takes_101 (by decide) ?_
            exact ih37 (k + 1) _ H locs ls (by omega) (Or.inr ⟨rfl, by first | exact hno | (intro h9; have h8 := h9.2.2 k (by omega); unfold isLD at h8; omega)⟩) (by omega) hP hD hS (lv_sub hl [3, 1, 0] rfl)
      · refine lv_iload_n hx hb d_M_takes_37 rfl (lv_at hl 2 rfl) ?_
        refine lv_aload_n hx hb d_M_takes_38 rfl (lv_at hl 0 rfl) ?_
        refine va_get (D := (dC, dI)) (C := R_M) (T := F_M) (N := 20) hx hb hT i_M hown hK hP 0 rfl rfl 19 (by decide) (hT _ k_M_59) (fun _ h9 => h9) (v := .int (nI (m_sz σ))) rfl d_M_takes_39 ?_
        refine x_icmp_ge (tgt := 104) hx hb d_M_takes_42 (by decide) (fun c42 => ?_) (fun c42 => ?_)
        · refine lv_iload_n hx hb d_M_takes_104 rfl (lv_at hl 1 rfl) ?_
          exact x_mz (wl := wM a t) (mu_co (mu_sz σ (0)) (m_sz σ)) hx hb hr hlk hK hP hD hS d_M_takes_105 rfl ⟨Or.inr ⟨rfl, hno⟩, rfl⟩
        · refine lv_aload_n hx hb d_M_takes_45 rfl (lv_at hl 0 rfl) ?_
          refine va_get (D := (dC, dI)) (C := R_M) (T := F_M) (N := 20) hx hb hT i_M hown hK hP 0 rfl rfl 1 (by decide) (hT _ k_M_7) (fun _ h9 => h9) (v := .ref (a 1)) rfl d_M_takes_46 ?_
          refine lv_iload_n hx hb d_M_takes_49 rfl (lv_at hl 2 rfl) ?_
          refine x_Rald hx hb hK hP 1 0 (f := (m_sd σ)) rfl rfl d_M_takes_50 (by omega) ?_
          have gk := g_sd k
          rcases Nat.lt_or_ge (m_sd σ k) 128 with h128 | h128
          · rw [sb_pos _ h128]
            refine lv_istore_n (lv' := [(3, .int (nI (m_sd σ k))), (0, .ref (a 0)), (1, .int (nI 0)), (2, .int (nI k))]) hx hb d_M_takes_51 rfl hl (by decide) rfl (fun ls hl => ?_)
            refine lv_iload_n hx hb d_M_takes_52 rfl (lv_at hl 2 rfl) ?_
            refine x_if_eq (tgt := 96) hx hb d_M_takes_53 (by decide) (fun _ => ?_) (fun h => absurd h (by decide))
            refine lv_iconst (v := nI 0) hx hb d_M_takes_96 (by decide) ?_
            refine lv_istore_n (lv' := [(1, .int (nI 0)), (3, .int (nI (m_sd σ k))), (0, .ref (a 0)), (2, .int (nI k))]) hx hb d_M_takes_97 rfl hl (by decide) rfl (fun ls hl => ?_)
            refine x_iinc (lv' := [(2, .int (nI (k + 1))), (1, .int (nI 0)), (3, .int (nI (m_sd σ k))), (0, .ref (a 0))]) hx hb d_M_takes_98 hl (k := 3) rfl (by decide) rfl (fun ls hl => ?_)
            refine lv_goto (tgt := 37) hx hb d_M_takes_101 (by decide) ?_
            exact ih37 (k + 1) _ H locs ls (by omega) (Or.inr ⟨rfl, by first | exact hno | (intro h9; have h8 := h9.2.2 k (by omega); unfold isLD at h8; omega)⟩) (by omega) hP hD hS (lv_sub hl [3, 1, 0] rfl)
          · have hneg := sb_neg _ gk h128
            refine lv_istore_n (lv' := [(3, .int (sb_b ((m_sd σ) k))), (0, .ref (a 0)), (1, .int (nI 0)), (2, .int (nI k))]) hx hb d_M_takes_51 rfl hl (by decide) rfl (fun ls hl => ?_)
            refine lv_iload_n hx hb d_M_takes_52 rfl (lv_at hl 2 rfl) ?_
            refine x_if_eq (tgt := 96) hx hb d_M_takes_53 (by decide) (fun _ => ?_) (fun h => absurd h (by decide))
            refine lv_iconst (v := nI 0) hx hb d_M_takes_96 (by decide) ?_
            refine lv_istore_n (lv' := [(1, .int (nI 0)), (3, .int (sb_b ((m_sd σ) k))), (0, .ref (a 0)), (2, .int (nI k))]) hx hb d_M_takes_97 rfl hl (by decide) rfl (fun ls hl => ?_)
            refine x_iinc (lv' := [(2, .int (nI (k + 1))), (1, .int (nI 0)), (3, .int (sb_b ((m_sd σ) k))), (0, .ref (a 0))]) hx hb d_M_takes_98 hl (k := 3) rfl (by decide) rfl (fun ls hl => ?_)
            refine lv_goto (tgt := 37) hx hb d_M_takes_101 (by decide) ?_
            exact ih37 (k + 1) _ H locs ls (by omega) (Or.inr ⟨rfl, by first | exact hno | (intro h9; have h8 := h9.2.2 k (by omega); unfold isLD at h8; omega)⟩) (by omega) hP hD hS (lv_sub hl [3, 1, 0] rfl)
  refine lv_aload_n hx hb d_M_takes_13 rfl (lv_at hl 0 rfl) ?_
  refine va_get (D := (dC, dI)) (C := R_M) (T := F_M) (N := 20) hx hb hT i_M hown hK hP 0 rfl rfl 19 (by decide) (hT _ k_M_59) (fun _ h9 => h9) (v := .int (nI (m_sz σ))) rfl d_M_takes_14 ?_
  refine x_if_le (tgt := 33) hx hb d_M_takes_17 (by decide) (fun c17 => ?_) (fun c17 => ?_)
  · refine lv_iconst (v := nI 0) hx hb d_M_takes_33 (by decide) ?_
    refine lv_istore_n (lv' := [(1, .int (nI 0)), (0, .ref (a 0))]) hx hb d_M_takes_34 rfl hl (by decide) rfl (fun ls hl => ?_)
    refine lv_iconst (v := nI 0) hx hb d_M_takes_35 (by decide) ?_
    refine lv_istore_n (lv' := [(2, .int (nI 0)), (1, .int (nI 0)), (0, .ref (a 0))]) hx hb d_M_takes_36 rfl hl (by decide) rfl (fun ls hl => ?_)
    exact hloop37 _ 0 _ _ _ ls (by omega) (by first | exact Or.inl ⟨rfl, by omega, by omega, fun k' h9 => absurd h9 (Nat.not_lt_zero _)⟩ | exact Or.inr ⟨rfl, fun h9 => by have h8 := h9.1; have h7 := h9.2.1; omega⟩) (Nat.lt_succ_self _) hP hD hS (lv_sub hl [2, 1, 0] rfl)
  · refine lv_aload_n hx hb d_M_takes_20 rfl (lv_at hl 0 rfl) ?_
    refine va_get (D := (dC, dI)) (C := R_M) (T := F_M) (N := 20) hx hb hT i_M hown hK hP 0 rfl rfl 19 (by decide) (hT _ k_M_59) (fun _ h9 => h9) (v := .int (nI (m_sz σ))) rfl d_M_takes_21 ?_
    refine lv_bipush (v := nI 21) hx hb d_M_takes_24 (by decide) ?_
    refine x_icmp_ge (tgt := 33) hx hb d_M_takes_26 (by decide) (fun c26 => ?_) (fun c26 => ?_)
    · refine lv_iconst (v := nI 0) hx hb d_M_takes_33 (by decide) ?_
      refine lv_istore_n (lv' := [(1, .int (nI 0)), (0, .ref (a 0))]) hx hb d_M_takes_34 rfl hl (by decide) rfl (fun ls hl => ?_)
      refine lv_iconst (v := nI 0) hx hb d_M_takes_35 (by decide) ?_
      refine lv_istore_n (lv' := [(2, .int (nI 0)), (1, .int (nI 0)), (0, .ref (a 0))]) hx hb d_M_takes_36 rfl hl (by decide) rfl (fun ls hl => ?_)
      exact hloop37 _ 0 _ _ _ ls (by omega) (by first | exact Or.inl ⟨rfl, by omega, by omega, fun k' h9 => absurd h9 (Nat.not_lt_zero _)⟩ | exact Or.inr ⟨rfl, fun h9 => by have h8 := h9.1; have h7 := h9.2.1; omega⟩) (Nat.lt_succ_self _) hP hD hS (lv_sub hl [2, 1, 0] rfl)
    · refine lv_iconst (v := nI 1) hx hb d_M_takes_29 (by decide) ?_
      refine lv_goto (tgt := 34) hx hb d_M_takes_30 (by decide) ?_
      refine lv_istore_n (lv' := [(1, .int (nI 1)), (0, .ref (a 0))]) hx hb d_M_takes_34 rfl hl (by decide) rfl (fun ls hl => ?_)
      refine lv_iconst (v := nI 0) hx hb d_M_takes_35 (by decide) ?_
      refine lv_istore_n (lv' := [(2, .int (nI 0)), (1, .int (nI 1)), (0, .ref (a 0))]) hx hb d_M_takes_36 rfl hl (by decide) rfl (fun ls hl => ?_)
      exact hloop37 _ 0 _ _ _ ls (by omega) (by first | exact Or.inl ⟨rfl, by omega, by omega, fun k' h9 => absurd h9 (Nat.not_lt_zero _)⟩ | exact Or.inr ⟨rfl, fun h9 => by have h8 := h9.1; have h7 := h9.2.1; omega⟩) (Nat.lt_succ_self _) hP hD hS (lv_sub hl [2, 1, 0] rfl)

def m_same (σ : SM) (h : Nat) : Prop := sameT (fun i => m_tx σ (20 * h + i)) (m_zs σ h) (m_sd σ) (m_co σ)
set_option maxRecDepth 100000 in
set_option maxHeartbeats 4000000 in
theorem c_M_hasText (l : Launch) (dC : Nat → ClassId) (dI : Nat → Nat → Nat) (a : Nat → Nat) (t : Nat → ClassId) (σ : SM) (hG : GM σ) (j : Nat) (hj1 : 1 ≤ j) (hj2 : j ≤ 60) (hc : m_co σ ≤ 20) (hq : ∀ k, k < m_co σ → m_sd σ k < 128) : Met l y_M_hasText (wS y_M_hasText b_M_hasText 4 (some .boolean)) (rD 1) (va_Pc [.ref (a 0), .int (nI j)] (RB (dC, dI) (yM t) (wM a t σ))) (vp_Si (fun r => BR r (m_same σ j))) 0 0 (fun _ => False) := by
  refine x_enter (by decide) (Nat.le_of_ble_eq_true rfl) ?_
  intro p e s m below meth c ls hx hb hr hml hT hown hlk hnm hl hB
  obtain ⟨hP, hK, hN⟩ := hB
  have hl : lv_has ls 4 [(0, .ref (a 0)), (1, .int (nI j))] := hl
  have hown : s.vm.findClass R_M = some m.cls := hown
  have hG2 := hG
  obtain ⟨g_sz, g_sd, g_hn, g_kd, g_lv, g_tx, g_zs, g_ln, g_lf, g_lt, g_rn, g_lk, g_wy, g_wn, g_di, g_co⟩ := hG
  have gj := g_zs j
  have hloop21 : ∀ (n21 : Nat) (k : Nat) (y : Int32) (ls : Array Slot), k ≤ m_co σ → ((y = nI 1 ∧ m_zs σ j = m_co σ ∧ ∀ k', k' < k → smN (m_tx σ (20 * j + k')) = smN (m_sd σ k')) ∨ (y = nI 0 ∧ ¬ m_same σ j)) → m_co σ + 1 - k < n21 → lv_has ls 4 [(0, .ref (a 0)), (1, .int (nI j)), (2, .int y), (3, .int (nI k))] → W p l e (rD 1) s m ([.ref (a 0), .int (nI j)] : List Value).toArray below meth c s.heap [] 0 0 (MQ below (vp_Si (fun r => BR r (m_same σ j))) ([.ref (a 0), .int (nI j)] : List Value).toArray s 0 0 (fun _ => False)) (F0 m 21 ls []) := by
    intro n21
    induction n21 with
    | zero => intro k y ls _ _ h9; exact absurd h9 (Nat.not_lt_zero _)
    | succ n21 ih21 =>
      intro k y ls hk hy hmu21 hl
      rcases hy with ⟨rfl, hz, hall⟩ | ⟨rfl, hno⟩
      · refine lv_iload_n hx hb d_M_hasText_21 rfl (lv_at hl 3 rfl) ?_
        refine lv_aload_n hx hb d_M_hasText_22 rfl (lv_at hl 0 rfl) ?_
        refine va_get (D := (dC, dI)) (C := R_M) (T := F_M) (N := 20) hx hb hT i_M hown hK hP 0 rfl rfl 19 (by decide) (hT _ k_M_59) (fun _ h9 => h9) (v := .int (nI (m_co σ))) rfl d_M_hasText_23 ?_
        refine x_icmp_ge (tgt := 71) hx hb d_M_hasText_26 (by decide) (fun c26 => ?_) (fun c26 => ?_)
        · refine lv_iload_n hx hb d_M_hasText_71 rfl (lv_at hl 2 rfl) ?_
          exact x_rz hx hb hr hlk d_M_hasText_72 rfl (Or.inl ⟨rfl, hz, fun k' h9 => hall k' (by omega)⟩)
        · refine lv_iload_n hx hb d_M_hasText_29 rfl (lv_at hl 2 rfl) ?_
          refine x_if_eq (tgt := 71) hx hb d_M_hasText_30 (by decide) (fun h => absurd h (by decide)) (fun _ => ?_)
          refine lv_aload_n hx hb d_M_hasText_33 rfl (lv_at hl 0 rfl) ?_
          refine va_get (D := (dC, dI)) (C := R_M) (T := F_M) (N := 20) hx hb hT i_M hown hK hP 0 rfl rfl 6 (by decide) (hT _ k_M_21) (fun _ h9 => h9) (v := .ref (a 4)) rfl d_M_hasText_34 ?_
          refine lv_bipush (v := nI 20) hx hb d_M_hasText_37 (by decide) ?_
          refine lv_iload_n hx hb d_M_hasText_39 rfl (lv_at hl 1 rfl) ?_
          refine x_imul hx hb d_M_hasText_40 ?_
          refine lv_iload_n hx hb d_M_hasText_41 rfl (lv_at hl 3 rfl) ?_
          refine x_iadd hx hb d_M_hasText_42 ?_
          refine x_bald hx hb hK hP 4 3 (f := (m_tx σ)) rfl rfl d_M_hasText_43 (by omega) ?_
          refine x_ci (x_runS ⟨hx, hb, hml, hown, hT⟩ (c_M_small l (m_tx σ (20 * j + k)) (by have := g_tx (20 * j + k); omega)) f_M_small k_M_62 blT (x_bT hN) hl.1 d_M_hasText_44 rfl (lv_room (Nat.le_of_ble_eq_true rfl)) ⟨Nat.le_of_ble_eq_true rfl, Nat.le_of_ble_eq_true rfl⟩ ⟨rfl, rfl⟩ ⟨Nat.le_refl 0, Nat.le_refl 0⟩ rfl) (fun r44 q44 => ?_)
          subst q44
          refine lv_aload_n hx hb d_M_hasText_47 rfl (lv_at hl 0 rfl) ?_
          refine va_get (D := (dC, dI)) (C := R_M) (T := F_M) (N := 20) hx hb hT i_M hown hK hP 0 rfl rfl 1 (by decide) (hT _ k_M_7) (fun _ h9 => h9) (v := .ref (a 1)) rfl d_M_hasText_48 ?_
          refine lv_iload_n hx hb d_M_hasText_51 rfl (lv_at hl 3 rfl) ?_
          refine x_Bald hx hb hK hP 1 0 (f := (m_sd σ)) rfl rfl d_M_hasText_52 (by omega) (hq k (by omega)) ?_
          refine x_ci (x_runS ⟨hx, hb, hml, hown, hT⟩ (c_M_small l (m_sd σ k) (by have := g_sd k; omega)) f_M_small k_M_62 blT (x_bT hN) hl.1 d_M_hasText_53 rfl (lv_room (Nat.le_of_ble_eq_true rfl)) ⟨Nat.le_of_ble_eq_true rfl, Nat.le_of_ble_eq_true rfl⟩ ⟨rfl, rfl⟩ ⟨Nat.le_refl 0, Nat.le_refl 0⟩ rfl) (fun r53 q53 => ?_)
          subst q53
          have e1 := smN_lt (q := m_tx σ (20 * j + k)) (by have := g_tx (20 * j + k); omega)
          have e2 := smN_lt (g_sd k)
          refine x_icmp_ne (tgt := 63) hx hb d_M_hasText_56 (by decide) (fun c56 => ?_) (fun c56 => ?_)
          · refine lv_iconst (v := nI 0) hx hb d_M_hasText_63 (by decide) ?_
            refine lv_istore_n (lv' := [(2, .int (nI 0)), (0, .ref (a 0)), (1, .int (nI j)), (3, .int (nI k))]) hx hb d_M_hasText_64 rfl hl (by decide) rfl (fun ls hl => ?_)
            refine x_iinc (lv' := [(3, .int (nI (k + 1))), (2, .int (nI 0)), (0, .ref (a 0)), (1, .int (nI j))]) hx hb d_M_hasText_65 hl (k := 3) rfl (by decide) rfl (fun ls hl => ?_)
            refine lv_goto (tgt := 21) hx hb d_M_hasText_68 (by decide) ?_
            exact ih21 (k + 1) _ ls (by omega) (Or.inr ⟨rfl, fun h9 => c56 (h9.2 k (by omega))⟩) (by omega) (lv_sub hl [2, 3, 1, 0] rfl)
          · refine lv_iconst (v := nI 1) hx hb d_M_hasText_59 (by decide) ?_
            refine lv_goto (tgt := 64) hx hb d_M_hasText_60 (by decide) ?_
            refine lv_istore_n (lv' := [(2, .int (nI 1)), (0, .ref (a 0)), (1, .int (nI j)), (3, .int (nI k))]) hx hb d_M_hasText_64 rfl hl (by decide) rfl (fun ls hl => ?_)
            refine x_iinc (lv' := [(3, .int (nI (k + 1))), (2, .int (nI 1)), (0, .ref (a 0)), (1, .int (nI j))]) hx hb d_M_hasText_65 hl (k := 3) rfl (by decide) rfl (fun ls hl => ?_)
            refine lv_goto (tgt := 21) hx hb d_M_hasText_68 (by decide) ?_
            exact ih21 (k + 1) _ ls (by omega) (Or.inl ⟨rfl, hz, fun k' h9 => by rcases Nat.lt_succ_iff_lt_or_eq.mp h9 with h8 | h8; exact hall k' h8; rw [h8]; exact c56⟩) (by omega) (lv_sub hl [2, 3, 1, 0] rfl)
      · refine lv_iload_n hx hb d_M_hasText_21 rfl (lv_at hl 3 rfl) ?_
        refine lv_aload_n hx hb d_M_hasText_22 rfl (lv_at hl 0 rfl) ?_
        refine va_get (D := (dC, dI)) (C := R_M) (T := F_M) (N := 20) hx hb hT i_M hown hK hP 0 rfl rfl 19 (by decide) (hT _ k_M_59) (fun _ h9 => h9) (v := .int (nI (m_co σ))) rfl d_M_hasText_23 ?_
        refine x_icmp_ge (tgt := 71) hx hb d_M_hasText_26 (by decide) (fun c26 => ?_) (fun c26 => ?_)
        · refine lv_iload_n hx hb d_M_hasText_71 rfl (lv_at hl 2 rfl) ?_
          exact x_rz hx hb hr hlk d_M_hasText_72 rfl (Or.inr ⟨rfl, hno⟩)
        · refine lv_iload_n hx hb d_M_hasText_29 rfl (lv_at hl 2 rfl) ?_
          refine x_if_eq (tgt := 71) hx hb d_M_hasText_30 (by decide) (fun _ => ?_) (fun h => absurd h (by decide))
          refine lv_iload_n hx hb d_M_hasText_71 rfl (lv_at hl 2 rfl) ?_
          exact x_rz hx hb hr hlk d_M_hasText_72 rfl (Or.inr ⟨rfl, hno⟩)
  refine lv_aload_n hx hb d_M_hasText_0 rfl (lv_at hl 0 rfl) ?_
  refine va_get (D := (dC, dI)) (C := R_M) (T := F_M) (N := 20) hx hb hT i_M hown hK hP 0 rfl rfl 7 (by decide) (hT _ k_M_24) (fun _ h9 => h9) (v := .ref (a 5)) rfl d_M_hasText_1 ?_
  refine lv_iload_n hx hb d_M_hasText_4 rfl (lv_at hl 1 rfl) ?_
  refine x_iald hx hb hK hP 5 4 (f := (m_zs σ)) rfl rfl d_M_hasText_5 (by omega) ?_
  refine lv_aload_n hx hb d_M_hasText_6 rfl (lv_at hl 0 rfl) ?_
  refine va_get (D := (dC, dI)) (C := R_M) (T := F_M) (N := 20) hx hb hT i_M hown hK hP 0 rfl rfl 19 (by decide) (hT _ k_M_59) (fun _ h9 => h9) (v := .int (nI (m_co σ))) rfl d_M_hasText_7 ?_
  refine x_icmp_ne (tgt := 17) hx hb d_M_hasText_10 (by decide) (fun c10 => ?_) (fun c10 => ?_)
  · refine lv_iconst (v := nI 0) hx hb d_M_hasText_17 (by decide) ?_
    refine lv_istore_n (lv' := [(2, .int (nI 0)), (0, .ref (a 0)), (1, .int (nI j))]) hx hb d_M_hasText_18 rfl hl (by decide) rfl (fun ls hl => ?_)
    refine lv_iconst (v := nI 0) hx hb d_M_hasText_19 (by decide) ?_
    refine lv_istore_n (lv' := [(3, .int (nI 0)), (2, .int (nI 0)), (0, .ref (a 0)), (1, .int (nI j))]) hx hb d_M_hasText_20 rfl hl (by decide) rfl (fun ls hl => ?_)
    exact hloop21 _ 0 _ ls (by omega) (by first | exact Or.inl ⟨rfl, by omega, fun k' h9 => absurd h9 (Nat.not_lt_zero _)⟩ | exact Or.inr ⟨rfl, fun h9 => c10 h9.1⟩) (Nat.lt_succ_self _) (lv_sub hl [2, 3, 1, 0] rfl)
  · refine lv_iconst (v := nI 1) hx hb d_M_hasText_13 (by decide) ?_
    refine lv_goto (tgt := 18) hx hb d_M_hasText_14 (by decide) ?_
    refine lv_istore_n (lv' := [(2, .int (nI 1)), (0, .ref (a 0)), (1, .int (nI j))]) hx hb d_M_hasText_18 rfl hl (by decide) rfl (fun ls hl => ?_)
    refine lv_iconst (v := nI 0) hx hb d_M_hasText_19 (by decide) ?_
    refine lv_istore_n (lv' := [(3, .int (nI 0)), (2, .int (nI 1)), (0, .ref (a 0)), (1, .int (nI j))]) hx hb d_M_hasText_20 rfl hl (by decide) rfl (fun ls hl => ?_)
    exact hloop21 _ 0 _ ls (by omega) (by first | exact Or.inl ⟨rfl, by omega, fun k' h9 => absurd h9 (Nat.not_lt_zero _)⟩ | exact Or.inr ⟨rfl, fun h9 => c10 h9.1⟩) (Nat.lt_succ_self _) (lv_sub hl [2, 3, 1, 0] rfl)
end
section
set_option maxRecDepth 100000 in
set_option maxHeartbeats 4000000 in
theorem c_M_lay (l : Launch) (dC : Nat → ClassId) (dI : Nat → Nat → Nat) (a : Nat → Nat) (t : Nat → ClassId) (σ : SM) (sz : Nat) (hG : GM σ) (j : Nat) (hj2 : j ≤ 60) (hc : m_co σ ≤ 20) (hq : ∀ k, k < m_co σ → m_sd σ k < 128) : Met l y_M_lay (wS y_M_lay b_M_lay 3 none) (rD 0) (va_Pc [.ref (a 0), .int (nI j)] (MB (dC, dI) (yM t) (wM a t σ) sz)) (va_Qv (fun u : SM => u = mu_zs (mu_tx σ (cpT (m_tx σ) (20 * j) (m_sd σ) (m_co σ))) (updN (m_zs σ) j (m_co σ))) (fun u => ME (dC, dI) (yM t) (va_A (wM a t σ) sz) (wM a t u)) (va_A (wM a t σ) sz)) 0 0 (va_A (wM a t σ) sz) := by
  refine x_enter (by decide) (Nat.le_of_ble_eq_true rfl) ?_
  intro p e s m below meth c ls hx hb hr hml hT hown hlk hnm hl hB
  obtain ⟨rfl, hP, hK, hN, hD0⟩ := hB
  have hD := hD0.self (sz := s.heap.size)
  generalize hAe : va_A (wM a t σ) s.heap.size = A at hD ⊢
  have hA : ∀ q : Nat, s.heap.size ≤ q → A q := fun q h => by rw [← hAe]; exact Or.inr h
  have hS : va_S A s.heap s.heap [] := va_S.rf
  have hP : va_P (dC, dI) classes (wM a t σ) s.heap := hP
  have hl : lv_has ls 3 [(0, .ref (a 0)), (1, .int (nI j))] := hl
  have hown : s.vm.findClass R_M = some m.cls := hown
  have hG2 := hG
  obtain ⟨g_sz, g_sd, g_hn, g_kd, g_lv, g_tx, g_zs, g_ln, g_lf, g_lt, g_rn, g_lk, g_wy, g_wn, g_di, g_co⟩ := hG
  refine lv_aload_n hx hb d_M_lay_0 rfl (lv_at hl 0 rfl) ?_
  refine va_get (D := (dC, dI)) (C := R_M) (T := F_M) (N := 20) hx hb hT i_M hown hK hP 0 rfl rfl 7 (by decide) (hT _ k_M_24) (fun _ h9 => h9) (v := .ref (a 5)) rfl d_M_lay_1 ?_
  refine lv_iload_n hx hb d_M_lay_4 rfl (lv_at hl 1 rfl) ?_
  refine lv_aload_n hx hb d_M_lay_5 rfl (lv_at hl 0 rfl) ?_
  refine va_get (D := (dC, dI)) (C := R_M) (T := F_M) (N := 20) hx hb hT i_M hown hK hP 0 rfl rfl 19 (by decide) (hT _ k_M_59) (fun _ h9 => h9) (v := .int (nI (m_co σ))) rfl d_M_lay_6 ?_
  refine x_iast hx hb hK hP hD hS 5 4 (f := (m_zs σ)) rfl rfl d_M_lay_9 (by omega) (fun H locs hP hD hS => ?_)
  have hP : va_P (dC, dI) classes (wM a t (mu_zs σ (updN (m_zs σ) (j) (m_co σ)))) H := hP
  have hD : va_D A (wM a t (mu_zs σ (updN (m_zs σ) (j) (m_co σ)))) := hD
  have e0 : wM a t (mu_zs σ (updN (m_zs σ) j (m_co σ))) = wM a t (mu_zs (mu_tx σ (cpT (m_tx σ) (20 * j) (m_sd σ) 0)) (updN (m_zs σ) j (m_co σ))) := by rw [cpT_0]; rfl
  rw [e0] at hP hD
  refine lv_iconst (v := nI 0) hx hb d_M_lay_10 (by decide) ?_
  refine lv_istore_n (lv' := [(2, .int (nI 0)), (0, .ref (a 0)), (1, .int (nI j))]) hx hb d_M_lay_11 rfl hl (by decide) rfl (fun ls hl => ?_)
  have hloop12 : ∀ (n12 : Nat) (k : Nat) (H : Heap) (locs : List Loc) (ls : Array Slot), k ≤ m_co σ → m_co σ + 1 - k < n12 → va_P (dC, dI) classes (wM a t (mu_zs (mu_tx σ (cpT (m_tx σ) (20 * j) (m_sd σ) k)) (updN (m_zs σ) j (m_co σ)))) H → va_D A (wM a t (mu_zs (mu_tx σ (cpT (m_tx σ) (20 * j) (m_sd σ) k)) (updN (m_zs σ) j (m_co σ)))) → va_S A s.heap H locs → lv_has ls 3 [(0, .ref (a 0)), (1, .int (nI j)), (2, .int (nI k))] → W p l e (rD 0) s m ([.ref (a 0), .int (nI j)] : List Value).toArray below meth c H locs 0 0 (MQ below (va_Qv (fun u : SM => u = mu_zs (mu_tx σ (cpT (m_tx σ) (20 * j) (m_sd σ) (m_co σ))) (updN (m_zs σ) j (m_co σ))) (fun u => ME (dC, dI) (yM t) A (wM a t u)) A) ([.ref (a 0), .int (nI j)] : List Value).toArray s 0 0 A) (F0 m 12 ls []) := by
    intro n12
    induction n12 with
    | zero => intro k H locs ls _ h9; exact absurd h9 (Nat.not_lt_zero _)
    | succ n12 ih12 =>
      intro k H locs ls hk hmu12 hP hD hS hl
      refine lv_iload_n hx hb d_M_lay_12 rfl (lv_at hl 2 rfl) ?_
      refine lv_aload_n hx hb d_M_lay_13 rfl (lv_at hl 0 rfl) ?_
      refine va_get (D := (dC, dI)) (C := R_M) (T := F_M) (N := 20) hx hb hT i_M hown hK hP 0 rfl rfl 19 (by decide) (hT _ k_M_59) (fun _ h9 => h9) (v := .int (nI (m_co σ))) rfl d_M_lay_14 ?_
      refine x_icmp_ge (tgt := 43) hx hb d_M_lay_17 (by decide) (fun c17 => ?_) (fun c17 => ?_)
      · exact x_mv (wl := wM a t) (mu_zs (mu_tx σ (cpT (m_tx σ) (20 * j) (m_sd σ) k)) (updN (m_zs σ) j (m_co σ))) hx hb hr hlk hK hP hD hS d_M_lay_43 (by rw [show k = m_co σ by omega])
      · refine lv_aload_n hx hb d_M_lay_20 rfl (lv_at hl 0 rfl) ?_
        refine va_get (D := (dC, dI)) (C := R_M) (T := F_M) (N := 20) hx hb hT i_M hown hK hP 0 rfl rfl 6 (by decide) (hT _ k_M_21) (fun _ h9 => h9) (v := .ref (a 4)) rfl d_M_lay_21 ?_
        refine lv_bipush (v := nI 20) hx hb d_M_lay_24 (by decide) ?_
        refine lv_iload_n hx hb d_M_lay_26 rfl (lv_at hl 1 rfl) ?_
        refine x_imul hx hb d_M_lay_27 ?_
        refine lv_iload_n hx hb d_M_lay_28 rfl (lv_at hl 2 rfl) ?_
        refine x_iadd hx hb d_M_lay_29 ?_
        refine lv_aload_n hx hb d_M_lay_30 rfl (lv_at hl 0 rfl) ?_
        refine va_get (D := (dC, dI)) (C := R_M) (T := F_M) (N := 20) hx hb hT i_M hown hK hP 0 rfl rfl 1 (by decide) (hT _ k_M_7) (fun _ h9 => h9) (v := .ref (a 1)) rfl d_M_lay_31 ?_
        refine lv_iload_n hx hb d_M_lay_34 rfl (lv_at hl 2 rfl) ?_
        refine x_Bald hx hb hK hP 1 0 (f := (m_sd σ)) rfl rfl d_M_lay_35 (by omega) (hq k (by omega)) ?_
        have h128 := hq k (by omega)
        refine x_bast hx hb hK hP hD hS 4 3 (f := (cpT (m_tx σ) (20 * j) (m_sd σ) k)) rfl rfl d_M_lay_36 (by omega) (fun H locs hP hD hS => ?_)
        have hP : va_P (dC, dI) classes (wM a t (mu_zs (mu_tx σ (updN (cpT (m_tx σ) (20 * j) (m_sd σ) k) ((20 * j) + k) ((m_sd σ) k))) (updN (m_zs σ) j (m_co σ)))) H := hP
        have hD : va_D A (wM a t (mu_zs (mu_tx σ (updN (cpT (m_tx σ) (20 * j) (m_sd σ) k) ((20 * j) + k) ((m_sd σ) k))) (updN (m_zs σ) j (m_co σ)))) := hD
        rw [show updN (cpT (m_tx σ) (20 * j) (m_sd σ) k) (20 * j + k) (m_sd σ k) = cpT (m_tx σ) (20 * j) (m_sd σ) (k + 1) from cpT_s _ _ _ _] at hP hD
        refine x_iinc (lv' := [(2, .int (nI (k + 1))), (0, .ref (a 0)), (1, .int (nI j))]) hx hb d_M_lay_37 hl (k := 2) rfl (by decide) rfl (fun ls hl => ?_)
        refine lv_goto (tgt := 12) hx hb d_M_lay_40 (by decide) ?_
        exact ih12 (k + 1) H locs ls (by omega) (by omega) hP hD hS (lv_sub hl [1, 2, 0] rfl)
  exact hloop12 _ 0 _ _ ls (by omega) (Nat.lt_succ_self _) hP hD hS (lv_sub hl [1, 2, 0] rfl)

set_option maxRecDepth 100000 in
set_option maxHeartbeats 4000000 in
theorem c_M_firstK (l : Launch) (dC : Nat → ClassId) (dI : Nat → Nat → Nat) (a : Nat → Nat) (t : Nat → ClassId) (σ : SM) (hG : GM σ) (kk : Nat) (hkk : kk < 4) (ex : Nat) (hex : ex ≤ 60) (hc : m_co σ ≤ 20) (hq : ∀ k, k < m_co σ → m_sd σ k < 128) : Met l y_M_first (wS y_M_first b_M_first 4 (some .int)) (rD 2) (va_Pc [.ref (a 0), .int (nI kk), .int (nI ex)] (RB (dC, dI) (yM t) (wM a t σ))) (vp_Si (fun r => FST (fun h => h ≠ ex ∧ m_lv σ h = 1 ∧ m_kd σ h = kk ∧ m_same σ h) (m_hn σ) r)) 0 0 (fun _ => False) := by
  refine x_enter (by decide) (Nat.le_of_ble_eq_true rfl) ?_
  intro p e s m below meth c ls hx hb hr hml hT hown hlk hnm hl hB
  obtain ⟨hP, hK, hN⟩ := hB
  have hl : lv_has ls 4 [(0, .ref (a 0)), (1, .int (nI kk)), (2, .int (nI ex))] := hl
  have hown : s.vm.findClass R_M = some m.cls := hown
  have hG2 := hG
  obtain ⟨g_sz, g_sd, g_hn, g_kd, g_lv, g_tx, g_zs, g_ln, g_lf, g_lt, g_rn, g_lk, g_wy, g_wn, g_di, g_co⟩ := hG
  refine lv_iconst (v := nI 1) hx hb d_M_first_0 (by decide) ?_
  refine lv_istore_n (lv' := [(3, .int (nI 1)), (0, .ref (a 0)), (1, .int (nI kk)), (2, .int (nI ex))]) hx hb d_M_first_1 rfl hl (by decide) rfl (fun ls hl => ?_)
  have hloop2 : ∀ (n2 : Nat) (h : Nat) (ls : Array Slot), 1 ≤ h → h ≤ m_hn σ + 1 → (∀ i, 1 ≤ i → i < h → ¬ (fun h => h ≠ ex ∧ m_lv σ h = 1 ∧ m_kd σ h = kk ∧ m_same σ h) i) → m_hn σ + 1 - h < n2 → lv_has ls 4 [(0, .ref (a 0)), (1, .int (nI kk)), (2, .int (nI ex)), (3, .int (nI h))] → W p l e (rD 2) s m ([.ref (a 0), .int (nI kk), .int (nI ex)] : List Value).toArray below meth c s.heap [] 0 0 (MQ below (vp_Si (fun r => FST (fun h => h ≠ ex ∧ m_lv σ h = 1 ∧ m_kd σ h = kk ∧ m_same σ h) (m_hn σ) r)) ([.ref (a 0), .int (nI kk), .int (nI ex)] : List Value).toArray s 0 0 (fun _ => False)) (F0 m 2 ls []) := by
    intro n2
    induction n2 with
    | zero => intro h ls _ _ _ h9; exact absurd h9 (Nat.not_lt_zero _)
    | succ n2 ih2 =>
      intro h ls h1 h2 hinv hmu2 hl
      refine lv_iload_n hx hb d_M_first_2 rfl (lv_at hl 3 rfl) ?_
      refine lv_aload_n hx hb d_M_first_3 rfl (lv_at hl 0 rfl) ?_
      refine va_get (D := (dC, dI)) (C := R_M) (T := F_M) (N := 20) hx hb hT i_M hown hK hP 0 rfl rfl 3 (by decide) (hT _ k_M_66) (fun _ h9 => h9) (v := .int (nI (m_hn σ))) rfl d_M_first_4 ?_
      refine x_icmp_gt (tgt := 55) hx hb d_M_first_7 (by decide) (fun c7 => ?_) (fun c7 => ?_)
      · refine lv_iconst (v := nI 0) hx hb d_M_first_55 (by decide) ?_
        exact x_ri hx hb hr hlk d_M_first_56 (Or.inr ⟨fun i h3 h4 => hinv i h3 (by omega), rfl⟩)
      · refine lv_aload_n hx hb d_M_first_10 rfl (lv_at hl 0 rfl) ?_
        refine va_get (D := (dC, dI)) (C := R_M) (T := F_M) (N := 20) hx hb hT i_M hown hK hP 0 rfl rfl 5 (by decide) (hT _ k_M_17) (fun _ h9 => h9) (v := .ref (a 3)) rfl d_M_first_11 ?_
        refine lv_iload_n hx hb d_M_first_14 rfl (lv_at hl 3 rfl) ?_
        refine x_zald hx hb hK hP 3 2 (f := (m_lv σ)) rfl rfl d_M_first_15 (by omega) ?_
        have g1 := g_lv h
        refine x_if_eq (tgt := 49) hx hb d_M_first_16 (by decide) (fun c16 => ?_) (fun c16 => ?_)
        · refine x_iinc (lv' := [(3, .int (nI (h + 1))), (0, .ref (a 0)), (1, .int (nI kk)), (2, .int (nI ex))]) hx hb d_M_first_49 hl (k := 3) rfl (by decide) rfl (fun ls hl => ?_)
          refine lv_goto (tgt := 2) hx hb d_M_first_52 (by decide) ?_
          exact ih2 (h + 1) ls (by omega) (by omega) (notT_s hinv (fun h9 => by first | exact hqq h9.2.2.2 | omega)) (by omega) (lv_sub hl [1, 2, 3, 0] rfl)
        · refine lv_iload_n hx hb d_M_first_19 rfl (lv_at hl 3 rfl) ?_
          refine lv_iload_n hx hb d_M_first_20 rfl (lv_at hl 2 rfl) ?_
          refine x_icmp_eq (tgt := 49) hx hb d_M_first_21 (by decide) (fun c21 => ?_) (fun c21 => ?_)
          · refine x_iinc (lv' := [(3, .int (nI (h + 1))), (0, .ref (a 0)), (1, .int (nI kk)), (2, .int (nI ex))]) hx hb d_M_first_49 hl (k := 3) rfl (by decide) rfl (fun ls hl => ?_)
            refine lv_goto (tgt := 2) hx hb d_M_first_52 (by decide) ?_
            exact ih2 (h + 1) ls (by omega) (by omega) (notT_s hinv (fun h9 => by first | exact hqq h9.2.2.2 | omega)) (by omega) (lv_sub hl [1, 2, 3, 0] rfl)
          · refine lv_iload_n hx hb d_M_first_24 rfl (lv_at hl 1 rfl) ?_
            refine lv_iconst (v := -1) hx hb d_M_first_25 (by decide) ?_
            refine lv_icmp_eq (tgt := 39) hx hb d_M_first_26 (by decide) (fun h9 => absurd h9 (nI_m1 (by omega))) (fun _ => ?_)
            refine lv_aload_n hx hb d_M_first_29 rfl (lv_at hl 0 rfl) ?_
            refine va_get (D := (dC, dI)) (C := R_M) (T := F_M) (N := 20) hx hb hT i_M hown hK hP 0 rfl rfl 4 (by decide) (hT _ k_M_13) (fun _ h9 => h9) (v := .ref (a 2)) rfl d_M_first_30 ?_
            refine lv_iload_n hx hb d_M_first_33 rfl (lv_at hl 3 rfl) ?_
            refine x_iald hx hb hK hP 2 1 (f := (m_kd σ)) rfl rfl d_M_first_34 (by omega) ?_
            refine lv_iload_n hx hb d_M_first_35 rfl (lv_at hl 1 rfl) ?_
            have g2 := g_kd h
            refine x_icmp_ne (tgt := 49) hx hb d_M_first_36 (by decide) (fun c36 => ?_) (fun c36 => ?_)
            · refine x_iinc (lv' := [(3, .int (nI (h + 1))), (0, .ref (a 0)), (1, .int (nI kk)), (2, .int (nI ex))]) hx hb d_M_first_49 hl (k := 3) rfl (by decide) rfl (fun ls hl => ?_)
              refine lv_goto (tgt := 2) hx hb d_M_first_52 (by decide) ?_
              exact ih2 (h + 1) ls (by omega) (by omega) (notT_s hinv (fun h9 => by first | exact hqq h9.2.2.2 | omega)) (by omega) (lv_sub hl [1, 2, 3, 0] rfl)
            · refine lv_aload_n hx hb d_M_first_39 rfl (lv_at hl 0 rfl) ?_
              refine lv_iload_n hx hb d_M_first_40 rfl (lv_at hl 3 rfl) ?_
              refine x_ci (x_runV ⟨hx, hb, hml, hown, hT⟩ (c_M_hasText l dC dI a t σ hG2 h (by omega) (by omega) hc hq) f_M_hasText k_M_69 blR (va_recv hK hP (ci := 7) (q0 := 0) rfl rfl) (x_bR hK hP hN) hl.1 d_M_first_41 rfl (lv_room (Nat.le_of_ble_eq_true rfl)) ⟨Nat.le_of_ble_eq_true rfl, Nat.le_of_ble_eq_true rfl⟩ ⟨rfl, rfl⟩ ⟨Nat.le_refl 0, Nat.le_refl 0⟩ rfl) (fun r41 q41 => ?_)
              rcases q41 with ⟨rfl, hqq⟩ | ⟨rfl, hqq⟩
              · refine x_if_eq (tgt := 49) hx hb d_M_first_44 (by decide) (fun h => absurd h (by decide)) (fun _ => ?_)
                refine lv_iload_n hx hb d_M_first_47 rfl (lv_at hl 3 rfl) ?_
                exact x_ri hx hb hr hlk d_M_first_48 (Or.inl ⟨h, by omega, by omega, ⟨by omega, by omega, by omega, hqq⟩, fun i h3 h4 => hinv i h3 h4, rfl⟩)
              · refine x_if_eq (tgt := 49) hx hb d_M_first_44 (by decide) (fun _ => ?_) (fun h => absurd h (by decide))
                refine x_iinc (lv' := [(3, .int (nI (h + 1))), (0, .ref (a 0)), (1, .int (nI kk)), (2, .int (nI ex))]) hx hb d_M_first_49 hl (k := 3) rfl (by decide) rfl (fun ls hl => ?_)
                refine lv_goto (tgt := 2) hx hb d_M_first_52 (by decide) ?_
                exact ih2 (h + 1) ls (by omega) (by omega) (notT_s hinv (fun h9 => by first | exact hqq h9.2.2.2 | omega)) (by omega) (lv_sub hl [1, 2, 3, 0] rfl)
  exact hloop2 _ 1 ls (by omega) (by omega) (fun i h3 h4 => by omega) (Nat.lt_succ_self _) (lv_sub hl [1, 2, 3, 0] rfl)

set_option maxRecDepth 100000 in
set_option maxHeartbeats 4000000 in
theorem c_M_firstA (l : Launch) (dC : Nat → ClassId) (dI : Nat → Nat → Nat) (a : Nat → Nat) (t : Nat → ClassId) (σ : SM) (hG : GM σ)  (ex : Nat) (hex : ex ≤ 60) (hc : m_co σ ≤ 20) (hq : ∀ k, k < m_co σ → m_sd σ k < 128) : Met l y_M_first (wS y_M_first b_M_first 4 (some .int)) (rD 2) (va_Pc [.ref (a 0), .int (-1), .int (nI ex)] (RB (dC, dI) (yM t) (wM a t σ))) (vp_Si (fun r => FST (fun h => h ≠ ex ∧ m_lv σ h = 1 ∧ m_same σ h) (m_hn σ) r)) 0 0 (fun _ => False) := by
  refine x_enter (by decide) (Nat.le_of_ble_eq_true rfl) ?_
  intro p e s m below meth c ls hx hb hr hml hT hown hlk hnm hl hB
  obtain ⟨hP, hK, hN⟩ := hB
  have hl : lv_has ls 4 [(0, .ref (a 0)), (1, .int (-1)), (2, .int (nI ex))] := hl
  have hown : s.vm.findClass R_M = some m.cls := hown
  have hG2 := hG
  obtain ⟨g_sz, g_sd, g_hn, g_kd, g_lv, g_tx, g_zs, g_ln, g_lf, g_lt, g_rn, g_lk, g_wy, g_wn, g_di, g_co⟩ := hG
  refine lv_iconst (v := nI 1) hx hb d_M_first_0 (by decide) ?_
  refine lv_istore_n (lv' := [(3, .int (nI 1)), (0, .ref (a 0)), (1, .int (-1)), (2, .int (nI ex))]) hx hb d_M_first_1 rfl hl (by decide) rfl (fun ls hl => ?_)
  have hloop2 : ∀ (n2 : Nat) (h : Nat) (ls : Array Slot), 1 ≤ h → h ≤ m_hn σ + 1 → (∀ i, 1 ≤ i → i < h → ¬ (fun h => h ≠ ex ∧ m_lv σ h = 1 ∧ m_same σ h) i) → m_hn σ + 1 - h < n2 → lv_has ls 4 [(0, .ref (a 0)), (1, .int (-1)), (2, .int (nI ex)), (3, .int (nI h))] → W p l e (rD 2) s m ([.ref (a 0), .int (-1), .int (nI ex)] : List Value).toArray below meth c s.heap [] 0 0 (MQ below (vp_Si (fun r => FST (fun h => h ≠ ex ∧ m_lv σ h = 1 ∧ m_same σ h) (m_hn σ) r)) ([.ref (a 0), .int (-1), .int (nI ex)] : List Value).toArray s 0 0 (fun _ => False)) (F0 m 2 ls []) := by
    intro n2
    induction n2 with
    | zero => intro h ls _ _ _ h9; exact absurd h9 (Nat.not_lt_zero _)
    | succ n2 ih2 =>
      intro h ls h1 h2 hinv hmu2 hl
      refine lv_iload_n hx hb d_M_first_2 rfl (lv_at hl 3 rfl) ?_
      refine lv_aload_n hx hb d_M_first_3 rfl (lv_at hl 0 rfl) ?_
      refine va_get (D := (dC, dI)) (C := R_M) (T := F_M) (N := 20) hx hb hT i_M hown hK hP 0 rfl rfl 3 (by decide) (hT _ k_M_66) (fun _ h9 => h9) (v := .int (nI (m_hn σ))) rfl d_M_first_4 ?_
      refine x_icmp_gt (tgt := 55) hx hb d_M_first_7 (by decide) (fun c7 => ?_) (fun c7 => ?_)
      · refine lv_iconst (v := nI 0) hx hb d_M_first_55 (by decide) ?_
        exact x_ri hx hb hr hlk d_M_first_56 (Or.inr ⟨fun i h3 h4 => hinv i h3 (by omega), rfl⟩)
      · refine lv_aload_n hx hb d_M_first_10 rfl (lv_at hl 0 rfl) ?_
        refine va_get (D := (dC, dI)) (C := R_M) (T := F_M) (N := 20) hx hb hT i_M hown hK hP 0 rfl rfl 5 (by decide) (hT _ k_M_17) (fun _ h9 => h9) (v := .ref (a 3)) rfl d_M_first_11 ?_
        refine lv_iload_n hx hb d_M_first_14 rfl (lv_at hl 3 rfl) ?_
        refine x_zald hx hb hK hP 3 2 (f := (m_lv σ)) rfl rfl d_M_first_15 (by omega) ?_
        have g1 := g_lv h
        refine x_if_eq (tgt := 49) hx hb d_M_first_16 (by decide) (fun c16 => ?_) (fun c16 => ?_)
        · refine x_iinc (lv' := [(3, .int (nI (h + 1))), (0, .ref (a 0)), (1, .int (-1)), (2, .int (nI ex))]) hx hb d_M_first_49 hl (k := 3) rfl (by decide) rfl (fun ls hl => ?_)
          refine lv_goto (tgt := 2) hx hb d_M_first_52 (by decide) ?_
          exact ih2 (h + 1) ls (by omega) (by omega) (notT_s hinv (fun h9 => by first | exact hqq h9.2.2 | omega)) (by omega) (lv_sub hl [1, 2, 3, 0] rfl)
        · refine lv_iload_n hx hb d_M_first_19 rfl (lv_at hl 3 rfl) ?_
          refine lv_iload_n hx hb d_M_first_20 rfl (lv_at hl 2 rfl) ?_
          refine x_icmp_eq (tgt := 49) hx hb d_M_first_21 (by decide) (fun c21 => ?_) (fun c21 => ?_)
          · refine x_iinc (lv' := [(3, .int (nI (h + 1))), (0, .ref (a 0)), (1, .int (-1)), (2, .int (nI ex))]) hx hb d_M_first_49 hl (k := 3) rfl (by decide) rfl (fun ls hl => ?_)
            refine lv_goto (tgt := 2) hx hb d_M_first_52 (by decide) ?_
            exact ih2 (h + 1) ls (by omega) (by omega) (notT_s hinv (fun h9 => by first | exact hqq h9.2.2 | omega)) (by omega) (lv_sub hl [1, 2, 3, 0] rfl)
          · refine lv_iload_n hx hb d_M_first_24 rfl (lv_at hl 1 rfl) ?_
            refine lv_iconst (v := -1) hx hb d_M_first_25 (by decide) ?_
            refine lv_icmp_eq (tgt := 39) hx hb d_M_first_26 (by decide) (fun _ => ?_) (fun h9 => absurd rfl h9)
            refine lv_aload_n hx hb d_M_first_39 rfl (lv_at hl 0 rfl) ?_
            refine lv_iload_n hx hb d_M_first_40 rfl (lv_at hl 3 rfl) ?_
            refine x_ci (x_runV ⟨hx, hb, hml, hown, hT⟩ (c_M_hasText l dC dI a t σ hG2 h (by omega) (by omega) hc hq) f_M_hasText k_M_69 blR (va_recv hK hP (ci := 7) (q0 := 0) rfl rfl) (x_bR hK hP hN) hl.1 d_M_first_41 rfl (lv_room (Nat.le_of_ble_eq_true rfl)) ⟨Nat.le_of_ble_eq_true rfl, Nat.le_of_ble_eq_true rfl⟩ ⟨rfl, rfl⟩ ⟨Nat.le_refl 0, Nat.le_refl 0⟩ rfl) (fun r41 q41 => ?_)
            rcases q41 with ⟨rfl, hqq⟩ | ⟨rfl, hqq⟩
            · refine x_if_eq (tgt := 49) hx hb d_M_first_44 (by decide) (fun h => absurd h (by decide)) (fun _ => ?_)
              refine lv_iload_n hx hb d_M_first_47 rfl (lv_at hl 3 rfl) ?_
              exact x_ri hx hb hr hlk d_M_first_48 (Or.inl ⟨h, by omega, by omega, ⟨by omega, by omega, hqq⟩, fun i h3 h4 => hinv i h3 h4, rfl⟩)
            · refine x_if_eq (tgt := 49) hx hb d_M_first_44 (by decide) (fun _ => ?_) (fun h => absurd h (by decide))
              refine x_iinc (lv' := [(3, .int (nI (h + 1))), (0, .ref (a 0)), (1, .int (-1)), (2, .int (nI ex))]) hx hb d_M_first_49 hl (k := 3) rfl (by decide) rfl (fun ls hl => ?_)
              refine lv_goto (tgt := 2) hx hb d_M_first_52 (by decide) ?_
              exact ih2 (h + 1) ls (by omega) (by omega) (notT_s hinv (fun h9 => by first | exact hqq h9.2.2 | omega)) (by omega) (lv_sub hl [1, 2, 3, 0] rfl)
  exact hloop2 _ 1 ls (by omega) (by omega) (fun i h3 h4 => by omega) (Nat.lt_succ_self _) (lv_sub hl [1, 2, 3, 0] rfl)

theorem lt1_le {x : Int32} (h : x < nI 1) : x ≤ 0 := by
  rw [Int32.le_iff_toInt_le]
  have h1 := Int32.lt_iff_toInt_lt.mp h
  have h2 : (nI 1).toInt = 1 := by decide
  have h3 : (0 : Int32).toInt = 0 := by decide
  omega
theorem le0_no {x : Int32} {n : Nat} (hn : n < 2 ^ 31) (h : x ≤ 0) : ¬ ∃ j, 1 ≤ j ∧ j ≤ n ∧ x = nI j := by
  rintro ⟨j, h1, h2, rfl⟩
  exact nI_nle (by omega) (by omega) h
set_option maxRecDepth 100000 in
set_option maxHeartbeats 4000000 in
theorem c_M_isLive (l : Launch) (dC : Nat → ClassId) (dI : Nat → Nat → Nat) (a : Nat → Nat) (t : Nat → ClassId) (σ : SM) (hG : GM σ) (x : Int32) : Met l y_M_isLive (wS y_M_isLive b_M_isLive 2 (some .boolean)) (rD 0) (va_Pc [.ref (a 0), .int x] (RB (dC, dI) (yM t) (wM a t σ))) (vp_Si (fun r => BR r (∃ j, 1 ≤ j ∧ j ≤ m_hn σ ∧ m_lv σ j = 1 ∧ x = nI j))) 0 0 (fun _ => False) := by
  refine x_enter (by decide) (Nat.le_of_ble_eq_true rfl) ?_
  intro p e s m below meth c ls hx hb hr hml hT hown hlk hnm hl hB
  obtain ⟨hP, hK, hN⟩ := hB
  have hl : lv_has ls 2 [(0, .ref (a 0)), (1, .int x)] := hl
  have hown : s.vm.findClass R_M = some m.cls := hown
  have hG2 := hG
  obtain ⟨g_sz, g_sd, g_hn, g_kd, g_lv, g_tx, g_zs, g_ln, g_lf, g_lt, g_rn, g_lk, g_wy, g_wn, g_di, g_co⟩ := hG
  refine lv_iload_n hx hb d_M_isLive_0 rfl (lv_at hl 1 rfl) ?_
  refine lv_if_le (tgt := 25) hx hb d_M_isLive_1 (by decide) (fun c1 => ?_) (fun c1 => ?_)
  · refine lv_iconst (v := nI 0) hx hb d_M_isLive_25 (by decide) ?_
    exact x_rz hx hb hr hlk d_M_isLive_26 rfl (Or.inr ⟨rfl, by first | exact fun ⟨j, h1, h2, _, h4⟩ => le0_no (n := m_hn σ) (by omega) c1 ⟨j, h1, h2, h4⟩ | exact fun ⟨j, h1, h2, _, h4⟩ => x_there2 (n := m_hn σ) (by omega) c9 ⟨j, h1, h2, h4⟩ | (rintro ⟨i, h1, h2, h3, h4⟩; have h5 := (nI_eq (by omega) (by omega)).mp h4; subst h5; omega)⟩)
  · refine lv_iload_n hx hb d_M_isLive_4 rfl (lv_at hl 1 rfl) ?_
    refine lv_aload_n hx hb d_M_isLive_5 rfl (lv_at hl 0 rfl) ?_
    refine va_get (D := (dC, dI)) (C := R_M) (T := F_M) (N := 20) hx hb hT i_M hown hK hP 0 rfl rfl 3 (by decide) (hT _ k_M_66) (fun _ h9 => h9) (v := .int (nI (m_hn σ))) rfl d_M_isLive_6 ?_
    refine lv_icmp_gt (tgt := 25) hx hb d_M_isLive_9 (by decide) (fun c9 => ?_) (fun c9 => ?_)
    · refine lv_iconst (v := nI 0) hx hb d_M_isLive_25 (by decide) ?_
      exact x_rz hx hb hr hlk d_M_isLive_26 rfl (Or.inr ⟨rfl, by first | exact fun ⟨j, h1, h2, _, h4⟩ => le0_no (n := m_hn σ) (by omega) c1 ⟨j, h1, h2, h4⟩ | exact fun ⟨j, h1, h2, _, h4⟩ => x_there2 (n := m_hn σ) (by omega) c9 ⟨j, h1, h2, h4⟩ | (rintro ⟨i, h1, h2, h3, h4⟩; have h5 := (nI_eq (by omega) (by omega)).mp h4; subst h5; omega)⟩)
    · obtain ⟨j, hj1, hj2, rfl⟩ := x_there (by omega) (fun h9 => c1 (show x ≤ 0 from by first | exact Int32.le_of_lt_add_one h9 | exact lt1_le h9)) c9
      have g1 := g_lv j
      refine lv_aload_n hx hb d_M_isLive_12 rfl (lv_at hl 0 rfl) ?_
      refine va_get (D := (dC, dI)) (C := R_M) (T := F_M) (N := 20) hx hb hT i_M hown hK hP 0 rfl rfl 5 (by decide) (hT _ k_M_17) (fun _ h9 => h9) (v := .ref (a 3)) rfl d_M_isLive_13 ?_
      refine lv_iload_n hx hb d_M_isLive_16 rfl (lv_at hl 1 rfl) ?_
      refine x_zald hx hb hK hP 3 2 (f := (m_lv σ)) rfl rfl d_M_isLive_17 (by omega) ?_
      refine x_if_eq (tgt := 25) hx hb d_M_isLive_18 (by decide) (fun c18 => ?_) (fun c18 => ?_)
      · refine lv_iconst (v := nI 0) hx hb d_M_isLive_25 (by decide) ?_
        exact x_rz hx hb hr hlk d_M_isLive_26 rfl (Or.inr ⟨rfl, by first | exact fun ⟨j, h1, h2, _, h4⟩ => le0_no (n := m_hn σ) (by omega) c1 ⟨j, h1, h2, h4⟩ | exact fun ⟨j, h1, h2, _, h4⟩ => x_there2 (n := m_hn σ) (by omega) c9 ⟨j, h1, h2, h4⟩ | (rintro ⟨i, h1, h2, h3, h4⟩; have h5 := (nI_eq (by omega) (by omega)).mp h4; subst h5; omega)⟩)
      · refine lv_iconst (v := nI 1) hx hb d_M_isLive_21 (by decide) ?_
        refine lv_goto (tgt := 26) hx hb d_M_isLive_22 (by decide) ?_
        exact x_rz hx hb hr hlk d_M_isLive_26 rfl (Or.inl ⟨rfl, j, hj1, hj2, by omega, rfl⟩)

def MKH (σ : SM) (kk : Nat) (r : Int32) (u : SM) : Prop := (∃ j, 1 ≤ j ∧ j ≤ m_hn σ ∧ r = -nI j ∧ FST (fun h => h ≠ 0 ∧ m_lv σ h = 1 ∧ m_kd σ h = kk ∧ m_same σ h) (m_hn σ) (nI j) ∧ u = σ) ∨ (FST (fun h => h ≠ 0 ∧ m_lv σ h = 1 ∧ m_kd σ h = kk ∧ m_same σ h) (m_hn σ) (nI 0) ∧ ((m_hn σ = 60 ∧ r = nI 0 ∧ u = σ) ∨ (m_hn σ < 60 ∧ r = nI (m_hn σ + 1) ∧ u = mu_zs (mu_tx (mu_lv (mu_kd (mu_hn σ (m_hn σ + 1)) (updN (m_kd σ) (m_hn σ + 1) kk)) (updN (m_lv σ) (m_hn σ + 1) 1)) (cpT (m_tx σ) (20 * (m_hn σ + 1)) (m_sd σ) (m_co σ))) (updN (m_zs σ) (m_hn σ + 1) (m_co σ)))))
set_option maxRecDepth 100000 in
set_option maxHeartbeats 4000000 in
theorem c_M_make (l : Launch) (dC : Nat → ClassId) (dI : Nat → Nat → Nat) (a : Nat → Nat) (t : Nat → ClassId) (σ : SM) (sz : Nat) (hG : GM σ) (x : Int32) (hc : m_co σ ≤ 20) (hq : ∀ k, k < m_co σ → m_sd σ k < 128) : Met l y_M_make (wS y_M_make b_M_make 3 (some .int)) (rD 3) (va_Pc [.ref (a 0), .int x] (MB (dC, dI) (yM t) (wM a t σ) sz)) (va_Qi (fun (r : Int32) (u : SM) => (¬ (∃ kk, kk < 4 ∧ x = nI kk) ∧ r = nI 0 ∧ u = σ) ∨ ∃ kk, kk < 4 ∧ x = nI kk ∧ MKH σ kk r u) (fun u => ME (dC, dI) (yM t) (va_A (wM a t σ) sz) (wM a t u)) (va_A (wM a t σ) sz)) 0 0 (va_A (wM a t σ) sz) := by
  refine x_enter (by decide) (Nat.le_of_ble_eq_true rfl) ?_
  intro p e s m below meth c ls hx hb hr hml hT hown hlk hnm hl hB
  obtain ⟨rfl, hP, hK, hN, hD0⟩ := hB
  have hD := hD0.self (sz := s.heap.size)
  generalize hAe : va_A (wM a t σ) s.heap.size = A at hD ⊢
  have hA : ∀ q : Nat, s.heap.size ≤ q → A q := fun q h => by rw [← hAe]; exact Or.inr h
  have hS : va_S A s.heap s.heap [] := va_S.rf
  have hP : va_P (dC, dI) classes (wM a t σ) s.heap := hP
  have hl : lv_has ls 3 [(0, .ref (a 0)), (1, .int x)] := hl
  have hown : s.vm.findClass R_M = some m.cls := hown
  have hG2 := hG
  obtain ⟨g_sz, g_sd, g_hn, g_kd, g_lv, g_tx, g_zs, g_ln, g_lf, g_lt, g_rn, g_lk, g_wy, g_wn, g_di, g_co⟩ := hG
  refine lv_iload_n hx hb d_M_make_0 rfl (lv_at hl 1 rfl) ?_
  refine lv_if_lt (tgt := 9) hx hb d_M_make_1 (by decide) (fun c1 => ?_) (fun c1 => ?_)
  · refine lv_iconst (v := nI 0) hx hb d_M_make_9 (by decide) ?_
    exact x_mi (wl := wM a t) σ hx hb hr hlk hK hP hD hS d_M_make_10 (Or.inl ⟨by rintro ⟨k', h1, h2⟩; first | (rw [h2] at c1; exact absurd c1 (nI_pos (by omega))) | (have h3 := (nI_eq (by omega) (by omega)).mp h2; omega), rfl, rfl⟩)
  · obtain ⟨kk, hkk0, rfl⟩ := nI_of c1
    refine lv_iload_n hx hb d_M_make_4 rfl (lv_at hl 1 rfl) ?_
    refine lv_iconst (v := nI 3) hx hb d_M_make_5 (by decide) ?_
    refine x_icmp_le (tgt := 11) hx hb d_M_make_6 (by decide) (fun c6 => ?_) (fun c6 => ?_)
    · refine lv_aload_n hx hb d_M_make_11 rfl (lv_at hl 0 rfl) ?_
      refine lv_iload_n hx hb d_M_make_12 rfl (lv_at hl 1 rfl) ?_
      refine lv_iconst (v := nI 0) hx hb d_M_make_13 (by decide) ?_
      refine x_ci (x_runV ⟨hx, hb, hml, hown, hT⟩ (c_M_firstK l dC dI a t σ hG2 kk (by omega) 0 (by omega) hc hq) f_M_first k_M_73 blR (va_recv hK hP (ci := 7) (q0 := 0) rfl rfl) (x_bR hK hP hN) hl.1 d_M_make_14 rfl (lv_room (Nat.le_of_ble_eq_true rfl)) ⟨Nat.le_of_ble_eq_true rfl, Nat.le_of_ble_eq_true rfl⟩ ⟨rfl, rfl⟩ ⟨Nat.le_refl 0, Nat.le_refl 0⟩ rfl) (fun r14 q14 => ?_)
      have qF := q14
      rcases q14 with ⟨j, hj1, hj2, _, _, rfl⟩ | ⟨_, rfl⟩
      · refine lv_istore_n (lv' := [(2, .int (nI j)), (0, .ref (a 0)), (1, .int (nI kk))]) hx hb d_M_make_17 rfl hl (by decide) rfl (fun ls hl => ?_)
        refine lv_iload_n hx hb d_M_make_18 rfl (lv_at hl 0 rfl) ?_
        refine x_if_le (tgt := 25) hx hb d_M_make_19 (by decide) (fun c19 => ?_) (fun c19 => ?_)
        · refine lv_aload_n hx hb d_M_make_25 rfl (lv_at hl 1 rfl) ?_
          refine va_get (D := (dC, dI)) (C := R_M) (T := F_M) (N := 20) hx hb hT i_M hown hK hP 0 rfl rfl 3 (by decide) (hT _ k_M_66) (fun _ h9 => h9) (v := .int (nI (m_hn σ))) rfl d_M_make_26 ?_
          refine lv_bipush (v := nI 60) hx hb d_M_make_29 (by decide) ?_
          refine x_icmp_ne (tgt := 36) hx hb d_M_make_31 (by decide) (fun c31 => ?_) (fun c31 => ?_)
          · refine lv_aload_n hx hb d_M_make_36 rfl (lv_at hl 1 rfl) ?_
            refine lv_dup hx hb d_M_make_37 rfl ?_
            refine va_get (D := (dC, dI)) (C := R_M) (T := F_M) (N := 20) hx hb hT i_M hown hK hP 0 rfl rfl 3 (by decide) (hT _ k_M_66) (fun _ h9 => h9) (v := .int (nI (m_hn σ))) rfl d_M_make_38 ?_
            refine lv_iconst (v := nI 1) hx hb d_M_make_41 (by decide) ?_
            refine x_iadd hx hb d_M_make_42 ?_
            refine va_put (D := (dC, dI)) (v := .int (nI ((m_hn σ) + 1))) (ty := .int) (C := R_M) (T := F_M) (N := 20) hx hb hT i_M ft_M ft_M_ok n_M hown hK hP hD hS 0 rfl rfl 3 (by decide) (hT _ k_M_66) (fun _ h9 => h9) rfl (by decide +kernel) rfl rfl (Nat.le_of_ble_eq_true rfl) d_M_make_43 (fun H locs hP hD hS => ?_)
            have hP : va_P (dC, dI) classes (wM a t (mu_hn σ ((m_hn σ) + 1))) H := hP
            have hD : va_D A (wM a t (mu_hn σ ((m_hn σ) + 1))) := hD
            refine lv_aload_n hx hb d_M_make_46 rfl (lv_at hl 1 rfl) ?_
            refine va_get (D := (dC, dI)) (C := R_M) (T := F_M) (N := 20) hx hb hT i_M hown hK hP 0 rfl rfl 4 (by decide) (hT _ k_M_13) (fun _ h9 => h9) (v := .ref (a 2)) rfl d_M_make_47 ?_
            refine lv_aload_n hx hb d_M_make_50 rfl (lv_at hl 1 rfl) ?_
            refine va_get (D := (dC, dI)) (C := R_M) (T := F_M) (N := 20) hx hb hT i_M hown hK hP 0 rfl rfl 3 (by decide) (hT _ k_M_66) (fun _ h9 => h9) (v := .int (nI ((m_hn σ) + 1))) rfl d_M_make_51 ?_
            refine lv_iload_n hx hb d_M_make_54 rfl (lv_at hl 2 rfl) ?_
            refine x_iast hx hb hK hP hD hS 2 1 (f := (m_kd σ)) rfl rfl d_M_make_55 (by omega) (fun H locs hP hD hS => ?_)
            have hP : va_P (dC, dI) classes (wM a t (mu_kd (mu_hn σ ((m_hn σ) + 1)) (updN (m_kd σ) ((m_hn σ) + 1) (kk)))) H := hP
            have hD : va_D A (wM a t (mu_kd (mu_hn σ ((m_hn σ) + 1)) (updN (m_kd σ) ((m_hn σ) + 1) (kk)))) := hD
            refine lv_aload_n hx hb d_M_make_56 rfl (lv_at hl 1 rfl) ?_
            refine va_get (D := (dC, dI)) (C := R_M) (T := F_M) (N := 20) hx hb hT i_M hown hK hP 0 rfl rfl 5 (by decide) (hT _ k_M_17) (fun _ h9 => h9) (v := .ref (a 3)) rfl d_M_make_57 ?_
            refine lv_aload_n hx hb d_M_make_60 rfl (lv_at hl 1 rfl) ?_
            refine va_get (D := (dC, dI)) (C := R_M) (T := F_M) (N := 20) hx hb hT i_M hown hK hP 0 rfl rfl 3 (by decide) (hT _ k_M_66) (fun _ h9 => h9) (v := .int (nI ((m_hn σ) + 1))) rfl d_M_make_61 ?_
            refine lv_iconst (v := nI 1) hx hb d_M_make_64 (by decide) ?_
            refine x_zast hx hb hK hP hD hS 3 2 (f := (m_lv σ)) rfl rfl d_M_make_65 (by omega) (fun H locs hP hD hS => ?_)
            have hP : va_P (dC, dI) classes (wM a t (mu_lv (mu_kd (mu_hn σ ((m_hn σ) + 1)) (updN (m_kd σ) ((m_hn σ) + 1) (kk))) (updN (m_lv σ) ((m_hn σ) + 1) (1)))) H := hP
            have hD : va_D A (wM a t (mu_lv (mu_kd (mu_hn σ ((m_hn σ) + 1)) (updN (m_kd σ) ((m_hn σ) + 1) (kk))) (updN (m_lv σ) ((m_hn σ) + 1) (1)))) := hD
            refine lv_aload_n hx hb d_M_make_66 rfl (lv_at hl 1 rfl) ?_
            refine lv_aload_n hx hb d_M_make_67 rfl (lv_at hl 1 rfl) ?_
            refine va_get (D := (dC, dI)) (C := R_M) (T := F_M) (N := 20) hx hb hT i_M hown hK hP 0 rfl rfl 3 (by decide) (hT _ k_M_66) (fun _ h9 => h9) (v := .int (nI ((m_hn σ) + 1))) rfl d_M_make_68 ?_
            refine x_cMv (wl := wM a t) (x_runV ⟨hx, hb, hml, hown, hT⟩ (c_M_lay l dC dI a t (mu_lv (mu_kd (mu_hn σ ((m_hn σ) + 1)) (updN (m_kd σ) ((m_hn σ) + 1) (kk))) (updN (m_lv σ) ((m_hn σ) + 1) (1))) H.size (GM_lv (GM_kd (GM_hn hG2 (by omega)) (updN_lt g_kd (by omega))) (updN_lt g_lv (by decide))) (m_hn σ + 1) (by omega) hc hq) f_M_lay k_M_77 blM (va_recv hK hP (ci := 7) (q0 := 0) rfl rfl) (x_bM hK hP hN hD) hl.1 d_M_make_71 rfl (lv_room (Nat.le_of_ble_eq_true rfl)) ⟨Nat.le_of_ble_eq_true rfl, Nat.le_of_ble_eq_true rfl⟩ ⟨rfl, rfl⟩ ⟨Nat.le_refl 0, Nat.le_refl 0⟩ rfl) hD hS hA (fun u71 H locs q71 hP hD hS => ?_)
            subst q71
            have hP : va_P (dC, dI) classes (wM a t (mu_zs (mu_tx (mu_lv (mu_kd (mu_hn σ (m_hn σ + 1)) (updN (m_kd σ) (m_hn σ + 1) kk)) (updN (m_lv σ) (m_hn σ + 1) 1)) (cpT (m_tx σ) (20 * (m_hn σ + 1)) (m_sd σ) (m_co σ))) (updN (m_zs σ) (m_hn σ + 1) (m_co σ)))) H := hP
            have hD : va_D A (wM a t (mu_zs (mu_tx (mu_lv (mu_kd (mu_hn σ (m_hn σ + 1)) (updN (m_kd σ) (m_hn σ + 1) kk)) (updN (m_lv σ) (m_hn σ + 1) 1)) (cpT (m_tx σ) (20 * (m_hn σ + 1)) (m_sd σ) (m_co σ))) (updN (m_zs σ) (m_hn σ + 1) (m_co σ)))) := hD
            refine lv_aload_n hx hb d_M_make_74 rfl (lv_at hl 1 rfl) ?_
            refine va_get (D := (dC, dI)) (C := R_M) (T := F_M) (N := 20) hx hb hT i_M hown hK hP 0 rfl rfl 3 (by decide) (hT _ k_M_66) (fun _ h9 => h9) (v := .int (nI (m_hn σ + 1))) rfl d_M_make_75 ?_
            exact x_mi (wl := wM a t) (mu_zs (mu_tx (mu_lv (mu_kd (mu_hn σ (m_hn σ + 1)) (updN (m_kd σ) (m_hn σ + 1) kk)) (updN (m_lv σ) (m_hn σ + 1) 1)) (cpT (m_tx σ) (20 * (m_hn σ + 1)) (m_sd σ) (m_co σ))) (updN (m_zs σ) (m_hn σ + 1) (m_co σ))) hx hb hr hlk hK hP hD hS d_M_make_78 (Or.inr ⟨kk, by omega, rfl, Or.inr ⟨by first | exact qF | (exfalso; omega), Or.inr ⟨by omega, rfl, rfl⟩⟩⟩)
          · refine lv_iconst (v := nI 0) hx hb d_M_make_34 (by decide) ?_
            exact x_mi (wl := wM a t) σ hx hb hr hlk hK hP hD hS d_M_make_35 (Or.inr ⟨kk, by omega, rfl, Or.inr ⟨by first | exact qF | (exfalso; omega), Or.inl ⟨by omega, rfl, rfl⟩⟩⟩)
        · refine lv_iload_n hx hb d_M_make_22 rfl (lv_at hl 0 rfl) ?_
          refine lv_ineg hx hb d_M_make_23 ?_
          exact x_mi (wl := wM a t) σ hx hb hr hlk hK hP hD hS d_M_make_24 (Or.inr ⟨kk, by omega, rfl, Or.inl ⟨j, hj1, hj2, rfl, qF, rfl⟩⟩)
      · refine lv_istore_n (lv' := [(2, .int (nI 0)), (0, .ref (a 0)), (1, .int (nI kk))]) hx hb d_M_make_17 rfl hl (by decide) rfl (fun ls hl => ?_)
        refine lv_iload_n hx hb d_M_make_18 rfl (lv_at hl 0 rfl) ?_
        refine x_if_le (tgt := 25) hx hb d_M_make_19 (by decide) (fun _ => ?_) (fun h => absurd h (by decide))
        refine lv_aload_n hx hb d_M_make_25 rfl (lv_at hl 1 rfl) ?_
        refine va_get (D := (dC, dI)) (C := R_M) (T := F_M) (N := 20) hx hb hT i_M hown hK hP 0 rfl rfl 3 (by decide) (hT _ k_M_66) (fun _ h9 => h9) (v := .int (nI (m_hn σ))) rfl d_M_make_26 ?_
        refine lv_bipush (v := nI 60) hx hb d_M_make_29 (by decide) ?_
        refine x_icmp_ne (tgt := 36) hx hb d_M_make_31 (by decide) (fun c31 => ?_) (fun c31 => ?_)
        · refine lv_aload_n hx hb d_M_make_36 rfl (lv_at hl 1 rfl) ?_
          refine lv_dup hx hb d_M_make_37 rfl ?_
          refine va_get (D := (dC, dI)) (C := R_M) (T := F_M) (N := 20) hx hb hT i_M hown hK hP 0 rfl rfl 3 (by decide) (hT _ k_M_66) (fun _ h9 => h9) (v := .int (nI (m_hn σ))) rfl d_M_make_38 ?_
          refine lv_iconst (v := nI 1) hx hb d_M_make_41 (by decide) ?_
          refine x_iadd hx hb d_M_make_42 ?_
          refine va_put (D := (dC, dI)) (v := .int (nI ((m_hn σ) + 1))) (ty := .int) (C := R_M) (T := F_M) (N := 20) hx hb hT i_M ft_M ft_M_ok n_M hown hK hP hD hS 0 rfl rfl 3 (by decide) (hT _ k_M_66) (fun _ h9 => h9) rfl (by decide +kernel) rfl rfl (Nat.le_of_ble_eq_true rfl) d_M_make_43 (fun H locs hP hD hS => ?_)
          have hP : va_P (dC, dI) classes (wM a t (mu_hn σ ((m_hn σ) + 1))) H := hP
          have hD : va_D A (wM a t (mu_hn σ ((m_hn σ) + 1))) := hD
          refine lv_aload_n hx hb d_M_make_46 rfl (lv_at hl 1 rfl) ?_
          refine va_get (D := (dC, dI)) (C := R_M) (T := F_M) (N := 20) hx hb hT i_M hown hK hP 0 rfl rfl 4 (by decide) (hT _ k_M_13) (fun _ h9 => h9) (v := .ref (a 2)) rfl d_M_make_47 ?_
          refine lv_aload_n hx hb d_M_make_50 rfl (lv_at hl 1 rfl) ?_
          refine va_get (D := (dC, dI)) (C := R_M) (T := F_M) (N := 20) hx hb hT i_M hown hK hP 0 rfl rfl 3 (by decide) (hT _ k_M_66) (fun _ h9 => h9) (v := .int (nI ((m_hn σ) + 1))) rfl d_M_make_51 ?_
          refine lv_iload_n hx hb d_M_make_54 rfl (lv_at hl 2 rfl) ?_
          refine x_iast hx hb hK hP hD hS 2 1 (f := (m_kd σ)) rfl rfl d_M_make_55 (by omega) (fun H locs hP hD hS => ?_)
          have hP : va_P (dC, dI) classes (wM a t (mu_kd (mu_hn σ ((m_hn σ) + 1)) (updN (m_kd σ) ((m_hn σ) + 1) (kk)))) H := hP
          have hD : va_D A (wM a t (mu_kd (mu_hn σ ((m_hn σ) + 1)) (updN (m_kd σ) ((m_hn σ) + 1) (kk)))) := hD
          refine lv_aload_n hx hb d_M_make_56 rfl (lv_at hl 1 rfl) ?_
          refine va_get (D := (dC, dI)) (C := R_M) (T := F_M) (N := 20) hx hb hT i_M hown hK hP 0 rfl rfl 5 (by decide) (hT _ k_M_17) (fun _ h9 => h9) (v := .ref (a 3)) rfl d_M_make_57 ?_
          refine lv_aload_n hx hb d_M_make_60 rfl (lv_at hl 1 rfl) ?_
          refine va_get (D := (dC, dI)) (C := R_M) (T := F_M) (N := 20) hx hb hT i_M hown hK hP 0 rfl rfl 3 (by decide) (hT _ k_M_66) (fun _ h9 => h9) (v := .int (nI ((m_hn σ) + 1))) rfl d_M_make_61 ?_
          refine lv_iconst (v := nI 1) hx hb d_M_make_64 (by decide) ?_
          refine x_zast hx hb hK hP hD hS 3 2 (f := (m_lv σ)) rfl rfl d_M_make_65 (by omega) (fun H locs hP hD hS => ?_)
          have hP : va_P (dC, dI) classes (wM a t (mu_lv (mu_kd (mu_hn σ ((m_hn σ) + 1)) (updN (m_kd σ) ((m_hn σ) + 1) (kk))) (updN (m_lv σ) ((m_hn σ) + 1) (1)))) H := hP
          have hD : va_D A (wM a t (mu_lv (mu_kd (mu_hn σ ((m_hn σ) + 1)) (updN (m_kd σ) ((m_hn σ) + 1) (kk))) (updN (m_lv σ) ((m_hn σ) + 1) (1)))) := hD
          refine lv_aload_n hx hb d_M_make_66 rfl (lv_at hl 1 rfl) ?_
          refine lv_aload_n hx hb d_M_make_67 rfl (lv_at hl 1 rfl) ?_
          refine va_get (D := (dC, dI)) (C := R_M) (T := F_M) (N := 20) hx hb hT i_M hown hK hP 0 rfl rfl 3 (by decide) (hT _ k_M_66) (fun _ h9 => h9) (v := .int (nI ((m_hn σ) + 1))) rfl d_M_make_68 ?_
          refine x_cMv (wl := wM a t) (x_runV ⟨hx, hb, hml, hown, hT⟩ (c_M_lay l dC dI a t (mu_lv (mu_kd (mu_hn σ ((m_hn σ) + 1)) (updN (m_kd σ) ((m_hn σ) + 1) (kk))) (updN (m_lv σ) ((m_hn σ) + 1) (1))) H.size (GM_lv (GM_kd (GM_hn hG2 (by omega)) (updN_lt g_kd (by omega))) (updN_lt g_lv (by decide))) (m_hn σ + 1) (by omega) hc hq) f_M_lay k_M_77 blM (va_recv hK hP (ci := 7) (q0 := 0) rfl rfl) (x_bM hK hP hN hD) hl.1 d_M_make_71 rfl (lv_room (Nat.le_of_ble_eq_true rfl)) ⟨Nat.le_of_ble_eq_true rfl, Nat.le_of_ble_eq_true rfl⟩ ⟨rfl, rfl⟩ ⟨Nat.le_refl 0, Nat.le_refl 0⟩ rfl) hD hS hA (fun u71 H locs q71 hP hD hS => ?_)
          subst q71
          have hP : va_P (dC, dI) classes (wM a t (mu_zs (mu_tx (mu_lv (mu_kd (mu_hn σ (m_hn σ + 1)) (updN (m_kd σ) (m_hn σ + 1) kk)) (updN (m_lv σ) (m_hn σ + 1) 1)) (cpT (m_tx σ) (20 * (m_hn σ + 1)) (m_sd σ) (m_co σ))) (updN (m_zs σ) (m_hn σ + 1) (m_co σ)))) H := hP
          have hD : va_D A (wM a t (mu_zs (mu_tx (mu_lv (mu_kd (mu_hn σ (m_hn σ + 1)) (updN (m_kd σ) (m_hn σ + 1) kk)) (updN (m_lv σ) (m_hn σ + 1) 1)) (cpT (m_tx σ) (20 * (m_hn σ + 1)) (m_sd σ) (m_co σ))) (updN (m_zs σ) (m_hn σ + 1) (m_co σ)))) := hD
          refine lv_aload_n hx hb d_M_make_74 rfl (lv_at hl 1 rfl) ?_
          refine va_get (D := (dC, dI)) (C := R_M) (T := F_M) (N := 20) hx hb hT i_M hown hK hP 0 rfl rfl 3 (by decide) (hT _ k_M_66) (fun _ h9 => h9) (v := .int (nI (m_hn σ + 1))) rfl d_M_make_75 ?_
          exact x_mi (wl := wM a t) (mu_zs (mu_tx (mu_lv (mu_kd (mu_hn σ (m_hn σ + 1)) (updN (m_kd σ) (m_hn σ + 1) kk)) (updN (m_lv σ) (m_hn σ + 1) 1)) (cpT (m_tx σ) (20 * (m_hn σ + 1)) (m_sd σ) (m_co σ))) (updN (m_zs σ) (m_hn σ + 1) (m_co σ))) hx hb hr hlk hK hP hD hS d_M_make_78 (Or.inr ⟨kk, by omega, rfl, Or.inr ⟨by first | exact qF | (exfalso; omega), Or.inr ⟨by omega, rfl, rfl⟩⟩⟩)
        · refine lv_iconst (v := nI 0) hx hb d_M_make_34 (by decide) ?_
          exact x_mi (wl := wM a t) σ hx hb hr hlk hK hP hD hS d_M_make_35 (Or.inr ⟨kk, by omega, rfl, Or.inr ⟨by first | exact qF | (exfalso; omega), Or.inl ⟨by omega, rfl, rfl⟩⟩⟩)
    · refine lv_iconst (v := nI 0) hx hb d_M_make_9 (by decide) ?_
      exact x_mi (wl := wM a t) σ hx hb hr hlk hK hP hD hS d_M_make_10 (Or.inl ⟨by rintro ⟨k', h1, h2⟩; first | (rw [h2] at c1; exact absurd c1 (nI_pos (by omega))) | (have h3 := (nI_eq (by omega) (by omega)).mp h2; omega), rfl, rfl⟩)

def TKM (σ : SM) : SM := mu_co (mu_sz σ 0) (m_sz σ)
theorem TKM_G {σ : SM} (h : GM σ) : GM (TKM σ) := GM_co (GM_sz h (by omega)) h.1
theorem ok_q {f : Nat → Nat} {n : Nat} (h : okT f n) : ∀ k, k < n → f k < 128 := fun k hk => by
  have := h.2.2 k hk
  unfold isLD at this
  omega
set_option maxRecDepth 100000 in
set_option maxHeartbeats 4000000 in
theorem c_M_heading (l : Launch) (dC : Nat → ClassId) (dI : Nat → Nat → Nat) (a : Nat → Nat) (t : Nat → ClassId) (σ : SM) (sz : Nat) (hG : GM σ) (x : Int32) : Met l y_M_heading (wS y_M_heading b_M_heading 2 (some .int)) (rD 4) (va_Pc [.ref (a 0), .int x] (MB (dC, dI) (yM t) (wM a t σ) sz)) (va_Qi (fun (r : Int32) (u : SM) => (¬ okT (m_sd σ) (m_sz σ) ∧ r = -99 ∧ u = TKM σ) ∨ (okT (m_sd σ) (m_sz σ) ∧ ((¬ (∃ kk, kk < 4 ∧ x = nI kk) ∧ r = nI 0 ∧ u = TKM σ) ∨ ∃ kk, kk < 4 ∧ x = nI kk ∧ MKH (TKM σ) kk r u))) (fun u => ME (dC, dI) (yM t) (va_A (wM a t σ) sz) (wM a t u)) (va_A (wM a t σ) sz)) 0 0 (va_A (wM a t σ) sz) := by
  refine x_enter (by decide) (Nat.le_of_ble_eq_true rfl) ?_
  intro p e s m below meth c ls hx hb hr hml hT hown hlk hnm hl hB
  obtain ⟨rfl, hP, hK, hN, hD0⟩ := hB
  have hD := hD0.self (sz := s.heap.size)
  generalize hAe : va_A (wM a t σ) s.heap.size = A at hD ⊢
  have hA : ∀ q : Nat, s.heap.size ≤ q → A q := fun q h => by rw [← hAe]; exact Or.inr h
  have hS : va_S A s.heap s.heap [] := va_S.rf
  have hP : va_P (dC, dI) classes (wM a t σ) s.heap := hP
  have hl : lv_has ls 2 [(0, .ref (a 0)), (1, .int x)] := hl
  have hown : s.vm.findClass R_M = some m.cls := hown
  have hG2 := hG
  obtain ⟨g_sz, g_sd, g_hn, g_kd, g_lv, g_tx, g_zs, g_ln, g_lf, g_lt, g_rn, g_lk, g_wy, g_wn, g_di, g_co⟩ := hG
  refine lv_aload_n hx hb d_M_heading_0 rfl (lv_at hl 0 rfl) ?_
  refine lv_iconst (v := nI 0) hx hb d_M_heading_1 (by decide) ?_
  refine va_put (D := (dC, dI)) (v := .int (nI 0)) (ty := .int) (C := R_M) (T := F_M) (N := 20) hx hb hT i_M ft_M ft_M_ok n_M hown hK hP hD hS 0 rfl rfl 0 (by decide) (hT _ k_M_52) (fun _ h9 => h9) rfl (by decide +kernel) rfl rfl (Nat.le_of_ble_eq_true rfl) d_M_heading_2 (fun H locs hP hD hS => ?_)
  have hP : va_P (dC, dI) classes (wM a t σ) H := hP
  have hD : va_D A (wM a t σ) := hD
  refine lv_aload_n hx hb d_M_heading_5 rfl (lv_at hl 0 rfl) ?_
  refine x_cMi (wl := wM a t) (x_runV ⟨hx, hb, hml, hown, hT⟩ (c_M_takes l dC dI a t σ H.size hG2) f_M_takes k_M_81 blM (va_recv hK hP (ci := 7) (q0 := 0) rfl rfl) (x_bM hK hP hN hD) hl.1 d_M_heading_6 rfl (lv_room (Nat.le_of_ble_eq_true rfl)) ⟨Nat.le_of_ble_eq_true rfl, Nat.le_of_ble_eq_true rfl⟩ ⟨rfl, rfl⟩ ⟨Nat.le_refl 0, Nat.le_refl 0⟩ rfl) hD hS hA (fun r6 u6 H locs q6 hP hD hS => ?_)
  obtain ⟨hok, hu9⟩ := q6
  obtain rfl : u6 = TKM σ := hu9
  have hGτ : GM (TKM σ) := TKM_G hG2
  rcases hok with ⟨rfl, hok⟩ | ⟨rfl, hok⟩
  · have hc : m_co (TKM σ) ≤ 20 := hok.2.1
    have hq : ∀ k, k < m_co (TKM σ) → m_sd (TKM σ) k < 128 := ok_q hok
    refine x_if_eq (tgt := 20) hx hb d_M_heading_9 (by decide) (fun h => absurd h (by decide)) (fun _ => ?_)
    refine lv_aload_n hx hb d_M_heading_12 rfl (lv_at hl 0 rfl) ?_
    refine lv_iload_n hx hb d_M_heading_13 rfl (lv_at hl 1 rfl) ?_
    refine x_cMi (wl := wM a t) (x_runV ⟨hx, hb, hml, hown, hT⟩ (c_M_make l dC dI a t (TKM σ) H.size hGτ x hc hq) f_M_make k_M_85 blM (va_recv hK hP (ci := 7) (q0 := 0) rfl rfl) (x_bM hK hP hN hD) hl.1 d_M_heading_14 rfl (lv_room (Nat.le_of_ble_eq_true rfl)) ⟨Nat.le_of_ble_eq_true rfl, Nat.le_of_ble_eq_true rfl⟩ ⟨rfl, rfl⟩ ⟨Nat.le_refl 0, Nat.le_refl 0⟩ rfl) hD hS hA (fun r14 u14 H locs q14 hP hD hS => ?_)
    refine lv_goto (tgt := 22) hx hb d_M_heading_17 (by decide) ?_
    exact x_mi (wl := wM a t) u14 hx hb hr hlk hK hP hD hS d_M_heading_22 (Or.inr ⟨hok, q14⟩)
  · refine x_if_eq (tgt := 20) hx hb d_M_heading_9 (by decide) (fun _ => ?_) (fun h => absurd h (by decide))
    refine lv_bipush (v := -99) hx hb d_M_heading_20 (by decide) ?_
    exact x_mi (wl := wM a t) ((TKM σ)) hx hb hr hlk hK hP hD hS d_M_heading_22 (Or.inl ⟨hok, rfl, rfl⟩)

set_option maxRecDepth 100000 in
set_option maxHeartbeats 4000000 in
theorem c_M_find (l : Launch) (dC : Nat → ClassId) (dI : Nat → Nat → Nat) (a : Nat → Nat) (t : Nat → ClassId) (σ : SM) (sz : Nat) (hG : GM σ) : Met l y_M_find (wS y_M_find b_M_find 1 (some .int)) (rD 3) (va_Pc [.ref (a 0)] (MB (dC, dI) (yM t) (wM a t σ) sz)) (va_Qi (fun (r : Int32) (u : SM) => u = TKM σ ∧ ((¬ okT (m_sd σ) (m_sz σ) ∧ r = -99) ∨ (okT (m_sd σ) (m_sz σ) ∧ FST (fun h => h ≠ 0 ∧ m_lv u h = 1 ∧ m_same u h) (m_hn u) r))) (fun u => ME (dC, dI) (yM t) (va_A (wM a t σ) sz) (wM a t u)) (va_A (wM a t σ) sz)) 0 0 (va_A (wM a t σ) sz) := by
  refine x_enter (by decide) (Nat.le_of_ble_eq_true rfl) ?_
  intro p e s m below meth c ls hx hb hr hml hT hown hlk hnm hl hB
  obtain ⟨rfl, hP, hK, hN, hD0⟩ := hB
  have hD := hD0.self (sz := s.heap.size)
  generalize hAe : va_A (wM a t σ) s.heap.size = A at hD ⊢
  have hA : ∀ q : Nat, s.heap.size ≤ q → A q := fun q h => by rw [← hAe]; exact Or.inr h
  have hS : va_S A s.heap s.heap [] := va_S.rf
  have hP : va_P (dC, dI) classes (wM a t σ) s.heap := hP
  have hl : lv_has ls 1 [(0, .ref (a 0))] := hl
  have hown : s.vm.findClass R_M = some m.cls := hown
  have hG2 := hG
  obtain ⟨g_sz, g_sd, g_hn, g_kd, g_lv, g_tx, g_zs, g_ln, g_lf, g_lt, g_rn, g_lk, g_wy, g_wn, g_di, g_co⟩ := hG
  refine lv_aload_n hx hb d_M_find_0 rfl (lv_at hl 0 rfl) ?_
  refine lv_iconst (v := nI 0) hx hb d_M_find_1 (by decide) ?_
  refine va_put (D := (dC, dI)) (v := .int (nI 0)) (ty := .int) (C := R_M) (T := F_M) (N := 20) hx hb hT i_M ft_M ft_M_ok n_M hown hK hP hD hS 0 rfl rfl 0 (by decide) (hT _ k_M_52) (fun _ h9 => h9) rfl (by decide +kernel) rfl rfl (Nat.le_of_ble_eq_true rfl) d_M_find_2 (fun H locs hP hD hS => ?_)
  have hP : va_P (dC, dI) classes (wM a t σ) H := hP
  have hD : va_D A (wM a t σ) := hD
  refine lv_aload_n hx hb d_M_find_5 rfl (lv_at hl 0 rfl) ?_
  refine x_cMi (wl := wM a t) (x_runV ⟨hx, hb, hml, hown, hT⟩ (c_M_takes l dC dI a t σ H.size hG2) f_M_takes k_M_81 blM (va_recv hK hP (ci := 7) (q0 := 0) rfl rfl) (x_bM hK hP hN hD) hl.1 d_M_find_6 rfl (lv_room (Nat.le_of_ble_eq_true rfl)) ⟨Nat.le_of_ble_eq_true rfl, Nat.le_of_ble_eq_true rfl⟩ ⟨rfl, rfl⟩ ⟨Nat.le_refl 0, Nat.le_refl 0⟩ rfl) hD hS hA (fun r6 u6 H locs q6 hP hD hS => ?_)
  obtain ⟨hok, hu9⟩ := q6
  obtain rfl : u6 = TKM σ := hu9
  have hGτ : GM (TKM σ) := TKM_G hG2
  rcases hok with ⟨rfl, hok⟩ | ⟨rfl, hok⟩
  · have hc : m_co (TKM σ) ≤ 20 := hok.2.1
    have hq : ∀ k, k < m_co (TKM σ) → m_sd (TKM σ) k < 128 := ok_q hok
    refine x_if_eq (tgt := 21) hx hb d_M_find_9 (by decide) (fun h => absurd h (by decide)) (fun _ => ?_)
    refine lv_aload_n hx hb d_M_find_12 rfl (lv_at hl 0 rfl) ?_
    refine lv_iconst (v := -1) hx hb d_M_find_13 (by decide) ?_
    refine lv_iconst (v := nI 0) hx hb d_M_find_14 (by decide) ?_
    refine x_ci (x_runV ⟨hx, hb, hml, hown, hT⟩ (c_M_firstA l dC dI a t (TKM σ) hGτ 0 (by omega) hc hq) f_M_first k_M_73 blR (va_recv hK hP (ci := 7) (q0 := 0) rfl rfl) (x_bR hK hP hN) hl.1 d_M_find_15 rfl (lv_room (Nat.le_of_ble_eq_true rfl)) ⟨Nat.le_of_ble_eq_true rfl, Nat.le_of_ble_eq_true rfl⟩ ⟨rfl, rfl⟩ ⟨Nat.le_refl 0, Nat.le_refl 0⟩ rfl) (fun r15 q15 => ?_)
    refine lv_goto (tgt := 23) hx hb d_M_find_18 (by decide) ?_
    exact x_mi (wl := wM a t) ((TKM σ)) hx hb hr hlk hK hP hD hS d_M_find_23 ⟨rfl, Or.inr ⟨hok, q15⟩⟩
  · refine x_if_eq (tgt := 21) hx hb d_M_find_9 (by decide) (fun _ => ?_) (fun h => absurd h (by decide))
    refine lv_bipush (v := -99) hx hb d_M_find_21 (by decide) ?_
    exact x_mi (wl := wM a t) ((TKM σ)) hx hb hr hlk hK hP hD hS d_M_find_23 ⟨rfl, Or.inl ⟨hok, rfl⟩⟩

set_option maxRecDepth 100000 in
set_option maxHeartbeats 4000000 in
theorem c_M_linkedTo (l : Launch) (dC : Nat → ClassId) (dI : Nat → Nat → Nat) (a : Nat → Nat) (t : Nat → ClassId) (σ : SM) (hG : GM σ) (j : Nat) (hj : j ≤ 60) : Met l y_M_linkedTo (wS y_M_linkedTo b_M_linkedTo 4 (some .int)) (rD 0) (va_Pc [.ref (a 0), .int (nI j)] (RB (dC, dI) (yM t) (wM a t σ))) (vp_Si (fun r => r = nI (cntN (m_lk σ) j (m_rn σ)))) 0 0 (fun _ => False) := by
  refine x_enter (by decide) (Nat.le_of_ble_eq_true rfl) ?_
  intro p e s m below meth c ls hx hb hr hml hT hown hlk hnm hl hB
  obtain ⟨hP, hK, hN⟩ := hB
  have hl : lv_has ls 4 [(0, .ref (a 0)), (1, .int (nI j))] := hl
  have hown : s.vm.findClass R_M = some m.cls := hown
  have hG2 := hG
  obtain ⟨g_sz, g_sd, g_hn, g_kd, g_lv, g_tx, g_zs, g_ln, g_lf, g_lt, g_rn, g_lk, g_wy, g_wn, g_di, g_co⟩ := hG
  refine lv_iconst (v := nI 0) hx hb d_M_linkedTo_0 (by decide) ?_
  refine lv_istore_n (lv' := [(2, .int (nI 0)), (0, .ref (a 0)), (1, .int (nI j))]) hx hb d_M_linkedTo_1 rfl hl (by decide) rfl (fun ls hl => ?_)
  refine lv_iconst (v := nI 1) hx hb d_M_linkedTo_2 (by decide) ?_
  refine lv_istore_n (lv' := [(3, .int (nI 1)), (2, .int (nI 0)), (0, .ref (a 0)), (1, .int (nI j))]) hx hb d_M_linkedTo_3 rfl hl (by decide) rfl (fun ls hl => ?_)
  have hloop4 : ∀ (n4 : Nat) (i : Nat) (k : Nat) (ls : Array Slot), i ≤ m_rn σ → k = cntN (m_lk σ) j i → m_rn σ + 1 - i < n4 → lv_has ls 4 [(0, .ref (a 0)), (1, .int (nI j)), (2, .int (nI k)), (3, .int (nI (i + 1)))] → W p l e (rD 0) s m ([.ref (a 0), .int (nI j)] : List Value).toArray below meth c s.heap [] 0 0 (MQ below (vp_Si (fun r => r = nI (cntN (m_lk σ) j (m_rn σ)))) ([.ref (a 0), .int (nI j)] : List Value).toArray s 0 0 (fun _ => False)) (F0 m 4 ls []) := by
    intro n4
    induction n4 with
    | zero => intro i k ls _ _ h9; exact absurd h9 (Nat.not_lt_zero _)
    | succ n4 ih4 =>
      intro i k ls hi hk hmu4 hl
      refine lv_iload_n hx hb d_M_linkedTo_4 rfl (lv_at hl 3 rfl) ?_
      refine lv_aload_n hx hb d_M_linkedTo_5 rfl (lv_at hl 0 rfl) ?_
      refine va_get (D := (dC, dI)) (C := R_M) (T := F_M) (N := 20) hx hb hT i_M hown hK hP 0 rfl rfl 13 (by decide) (hT _ k_M_88) (fun _ h9 => h9) (v := .int (nI (m_rn σ))) rfl d_M_linkedTo_6 ?_
      refine x_icmp_gt (tgt := 36) hx hb d_M_linkedTo_9 (by decide) (fun c9 => ?_) (fun c9 => ?_)
      · refine lv_iload_n hx hb d_M_linkedTo_36 rfl (lv_at hl 2 rfl) ?_
        exact x_ri hx hb hr hlk d_M_linkedTo_37 (by rw [hk, show i = m_rn σ by omega])
      · have hk2 := cntN_le (m_lk σ) j i
        refine lv_iload_n hx hb d_M_linkedTo_12 rfl (lv_at hl 2 rfl) ?_
        refine lv_aload_n hx hb d_M_linkedTo_13 rfl (lv_at hl 0 rfl) ?_
        refine va_get (D := (dC, dI)) (C := R_M) (T := F_M) (N := 20) hx hb hT i_M hown hK hP 0 rfl rfl 14 (by decide) (hT _ k_M_40) (fun _ h9 => h9) (v := .ref (a 10)) rfl d_M_linkedTo_14 ?_
        refine lv_iload_n hx hb d_M_linkedTo_17 rfl (lv_at hl 3 rfl) ?_
        refine x_iald hx hb hK hP 10 9 (f := (m_lk σ)) rfl rfl d_M_linkedTo_18 (by omega) ?_
        refine lv_iload_n hx hb d_M_linkedTo_19 rfl (lv_at hl 1 rfl) ?_
        have g9 := g_lk (i + 1)
        refine x_icmp_ne (tgt := 27) hx hb d_M_linkedTo_20 (by decide) (fun c20 => ?_) (fun c20 => ?_)
        · refine lv_iconst (v := nI 0) hx hb d_M_linkedTo_27 (by decide) ?_
          refine x_iadd hx hb d_M_linkedTo_28 ?_
          refine lv_istore_n (lv' := [(2, .int (nI (k + 0))), (0, .ref (a 0)), (1, .int (nI j)), (3, .int (nI (i + 1)))]) hx hb d_M_linkedTo_29 rfl hl (by decide) rfl (fun ls hl => ?_)
          refine x_iinc (lv' := [(3, .int (nI ((i + 1) + 1))), (2, .int (nI (k + 0))), (0, .ref (a 0)), (1, .int (nI j))]) hx hb d_M_linkedTo_30 hl (k := 3) rfl (by decide) rfl (fun ls hl => ?_)
          refine lv_goto (tgt := 4) hx hb d_M_linkedTo_33 (by decide) ?_
          exact ih4 (i + 1) _ ls (by omega) (by simp only [cntN]; first | (rw [if_pos (by omega)]; omega) | (rw [if_neg (by omega)]; omega)) (by omega) (lv_sub hl [2, 3, 1, 0] rfl)
        · refine lv_iconst (v := nI 1) hx hb d_M_linkedTo_23 (by decide) ?_
          refine lv_goto (tgt := 28) hx hb d_M_linkedTo_24 (by decide) ?_
          refine x_iadd hx hb d_M_linkedTo_28 ?_
          refine lv_istore_n (lv' := [(2, .int (nI (k + 1))), (0, .ref (a 0)), (1, .int (nI j)), (3, .int (nI (i + 1)))]) hx hb d_M_linkedTo_29 rfl hl (by decide) rfl (fun ls hl => ?_)
          refine x_iinc (lv' := [(3, .int (nI ((i + 1) + 1))), (2, .int (nI (k + 1))), (0, .ref (a 0)), (1, .int (nI j))]) hx hb d_M_linkedTo_30 hl (k := 3) rfl (by decide) rfl (fun ls hl => ?_)
          refine lv_goto (tgt := 4) hx hb d_M_linkedTo_33 (by decide) ?_
          exact ih4 (i + 1) _ ls (by omega) (by simp only [cntN]; first | (rw [if_pos (by omega)]; omega) | (rw [if_neg (by omega)]; omega)) (by omega) (lv_sub hl [2, 3, 1, 0] rfl)
  exact hloop4 _ 0 0 ls (by omega) rfl (Nat.lt_succ_self _) (lv_sub hl [2, 3, 1, 0] rfl)

theorem cpT_lt2 {f g : Nat → Nat} {b n c : Nat} (h : ∀ j, f j < c) (h2 : ∀ k, k < n → g k < c) : ∀ j, cpT f b g n j < c := fun j => by unfold cpT; split; exact h2 _ (by omega); exact h j
set_option maxRecDepth 100000 in
set_option maxHeartbeats 4000000 in
theorem c_M_rename (l : Launch) (dC : Nat → ClassId) (dI : Nat → Nat → Nat) (a : Nat → Nat) (t : Nat → ClassId) (σ : SM) (sz : Nat) (hG : GM σ) (x : Int32) : Met l y_M_rename (wS y_M_rename b_M_rename 3 (some .int)) (rD 3) (va_Pc [.ref (a 0), .int x] (MB (dC, dI) (yM t) (wM a t σ) sz)) (va_Qi (fun (r : Int32) (u : SM) => (¬ okT (m_sd σ) (m_sz σ) ∧ r = -99 ∧ u = TKM σ) ∨ (okT (m_sd σ) (m_sz σ) ∧ ((¬ (∃ j, 1 ≤ j ∧ j ≤ m_hn (TKM σ) ∧ m_lv (TKM σ) j = 1 ∧ x = nI j) ∧ r = -100 ∧ u = TKM σ) ∨ ∃ j, 1 ≤ j ∧ j ≤ m_hn (TKM σ) ∧ m_lv (TKM σ) j = 1 ∧ x = nI j ∧ ((∃ i, 1 ≤ i ∧ i ≤ m_hn (TKM σ) ∧ r = -nI i ∧ FST (fun h => h ≠ j ∧ m_lv (TKM σ) h = 1 ∧ m_kd (TKM σ) h = m_kd (TKM σ) j ∧ m_same (TKM σ) h) (m_hn (TKM σ)) (nI i) ∧ u = TKM σ) ∨ (FST (fun h => h ≠ j ∧ m_lv (TKM σ) h = 1 ∧ m_kd (TKM σ) h = m_kd (TKM σ) j ∧ m_same (TKM σ) h) (m_hn (TKM σ)) (nI 0) ∧ r = nI (cntN (m_lk σ) j (m_rn σ)) ∧ u = mu_zs (mu_tx (TKM σ) (cpT (m_tx σ) (20 * j) (m_sd σ) (m_sz σ))) (updN (m_zs σ) j (m_sz σ))))))) (fun u => ME (dC, dI) (yM t) (va_A (wM a t σ) sz) (wM a t u)) (va_A (wM a t σ) sz)) 0 0 (va_A (wM a t σ) sz) := by
  refine x_enter (by decide) (Nat.le_of_ble_eq_true rfl) ?_
  intro p e s m below meth c ls hx hb hr hml hT hown hlk hnm hl hB
  obtain ⟨rfl, hP, hK, hN, hD0⟩ := hB
  have hD := hD0.self (sz := s.heap.size)
  generalize hAe : va_A (wM a t σ) s.heap.size = A at hD ⊢
  have hA : ∀ q : Nat, s.heap.size ≤ q → A q := fun q h => by rw [← hAe]; exact Or.inr h
  have hS : va_S A s.heap s.heap [] := va_S.rf
  have hP : va_P (dC, dI) classes (wM a t σ) s.heap := hP
  have hl : lv_has ls 3 [(0, .ref (a 0)), (1, .int x)] := hl
  have hown : s.vm.findClass R_M = some m.cls := hown
  have hG2 := hG
  obtain ⟨g_sz, g_sd, g_hn, g_kd, g_lv, g_tx, g_zs, g_ln, g_lf, g_lt, g_rn, g_lk, g_wy, g_wn, g_di, g_co⟩ := hG
  have hhn : m_hn (TKM σ) ≤ 60 := g_hn
  refine lv_aload_n hx hb d_M_rename_0 rfl (lv_at hl 0 rfl) ?_
  refine lv_iconst (v := nI 0) hx hb d_M_rename_1 (by decide) ?_
  refine va_put (D := (dC, dI)) (v := .int (nI 0)) (ty := .int) (C := R_M) (T := F_M) (N := 20) hx hb hT i_M ft_M ft_M_ok n_M hown hK hP hD hS 0 rfl rfl 0 (by decide) (hT _ k_M_52) (fun _ h9 => h9) rfl (by decide +kernel) rfl rfl (Nat.le_of_ble_eq_true rfl) d_M_rename_2 (fun H locs hP hD hS => ?_)
  have hP : va_P (dC, dI) classes (wM a t σ) H := hP
  have hD : va_D A (wM a t σ) := hD
  refine lv_aload_n hx hb d_M_rename_5 rfl (lv_at hl 0 rfl) ?_
  refine x_cMi (wl := wM a t) (x_runV ⟨hx, hb, hml, hown, hT⟩ (c_M_takes l dC dI a t σ H.size hG2) f_M_takes k_M_81 blM (va_recv hK hP (ci := 7) (q0 := 0) rfl rfl) (x_bM hK hP hN hD) hl.1 d_M_rename_6 rfl (lv_room (Nat.le_of_ble_eq_true rfl)) ⟨Nat.le_of_ble_eq_true rfl, Nat.le_of_ble_eq_true rfl⟩ ⟨rfl, rfl⟩ ⟨Nat.le_refl 0, Nat.le_refl 0⟩ rfl) hD hS hA (fun r6 u6 H locs q6 hP hD hS => ?_)
  obtain ⟨hok, hu9⟩ := q6
  obtain rfl : u6 = TKM σ := hu9
  have hGτ : GM (TKM σ) := TKM_G hG2
  rcases hok with ⟨rfl, hok⟩ | ⟨rfl, hok⟩
  · have hc : m_co (TKM σ) ≤ 20 := hok.2.1
    have hq : ∀ k, k < m_co (TKM σ) → m_sd (TKM σ) k < 128 := ok_q hok
    refine x_if_ne (tgt := 15) hx hb d_M_rename_9 (by decide) (fun _ => ?_) (fun h => absurd h (by decide))
    refine lv_aload_n hx hb d_M_rename_15 rfl (lv_at hl 0 rfl) ?_
    refine lv_iload_n hx hb d_M_rename_16 rfl (lv_at hl 1 rfl) ?_
    refine x_ci (x_runV ⟨hx, hb, hml, hown, hT⟩ (c_M_isLive l dC dI a t ((TKM σ)) hGτ x) f_M_isLive k_M_91 blR (va_recv hK hP (ci := 7) (q0 := 0) rfl rfl) (x_bR hK hP hN) hl.1 d_M_rename_17 rfl (lv_room (Nat.le_of_ble_eq_true rfl)) ⟨Nat.le_of_ble_eq_true rfl, Nat.le_of_ble_eq_true rfl⟩ ⟨rfl, rfl⟩ ⟨Nat.le_refl 0, Nat.le_refl 0⟩ rfl) (fun r17 q17 => ?_)
    rcases q17 with ⟨rfl, j, hj1, hj2, hj3, rfl⟩ | ⟨rfl, hnj⟩
    · refine x_if_ne (tgt := 26) hx hb d_M_rename_20 (by decide) (fun _ => ?_) (fun h => absurd h (by decide))
      refine lv_aload_n hx hb d_M_rename_26 rfl (lv_at hl 0 rfl) ?_
      refine lv_aload_n hx hb d_M_rename_27 rfl (lv_at hl 0 rfl) ?_
      refine va_get (D := (dC, dI)) (C := R_M) (T := F_M) (N := 20) hx hb hT i_M hown hK hP 0 rfl rfl 4 (by decide) (hT _ k_M_13) (fun _ h9 => h9) (v := .ref (a 2)) rfl d_M_rename_28 ?_
      refine lv_iload_n hx hb d_M_rename_31 rfl (lv_at hl 1 rfl) ?_
      refine x_iald hx hb hK hP 2 1 (f := (m_kd (TKM σ))) rfl rfl d_M_rename_32 (by omega) ?_
      refine lv_iload_n hx hb d_M_rename_33 rfl (lv_at hl 1 rfl) ?_
      refine x_ci (x_runV ⟨hx, hb, hml, hown, hT⟩ (c_M_firstK l dC dI a t (TKM σ) hGτ (m_kd (TKM σ) j) (g_kd j) j (by omega) hc hq) f_M_first k_M_73 blR (va_recv hK hP (ci := 7) (q0 := 0) rfl rfl) (x_bR hK hP hN) hl.1 d_M_rename_34 rfl (lv_room (Nat.le_of_ble_eq_true rfl)) ⟨Nat.le_of_ble_eq_true rfl, Nat.le_of_ble_eq_true rfl⟩ ⟨rfl, rfl⟩ ⟨Nat.le_refl 0, Nat.le_refl 0⟩ rfl) (fun r34 q34 => ?_)
      have qF := q34
      rcases q34 with ⟨i, hi1, hi2, _, _, rfl⟩ | ⟨_, rfl⟩
      · refine lv_istore_n (lv' := [(2, .int (nI i)), (0, .ref (a 0)), (1, .int (nI j))]) hx hb d_M_rename_37 rfl hl (by decide) rfl (fun ls hl => ?_)
        refine lv_iload_n hx hb d_M_rename_38 rfl (lv_at hl 0 rfl) ?_
        refine x_if_le (tgt := 45) hx hb d_M_rename_39 (by decide) (fun c39 => ?_) (fun c39 => ?_)
        · refine lv_aload_n hx hb d_M_rename_45 rfl (lv_at hl 1 rfl) ?_
          refine lv_iload_n hx hb d_M_rename_46 rfl (lv_at hl 2 rfl) ?_
          refine x_cMv (wl := wM a t) (x_runV ⟨hx, hb, hml, hown, hT⟩ (c_M_lay l dC dI a t (TKM σ) H.size hGτ j (by omega) hc hq) f_M_lay k_M_77 blM (va_recv hK hP (ci := 7) (q0 := 0) rfl rfl) (x_bM hK hP hN hD) hl.1 d_M_rename_47 rfl (lv_room (Nat.le_of_ble_eq_true rfl)) ⟨Nat.le_of_ble_eq_true rfl, Nat.le_of_ble_eq_true rfl⟩ ⟨rfl, rfl⟩ ⟨Nat.le_refl 0, Nat.le_refl 0⟩ rfl) hD hS hA (fun u47 H locs q47 hP hD hS => ?_)
          subst q47
          have hP : va_P (dC, dI) classes (wM a t (mu_zs (mu_tx ((TKM σ)) (cpT (m_tx σ) (20 * j) (m_sd σ) (m_sz σ))) (updN (m_zs σ) j (m_sz σ)))) H := hP
          have hD : va_D A (wM a t (mu_zs (mu_tx ((TKM σ)) (cpT (m_tx σ) (20 * j) (m_sd σ) (m_sz σ))) (updN (m_zs σ) j (m_sz σ)))) := hD
          have hG3 : GM (mu_zs (mu_tx ((TKM σ)) (cpT (m_tx σ) (20 * j) (m_sd σ) (m_sz σ))) (updN (m_zs σ) j (m_sz σ))) := GM_zs (GM_tx hGτ (cpT_lt2 g_tx hq)) (updN_le g_zs hc)
          refine lv_aload_n hx hb d_M_rename_50 rfl (lv_at hl 1 rfl) ?_
          refine lv_iload_n hx hb d_M_rename_51 rfl (lv_at hl 2 rfl) ?_
          refine x_ci (x_runV ⟨hx, hb, hml, hown, hT⟩ (c_M_linkedTo l dC dI a t (mu_zs (mu_tx ((TKM σ)) (cpT (m_tx σ) (20 * j) (m_sd σ) (m_sz σ))) (updN (m_zs σ) j (m_sz σ))) hG3 j (by omega)) f_M_linkedTo k_M_94 blR (va_recv hK hP (ci := 7) (q0 := 0) rfl rfl) (x_bR hK hP hN) hl.1 d_M_rename_52 rfl (lv_room (Nat.le_of_ble_eq_true rfl)) ⟨Nat.le_of_ble_eq_true rfl, Nat.le_of_ble_eq_true rfl⟩ ⟨rfl, rfl⟩ ⟨Nat.le_refl 0, Nat.le_refl 0⟩ rfl) (fun r52 q52 => ?_)
          subst q52
          exact x_mi (wl := wM a t) (mu_zs (mu_tx ((TKM σ)) (cpT (m_tx σ) (20 * j) (m_sd σ) (m_sz σ))) (updN (m_zs σ) j (m_sz σ))) hx hb hr hlk hK hP hD hS d_M_rename_55 (Or.inr ⟨hok, Or.inr ⟨j, hj1, hj2, hj3, rfl, Or.inr ⟨by first | exact qF | (exfalso; omega), rfl, rfl⟩⟩⟩)
        · refine lv_iload_n hx hb d_M_rename_42 rfl (lv_at hl 0 rfl) ?_
          refine lv_ineg hx hb d_M_rename_43 ?_
          exact x_mi (wl := wM a t) ((TKM σ)) hx hb hr hlk hK hP hD hS d_M_rename_44 (Or.inr ⟨hok, Or.inr ⟨j, hj1, hj2, hj3, rfl, Or.inl ⟨i, hi1, hi2, rfl, qF, rfl⟩⟩⟩)
      · refine lv_istore_n (lv' := [(2, .int (nI 0)), (0, .ref (a 0)), (1, .int (nI j))]) hx hb d_M_rename_37 rfl hl (by decide) rfl (fun ls hl => ?_)
        refine lv_iload_n hx hb d_M_rename_38 rfl (lv_at hl 0 rfl) ?_
        refine x_if_le (tgt := 45) hx hb d_M_rename_39 (by decide) (fun _ => ?_) (fun h => absurd h (by decide))
        refine lv_aload_n hx hb d_M_rename_45 rfl (lv_at hl 1 rfl) ?_
        refine lv_iload_n hx hb d_M_rename_46 rfl (lv_at hl 2 rfl) ?_
        refine x_cMv (wl := wM a t) (x_runV ⟨hx, hb, hml, hown, hT⟩ (c_M_lay l dC dI a t (TKM σ) H.size hGτ j (by omega) hc hq) f_M_lay k_M_77 blM (va_recv hK hP (ci := 7) (q0 := 0) rfl rfl) (x_bM hK hP hN hD) hl.1 d_M_rename_47 rfl (lv_room (Nat.le_of_ble_eq_true rfl)) ⟨Nat.le_of_ble_eq_true rfl, Nat.le_of_ble_eq_true rfl⟩ ⟨rfl, rfl⟩ ⟨Nat.le_refl 0, Nat.le_refl 0⟩ rfl) hD hS hA (fun u47 H locs q47 hP hD hS => ?_)
        subst q47
        have hP : va_P (dC, dI) classes (wM a t (mu_zs (mu_tx ((TKM σ)) (cpT (m_tx σ) (20 * j) (m_sd σ) (m_sz σ))) (updN (m_zs σ) j (m_sz σ)))) H := hP
        have hD : va_D A (wM a t (mu_zs (mu_tx ((TKM σ)) (cpT (m_tx σ) (20 * j) (m_sd σ) (m_sz σ))) (updN (m_zs σ) j (m_sz σ)))) := hD
        have hG3 : GM (mu_zs (mu_tx ((TKM σ)) (cpT (m_tx σ) (20 * j) (m_sd σ) (m_sz σ))) (updN (m_zs σ) j (m_sz σ))) := GM_zs (GM_tx hGτ (cpT_lt2 g_tx hq)) (updN_le g_zs hc)
        refine lv_aload_n hx hb d_M_rename_50 rfl (lv_at hl 1 rfl) ?_
        refine lv_iload_n hx hb d_M_rename_51 rfl (lv_at hl 2 rfl) ?_
        refine x_ci (x_runV ⟨hx, hb, hml, hown, hT⟩ (c_M_linkedTo l dC dI a t (mu_zs (mu_tx ((TKM σ)) (cpT (m_tx σ) (20 * j) (m_sd σ) (m_sz σ))) (updN (m_zs σ) j (m_sz σ))) hG3 j (by omega)) f_M_linkedTo k_M_94 blR (va_recv hK hP (ci := 7) (q0 := 0) rfl rfl) (x_bR hK hP hN) hl.1 d_M_rename_52 rfl (lv_room (Nat.le_of_ble_eq_true rfl)) ⟨Nat.le_of_ble_eq_true rfl, Nat.le_of_ble_eq_true rfl⟩ ⟨rfl, rfl⟩ ⟨Nat.le_refl 0, Nat.le_refl 0⟩ rfl) (fun r52 q52 => ?_)
        subst q52
        exact x_mi (wl := wM a t) (mu_zs (mu_tx ((TKM σ)) (cpT (m_tx σ) (20 * j) (m_sd σ) (m_sz σ))) (updN (m_zs σ) j (m_sz σ))) hx hb hr hlk hK hP hD hS d_M_rename_55 (Or.inr ⟨hok, Or.inr ⟨j, hj1, hj2, hj3, rfl, Or.inr ⟨by first | exact qF | (exfalso; omega), rfl, rfl⟩⟩⟩)
    · refine x_if_ne (tgt := 26) hx hb d_M_rename_20 (by decide) (fun h => absurd h (by decide)) (fun _ => ?_)
      refine lv_bipush (v := -100) hx hb d_M_rename_23 (by decide) ?_
      exact x_mi (wl := wM a t) ((TKM σ)) hx hb hr hlk hK hP hD hS d_M_rename_25 (Or.inr ⟨hok, Or.inl ⟨hnj, rfl, rfl⟩⟩)
  · refine x_if_ne (tgt := 15) hx hb d_M_rename_9 (by decide) (fun h => absurd h (by decide)) (fun _ => ?_)
    refine lv_bipush (v := -99) hx hb d_M_rename_12 (by decide) ?_
    exact x_mi (wl := wM a t) ((TKM σ)) hx hb hr hlk hK hP hD hS d_M_rename_14 (Or.inl ⟨hok, rfl, rfl⟩)
end
section
set_option maxRecDepth 100000 in
set_option maxHeartbeats 4000000 in
theorem c_M_letter (l : Launch) (dC : Nat → ClassId) (dI : Nat → Nat → Nat) (a : Nat → Nat) (t : Nat → ClassId) (σ : SM) (sz : Nat) (hG : GM σ) (x y : Int32) : Met l y_M_letter (wS y_M_letter b_M_letter 3 (some .int)) (rD 0) (va_Pc [.ref (a 0), .int x, .int y] (MB (dC, dI) (yM t) (wM a t σ) sz)) (va_Qi (fun (r : Int32) (u : SM) => u = σ ∧ ((∃ j i, 1 ≤ j ∧ j ≤ m_hn σ ∧ i < m_zs σ j ∧ x = nI j ∧ y = nI i ∧ r = nI (m_tx σ (20 * j + i))) ∨ ((¬ ∃ j i, 1 ≤ j ∧ j ≤ m_hn σ ∧ i < m_zs σ j ∧ x = nI j ∧ y = nI i) ∧ r = -1))) (fun u => ME (dC, dI) (yM t) (va_A (wM a t σ) sz) (wM a t u)) (va_A (wM a t σ) sz)) 0 0 (va_A (wM a t σ) sz) := by
  refine x_enter (by decide) (Nat.le_of_ble_eq_true rfl) ?_
  intro p e s m below meth c ls hx hb hr hml hT hown hlk hnm hl hB
  obtain ⟨rfl, hP, hK, hN, hD0⟩ := hB
  have hD := hD0.self (sz := s.heap.size)
  generalize hAe : va_A (wM a t σ) s.heap.size = A at hD ⊢
  have hA : ∀ q : Nat, s.heap.size ≤ q → A q := fun q h => by rw [← hAe]; exact Or.inr h
  have hS : va_S A s.heap s.heap [] := va_S.rf
  have hP : va_P (dC, dI) classes (wM a t σ) s.heap := hP
  have hl : lv_has ls 3 [(0, .ref (a 0)), (1, .int x), (2, .int y)] := hl
  have hown : s.vm.findClass R_M = some m.cls := hown
  have hG2 := hG
  obtain ⟨g_sz, g_sd, g_hn, g_kd, g_lv, g_tx, g_zs, g_ln, g_lf, g_lt, g_rn, g_lk, g_wy, g_wn, g_di, g_co⟩ := hG
  refine lv_aload_n hx hb d_M_letter_0 rfl (lv_at hl 0 rfl) ?_
  refine lv_iconst (v := nI 0) hx hb d_M_letter_1 (by decide) ?_
  refine va_put (D := (dC, dI)) (v := .int (nI 0)) (ty := .int) (C := R_M) (T := F_M) (N := 20) hx hb hT i_M ft_M ft_M_ok n_M hown hK hP hD hS 0 rfl rfl 0 (by decide) (hT _ k_M_52) (fun _ h9 => h9) rfl (by decide +kernel) rfl rfl (Nat.le_of_ble_eq_true rfl) d_M_letter_2 (fun H locs hP hD hS => ?_)
  have hP : va_P (dC, dI) classes (wM a t σ) H := hP
  have hD : va_D A (wM a t σ) := hD
  refine lv_iload_n hx hb d_M_letter_5 rfl (lv_at hl 1 rfl) ?_
  refine lv_iconst (v := nI 1) hx hb d_M_letter_6 (by decide) ?_
  refine lv_icmp_lt (tgt := 32) hx hb d_M_letter_7 (by decide) (fun c7 => ?_) (fun c7 => ?_)
  · refine lv_iconst (v := -1) hx hb d_M_letter_32 (by decide) ?_
    refine lv_goto (tgt := 47) hx hb d_M_letter_33 (by decide) ?_
    exact x_mi (wl := wM a t) σ hx hb hr hlk hK hP hD hS d_M_letter_47 ⟨rfl, Or.inr ⟨by rintro ⟨j', i', h1, h2, h3, h4, h5⟩; first | exact x_there1 (n := m_hn σ) (by omega) c7 ⟨j', h1, h2, h4⟩ | exact x_there2 (n := m_hn σ) (by omega) c15 ⟨j', h1, h2, h4⟩ | (have g9 := g_zs j'; rw [h5] at c19; exact absurd c19 (nI_pos (by omega))) | (have h6 := (nI_eq (by omega) (by omega)).mp h4; subst h6; have g9 := g_zs j; have h7 := (nI_eq (by omega) (by omega)).mp h5; omega), rfl⟩⟩
  · refine lv_iload_n hx hb d_M_letter_10 rfl (lv_at hl 1 rfl) ?_
    refine lv_aload_n hx hb d_M_letter_11 rfl (lv_at hl 0 rfl) ?_
    refine va_get (D := (dC, dI)) (C := R_M) (T := F_M) (N := 20) hx hb hT i_M hown hK hP 0 rfl rfl 3 (by decide) (hT _ k_M_66) (fun _ h9 => h9) (v := .int (nI (m_hn σ))) rfl d_M_letter_12 ?_
    refine lv_icmp_gt (tgt := 32) hx hb d_M_letter_15 (by decide) (fun c15 => ?_) (fun c15 => ?_)
    · refine lv_iconst (v := -1) hx hb d_M_letter_32 (by decide) ?_
      refine lv_goto (tgt := 47) hx hb d_M_letter_33 (by decide) ?_
      exact x_mi (wl := wM a t) σ hx hb hr hlk hK hP hD hS d_M_letter_47 ⟨rfl, Or.inr ⟨by rintro ⟨j', i', h1, h2, h3, h4, h5⟩; first | exact x_there1 (n := m_hn σ) (by omega) c7 ⟨j', h1, h2, h4⟩ | exact x_there2 (n := m_hn σ) (by omega) c15 ⟨j', h1, h2, h4⟩ | (have g9 := g_zs j'; rw [h5] at c19; exact absurd c19 (nI_pos (by omega))) | (have h6 := (nI_eq (by omega) (by omega)).mp h4; subst h6; have g9 := g_zs j; have h7 := (nI_eq (by omega) (by omega)).mp h5; omega), rfl⟩⟩
    · obtain ⟨j, hj1, hj2, rfl⟩ := x_there (by omega) c7 c15
      have g1 := g_zs j
      refine lv_iload_n hx hb d_M_letter_18 rfl (lv_at hl 2 rfl) ?_
      refine lv_if_lt (tgt := 32) hx hb d_M_letter_19 (by decide) (fun c19 => ?_) (fun c19 => ?_)
      · refine lv_iconst (v := -1) hx hb d_M_letter_32 (by decide) ?_
        refine lv_goto (tgt := 47) hx hb d_M_letter_33 (by decide) ?_
        exact x_mi (wl := wM a t) σ hx hb hr hlk hK hP hD hS d_M_letter_47 ⟨rfl, Or.inr ⟨by rintro ⟨j', i', h1, h2, h3, h4, h5⟩; first | exact x_there1 (n := m_hn σ) (by omega) c7 ⟨j', h1, h2, h4⟩ | exact x_there2 (n := m_hn σ) (by omega) c15 ⟨j', h1, h2, h4⟩ | (have g9 := g_zs j'; rw [h5] at c19; exact absurd c19 (nI_pos (by omega))) | (have h6 := (nI_eq (by omega) (by omega)).mp h4; subst h6; have g9 := g_zs j; have h7 := (nI_eq (by omega) (by omega)).mp h5; omega), rfl⟩⟩
      · obtain ⟨i, hi, rfl⟩ := nI_of c19
        refine lv_iload_n hx hb d_M_letter_22 rfl (lv_at hl 2 rfl) ?_
        refine lv_aload_n hx hb d_M_letter_23 rfl (lv_at hl 0 rfl) ?_
        refine va_get (D := (dC, dI)) (C := R_M) (T := F_M) (N := 20) hx hb hT i_M hown hK hP 0 rfl rfl 7 (by decide) (hT _ k_M_24) (fun _ h9 => h9) (v := .ref (a 5)) rfl d_M_letter_24 ?_
        refine lv_iload_n hx hb d_M_letter_27 rfl (lv_at hl 1 rfl) ?_
        refine x_iald hx hb hK hP 5 4 (f := (m_zs σ)) rfl rfl d_M_letter_28 (by omega) ?_
        refine x_icmp_lt (tgt := 36) hx hb d_M_letter_29 (by decide) (fun c29 => ?_) (fun c29 => ?_)
        · refine lv_aload_n hx hb d_M_letter_36 rfl (lv_at hl 0 rfl) ?_
          refine va_get (D := (dC, dI)) (C := R_M) (T := F_M) (N := 20) hx hb hT i_M hown hK hP 0 rfl rfl 6 (by decide) (hT _ k_M_21) (fun _ h9 => h9) (v := .ref (a 4)) rfl d_M_letter_37 ?_
          refine lv_bipush (v := nI 20) hx hb d_M_letter_40 (by decide) ?_
          refine lv_iload_n hx hb d_M_letter_42 rfl (lv_at hl 1 rfl) ?_
          refine x_imul hx hb d_M_letter_43 ?_
          refine lv_iload_n hx hb d_M_letter_44 rfl (lv_at hl 2 rfl) ?_
          refine x_iadd hx hb d_M_letter_45 ?_
          refine x_bald hx hb hK hP 4 3 (f := (m_tx σ)) rfl rfl d_M_letter_46 (by omega) ?_
          exact x_mi (wl := wM a t) σ hx hb hr hlk hK hP hD hS d_M_letter_47 ⟨rfl, Or.inl ⟨j, i, hj1, hj2, by omega, rfl, rfl, rfl⟩⟩
        · refine lv_iconst (v := -1) hx hb d_M_letter_32 (by decide) ?_
          refine lv_goto (tgt := 47) hx hb d_M_letter_33 (by decide) ?_
          exact x_mi (wl := wM a t) σ hx hb hr hlk hK hP hD hS d_M_letter_47 ⟨rfl, Or.inr ⟨by rintro ⟨j', i', h1, h2, h3, h4, h5⟩; first | exact x_there1 (n := m_hn σ) (by omega) c7 ⟨j', h1, h2, h4⟩ | exact x_there2 (n := m_hn σ) (by omega) c15 ⟨j', h1, h2, h4⟩ | (have g9 := g_zs j'; rw [h5] at c19; exact absurd c19 (nI_pos (by omega))) | (have h6 := (nI_eq (by omega) (by omega)).mp h4; subst h6; have g9 := g_zs j; have h7 := (nI_eq (by omega) (by omega)).mp h5; omega), rfl⟩⟩

set_option maxRecDepth 100000 in
set_option maxHeartbeats 4000000 in
theorem c_M_ring (l : Launch) (dC : Nat → ClassId) (dI : Nat → Nat → Nat) (a : Nat → Nat) (t : Nat → ClassId) (σ : SM) (sz : Nat) (hG : GM σ) (x : Int32) : Met l y_M_ring (wS y_M_ring b_M_ring 2 (some .int)) (rD 0) (va_Pc [.ref (a 0), .int x] (MB (dC, dI) (yM t) (wM a t σ) sz)) (va_Qi (fun (r : Int32) (u : SM) => u = σ ∧ ((∃ i, i < m_wn σ ∧ x = nI i ∧ r = nI (m_wy σ i)) ∨ ((¬ ∃ i, i < m_wn σ ∧ x = nI i) ∧ r = nI 0))) (fun u => ME (dC, dI) (yM t) (va_A (wM a t σ) sz) (wM a t u)) (va_A (wM a t σ) sz)) 0 0 (va_A (wM a t σ) sz) := by
  refine x_enter (by decide) (Nat.le_of_ble_eq_true rfl) ?_
  intro p e s m below meth c ls hx hb hr hml hT hown hlk hnm hl hB
  obtain ⟨rfl, hP, hK, hN, hD0⟩ := hB
  have hD := hD0.self (sz := s.heap.size)
  generalize hAe : va_A (wM a t σ) s.heap.size = A at hD ⊢
  have hA : ∀ q : Nat, s.heap.size ≤ q → A q := fun q h => by rw [← hAe]; exact Or.inr h
  have hS : va_S A s.heap s.heap [] := va_S.rf
  have hP : va_P (dC, dI) classes (wM a t σ) s.heap := hP
  have hl : lv_has ls 2 [(0, .ref (a 0)), (1, .int x)] := hl
  have hown : s.vm.findClass R_M = some m.cls := hown
  have hG2 := hG
  obtain ⟨g_sz, g_sd, g_hn, g_kd, g_lv, g_tx, g_zs, g_ln, g_lf, g_lt, g_rn, g_lk, g_wy, g_wn, g_di, g_co⟩ := hG
  refine lv_aload_n hx hb d_M_ring_0 rfl (lv_at hl 0 rfl) ?_
  refine lv_iconst (v := nI 0) hx hb d_M_ring_1 (by decide) ?_
  refine va_put (D := (dC, dI)) (v := .int (nI 0)) (ty := .int) (C := R_M) (T := F_M) (N := 20) hx hb hT i_M ft_M ft_M_ok n_M hown hK hP hD hS 0 rfl rfl 0 (by decide) (hT _ k_M_52) (fun _ h9 => h9) rfl (by decide +kernel) rfl rfl (Nat.le_of_ble_eq_true rfl) d_M_ring_2 (fun H locs hP hD hS => ?_)
  have hP : va_P (dC, dI) classes (wM a t σ) H := hP
  have hD : va_D A (wM a t σ) := hD
  refine lv_iload_n hx hb d_M_ring_5 rfl (lv_at hl 1 rfl) ?_
  refine lv_if_lt (tgt := 17) hx hb d_M_ring_6 (by decide) (fun c6 => ?_) (fun c6 => ?_)
  · refine lv_iconst (v := nI 0) hx hb d_M_ring_17 (by decide) ?_
    refine lv_goto (tgt := 27) hx hb d_M_ring_18 (by decide) ?_
    exact x_mi (wl := wM a t) σ hx hb hr hlk hK hP hD hS d_M_ring_27 ⟨rfl, Or.inr ⟨by rintro ⟨i', h1, h2⟩; first | (rw [h2] at c6; exact absurd c6 (nI_pos (by omega))) | (have h3 := (nI_eq (by omega) (by omega)).mp h2; omega), rfl⟩⟩
  · obtain ⟨i, hi, rfl⟩ := nI_of c6
    refine lv_iload_n hx hb d_M_ring_9 rfl (lv_at hl 1 rfl) ?_
    refine lv_aload_n hx hb d_M_ring_10 rfl (lv_at hl 0 rfl) ?_
    refine va_get (D := (dC, dI)) (C := R_M) (T := F_M) (N := 20) hx hb hT i_M hown hK hP 0 rfl rfl 17 (by decide) (hT _ k_M_108) (fun _ h9 => h9) (v := .int (nI (m_wn σ))) rfl d_M_ring_11 ?_
    refine x_icmp_lt (tgt := 21) hx hb d_M_ring_14 (by decide) (fun c14 => ?_) (fun c14 => ?_)
    · refine lv_aload_n hx hb d_M_ring_21 rfl (lv_at hl 0 rfl) ?_
      refine va_get (D := (dC, dI)) (C := R_M) (T := F_M) (N := 20) hx hb hT i_M hown hK hP 0 rfl rfl 16 (by decide) (hT _ k_M_46) (fun _ h9 => h9) (v := .ref (a 12)) rfl d_M_ring_22 ?_
      refine lv_iload_n hx hb d_M_ring_25 rfl (lv_at hl 1 rfl) ?_
      refine x_iald hx hb hK hP 12 11 (f := (m_wy σ)) rfl rfl d_M_ring_26 (by omega) ?_
      exact x_mi (wl := wM a t) σ hx hb hr hlk hK hP hD hS d_M_ring_27 ⟨rfl, Or.inl ⟨i, by omega, rfl, rfl⟩⟩
    · refine lv_iconst (v := nI 0) hx hb d_M_ring_17 (by decide) ?_
      refine lv_goto (tgt := 27) hx hb d_M_ring_18 (by decide) ?_
      exact x_mi (wl := wM a t) σ hx hb hr hlk hK hP hD hS d_M_ring_27 ⟨rfl, Or.inr ⟨by rintro ⟨i', h1, h2⟩; first | (rw [h2] at c6; exact absurd c6 (nI_pos (by omega))) | (have h3 := (nI_eq (by omega) (by omega)).mp h2; omega), rfl⟩⟩

set_option maxRecDepth 100000 in
set_option maxHeartbeats 4000000 in
theorem c_M_linked (l : Launch) (dC : Nat → ClassId) (dI : Nat → Nat → Nat) (a : Nat → Nat) (t : Nat → ClassId) (σ : SM) (sz : Nat) (hG : GM σ) (x : Int32) : Met l y_M_linked (wS y_M_linked b_M_linked 2 (some .int)) (rD 0) (va_Pc [.ref (a 0), .int x] (MB (dC, dI) (yM t) (wM a t σ) sz)) (va_Qi (fun (r : Int32) (u : SM) => u = σ ∧ ((∃ j, 1 ≤ j ∧ j ≤ m_rn σ ∧ x = nI j ∧ r = nI (m_lk σ j)) ∨ ((¬ ∃ j, 1 ≤ j ∧ j ≤ m_rn σ ∧ x = nI j) ∧ r = nI 0))) (fun u => ME (dC, dI) (yM t) (va_A (wM a t σ) sz) (wM a t u)) (va_A (wM a t σ) sz)) 0 0 (va_A (wM a t σ) sz) := by
  refine x_enter (by decide) (Nat.le_of_ble_eq_true rfl) ?_
  intro p e s m below meth c ls hx hb hr hml hT hown hlk hnm hl hB
  obtain ⟨rfl, hP, hK, hN, hD0⟩ := hB
  have hD := hD0.self (sz := s.heap.size)
  generalize hAe : va_A (wM a t σ) s.heap.size = A at hD ⊢
  have hA : ∀ q : Nat, s.heap.size ≤ q → A q := fun q h => by rw [← hAe]; exact Or.inr h
  have hS : va_S A s.heap s.heap [] := va_S.rf
  have hP : va_P (dC, dI) classes (wM a t σ) s.heap := hP
  have hl : lv_has ls 2 [(0, .ref (a 0)), (1, .int x)] := hl
  have hown : s.vm.findClass R_M = some m.cls := hown
  have hG2 := hG
  obtain ⟨g_sz, g_sd, g_hn, g_kd, g_lv, g_tx, g_zs, g_ln, g_lf, g_lt, g_rn, g_lk, g_wy, g_wn, g_di, g_co⟩ := hG
  refine lv_aload_n hx hb d_M_linked_0 rfl (lv_at hl 0 rfl) ?_
  refine lv_iconst (v := nI 0) hx hb d_M_linked_1 (by decide) ?_
  refine va_put (D := (dC, dI)) (v := .int (nI 0)) (ty := .int) (C := R_M) (T := F_M) (N := 20) hx hb hT i_M ft_M ft_M_ok n_M hown hK hP hD hS 0 rfl rfl 0 (by decide) (hT _ k_M_52) (fun _ h9 => h9) rfl (by decide +kernel) rfl rfl (Nat.le_of_ble_eq_true rfl) d_M_linked_2 (fun H locs hP hD hS => ?_)
  have hP : va_P (dC, dI) classes (wM a t σ) H := hP
  have hD : va_D A (wM a t σ) := hD
  refine lv_iload_n hx hb d_M_linked_5 rfl (lv_at hl 1 rfl) ?_
  refine lv_if_le (tgt := 26) hx hb d_M_linked_6 (by decide) (fun c6 => ?_) (fun c6 => ?_)
  · refine lv_iconst (v := nI 0) hx hb d_M_linked_26 (by decide) ?_
    exact x_mi (wl := wM a t) σ hx hb hr hlk hK hP hD hS d_M_linked_27 ⟨rfl, Or.inr ⟨by first | exact le0_no (by omega) c6 | exact x_there2 (by omega) c14, rfl⟩⟩
  · refine lv_iload_n hx hb d_M_linked_9 rfl (lv_at hl 1 rfl) ?_
    refine lv_aload_n hx hb d_M_linked_10 rfl (lv_at hl 0 rfl) ?_
    refine va_get (D := (dC, dI)) (C := R_M) (T := F_M) (N := 20) hx hb hT i_M hown hK hP 0 rfl rfl 13 (by decide) (hT _ k_M_88) (fun _ h9 => h9) (v := .int (nI (m_rn σ))) rfl d_M_linked_11 ?_
    refine lv_icmp_gt (tgt := 26) hx hb d_M_linked_14 (by decide) (fun c14 => ?_) (fun c14 => ?_)
    · refine lv_iconst (v := nI 0) hx hb d_M_linked_26 (by decide) ?_
      exact x_mi (wl := wM a t) σ hx hb hr hlk hK hP hD hS d_M_linked_27 ⟨rfl, Or.inr ⟨by first | exact le0_no (by omega) c6 | exact x_there2 (by omega) c14, rfl⟩⟩
    · obtain ⟨j, hj1, hj2, rfl⟩ := x_there (by omega) (fun h9 => c6 (lt1_le h9)) c14
      refine lv_aload_n hx hb d_M_linked_17 rfl (lv_at hl 0 rfl) ?_
      refine va_get (D := (dC, dI)) (C := R_M) (T := F_M) (N := 20) hx hb hT i_M hown hK hP 0 rfl rfl 14 (by decide) (hT _ k_M_40) (fun _ h9 => h9) (v := .ref (a 10)) rfl d_M_linked_18 ?_
      refine lv_iload_n hx hb d_M_linked_21 rfl (lv_at hl 1 rfl) ?_
      refine x_iald hx hb hK hP 10 9 (f := (m_lk σ)) rfl rfl d_M_linked_22 (by omega) ?_
      refine lv_goto (tgt := 27) hx hb d_M_linked_23 (by decide) ?_
      exact x_mi (wl := wM a t) σ hx hb hr hlk hK hP hD hS d_M_linked_27 ⟨rfl, Or.inl ⟨j, hj1, hj2, rfl, rfl⟩⟩

/-- every link's sort is one -/
def GL (σ : SM) : Prop := ∀ j, j < m_ln σ → m_ls σ j < 4
def isL (σ : SM) (i q f h : Nat) : Prop := m_ls σ i = q ∧ (f = 0 ∨ m_lf σ i = f) ∧ (h = 0 ∨ m_lt σ i = h)
set_option maxRecDepth 100000 in
set_option maxHeartbeats 4000000 in
theorem c_M_is (l : Launch) (dC : Nat → ClassId) (dI : Nat → Nat → Nat) (a : Nat → Nat) (t : Nat → ClassId) (σ : SM) (hG : GM σ) (hL : GL σ) (i q f h : Nat) (hi : i < m_ln σ) (hq : q < 4) (hf : f ≤ 60) (hh : h ≤ 60) : Met l y_M_is (wS y_M_is b_M_is 5 (some .boolean)) (rD 0) (va_Pc [.ref (a 0), .int (nI i), .int (nI q), .int (nI f), .int (nI h)] (RB (dC, dI) (yM t) (wM a t σ))) (vp_Si (fun r => BR r (isL σ i q f h))) 0 0 (fun _ => False) := by
  refine x_enter (by decide) (Nat.le_of_ble_eq_true rfl) ?_
  intro p e s m below meth c ls hx hb hr hml hT hown hlk hnm hl hB
  obtain ⟨hP, hK, hN⟩ := hB
  have hl : lv_has ls 5 [(0, .ref (a 0)), (1, .int (nI i)), (2, .int (nI q)), (3, .int (nI f)), (4, .int (nI h))] := hl
  have hown : s.vm.findClass R_M = some m.cls := hown
  have hG2 := hG
  obtain ⟨g_sz, g_sd, g_hn, g_kd, g_lv, g_tx, g_zs, g_ln, g_lf, g_lt, g_rn, g_lk, g_wy, g_wn, g_di, g_co⟩ := hG
  have e1 := hL i hi
  have e2 := g_lf i
  have e3 := g_lt i
  refine lv_aload_n hx hb d_M_is_0 rfl (lv_at hl 0 rfl) ?_
  refine va_get (D := (dC, dI)) (C := R_M) (T := F_M) (N := 20) hx hb hT i_M hown hK hP 0 rfl rfl 9 (by decide) (hT _ k_M_27) (fun _ h9 => h9) (v := .ref (a 6)) rfl d_M_is_1 ?_
  refine lv_iload_n hx hb d_M_is_4 rfl (lv_at hl 1 rfl) ?_
  refine x_iald hx hb hK hP 6 5 (f := (m_ls σ)) rfl rfl d_M_is_5 (by omega) ?_
  refine lv_iload_n hx hb d_M_is_6 rfl (lv_at hl 2 rfl) ?_
  refine x_icmp_ne (tgt := 44) hx hb d_M_is_7 (by decide) (fun c7 => ?_) (fun c7 => ?_)
  · refine lv_iconst (v := nI 0) hx hb d_M_is_44 (by decide) ?_
    exact x_rz hx hb hr hlk d_M_is_45 rfl (Or.inr ⟨rfl, by unfold isL; omega⟩)
  · refine lv_iload_n hx hb d_M_is_10 rfl (lv_at hl 3 rfl) ?_
    refine x_if_eq (tgt := 24) hx hb d_M_is_11 (by decide) (fun c11 => ?_) (fun c11 => ?_)
    · refine lv_iload hx hb d_M_is_24 (lv_at hl 4 rfl) ?_
      refine x_if_eq (tgt := 40) hx hb d_M_is_26 (by decide) (fun c26 => ?_) (fun c26 => ?_)
      · refine lv_iconst (v := nI 1) hx hb d_M_is_40 (by decide) ?_
        refine lv_goto (tgt := 45) hx hb d_M_is_41 (by decide) ?_
        exact x_rz hx hb hr hlk d_M_is_45 rfl (Or.inl ⟨rfl, by unfold isL; omega⟩)
      · refine lv_aload_n hx hb d_M_is_29 rfl (lv_at hl 0 rfl) ?_
        refine va_get (D := (dC, dI)) (C := R_M) (T := F_M) (N := 20) hx hb hT i_M hown hK hP 0 rfl rfl 11 (by decide) (hT _ k_M_33) (fun _ h9 => h9) (v := .ref (a 8)) rfl d_M_is_30 ?_
        refine lv_iload_n hx hb d_M_is_33 rfl (lv_at hl 1 rfl) ?_
        refine x_iald hx hb hK hP 8 7 (f := (m_lt σ)) rfl rfl d_M_is_34 (by omega) ?_
        refine lv_iload hx hb d_M_is_35 (lv_at hl 4 rfl) ?_
        refine x_icmp_ne (tgt := 44) hx hb d_M_is_37 (by decide) (fun c37 => ?_) (fun c37 => ?_)
        · refine lv_iconst (v := nI 0) hx hb d_M_is_44 (by decide) ?_
          exact x_rz hx hb hr hlk d_M_is_45 rfl (Or.inr ⟨rfl, by unfold isL; omega⟩)
        · refine lv_iconst (v := nI 1) hx hb d_M_is_40 (by decide) ?_
          refine lv_goto (tgt := 45) hx hb d_M_is_41 (by decide) ?_
          exact x_rz hx hb hr hlk d_M_is_45 rfl (Or.inl ⟨rfl, by unfold isL; omega⟩)
    · refine lv_aload_n hx hb d_M_is_14 rfl (lv_at hl 0 rfl) ?_
      refine va_get (D := (dC, dI)) (C := R_M) (T := F_M) (N := 20) hx hb hT i_M hown hK hP 0 rfl rfl 10 (by decide) (hT _ k_M_30) (fun _ h9 => h9) (v := .ref (a 7)) rfl d_M_is_15 ?_
      refine lv_iload_n hx hb d_M_is_18 rfl (lv_at hl 1 rfl) ?_
      refine x_iald hx hb hK hP 7 6 (f := (m_lf σ)) rfl rfl d_M_is_19 (by omega) ?_
      refine lv_iload_n hx hb d_M_is_20 rfl (lv_at hl 3 rfl) ?_
      refine x_icmp_ne (tgt := 44) hx hb d_M_is_21 (by decide) (fun c21 => ?_) (fun c21 => ?_)
      · refine lv_iconst (v := nI 0) hx hb d_M_is_44 (by decide) ?_
        exact x_rz hx hb hr hlk d_M_is_45 rfl (Or.inr ⟨rfl, by unfold isL; omega⟩)
      · refine lv_iload hx hb d_M_is_24 (lv_at hl 4 rfl) ?_
        refine x_if_eq (tgt := 40) hx hb d_M_is_26 (by decide) (fun c26 => ?_) (fun c26 => ?_)
        · refine lv_iconst (v := nI 1) hx hb d_M_is_40 (by decide) ?_
          refine lv_goto (tgt := 45) hx hb d_M_is_41 (by decide) ?_
          exact x_rz hx hb hr hlk d_M_is_45 rfl (Or.inl ⟨rfl, by unfold isL; omega⟩)
        · refine lv_aload_n hx hb d_M_is_29 rfl (lv_at hl 0 rfl) ?_
          refine va_get (D := (dC, dI)) (C := R_M) (T := F_M) (N := 20) hx hb hT i_M hown hK hP 0 rfl rfl 11 (by decide) (hT _ k_M_33) (fun _ h9 => h9) (v := .ref (a 8)) rfl d_M_is_30 ?_
          refine lv_iload_n hx hb d_M_is_33 rfl (lv_at hl 1 rfl) ?_
          refine x_iald hx hb hK hP 8 7 (f := (m_lt σ)) rfl rfl d_M_is_34 (by omega) ?_
          refine lv_iload hx hb d_M_is_35 (lv_at hl 4 rfl) ?_
          refine x_icmp_ne (tgt := 44) hx hb d_M_is_37 (by decide) (fun c37 => ?_) (fun c37 => ?_)
          · refine lv_iconst (v := nI 0) hx hb d_M_is_44 (by decide) ?_
            exact x_rz hx hb hr hlk d_M_is_45 rfl (Or.inr ⟨rfl, by unfold isL; omega⟩)
          · refine lv_iconst (v := nI 1) hx hb d_M_is_40 (by decide) ?_
            refine lv_goto (tgt := 45) hx hb d_M_is_41 (by decide) ?_
            exact x_rz hx hb hr hlk d_M_is_45 rfl (Or.inl ⟨rfl, by unfold isL; omega⟩)

set_option maxRecDepth 100000 in
set_option maxHeartbeats 4000000 in
theorem c_M_has (l : Launch) (dC : Nat → ClassId) (dI : Nat → Nat → Nat) (a : Nat → Nat) (t : Nat → ClassId) (σ : SM) (hG : GM σ) (hL : GL σ) (q f h : Nat) (hq : q < 4) (hf : f ≤ 60) (hh : h ≤ 60) : Met l y_M_has (wS y_M_has b_M_has 6 (some .boolean)) (rD 1) (va_Pc [.ref (a 0), .int (nI q), .int (nI f), .int (nI h)] (RB (dC, dI) (yM t) (wM a t σ))) (vp_Si (fun r => BR r (∃ i, i < m_ln σ ∧ isL σ i q f h))) 0 0 (fun _ => False) := by
  refine x_enter (by decide) (Nat.le_of_ble_eq_true rfl) ?_
  intro p e s m below meth c ls hx hb hr hml hT hown hlk hnm hl hB
  obtain ⟨hP, hK, hN⟩ := hB
  have hl : lv_has ls 6 [(0, .ref (a 0)), (1, .int (nI q)), (2, .int (nI f)), (3, .int (nI h))] := hl
  have hown : s.vm.findClass R_M = some m.cls := hown
  have hG2 := hG
  obtain ⟨g_sz, g_sd, g_hn, g_kd, g_lv, g_tx, g_zs, g_ln, g_lf, g_lt, g_rn, g_lk, g_wy, g_wn, g_di, g_co⟩ := hG
  refine lv_iconst (v := nI 0) hx hb d_M_has_0 (by decide) ?_
  refine lv_istore (lv' := [(4, .int (nI 0)), (0, .ref (a 0)), (1, .int (nI q)), (2, .int (nI f)), (3, .int (nI h))]) hx hb d_M_has_1 hl (by decide) rfl (fun ls hl => ?_)
  refine lv_iconst (v := nI 0) hx hb d_M_has_3 (by decide) ?_
  refine lv_istore (lv' := [(5, .int (nI 0)), (4, .int (nI 0)), (0, .ref (a 0)), (1, .int (nI q)), (2, .int (nI f)), (3, .int (nI h))]) hx hb d_M_has_4 hl (by decide) rfl (fun ls hl => ?_)
  have hloop6 : ∀ (n6 : Nat) (k : Nat) (y : Int32) (ls : Array Slot), k ≤ m_ln σ → ((y = nI 1 ∧ ∃ i, i < k ∧ isL σ i q f h) ∨ (y = nI 0 ∧ ∀ i, i < k → ¬ isL σ i q f h)) → m_ln σ + 1 - k < n6 → lv_has ls 6 [(0, .ref (a 0)), (1, .int (nI q)), (2, .int (nI f)), (3, .int (nI h)), (4, .int y), (5, .int (nI k))] → W p l e (rD 1) s m ([.ref (a 0), .int (nI q), .int (nI f), .int (nI h)] : List Value).toArray below meth c s.heap [] 0 0 (MQ below (vp_Si (fun r => BR r (∃ i, i < m_ln σ ∧ isL σ i q f h))) ([.ref (a 0), .int (nI q), .int (nI f), .int (nI h)] : List Value).toArray s 0 0 (fun _ => False)) (F0 m 6 ls []) := by
    intro n6
    induction n6 with
    | zero => intro k y ls _ _ h9; exact absurd h9 (Nat.not_lt_zero _)
    | succ n6 ih6 =>
      intro k y ls hk hy hmu6 hl
      rcases hy with ⟨rfl, hex⟩ | ⟨rfl, hno⟩
      · refine lv_iload hx hb d_M_has_6 (lv_at hl 5 rfl) ?_
        refine lv_aload_n hx hb d_M_has_8 rfl (lv_at hl 0 rfl) ?_
        refine va_get (D := (dC, dI)) (C := R_M) (T := F_M) (N := 20) hx hb hT i_M hown hK hP 0 rfl rfl 8 (by decide) (hT _ k_M_97) (fun _ h9 => h9) (v := .int (nI (m_ln σ))) rfl d_M_has_9 ?_
        refine x_icmp_ge (tgt := 45) hx hb d_M_has_12 (by decide) (fun c12 => ?_) (fun c12 => ?_)
        · refine lv_iload hx hb d_M_has_45 (lv_at hl 4 rfl) ?_
          exact x_rz hx hb hr hlk d_M_has_47 rfl (Or.inl ⟨rfl, by obtain ⟨i, h1, h2⟩ := hex; exact ⟨i, by omega, h2⟩⟩)
        · refine lv_iload hx hb d_M_has_15 (lv_at hl 4 rfl) ?_
          refine x_if_ne (tgt := 32) hx hb d_M_has_17 (by decide) (fun _ => ?_) (fun h => absurd h (by decide))
          refine lv_iconst (v := nI 1) hx hb d_M_has_32 (by decide) ?_
          refine lv_goto (tgt := 37) hx hb d_M_has_33 (by decide) ?_
          refine lv_istore (lv' := [(4, .int (nI 1)), (0, .ref (a 0)), (1, .int (nI q)), (2, .int (nI f)), (3, .int (nI h)), (5, .int (nI k))]) hx hb d_M_has_37 hl (by decide) rfl (fun ls hl => ?_)
          refine x_iinc (lv' := [(5, .int (nI (k + 1))), (4, .int (nI 1)), (0, .ref (a 0)), (1, .int (nI q)), (2, .int (nI f)), (3, .int (nI h))]) hx hb d_M_has_39 hl (k := 5) rfl (by decide) rfl (fun ls hl => ?_)
          refine lv_goto (tgt := 6) hx hb d_M_has_42 (by decide) ?_
          exact ih6 (k + 1) _ ls (by omega) (Or.inl ⟨rfl, by first | (obtain ⟨i, h1, h2⟩ := hex; exact ⟨i, by omega, h2⟩) | exact ⟨k, by omega, hqq⟩⟩) (by omega) (lv_sub hl [2, 3, 4, 5, 1, 0] rfl)
      · refine lv_iload hx hb d_M_has_6 (lv_at hl 5 rfl) ?_
        refine lv_aload_n hx hb d_M_has_8 rfl (lv_at hl 0 rfl) ?_
        refine va_get (D := (dC, dI)) (C := R_M) (T := F_M) (N := 20) hx hb hT i_M hown hK hP 0 rfl rfl 8 (by decide) (hT _ k_M_97) (fun _ h9 => h9) (v := .int (nI (m_ln σ))) rfl d_M_has_9 ?_
        refine x_icmp_ge (tgt := 45) hx hb d_M_has_12 (by decide) (fun c12 => ?_) (fun c12 => ?_)
        · refine lv_iload hx hb d_M_has_45 (lv_at hl 4 rfl) ?_
          exact x_rz hx hb hr hlk d_M_has_47 rfl (Or.inr ⟨rfl, fun ⟨i, h1, h2⟩ => hno i (by omega) h2⟩)
        · refine lv_iload hx hb d_M_has_15 (lv_at hl 4 rfl) ?_
          refine x_if_ne (tgt := 32) hx hb d_M_has_17 (by decide) (fun h => absurd h (by decide)) (fun _ => ?_)
          refine lv_aload_n hx hb d_M_has_20 rfl (lv_at hl 0 rfl) ?_
          refine lv_iload hx hb d_M_has_21 (lv_at hl 5 rfl) ?_
          refine lv_iload_n hx hb d_M_has_23 rfl (lv_at hl 1 rfl) ?_
          refine lv_iload_n hx hb d_M_has_24 rfl (lv_at hl 2 rfl) ?_
          refine lv_iload_n hx hb d_M_has_25 rfl (lv_at hl 3 rfl) ?_
          refine x_ci (x_runV ⟨hx, hb, hml, hown, hT⟩ (c_M_is l dC dI a t σ hG2 hL k q f h (by omega) hq hf hh) f_M_is k_M_100 blR (va_recv hK hP (ci := 7) (q0 := 0) rfl rfl) (x_bR hK hP hN) hl.1 d_M_has_26 rfl (lv_room (Nat.le_of_ble_eq_true rfl)) ⟨Nat.le_of_ble_eq_true rfl, Nat.le_of_ble_eq_true rfl⟩ ⟨rfl, rfl⟩ ⟨Nat.le_refl 0, Nat.le_refl 0⟩ rfl) (fun r26 q26 => ?_)
          rcases q26 with ⟨rfl, hqq⟩ | ⟨rfl, hqq⟩
          · refine x_if_eq (tgt := 36) hx hb d_M_has_29 (by decide) (fun h => absurd h (by decide)) (fun _ => ?_)
            refine lv_iconst (v := nI 1) hx hb d_M_has_32 (by decide) ?_
            refine lv_goto (tgt := 37) hx hb d_M_has_33 (by decide) ?_
            refine lv_istore (lv' := [(4, .int (nI 1)), (0, .ref (a 0)), (1, .int (nI q)), (2, .int (nI f)), (3, .int (nI h)), (5, .int (nI k))]) hx hb d_M_has_37 hl (by decide) rfl (fun ls hl => ?_)
            refine x_iinc (lv' := [(5, .int (nI (k + 1))), (4, .int (nI 1)), (0, .ref (a 0)), (1, .int (nI q)), (2, .int (nI f)), (3, .int (nI h))]) hx hb d_M_has_39 hl (k := 5) rfl (by decide) rfl (fun ls hl => ?_)
            refine lv_goto (tgt := 6) hx hb d_M_has_42 (by decide) ?_
            exact ih6 (k + 1) _ ls (by omega) (Or.inl ⟨rfl, by first | (obtain ⟨i, h1, h2⟩ := hex; exact ⟨i, by omega, h2⟩) | exact ⟨k, by omega, hqq⟩⟩) (by omega) (lv_sub hl [2, 3, 4, 5, 1, 0] rfl)
          · refine x_if_eq (tgt := 36) hx hb d_M_has_29 (by decide) (fun _ => ?_) (fun h => absurd h (by decide))
            refine lv_iconst (v := nI 0) hx hb d_M_has_36 (by decide) ?_
            refine lv_istore (lv' := [(4, .int (nI 0)), (0, .ref (a 0)), (1, .int (nI q)), (2, .int (nI f)), (3, .int (nI h)), (5, .int (nI k))]) hx hb d_M_has_37 hl (by decide) rfl (fun ls hl => ?_)
            refine x_iinc (lv' := [(5, .int (nI (k + 1))), (4, .int (nI 0)), (0, .ref (a 0)), (1, .int (nI q)), (2, .int (nI f)), (3, .int (nI h))]) hx hb d_M_has_39 hl (k := 5) rfl (by decide) rfl (fun ls hl => ?_)
            refine lv_goto (tgt := 6) hx hb d_M_has_42 (by decide) ?_
            exact ih6 (k + 1) _ ls (by omega) (Or.inr ⟨rfl, fun i h9 => by rcases Nat.lt_succ_iff_lt_or_eq.mp h9 with h8 | h8; exact hno i h8; rw [h8]; exact hqq⟩) (by omega) (lv_sub hl [2, 3, 4, 5, 1, 0] rfl)
  exact hloop6 _ 0 _ ls (by omega) (Or.inr ⟨rfl, fun i h9 => absurd h9 (Nat.not_lt_zero _)⟩) (Nat.lt_succ_self _) (lv_sub hl [2, 3, 4, 5, 1, 0] rfl)

def ADM (σ : SM) (q f h : Nat) (d : Int64) : SM := mu_ld (mu_lt (mu_lf (mu_ls (mu_ln σ (m_ln σ + 1)) (updN (m_ls σ) (m_ln σ) q)) (updN (m_lf σ) (m_ln σ) f)) (updN (m_lt σ) (m_ln σ) h)) (vp_updL (m_ld σ) (m_ln σ) d)
set_option maxRecDepth 100000 in
set_option maxHeartbeats 4000000 in
theorem c_M_add (l : Launch) (dC : Nat → ClassId) (dI : Nat → Nat → Nat) (a : Nat → Nat) (t : Nat → ClassId) (σ : SM) (sz : Nat) (hG : GM σ) (q f h : Nat) (d : Int64) : Met l y_M_add (wS y_M_add b_M_add 6 none) (rD 0) (va_Pc [.ref (a 0), .int (nI q), .int (nI f), .int (nI h), .long d] (MB (dC, dI) (yM t) (wM a t σ) sz)) (va_Qv (fun u : SM => u = ADM σ q f h d) (fun u => ME (dC, dI) (yM t) (va_A (wM a t σ) sz) (wM a t u)) (va_A (wM a t σ) sz)) 0 0 (va_A (wM a t σ) sz) := by
  refine x_enter (by decide) (Nat.le_of_ble_eq_true rfl) ?_
  intro p e s m below meth c ls hx hb hr hml hT hown hlk hnm hl hB
  obtain ⟨rfl, hP, hK, hN, hD0⟩ := hB
  have hD := hD0.self (sz := s.heap.size)
  generalize hAe : va_A (wM a t σ) s.heap.size = A at hD ⊢
  have hA : ∀ q : Nat, s.heap.size ≤ q → A q := fun q h => by rw [← hAe]; exact Or.inr h
  have hS : va_S A s.heap s.heap [] := va_S.rf
  have hP : va_P (dC, dI) classes (wM a t σ) s.heap := hP
  have hl : lv_has ls 6 [(0, .ref (a 0)), (1, .int (nI q)), (2, .int (nI f)), (3, .int (nI h)), (4, .long d)] := hl
  have hown : s.vm.findClass R_M = some m.cls := hown
  have hG2 := hG
  obtain ⟨g_sz, g_sd, g_hn, g_kd, g_lv, g_tx, g_zs, g_ln, g_lf, g_lt, g_rn, g_lk, g_wy, g_wn, g_di, g_co⟩ := hG
  refine lv_aload_n hx hb d_M_add_0 rfl (lv_at hl 0 rfl) ?_
  refine va_get (D := (dC, dI)) (C := R_M) (T := F_M) (N := 20) hx hb hT i_M hown hK hP 0 rfl rfl 9 (by decide) (hT _ k_M_27) (fun _ h9 => h9) (v := .ref (a 6)) rfl d_M_add_1 ?_
  refine lv_aload_n hx hb d_M_add_4 rfl (lv_at hl 0 rfl) ?_
  refine va_get (D := (dC, dI)) (C := R_M) (T := F_M) (N := 20) hx hb hT i_M hown hK hP 0 rfl rfl 8 (by decide) (hT _ k_M_97) (fun _ h9 => h9) (v := .int (nI (m_ln σ))) rfl d_M_add_5 ?_
  refine lv_iload_n hx hb d_M_add_8 rfl (lv_at hl 1 rfl) ?_
  refine x_iast hx hb hK hP hD hS 6 5 (f := (m_ls σ)) rfl rfl d_M_add_9 (by omega) (fun H locs hP hD hS => ?_)
  have hP : va_P (dC, dI) classes (wM a t (mu_ls σ (updN (m_ls σ) (m_ln σ) (q)))) H := hP
  have hD : va_D A (wM a t (mu_ls σ (updN (m_ls σ) (m_ln σ) (q)))) := hD
  refine lv_aload_n hx hb d_M_add_10 rfl (lv_at hl 0 rfl) ?_
  refine va_get (D := (dC, dI)) (C := R_M) (T := F_M) (N := 20) hx hb hT i_M hown hK hP 0 rfl rfl 10 (by decide) (hT _ k_M_30) (fun _ h9 => h9) (v := .ref (a 7)) rfl d_M_add_11 ?_
  refine lv_aload_n hx hb d_M_add_14 rfl (lv_at hl 0 rfl) ?_
  refine va_get (D := (dC, dI)) (C := R_M) (T := F_M) (N := 20) hx hb hT i_M hown hK hP 0 rfl rfl 8 (by decide) (hT _ k_M_97) (fun _ h9 => h9) (v := .int (nI (m_ln σ))) rfl d_M_add_15 ?_
  refine lv_iload_n hx hb d_M_add_18 rfl (lv_at hl 2 rfl) ?_
  refine x_iast hx hb hK hP hD hS 7 6 (f := (m_lf σ)) rfl rfl d_M_add_19 (by omega) (fun H locs hP hD hS => ?_)
  have hP : va_P (dC, dI) classes (wM a t (mu_lf (mu_ls σ (updN (m_ls σ) (m_ln σ) (q))) (updN (m_lf σ) (m_ln σ) (f)))) H := hP
  have hD : va_D A (wM a t (mu_lf (mu_ls σ (updN (m_ls σ) (m_ln σ) (q))) (updN (m_lf σ) (m_ln σ) (f)))) := hD
  refine lv_aload_n hx hb d_M_add_20 rfl (lv_at hl 0 rfl) ?_
  refine va_get (D := (dC, dI)) (C := R_M) (T := F_M) (N := 20) hx hb hT i_M hown hK hP 0 rfl rfl 11 (by decide) (hT _ k_M_33) (fun _ h9 => h9) (v := .ref (a 8)) rfl d_M_add_21 ?_
  refine lv_aload_n hx hb d_M_add_24 rfl (lv_at hl 0 rfl) ?_
  refine va_get (D := (dC, dI)) (C := R_M) (T := F_M) (N := 20) hx hb hT i_M hown hK hP 0 rfl rfl 8 (by decide) (hT _ k_M_97) (fun _ h9 => h9) (v := .int (nI (m_ln σ))) rfl d_M_add_25 ?_
  refine lv_iload_n hx hb d_M_add_28 rfl (lv_at hl 3 rfl) ?_
  refine x_iast hx hb hK hP hD hS 8 7 (f := (m_lt σ)) rfl rfl d_M_add_29 (by omega) (fun H locs hP hD hS => ?_)
  have hP : va_P (dC, dI) classes (wM a t (mu_lt (mu_lf (mu_ls σ (updN (m_ls σ) (m_ln σ) (q))) (updN (m_lf σ) (m_ln σ) (f))) (updN (m_lt σ) (m_ln σ) (h)))) H := hP
  have hD : va_D A (wM a t (mu_lt (mu_lf (mu_ls σ (updN (m_ls σ) (m_ln σ) (q))) (updN (m_lf σ) (m_ln σ) (f))) (updN (m_lt σ) (m_ln σ) (h)))) := hD
  refine lv_aload_n hx hb d_M_add_30 rfl (lv_at hl 0 rfl) ?_
  refine va_get (D := (dC, dI)) (C := R_M) (T := F_M) (N := 20) hx hb hT i_M hown hK hP 0 rfl rfl 12 (by decide) (hT _ k_M_36) (fun _ h9 => h9) (v := .ref (a 9)) rfl d_M_add_31 ?_
  refine lv_aload_n hx hb d_M_add_34 rfl (lv_at hl 0 rfl) ?_
  refine va_get (D := (dC, dI)) (C := R_M) (T := F_M) (N := 20) hx hb hT i_M hown hK hP 0 rfl rfl 8 (by decide) (hT _ k_M_97) (fun _ h9 => h9) (v := .int (nI (m_ln σ))) rfl d_M_add_35 ?_
  refine lv_lload hx hb d_M_add_38 (lv_at hl 4 rfl) ?_
  refine x_last hx hb hK hP hD hS 9 8 (f := (m_ld σ)) rfl rfl d_M_add_40 (by omega) (fun H locs hP hD hS => ?_)
  have hP : va_P (dC, dI) classes (wM a t (mu_ld (mu_lt (mu_lf (mu_ls σ (updN (m_ls σ) (m_ln σ) (q))) (updN (m_lf σ) (m_ln σ) (f))) (updN (m_lt σ) (m_ln σ) (h))) (vp_updL (m_ld σ) (m_ln σ) (d)))) H := hP
  have hD : va_D A (wM a t (mu_ld (mu_lt (mu_lf (mu_ls σ (updN (m_ls σ) (m_ln σ) (q))) (updN (m_lf σ) (m_ln σ) (f))) (updN (m_lt σ) (m_ln σ) (h))) (vp_updL (m_ld σ) (m_ln σ) (d)))) := hD
  refine lv_aload_n hx hb d_M_add_41 rfl (lv_at hl 0 rfl) ?_
  refine lv_dup hx hb d_M_add_42 rfl ?_
  refine va_get (D := (dC, dI)) (C := R_M) (T := F_M) (N := 20) hx hb hT i_M hown hK hP 0 rfl rfl 8 (by decide) (hT _ k_M_97) (fun _ h9 => h9) (v := .int (nI (m_ln σ))) rfl d_M_add_43 ?_
  refine lv_iconst (v := nI 1) hx hb d_M_add_46 (by decide) ?_
  refine x_iadd hx hb d_M_add_47 ?_
  refine va_put (D := (dC, dI)) (v := .int (nI ((m_ln σ) + 1))) (ty := .int) (C := R_M) (T := F_M) (N := 20) hx hb hT i_M ft_M ft_M_ok n_M hown hK hP hD hS 0 rfl rfl 8 (by decide) (hT _ k_M_97) (fun _ h9 => h9) rfl (by decide +kernel) rfl rfl (Nat.le_of_ble_eq_true rfl) d_M_add_48 (fun H locs hP hD hS => ?_)
  have hP : va_P (dC, dI) classes (wM a t (mu_ld (mu_lt (mu_lf (mu_ls (mu_ln σ ((m_ln σ) + 1)) (updN (m_ls σ) (m_ln σ) (q))) (updN (m_lf σ) (m_ln σ) (f))) (updN (m_lt σ) (m_ln σ) (h))) (vp_updL (m_ld σ) (m_ln σ) (d)))) H := hP
  have hD : va_D A (wM a t (mu_ld (mu_lt (mu_lf (mu_ls (mu_ln σ ((m_ln σ) + 1)) (updN (m_ls σ) (m_ln σ) (q))) (updN (m_lf σ) (m_ln σ) (f))) (updN (m_lt σ) (m_ln σ) (h))) (vp_updL (m_ld σ) (m_ln σ) (d)))) := hD
  exact x_mv (wl := wM a t) (mu_ld (mu_lt (mu_lf (mu_ls (mu_ln σ ((m_ln σ) + 1)) (updN (m_ls σ) (m_ln σ) (q))) (updN (m_lf σ) (m_ln σ) (f))) (updN (m_lt σ) (m_ln σ) (h))) (vp_updL (m_ld σ) (m_ln σ) (d))) hx hb hr hlk hK hP hD hS d_M_add_51 rfl

set_option maxRecDepth 100000 in
set_option maxHeartbeats 4000000 in
theorem c_M_used (l : Launch) (dC : Nat → ClassId) (dI : Nat → Nat → Nat) (a : Nat → Nat) (t : Nat → ClassId) (σ : SM) (hG : GM σ) (hL : GL σ) (j : Nat) (hj : j ≤ 60) : Met l y_M_used (wS y_M_used b_M_used 3 (some .int)) (rD 1) (va_Pc [.ref (a 0), .int (nI j)] (RB (dC, dI) (yM t) (wM a t σ))) (vp_Si (fun r => (∃ i, i < m_ln σ ∧ isL σ i 0 j 0 ∧ (∀ k, k < i → ¬ isL σ k 0 j 0) ∧ r = nI (m_lt σ i)) ∨ ((∀ i, i < m_ln σ → ¬ isL σ i 0 j 0) ∧ r = nI j))) 0 0 (fun _ => False) := by
  refine x_enter (by decide) (Nat.le_of_ble_eq_true rfl) ?_
  intro p e s m below meth c ls hx hb hr hml hT hown hlk hnm hl hB
  obtain ⟨hP, hK, hN⟩ := hB
  have hl : lv_has ls 3 [(0, .ref (a 0)), (1, .int (nI j))] := hl
  have hown : s.vm.findClass R_M = some m.cls := hown
  have hG2 := hG
  obtain ⟨g_sz, g_sd, g_hn, g_kd, g_lv, g_tx, g_zs, g_ln, g_lf, g_lt, g_rn, g_lk, g_wy, g_wn, g_di, g_co⟩ := hG
  refine lv_iconst (v := nI 0) hx hb d_M_used_0 (by decide) ?_
  refine lv_istore_n (lv' := [(2, .int (nI 0)), (0, .ref (a 0)), (1, .int (nI j))]) hx hb d_M_used_1 rfl hl (by decide) rfl (fun ls hl => ?_)
  have hloop2 : ∀ (n2 : Nat) (k : Nat) (ls : Array Slot), k ≤ m_ln σ → (∀ i, i < k → ¬ isL σ i 0 j 0) → m_ln σ + 1 - k < n2 → lv_has ls 3 [(0, .ref (a 0)), (1, .int (nI j)), (2, .int (nI k))] → W p l e (rD 1) s m ([.ref (a 0), .int (nI j)] : List Value).toArray below meth c s.heap [] 0 0 (MQ below (vp_Si (fun r => (∃ i, i < m_ln σ ∧ isL σ i 0 j 0 ∧ (∀ k, k < i → ¬ isL σ k 0 j 0) ∧ r = nI (m_lt σ i)) ∨ ((∀ i, i < m_ln σ → ¬ isL σ i 0 j 0) ∧ r = nI j))) ([.ref (a 0), .int (nI j)] : List Value).toArray s 0 0 (fun _ => False)) (F0 m 2 ls []) := by
    intro n2
    induction n2 with
    | zero => intro k ls _ _ h9; exact absurd h9 (Nat.not_lt_zero _)
    | succ n2 ih2 =>
      intro k ls hk hno hmu2 hl
      refine lv_iload_n hx hb d_M_used_2 rfl (lv_at hl 2 rfl) ?_
      refine lv_aload_n hx hb d_M_used_3 rfl (lv_at hl 0 rfl) ?_
      refine va_get (D := (dC, dI)) (C := R_M) (T := F_M) (N := 20) hx hb hT i_M hown hK hP 0 rfl rfl 8 (by decide) (hT _ k_M_97) (fun _ h9 => h9) (v := .int (nI (m_ln σ))) rfl d_M_used_4 ?_
      refine x_icmp_ge (tgt := 34) hx hb d_M_used_7 (by decide) (fun c7 => ?_) (fun c7 => ?_)
      · refine lv_iload_n hx hb d_M_used_34 rfl (lv_at hl 1 rfl) ?_
        exact x_ri hx hb hr hlk d_M_used_35 (Or.inr ⟨fun i h9 => hno i (by omega), rfl⟩)
      · refine lv_aload_n hx hb d_M_used_10 rfl (lv_at hl 0 rfl) ?_
        refine lv_iload_n hx hb d_M_used_11 rfl (lv_at hl 2 rfl) ?_
        refine lv_iconst (v := nI 0) hx hb d_M_used_12 (by decide) ?_
        refine lv_iload_n hx hb d_M_used_13 rfl (lv_at hl 1 rfl) ?_
        refine lv_iconst (v := nI 0) hx hb d_M_used_14 (by decide) ?_
        refine x_ci (x_runV ⟨hx, hb, hml, hown, hT⟩ (c_M_is l dC dI a t σ hG2 hL k 0 j 0 (by omega) (by omega) hj (by omega)) f_M_is k_M_100 blR (va_recv hK hP (ci := 7) (q0 := 0) rfl rfl) (x_bR hK hP hN) hl.1 d_M_used_15 rfl (lv_room (Nat.le_of_ble_eq_true rfl)) ⟨Nat.le_of_ble_eq_true rfl, Nat.le_of_ble_eq_true rfl⟩ ⟨rfl, rfl⟩ ⟨Nat.le_refl 0, Nat.le_refl 0⟩ rfl) (fun r15 q15 => ?_)
        rcases q15 with ⟨rfl, hqq⟩ | ⟨rfl, hqq⟩
        · refine x_if_eq (tgt := 28) hx hb d_M_used_18 (by decide) (fun h => absurd h (by decide)) (fun _ => ?_)
          refine lv_aload_n hx hb d_M_used_21 rfl (lv_at hl 0 rfl) ?_
          refine va_get (D := (dC, dI)) (C := R_M) (T := F_M) (N := 20) hx hb hT i_M hown hK hP 0 rfl rfl 11 (by decide) (hT _ k_M_33) (fun _ h9 => h9) (v := .ref (a 8)) rfl d_M_used_22 ?_
          refine lv_iload_n hx hb d_M_used_25 rfl (lv_at hl 2 rfl) ?_
          refine x_iald hx hb hK hP 8 7 (f := (m_lt σ)) rfl rfl d_M_used_26 (by omega) ?_
          exact x_ri hx hb hr hlk d_M_used_27 (Or.inl ⟨k, by omega, hqq, hno, rfl⟩)
        · refine x_if_eq (tgt := 28) hx hb d_M_used_18 (by decide) (fun _ => ?_) (fun h => absurd h (by decide))
          refine x_iinc (lv' := [(2, .int (nI (k + 1))), (0, .ref (a 0)), (1, .int (nI j))]) hx hb d_M_used_28 hl (k := 2) rfl (by decide) rfl (fun ls hl => ?_)
          refine lv_goto (tgt := 2) hx hb d_M_used_31 (by decide) ?_
          exact ih2 (k + 1) ls (by omega) (fun i h9 => by rcases Nat.lt_succ_iff_lt_or_eq.mp h9 with h8 | h8; exact hno i h8; rw [h8]; exact hqq) (by omega) (lv_sub hl [1, 2, 0] rfl)
  exact hloop2 _ 0 ls (by omega) (fun i h9 => absurd h9 (Nat.not_lt_zero _)) (Nat.lt_succ_self _) (lv_sub hl [1, 2, 0] rfl)
end
section
/-- where a LATER link comes from; no heading for the other sorts -/
def lf3 (σ : SM) (i : Nat) : Nat := if m_ls σ i = 3 then m_lf σ i else 1000
theorem isL_3 {σ : SM} {i v : Nat} (h1 : 1 ≤ v) (h2 : v ≤ 60) : isL σ i 3 v 0 ↔ lf3 σ i = v := by
  unfold isL lf3
  constructor
  · rintro ⟨e1, e2, _⟩
    rw [if_pos e1]
    omega
  · intro e
    by_cases h : m_ls σ i = 3
    · rw [if_pos h] at e
      exact ⟨h, Or.inr e, Or.inl rfl⟩
    · rw [if_neg h] at e
      omega
theorem lf3_3 {σ : SM} {i v : Nat} (h2 : v ≤ 60) (h : lf3 σ i = v) : m_ls σ i = 3 ∧ m_lf σ i = v := by
  unfold lf3 at h
  by_cases e : m_ls σ i = 3
  · rw [if_pos e] at h; exact ⟨e, h⟩
  · rw [if_neg e] at h; omega
set_option maxRecDepth 100000 in
set_option maxHeartbeats 4000000 in
theorem c_M_formOf (l : Launch) (dC : Nat → ClassId) (dI : Nat → Nat → Nat) (a : Nat → Nat) (t : Nat → ClassId) (σ : SM) (hG : GM σ) (hL : GL σ) (x : Nat) (d : Int64) (hx1 : 1 ≤ x) (hx9 : x ≤ 60) (rk : Nat → Nat) (hrk : ∀ i, i < m_ln σ → m_ls σ i = 3 → rk (m_lt σ i) < rk (m_lf σ i)) (hlt : ∀ i, i < m_ln σ → 1 ≤ m_lt σ i) : Met l y_M_formOf (wS y_M_formOf b_M_formOf 8 (some .int)) (rD 1) (va_Pc [.ref (a 0), .int (nI x), .long d] (RB (dC, dI) (yM t) (wM a t σ))) (vp_Si (fun r => ∃ k v, 1 ≤ v ∧ v ≤ 60 ∧ r = nI v ∧ FRM (lf3 σ) (m_lt σ) (m_ld σ) (m_ln σ) d k (x) v ∧ NOB (lf3 σ) (m_ld σ) (m_ln σ) v d)) 0 0 (fun _ => False) := by
  refine x_enter (by decide) (Nat.le_of_ble_eq_true rfl) ?_
  intro p e s m below meth c ls hx hb hr hml hT hown hlk hnm hl hB
  obtain ⟨hP, hK, hN⟩ := hB
  have hl : lv_has ls 8 [(0, .ref (a 0)), (1, .int (nI x)), (2, .long d)] := hl
  have hown : s.vm.findClass R_M = some m.cls := hown
  have hG2 := hG
  obtain ⟨g_sz, g_sd, g_hn, g_kd, g_lv, g_tx, g_zs, g_ln, g_lf, g_lt, g_rn, g_lk, g_wy, g_wn, g_di, g_co⟩ := hG
  refine lv_iload_n hx hb d_M_formOf_0 rfl (lv_at hl 1 rfl) ?_
  refine lv_istore (lv' := [(4, .int (nI x)), (0, .ref (a 0)), (1, .int (nI x)), (2, .long d)]) hx hb d_M_formOf_1 hl (by decide) rfl (fun ls hl => ?_)
  refine lv_iconst (v := nI 1) hx hb d_M_formOf_3 (by decide) ?_
  refine lv_istore (lv' := [(5, .int (nI 1)), (4, .int (nI x)), (0, .ref (a 0)), (1, .int (nI x)), (2, .long d)]) hx hb d_M_formOf_4 hl (by decide) rfl (fun ls hl => ?_)
  have hloop6 : ∀ (n6 : Nat) (ee : Nat) (v : Nat) (k : Nat) (ls : Array Slot), ee ≤ 1 → 1 ≤ v → v ≤ 60 → FRM (lf3 σ) (m_lt σ) (m_ld σ) (m_ln σ) d k x v → (ee = 0 → NOB (lf3 σ) (m_ld σ) (m_ln σ) v d) → 2 * rk v + ee < n6 → lv_has ls 8 [(0, .ref (a 0)), (1, .int (nI x)), (2, .long d), (4, .int (nI v)), (5, .int (nI ee))] → W p l e (rD 1) s m ([.ref (a 0), .int (nI x), .long d] : List Value).toArray below meth c s.heap [] 0 0 (MQ below (vp_Si (fun r => ∃ k v, 1 ≤ v ∧ v ≤ 60 ∧ r = nI v ∧ FRM (lf3 σ) (m_lt σ) (m_ld σ) (m_ln σ) d k (x) v ∧ NOB (lf3 σ) (m_ld σ) (m_ln σ) v d)) ([.ref (a 0), .int (nI x), .long d] : List Value).toArray s 0 0 (fun _ => False)) (F0 m 6 ls []) := by
    intro n6
    induction n6 with
    | zero => intro ee v k ls _ _ _ _ _ h9; exact absurd h9 (Nat.not_lt_zero _)
    | succ n6 ih6 =>
      intro ee v k ls he hv1 hv hf hnb hmu6 hl
      refine lv_iload hx hb d_M_formOf_6 (lv_at hl 4 rfl) ?_
      refine x_if_eq (tgt := 120) hx hb d_M_formOf_8 (by decide) (fun c8 => ?_) (fun c8 => ?_)
      · refine lv_iload hx hb d_M_formOf_120 (lv_at hl 3 rfl) ?_
        exact x_ri hx hb hr hlk d_M_formOf_122 ⟨k, v, hv1, hv, rfl, hf, hnb (by omega)⟩
      · refine lv_iconst (v := -1) hx hb d_M_formOf_11 (by decide) ?_
        refine lv_istore (lv' := [(6, .int (-1)), (0, .ref (a 0)), (1, .int (nI x)), (2, .long d), (4, .int (nI v)), (5, .int (nI ee))]) hx hb d_M_formOf_12 hl (by decide) rfl (fun ls hl => ?_)
        refine lv_iconst (v := nI 0) hx hb d_M_formOf_14 (by decide) ?_
        refine lv_istore (lv' := [(7, .int (nI 0)), (6, .int (-1)), (0, .ref (a 0)), (1, .int (nI x)), (2, .long d), (4, .int (nI v)), (5, .int (nI ee))]) hx hb d_M_formOf_15 hl (by decide) rfl (fun ls hl => ?_)
        have hloop17 : ∀ (n17 : Nat) (i : Nat) (y : Int32) (ls : Array Slot), i ≤ m_ln σ → ((y = -1 ∧ NOB (lf3 σ) (m_ld σ) i v d) ∨ ∃ b, y = nI b ∧ BST (lf3 σ) (m_ld σ) i v d b) → m_ln σ + 1 - i < n17 → lv_has ls 8 [(0, .ref (a 0)), (1, .int (nI x)), (2, .long d), (4, .int (nI v)), (6, .int y), (7, .int (nI i))] → W p l e (rD 1) s m ([.ref (a 0), .int (nI x), .long d] : List Value).toArray below meth c s.heap [] 0 0 (MQ below (vp_Si (fun r => ∃ k v, 1 ≤ v ∧ v ≤ 60 ∧ r = nI v ∧ FRM (lf3 σ) (m_lt σ) (m_ld σ) (m_ln σ) d k (x) v ∧ NOB (lf3 σ) (m_ld σ) (m_ln σ) v d)) ([.ref (a 0), .int (nI x), .long d] : List Value).toArray s 0 0 (fun _ => False)) (F0 m 17 ls []) := by
          intro n17
          induction n17 with
          | zero => intro i y ls _ _ h9; exact absurd h9 (Nat.not_lt_zero _)
          | succ n17 ih17 =>
            intro i y ls hi hy hmu17 hl
            rcases hy with ⟨rfl, hno⟩ | ⟨b, rfl, hbs⟩
            · refine lv_iload hx hb d_M_formOf_17 (lv_at hl 5 rfl) ?_
              refine lv_aload_n hx hb d_M_formOf_19 rfl (lv_at hl 0 rfl) ?_
              refine va_get (D := (dC, dI)) (C := R_M) (T := F_M) (N := 20) hx hb hT i_M hown hK hP 0 rfl rfl 8 (by decide) (hT _ k_M_97) (fun _ h9 => h9) (v := .int (nI (m_ln σ))) rfl d_M_formOf_20 ?_
              refine x_icmp_ge (tgt := 85) hx hb d_M_formOf_23 (by decide) (fun c23 => ?_) (fun c23 => ?_)
              · refine lv_iload hx hb d_M_formOf_85 (lv_at hl 4 rfl) ?_
                refine lv_iconst (v := -1) hx hb d_M_formOf_87 (by decide) ?_
                refine lv_icmp_eq (tgt := 95) hx hb d_M_formOf_88 (by decide) (fun _ => ?_) (fun h9 => absurd rfl h9)
                refine lv_iconst (v := nI 0) hx hb d_M_formOf_95 (by decide) ?_
                refine lv_istore (lv' := [(5, .int (nI 0)), (0, .ref (a 0)), (1, .int (nI x)), (2, .long d), (4, .int (nI v)), (6, .int (-1)), (7, .int (nI i))]) hx hb d_M_formOf_96 hl (by decide) rfl (fun ls hl => ?_)
                refine lv_iload hx hb d_M_formOf_98 (lv_at hl 0 rfl) ?_
                refine x_if_eq (tgt := 113) hx hb d_M_formOf_100 (by decide) (fun _ => ?_) (fun h => absurd h (by decide))
                refine lv_iload hx hb d_M_formOf_113 (lv_at hl 4 rfl) ?_
                refine lv_istore (lv' := [(4, .int (nI v)), (5, .int (nI 0)), (0, .ref (a 0)), (1, .int (nI x)), (2, .long d), (6, .int (-1)), (7, .int (nI i))]) hx hb d_M_formOf_115 hl (by decide) rfl (fun ls hl => ?_)
                refine lv_goto (tgt := 6) hx hb d_M_formOf_117 (by decide) ?_
                exact ih6 0 _ k ls (by omega) hv1 hv hf (fun _ => by rw [show m_ln σ = i by omega]; exact hno) (by omega) (lv_sub hl [2, 3, 4, 0, 1] rfl)
              · refine lv_aload_n hx hb d_M_formOf_26 rfl (lv_at hl 0 rfl) ?_
                refine lv_iload hx hb d_M_formOf_27 (lv_at hl 5 rfl) ?_
                refine lv_iconst (v := nI 3) hx hb d_M_formOf_29 (by decide) ?_
                refine lv_iload hx hb d_M_formOf_30 (lv_at hl 3 rfl) ?_
                refine lv_iconst (v := nI 0) hx hb d_M_formOf_32 (by decide) ?_
                refine x_ci (x_runV ⟨hx, hb, hml, hown, hT⟩ (c_M_is l dC dI a t σ hG2 hL i 3 v 0 (by omega) (by omega) hv (by omega)) f_M_is k_M_100 blR (va_recv hK hP (ci := 7) (q0 := 0) rfl rfl) (x_bR hK hP hN) hl.1 d_M_formOf_33 rfl (lv_room (Nat.le_of_ble_eq_true rfl)) ⟨Nat.le_of_ble_eq_true rfl, Nat.le_of_ble_eq_true rfl⟩ ⟨rfl, rfl⟩ ⟨Nat.le_refl 0, Nat.le_refl 0⟩ rfl) (fun r33 q33 => ?_)
                unfold BR at q33
                rw [isL_3 hv1 hv] at q33
                rcases q33 with ⟨rfl, hqq⟩ | ⟨rfl, hqq⟩
                · refine x_if_eq (tgt := 79) hx hb d_M_formOf_36 (by decide) (fun h => absurd h (by decide)) (fun _ => ?_)
                  refine lv_aload_n hx hb d_M_formOf_39 rfl (lv_at hl 0 rfl) ?_
                  refine va_get (D := (dC, dI)) (C := R_M) (T := F_M) (N := 20) hx hb hT i_M hown hK hP 0 rfl rfl 12 (by decide) (hT _ k_M_36) (fun _ h9 => h9) (v := .ref (a 9)) rfl d_M_formOf_40 ?_
                  refine lv_iload hx hb d_M_formOf_43 (lv_at hl 5 rfl) ?_
                  refine x_lald hx hb hK hP 9 8 (f := (m_ld σ)) rfl rfl d_M_formOf_45 (by omega) ?_
                  refine lv_lload_n hx hb d_M_formOf_46 rfl (lv_at hl 2 rfl) ?_
                  refine x_lif_gt (tgt := 79) hx hb d_M_formOf_47 d_M_formOf_48 (by decide) (fun c47 => ?_) (fun c47 => ?_)
                  · refine x_iinc (lv' := [(7, .int (nI (i + 1))), (0, .ref (a 0)), (1, .int (nI x)), (2, .long d), (4, .int (nI v)), (6, .int (-1))]) hx hb d_M_formOf_79 hl (k := 5) rfl (by decide) rfl (fun ls hl => ?_)
                    refine lv_goto (tgt := 17) hx hb d_M_formOf_82 (by decide) ?_
                    exact ih17 (i + 1) _ ls (by omega) (Or.inl ⟨rfl, NOB_s hno (fun q9 => by first | exact hqq q9.1 | exact absurd q9.2 (Int64.not_le.mpr c47))⟩) (by omega) (lv_sub hl [1, 2, 3, 4, 5, 0] rfl)
                  · refine lv_iload hx hb d_M_formOf_51 (lv_at hl 4 rfl) ?_
                    refine lv_iconst (v := -1) hx hb d_M_formOf_53 (by decide) ?_
                    refine lv_icmp_eq (tgt := 75) hx hb d_M_formOf_54 (by decide) (fun _ => ?_) (fun h9 => absurd rfl h9)
                    refine lv_iload hx hb d_M_formOf_75 (lv_at hl 5 rfl) ?_
                    refine lv_istore (lv' := [(6, .int (nI i)), (0, .ref (a 0)), (1, .int (nI x)), (2, .long d), (4, .int (nI v)), (7, .int (nI i))]) hx hb d_M_formOf_77 hl (by decide) rfl (fun ls hl => ?_)
                    refine x_iinc (lv' := [(7, .int (nI (i + 1))), (6, .int (nI i)), (0, .ref (a 0)), (1, .int (nI x)), (2, .long d), (4, .int (nI v))]) hx hb d_M_formOf_79 hl (k := 5) rfl (by decide) rfl (fun ls hl => ?_)
                    refine lv_goto (tgt := 17) hx hb d_M_formOf_82 (by decide) ?_
                    exact ih17 (i + 1) _ ls (by omega) (Or.inr ⟨i, rfl, by first | exact BST_new hno hqq (Int64.not_lt.mp c47) | exact BST_more hbs hqq (Int64.not_lt.mp c47) (Int64.not_le.mp c71)⟩) (by omega) (lv_sub hl [2, 3, 4, 5, 1, 0] rfl)
                · refine x_if_eq (tgt := 79) hx hb d_M_formOf_36 (by decide) (fun _ => ?_) (fun h => absurd h (by decide))
                  refine x_iinc (lv' := [(7, .int (nI (i + 1))), (0, .ref (a 0)), (1, .int (nI x)), (2, .long d), (4, .int (nI v)), (6, .int (-1))]) hx hb d_M_formOf_79 hl (k := 5) rfl (by decide) rfl (fun ls hl => ?_)
                  refine lv_goto (tgt := 17) hx hb d_M_formOf_82 (by decide) ?_
                  exact ih17 (i + 1) _ ls (by omega) (Or.inl ⟨rfl, NOB_s hno (fun q9 => by first | exact hqq q9.1 | exact absurd q9.2 (Int64.not_le.mpr c47))⟩) (by omega) (lv_sub hl [1, 2, 3, 4, 5, 0] rfl)
            · refine lv_iload hx hb d_M_formOf_17 (lv_at hl 5 rfl) ?_
              refine lv_aload_n hx hb d_M_formOf_19 rfl (lv_at hl 0 rfl) ?_
              refine va_get (D := (dC, dI)) (C := R_M) (T := F_M) (N := 20) hx hb hT i_M hown hK hP 0 rfl rfl 8 (by decide) (hT _ k_M_97) (fun _ h9 => h9) (v := .int (nI (m_ln σ))) rfl d_M_formOf_20 ?_
              refine x_icmp_ge (tgt := 85) hx hb d_M_formOf_23 (by decide) (fun c23 => ?_) (fun c23 => ?_)
              · refine lv_iload hx hb d_M_formOf_85 (lv_at hl 4 rfl) ?_
                refine lv_iconst (v := -1) hx hb d_M_formOf_87 (by decide) ?_
                refine lv_icmp_eq (tgt := 95) hx hb d_M_formOf_88 (by decide) (fun h9 => absurd h9 (nI_m1 (by have := hbs.1; omega))) (fun _ => ?_)
                refine lv_iconst (v := nI 1) hx hb d_M_formOf_91 (by decide) ?_
                refine lv_goto (tgt := 96) hx hb d_M_formOf_92 (by decide) ?_
                refine lv_istore (lv' := [(5, .int (nI 1)), (0, .ref (a 0)), (1, .int (nI x)), (2, .long d), (4, .int (nI v)), (6, .int (nI b)), (7, .int (nI i))]) hx hb d_M_formOf_96 hl (by decide) rfl (fun ls hl => ?_)
                refine lv_iload hx hb d_M_formOf_98 (lv_at hl 0 rfl) ?_
                refine x_if_eq (tgt := 113) hx hb d_M_formOf_100 (by decide) (fun h => absurd h (by decide)) (fun _ => ?_)
                have hbl : BST (lf3 σ) (m_ld σ) (m_ln σ) v d b := by rw [show m_ln σ = i by omega]; exact hbs
                have hr9 : rk (m_lt σ b) < rk v := by have h7 := lf3_3 hv hbl.2.1; have h8 := hrk b hbl.1 h7.1; rw [h7.2] at h8; exact h8
                refine lv_aload_n hx hb d_M_formOf_103 rfl (lv_at hl 1 rfl) ?_
                refine va_get (D := (dC, dI)) (C := R_M) (T := F_M) (N := 20) hx hb hT i_M hown hK hP 0 rfl rfl 11 (by decide) (hT _ k_M_33) (fun _ h9 => h9) (v := .ref (a 8)) rfl d_M_formOf_104 ?_
                refine lv_iload hx hb d_M_formOf_107 (lv_at hl 5 rfl) ?_
                refine x_iald hx hb hK hP 8 7 (f := (m_lt σ)) rfl rfl d_M_formOf_109 (by have := hbs.1; omega) ?_
                refine lv_goto (tgt := 115) hx hb d_M_formOf_110 (by decide) ?_
                refine lv_istore (lv' := [(4, .int (nI ((m_lt σ) b))), (5, .int (nI 1)), (0, .ref (a 0)), (1, .int (nI x)), (2, .long d), (6, .int (nI b)), (7, .int (nI i))]) hx hb d_M_formOf_115 hl (by decide) rfl (fun ls hl => ?_)
                refine lv_goto (tgt := 6) hx hb d_M_formOf_117 (by decide) ?_
                exact ih6 1 _ (k + 1) ls (by omega) (hlt b (by have := hbs.1; omega)) (g_lt b) ⟨v, hf, b, hbl, rfl⟩ (fun h9 => absurd h9 (by decide)) (by omega) (lv_sub hl [2, 3, 4, 0, 1] rfl)
              · refine lv_aload_n hx hb d_M_formOf_26 rfl (lv_at hl 0 rfl) ?_
                refine lv_iload hx hb d_M_formOf_27 (lv_at hl 5 rfl) ?_
                refine lv_iconst (v := nI 3) hx hb d_M_formOf_29 (by decide) ?_
                refine lv_iload hx hb d_M_formOf_30 (lv_at hl 3 rfl) ?_
                refine lv_iconst (v := nI 0) hx hb d_M_formOf_32 (by decide) ?_
                refine x_ci (x_runV ⟨hx, hb, hml, hown, hT⟩ (c_M_is l dC dI a t σ hG2 hL i 3 v 0 (by omega) (by omega) hv (by omega)) f_M_is k_M_100 blR (va_recv hK hP (ci := 7) (q0 := 0) rfl rfl) (x_bR hK hP hN) hl.1 d_M_formOf_33 rfl (lv_room (Nat.le_of_ble_eq_true rfl)) ⟨Nat.le_of_ble_eq_true rfl, Nat.le_of_ble_eq_true rfl⟩ ⟨rfl, rfl⟩ ⟨Nat.le_refl 0, Nat.le_refl 0⟩ rfl) (fun r33 q33 => ?_)
                unfold BR at q33
                rw [isL_3 hv1 hv] at q33
                rcases q33 with ⟨rfl, hqq⟩ | ⟨rfl, hqq⟩
                · refine x_if_eq (tgt := 79) hx hb d_M_formOf_36 (by decide) (fun h => absurd h (by decide)) (fun _ => ?_)
                  refine lv_aload_n hx hb d_M_formOf_39 rfl (lv_at hl 0 rfl) ?_
                  refine va_get (D := (dC, dI)) (C := R_M) (T := F_M) (N := 20) hx hb hT i_M hown hK hP 0 rfl rfl 12 (by decide) (hT _ k_M_36) (fun _ h9 => h9) (v := .ref (a 9)) rfl d_M_formOf_40 ?_
                  refine lv_iload hx hb d_M_formOf_43 (lv_at hl 5 rfl) ?_
                  refine x_lald hx hb hK hP 9 8 (f := (m_ld σ)) rfl rfl d_M_formOf_45 (by omega) ?_
                  refine lv_lload_n hx hb d_M_formOf_46 rfl (lv_at hl 2 rfl) ?_
                  refine x_lif_gt (tgt := 79) hx hb d_M_formOf_47 d_M_formOf_48 (by decide) (fun c47 => ?_) (fun c47 => ?_)
                  · refine x_iinc (lv' := [(7, .int (nI (i + 1))), (0, .ref (a 0)), (1, .int (nI x)), (2, .long d), (4, .int (nI v)), (6, .int (nI b))]) hx hb d_M_formOf_79 hl (k := 5) rfl (by decide) rfl (fun ls hl => ?_)
                    refine lv_goto (tgt := 17) hx hb d_M_formOf_82 (by decide) ?_
                    exact ih17 (i + 1) _ ls (by omega) (Or.inr ⟨b, rfl, BST_same hbs (by first | exact Or.inr (Int64.not_lt.mpr c71) | exact Or.inl (fun q9 => by first | exact hqq q9.1 | exact absurd q9.2 (Int64.not_le.mpr c47)))⟩) (by omega) (lv_sub hl [1, 2, 3, 4, 5, 0] rfl)
                  · refine lv_iload hx hb d_M_formOf_51 (lv_at hl 4 rfl) ?_
                    refine lv_iconst (v := -1) hx hb d_M_formOf_53 (by decide) ?_
                    refine lv_icmp_eq (tgt := 75) hx hb d_M_formOf_54 (by decide) (fun h9 => absurd h9 (nI_m1 (by have := hbs.1; omega))) (fun _ => ?_)
                    refine lv_aload_n hx hb d_M_formOf_57 rfl (lv_at hl 0 rfl) ?_
                    refine va_get (D := (dC, dI)) (C := R_M) (T := F_M) (N := 20) hx hb hT i_M hown hK hP 0 rfl rfl 12 (by decide) (hT _ k_M_36) (fun _ h9 => h9) (v := .ref (a 9)) rfl d_M_formOf_58 ?_
                    refine lv_iload hx hb d_M_formOf_61 (lv_at hl 5 rfl) ?_
                    refine x_lald hx hb hK hP 9 8 (f := (m_ld σ)) rfl rfl d_M_formOf_63 (by omega) ?_
                    refine lv_aload_n hx hb d_M_formOf_64 rfl (lv_at hl 0 rfl) ?_
                    refine va_get (D := (dC, dI)) (C := R_M) (T := F_M) (N := 20) hx hb hT i_M hown hK hP 0 rfl rfl 12 (by decide) (hT _ k_M_36) (fun _ h9 => h9) (v := .ref (a 9)) rfl d_M_formOf_65 ?_
                    refine lv_iload hx hb d_M_formOf_68 (lv_at hl 4 rfl) ?_
                    refine x_lald hx hb hK hP 9 8 (f := (m_ld σ)) rfl rfl d_M_formOf_70 (by have := hbs.1; omega) ?_
                    refine x_lif_le (tgt := 79) hx hb d_M_formOf_71 d_M_formOf_72 (by decide) (fun c71 => ?_) (fun c71 => ?_)
                    · refine x_iinc (lv' := [(7, .int (nI (i + 1))), (0, .ref (a 0)), (1, .int (nI x)), (2, .long d), (4, .int (nI v)), (6, .int (nI b))]) hx hb d_M_formOf_79 hl (k := 5) rfl (by decide) rfl (fun ls hl => ?_)
                      refine lv_goto (tgt := 17) hx hb d_M_formOf_82 (by decide) ?_
                      exact ih17 (i + 1) _ ls (by omega) (Or.inr ⟨b, rfl, BST_same hbs (by first | exact Or.inr (Int64.not_lt.mpr c71) | exact Or.inl (fun q9 => by first | exact hqq q9.1 | exact absurd q9.2 (Int64.not_le.mpr c47)))⟩) (by omega) (lv_sub hl [1, 2, 3, 4, 5, 0] rfl)
                    · refine lv_iload hx hb d_M_formOf_75 (lv_at hl 5 rfl) ?_
                      refine lv_istore (lv' := [(6, .int (nI i)), (0, .ref (a 0)), (1, .int (nI x)), (2, .long d), (4, .int (nI v)), (7, .int (nI i))]) hx hb d_M_formOf_77 hl (by decide) rfl (fun ls hl => ?_)
                      refine x_iinc (lv' := [(7, .int (nI (i + 1))), (6, .int (nI i)), (0, .ref (a 0)), (1, .int (nI x)), (2, .long d), (4, .int (nI v))]) hx hb d_M_formOf_79 hl (k := 5) rfl (by decide) rfl (fun ls hl => ?_)
                      refine lv_goto (tgt := 17) hx hb d_M_formOf_82 (by decide) ?_
                      exact ih17 (i + 1) _ ls (by omega) (Or.inr ⟨i, rfl, by first | exact BST_new hno hqq (Int64.not_lt.mp c47) | exact BST_more hbs hqq (Int64.not_lt.mp c47) (Int64.not_le.mp c71)⟩) (by omega) (lv_sub hl [2, 3, 4, 5, 1, 0] rfl)
                · refine x_if_eq (tgt := 79) hx hb d_M_formOf_36 (by decide) (fun _ => ?_) (fun h => absurd h (by decide))
                  refine x_iinc (lv' := [(7, .int (nI (i + 1))), (0, .ref (a 0)), (1, .int (nI x)), (2, .long d), (4, .int (nI v)), (6, .int (nI b))]) hx hb d_M_formOf_79 hl (k := 5) rfl (by decide) rfl (fun ls hl => ?_)
                  refine lv_goto (tgt := 17) hx hb d_M_formOf_82 (by decide) ?_
                  exact ih17 (i + 1) _ ls (by omega) (Or.inr ⟨b, rfl, BST_same hbs (by first | exact Or.inr (Int64.not_lt.mpr c71) | exact Or.inl (fun q9 => by first | exact hqq q9.1 | exact absurd q9.2 (Int64.not_le.mpr c47)))⟩) (by omega) (lv_sub hl [1, 2, 3, 4, 5, 0] rfl)
        exact hloop17 _ 0 _ ls (by omega) (Or.inl ⟨rfl, fun j hj => absurd hj (Nat.not_lt_zero _)⟩) (Nat.lt_succ_self _) (lv_sub hl [2, 3, 4, 5, 1, 0] rfl)
  exact hloop6 _ 1 x 0 ls (by omega) hx1 hx9 rfl (fun h9 => absurd h9 (by decide)) (Nat.lt_succ_self _) (lv_sub hl [2, 3, 4, 1, 0] rfl)

set_option maxRecDepth 100000 in
set_option maxHeartbeats 4000000 in
theorem c_M_form (l : Launch) (dC : Nat → ClassId) (dI : Nat → Nat → Nat) (a : Nat → Nat) (t : Nat → ClassId) (σ : SM) (sz : Nat) (hG : GM σ) (hL : GL σ) (x : Int32) (d : Int64) (rk : Nat → Nat) (hrk : ∀ i, i < m_ln σ → m_ls σ i = 3 → rk (m_lt σ i) < rk (m_lf σ i)) (hlt : ∀ i, i < m_ln σ → 1 ≤ m_lt σ i) : Met l y_M_form (wS y_M_form b_M_form 4 (some .int)) (rD 2) (va_Pc [.ref (a 0), .int x, .long d] (MB (dC, dI) (yM t) (wM a t σ) sz)) (va_Qi (fun (r : Int32) (u : SM) => u = σ ∧ ((¬ (∃ j, 1 ≤ j ∧ j ≤ m_hn σ ∧ m_lv σ j = 1 ∧ x = nI j) ∧ r = nI 0) ∨ ∃ j, 1 ≤ j ∧ j ≤ m_hn σ ∧ m_lv σ j = 1 ∧ x = nI j ∧ ∃ k v, 1 ≤ v ∧ v ≤ 60 ∧ r = nI v ∧ FRM (lf3 σ) (m_lt σ) (m_ld σ) (m_ln σ) d k (j) v ∧ NOB (lf3 σ) (m_ld σ) (m_ln σ) v d)) (fun u => ME (dC, dI) (yM t) (va_A (wM a t σ) sz) (wM a t u)) (va_A (wM a t σ) sz)) 0 0 (va_A (wM a t σ) sz) := by
  refine x_enter (by decide) (Nat.le_of_ble_eq_true rfl) ?_
  intro p e s m below meth c ls hx hb hr hml hT hown hlk hnm hl hB
  obtain ⟨rfl, hP, hK, hN, hD0⟩ := hB
  have hD := hD0.self (sz := s.heap.size)
  generalize hAe : va_A (wM a t σ) s.heap.size = A at hD ⊢
  have hA : ∀ q : Nat, s.heap.size ≤ q → A q := fun q h => by rw [← hAe]; exact Or.inr h
  have hS : va_S A s.heap s.heap [] := va_S.rf
  have hP : va_P (dC, dI) classes (wM a t σ) s.heap := hP
  have hl : lv_has ls 4 [(0, .ref (a 0)), (1, .int x), (2, .long d)] := hl
  have hown : s.vm.findClass R_M = some m.cls := hown
  have hG2 := hG
  obtain ⟨g_sz, g_sd, g_hn, g_kd, g_lv, g_tx, g_zs, g_ln, g_lf, g_lt, g_rn, g_lk, g_wy, g_wn, g_di, g_co⟩ := hG
  refine lv_aload_n hx hb d_M_form_0 rfl (lv_at hl 0 rfl) ?_
  refine lv_iconst (v := nI 0) hx hb d_M_form_1 (by decide) ?_
  refine va_put (D := (dC, dI)) (v := .int (nI 0)) (ty := .int) (C := R_M) (T := F_M) (N := 20) hx hb hT i_M ft_M ft_M_ok n_M hown hK hP hD hS 0 rfl rfl 0 (by decide) (hT _ k_M_52) (fun _ h9 => h9) rfl (by decide +kernel) rfl rfl (Nat.le_of_ble_eq_true rfl) d_M_form_2 (fun H locs hP hD hS => ?_)
  have hP : va_P (dC, dI) classes (wM a t σ) H := hP
  have hD : va_D A (wM a t σ) := hD
  refine lv_aload_n hx hb d_M_form_5 rfl (lv_at hl 0 rfl) ?_
  refine lv_iload_n hx hb d_M_form_6 rfl (lv_at hl 1 rfl) ?_
  refine x_ci (x_runV ⟨hx, hb, hml, hown, hT⟩ (c_M_isLive l dC dI a t σ hG2 x) f_M_isLive k_M_91 blR (va_recv hK hP (ci := 7) (q0 := 0) rfl rfl) (x_bR hK hP hN) hl.1 d_M_form_7 rfl (lv_room (Nat.le_of_ble_eq_true rfl)) ⟨Nat.le_of_ble_eq_true rfl, Nat.le_of_ble_eq_true rfl⟩ ⟨rfl, rfl⟩ ⟨Nat.le_refl 0, Nat.le_refl 0⟩ rfl) (fun r7 q7 => ?_)
  rcases q7 with ⟨rfl, j, hj1, hj2, hj3, rfl⟩ | ⟨rfl, hnj⟩
  · refine x_if_eq (tgt := 22) hx hb d_M_form_10 (by decide) (fun h => absurd h (by decide)) (fun _ => ?_)
    refine lv_aload_n hx hb d_M_form_13 rfl (lv_at hl 0 rfl) ?_
    refine lv_iload_n hx hb d_M_form_14 rfl (lv_at hl 1 rfl) ?_
    refine lv_lload_n hx hb d_M_form_15 rfl (lv_at hl 2 rfl) ?_
    refine x_ci (x_runV ⟨hx, hb, hml, hown, hT⟩ (c_M_formOf l dC dI a t σ hG2 hL j d hj1 (by omega) rk hrk hlt) f_M_formOf k_M_123 blR (va_recv hK hP (ci := 7) (q0 := 0) rfl rfl) (x_bR hK hP hN) hl.1 d_M_form_16 rfl (lv_room (Nat.le_of_ble_eq_true rfl)) ⟨Nat.le_of_ble_eq_true rfl, Nat.le_of_ble_eq_true rfl⟩ ⟨rfl, rfl⟩ ⟨Nat.le_refl 0, Nat.le_refl 0⟩ rfl) (fun r16 q16 => ?_)
    refine lv_goto (tgt := 23) hx hb d_M_form_19 (by decide) ?_
    exact x_mi (wl := wM a t) σ hx hb hr hlk hK hP hD hS d_M_form_23 ⟨rfl, Or.inr ⟨j, hj1, hj2, hj3, rfl, q16⟩⟩
  · refine x_if_eq (tgt := 22) hx hb d_M_form_10 (by decide) (fun _ => ?_) (fun h => absurd h (by decide))
    refine lv_iconst (v := nI 0) hx hb d_M_form_22 (by decide) ?_
    exact x_mi (wl := wM a t) σ hx hb hr hlk hK hP hD hS d_M_form_23 ⟨rfl, Or.inl ⟨hnj, rfl⟩⟩

set_option maxRecDepth 100000 in
set_option maxHeartbeats 4000000 in
theorem c_M_shown (l : Launch) (dC : Nat → ClassId) (dI : Nat → Nat → Nat) (a : Nat → Nat) (t : Nat → ClassId) (σ : SM) (sz : Nat) (hG : GM σ) (hL : GL σ) (x : Int32) (d : Int64) (rk : Nat → Nat) (hrk : ∀ i, i < m_ln σ → m_ls σ i = 3 → rk (m_lt σ i) < rk (m_lf σ i)) (hlt : ∀ i, i < m_ln σ → 1 ≤ m_lt σ i) : Met l y_M_shown (wS y_M_shown b_M_shown 4 (some .int)) (rD 2) (va_Pc [.ref (a 0), .int x, .long d] (MB (dC, dI) (yM t) (wM a t σ) sz)) (va_Qi (fun (r : Int32) (u : SM) => u = σ ∧ ((¬ (∃ j, 1 ≤ j ∧ j ≤ m_hn σ ∧ m_lv σ j = 1 ∧ x = nI j) ∧ r = nI 0) ∨ ∃ j, 1 ≤ j ∧ j ≤ m_hn σ ∧ m_lv σ j = 1 ∧ x = nI j ∧ ∃ v0, ((∃ i, i < m_ln σ ∧ isL σ i 0 j 0 ∧ (∀ k, k < i → ¬ isL σ k 0 j 0) ∧ v0 = m_lt σ i) ∨ ((∀ i, i < m_ln σ → ¬ isL σ i 0 j 0) ∧ v0 = j)) ∧ ∃ k v, 1 ≤ v ∧ v ≤ 60 ∧ r = nI v ∧ FRM (lf3 σ) (m_lt σ) (m_ld σ) (m_ln σ) d k (v0) v ∧ NOB (lf3 σ) (m_ld σ) (m_ln σ) v d)) (fun u => ME (dC, dI) (yM t) (va_A (wM a t σ) sz) (wM a t u)) (va_A (wM a t σ) sz)) 0 0 (va_A (wM a t σ) sz) := by
  refine x_enter (by decide) (Nat.le_of_ble_eq_true rfl) ?_
  intro p e s m below meth c ls hx hb hr hml hT hown hlk hnm hl hB
  obtain ⟨rfl, hP, hK, hN, hD0⟩ := hB
  have hD := hD0.self (sz := s.heap.size)
  generalize hAe : va_A (wM a t σ) s.heap.size = A at hD ⊢
  have hA : ∀ q : Nat, s.heap.size ≤ q → A q := fun q h => by rw [← hAe]; exact Or.inr h
  have hS : va_S A s.heap s.heap [] := va_S.rf
  have hP : va_P (dC, dI) classes (wM a t σ) s.heap := hP
  have hl : lv_has ls 4 [(0, .ref (a 0)), (1, .int x), (2, .long d)] := hl
  have hown : s.vm.findClass R_M = some m.cls := hown
  have hG2 := hG
  obtain ⟨g_sz, g_sd, g_hn, g_kd, g_lv, g_tx, g_zs, g_ln, g_lf, g_lt, g_rn, g_lk, g_wy, g_wn, g_di, g_co⟩ := hG
  refine lv_aload_n hx hb d_M_shown_0 rfl (lv_at hl 0 rfl) ?_
  refine lv_iconst (v := nI 0) hx hb d_M_shown_1 (by decide) ?_
  refine va_put (D := (dC, dI)) (v := .int (nI 0)) (ty := .int) (C := R_M) (T := F_M) (N := 20) hx hb hT i_M ft_M ft_M_ok n_M hown hK hP hD hS 0 rfl rfl 0 (by decide) (hT _ k_M_52) (fun _ h9 => h9) rfl (by decide +kernel) rfl rfl (Nat.le_of_ble_eq_true rfl) d_M_shown_2 (fun H locs hP hD hS => ?_)
  have hP : va_P (dC, dI) classes (wM a t σ) H := hP
  have hD : va_D A (wM a t σ) := hD
  refine lv_aload_n hx hb d_M_shown_5 rfl (lv_at hl 0 rfl) ?_
  refine lv_iload_n hx hb d_M_shown_6 rfl (lv_at hl 1 rfl) ?_
  refine x_ci (x_runV ⟨hx, hb, hml, hown, hT⟩ (c_M_isLive l dC dI a t σ hG2 x) f_M_isLive k_M_91 blR (va_recv hK hP (ci := 7) (q0 := 0) rfl rfl) (x_bR hK hP hN) hl.1 d_M_shown_7 rfl (lv_room (Nat.le_of_ble_eq_true rfl)) ⟨Nat.le_of_ble_eq_true rfl, Nat.le_of_ble_eq_true rfl⟩ ⟨rfl, rfl⟩ ⟨Nat.le_refl 0, Nat.le_refl 0⟩ rfl) (fun r7 q7 => ?_)
  rcases q7 with ⟨rfl, j, hj1, hj2, hj3, rfl⟩ | ⟨rfl, hnj⟩
  · refine x_if_eq (tgt := 26) hx hb d_M_shown_10 (by decide) (fun h => absurd h (by decide)) (fun _ => ?_)
    refine lv_aload_n hx hb d_M_shown_13 rfl (lv_at hl 0 rfl) ?_
    refine lv_aload_n hx hb d_M_shown_14 rfl (lv_at hl 0 rfl) ?_
    refine lv_iload_n hx hb d_M_shown_15 rfl (lv_at hl 1 rfl) ?_
    refine x_ci (x_runV ⟨hx, hb, hml, hown, hT⟩ (c_M_used l dC dI a t σ hG2 hL j (by omega)) f_M_used k_M_127 blR (va_recv hK hP (ci := 7) (q0 := 0) rfl rfl) (x_bR hK hP hN) hl.1 d_M_shown_16 rfl (lv_room (Nat.le_of_ble_eq_true rfl)) ⟨Nat.le_of_ble_eq_true rfl, Nat.le_of_ble_eq_true rfl⟩ ⟨rfl, rfl⟩ ⟨Nat.le_refl 0, Nat.le_refl 0⟩ rfl) (fun r16 q16 => ?_)
    obtain ⟨v0, rfl, hv1, hv0, hus⟩ : ∃ v0, r16 = nI v0 ∧ 1 ≤ v0 ∧ v0 ≤ 60 ∧ ((∃ i, i < m_ln σ ∧ isL σ i 0 j 0 ∧ (∀ k, k < i → ¬ isL σ k 0 j 0) ∧ v0 = m_lt σ i) ∨ ((∀ i, i < m_ln σ → ¬ isL σ i 0 j 0) ∧ v0 = j)) := by
      rcases q16 with ⟨i, e1, e2, e3, e4⟩ | ⟨e1, e2⟩
      · exact ⟨m_lt σ i, e4, hlt i e1, g_lt i, Or.inl ⟨i, e1, e2, e3, rfl⟩⟩
      · exact ⟨j, e2, hj1, by omega, Or.inr ⟨e1, rfl⟩⟩
    clear q16
    refine lv_lload_n hx hb d_M_shown_19 rfl (lv_at hl 2 rfl) ?_
    refine x_ci (x_runV ⟨hx, hb, hml, hown, hT⟩ (c_M_formOf l dC dI a t σ hG2 hL v0 d hv1 hv0 rk hrk hlt) f_M_formOf k_M_123 blR (va_recv hK hP (ci := 7) (q0 := 0) rfl rfl) (x_bR hK hP hN) hl.1 d_M_shown_20 rfl (lv_room (Nat.le_of_ble_eq_true rfl)) ⟨Nat.le_of_ble_eq_true rfl, Nat.le_of_ble_eq_true rfl⟩ ⟨rfl, rfl⟩ ⟨Nat.le_refl 0, Nat.le_refl 0⟩ rfl) (fun r20 q20 => ?_)
    refine lv_goto (tgt := 27) hx hb d_M_shown_23 (by decide) ?_
    exact x_mi (wl := wM a t) σ hx hb hr hlk hK hP hD hS d_M_shown_27 ⟨rfl, Or.inr ⟨j, hj1, hj2, hj3, rfl, v0, hus, q20⟩⟩
  · refine x_if_eq (tgt := 26) hx hb d_M_shown_10 (by decide) (fun _ => ?_) (fun h => absurd h (by decide))
    refine lv_iconst (v := nI 0) hx hb d_M_shown_26 (by decide) ?_
    exact x_mi (wl := wM a t) σ hx hb hr hlk hK hP hD hS d_M_shown_27 ⟨rfl, Or.inl ⟨hnj, rfl⟩⟩

set_option maxRecDepth 100000 in
set_option maxHeartbeats 4000000 in
theorem c_M_record (l : Launch) (dC : Nat → ClassId) (dI : Nat → Nat → Nat) (a : Nat → Nat) (t : Nat → ClassId) (σ : SM) (sz : Nat) (hG : GM σ) (hL : GL σ) (x : Int32) (d : Int64) (hlt : ∀ i, i < m_ln σ → 1 ≤ m_lt σ i) : Met l y_M_record (wS y_M_record b_M_record 4 (some .int)) (rD 2) (va_Pc [.ref (a 0), .int x, .long d] (MB (dC, dI) (yM t) (wM a t σ) sz)) (va_Qi (fun (r : Int32) (u : SM) => (¬ (∃ j, 1 ≤ j ∧ j ≤ m_hn σ ∧ m_lv σ j = 1 ∧ x = nI j) ∧ r = nI 0 ∧ u = σ) ∨ ∃ j, 1 ≤ j ∧ j ≤ m_hn σ ∧ m_lv σ j = 1 ∧ x = nI j ∧ ((m_rn σ = 60 ∧ r = nI 0 ∧ u = σ) ∨ (m_rn σ < 60 ∧ r = nI (m_rn σ + 1) ∧ ∃ v0, ((∃ i, i < m_ln σ ∧ isL σ i 0 j 0 ∧ (∀ k, k < i → ¬ isL σ k 0 j 0) ∧ v0 = m_lt σ i) ∨ ((∀ i, i < m_ln σ → ¬ isL σ i 0 j 0) ∧ v0 = j)) ∧ v0 ≤ 60 ∧ u = mu_rd (mu_lk (mu_rn σ (m_rn σ + 1)) (updN (m_lk σ) (m_rn σ + 1) v0)) (vp_updL (m_rd σ) (m_rn σ + 1) d)))) (fun u => ME (dC, dI) (yM t) (va_A (wM a t σ) sz) (wM a t u)) (va_A (wM a t σ) sz)) 0 0 (va_A (wM a t σ) sz) := by
  refine x_enter (by decide) (Nat.le_of_ble_eq_true rfl) ?_
  intro p e s m below meth c ls hx hb hr hml hT hown hlk hnm hl hB
  obtain ⟨rfl, hP, hK, hN, hD0⟩ := hB
  have hD := hD0.self (sz := s.heap.size)
  generalize hAe : va_A (wM a t σ) s.heap.size = A at hD ⊢
  have hA : ∀ q : Nat, s.heap.size ≤ q → A q := fun q h => by rw [← hAe]; exact Or.inr h
  have hS : va_S A s.heap s.heap [] := va_S.rf
  have hP : va_P (dC, dI) classes (wM a t σ) s.heap := hP
  have hl : lv_has ls 4 [(0, .ref (a 0)), (1, .int x), (2, .long d)] := hl
  have hown : s.vm.findClass R_M = some m.cls := hown
  have hG2 := hG
  obtain ⟨g_sz, g_sd, g_hn, g_kd, g_lv, g_tx, g_zs, g_ln, g_lf, g_lt, g_rn, g_lk, g_wy, g_wn, g_di, g_co⟩ := hG
  refine lv_aload_n hx hb d_M_record_0 rfl (lv_at hl 0 rfl) ?_
  refine lv_iconst (v := nI 0) hx hb d_M_record_1 (by decide) ?_
  refine va_put (D := (dC, dI)) (v := .int (nI 0)) (ty := .int) (C := R_M) (T := F_M) (N := 20) hx hb hT i_M ft_M ft_M_ok n_M hown hK hP hD hS 0 rfl rfl 0 (by decide) (hT _ k_M_52) (fun _ h9 => h9) rfl (by decide +kernel) rfl rfl (Nat.le_of_ble_eq_true rfl) d_M_record_2 (fun H locs hP hD hS => ?_)
  have hP : va_P (dC, dI) classes (wM a t σ) H := hP
  have hD : va_D A (wM a t σ) := hD
  refine lv_aload_n hx hb d_M_record_5 rfl (lv_at hl 0 rfl) ?_
  refine lv_iload_n hx hb d_M_record_6 rfl (lv_at hl 1 rfl) ?_
  refine x_ci (x_runV ⟨hx, hb, hml, hown, hT⟩ (c_M_isLive l dC dI a t σ hG2 x) f_M_isLive k_M_91 blR (va_recv hK hP (ci := 7) (q0 := 0) rfl rfl) (x_bR hK hP hN) hl.1 d_M_record_7 rfl (lv_room (Nat.le_of_ble_eq_true rfl)) ⟨Nat.le_of_ble_eq_true rfl, Nat.le_of_ble_eq_true rfl⟩ ⟨rfl, rfl⟩ ⟨Nat.le_refl 0, Nat.le_refl 0⟩ rfl) (fun r7 q7 => ?_)
  rcases q7 with ⟨rfl, j, hj1, hj2, hj3, rfl⟩ | ⟨rfl, hnj⟩
  · refine x_if_eq (tgt := 22) hx hb d_M_record_10 (by decide) (fun h => absurd h (by decide)) (fun _ => ?_)
    refine lv_aload_n hx hb d_M_record_13 rfl (lv_at hl 0 rfl) ?_
    refine va_get (D := (dC, dI)) (C := R_M) (T := F_M) (N := 20) hx hb hT i_M hown hK hP 0 rfl rfl 13 (by decide) (hT _ k_M_88) (fun _ h9 => h9) (v := .int (nI (m_rn σ))) rfl d_M_record_14 ?_
    refine lv_bipush (v := nI 60) hx hb d_M_record_17 (by decide) ?_
    refine x_icmp_ne (tgt := 24) hx hb d_M_record_19 (by decide) (fun c19 => ?_) (fun c19 => ?_)
    · refine lv_aload_n hx hb d_M_record_24 rfl (lv_at hl 0 rfl) ?_
      refine lv_dup hx hb d_M_record_25 rfl ?_
      refine va_get (D := (dC, dI)) (C := R_M) (T := F_M) (N := 20) hx hb hT i_M hown hK hP 0 rfl rfl 13 (by decide) (hT _ k_M_88) (fun _ h9 => h9) (v := .int (nI (m_rn σ))) rfl d_M_record_26 ?_
      refine lv_iconst (v := nI 1) hx hb d_M_record_29 (by decide) ?_
      refine x_iadd hx hb d_M_record_30 ?_
      refine va_put (D := (dC, dI)) (v := .int (nI ((m_rn σ) + 1))) (ty := .int) (C := R_M) (T := F_M) (N := 20) hx hb hT i_M ft_M ft_M_ok n_M hown hK hP hD hS 0 rfl rfl 13 (by decide) (hT _ k_M_88) (fun _ h9 => h9) rfl (by decide +kernel) rfl rfl (Nat.le_of_ble_eq_true rfl) d_M_record_31 (fun H locs hP hD hS => ?_)
      have hP : va_P (dC, dI) classes (wM a t (mu_rn σ ((m_rn σ) + 1))) H := hP
      have hD : va_D A (wM a t (mu_rn σ ((m_rn σ) + 1))) := hD
      refine lv_aload_n hx hb d_M_record_34 rfl (lv_at hl 0 rfl) ?_
      refine va_get (D := (dC, dI)) (C := R_M) (T := F_M) (N := 20) hx hb hT i_M hown hK hP 0 rfl rfl 14 (by decide) (hT _ k_M_40) (fun _ h9 => h9) (v := .ref (a 10)) rfl d_M_record_35 ?_
      refine lv_aload_n hx hb d_M_record_38 rfl (lv_at hl 0 rfl) ?_
      refine va_get (D := (dC, dI)) (C := R_M) (T := F_M) (N := 20) hx hb hT i_M hown hK hP 0 rfl rfl 13 (by decide) (hT _ k_M_88) (fun _ h9 => h9) (v := .int (nI ((m_rn σ) + 1))) rfl d_M_record_39 ?_
      refine lv_aload_n hx hb d_M_record_42 rfl (lv_at hl 0 rfl) ?_
      refine lv_iload_n hx hb d_M_record_43 rfl (lv_at hl 1 rfl) ?_
      refine x_ci (x_runV ⟨hx, hb, hml, hown, hT⟩ (c_M_used l dC dI a t (mu_rn σ (m_rn σ + 1)) (GM_rn hG2 (by omega)) hL j (by omega)) f_M_used k_M_127 blR (va_recv hK hP (ci := 7) (q0 := 0) rfl rfl) (x_bR hK hP hN) hl.1 d_M_record_44 rfl (lv_room (Nat.le_of_ble_eq_true rfl)) ⟨Nat.le_of_ble_eq_true rfl, Nat.le_of_ble_eq_true rfl⟩ ⟨rfl, rfl⟩ ⟨Nat.le_refl 0, Nat.le_refl 0⟩ rfl) (fun r44 q44 => ?_)
      obtain ⟨v0, rfl, hv1, hv0, hus⟩ : ∃ v0, r44 = nI v0 ∧ 1 ≤ v0 ∧ v0 ≤ 60 ∧ ((∃ i, i < m_ln σ ∧ isL σ i 0 j 0 ∧ (∀ k, k < i → ¬ isL σ k 0 j 0) ∧ v0 = m_lt σ i) ∨ ((∀ i, i < m_ln σ → ¬ isL σ i 0 j 0) ∧ v0 = j)) := by
        rcases q44 with ⟨i, e1, e2, e3, e4⟩ | ⟨e1, e2⟩
        · exact ⟨m_lt σ i, e4, hlt i e1, g_lt i, Or.inl ⟨i, e1, e2, e3, rfl⟩⟩
        · exact ⟨j, e2, hj1, by omega, Or.inr ⟨e1, rfl⟩⟩
      clear q44
      refine x_iast hx hb hK hP hD hS 10 9 (f := (m_lk σ)) rfl rfl d_M_record_47 (by omega) (fun H locs hP hD hS => ?_)
      have hP : va_P (dC, dI) classes (wM a t (mu_lk (mu_rn σ ((m_rn σ) + 1)) (updN (m_lk σ) ((m_rn σ) + 1) (v0)))) H := hP
      have hD : va_D A (wM a t (mu_lk (mu_rn σ ((m_rn σ) + 1)) (updN (m_lk σ) ((m_rn σ) + 1) (v0)))) := hD
      refine lv_aload_n hx hb d_M_record_48 rfl (lv_at hl 0 rfl) ?_
      refine va_get (D := (dC, dI)) (C := R_M) (T := F_M) (N := 20) hx hb hT i_M hown hK hP 0 rfl rfl 15 (by decide) (hT _ k_M_43) (fun _ h9 => h9) (v := .ref (a 11)) rfl d_M_record_49 ?_
      refine lv_aload_n hx hb d_M_record_52 rfl (lv_at hl 0 rfl) ?_
      refine va_get (D := (dC, dI)) (C := R_M) (T := F_M) (N := 20) hx hb hT i_M hown hK hP 0 rfl rfl 13 (by decide) (hT _ k_M_88) (fun _ h9 => h9) (v := .int (nI ((m_rn σ) + 1))) rfl d_M_record_53 ?_
      refine lv_lload_n hx hb d_M_record_56 rfl (lv_at hl 2 rfl) ?_
      refine x_last hx hb hK hP hD hS 11 10 (f := (m_rd σ)) rfl rfl d_M_record_57 (by omega) (fun H locs hP hD hS => ?_)
      have hP : va_P (dC, dI) classes (wM a t (mu_rd (mu_lk (mu_rn σ ((m_rn σ) + 1)) (updN (m_lk σ) ((m_rn σ) + 1) (v0))) (vp_updL (m_rd σ) ((m_rn σ) + 1) (d)))) H := hP
      have hD : va_D A (wM a t (mu_rd (mu_lk (mu_rn σ ((m_rn σ) + 1)) (updN (m_lk σ) ((m_rn σ) + 1) (v0))) (vp_updL (m_rd σ) ((m_rn σ) + 1) (d)))) := hD
      refine lv_aload_n hx hb d_M_record_58 rfl (lv_at hl 0 rfl) ?_
      refine va_get (D := (dC, dI)) (C := R_M) (T := F_M) (N := 20) hx hb hT i_M hown hK hP 0 rfl rfl 13 (by decide) (hT _ k_M_88) (fun _ h9 => h9) (v := .int (nI ((m_rn σ) + 1))) rfl d_M_record_59 ?_
      exact x_mi (wl := wM a t) (mu_rd (mu_lk (mu_rn σ ((m_rn σ) + 1)) (updN (m_lk σ) ((m_rn σ) + 1) (v0))) (vp_updL (m_rd σ) ((m_rn σ) + 1) (d))) hx hb hr hlk hK hP hD hS d_M_record_62 (Or.inr ⟨j, hj1, hj2, hj3, rfl, Or.inr ⟨by omega, rfl, v0, hus, hv0, rfl⟩⟩)
    · refine lv_iconst (v := nI 0) hx hb d_M_record_22 (by decide) ?_
      exact x_mi (wl := wM a t) σ hx hb hr hlk hK hP hD hS d_M_record_23 (by first | exact Or.inl ⟨hnj, rfl, rfl⟩ | exact Or.inr ⟨j, hj1, hj2, hj3, rfl, Or.inl ⟨by omega, rfl, rfl⟩⟩)
  · refine x_if_eq (tgt := 22) hx hb d_M_record_10 (by decide) (fun _ => ?_) (fun h => absurd h (by decide))
    refine lv_iconst (v := nI 0) hx hb d_M_record_22 (by decide) ?_
    exact x_mi (wl := wM a t) σ hx hb hr hlk hK hP hD hS d_M_record_23 (by first | exact Or.inl ⟨hnj, rfl, rfl⟩ | exact Or.inr ⟨j, hj1, hj2, hj3, rfl, Or.inl ⟨by omega, rfl, rfl⟩⟩)

theorem updN_self (f : Nat → Nat) (k : Nat) : updN f k (f k) = f := by
  funext j
  unfold updN
  by_cases h : j = k
  · rw [if_pos h, h]
  · rw [if_neg h]
def SPM (σ : SM) (x : Int32) (d : Int64) (r : Int32) (u : SM) : Prop := (¬ okT (m_sd σ) (m_sz σ) ∧ r = -99 ∧ u = TKM σ) ∨ (okT (m_sd σ) (m_sz σ) ∧ ((¬ (∃ j, 1 ≤ j ∧ j ≤ m_hn σ ∧ m_lv σ j = 1 ∧ x = nI j) ∧ r = nI 0 ∧ u = TKM σ) ∨ ∃ j, 1 ≤ j ∧ j ≤ m_hn σ ∧ m_lv σ j = 1 ∧ x = nI j ∧ ∃ w, MKH (TKM σ) (m_kd σ j) r w ∧ ((r = nI (m_hn σ + 1) ∧ m_hn σ < 60 ∧ u = mu_lk (ADM w 3 j (m_hn σ + 1) d) (mvR (m_lk σ) (m_rd σ) j (m_hn σ + 1) d (m_rn σ))) ∨ (¬ r = nI (m_hn σ + 1) ∧ u = w))))
set_option maxRecDepth 100000 in
set_option maxHeartbeats 4000000 in
theorem c_M_split (l : Launch) (dC : Nat → ClassId) (dI : Nat → Nat → Nat) (a : Nat → Nat) (t : Nat → ClassId) (σ : SM) (sz : Nat) (hG : GM σ) (x : Int32) (d : Int64) : Met l y_M_split (wS y_M_split b_M_split 6 (some .int)) (rD 4) (va_Pc [.ref (a 0), .int x, .long d] (MB (dC, dI) (yM t) (wM a t σ) sz)) (va_Qi (fun (r : Int32) (u : SM) => SPM σ x d r u) (fun u => ME (dC, dI) (yM t) (va_A (wM a t σ) sz) (wM a t u)) (va_A (wM a t σ) sz)) 0 0 (va_A (wM a t σ) sz) := by
  refine x_enter (by decide) (Nat.le_of_ble_eq_true rfl) ?_
  intro p e s m below meth c ls hx hb hr hml hT hown hlk hnm hl hB
  obtain ⟨rfl, hP, hK, hN, hD0⟩ := hB
  have hD := hD0.self (sz := s.heap.size)
  generalize hAe : va_A (wM a t σ) s.heap.size = A at hD ⊢
  have hA : ∀ q : Nat, s.heap.size ≤ q → A q := fun q h => by rw [← hAe]; exact Or.inr h
  have hS : va_S A s.heap s.heap [] := va_S.rf
  have hP : va_P (dC, dI) classes (wM a t σ) s.heap := hP
  have hl : lv_has ls 6 [(0, .ref (a 0)), (1, .int x), (2, .long d)] := hl
  have hown : s.vm.findClass R_M = some m.cls := hown
  have hG2 := hG
  obtain ⟨g_sz, g_sd, g_hn, g_kd, g_lv, g_tx, g_zs, g_ln, g_lf, g_lt, g_rn, g_lk, g_wy, g_wn, g_di, g_co⟩ := hG
  have hhn : m_hn (TKM σ) ≤ 60 := g_hn
  have hrn : m_rn (TKM σ) = m_rn σ := rfl
  have hln : m_ln (TKM σ) = m_ln σ := rfl
  have hhe : m_hn (TKM σ) = m_hn σ := rfl
  refine lv_aload_n hx hb d_M_split_0 rfl (lv_at hl 0 rfl) ?_
  refine lv_iconst (v := nI 0) hx hb d_M_split_1 (by decide) ?_
  refine va_put (D := (dC, dI)) (v := .int (nI 0)) (ty := .int) (C := R_M) (T := F_M) (N := 20) hx hb hT i_M ft_M ft_M_ok n_M hown hK hP hD hS 0 rfl rfl 0 (by decide) (hT _ k_M_52) (fun _ h9 => h9) rfl (by decide +kernel) rfl rfl (Nat.le_of_ble_eq_true rfl) d_M_split_2 (fun H locs hP hD hS => ?_)
  have hP : va_P (dC, dI) classes (wM a t σ) H := hP
  have hD : va_D A (wM a t σ) := hD
  refine lv_aload_n hx hb d_M_split_5 rfl (lv_at hl 0 rfl) ?_
  refine x_cMi (wl := wM a t) (x_runV ⟨hx, hb, hml, hown, hT⟩ (c_M_takes l dC dI a t σ H.size hG2) f_M_takes k_M_81 blM (va_recv hK hP (ci := 7) (q0 := 0) rfl rfl) (x_bM hK hP hN hD) hl.1 d_M_split_6 rfl (lv_room (Nat.le_of_ble_eq_true rfl)) ⟨Nat.le_of_ble_eq_true rfl, Nat.le_of_ble_eq_true rfl⟩ ⟨rfl, rfl⟩ ⟨Nat.le_refl 0, Nat.le_refl 0⟩ rfl) hD hS hA (fun r6 u6 H locs q6 hP hD hS => ?_)
  obtain ⟨hok, hu9⟩ := q6
  obtain rfl : u6 = TKM σ := hu9
  have hGτ : GM (TKM σ) := TKM_G hG2
  rcases hok with ⟨rfl, hok⟩ | ⟨rfl, hok⟩
  · have hc : m_co (TKM σ) ≤ 20 := hok.2.1
    have hq : ∀ k, k < m_co (TKM σ) → m_sd (TKM σ) k < 128 := ok_q hok
    refine x_if_ne (tgt := 15) hx hb d_M_split_9 (by decide) (fun _ => ?_) (fun h => absurd h (by decide))
    refine lv_aload_n hx hb d_M_split_15 rfl (lv_at hl 0 rfl) ?_
    refine lv_iload_n hx hb d_M_split_16 rfl (lv_at hl 1 rfl) ?_
    refine x_ci (x_runV ⟨hx, hb, hml, hown, hT⟩ (c_M_isLive l dC dI a t ((TKM σ)) hGτ x) f_M_isLive k_M_91 blR (va_recv hK hP (ci := 7) (q0 := 0) rfl rfl) (x_bR hK hP hN) hl.1 d_M_split_17 rfl (lv_room (Nat.le_of_ble_eq_true rfl)) ⟨Nat.le_of_ble_eq_true rfl, Nat.le_of_ble_eq_true rfl⟩ ⟨rfl, rfl⟩ ⟨Nat.le_refl 0, Nat.le_refl 0⟩ rfl) (fun r17 q17 => ?_)
    rcases q17 with ⟨rfl, j, hj1, hj2, hj3, rfl⟩ | ⟨rfl, hnj⟩
    · refine x_if_ne (tgt := 25) hx hb d_M_split_20 (by decide) (fun _ => ?_) (fun h => absurd h (by decide))
      refine lv_aload_n hx hb d_M_split_25 rfl (lv_at hl 0 rfl) ?_
      refine lv_aload_n hx hb d_M_split_26 rfl (lv_at hl 0 rfl) ?_
      refine va_get (D := (dC, dI)) (C := R_M) (T := F_M) (N := 20) hx hb hT i_M hown hK hP 0 rfl rfl 4 (by decide) (hT _ k_M_13) (fun _ h9 => h9) (v := .ref (a 2)) rfl d_M_split_27 ?_
      refine lv_iload_n hx hb d_M_split_30 rfl (lv_at hl 1 rfl) ?_
      refine x_iald hx hb hK hP 2 1 (f := (m_kd (TKM σ))) rfl rfl d_M_split_31 (by omega) ?_
      refine x_cMi (wl := wM a t) (x_runV ⟨hx, hb, hml, hown, hT⟩ (c_M_make l dC dI a t (TKM σ) H.size hGτ (nI (m_kd (TKM σ) j)) hc hq) f_M_make k_M_85 blM (va_recv hK hP (ci := 7) (q0 := 0) rfl rfl) (x_bM hK hP hN hD) hl.1 d_M_split_32 rfl (lv_room (Nat.le_of_ble_eq_true rfl)) ⟨Nat.le_of_ble_eq_true rfl, Nat.le_of_ble_eq_true rfl⟩ ⟨rfl, rfl⟩ ⟨Nat.le_refl 0, Nat.le_refl 0⟩ rfl) hD hS hA (fun r32 u32 H locs q32 hP hD hS => ?_)
      have gk := g_kd j
      obtain hmk : MKH (TKM σ) (m_kd σ j) r32 u32 := by
        rcases q32 with ⟨h9, _⟩ | ⟨kk, h7, h8, h9⟩
        · exact absurd ⟨m_kd σ j, gk, rfl⟩ h9
        · have h6 : m_kd σ j = kk := (nI_eq (by omega) (by omega)).mp h8
          rw [h6]; exact h9
      have hadh := hmk
      rcases hmk with ⟨i, hi1, hi2, rfl, _, hu9⟩ | ⟨_, ⟨h60, rfl, hu9⟩ | ⟨h60, rfl, rfl⟩⟩
      · refine lv_istore (lv' := [(4, .int (-nI i)), (0, .ref (a 0)), (1, .int (nI j)), (2, .long d)]) hx hb d_M_split_35 hl (by decide) rfl (fun ls hl => ?_)
        refine lv_iload hx hb d_M_split_37 (lv_at hl 0 rfl) ?_
        refine lv_iconst (v := nI 1) hx hb d_M_split_39 (by decide) ?_
        refine lv_icmp_ge (tgt := 46) hx hb d_M_split_40 (by decide) (fun h9 => absurd (Int32.le_trans h9 (neg_le hi1 (by omega))) (by decide)) (fun _ => ?_)
        refine lv_iload hx hb d_M_split_43 (lv_at hl 0 rfl) ?_
        exact x_mi (wl := wM a t) u32 hx hb hr hlk hK hP hD hS d_M_split_45 (Or.inr ⟨hok, Or.inr ⟨j, hj1, hj2, hj3, rfl, _, hadh, Or.inr ⟨(neg_ne hi1 (by omega) (by omega)), rfl⟩⟩⟩)
      · refine lv_istore (lv' := [(4, .int (nI 0)), (0, .ref (a 0)), (1, .int (nI j)), (2, .long d)]) hx hb d_M_split_35 hl (by decide) rfl (fun ls hl => ?_)
        refine lv_iload hx hb d_M_split_37 (lv_at hl 0 rfl) ?_
        refine lv_iconst (v := nI 1) hx hb d_M_split_39 (by decide) ?_
        refine x_icmp_ge (tgt := 46) hx hb d_M_split_40 (by decide) (fun h9 => absurd h9 (by decide)) (fun _ => ?_)
        refine lv_iload hx hb d_M_split_43 (lv_at hl 0 rfl) ?_
        exact x_mi (wl := wM a t) u32 hx hb hr hlk hK hP hD hS d_M_split_45 (Or.inr ⟨hok, Or.inr ⟨j, hj1, hj2, hj3, rfl, _, hadh, Or.inr ⟨(fun h9 => by have h8 := (nI_eq (by omega) (by omega)).mp h9; omega), rfl⟩⟩⟩)
      · have h60' : m_hn σ < 60 := h60
        have hP : va_P (dC, dI) classes (wM a t (mu_zs (mu_tx (mu_lv (mu_kd (mu_hn ((TKM σ)) (m_hn σ + 1)) (updN (m_kd σ) (m_hn σ + 1) (m_kd σ j))) (updN (m_lv σ) (m_hn σ + 1) 1)) (cpT (m_tx σ) (20 * (m_hn σ + 1)) (m_sd σ) (m_sz σ))) (updN (m_zs σ) (m_hn σ + 1) (m_sz σ)))) H := hP
        have hD : va_D A (wM a t (mu_zs (mu_tx (mu_lv (mu_kd (mu_hn ((TKM σ)) (m_hn σ + 1)) (updN (m_kd σ) (m_hn σ + 1) (m_kd σ j))) (updN (m_lv σ) (m_hn σ + 1) 1)) (cpT (m_tx σ) (20 * (m_hn σ + 1)) (m_sd σ) (m_sz σ))) (updN (m_zs σ) (m_hn σ + 1) (m_sz σ)))) := hD
        refine lv_istore (lv' := [(4, .int (nI (m_hn σ + 1))), (0, .ref (a 0)), (1, .int (nI j)), (2, .long d)]) hx hb d_M_split_35 hl (by decide) rfl (fun ls hl => ?_)
        refine lv_iload hx hb d_M_split_37 (lv_at hl 0 rfl) ?_
        refine lv_iconst (v := nI 1) hx hb d_M_split_39 (by decide) ?_
        refine x_icmp_ge (tgt := 46) hx hb d_M_split_40 (by decide) (fun _ => ?_) (fun h9 => absurd h9 (by omega))
        refine lv_aload_n hx hb d_M_split_46 rfl (lv_at hl 1 rfl) ?_
        refine lv_iconst (v := nI 3) hx hb d_M_split_47 (by decide) ?_
        refine lv_iload_n hx hb d_M_split_48 rfl (lv_at hl 2 rfl) ?_
        refine lv_iload hx hb d_M_split_49 (lv_at hl 0 rfl) ?_
        refine lv_lload_n hx hb d_M_split_51 rfl (lv_at hl 3 rfl) ?_
        refine x_cMv (wl := wM a t) (x_runV ⟨hx, hb, hml, hown, hT⟩ (c_M_add l dC dI a t (mu_zs (mu_tx (mu_lv (mu_kd (mu_hn ((TKM σ)) (m_hn σ + 1)) (updN (m_kd σ) (m_hn σ + 1) (m_kd σ j))) (updN (m_lv σ) (m_hn σ + 1) 1)) (cpT (m_tx σ) (20 * (m_hn σ + 1)) (m_sd σ) (m_sz σ))) (updN (m_zs σ) (m_hn σ + 1) (m_sz σ))) H.size (GM_zs (GM_tx (GM_lv (GM_kd (GM_hn hGτ (by omega)) (updN_lt g_kd gk)) (updN_lt g_lv (by decide))) (cpT_lt2 g_tx hq)) (updN_le g_zs hc)) 3 j (m_hn σ + 1) d) f_M_add k_M_119 blM (va_recv hK hP (ci := 7) (q0 := 0) rfl rfl) (x_bM hK hP hN hD) hl.1 d_M_split_52 rfl (lv_room (Nat.le_of_ble_eq_true rfl)) ⟨Nat.le_of_ble_eq_true rfl, Nat.le_of_ble_eq_true rfl⟩ ⟨rfl, rfl⟩ ⟨Nat.le_refl 0, Nat.le_refl 0⟩ rfl) hD hS hA (fun u52 H locs q52 hP hD hS => ?_)
        subst q52
        have hP : va_P (dC, dI) classes (wM a t (mu_ld (mu_lt (mu_lf (mu_ls (mu_ln (mu_zs (mu_tx (mu_lv (mu_kd (mu_hn ((TKM σ)) (m_hn σ + 1)) (updN (m_kd σ) (m_hn σ + 1) (m_kd σ j))) (updN (m_lv σ) (m_hn σ + 1) 1)) (cpT (m_tx σ) (20 * (m_hn σ + 1)) (m_sd σ) (m_sz σ))) (updN (m_zs σ) (m_hn σ + 1) (m_sz σ))) (m_ln σ + 1)) (updN (m_ls σ) (m_ln σ) 3)) (updN (m_lf σ) (m_ln σ) j)) (updN (m_lt σ) (m_ln σ) (m_hn σ + 1))) (vp_updL (m_ld σ) (m_ln σ) d))) H := hP
        have hD : va_D A (wM a t (mu_ld (mu_lt (mu_lf (mu_ls (mu_ln (mu_zs (mu_tx (mu_lv (mu_kd (mu_hn ((TKM σ)) (m_hn σ + 1)) (updN (m_kd σ) (m_hn σ + 1) (m_kd σ j))) (updN (m_lv σ) (m_hn σ + 1) 1)) (cpT (m_tx σ) (20 * (m_hn σ + 1)) (m_sd σ) (m_sz σ))) (updN (m_zs σ) (m_hn σ + 1) (m_sz σ))) (m_ln σ + 1)) (updN (m_ls σ) (m_ln σ) 3)) (updN (m_lf σ) (m_ln σ) j)) (updN (m_lt σ) (m_ln σ) (m_hn σ + 1))) (vp_updL (m_ld σ) (m_ln σ) d))) := hD
        have e0 : wM a t (mu_ld (mu_lt (mu_lf (mu_ls (mu_ln (mu_zs (mu_tx (mu_lv (mu_kd (mu_hn ((TKM σ)) (m_hn σ + 1)) (updN (m_kd σ) (m_hn σ + 1) (m_kd σ j))) (updN (m_lv σ) (m_hn σ + 1) 1)) (cpT (m_tx σ) (20 * (m_hn σ + 1)) (m_sd σ) (m_sz σ))) (updN (m_zs σ) (m_hn σ + 1) (m_sz σ))) (m_ln σ + 1)) (updN (m_ls σ) (m_ln σ) 3)) (updN (m_lf σ) (m_ln σ) j)) (updN (m_lt σ) (m_ln σ) (m_hn σ + 1))) (vp_updL (m_ld σ) (m_ln σ) d)) = wM a t (mu_lk (mu_ld (mu_lt (mu_lf (mu_ls (mu_ln (mu_zs (mu_tx (mu_lv (mu_kd (mu_hn ((TKM σ)) (m_hn σ + 1)) (updN (m_kd σ) (m_hn σ + 1) (m_kd σ j))) (updN (m_lv σ) (m_hn σ + 1) 1)) (cpT (m_tx σ) (20 * (m_hn σ + 1)) (m_sd σ) (m_sz σ))) (updN (m_zs σ) (m_hn σ + 1) (m_sz σ))) (m_ln σ + 1)) (updN (m_ls σ) (m_ln σ) 3)) (updN (m_lf σ) (m_ln σ) j)) (updN (m_lt σ) (m_ln σ) (m_hn σ + 1))) (vp_updL (m_ld σ) (m_ln σ) d)) (mvR (m_lk σ) (m_rd σ) j (m_hn σ + 1) d 0)) := by rw [mvR_0]; rfl
        rw [e0] at hP hD
        refine lv_iconst (v := nI 1) hx hb d_M_split_55 (by decide) ?_
        refine lv_istore (lv' := [(5, .int (nI 1)), (4, .int (nI (m_hn σ + 1))), (0, .ref (a 0)), (1, .int (nI j)), (2, .long d)]) hx hb d_M_split_56 hl (by decide) rfl (fun ls hl => ?_)
        have hloop58 : ∀ (n58 : Nat) (i : Nat) (H : Heap) (locs : List Loc) (ls : Array Slot), i ≤ m_rn σ → m_rn σ + 1 - i < n58 → va_P (dC, dI) classes (wM a t (mu_lk (mu_ld (mu_lt (mu_lf (mu_ls (mu_ln (mu_zs (mu_tx (mu_lv (mu_kd (mu_hn ((TKM σ)) (m_hn σ + 1)) (updN (m_kd σ) (m_hn σ + 1) (m_kd σ j))) (updN (m_lv σ) (m_hn σ + 1) 1)) (cpT (m_tx σ) (20 * (m_hn σ + 1)) (m_sd σ) (m_sz σ))) (updN (m_zs σ) (m_hn σ + 1) (m_sz σ))) (m_ln σ + 1)) (updN (m_ls σ) (m_ln σ) 3)) (updN (m_lf σ) (m_ln σ) j)) (updN (m_lt σ) (m_ln σ) (m_hn σ + 1))) (vp_updL (m_ld σ) (m_ln σ) d)) (mvR (m_lk σ) (m_rd σ) j (m_hn σ + 1) d i))) H → va_D A (wM a t (mu_lk (mu_ld (mu_lt (mu_lf (mu_ls (mu_ln (mu_zs (mu_tx (mu_lv (mu_kd (mu_hn ((TKM σ)) (m_hn σ + 1)) (updN (m_kd σ) (m_hn σ + 1) (m_kd σ j))) (updN (m_lv σ) (m_hn σ + 1) 1)) (cpT (m_tx σ) (20 * (m_hn σ + 1)) (m_sd σ) (m_sz σ))) (updN (m_zs σ) (m_hn σ + 1) (m_sz σ))) (m_ln σ + 1)) (updN (m_ls σ) (m_ln σ) 3)) (updN (m_lf σ) (m_ln σ) j)) (updN (m_lt σ) (m_ln σ) (m_hn σ + 1))) (vp_updL (m_ld σ) (m_ln σ) d)) (mvR (m_lk σ) (m_rd σ) j (m_hn σ + 1) d i))) → va_S A s.heap H locs → lv_has ls 6 [(0, .ref (a 0)), (1, .int (nI j)), (2, .long d), (4, .int (nI (m_hn σ + 1))), (5, .int (nI (i + 1)))] → W p l e (rD 4) s m ([.ref (a 0), .int (nI j), .long d] : List Value).toArray below meth c H locs 0 0 (MQ below (va_Qi (fun (r : Int32) (u : SM) => SPM σ (nI j) d r u) (fun u => ME (dC, dI) (yM t) A (wM a t u)) A) ([.ref (a 0), .int (nI j), .long d] : List Value).toArray s 0 0 A) (F0 m 58 ls []) := by
          intro n58
          induction n58 with
          | zero => intro i H locs ls _ h9; exact absurd h9 (Nat.not_lt_zero _)
          | succ n58 ih58 =>
            intro i H locs ls hi hmu58 hP hD hS hl
            refine lv_iload hx hb d_M_split_58 (lv_at hl 4 rfl) ?_
            refine lv_aload_n hx hb d_M_split_60 rfl (lv_at hl 0 rfl) ?_
            refine va_get (D := (dC, dI)) (C := R_M) (T := F_M) (N := 20) hx hb hT i_M hown hK hP 0 rfl rfl 13 (by decide) (hT _ k_M_88) (fun _ h9 => h9) (v := .int (nI (m_rn (TKM σ)))) rfl d_M_split_61 ?_
            refine x_icmp_gt (tgt := 115) hx hb d_M_split_64 (by decide) (fun c64 => ?_) (fun c64 => ?_)
            · refine lv_iload hx hb d_M_split_115 (lv_at hl 3 rfl) ?_
              exact x_mi (wl := wM a t) (mu_lk (mu_ld (mu_lt (mu_lf (mu_ls (mu_ln (mu_zs (mu_tx (mu_lv (mu_kd (mu_hn ((TKM σ)) (m_hn σ + 1)) (updN (m_kd σ) (m_hn σ + 1) (m_kd σ j))) (updN (m_lv σ) (m_hn σ + 1) 1)) (cpT (m_tx σ) (20 * (m_hn σ + 1)) (m_sd σ) (m_sz σ))) (updN (m_zs σ) (m_hn σ + 1) (m_sz σ))) (m_ln σ + 1)) (updN (m_ls σ) (m_ln σ) 3)) (updN (m_lf σ) (m_ln σ) j)) (updN (m_lt σ) (m_ln σ) (m_hn σ + 1))) (vp_updL (m_ld σ) (m_ln σ) d)) (mvR (m_lk σ) (m_rd σ) j (m_hn σ + 1) d i)) hx hb hr hlk hK hP hD hS d_M_split_117 (Or.inr ⟨hok, Or.inr ⟨j, hj1, hj2, hj3, rfl, _, hadh, Or.inl ⟨rfl, h60, by rw [show i = m_rn σ by omega]; rfl⟩⟩⟩)
            · refine lv_aload_n hx hb d_M_split_67 rfl (lv_at hl 0 rfl) ?_
              refine va_get (D := (dC, dI)) (C := R_M) (T := F_M) (N := 20) hx hb hT i_M hown hK hP 0 rfl rfl 14 (by decide) (hT _ k_M_40) (fun _ h9 => h9) (v := .ref (a 10)) rfl d_M_split_68 ?_
              refine lv_iload hx hb d_M_split_71 (lv_at hl 4 rfl) ?_
              refine lv_aload_n hx hb d_M_split_73 rfl (lv_at hl 0 rfl) ?_
              refine va_get (D := (dC, dI)) (C := R_M) (T := F_M) (N := 20) hx hb hT i_M hown hK hP 0 rfl rfl 14 (by decide) (hT _ k_M_40) (fun _ h9 => h9) (v := .ref (a 10)) rfl d_M_split_74 ?_
              refine lv_iload hx hb d_M_split_77 (lv_at hl 4 rfl) ?_
              refine x_iald hx hb hK hP 10 9 (f := (mvR (m_lk σ) (m_rd σ) j (m_hn σ + 1) d i)) rfl rfl d_M_split_79 (by omega) ?_
              rw [mvR_at]
              have g9 := g_lk (i + 1)
              refine lv_iload_n hx hb d_M_split_80 rfl (lv_at hl 1 rfl) ?_
              refine x_icmp_ne (tgt := 101) hx hb d_M_split_81 (by decide) (fun c81 => ?_) (fun c81 => ?_)
              · refine lv_aload_n hx hb d_M_split_101 rfl (lv_at hl 0 rfl) ?_
                refine va_get (D := (dC, dI)) (C := R_M) (T := F_M) (N := 20) hx hb hT i_M hown hK hP 0 rfl rfl 14 (by decide) (hT _ k_M_40) (fun _ h9 => h9) (v := .ref (a 10)) rfl d_M_split_102 ?_
                refine lv_iload hx hb d_M_split_105 (lv_at hl 4 rfl) ?_
                refine x_iald hx hb hK hP 10 9 (f := (mvR (m_lk σ) (m_rd σ) j (m_hn σ + 1) d i)) rfl rfl d_M_split_107 (by omega) ?_
                refine x_iast hx hb hK hP hD hS 10 9 (f := (mvR (m_lk σ) (m_rd σ) j (m_hn σ + 1) d i)) rfl rfl d_M_split_108 (by omega) (fun H locs hP hD hS => ?_)
                have hP : va_P (dC, dI) classes (wM a t (mu_lk (mu_ld (mu_lt (mu_lf (mu_ls (mu_ln (mu_zs (mu_tx (mu_lv (mu_kd (mu_hn ((TKM σ)) (m_hn σ + 1)) (updN (m_kd σ) (m_hn σ + 1) (m_kd σ j))) (updN (m_lv σ) (m_hn σ + 1) 1)) (cpT (m_tx σ) (20 * (m_hn σ + 1)) (m_sd σ) (m_sz σ))) (updN (m_zs σ) (m_hn σ + 1) (m_sz σ))) (m_ln σ + 1)) (updN (m_ls σ) (m_ln σ) 3)) (updN (m_lf σ) (m_ln σ) j)) (updN (m_lt σ) (m_ln σ) (m_hn σ + 1))) (vp_updL (m_ld σ) (m_ln σ) d)) (updN (mvR (m_lk σ) (m_rd σ) j (m_hn σ + 1) d i) (i + 1) ((mvR (m_lk σ) (m_rd σ) j (m_hn σ + 1) d i) (i + 1))))) H := hP
                have hD : va_D A (wM a t (mu_lk (mu_ld (mu_lt (mu_lf (mu_ls (mu_ln (mu_zs (mu_tx (mu_lv (mu_kd (mu_hn ((TKM σ)) (m_hn σ + 1)) (updN (m_kd σ) (m_hn σ + 1) (m_kd σ j))) (updN (m_lv σ) (m_hn σ + 1) 1)) (cpT (m_tx σ) (20 * (m_hn σ + 1)) (m_sd σ) (m_sz σ))) (updN (m_zs σ) (m_hn σ + 1) (m_sz σ))) (m_ln σ + 1)) (updN (m_ls σ) (m_ln σ) 3)) (updN (m_lf σ) (m_ln σ) j)) (updN (m_lt σ) (m_ln σ) (m_hn σ + 1))) (vp_updL (m_ld σ) (m_ln σ) d)) (updN (mvR (m_lk σ) (m_rd σ) j (m_hn σ + 1) d i) (i + 1) ((mvR (m_lk σ) (m_rd σ) j (m_hn σ + 1) d i) (i + 1))))) := hD
                rw [updN_self, ← mvR_same (g := m_hn σ + 1) (show ¬ (m_lk σ (i + 1) = j ∧ d ≤ m_rd σ (i + 1)) from fun q9 => by first | exact c81 q9.1 | exact absurd q9.2 (Int64.not_le.mpr c92))] at hP hD
                refine x_iinc (lv' := [(5, .int (nI ((i + 1) + 1))), (0, .ref (a 0)), (1, .int (nI j)), (2, .long d), (4, .int (nI (m_hn σ + 1)))]) hx hb d_M_split_109 hl (k := 4) rfl (by decide) rfl (fun ls hl => ?_)
                refine lv_goto (tgt := 58) hx hb d_M_split_112 (by decide) ?_
                exact ih58 (i + 1) H locs ls (by omega) (by omega) hP hD hS (lv_sub hl [1, 2, 3, 4, 0] rfl)
              · refine lv_aload_n hx hb d_M_split_84 rfl (lv_at hl 0 rfl) ?_
                refine va_get (D := (dC, dI)) (C := R_M) (T := F_M) (N := 20) hx hb hT i_M hown hK hP 0 rfl rfl 15 (by decide) (hT _ k_M_43) (fun _ h9 => h9) (v := .ref (a 11)) rfl d_M_split_85 ?_
                refine lv_iload hx hb d_M_split_88 (lv_at hl 4 rfl) ?_
                refine x_lald hx hb hK hP 11 10 (f := (m_rd (TKM σ))) rfl rfl d_M_split_90 (by omega) ?_
                refine lv_lload_n hx hb d_M_split_91 rfl (lv_at hl 2 rfl) ?_
                refine x_lif_lt (tgt := 101) hx hb d_M_split_92 d_M_split_93 (by decide) (fun c92 => ?_) (fun c92 => ?_)
                · refine lv_aload_n hx hb d_M_split_101 rfl (lv_at hl 0 rfl) ?_
                  refine va_get (D := (dC, dI)) (C := R_M) (T := F_M) (N := 20) hx hb hT i_M hown hK hP 0 rfl rfl 14 (by decide) (hT _ k_M_40) (fun _ h9 => h9) (v := .ref (a 10)) rfl d_M_split_102 ?_
                  refine lv_iload hx hb d_M_split_105 (lv_at hl 4 rfl) ?_
                  refine x_iald hx hb hK hP 10 9 (f := (mvR (m_lk σ) (m_rd σ) j (m_hn σ + 1) d i)) rfl rfl d_M_split_107 (by omega) ?_
                  refine x_iast hx hb hK hP hD hS 10 9 (f := (mvR (m_lk σ) (m_rd σ) j (m_hn σ + 1) d i)) rfl rfl d_M_split_108 (by omega) (fun H locs hP hD hS => ?_)
                  have hP : va_P (dC, dI) classes (wM a t (mu_lk (mu_ld (mu_lt (mu_lf (mu_ls (mu_ln (mu_zs (mu_tx (mu_lv (mu_kd (mu_hn ((TKM σ)) (m_hn σ + 1)) (updN (m_kd σ) (m_hn σ + 1) (m_kd σ j))) (updN (m_lv σ) (m_hn σ + 1) 1)) (cpT (m_tx σ) (20 * (m_hn σ + 1)) (m_sd σ) (m_sz σ))) (updN (m_zs σ) (m_hn σ + 1) (m_sz σ))) (m_ln σ + 1)) (updN (m_ls σ) (m_ln σ) 3)) (updN (m_lf σ) (m_ln σ) j)) (updN (m_lt σ) (m_ln σ) (m_hn σ + 1))) (vp_updL (m_ld σ) (m_ln σ) d)) (updN (mvR (m_lk σ) (m_rd σ) j (m_hn σ + 1) d i) (i + 1) ((mvR (m_lk σ) (m_rd σ) j (m_hn σ + 1) d i) (i + 1))))) H := hP
                  have hD : va_D A (wM a t (mu_lk (mu_ld (mu_lt (mu_lf (mu_ls (mu_ln (mu_zs (mu_tx (mu_lv (mu_kd (mu_hn ((TKM σ)) (m_hn σ + 1)) (updN (m_kd σ) (m_hn σ + 1) (m_kd σ j))) (updN (m_lv σ) (m_hn σ + 1) 1)) (cpT (m_tx σ) (20 * (m_hn σ + 1)) (m_sd σ) (m_sz σ))) (updN (m_zs σ) (m_hn σ + 1) (m_sz σ))) (m_ln σ + 1)) (updN (m_ls σ) (m_ln σ) 3)) (updN (m_lf σ) (m_ln σ) j)) (updN (m_lt σ) (m_ln σ) (m_hn σ + 1))) (vp_updL (m_ld σ) (m_ln σ) d)) (updN (mvR (m_lk σ) (m_rd σ) j (m_hn σ + 1) d i) (i + 1) ((mvR (m_lk σ) (m_rd σ) j (m_hn σ + 1) d i) (i + 1))))) := hD
                  rw [updN_self, ← mvR_same (g := m_hn σ + 1) (show ¬ (m_lk σ (i + 1) = j ∧ d ≤ m_rd σ (i + 1)) from fun q9 => by first | exact c81 q9.1 | exact absurd q9.2 (Int64.not_le.mpr c92))] at hP hD
                  refine x_iinc (lv' := [(5, .int (nI ((i + 1) + 1))), (0, .ref (a 0)), (1, .int (nI j)), (2, .long d), (4, .int (nI (m_hn σ + 1)))]) hx hb d_M_split_109 hl (k := 4) rfl (by decide) rfl (fun ls hl => ?_)
                  refine lv_goto (tgt := 58) hx hb d_M_split_112 (by decide) ?_
                  exact ih58 (i + 1) H locs ls (by omega) (by omega) hP hD hS (lv_sub hl [1, 2, 3, 4, 0] rfl)
                · refine lv_iload hx hb d_M_split_96 (lv_at hl 3 rfl) ?_
                  refine lv_goto (tgt := 108) hx hb d_M_split_98 (by decide) ?_
                  refine x_iast hx hb hK hP hD hS 10 9 (f := (mvR (m_lk σ) (m_rd σ) j (m_hn σ + 1) d i)) rfl rfl d_M_split_108 (by omega) (fun H locs hP hD hS => ?_)
                  have hP : va_P (dC, dI) classes (wM a t (mu_lk (mu_ld (mu_lt (mu_lf (mu_ls (mu_ln (mu_zs (mu_tx (mu_lv (mu_kd (mu_hn ((TKM σ)) (m_hn σ + 1)) (updN (m_kd σ) (m_hn σ + 1) (m_kd σ j))) (updN (m_lv σ) (m_hn σ + 1) 1)) (cpT (m_tx σ) (20 * (m_hn σ + 1)) (m_sd σ) (m_sz σ))) (updN (m_zs σ) (m_hn σ + 1) (m_sz σ))) (m_ln σ + 1)) (updN (m_ls σ) (m_ln σ) 3)) (updN (m_lf σ) (m_ln σ) j)) (updN (m_lt σ) (m_ln σ) (m_hn σ + 1))) (vp_updL (m_ld σ) (m_ln σ) d)) (updN (mvR (m_lk σ) (m_rd σ) j (m_hn σ + 1) d i) (i + 1) (m_hn σ + 1)))) H := hP
                  have hD : va_D A (wM a t (mu_lk (mu_ld (mu_lt (mu_lf (mu_ls (mu_ln (mu_zs (mu_tx (mu_lv (mu_kd (mu_hn ((TKM σ)) (m_hn σ + 1)) (updN (m_kd σ) (m_hn σ + 1) (m_kd σ j))) (updN (m_lv σ) (m_hn σ + 1) 1)) (cpT (m_tx σ) (20 * (m_hn σ + 1)) (m_sd σ) (m_sz σ))) (updN (m_zs σ) (m_hn σ + 1) (m_sz σ))) (m_ln σ + 1)) (updN (m_ls σ) (m_ln σ) 3)) (updN (m_lf σ) (m_ln σ) j)) (updN (m_lt σ) (m_ln σ) (m_hn σ + 1))) (vp_updL (m_ld σ) (m_ln σ) d)) (updN (mvR (m_lk σ) (m_rd σ) j (m_hn σ + 1) d i) (i + 1) (m_hn σ + 1)))) := hD
                  rw [mvR_put (f := m_lk σ) (d := m_rd σ) (h := j) (g := m_hn σ + 1) (day := d) (n := i) (by omega) (Int64.not_lt.mp c92)] at hP hD
                  refine x_iinc (lv' := [(5, .int (nI ((i + 1) + 1))), (0, .ref (a 0)), (1, .int (nI j)), (2, .long d), (4, .int (nI (m_hn σ + 1)))]) hx hb d_M_split_109 hl (k := 4) rfl (by decide) rfl (fun ls hl => ?_)
                  refine lv_goto (tgt := 58) hx hb d_M_split_112 (by decide) ?_
                  exact ih58 (i + 1) H locs ls (by omega) (by omega) hP hD hS (lv_sub hl [1, 2, 3, 4, 0] rfl)
        exact hloop58 _ 0 _ _ ls (by omega) (Nat.lt_succ_self _) hP hD hS (lv_sub hl [2, 3, 4, 1, 0] rfl)
    · refine x_if_ne (tgt := 25) hx hb d_M_split_20 (by decide) (fun h => absurd h (by decide)) (fun _ => ?_)
      refine lv_iconst (v := nI 0) hx hb d_M_split_23 (by decide) ?_
      exact x_mi (wl := wM a t) ((TKM σ)) hx hb hr hlk hK hP hD hS d_M_split_24 (Or.inr ⟨hok, Or.inl ⟨hnj, rfl, rfl⟩⟩)
  · refine x_if_ne (tgt := 15) hx hb d_M_split_9 (by decide) (fun h => absurd h (by decide)) (fun _ => ?_)
    refine lv_bipush (v := -99) hx hb d_M_split_12 (by decide) ?_
    exact x_mi (wl := wM a t) ((TKM σ)) hx hb hr hlk hK hP hD hS d_M_split_14 (Or.inl ⟨hok, rfl, rfl⟩)
end
