section
-- ===== PART A: goes FIRST, ahead of the names: the tables' words, and 'selects' of the private methods out of them =====
/-- a private method of a class that the tables say can be made, by its rows of tables_1 -/
def lw_okq (q : MethodName × Nat) : Prop := (q.1.cls ≠ "java/lang/invoke/MethodHandle" ∧ q.1.cls ≠ "java/lang/invoke/VarHandle") ∧ Cond.instantiable q.1.cls q.2 ∈ tables_1 ∧ Cond.privateMethod q.1 ∈ tables_1 ∧ Cond.instanceMethod q.1 ∈ tables_1
theorem lw_p0 : lw_okq (⟨"VectorGraphs$Graph", "descend", "(III)I"⟩, 13) := ⟨⟨by decide +kernel, by decide +kernel⟩, List.mem_of_getElem? (i := 56) (by decide +kernel), List.mem_of_getElem? (i := 177) (by decide +kernel), List.mem_of_getElem? (i := 178) (by decide +kernel)⟩
theorem lw_p1 : lw_okq (⟨"VectorGraphs$Graph", "go", "(IIII)V"⟩, 13) := ⟨⟨by decide +kernel, by decide +kernel⟩, List.mem_of_getElem? (i := 56) (by decide +kernel), List.mem_of_getElem? (i := 181) (by decide +kernel), List.mem_of_getElem? (i := 182) (by decide +kernel)⟩
theorem lw_p2 : lw_okq (⟨"VectorGraphs$Graph", "forgetMet", "()V"⟩, 13) := ⟨⟨by decide +kernel, by decide +kernel⟩, List.mem_of_getElem? (i := 56) (by decide +kernel), List.mem_of_getElem? (i := 185) (by decide +kernel), List.mem_of_getElem? (i := 186) (by decide +kernel)⟩
theorem lw_p3 : lw_okq (⟨"VectorGraphs$Graph", "meet", "(III)V"⟩, 13) := ⟨⟨by decide +kernel, by decide +kernel⟩, List.mem_of_getElem? (i := 56) (by decide +kernel), List.mem_of_getElem? (i := 193) (by decide +kernel), List.mem_of_getElem? (i := 194) (by decide +kernel)⟩
theorem lw_p4 : lw_okq (⟨"VectorGraphs$Graph", "joinLevel", "(III)I"⟩, 13) := ⟨⟨by decide +kernel, by decide +kernel⟩, List.mem_of_getElem? (i := 56) (by decide +kernel), List.mem_of_getElem? (i := 239) (by decide +kernel), List.mem_of_getElem? (i := 240) (by decide +kernel)⟩
theorem lw_p5 : lw_okq (⟨"VectorGraphs$Graph", "rowLimit", "(I)I"⟩, 13) := ⟨⟨by decide +kernel, by decide +kernel⟩, List.mem_of_getElem? (i := 56) (by decide +kernel), List.mem_of_getElem? (i := 243) (by decide +kernel), List.mem_of_getElem? (i := 244) (by decide +kernel)⟩
theorem lw_p6 : lw_okq (⟨"VectorGraphs$Graph", "choose", "(LVectorGraphs$Ranks;I)V"⟩, 13) := ⟨⟨by decide +kernel, by decide +kernel⟩, List.mem_of_getElem? (i := 56) (by decide +kernel), List.mem_of_getElem? (i := 247) (by decide +kernel), List.mem_of_getElem? (i := 248) (by decide +kernel)⟩
theorem lw_p7 : lw_okq (⟨"VectorGraphs$Graph", "writeRow", "(IILVectorGraphs$Ranks;)V"⟩, 13) := ⟨⟨by decide +kernel, by decide +kernel⟩, List.mem_of_getElem? (i := 56) (by decide +kernel), List.mem_of_getElem? (i := 255) (by decide +kernel), List.mem_of_getElem? (i := 256) (by decide +kernel)⟩
theorem lw_p8 : lw_okq (⟨"VectorGraphs$Graph", "linkBack", "(III)V"⟩, 13) := ⟨⟨by decide +kernel, by decide +kernel⟩, List.mem_of_getElem? (i := 56) (by decide +kernel), List.mem_of_getElem? (i := 259) (by decide +kernel), List.mem_of_getElem? (i := 260) (by decide +kernel)⟩
theorem lw_p9 : lw_okq (⟨"VectorGraphs", "rankFree", "(LVectorGraphs$Ranks;I)V"⟩, 6) := ⟨⟨by decide +kernel, by decide +kernel⟩, List.mem_of_getElem? (i := 9) (by decide +kernel), List.mem_of_getElem? (i := 302) (by decide +kernel), List.mem_of_getElem? (i := 303) (by decide +kernel)⟩
theorem lw_p10 : lw_okq (⟨"VectorGraphs", "rankFound", "(LVectorGraphs$Ranks;I)V"⟩, 6) := ⟨⟨by decide +kernel, by decide +kernel⟩, List.mem_of_getElem? (i := 9) (by decide +kernel), List.mem_of_getElem? (i := 321) (by decide +kernel), List.mem_of_getElem? (i := 322) (by decide +kernel)⟩
theorem lw_p11 : lw_okq (⟨"VectorGraphs$Graph", "followFrom", "(II)I"⟩, 13) := ⟨⟨by decide +kernel, by decide +kernel⟩, List.mem_of_getElem? (i := 56) (by decide +kernel), List.mem_of_getElem? (i := 382) (by decide +kernel), List.mem_of_getElem? (i := 383) (by decide +kernel)⟩
theorem lw_p12 : lw_okq (⟨"VectorGraphsModel", "copy", "(II)V"⟩, 28) := ⟨⟨by decide +kernel, by decide +kernel⟩, List.mem_of_getElem? (i := 402) (by decide +kernel), List.mem_of_getElem? (i := 507) (by decide +kernel), List.mem_of_getElem? (i := 508) (by decide +kernel)⟩
theorem lw_p13 : lw_okq (⟨"VectorGraphsModel", "noVector", "(I)Z"⟩, 28) := ⟨⟨by decide +kernel, by decide +kernel⟩, List.mem_of_getElem? (i := 402) (by decide +kernel), List.mem_of_getElem? (i := 515) (by decide +kernel), List.mem_of_getElem? (i := 516) (by decide +kernel)⟩
theorem lw_p14 : lw_okq (⟨"VectorGraphsModel", "findExact", "(I)V"⟩, 28) := ⟨⟨by decide +kernel, by decide +kernel⟩, List.mem_of_getElem? (i := 402) (by decide +kernel), List.mem_of_getElem? (i := 541) (by decide +kernel), List.mem_of_getElem? (i := 542) (by decide +kernel)⟩
theorem lw_p15 : lw_okq (⟨"VectorGraphsModel", "isFree", "(I)Z"⟩, 28) := ⟨⟨by decide +kernel, by decide +kernel⟩, List.mem_of_getElem? (i := 402) (by decide +kernel), List.mem_of_getElem? (i := 545) (by decide +kernel), List.mem_of_getElem? (i := 546) (by decide +kernel)⟩
def lw_privs_1 : List (MethodName × Nat) := [(⟨"VectorGraphs$Graph", "descend", "(III)I"⟩, 13), (⟨"VectorGraphs$Graph", "go", "(IIII)V"⟩, 13), (⟨"VectorGraphs$Graph", "forgetMet", "()V"⟩, 13), (⟨"VectorGraphs$Graph", "meet", "(III)V"⟩, 13), (⟨"VectorGraphs$Graph", "joinLevel", "(III)I"⟩, 13), (⟨"VectorGraphs$Graph", "rowLimit", "(I)I"⟩, 13), (⟨"VectorGraphs$Graph", "choose", "(LVectorGraphs$Ranks;I)V"⟩, 13), (⟨"VectorGraphs$Graph", "writeRow", "(IILVectorGraphs$Ranks;)V"⟩, 13), (⟨"VectorGraphs$Graph", "linkBack", "(III)V"⟩, 13), (⟨"VectorGraphs", "rankFree", "(LVectorGraphs$Ranks;I)V"⟩, 6), (⟨"VectorGraphs", "rankFound", "(LVectorGraphs$Ranks;I)V"⟩, 6), (⟨"VectorGraphs$Graph", "followFrom", "(II)I"⟩, 13), (⟨"VectorGraphsModel", "copy", "(II)V"⟩, 28), (⟨"VectorGraphsModel", "noVector", "(I)Z"⟩, 28), (⟨"VectorGraphsModel", "findExact", "(I)V"⟩, 28), (⟨"VectorGraphsModel", "isFree", "(I)Z"⟩, 28)]
theorem lw_r1 : ∀ q ∈ lw_privs_1, lw_okq q := List.forall_mem_cons.mpr ⟨lw_p0, List.forall_mem_cons.mpr ⟨lw_p1, List.forall_mem_cons.mpr ⟨lw_p2, List.forall_mem_cons.mpr ⟨lw_p3, List.forall_mem_cons.mpr ⟨lw_p4, List.forall_mem_cons.mpr ⟨lw_p5, List.forall_mem_cons.mpr ⟨lw_p6, List.forall_mem_cons.mpr ⟨lw_p7, List.forall_mem_cons.mpr ⟨lw_p8, List.forall_mem_cons.mpr ⟨lw_p9, List.forall_mem_cons.mpr ⟨lw_p10, List.forall_mem_cons.mpr ⟨lw_p11, List.forall_mem_cons.mpr ⟨lw_p12, List.forall_mem_cons.mpr ⟨lw_p13, List.forall_mem_cons.mpr ⟨lw_p14, List.forall_mem_cons.mpr ⟨lw_p15, fun _ h => absurd h List.not_mem_nil⟩⟩⟩⟩⟩⟩⟩⟩⟩⟩⟩⟩⟩⟩⟩⟩
theorem lw_p16 : lw_okq (⟨"VectorGraphsModel", "seeFrom", "(II)V"⟩, 28) := ⟨⟨by decide +kernel, by decide +kernel⟩, List.mem_of_getElem? (i := 402) (by decide +kernel), List.mem_of_getElem? (i := 549) (by decide +kernel), List.mem_of_getElem? (i := 550) (by decide +kernel)⟩
theorem lw_p17 : lw_okq (⟨"VectorGraphsModel", "farOf", "(III)I"⟩, 28) := ⟨⟨by decide +kernel, by decide +kernel⟩, List.mem_of_getElem? (i := 402) (by decide +kernel), List.mem_of_getElem? (i := 553) (by decide +kernel), List.mem_of_getElem? (i := 554) (by decide +kernel)⟩
theorem lw_p18 : lw_okq (⟨"VectorGraphsModel", "nearest", "(I)V"⟩, 28) := ⟨⟨by decide +kernel, by decide +kernel⟩, List.mem_of_getElem? (i := 402) (by decide +kernel), List.mem_of_getElem? (i := 560) (by decide +kernel), List.mem_of_getElem? (i := 561) (by decide +kernel)⟩
theorem lw_p19 : lw_okq (⟨"VectorGraphsModel", "outermost", "([ZIZ)I"⟩, 28) := ⟨⟨by decide +kernel, by decide +kernel⟩, List.mem_of_getElem? (i := 402) (by decide +kernel), List.mem_of_getElem? (i := 564) (by decide +kernel), List.mem_of_getElem? (i := 565) (by decide +kernel)⟩
theorem lw_p20 : lw_okq (⟨"VectorGraphsModel", "before", "(III)Z"⟩, 28) := ⟨⟨by decide +kernel, by decide +kernel⟩, List.mem_of_getElem? (i := 402) (by decide +kernel), List.mem_of_getElem? (i := 568) (by decide +kernel), List.mem_of_getElem? (i := 569) (by decide +kernel)⟩
theorem lw_p21 : lw_okq (⟨"VectorGraphsModel", "tell", "()I"⟩, 28) := ⟨⟨by decide +kernel, by decide +kernel⟩, List.mem_of_getElem? (i := 402) (by decide +kernel), List.mem_of_getElem? (i := 572) (by decide +kernel), List.mem_of_getElem? (i := 573) (by decide +kernel)⟩
theorem lw_p22 : lw_okq (⟨"VectorGraphsModel", "findByGraph", "(II)V"⟩, 28) := ⟨⟨by decide +kernel, by decide +kernel⟩, List.mem_of_getElem? (i := 402) (by decide +kernel), List.mem_of_getElem? (i := 581) (by decide +kernel), List.mem_of_getElem? (i := 582) (by decide +kernel)⟩
theorem lw_p23 : lw_okq (⟨"VectorGraphsModel", "need", "()V"⟩, 28) := ⟨⟨by decide +kernel, by decide +kernel⟩, List.mem_of_getElem? (i := 402) (by decide +kernel), List.mem_of_getElem? (i := 585) (by decide +kernel), List.mem_of_getElem? (i := 586) (by decide +kernel)⟩
theorem lw_p24 : lw_okq (⟨"VectorGraphsModel", "come", "(I)V"⟩, 28) := ⟨⟨by decide +kernel, by decide +kernel⟩, List.mem_of_getElem? (i := 402) (by decide +kernel), List.mem_of_getElem? (i := 594) (by decide +kernel), List.mem_of_getElem? (i := 595) (by decide +kernel)⟩
theorem lw_p25 : lw_okq (⟨"VectorGraphsModel", "go", "(IIII)V"⟩, 28) := ⟨⟨by decide +kernel, by decide +kernel⟩, List.mem_of_getElem? (i := 402) (by decide +kernel), List.mem_of_getElem? (i := 598) (by decide +kernel), List.mem_of_getElem? (i := 599) (by decide +kernel)⟩
theorem lw_p26 : lw_okq (⟨"VectorGraphsModel", "nearCount", "(II)I"⟩, 28) := ⟨⟨by decide +kernel, by decide +kernel⟩, List.mem_of_getElem? (i := 402) (by decide +kernel), List.mem_of_getElem? (i := 602) (by decide +kernel), List.mem_of_getElem? (i := 603) (by decide +kernel)⟩
theorem lw_p27 : lw_okq (⟨"VectorGraphsModel", "isNear", "(III)Z"⟩, 28) := ⟨⟨by decide +kernel, by decide +kernel⟩, List.mem_of_getElem? (i := 402) (by decide +kernel), List.mem_of_getElem? (i := 606) (by decide +kernel), List.mem_of_getElem? (i := 607) (by decide +kernel)⟩
theorem lw_p28 : lw_okq (⟨"VectorGraphsModel", "nearOf", "(III)I"⟩, 28) := ⟨⟨by decide +kernel, by decide +kernel⟩, List.mem_of_getElem? (i := 402) (by decide +kernel), List.mem_of_getElem? (i := 610) (by decide +kernel), List.mem_of_getElem? (i := 611) (by decide +kernel)⟩
theorem lw_p29 : lw_okq (⟨"VectorGraphsModel", "meet", "(III)V"⟩, 28) := ⟨⟨by decide +kernel, by decide +kernel⟩, List.mem_of_getElem? (i := 402) (by decide +kernel), List.mem_of_getElem? (i := 614) (by decide +kernel), List.mem_of_getElem? (i := 615) (by decide +kernel)⟩
theorem lw_p30 : lw_okq (⟨"VectorGraphsModel", "join", "(II)V"⟩, 28) := ⟨⟨by decide +kernel, by decide +kernel⟩, List.mem_of_getElem? (i := 402) (by decide +kernel), List.mem_of_getElem? (i := 618) (by decide +kernel), List.mem_of_getElem? (i := 619) (by decide +kernel)⟩
theorem lw_p31 : lw_okq (⟨"VectorGraphsModel", "choose", "(II)V"⟩, 28) := ⟨⟨by decide +kernel, by decide +kernel⟩, List.mem_of_getElem? (i := 402) (by decide +kernel), List.mem_of_getElem? (i := 622) (by decide +kernel), List.mem_of_getElem? (i := 623) (by decide +kernel)⟩
def lw_privs_2 : List (MethodName × Nat) := [(⟨"VectorGraphsModel", "seeFrom", "(II)V"⟩, 28), (⟨"VectorGraphsModel", "farOf", "(III)I"⟩, 28), (⟨"VectorGraphsModel", "nearest", "(I)V"⟩, 28), (⟨"VectorGraphsModel", "outermost", "([ZIZ)I"⟩, 28), (⟨"VectorGraphsModel", "before", "(III)Z"⟩, 28), (⟨"VectorGraphsModel", "tell", "()I"⟩, 28), (⟨"VectorGraphsModel", "findByGraph", "(II)V"⟩, 28), (⟨"VectorGraphsModel", "need", "()V"⟩, 28), (⟨"VectorGraphsModel", "come", "(I)V"⟩, 28), (⟨"VectorGraphsModel", "go", "(IIII)V"⟩, 28), (⟨"VectorGraphsModel", "nearCount", "(II)I"⟩, 28), (⟨"VectorGraphsModel", "isNear", "(III)Z"⟩, 28), (⟨"VectorGraphsModel", "nearOf", "(III)I"⟩, 28), (⟨"VectorGraphsModel", "meet", "(III)V"⟩, 28), (⟨"VectorGraphsModel", "join", "(II)V"⟩, 28), (⟨"VectorGraphsModel", "choose", "(II)V"⟩, 28)]
theorem lw_r2 : ∀ q ∈ lw_privs_2, lw_okq q := List.forall_mem_cons.mpr ⟨lw_p16, List.forall_mem_cons.mpr ⟨lw_p17, List.forall_mem_cons.mpr ⟨lw_p18, List.forall_mem_cons.mpr ⟨lw_p19, List.forall_mem_cons.mpr ⟨lw_p20, List.forall_mem_cons.mpr ⟨lw_p21, List.forall_mem_cons.mpr ⟨lw_p22, List.forall_mem_cons.mpr ⟨lw_p23, List.forall_mem_cons.mpr ⟨lw_p24, List.forall_mem_cons.mpr ⟨lw_p25, List.forall_mem_cons.mpr ⟨lw_p26, List.forall_mem_cons.mpr ⟨lw_p27, List.forall_mem_cons.mpr ⟨lw_p28, List.forall_mem_cons.mpr ⟨lw_p29, List.forall_mem_cons.mpr ⟨lw_p30, List.forall_mem_cons.mpr ⟨lw_p31, fun _ h => absurd h List.not_mem_nil⟩⟩⟩⟩⟩⟩⟩⟩⟩⟩⟩⟩⟩⟩⟩⟩
theorem lw_p32 : lw_okq (⟨"VectorGraphsModel", "setNear", "(IIIZ)V"⟩, 28) := ⟨⟨by decide +kernel, by decide +kernel⟩, List.mem_of_getElem? (i := 402) (by decide +kernel), List.mem_of_getElem? (i := 626) (by decide +kernel), List.mem_of_getElem? (i := 627) (by decide +kernel)⟩
def lw_privs_3 : List (MethodName × Nat) := [(⟨"VectorGraphsModel", "setNear", "(IIIZ)V"⟩, 28)]
theorem lw_r3 : ∀ q ∈ lw_privs_3, lw_okq q := List.forall_mem_cons.mpr ⟨lw_p32, fun _ h => absurd h List.not_mem_nil⟩
def lw_privs : List (MethodName × Nat) := lw_privs_1 ++ (lw_privs_2 ++ (lw_privs_3))
def lw_tbl : List Cond := k2_sels lw_privs ++ tables_1
theorem lw_privs_ok : ∀ q ∈ lw_privs, lw_okq q := by
  show ∀ q ∈ lw_privs_1 ++ (lw_privs_2 ++ (lw_privs_3)), lw_okq q
  exact List.forall_mem_append.mpr ⟨lw_r1, List.forall_mem_append.mpr ⟨lw_r2, lw_r3⟩⟩
end
section
/-! names, fields, methods, words, by program -/
def R_G : String := "VectorGraphs$Graph"
def T_G : u_T := fun k => match k with
  | 0 => ("VectorGraphs$Graph", "found", "LVectorGraphs$Ranks;", true)
  | 1 => ("VectorGraphs$Graph", "entry", "I", false)
  | 2 => ("VectorGraphs$Graph", "width", "I", false)
  | 3 => ("VectorGraphs$Graph", "careful", "Z", false)
  | 4 => ("VectorGraphs$Graph", "walked", "I", false)
  | 5 => ("VectorGraphs$Graph", "vectors", "LVectorGraphs$Vectors;", true)
  | 6 => ("VectorGraphs$Graph", "seed", "I", true)
  | 7 => ("VectorGraphs$Graph", "links", "[I", true)
  | 8 => ("VectorGraphs$Graph", "rowSizes", "[I", true)
  | 9 => ("VectorGraphs$Graph", "met", "[Z", true)
  | 10 => ("VectorGraphs$Graph", "trail", "[I", true)
  | 11 => ("VectorGraphs$Graph", "open", "LVectorGraphs$Ranks;", true)
  | _ => ("VectorGraphs$Graph", "pool", "LVectorGraphs$Ranks;", true)
def ty_G : Nat → FieldType := fun k => match k with
  | 0 => .object "VectorGraphs$Ranks"
  | 1 => .int
  | 2 => .int
  | 3 => .boolean
  | 4 => .int
  | 5 => .object "VectorGraphs$Vectors"
  | 6 => .int
  | 7 => .array .int
  | 8 => .array .int
  | 9 => .array .boolean
  | 10 => .array .int
  | 11 => .object "VectorGraphs$Ranks"
  | _ => .object "VectorGraphs$Ranks"
theorem nm_G : ∀ a, a < 13 → ∀ b, b < 13 → a ≠ b → (T_G a).2.1 ≠ (T_G b).2.1 := by decide +kernel
theorem tok_G : ∀ k, k < 13 → parseFieldDescriptor (T_G k).2.2.1 = some (ty_G k) := by decide +kernel
def R_R : String := "VectorGraphs$Ranks"
def T_R : u_T := fun k => match k with
  | 0 => ("VectorGraphs$Ranks", "keys", "[I", true)
  | _ => ("VectorGraphs$Ranks", "size", "I", false)
def ty_R : Nat → FieldType := fun k => match k with
  | 0 => .array .int
  | _ => .int
theorem nm_R : ∀ a, a < 2 → ∀ b, b < 2 → a ≠ b → (T_R a).2.1 ≠ (T_R b).2.1 := by decide +kernel
theorem tok_R : ∀ k, k < 2 → parseFieldDescriptor (T_R k).2.2.1 = some (ty_R k) := by decide +kernel
def R_V : String := "VectorGraphs$Vectors"
def T_V : u_T := fun k => match k with
  | 0 => ("VectorGraphs$Vectors", "parts", "I", true)
  | 1 => ("VectorGraphs$Vectors", "removed", "[Z", true)
  | 2 => ("VectorGraphs$Vectors", "barred", "[Z", true)
  | 3 => ("VectorGraphs$Vectors", "values", "[I", true)
  | 4 => ("VectorGraphs$Vectors", "total", "I", false)
  | _ => ("VectorGraphs$Vectors", "measure", "I", false)
def ty_V : Nat → FieldType := fun k => match k with
  | 0 => .int
  | 1 => .array .boolean
  | 2 => .array .boolean
  | 3 => .array .int
  | 4 => .int
  | _ => .int
theorem nm_V : ∀ a, a < 6 → ∀ b, b < 6 → a ≠ b → (T_V a).2.1 ≠ (T_V b).2.1 := by decide +kernel
theorem tok_V : ∀ k, k < 6 → parseFieldDescriptor (T_V k).2.2.1 = some (ty_V k) := by decide +kernel
def R_X : String := "VectorGraphs"
def T_X : u_T := fun k => match k with
  | 0 => ("VectorGraphs", "vectors", "LVectorGraphs$Vectors;", true)
  | 1 => ("VectorGraphs", "graph", "LVectorGraphs$Graph;", true)
  | 2 => ("VectorGraphs", "last", "LVectorGraphs$Ranks;", true)
  | 3 => ("VectorGraphs", "scratch", "LVectorGraphs$Ranks;", true)
  | 4 => ("VectorGraphs", "looked", "LVectorGraphs$Ranks;", true)
  | _ => ("VectorGraphs", "latestSteps", "I", false)
def ty_X : Nat → FieldType := fun k => match k with
  | 0 => .object "VectorGraphs$Vectors"
  | 1 => .object "VectorGraphs$Graph"
  | 2 => .object "VectorGraphs$Ranks"
  | 3 => .object "VectorGraphs$Ranks"
  | 4 => .object "VectorGraphs$Ranks"
  | _ => .int
theorem nm_X : ∀ a, a < 6 → ∀ b, b < 6 → a ≠ b → (T_X a).2.1 ≠ (T_X b).2.1 := by decide +kernel
theorem tok_X : ∀ k, k < 6 → parseFieldDescriptor (T_X k).2.2.1 = some (ty_X k) := by decide +kernel
def R_M : String := "VectorGraphsModel"
def T_M : u_T := fun k => match k with
  | 0 => ("VectorGraphsModel", "thrown", "I", false)
  | 1 => ("VectorGraphsModel", "parts", "I", true)
  | 2 => ("VectorGraphsModel", "seed", "I", true)
  | 3 => ("VectorGraphsModel", "measure", "I", false)
  | 4 => ("VectorGraphsModel", "width", "I", false)
  | 5 => ("VectorGraphsModel", "careful", "I", false)
  | 6 => ("VectorGraphsModel", "all", "[I", true)
  | 7 => ("VectorGraphsModel", "count", "I", false)
  | 8 => ("VectorGraphsModel", "barred", "[Z", true)
  | 9 => ("VectorGraphsModel", "removed", "[Z", true)
  | 10 => ("VectorGraphsModel", "told", "[I", true)
  | 11 => ("VectorGraphsModel", "toldCount", "I", false)
  | 12 => ("VectorGraphsModel", "stepCount", "I", false)
  | 13 => ("VectorGraphsModel", "stale", "Z", false)
  | 14 => ("VectorGraphsModel", "levels", "[I", true)
  | 15 => ("VectorGraphsModel", "near", "[Z", true)
  | 16 => ("VectorGraphsModel", "entryOf", "I", false)
  | 17 => ("VectorGraphsModel", "fars", "[I", true)
  | 18 => ("VectorGraphsModel", "met", "[Z", true)
  | 19 => ("VectorGraphsModel", "open", "[Z", true)
  | 20 => ("VectorGraphsModel", "found", "[Z", true)
  | 21 => ("VectorGraphsModel", "foundCount", "I", false)
  | 22 => ("VectorGraphsModel", "pool", "[Z", true)
  | 23 => ("VectorGraphsModel", "chosen", "[Z", true)
  | 24 => ("VectorGraphsModel", "those", "[Z", true)
  | 25 => ("VectorGraphsModel", "row", "[I", true)
  | 26 => ("VectorGraphsModel", "rowCount", "I", false)
  | _ => ("VectorGraphsModel", "byGraph", "[Z", true)
def ty_M : Nat → FieldType := fun k => match k with
  | 0 => .int
  | 1 => .int
  | 2 => .int
  | 3 => .int
  | 4 => .int
  | 5 => .int
  | 6 => .array .int
  | 7 => .int
  | 8 => .array .boolean
  | 9 => .array .boolean
  | 10 => .array .int
  | 11 => .int
  | 12 => .int
  | 13 => .boolean
  | 14 => .array .int
  | 15 => .array .boolean
  | 16 => .int
  | 17 => .array .int
  | 18 => .array .boolean
  | 19 => .array .boolean
  | 20 => .array .boolean
  | 21 => .int
  | 22 => .array .boolean
  | 23 => .array .boolean
  | 24 => .array .boolean
  | 25 => .array .int
  | 26 => .int
  | _ => .array .boolean
theorem nm_M : ∀ a, a < 28 → ∀ b, b < 28 → a ≠ b → (T_M a).2.1 ≠ (T_M b).2.1 := by decide +kernel
theorem tok_M : ∀ k, k < 28 → parseFieldDescriptor (T_M k).2.2.1 = some (ty_M k) := by decide +kernel
abbrev classes : List vw_C := [("VectorGraphs$Graph", T_G, 13), ("VectorGraphs$Ranks", T_R, 2), ("VectorGraphs$Vectors", T_V, 6), ("VectorGraphs", T_X, 6), ("VectorGraphsModel", T_M, 28)]
def g_ok (w : Cond) : Bool := k2_isCode w || goodWord w
def gw : List Cond := lw_tbl.filter g_ok
theorem gw_good : ∀ w ∈ gw, (w.onTables && w.keeps) = true ∨ ∃ ty, w = .arrayClass ty := by
  intro w hw
  have h := (List.mem_filter.mp hw).2
  rcases Bool.or_eq_true_iff.mp h with h | h
  · cases w <;> first | (simp [k2_isCode] at h; done) | exact Or.inl rfl
  · exact good_of_word h
theorem cw_G : ∀ w ∈ u_ws "VectorGraphs$Graph" T_G 13, w ∈ gw := by decide +kernel
theorem cw_R : ∀ w ∈ u_ws "VectorGraphs$Ranks" T_R 2, w ∈ gw := by decide +kernel
theorem cw_V : ∀ w ∈ u_ws "VectorGraphs$Vectors" T_V 6, w ∈ gw := by decide +kernel
theorem cw_X : ∀ w ∈ u_ws "VectorGraphs" T_X 6, w ∈ gw := by decide +kernel
theorem cw_M : ∀ w ∈ u_ws "VectorGraphsModel" T_M 28, w ∈ gw := by decide +kernel
def g_m : Nat → MethodName × ByteArray × Nat × Option FieldType
  | 0 => (⟨"VectorGraphs", "<init>", "(II)V"⟩, prog_1_method_1_code, 3, none)
  | 1 => (⟨"VectorGraphs$Vectors", "<init>", "(I)V"⟩, prog_4_method_1_code, 2, none)
  | 2 => (⟨"VectorGraphs$Graph", "<init>", "(LVectorGraphs$Vectors;I)V"⟩, prog_2_method_1_code, 3, none)
  | 3 => (⟨"VectorGraphs$Ranks", "<init>", "(I)V"⟩, prog_3_method_1_code, 2, none)
  | 4 => (⟨"VectorGraphs", "part", "(II)I"⟩, prog_1_method_2_code, 3, some .int)
  | 5 => (⟨"VectorGraphs$Vectors", "changeHand", "(II)I"⟩, prog_4_method_4_code, 5, some .int)
  | 6 => (⟨"VectorGraphs", "add", "()I"⟩, prog_1_method_3_code, 2, some .int)
  | 7 => (⟨"VectorGraphs$Vectors", "append", "()I"⟩, prog_4_method_5_code, 2, some .int)
  | 8 => (⟨"VectorGraphs$Vectors", "copy", "(II)V"⟩, prog_4_method_6_code, 3, none)
  | 9 => (⟨"VectorGraphs$Graph", "join", "(I)V"⟩, prog_2_method_6_code, 6, none)
  | 10 => (⟨"VectorGraphs$Graph", "levelOf", "(I)I"⟩, prog_2_method_2_code, 4, some .int)
  | 11 => (⟨"VectorGraphs$Graph", "descend", "(III)I"⟩, prog_2_method_10_code, 6, some .int)
  | 12 => (⟨"VectorGraphs$Graph", "go", "(IIII)V"⟩, prog_2_method_15_code, 10, none)
  | 13 => (⟨"VectorGraphs$Graph", "forgetMet", "()V"⟩, prog_2_method_17_code, 2, none)
  | 14 => (⟨"VectorGraphs$Ranks", "empty", "()V"⟩, prog_3_method_2_code, 1, none)
  | 15 => (⟨"VectorGraphs$Graph", "meet", "(III)V"⟩, prog_2_method_16_code, 5, none)
  | 16 => (⟨"VectorGraphs$Vectors", "apart", "(III)I"⟩, prog_4_method_8_code, 9, some .int)
  | 17 => (⟨"VectorGraphs$Ranks", "lastIsBefore", "(II)Z"⟩, prog_3_method_6_code, 3, some .boolean)
  | 18 => (⟨"VectorGraphs$Ranks", "put", "(II)V"⟩, prog_3_method_7_code, 5, none)
  | 19 => (⟨"VectorGraphs$Ranks", "cutTo", "(I)V"⟩, prog_3_method_9_code, 2, none)
  | 20 => (⟨"VectorGraphs$Ranks", "numberAt", "(I)I"⟩, prog_3_method_3_code, 2, some .int)
  | 21 => (⟨"VectorGraphs$Ranks", "farAt", "(I)I"⟩, prog_3_method_4_code, 2, some .int)
  | 22 => (⟨"VectorGraphs$Ranks", "dropFirst", "()V"⟩, prog_3_method_8_code, 1, none)
  | 23 => (⟨"VectorGraphs$Graph", "rowSize", "(II)I"⟩, prog_2_method_3_code, 3, some .int)
  | 24 => (⟨"VectorGraphs$Graph", "linkAt", "(III)I"⟩, prog_2_method_4_code, 4, some .int)
  | 25 => (⟨"VectorGraphs$Graph", "rowStart", "(II)I"⟩, prog_2_method_19_code, 3, some .int)
  | 26 => (⟨"VectorGraphs$Graph", "joinLevel", "(III)I"⟩, prog_2_method_11_code, 7, some .int)
  | 27 => (⟨"VectorGraphs$Graph", "rowLimit", "(I)I"⟩, prog_2_method_18_code, 2, some .int)
  | 28 => (⟨"VectorGraphs$Graph", "choose", "(LVectorGraphs$Ranks;I)V"⟩, prog_2_method_13_code, 7, none)
  | 29 => (⟨"VectorGraphs$Ranks", "moveUp", "(II)V"⟩, prog_3_method_10_code, 3, none)
  | 30 => (⟨"VectorGraphs$Graph", "writeRow", "(IILVectorGraphs$Ranks;)V"⟩, prog_2_method_14_code, 7, none)
  | 31 => (⟨"VectorGraphs$Graph", "linkBack", "(III)V"⟩, prog_2_method_12_code, 7, none)
  | 32 => (⟨"VectorGraphs", "take", "(I)I"⟩, prog_1_method_4_code, 2, some .int)
  | 33 => (⟨"VectorGraphs$Vectors", "has", "(I)Z"⟩, prog_4_method_2_code, 2, some .boolean)
  | 34 => (⟨"VectorGraphs", "remove", "(I)I"⟩, prog_1_method_5_code, 3, some .int)
  | 35 => (⟨"VectorGraphs", "bar", "(IZ)I"⟩, prog_1_method_6_code, 4, some .int)
  | 36 => (⟨"VectorGraphs", "clean", "()I"⟩, prog_1_method_7_code, 2, some .int)
  | 37 => (⟨"VectorGraphs$Vectors", "closeUp", "()I"⟩, prog_4_method_7_code, 3, some .int)
  | 38 => (⟨"VectorGraphs$Graph", "rebuild", "()V"⟩, prog_2_method_5_code, 2, none)
  | 39 => (⟨"VectorGraphs", "rule", "(II)I"⟩, prog_1_method_8_code, 4, some .int)
  | 40 => (⟨"VectorGraphs", "exact", "(I)I"⟩, prog_1_method_9_code, 2, some .int)
  | 41 => (⟨"VectorGraphs", "rankFree", "(LVectorGraphs$Ranks;I)V"⟩, prog_1_method_23_code, 4, none)
  | 42 => (⟨"VectorGraphs$Vectors", "isFree", "(I)Z"⟩, prog_4_method_3_code, 2, some .boolean)
  | 43 => (⟨"VectorGraphs", "look", "(II)I"⟩, prog_1_method_10_code, 3, some .int)
  | 44 => (⟨"VectorGraphs", "mayLook", "(II)Z"⟩, prog_1_method_22_code, 2, some .boolean)
  | 45 => (⟨"VectorGraphs", "rankFound", "(LVectorGraphs$Ranks;I)V"⟩, prog_1_method_24_code, 5, none)
  | 46 => (⟨"VectorGraphs$Graph", "search", "(I)V"⟩, prog_2_method_7_code, 3, none)
  | 47 => (⟨"VectorGraphs", "brief", "(III)I"⟩, prog_1_method_11_code, 6, some .int)
  | 48 => (⟨"VectorGraphs", "recall", "(II)I"⟩, prog_1_method_12_code, 5, some .int)
  | 49 => (⟨"VectorGraphs$Ranks", "holds", "(I)Z"⟩, prog_3_method_5_code, 3, some .boolean)
  | 50 => (⟨"VectorGraphs", "at", "(I)I"⟩, prog_1_method_13_code, 2, some .int)
  | 51 => (⟨"VectorGraphs", "far", "(I)I"⟩, prog_1_method_14_code, 2, some .int)
  | 52 => (⟨"VectorGraphs", "between", "(II)I"⟩, prog_1_method_15_code, 3, some .int)
  | 53 => (⟨"VectorGraphs", "steps", "()I"⟩, prog_1_method_16_code, 1, some .int)
  | 54 => (⟨"VectorGraphs", "level", "(I)I"⟩, prog_1_method_17_code, 2, some .int)
  | 55 => (⟨"VectorGraphs", "entry", "()I"⟩, prog_1_method_18_code, 1, some .int)
  | 56 => (⟨"VectorGraphs", "neighbour", "(III)I"⟩, prog_1_method_19_code, 5, some .int)
  | 57 => (⟨"VectorGraphs", "reached", "()I"⟩, prog_1_method_20_code, 1, some .int)
  | 58 => (⟨"VectorGraphs$Graph", "reachable", "()I"⟩, prog_2_method_8_code, 3, some .int)
  | 59 => (⟨"VectorGraphs$Graph", "followFrom", "(II)I"⟩, prog_2_method_9_code, 7, some .int)
  | 60 => (⟨"VectorGraphs", "count", "(I)I"⟩, prog_1_method_21_code, 2, some .int)
  | 61 => (⟨"VectorGraphs$Vectors", "marked", "([Z)I"⟩, prog_4_method_9_code, 4, some .int)
  | 62 => (⟨"VectorGraphs$Vectors", "freeOnes", "()I"⟩, prog_4_method_10_code, 3, some .int)
  | 63 => (⟨"VectorGraphsLaw", "cell", "([II)I"⟩, method_2_code, 2, some .int)
  | 64 => (⟨"VectorGraphsModel", "<init>", "(II)V"⟩, prog_6_method_3_code, 3, none)
  | 65 => (⟨"VectorGraphsModel", "part", "(II)I"⟩, prog_6_method_21_code, 4, some .int)
  | 66 => (⟨"VectorGraphsModel", "in", "(JJJ)Z"⟩, prog_6_method_2_code, 6, some .boolean)
  | 67 => (⟨"VectorGraphsModel", "add", "()I"⟩, prog_6_method_23_code, 1, some .int)
  | 68 => (⟨"VectorGraphsModel", "copy", "(II)V"⟩, prog_6_method_22_code, 4, none)
  | 69 => (⟨"VectorGraphsModel", "take", "(I)I"⟩, prog_6_method_24_code, 2, some .int)
  | 70 => (⟨"VectorGraphsModel", "noVector", "(I)Z"⟩, prog_6_method_4_code, 2, some .boolean)
  | 71 => (⟨"VectorGraphsModel", "remove", "(I)I"⟩, prog_6_method_25_code, 3, some .int)
  | 72 => (⟨"VectorGraphsModel", "bar", "(IZ)I"⟩, prog_6_method_26_code, 4, some .int)
  | 73 => (⟨"VectorGraphsModel", "clean", "()I"⟩, prog_6_method_27_code, 4, some .int)
  | 74 => (⟨"VectorGraphsModel", "rule", "(II)I"⟩, prog_6_method_28_code, 4, some .int)
  | 75 => (⟨"VectorGraphsModel", "exact", "(I)I"⟩, prog_6_method_34_code, 2, some .int)
  | 76 => (⟨"VectorGraphsModel", "findExact", "(I)V"⟩, prog_6_method_31_code, 3, none)
  | 77 => (⟨"VectorGraphsModel", "isFree", "(I)Z"⟩, prog_6_method_29_code, 2, some .boolean)
  | 78 => (⟨"VectorGraphsModel", "seeFrom", "(II)V"⟩, prog_6_method_8_code, 4, none)
  | 79 => (⟨"VectorGraphsModel", "farOf", "(III)I"⟩, prog_6_method_6_code, 8, some .int)
  | 80 => (⟨"VectorGraphsModel", "size", "(I)I"⟩, prog_6_method_5_code, 1, some .int)
  | 81 => (⟨"VectorGraphsModel", "nearest", "(I)V"⟩, prog_6_method_30_code, 3, none)
  | 82 => (⟨"VectorGraphsModel", "outermost", "([ZIZ)I"⟩, prog_6_method_14_code, 6, some .int)
  | 83 => (⟨"VectorGraphsModel", "before", "(III)Z"⟩, prog_6_method_7_code, 6, some .boolean)
  | 84 => (⟨"VectorGraphsModel", "tell", "()I"⟩, prog_6_method_33_code, 2, some .int)
  | 85 => (⟨"VectorGraphsModel", "look", "(II)I"⟩, prog_6_method_35_code, 3, some .int)
  | 86 => (⟨"VectorGraphsModel", "findByGraph", "(II)V"⟩, prog_6_method_32_code, 5, none)
  | 87 => (⟨"VectorGraphsModel", "need", "()V"⟩, prog_6_method_20_code, 3, none)
  | 88 => (⟨"VectorGraphsModel", "levelOf", "(II)I"⟩, prog_6_method_9_code, 4, some .int)
  | 89 => (⟨"VectorGraphsModel", "come", "(I)V"⟩, prog_6_method_19_code, 4, none)
  | 90 => (⟨"VectorGraphsModel", "go", "(IIII)V"⟩, prog_6_method_15_code, 9, none)
  | 91 => (⟨"VectorGraphsModel", "nearCount", "(II)I"⟩, prog_6_method_12_code, 5, some .int)
  | 92 => (⟨"VectorGraphsModel", "isNear", "(III)Z"⟩, prog_6_method_10_code, 4, some .boolean)
  | 93 => (⟨"VectorGraphsModel", "nearOf", "(III)I"⟩, prog_6_method_13_code, 7, some .int)
  | 94 => (⟨"VectorGraphsModel", "meet", "(III)V"⟩, prog_6_method_16_code, 4, none)
  | 95 => (⟨"VectorGraphsModel", "join", "(II)V"⟩, prog_6_method_18_code, 6, none)
  | 96 => (⟨"VectorGraphsModel", "choose", "(II)V"⟩, prog_6_method_17_code, 7, none)
  | 97 => (⟨"VectorGraphsModel", "setNear", "(IIIZ)V"⟩, prog_6_method_11_code, 5, none)
  | 98 => (⟨"VectorGraphsModel", "brief", "(III)I"⟩, prog_6_method_36_code, 5, some .int)
  | 99 => (⟨"VectorGraphsModel", "recall", "(II)I"⟩, prog_6_method_37_code, 5, some .int)
  | 100 => (⟨"VectorGraphsModel", "at", "(I)I"⟩, prog_6_method_38_code, 2, some .int)
  | 101 => (⟨"VectorGraphsModel", "far", "(I)I"⟩, prog_6_method_39_code, 2, some .int)
  | 102 => (⟨"VectorGraphsModel", "between", "(II)I"⟩, prog_6_method_40_code, 3, some .int)
  | 103 => (⟨"VectorGraphsModel", "steps", "()I"⟩, prog_6_method_41_code, 1, some .int)
  | 104 => (⟨"VectorGraphsModel", "level", "(I)I"⟩, prog_6_method_42_code, 2, some .int)
  | 105 => (⟨"VectorGraphsModel", "entry", "()I"⟩, prog_6_method_43_code, 1, some .int)
  | 106 => (⟨"VectorGraphsModel", "neighbour", "(III)I"⟩, prog_6_method_44_code, 4, some .int)
  | 107 => (⟨"VectorGraphsModel", "reached", "()I"⟩, prog_6_method_45_code, 5, some .int)
  | 108 => (⟨"VectorGraphsModel", "count", "(I)I"⟩, prog_6_method_46_code, 6, some .int)
  | _ => (⟨"VectorGraphsLaw", "law", "([I)Z"⟩, code, 4, some .boolean)
def g_fr : Nat → Nat
  | 0 => 3
  | 1 => 1
  | 2 => 2
  | 3 => 1
  | 4 => 1
  | 5 => 0
  | 6 => 6
  | 7 => 2
  | 8 => 1
  | 9 => 5
  | 10 => 0
  | 11 => 4
  | 12 => 3
  | 13 => 0
  | 14 => 0
  | 15 => 2
  | 16 => 0
  | 17 => 0
  | 18 => 0
  | 19 => 1
  | 20 => 0
  | 21 => 0
  | 22 => 1
  | 23 => 0
  | 24 => 1
  | 25 => 0
  | 26 => 4
  | 27 => 0
  | 28 => 2
  | 29 => 0
  | 30 => 1
  | 31 => 3
  | 32 => 2
  | 33 => 0
  | 34 => 1
  | 35 => 1
  | 36 => 7
  | 37 => 2
  | 38 => 6
  | 39 => 7
  | 40 => 3
  | 41 => 2
  | 42 => 1
  | 43 => 7
  | 44 => 0
  | 45 => 6
  | 46 => 5
  | 47 => 3
  | 48 => 7
  | 49 => 0
  | 50 => 1
  | 51 => 1
  | 52 => 1
  | 53 => 0
  | 54 => 1
  | 55 => 0
  | 56 => 2
  | 57 => 4
  | 58 => 3
  | 59 => 2
  | 60 => 3
  | 61 => 0
  | 62 => 2
  | 63 => 0
  | 64 => 1
  | 65 => 1
  | 66 => 0
  | 67 => 1
  | 68 => 0
  | 69 => 2
  | 70 => 1
  | 71 => 2
  | 72 => 2
  | 73 => 1
  | 74 => 1
  | 75 => 4
  | 76 => 3
  | 77 => 0
  | 78 => 2
  | 79 => 1
  | 80 => 0
  | 81 => 2
  | 82 => 1
  | 83 => 0
  | 84 => 0
  | 85 => 7
  | 86 => 6
  | 87 => 5
  | 88 => 0
  | 89 => 4
  | 90 => 3
  | 91 => 1
  | 92 => 0
  | 93 => 1
  | 94 => 2
  | 95 => 3
  | 96 => 2
  | 97 => 0
  | 98 => 3
  | 99 => 7
  | 100 => 1
  | 101 => 2
  | 102 => 2
  | 103 => 0
  | 104 => 2
  | 105 => 6
  | 106 => 6
  | 107 => 6
  | 108 => 1
  | _ => 8
def g_lo : Nat → Nat
  | 0 => 73
  | 1 => 30
  | 2 => 51
  | 3 => 30
  | 4 => 24
  | 5 => 0
  | 6 => 160
  | 7 => 82
  | 8 => 60
  | 9 => 135
  | 10 => 0
  | 11 => 109
  | 12 => 80
  | 13 => 0
  | 14 => 0
  | 15 => 51
  | 16 => 0
  | 17 => 0
  | 18 => 0
  | 19 => 30
  | 20 => 0
  | 21 => 0
  | 22 => 60
  | 23 => 0
  | 24 => 22
  | 25 => 0
  | 26 => 109
  | 27 => 0
  | 28 => 51
  | 29 => 0
  | 30 => 30
  | 31 => 77
  | 32 => 82
  | 33 => 0
  | 34 => 21
  | 35 => 21
  | 36 => 181
  | 37 => 82
  | 38 => 160
  | 39 => 181
  | 40 => 65
  | 41 => 42
  | 42 => 21
  | 43 => 180
  | 44 => 0
  | 45 => 156
  | 46 => 134
  | 47 => 65
  | 48 => 180
  | 49 => 0
  | 50 => 21
  | 51 => 28
  | 52 => 28
  | 53 => 0
  | 54 => 23
  | 55 => 0
  | 56 => 45
  | 57 => 93
  | 58 => 71
  | 59 => 45
  | 60 => 64
  | 61 => 0
  | 62 => 42
  | 63 => 0
  | 64 => 30
  | 65 => 25
  | 66 => 0
  | 67 => 23
  | 68 => 0
  | 69 => 46
  | 70 => 25
  | 71 => 46
  | 72 => 46
  | 73 => 23
  | 74 => 25
  | 75 => 94
  | 76 => 72
  | 77 => 0
  | 78 => 47
  | 79 => 20
  | 80 => 0
  | 81 => 50
  | 82 => 25
  | 83 => 0
  | 84 => 0
  | 85 => 170
  | 86 => 146
  | 87 => 124
  | 88 => 0
  | 89 => 101
  | 90 => 73
  | 91 => 23
  | 92 => 0
  | 93 => 25
  | 94 => 50
  | 95 => 76
  | 96 => 50
  | 97 => 0
  | 98 => 72
  | 99 => 170
  | 100 => 25
  | 101 => 47
  | 102 => 47
  | 103 => 0
  | 104 => 46
  | 105 => 146
  | 106 => 146
  | 107 => 146
  | 108 => 21
  | _ => 204
end
section
theorem d_2_0 : decode (g_m 2).2.1 0 = .ok (.aload_n 0, 1) := by decide +kernel
theorem d_2_1 : decode (g_m 2).2.1 1 = .ok (.invokespecial 5, 3) := by decide +kernel
theorem d_2_4 : decode (g_m 2).2.1 4 = .ok (.aload_n 0, 1) := by decide +kernel
theorem d_2_5 : decode (g_m 2).2.1 5 = .ok (.aload_n 1, 1) := by decide +kernel
theorem d_2_6 : decode (g_m 2).2.1 6 = .ok (.putfield 11, 3) := by decide +kernel
theorem d_2_9 : decode (g_m 2).2.1 9 = .ok (.aload_n 0, 1) := by decide +kernel
theorem d_2_10 : decode (g_m 2).2.1 10 = .ok (.iload_n 2, 1) := by decide +kernel
theorem d_2_11 : decode (g_m 2).2.1 11 = .ok (.putfield 15, 3) := by decide +kernel
theorem d_2_14 : decode (g_m 2).2.1 14 = .ok (.aload_n 0, 1) := by decide +kernel
theorem d_2_15 : decode (g_m 2).2.1 15 = .ok (.bipush (-2), 2) := by decide +kernel
theorem d_2_17 : decode (g_m 2).2.1 17 = .ok (.putfield 19, 3) := by decide +kernel
theorem d_2_20 : decode (g_m 2).2.1 20 = .ok (.aload_n 0, 1) := by decide +kernel
theorem d_2_21 : decode (g_m 2).2.1 21 = .ok (.iconst 4, 1) := by decide +kernel
theorem d_2_22 : decode (g_m 2).2.1 22 = .ok (.putfield 22, 3) := by decide +kernel
theorem d_2_25 : decode (g_m 2).2.1 25 = .ok (.aload_n 0, 1) := by decide +kernel
theorem d_2_26 : decode (g_m 2).2.1 26 = .ok (.iconst 1, 1) := by decide +kernel
theorem d_2_27 : decode (g_m 2).2.1 27 = .ok (.putfield 25, 3) := by decide +kernel
theorem d_2_30 : decode (g_m 2).2.1 30 = .ok (.aload_n 0, 1) := by decide +kernel
theorem d_2_31 : decode (g_m 2).2.1 31 = .ok (.iconst 0, 1) := by decide +kernel
theorem d_2_32 : decode (g_m 2).2.1 32 = .ok (.putfield 29, 3) := by decide +kernel
theorem d_2_35 : decode (g_m 2).2.1 35 = .ok (.aload_n 0, 1) := by decide +kernel
theorem d_2_36 : decode (g_m 2).2.1 36 = .ok (.sipush 3600, 3) := by decide +kernel
theorem d_2_39 : decode (g_m 2).2.1 39 = .ok (.newarray .int, 2) := by decide +kernel
theorem d_2_41 : decode (g_m 2).2.1 41 = .ok (.putfield 32, 3) := by decide +kernel
theorem d_2_44 : decode (g_m 2).2.1 44 = .ok (.aload_n 0, 1) := by decide +kernel
theorem d_2_45 : decode (g_m 2).2.1 45 = .ok (.sipush 500, 3) := by decide +kernel
theorem d_2_48 : decode (g_m 2).2.1 48 = .ok (.newarray .int, 2) := by decide +kernel
theorem d_2_50 : decode (g_m 2).2.1 50 = .ok (.putfield 36, 3) := by decide +kernel
theorem d_2_53 : decode (g_m 2).2.1 53 = .ok (.aload_n 0, 1) := by decide +kernel
theorem d_2_54 : decode (g_m 2).2.1 54 = .ok (.bipush 100, 2) := by decide +kernel
theorem d_2_56 : decode (g_m 2).2.1 56 = .ok (.newarray .boolean, 2) := by decide +kernel
theorem d_2_58 : decode (g_m 2).2.1 58 = .ok (.putfield 39, 3) := by decide +kernel
theorem d_2_61 : decode (g_m 2).2.1 61 = .ok (.aload_n 0, 1) := by decide +kernel
theorem d_2_62 : decode (g_m 2).2.1 62 = .ok (.bipush 100, 2) := by decide +kernel
theorem d_2_64 : decode (g_m 2).2.1 64 = .ok (.newarray .int, 2) := by decide +kernel
theorem d_2_66 : decode (g_m 2).2.1 66 = .ok (.putfield 43, 3) := by decide +kernel
theorem d_2_69 : decode (g_m 2).2.1 69 = .ok (.aload_n 0, 1) := by decide +kernel
theorem d_2_70 : decode (g_m 2).2.1 70 = .ok (.new 46, 3) := by decide +kernel
theorem d_2_73 : decode (g_m 2).2.1 73 = .ok (.dup, 1) := by decide +kernel
theorem d_2_74 : decode (g_m 2).2.1 74 = .ok (.bipush 61, 2) := by decide +kernel
theorem d_2_76 : decode (g_m 2).2.1 76 = .ok (.invokespecial 48, 3) := by decide +kernel
theorem d_2_79 : decode (g_m 2).2.1 79 = .ok (.putfield 51, 3) := by decide +kernel
theorem d_2_82 : decode (g_m 2).2.1 82 = .ok (.aload_n 0, 1) := by decide +kernel
theorem d_2_83 : decode (g_m 2).2.1 83 = .ok (.new 46, 3) := by decide +kernel
theorem d_2_86 : decode (g_m 2).2.1 86 = .ok (.dup, 1) := by decide +kernel
theorem d_2_87 : decode (g_m 2).2.1 87 = .ok (.bipush 100, 2) := by decide +kernel
theorem d_2_89 : decode (g_m 2).2.1 89 = .ok (.invokespecial 48, 3) := by decide +kernel
theorem d_2_92 : decode (g_m 2).2.1 92 = .ok (.putfield 55, 3) := by decide +kernel
theorem d_2_95 : decode (g_m 2).2.1 95 = .ok (.aload_n 0, 1) := by decide +kernel
theorem d_2_96 : decode (g_m 2).2.1 96 = .ok (.new 46, 3) := by decide +kernel
theorem d_2_99 : decode (g_m 2).2.1 99 = .ok (.dup, 1) := by decide +kernel
theorem d_2_100 : decode (g_m 2).2.1 100 = .ok (.bipush 13, 2) := by decide +kernel
theorem d_2_102 : decode (g_m 2).2.1 102 = .ok (.invokespecial 48, 3) := by decide +kernel
theorem d_2_105 : decode (g_m 2).2.1 105 = .ok (.putfield 58, 3) := by decide +kernel
theorem d_2_108 : decode (g_m 2).2.1 108 = .ok (.return_, 1) := by decide +kernel
theorem d_9_0 : decode (g_m 9).2.1 0 = .ok (.aload_n 0, 1) := by decide +kernel
theorem d_9_1 : decode (g_m 9).2.1 1 = .ok (.getfield 19, 3) := by decide +kernel
theorem d_9_4 : decode (g_m 9).2.1 4 = .ok (.bipush (-2), 2) := by decide +kernel
theorem d_9_6 : decode (g_m 9).2.1 6 = .ok (.if_icmp .ne (9), 3) := by decide +kernel
theorem d_9_9 : decode (g_m 9).2.1 9 = .ok (.aload_n 0, 1) := by decide +kernel
theorem d_9_10 : decode (g_m 9).2.1 10 = .ok (.iload_n 1, 1) := by decide +kernel
theorem d_9_11 : decode (g_m 9).2.1 11 = .ok (.putfield 19, 3) := by decide +kernel
theorem d_9_14 : decode (g_m 9).2.1 14 = .ok (.return_, 1) := by decide +kernel
theorem d_9_15 : decode (g_m 9).2.1 15 = .ok (.aload_n 0, 1) := by decide +kernel
theorem d_9_16 : decode (g_m 9).2.1 16 = .ok (.iload_n 1, 1) := by decide +kernel
theorem d_9_17 : decode (g_m 9).2.1 17 = .ok (.invokevirtual 75, 3) := by decide +kernel
theorem d_9_20 : decode (g_m 9).2.1 20 = .ok (.istore_n 2, 1) := by decide +kernel
theorem d_9_21 : decode (g_m 9).2.1 21 = .ok (.aload_n 0, 1) := by decide +kernel
theorem d_9_22 : decode (g_m 9).2.1 22 = .ok (.aload_n 0, 1) := by decide +kernel
theorem d_9_23 : decode (g_m 9).2.1 23 = .ok (.getfield 19, 3) := by decide +kernel
theorem d_9_26 : decode (g_m 9).2.1 26 = .ok (.invokevirtual 75, 3) := by decide +kernel
theorem d_9_29 : decode (g_m 9).2.1 29 = .ok (.istore_n 3, 1) := by decide +kernel
theorem d_9_30 : decode (g_m 9).2.1 30 = .ok (.aload_n 0, 1) := by decide +kernel
theorem d_9_31 : decode (g_m 9).2.1 31 = .ok (.iload_n 3, 1) := by decide +kernel
theorem d_9_32 : decode (g_m 9).2.1 32 = .ok (.iload_n 2, 1) := by decide +kernel
theorem d_9_33 : decode (g_m 9).2.1 33 = .ok (.iload_n 1, 1) := by decide +kernel
theorem d_9_34 : decode (g_m 9).2.1 34 = .ok (.invokevirtual 79, 3) := by decide +kernel
theorem d_9_37 : decode (g_m 9).2.1 37 = .ok (.istore 4, 2) := by decide +kernel
theorem d_9_39 : decode (g_m 9).2.1 39 = .ok (.iload_n 2, 1) := by decide +kernel
theorem d_9_40 : decode (g_m 9).2.1 40 = .ok (.iload_n 3, 1) := by decide +kernel
theorem d_9_41 : decode (g_m 9).2.1 41 = .ok (.invokestatic 83, 3) := by decide +kernel
theorem d_9_44 : decode (g_m 9).2.1 44 = .ok (.istore 5, 2) := by decide +kernel
theorem d_9_46 : decode (g_m 9).2.1 46 = .ok (.iload 5, 2) := by decide +kernel
theorem d_9_48 : decode (g_m 9).2.1 48 = .ok (.ifCond .lt (20), 3) := by decide +kernel
theorem d_9_51 : decode (g_m 9).2.1 51 = .ok (.aload_n 0, 1) := by decide +kernel
theorem d_9_52 : decode (g_m 9).2.1 52 = .ok (.iload_n 1, 1) := by decide +kernel
theorem d_9_53 : decode (g_m 9).2.1 53 = .ok (.iload 5, 2) := by decide +kernel
theorem d_9_55 : decode (g_m 9).2.1 55 = .ok (.iload 4, 2) := by decide +kernel
theorem d_9_57 : decode (g_m 9).2.1 57 = .ok (.invokevirtual 88, 3) := by decide +kernel
theorem d_9_60 : decode (g_m 9).2.1 60 = .ok (.istore 4, 2) := by decide +kernel
theorem d_9_62 : decode (g_m 9).2.1 62 = .ok (.iinc 5 (-1), 3) := by decide +kernel
theorem d_9_65 : decode (g_m 9).2.1 65 = .ok (.goto (-19), 3) := by decide +kernel
theorem d_9_68 : decode (g_m 9).2.1 68 = .ok (.iload_n 2, 1) := by decide +kernel
theorem d_9_69 : decode (g_m 9).2.1 69 = .ok (.iload_n 3, 1) := by decide +kernel
theorem d_9_70 : decode (g_m 9).2.1 70 = .ok (.if_icmp .le (8), 3) := by decide +kernel
theorem d_9_73 : decode (g_m 9).2.1 73 = .ok (.aload_n 0, 1) := by decide +kernel
theorem d_9_74 : decode (g_m 9).2.1 74 = .ok (.iload_n 1, 1) := by decide +kernel
theorem d_9_75 : decode (g_m 9).2.1 75 = .ok (.putfield 19, 3) := by decide +kernel
theorem d_9_78 : decode (g_m 9).2.1 78 = .ok (.return_, 1) := by decide +kernel
theorem d_10_0 : decode (g_m 10).2.1 0 = .ok (.aload_n 0, 1) := by decide +kernel
theorem d_10_1 : decode (g_m 10).2.1 1 = .ok (.getfield 15, 3) := by decide +kernel
theorem d_10_4 : decode (g_m 10).2.1 4 = .ok (.iload_n 1, 1) := by decide +kernel
theorem d_10_5 : decode (g_m 10).2.1 5 = .ok (.ixor, 1) := by decide +kernel
theorem d_10_6 : decode (g_m 10).2.1 6 = .ok (.ldc 61, 2) := by decide +kernel
theorem d_10_8 : decode (g_m 10).2.1 8 = .ok (.imul, 1) := by decide +kernel
theorem d_10_9 : decode (g_m 10).2.1 9 = .ok (.istore_n 2, 1) := by decide +kernel
theorem d_10_10 : decode (g_m 10).2.1 10 = .ok (.iload_n 2, 1) := by decide +kernel
theorem d_10_11 : decode (g_m 10).2.1 11 = .ok (.iload_n 2, 1) := by decide +kernel
theorem d_10_12 : decode (g_m 10).2.1 12 = .ok (.bipush 16, 2) := by decide +kernel
theorem d_10_14 : decode (g_m 10).2.1 14 = .ok (.iushr, 1) := by decide +kernel
theorem d_10_15 : decode (g_m 10).2.1 15 = .ok (.ixor, 1) := by decide +kernel
theorem d_10_16 : decode (g_m 10).2.1 16 = .ok (.istore_n 2, 1) := by decide +kernel
theorem d_10_17 : decode (g_m 10).2.1 17 = .ok (.iload_n 2, 1) := by decide +kernel
theorem d_10_18 : decode (g_m 10).2.1 18 = .ok (.ldc 62, 2) := by decide +kernel
theorem d_10_20 : decode (g_m 10).2.1 20 = .ok (.imul, 1) := by decide +kernel
theorem d_10_21 : decode (g_m 10).2.1 21 = .ok (.istore_n 2, 1) := by decide +kernel
theorem d_10_22 : decode (g_m 10).2.1 22 = .ok (.iload_n 2, 1) := by decide +kernel
theorem d_10_23 : decode (g_m 10).2.1 23 = .ok (.iload_n 2, 1) := by decide +kernel
theorem d_10_24 : decode (g_m 10).2.1 24 = .ok (.bipush 13, 2) := by decide +kernel
theorem d_10_26 : decode (g_m 10).2.1 26 = .ok (.iushr, 1) := by decide +kernel
theorem d_10_27 : decode (g_m 10).2.1 27 = .ok (.ixor, 1) := by decide +kernel
theorem d_10_28 : decode (g_m 10).2.1 28 = .ok (.istore_n 2, 1) := by decide +kernel
theorem d_10_29 : decode (g_m 10).2.1 29 = .ok (.iconst 0, 1) := by decide +kernel
theorem d_10_30 : decode (g_m 10).2.1 30 = .ok (.istore_n 3, 1) := by decide +kernel
theorem d_10_31 : decode (g_m 10).2.1 31 = .ok (.iload_n 3, 1) := by decide +kernel
theorem d_10_32 : decode (g_m 10).2.1 32 = .ok (.iconst 4, 1) := by decide +kernel
theorem d_10_33 : decode (g_m 10).2.1 33 = .ok (.if_icmp .ge (19), 3) := by decide +kernel
theorem d_10_36 : decode (g_m 10).2.1 36 = .ok (.iload_n 2, 1) := by decide +kernel
theorem d_10_37 : decode (g_m 10).2.1 37 = .ok (.iconst 3, 1) := by decide +kernel
theorem d_10_38 : decode (g_m 10).2.1 38 = .ok (.iand, 1) := by decide +kernel
theorem d_10_39 : decode (g_m 10).2.1 39 = .ok (.ifCond .ne (13), 3) := by decide +kernel
theorem d_10_42 : decode (g_m 10).2.1 42 = .ok (.iload_n 2, 1) := by decide +kernel
theorem d_10_43 : decode (g_m 10).2.1 43 = .ok (.iconst 2, 1) := by decide +kernel
theorem d_10_44 : decode (g_m 10).2.1 44 = .ok (.iushr, 1) := by decide +kernel
theorem d_10_45 : decode (g_m 10).2.1 45 = .ok (.istore_n 2, 1) := by decide +kernel
theorem d_10_46 : decode (g_m 10).2.1 46 = .ok (.iinc 3 1, 3) := by decide +kernel
theorem d_10_49 : decode (g_m 10).2.1 49 = .ok (.goto (-18), 3) := by decide +kernel
theorem d_10_52 : decode (g_m 10).2.1 52 = .ok (.iload_n 3, 1) := by decide +kernel
theorem d_10_53 : decode (g_m 10).2.1 53 = .ok (.ireturn, 1) := by decide +kernel
theorem d_11_0 : decode (g_m 11).2.1 0 = .ok (.aload_n 0, 1) := by decide +kernel
theorem d_11_1 : decode (g_m 11).2.1 1 = .ok (.getfield 19, 3) := by decide +kernel
theorem d_11_4 : decode (g_m 11).2.1 4 = .ok (.istore 4, 2) := by decide +kernel
theorem d_11_6 : decode (g_m 11).2.1 6 = .ok (.iload_n 1, 1) := by decide +kernel
theorem d_11_7 : decode (g_m 11).2.1 7 = .ok (.istore 5, 2) := by decide +kernel
theorem d_11_9 : decode (g_m 11).2.1 9 = .ok (.iload 5, 2) := by decide +kernel
theorem d_11_11 : decode (g_m 11).2.1 11 = .ok (.iload_n 2, 1) := by decide +kernel
theorem d_11_12 : decode (g_m 11).2.1 12 = .ok (.if_icmp .le (29), 3) := by decide +kernel
theorem d_11_15 : decode (g_m 11).2.1 15 = .ok (.aload_n 0, 1) := by decide +kernel
theorem d_11_16 : decode (g_m 11).2.1 16 = .ok (.iload 4, 2) := by decide +kernel
theorem d_11_18 : decode (g_m 11).2.1 18 = .ok (.iload 5, 2) := by decide +kernel
theorem d_11_20 : decode (g_m 11).2.1 20 = .ok (.iconst 1, 1) := by decide +kernel
theorem d_11_21 : decode (g_m 11).2.1 21 = .ok (.iload_n 3, 1) := by decide +kernel
theorem d_11_22 : decode (g_m 11).2.1 22 = .ok (.invokevirtual 94, 3) := by decide +kernel
theorem d_11_25 : decode (g_m 11).2.1 25 = .ok (.aload_n 0, 1) := by decide +kernel
theorem d_11_26 : decode (g_m 11).2.1 26 = .ok (.getfield 51, 3) := by decide +kernel
theorem d_11_29 : decode (g_m 11).2.1 29 = .ok (.iconst 0, 1) := by decide +kernel
theorem d_11_30 : decode (g_m 11).2.1 30 = .ok (.invokevirtual 110, 3) := by decide +kernel
theorem d_11_33 : decode (g_m 11).2.1 33 = .ok (.istore 4, 2) := by decide +kernel
theorem d_11_35 : decode (g_m 11).2.1 35 = .ok (.iinc 5 (-1), 3) := by decide +kernel
theorem d_11_38 : decode (g_m 11).2.1 38 = .ok (.goto (-29), 3) := by decide +kernel
theorem d_11_41 : decode (g_m 11).2.1 41 = .ok (.iload 4, 2) := by decide +kernel
theorem d_11_43 : decode (g_m 11).2.1 43 = .ok (.ireturn, 1) := by decide +kernel
theorem d_12_0 : decode (g_m 12).2.1 0 = .ok (.aload_n 0, 1) := by decide +kernel
theorem d_12_1 : decode (g_m 12).2.1 1 = .ok (.invokevirtual 98, 3) := by decide +kernel
theorem d_12_4 : decode (g_m 12).2.1 4 = .ok (.aload_n 0, 1) := by decide +kernel
theorem d_12_5 : decode (g_m 12).2.1 5 = .ok (.getfield 51, 3) := by decide +kernel
theorem d_12_8 : decode (g_m 12).2.1 8 = .ok (.invokevirtual 91, 3) := by decide +kernel
theorem d_12_11 : decode (g_m 12).2.1 11 = .ok (.aload_n 0, 1) := by decide +kernel
theorem d_12_12 : decode (g_m 12).2.1 12 = .ok (.getfield 55, 3) := by decide +kernel
theorem d_12_15 : decode (g_m 12).2.1 15 = .ok (.invokevirtual 91, 3) := by decide +kernel
theorem d_12_18 : decode (g_m 12).2.1 18 = .ok (.aload_n 0, 1) := by decide +kernel
theorem d_12_19 : decode (g_m 12).2.1 19 = .ok (.iload_n 1, 1) := by decide +kernel
theorem d_12_20 : decode (g_m 12).2.1 20 = .ok (.iload_n 3, 1) := by decide +kernel
theorem d_12_21 : decode (g_m 12).2.1 21 = .ok (.iload 4, 2) := by decide +kernel
theorem d_12_23 : decode (g_m 12).2.1 23 = .ok (.invokevirtual 147, 3) := by decide +kernel
theorem d_12_26 : decode (g_m 12).2.1 26 = .ok (.iconst 0, 1) := by decide +kernel
theorem d_12_27 : decode (g_m 12).2.1 27 = .ok (.istore 5, 2) := by decide +kernel
theorem d_12_29 : decode (g_m 12).2.1 29 = .ok (.iload 5, 2) := by decide +kernel
theorem d_12_31 : decode (g_m 12).2.1 31 = .ok (.bipush 100, 2) := by decide +kernel
theorem d_12_33 : decode (g_m 12).2.1 33 = .ok (.if_icmp .ge (115), 3) := by decide +kernel
theorem d_12_36 : decode (g_m 12).2.1 36 = .ok (.aload_n 0, 1) := by decide +kernel
theorem d_12_37 : decode (g_m 12).2.1 37 = .ok (.getfield 55, 3) := by decide +kernel
theorem d_12_40 : decode (g_m 12).2.1 40 = .ok (.getfield 135, 3) := by decide +kernel
theorem d_12_43 : decode (g_m 12).2.1 43 = .ok (.ifCond .le (105), 3) := by decide +kernel
theorem d_12_46 : decode (g_m 12).2.1 46 = .ok (.aload_n 0, 1) := by decide +kernel
theorem d_12_47 : decode (g_m 12).2.1 47 = .ok (.getfield 55, 3) := by decide +kernel
theorem d_12_50 : decode (g_m 12).2.1 50 = .ok (.iconst 0, 1) := by decide +kernel
theorem d_12_51 : decode (g_m 12).2.1 51 = .ok (.invokevirtual 110, 3) := by decide +kernel
theorem d_12_54 : decode (g_m 12).2.1 54 = .ok (.istore 6, 2) := by decide +kernel
theorem d_12_56 : decode (g_m 12).2.1 56 = .ok (.aload_n 0, 1) := by decide +kernel
theorem d_12_57 : decode (g_m 12).2.1 57 = .ok (.getfield 55, 3) := by decide +kernel
theorem d_12_60 : decode (g_m 12).2.1 60 = .ok (.iconst 0, 1) := by decide +kernel
theorem d_12_61 : decode (g_m 12).2.1 61 = .ok (.invokevirtual 138, 3) := by decide +kernel
theorem d_12_64 : decode (g_m 12).2.1 64 = .ok (.istore 7, 2) := by decide +kernel
theorem d_12_66 : decode (g_m 12).2.1 66 = .ok (.aload_n 0, 1) := by decide +kernel
theorem d_12_67 : decode (g_m 12).2.1 67 = .ok (.getfield 55, 3) := by decide +kernel
theorem d_12_70 : decode (g_m 12).2.1 70 = .ok (.invokevirtual 150, 3) := by decide +kernel
theorem d_12_73 : decode (g_m 12).2.1 73 = .ok (.aload_n 0, 1) := by decide +kernel
theorem d_12_74 : decode (g_m 12).2.1 74 = .ok (.getfield 51, 3) := by decide +kernel
theorem d_12_77 : decode (g_m 12).2.1 77 = .ok (.getfield 135, 3) := by decide +kernel
theorem d_12_80 : decode (g_m 12).2.1 80 = .ok (.iload_n 3, 1) := by decide +kernel
theorem d_12_81 : decode (g_m 12).2.1 81 = .ok (.if_icmp .lt (20), 3) := by decide +kernel
theorem d_12_84 : decode (g_m 12).2.1 84 = .ok (.aload_n 0, 1) := by decide +kernel
theorem d_12_85 : decode (g_m 12).2.1 85 = .ok (.getfield 51, 3) := by decide +kernel
theorem d_12_88 : decode (g_m 12).2.1 88 = .ok (.iload 6, 2) := by decide +kernel
theorem d_12_90 : decode (g_m 12).2.1 90 = .ok (.iload 7, 2) := by decide +kernel
theorem d_12_92 : decode (g_m 12).2.1 92 = .ok (.invokevirtual 153, 3) := by decide +kernel
theorem d_12_95 : decode (g_m 12).2.1 95 = .ok (.ifCond .eq (6), 3) := by decide +kernel
theorem d_12_98 : decode (g_m 12).2.1 98 = .ok (.goto (50), 3) := by decide +kernel
theorem d_12_101 : decode (g_m 12).2.1 101 = .ok (.aload_n 0, 1) := by decide +kernel
theorem d_12_102 : decode (g_m 12).2.1 102 = .ok (.iload 6, 2) := by decide +kernel
theorem d_12_104 : decode (g_m 12).2.1 104 = .ok (.iload_n 2, 1) := by decide +kernel
theorem d_12_105 : decode (g_m 12).2.1 105 = .ok (.invokevirtual 104, 3) := by decide +kernel
theorem d_12_108 : decode (g_m 12).2.1 108 = .ok (.istore 8, 2) := by decide +kernel
theorem d_12_110 : decode (g_m 12).2.1 110 = .ok (.iconst 0, 1) := by decide +kernel
theorem d_12_111 : decode (g_m 12).2.1 111 = .ok (.istore 9, 2) := by decide +kernel
theorem d_12_113 : decode (g_m 12).2.1 113 = .ok (.iload 9, 2) := by decide +kernel
theorem d_12_115 : decode (g_m 12).2.1 115 = .ok (.iload 8, 2) := by decide +kernel
theorem d_12_117 : decode (g_m 12).2.1 117 = .ok (.if_icmp .ge (25), 3) := by decide +kernel
theorem d_12_120 : decode (g_m 12).2.1 120 = .ok (.aload_n 0, 1) := by decide +kernel
theorem d_12_121 : decode (g_m 12).2.1 121 = .ok (.aload_n 0, 1) := by decide +kernel
theorem d_12_122 : decode (g_m 12).2.1 122 = .ok (.iload 6, 2) := by decide +kernel
theorem d_12_124 : decode (g_m 12).2.1 124 = .ok (.iload_n 2, 1) := by decide +kernel
theorem d_12_125 : decode (g_m 12).2.1 125 = .ok (.iload 9, 2) := by decide +kernel
theorem d_12_127 : decode (g_m 12).2.1 127 = .ok (.invokevirtual 107, 3) := by decide +kernel
theorem d_12_130 : decode (g_m 12).2.1 130 = .ok (.iload_n 3, 1) := by decide +kernel
theorem d_12_131 : decode (g_m 12).2.1 131 = .ok (.iload 4, 2) := by decide +kernel
theorem d_12_133 : decode (g_m 12).2.1 133 = .ok (.invokevirtual 147, 3) := by decide +kernel
theorem d_12_136 : decode (g_m 12).2.1 136 = .ok (.iinc 9 1, 3) := by decide +kernel
theorem d_12_139 : decode (g_m 12).2.1 139 = .ok (.goto (-26), 3) := by decide +kernel
theorem d_12_142 : decode (g_m 12).2.1 142 = .ok (.iinc 5 1, 3) := by decide +kernel
theorem d_12_145 : decode (g_m 12).2.1 145 = .ok (.goto (-116), 3) := by decide +kernel
theorem d_12_148 : decode (g_m 12).2.1 148 = .ok (.return_, 1) := by decide +kernel
theorem d_13_0 : decode (g_m 13).2.1 0 = .ok (.iconst 0, 1) := by decide +kernel
theorem d_13_1 : decode (g_m 13).2.1 1 = .ok (.istore_n 1, 1) := by decide +kernel
theorem d_13_2 : decode (g_m 13).2.1 2 = .ok (.iload_n 1, 1) := by decide +kernel
theorem d_13_3 : decode (g_m 13).2.1 3 = .ok (.aload_n 0, 1) := by decide +kernel
theorem d_13_4 : decode (g_m 13).2.1 4 = .ok (.getfield 39, 3) := by decide +kernel
theorem d_13_7 : decode (g_m 13).2.1 7 = .ok (.arraylength, 1) := by decide +kernel
theorem d_13_8 : decode (g_m 13).2.1 8 = .ok (.if_icmp .ge (16), 3) := by decide +kernel
theorem d_13_11 : decode (g_m 13).2.1 11 = .ok (.aload_n 0, 1) := by decide +kernel
theorem d_13_12 : decode (g_m 13).2.1 12 = .ok (.getfield 39, 3) := by decide +kernel
theorem d_13_15 : decode (g_m 13).2.1 15 = .ok (.iload_n 1, 1) := by decide +kernel
theorem d_13_16 : decode (g_m 13).2.1 16 = .ok (.iconst 0, 1) := by decide +kernel
theorem d_13_17 : decode (g_m 13).2.1 17 = .ok (.bastore, 1) := by decide +kernel
theorem d_13_18 : decode (g_m 13).2.1 18 = .ok (.iinc 1 1, 3) := by decide +kernel
theorem d_13_21 : decode (g_m 13).2.1 21 = .ok (.goto (-19), 3) := by decide +kernel
theorem d_13_24 : decode (g_m 13).2.1 24 = .ok (.return_, 1) := by decide +kernel
theorem d_15_0 : decode (g_m 15).2.1 0 = .ok (.aload_n 0, 1) := by decide +kernel
theorem d_15_1 : decode (g_m 15).2.1 1 = .ok (.getfield 39, 3) := by decide +kernel
theorem d_15_4 : decode (g_m 15).2.1 4 = .ok (.iload_n 1, 1) := by decide +kernel
theorem d_15_5 : decode (g_m 15).2.1 5 = .ok (.baload, 1) := by decide +kernel
theorem d_15_6 : decode (g_m 15).2.1 6 = .ok (.ifCond .eq (4), 3) := by decide +kernel
theorem d_15_9 : decode (g_m 15).2.1 9 = .ok (.return_, 1) := by decide +kernel
theorem d_15_10 : decode (g_m 15).2.1 10 = .ok (.aload_n 0, 1) := by decide +kernel
theorem d_15_11 : decode (g_m 15).2.1 11 = .ok (.getfield 39, 3) := by decide +kernel
theorem d_15_14 : decode (g_m 15).2.1 14 = .ok (.iload_n 1, 1) := by decide +kernel
theorem d_15_15 : decode (g_m 15).2.1 15 = .ok (.iconst 1, 1) := by decide +kernel
theorem d_15_16 : decode (g_m 15).2.1 16 = .ok (.bastore, 1) := by decide +kernel
theorem d_15_17 : decode (g_m 15).2.1 17 = .ok (.aload_n 0, 1) := by decide +kernel
theorem d_15_18 : decode (g_m 15).2.1 18 = .ok (.dup, 1) := by decide +kernel
theorem d_15_19 : decode (g_m 15).2.1 19 = .ok (.getfield 29, 3) := by decide +kernel
theorem d_15_22 : decode (g_m 15).2.1 22 = .ok (.iconst 1, 1) := by decide +kernel
theorem d_15_23 : decode (g_m 15).2.1 23 = .ok (.iadd, 1) := by decide +kernel
theorem d_15_24 : decode (g_m 15).2.1 24 = .ok (.putfield 29, 3) := by decide +kernel
theorem d_15_27 : decode (g_m 15).2.1 27 = .ok (.aload_n 0, 1) := by decide +kernel
theorem d_15_28 : decode (g_m 15).2.1 28 = .ok (.getfield 11, 3) := by decide +kernel
theorem d_15_31 : decode (g_m 15).2.1 31 = .ok (.iload_n 3, 1) := by decide +kernel
theorem d_15_32 : decode (g_m 15).2.1 32 = .ok (.iload_n 1, 1) := by decide +kernel
theorem d_15_33 : decode (g_m 15).2.1 33 = .ok (.bipush 100, 2) := by decide +kernel
theorem d_15_35 : decode (g_m 15).2.1 35 = .ok (.invokevirtual 128, 3) := by decide +kernel
theorem d_15_38 : decode (g_m 15).2.1 38 = .ok (.istore 4, 2) := by decide +kernel
theorem d_15_40 : decode (g_m 15).2.1 40 = .ok (.aload_n 0, 1) := by decide +kernel
theorem d_15_41 : decode (g_m 15).2.1 41 = .ok (.getfield 51, 3) := by decide +kernel
theorem d_15_44 : decode (g_m 15).2.1 44 = .ok (.getfield 135, 3) := by decide +kernel
theorem d_15_47 : decode (g_m 15).2.1 47 = .ok (.iload_n 2, 1) := by decide +kernel
theorem d_15_48 : decode (g_m 15).2.1 48 = .ok (.if_icmp .lt (16), 3) := by decide +kernel
theorem d_15_51 : decode (g_m 15).2.1 51 = .ok (.aload_n 0, 1) := by decide +kernel
theorem d_15_52 : decode (g_m 15).2.1 52 = .ok (.getfield 51, 3) := by decide +kernel
theorem d_15_55 : decode (g_m 15).2.1 55 = .ok (.iload_n 1, 1) := by decide +kernel
theorem d_15_56 : decode (g_m 15).2.1 56 = .ok (.iload 4, 2) := by decide +kernel
theorem d_15_58 : decode (g_m 15).2.1 58 = .ok (.invokevirtual 153, 3) := by decide +kernel
theorem d_15_61 : decode (g_m 15).2.1 61 = .ok (.ifCond .ne (31), 3) := by decide +kernel
theorem d_15_64 : decode (g_m 15).2.1 64 = .ok (.aload_n 0, 1) := by decide +kernel
theorem d_15_65 : decode (g_m 15).2.1 65 = .ok (.getfield 51, 3) := by decide +kernel
theorem d_15_68 : decode (g_m 15).2.1 68 = .ok (.iload_n 1, 1) := by decide +kernel
theorem d_15_69 : decode (g_m 15).2.1 69 = .ok (.iload 4, 2) := by decide +kernel
theorem d_15_71 : decode (g_m 15).2.1 71 = .ok (.invokevirtual 131, 3) := by decide +kernel
theorem d_15_74 : decode (g_m 15).2.1 74 = .ok (.aload_n 0, 1) := by decide +kernel
theorem d_15_75 : decode (g_m 15).2.1 75 = .ok (.getfield 51, 3) := by decide +kernel
theorem d_15_78 : decode (g_m 15).2.1 78 = .ok (.iload_n 2, 1) := by decide +kernel
theorem d_15_79 : decode (g_m 15).2.1 79 = .ok (.invokevirtual 144, 3) := by decide +kernel
theorem d_15_82 : decode (g_m 15).2.1 82 = .ok (.aload_n 0, 1) := by decide +kernel
theorem d_15_83 : decode (g_m 15).2.1 83 = .ok (.getfield 55, 3) := by decide +kernel
theorem d_15_86 : decode (g_m 15).2.1 86 = .ok (.iload_n 1, 1) := by decide +kernel
theorem d_15_87 : decode (g_m 15).2.1 87 = .ok (.iload 4, 2) := by decide +kernel
theorem d_15_89 : decode (g_m 15).2.1 89 = .ok (.invokevirtual 131, 3) := by decide +kernel
theorem d_15_92 : decode (g_m 15).2.1 92 = .ok (.return_, 1) := by decide +kernel
theorem d_23_0 : decode (g_m 23).2.1 0 = .ok (.aload_n 0, 1) := by decide +kernel
theorem d_23_1 : decode (g_m 23).2.1 1 = .ok (.getfield 36, 3) := by decide +kernel
theorem d_23_4 : decode (g_m 23).2.1 4 = .ok (.iload_n 1, 1) := by decide +kernel
theorem d_23_5 : decode (g_m 23).2.1 5 = .ok (.iconst 5, 1) := by decide +kernel
theorem d_23_6 : decode (g_m 23).2.1 6 = .ok (.imul, 1) := by decide +kernel
theorem d_23_7 : decode (g_m 23).2.1 7 = .ok (.iload_n 2, 1) := by decide +kernel
theorem d_23_8 : decode (g_m 23).2.1 8 = .ok (.iadd, 1) := by decide +kernel
theorem d_23_9 : decode (g_m 23).2.1 9 = .ok (.iaload, 1) := by decide +kernel
theorem d_23_10 : decode (g_m 23).2.1 10 = .ok (.ireturn, 1) := by decide +kernel
theorem d_24_0 : decode (g_m 24).2.1 0 = .ok (.aload_n 0, 1) := by decide +kernel
theorem d_24_1 : decode (g_m 24).2.1 1 = .ok (.getfield 32, 3) := by decide +kernel
theorem d_24_4 : decode (g_m 24).2.1 4 = .ok (.iload_n 1, 1) := by decide +kernel
theorem d_24_5 : decode (g_m 24).2.1 5 = .ok (.iload_n 2, 1) := by decide +kernel
theorem d_24_6 : decode (g_m 24).2.1 6 = .ok (.invokestatic 63, 3) := by decide +kernel
theorem d_24_9 : decode (g_m 24).2.1 9 = .ok (.iload_n 3, 1) := by decide +kernel
theorem d_24_10 : decode (g_m 24).2.1 10 = .ok (.iadd, 1) := by decide +kernel
theorem d_24_11 : decode (g_m 24).2.1 11 = .ok (.iaload, 1) := by decide +kernel
theorem d_24_12 : decode (g_m 24).2.1 12 = .ok (.ireturn, 1) := by decide +kernel
theorem d_25_0 : decode (g_m 25).2.1 0 = .ok (.iload_n 0, 1) := by decide +kernel
theorem d_25_1 : decode (g_m 25).2.1 1 = .ok (.bipush 36, 2) := by decide +kernel
theorem d_25_3 : decode (g_m 25).2.1 3 = .ok (.imul, 1) := by decide +kernel
theorem d_25_4 : decode (g_m 25).2.1 4 = .ok (.istore_n 2, 1) := by decide +kernel
theorem d_25_5 : decode (g_m 25).2.1 5 = .ok (.iload_n 1, 1) := by decide +kernel
theorem d_25_6 : decode (g_m 25).2.1 6 = .ok (.ifCond .ne (7), 3) := by decide +kernel
theorem d_25_9 : decode (g_m 25).2.1 9 = .ok (.iload_n 2, 1) := by decide +kernel
theorem d_25_10 : decode (g_m 25).2.1 10 = .ok (.goto (14), 3) := by decide +kernel
theorem d_25_13 : decode (g_m 25).2.1 13 = .ok (.iload_n 2, 1) := by decide +kernel
theorem d_25_14 : decode (g_m 25).2.1 14 = .ok (.bipush 12, 2) := by decide +kernel
theorem d_25_16 : decode (g_m 25).2.1 16 = .ok (.iadd, 1) := by decide +kernel
theorem d_25_17 : decode (g_m 25).2.1 17 = .ok (.iload_n 1, 1) := by decide +kernel
theorem d_25_18 : decode (g_m 25).2.1 18 = .ok (.iconst 1, 1) := by decide +kernel
theorem d_25_19 : decode (g_m 25).2.1 19 = .ok (.isub, 1) := by decide +kernel
theorem d_25_20 : decode (g_m 25).2.1 20 = .ok (.bipush 6, 2) := by decide +kernel
theorem d_25_22 : decode (g_m 25).2.1 22 = .ok (.imul, 1) := by decide +kernel
theorem d_25_23 : decode (g_m 25).2.1 23 = .ok (.iadd, 1) := by decide +kernel
theorem d_25_24 : decode (g_m 25).2.1 24 = .ok (.ireturn, 1) := by decide +kernel
theorem d_26_0 : decode (g_m 26).2.1 0 = .ok (.aload_n 0, 1) := by decide +kernel
theorem d_26_1 : decode (g_m 26).2.1 1 = .ok (.iload_n 3, 1) := by decide +kernel
theorem d_26_2 : decode (g_m 26).2.1 2 = .ok (.iload_n 2, 1) := by decide +kernel
theorem d_26_3 : decode (g_m 26).2.1 3 = .ok (.bipush 12, 2) := by decide +kernel
theorem d_26_5 : decode (g_m 26).2.1 5 = .ok (.iload_n 1, 1) := by decide +kernel
theorem d_26_6 : decode (g_m 26).2.1 6 = .ok (.invokevirtual 94, 3) := by decide +kernel
theorem d_26_9 : decode (g_m 26).2.1 9 = .ok (.aload_n 0, 1) := by decide +kernel
theorem d_26_10 : decode (g_m 26).2.1 10 = .ok (.getfield 51, 3) := by decide +kernel
theorem d_26_13 : decode (g_m 26).2.1 13 = .ok (.iconst 0, 1) := by decide +kernel
theorem d_26_14 : decode (g_m 26).2.1 14 = .ok (.invokevirtual 110, 3) := by decide +kernel
theorem d_26_17 : decode (g_m 26).2.1 17 = .ok (.istore 4, 2) := by decide +kernel
theorem d_26_19 : decode (g_m 26).2.1 19 = .ok (.aload_n 0, 1) := by decide +kernel
theorem d_26_20 : decode (g_m 26).2.1 20 = .ok (.aload_n 0, 1) := by decide +kernel
theorem d_26_21 : decode (g_m 26).2.1 21 = .ok (.getfield 51, 3) := by decide +kernel
theorem d_26_24 : decode (g_m 26).2.1 24 = .ok (.aload_n 0, 1) := by decide +kernel
theorem d_26_25 : decode (g_m 26).2.1 25 = .ok (.iload_n 2, 1) := by decide +kernel
theorem d_26_26 : decode (g_m 26).2.1 26 = .ok (.invokevirtual 113, 3) := by decide +kernel
theorem d_26_29 : decode (g_m 26).2.1 29 = .ok (.invokevirtual 116, 3) := by decide +kernel
theorem d_26_32 : decode (g_m 26).2.1 32 = .ok (.aload_n 0, 1) := by decide +kernel
theorem d_26_33 : decode (g_m 26).2.1 33 = .ok (.iload_n 1, 1) := by decide +kernel
theorem d_26_34 : decode (g_m 26).2.1 34 = .ok (.iload_n 2, 1) := by decide +kernel
theorem d_26_35 : decode (g_m 26).2.1 35 = .ok (.aload_n 0, 1) := by decide +kernel
theorem d_26_36 : decode (g_m 26).2.1 36 = .ok (.getfield 51, 3) := by decide +kernel
theorem d_26_39 : decode (g_m 26).2.1 39 = .ok (.invokevirtual 120, 3) := by decide +kernel
theorem d_26_42 : decode (g_m 26).2.1 42 = .ok (.aload_n 0, 1) := by decide +kernel
theorem d_26_43 : decode (g_m 26).2.1 43 = .ok (.iload_n 1, 1) := by decide +kernel
theorem d_26_44 : decode (g_m 26).2.1 44 = .ok (.iload_n 2, 1) := by decide +kernel
theorem d_26_45 : decode (g_m 26).2.1 45 = .ok (.invokevirtual 104, 3) := by decide +kernel
theorem d_26_48 : decode (g_m 26).2.1 48 = .ok (.istore 5, 2) := by decide +kernel
theorem d_26_50 : decode (g_m 26).2.1 50 = .ok (.iconst 0, 1) := by decide +kernel
theorem d_26_51 : decode (g_m 26).2.1 51 = .ok (.istore 6, 2) := by decide +kernel
theorem d_26_53 : decode (g_m 26).2.1 53 = .ok (.iload 6, 2) := by decide +kernel
theorem d_26_55 : decode (g_m 26).2.1 55 = .ok (.iload 5, 2) := by decide +kernel
theorem d_26_57 : decode (g_m 26).2.1 57 = .ok (.if_icmp .ge (23), 3) := by decide +kernel
theorem d_26_60 : decode (g_m 26).2.1 60 = .ok (.aload_n 0, 1) := by decide +kernel
theorem d_26_61 : decode (g_m 26).2.1 61 = .ok (.aload_n 0, 1) := by decide +kernel
theorem d_26_62 : decode (g_m 26).2.1 62 = .ok (.iload_n 1, 1) := by decide +kernel
theorem d_26_63 : decode (g_m 26).2.1 63 = .ok (.iload_n 2, 1) := by decide +kernel
theorem d_26_64 : decode (g_m 26).2.1 64 = .ok (.iload 6, 2) := by decide +kernel
theorem d_26_66 : decode (g_m 26).2.1 66 = .ok (.invokevirtual 107, 3) := by decide +kernel
theorem d_26_69 : decode (g_m 26).2.1 69 = .ok (.iload_n 2, 1) := by decide +kernel
theorem d_26_70 : decode (g_m 26).2.1 70 = .ok (.iload_n 1, 1) := by decide +kernel
theorem d_26_71 : decode (g_m 26).2.1 71 = .ok (.invokevirtual 124, 3) := by decide +kernel
theorem d_26_74 : decode (g_m 26).2.1 74 = .ok (.iinc 6 1, 3) := by decide +kernel
theorem d_26_77 : decode (g_m 26).2.1 77 = .ok (.goto (-24), 3) := by decide +kernel
theorem d_26_80 : decode (g_m 26).2.1 80 = .ok (.iload 4, 2) := by decide +kernel
theorem d_26_82 : decode (g_m 26).2.1 82 = .ok (.ireturn, 1) := by decide +kernel
theorem d_27_0 : decode (g_m 27).2.1 0 = .ok (.iload_n 1, 1) := by decide +kernel
theorem d_27_1 : decode (g_m 27).2.1 1 = .ok (.ifCond .ne (12), 3) := by decide +kernel
theorem d_27_4 : decode (g_m 27).2.1 4 = .ok (.iconst 2, 1) := by decide +kernel
theorem d_27_5 : decode (g_m 27).2.1 5 = .ok (.aload_n 0, 1) := by decide +kernel
theorem d_27_6 : decode (g_m 27).2.1 6 = .ok (.getfield 22, 3) := by decide +kernel
theorem d_27_9 : decode (g_m 27).2.1 9 = .ok (.imul, 1) := by decide +kernel
theorem d_27_10 : decode (g_m 27).2.1 10 = .ok (.goto (7), 3) := by decide +kernel
theorem d_27_13 : decode (g_m 27).2.1 13 = .ok (.aload_n 0, 1) := by decide +kernel
theorem d_27_14 : decode (g_m 27).2.1 14 = .ok (.getfield 22, 3) := by decide +kernel
theorem d_27_17 : decode (g_m 27).2.1 17 = .ok (.ireturn, 1) := by decide +kernel
theorem d_28_0 : decode (g_m 28).2.1 0 = .ok (.iconst 0, 1) := by decide +kernel
theorem d_28_1 : decode (g_m 28).2.1 1 = .ok (.istore_n 3, 1) := by decide +kernel
theorem d_28_2 : decode (g_m 28).2.1 2 = .ok (.iconst 0, 1) := by decide +kernel
theorem d_28_3 : decode (g_m 28).2.1 3 = .ok (.istore 4, 2) := by decide +kernel
theorem d_28_5 : decode (g_m 28).2.1 5 = .ok (.iload 4, 2) := by decide +kernel
theorem d_28_7 : decode (g_m 28).2.1 7 = .ok (.aload_n 1, 1) := by decide +kernel
theorem d_28_8 : decode (g_m 28).2.1 8 = .ok (.getfield 135, 3) := by decide +kernel
theorem d_28_11 : decode (g_m 28).2.1 11 = .ok (.if_icmp .ge (96), 3) := by decide +kernel
theorem d_28_14 : decode (g_m 28).2.1 14 = .ok (.iload_n 3, 1) := by decide +kernel
theorem d_28_15 : decode (g_m 28).2.1 15 = .ok (.iload_n 2, 1) := by decide +kernel
theorem d_28_16 : decode (g_m 28).2.1 16 = .ok (.if_icmp .ge (91), 3) := by decide +kernel
theorem d_28_19 : decode (g_m 28).2.1 19 = .ok (.iconst 1, 1) := by decide +kernel
theorem d_28_20 : decode (g_m 28).2.1 20 = .ok (.istore 5, 2) := by decide +kernel
theorem d_28_22 : decode (g_m 28).2.1 22 = .ok (.iconst 0, 1) := by decide +kernel
theorem d_28_23 : decode (g_m 28).2.1 23 = .ok (.istore 6, 2) := by decide +kernel
theorem d_28_25 : decode (g_m 28).2.1 25 = .ok (.aload_n 0, 1) := by decide +kernel
theorem d_28_26 : decode (g_m 28).2.1 26 = .ok (.getfield 25, 3) := by decide +kernel
theorem d_28_29 : decode (g_m 28).2.1 29 = .ok (.ifCond .eq (57), 3) := by decide +kernel
theorem d_28_32 : decode (g_m 28).2.1 32 = .ok (.iload 5, 2) := by decide +kernel
theorem d_28_34 : decode (g_m 28).2.1 34 = .ok (.ifCond .eq (52), 3) := by decide +kernel
theorem d_28_37 : decode (g_m 28).2.1 37 = .ok (.iload 6, 2) := by decide +kernel
theorem d_28_39 : decode (g_m 28).2.1 39 = .ok (.iload_n 3, 1) := by decide +kernel
theorem d_28_40 : decode (g_m 28).2.1 40 = .ok (.if_icmp .ge (46), 3) := by decide +kernel
theorem d_28_43 : decode (g_m 28).2.1 43 = .ok (.aload_n 1, 1) := by decide +kernel
theorem d_28_44 : decode (g_m 28).2.1 44 = .ok (.iload 4, 2) := by decide +kernel
theorem d_28_46 : decode (g_m 28).2.1 46 = .ok (.invokevirtual 138, 3) := by decide +kernel
theorem d_28_49 : decode (g_m 28).2.1 49 = .ok (.aload_n 0, 1) := by decide +kernel
theorem d_28_50 : decode (g_m 28).2.1 50 = .ok (.getfield 11, 3) := by decide +kernel
theorem d_28_53 : decode (g_m 28).2.1 53 = .ok (.aload_n 1, 1) := by decide +kernel
theorem d_28_54 : decode (g_m 28).2.1 54 = .ok (.iload 4, 2) := by decide +kernel
theorem d_28_56 : decode (g_m 28).2.1 56 = .ok (.invokevirtual 110, 3) := by decide +kernel
theorem d_28_59 : decode (g_m 28).2.1 59 = .ok (.aload_n 1, 1) := by decide +kernel
theorem d_28_60 : decode (g_m 28).2.1 60 = .ok (.iload 6, 2) := by decide +kernel
theorem d_28_62 : decode (g_m 28).2.1 62 = .ok (.invokevirtual 110, 3) := by decide +kernel
theorem d_28_65 : decode (g_m 28).2.1 65 = .ok (.bipush 100, 2) := by decide +kernel
theorem d_28_67 : decode (g_m 28).2.1 67 = .ok (.invokevirtual 128, 3) := by decide +kernel
theorem d_28_70 : decode (g_m 28).2.1 70 = .ok (.if_icmp .ge (7), 3) := by decide +kernel
theorem d_28_73 : decode (g_m 28).2.1 73 = .ok (.iconst 1, 1) := by decide +kernel
theorem d_28_74 : decode (g_m 28).2.1 74 = .ok (.goto (4), 3) := by decide +kernel
theorem d_28_77 : decode (g_m 28).2.1 77 = .ok (.iconst 0, 1) := by decide +kernel
theorem d_28_78 : decode (g_m 28).2.1 78 = .ok (.istore 5, 2) := by decide +kernel
theorem d_28_80 : decode (g_m 28).2.1 80 = .ok (.iinc 6 1, 3) := by decide +kernel
theorem d_28_83 : decode (g_m 28).2.1 83 = .ok (.goto (-58), 3) := by decide +kernel
theorem d_28_86 : decode (g_m 28).2.1 86 = .ok (.iload 5, 2) := by decide +kernel
theorem d_28_88 : decode (g_m 28).2.1 88 = .ok (.ifCond .eq (13), 3) := by decide +kernel
theorem d_28_91 : decode (g_m 28).2.1 91 = .ok (.aload_n 1, 1) := by decide +kernel
theorem d_28_92 : decode (g_m 28).2.1 92 = .ok (.iload 4, 2) := by decide +kernel
theorem d_28_94 : decode (g_m 28).2.1 94 = .ok (.iload_n 3, 1) := by decide +kernel
theorem d_28_95 : decode (g_m 28).2.1 95 = .ok (.invokevirtual 141, 3) := by decide +kernel
theorem d_28_98 : decode (g_m 28).2.1 98 = .ok (.iinc 3 1, 3) := by decide +kernel
theorem d_28_101 : decode (g_m 28).2.1 101 = .ok (.iinc 4 1, 3) := by decide +kernel
theorem d_28_104 : decode (g_m 28).2.1 104 = .ok (.goto (-99), 3) := by decide +kernel
theorem d_28_107 : decode (g_m 28).2.1 107 = .ok (.aload_n 1, 1) := by decide +kernel
theorem d_28_108 : decode (g_m 28).2.1 108 = .ok (.iload_n 3, 1) := by decide +kernel
theorem d_28_109 : decode (g_m 28).2.1 109 = .ok (.invokevirtual 144, 3) := by decide +kernel
theorem d_28_112 : decode (g_m 28).2.1 112 = .ok (.return_, 1) := by decide +kernel
theorem d_30_0 : decode (g_m 30).2.1 0 = .ok (.iload_n 1, 1) := by decide +kernel
theorem d_30_1 : decode (g_m 30).2.1 1 = .ok (.iload_n 2, 1) := by decide +kernel
theorem d_30_2 : decode (g_m 30).2.1 2 = .ok (.invokestatic 63, 3) := by decide +kernel
theorem d_30_5 : decode (g_m 30).2.1 5 = .ok (.istore 4, 2) := by decide +kernel
theorem d_30_7 : decode (g_m 30).2.1 7 = .ok (.aload_n 3, 1) := by decide +kernel
theorem d_30_8 : decode (g_m 30).2.1 8 = .ok (.getfield 135, 3) := by decide +kernel
theorem d_30_11 : decode (g_m 30).2.1 11 = .ok (.aload_n 0, 1) := by decide +kernel
theorem d_30_12 : decode (g_m 30).2.1 12 = .ok (.iload_n 2, 1) := by decide +kernel
theorem d_30_13 : decode (g_m 30).2.1 13 = .ok (.invokevirtual 113, 3) := by decide +kernel
theorem d_30_16 : decode (g_m 30).2.1 16 = .ok (.invokestatic 83, 3) := by decide +kernel
theorem d_30_19 : decode (g_m 30).2.1 19 = .ok (.istore 5, 2) := by decide +kernel
theorem d_30_21 : decode (g_m 30).2.1 21 = .ok (.iconst 0, 1) := by decide +kernel
theorem d_30_22 : decode (g_m 30).2.1 22 = .ok (.istore 6, 2) := by decide +kernel
theorem d_30_24 : decode (g_m 30).2.1 24 = .ok (.iload 6, 2) := by decide +kernel
theorem d_30_26 : decode (g_m 30).2.1 26 = .ok (.iload 5, 2) := by decide +kernel
theorem d_30_28 : decode (g_m 30).2.1 28 = .ok (.if_icmp .ge (25), 3) := by decide +kernel
theorem d_30_31 : decode (g_m 30).2.1 31 = .ok (.aload_n 0, 1) := by decide +kernel
theorem d_30_32 : decode (g_m 30).2.1 32 = .ok (.getfield 32, 3) := by decide +kernel
theorem d_30_35 : decode (g_m 30).2.1 35 = .ok (.iload 4, 2) := by decide +kernel
theorem d_30_37 : decode (g_m 30).2.1 37 = .ok (.iload 6, 2) := by decide +kernel
theorem d_30_39 : decode (g_m 30).2.1 39 = .ok (.iadd, 1) := by decide +kernel
theorem d_30_40 : decode (g_m 30).2.1 40 = .ok (.aload_n 3, 1) := by decide +kernel
theorem d_30_41 : decode (g_m 30).2.1 41 = .ok (.iload 6, 2) := by decide +kernel
theorem d_30_43 : decode (g_m 30).2.1 43 = .ok (.invokevirtual 110, 3) := by decide +kernel
theorem d_30_46 : decode (g_m 30).2.1 46 = .ok (.iastore, 1) := by decide +kernel
theorem d_30_47 : decode (g_m 30).2.1 47 = .ok (.iinc 6 1, 3) := by decide +kernel
theorem d_30_50 : decode (g_m 30).2.1 50 = .ok (.goto (-26), 3) := by decide +kernel
theorem d_30_53 : decode (g_m 30).2.1 53 = .ok (.aload_n 0, 1) := by decide +kernel
theorem d_30_54 : decode (g_m 30).2.1 54 = .ok (.getfield 36, 3) := by decide +kernel
theorem d_30_57 : decode (g_m 30).2.1 57 = .ok (.iload_n 1, 1) := by decide +kernel
theorem d_30_58 : decode (g_m 30).2.1 58 = .ok (.iconst 5, 1) := by decide +kernel
theorem d_30_59 : decode (g_m 30).2.1 59 = .ok (.imul, 1) := by decide +kernel
theorem d_30_60 : decode (g_m 30).2.1 60 = .ok (.iload_n 2, 1) := by decide +kernel
theorem d_30_61 : decode (g_m 30).2.1 61 = .ok (.iadd, 1) := by decide +kernel
theorem d_30_62 : decode (g_m 30).2.1 62 = .ok (.iload 5, 2) := by decide +kernel
theorem d_30_64 : decode (g_m 30).2.1 64 = .ok (.iastore, 1) := by decide +kernel
theorem d_30_65 : decode (g_m 30).2.1 65 = .ok (.return_, 1) := by decide +kernel
theorem d_31_0 : decode (g_m 31).2.1 0 = .ok (.aload_n 0, 1) := by decide +kernel
theorem d_31_1 : decode (g_m 31).2.1 1 = .ok (.getfield 58, 3) := by decide +kernel
theorem d_31_4 : decode (g_m 31).2.1 4 = .ok (.invokevirtual 91, 3) := by decide +kernel
theorem d_31_7 : decode (g_m 31).2.1 7 = .ok (.aload_n 0, 1) := by decide +kernel
theorem d_31_8 : decode (g_m 31).2.1 8 = .ok (.iload_n 1, 1) := by decide +kernel
theorem d_31_9 : decode (g_m 31).2.1 9 = .ok (.iload_n 2, 1) := by decide +kernel
theorem d_31_10 : decode (g_m 31).2.1 10 = .ok (.invokevirtual 104, 3) := by decide +kernel
theorem d_31_13 : decode (g_m 31).2.1 13 = .ok (.istore 4, 2) := by decide +kernel
theorem d_31_15 : decode (g_m 31).2.1 15 = .ok (.iconst 0, 1) := by decide +kernel
theorem d_31_16 : decode (g_m 31).2.1 16 = .ok (.istore 5, 2) := by decide +kernel
theorem d_31_18 : decode (g_m 31).2.1 18 = .ok (.iload 5, 2) := by decide +kernel
theorem d_31_20 : decode (g_m 31).2.1 20 = .ok (.iload 4, 2) := by decide +kernel
theorem d_31_22 : decode (g_m 31).2.1 22 = .ok (.if_icmp .ge (40), 3) := by decide +kernel
theorem d_31_25 : decode (g_m 31).2.1 25 = .ok (.aload_n 0, 1) := by decide +kernel
theorem d_31_26 : decode (g_m 31).2.1 26 = .ok (.iload_n 1, 1) := by decide +kernel
theorem d_31_27 : decode (g_m 31).2.1 27 = .ok (.iload_n 2, 1) := by decide +kernel
theorem d_31_28 : decode (g_m 31).2.1 28 = .ok (.iload 5, 2) := by decide +kernel
theorem d_31_30 : decode (g_m 31).2.1 30 = .ok (.invokevirtual 107, 3) := by decide +kernel
theorem d_31_33 : decode (g_m 31).2.1 33 = .ok (.istore 6, 2) := by decide +kernel
theorem d_31_35 : decode (g_m 31).2.1 35 = .ok (.aload_n 0, 1) := by decide +kernel
theorem d_31_36 : decode (g_m 31).2.1 36 = .ok (.getfield 58, 3) := by decide +kernel
theorem d_31_39 : decode (g_m 31).2.1 39 = .ok (.iload 6, 2) := by decide +kernel
theorem d_31_41 : decode (g_m 31).2.1 41 = .ok (.aload_n 0, 1) := by decide +kernel
theorem d_31_42 : decode (g_m 31).2.1 42 = .ok (.getfield 11, 3) := by decide +kernel
theorem d_31_45 : decode (g_m 31).2.1 45 = .ok (.iload_n 1, 1) := by decide +kernel
theorem d_31_46 : decode (g_m 31).2.1 46 = .ok (.iload 6, 2) := by decide +kernel
theorem d_31_48 : decode (g_m 31).2.1 48 = .ok (.bipush 100, 2) := by decide +kernel
theorem d_31_50 : decode (g_m 31).2.1 50 = .ok (.invokevirtual 128, 3) := by decide +kernel
theorem d_31_53 : decode (g_m 31).2.1 53 = .ok (.invokevirtual 131, 3) := by decide +kernel
theorem d_31_56 : decode (g_m 31).2.1 56 = .ok (.iinc 5 1, 3) := by decide +kernel
theorem d_31_59 : decode (g_m 31).2.1 59 = .ok (.goto (-41), 3) := by decide +kernel
theorem d_31_62 : decode (g_m 31).2.1 62 = .ok (.aload_n 0, 1) := by decide +kernel
theorem d_31_63 : decode (g_m 31).2.1 63 = .ok (.getfield 58, 3) := by decide +kernel
theorem d_31_66 : decode (g_m 31).2.1 66 = .ok (.iload_n 3, 1) := by decide +kernel
theorem d_31_67 : decode (g_m 31).2.1 67 = .ok (.aload_n 0, 1) := by decide +kernel
theorem d_31_68 : decode (g_m 31).2.1 68 = .ok (.getfield 11, 3) := by decide +kernel
theorem d_31_71 : decode (g_m 31).2.1 71 = .ok (.iload_n 1, 1) := by decide +kernel
theorem d_31_72 : decode (g_m 31).2.1 72 = .ok (.iload_n 3, 1) := by decide +kernel
theorem d_31_73 : decode (g_m 31).2.1 73 = .ok (.bipush 100, 2) := by decide +kernel
theorem d_31_75 : decode (g_m 31).2.1 75 = .ok (.invokevirtual 128, 3) := by decide +kernel
theorem d_31_78 : decode (g_m 31).2.1 78 = .ok (.invokevirtual 131, 3) := by decide +kernel
theorem d_31_81 : decode (g_m 31).2.1 81 = .ok (.aload_n 0, 1) := by decide +kernel
theorem d_31_82 : decode (g_m 31).2.1 82 = .ok (.getfield 58, 3) := by decide +kernel
theorem d_31_85 : decode (g_m 31).2.1 85 = .ok (.getfield 135, 3) := by decide +kernel
theorem d_31_88 : decode (g_m 31).2.1 88 = .ok (.aload_n 0, 1) := by decide +kernel
theorem d_31_89 : decode (g_m 31).2.1 89 = .ok (.iload_n 2, 1) := by decide +kernel
theorem d_31_90 : decode (g_m 31).2.1 90 = .ok (.invokevirtual 113, 3) := by decide +kernel
theorem d_31_93 : decode (g_m 31).2.1 93 = .ok (.if_icmp .le (16), 3) := by decide +kernel
theorem d_31_96 : decode (g_m 31).2.1 96 = .ok (.aload_n 0, 1) := by decide +kernel
theorem d_31_97 : decode (g_m 31).2.1 97 = .ok (.aload_n 0, 1) := by decide +kernel
theorem d_31_98 : decode (g_m 31).2.1 98 = .ok (.getfield 58, 3) := by decide +kernel
theorem d_31_101 : decode (g_m 31).2.1 101 = .ok (.aload_n 0, 1) := by decide +kernel
theorem d_31_102 : decode (g_m 31).2.1 102 = .ok (.iload_n 2, 1) := by decide +kernel
theorem d_31_103 : decode (g_m 31).2.1 103 = .ok (.invokevirtual 113, 3) := by decide +kernel
theorem d_31_106 : decode (g_m 31).2.1 106 = .ok (.invokevirtual 116, 3) := by decide +kernel
theorem d_31_109 : decode (g_m 31).2.1 109 = .ok (.aload_n 0, 1) := by decide +kernel
theorem d_31_110 : decode (g_m 31).2.1 110 = .ok (.iload_n 1, 1) := by decide +kernel
theorem d_31_111 : decode (g_m 31).2.1 111 = .ok (.iload_n 2, 1) := by decide +kernel
theorem d_31_112 : decode (g_m 31).2.1 112 = .ok (.aload_n 0, 1) := by decide +kernel
theorem d_31_113 : decode (g_m 31).2.1 113 = .ok (.getfield 58, 3) := by decide +kernel
theorem d_31_116 : decode (g_m 31).2.1 116 = .ok (.invokevirtual 120, 3) := by decide +kernel
theorem d_31_119 : decode (g_m 31).2.1 119 = .ok (.return_, 1) := by decide +kernel
theorem d_38_0 : decode (g_m 38).2.1 0 = .ok (.aload_n 0, 1) := by decide +kernel
theorem d_38_1 : decode (g_m 38).2.1 1 = .ok (.bipush (-2), 2) := by decide +kernel
theorem d_38_3 : decode (g_m 38).2.1 3 = .ok (.putfield 19, 3) := by decide +kernel
theorem d_38_6 : decode (g_m 38).2.1 6 = .ok (.iconst 0, 1) := by decide +kernel
theorem d_38_7 : decode (g_m 38).2.1 7 = .ok (.istore_n 1, 1) := by decide +kernel
theorem d_38_8 : decode (g_m 38).2.1 8 = .ok (.iload_n 1, 1) := by decide +kernel
theorem d_38_9 : decode (g_m 38).2.1 9 = .ok (.aload_n 0, 1) := by decide +kernel
theorem d_38_10 : decode (g_m 38).2.1 10 = .ok (.getfield 36, 3) := by decide +kernel
theorem d_38_13 : decode (g_m 38).2.1 13 = .ok (.arraylength, 1) := by decide +kernel
theorem d_38_14 : decode (g_m 38).2.1 14 = .ok (.if_icmp .ge (16), 3) := by decide +kernel
theorem d_38_17 : decode (g_m 38).2.1 17 = .ok (.aload_n 0, 1) := by decide +kernel
theorem d_38_18 : decode (g_m 38).2.1 18 = .ok (.getfield 36, 3) := by decide +kernel
theorem d_38_21 : decode (g_m 38).2.1 21 = .ok (.iload_n 1, 1) := by decide +kernel
theorem d_38_22 : decode (g_m 38).2.1 22 = .ok (.iconst 0, 1) := by decide +kernel
theorem d_38_23 : decode (g_m 38).2.1 23 = .ok (.iastore, 1) := by decide +kernel
theorem d_38_24 : decode (g_m 38).2.1 24 = .ok (.iinc 1 1, 3) := by decide +kernel
theorem d_38_27 : decode (g_m 38).2.1 27 = .ok (.goto (-19), 3) := by decide +kernel
theorem d_38_30 : decode (g_m 38).2.1 30 = .ok (.iconst 0, 1) := by decide +kernel
theorem d_38_31 : decode (g_m 38).2.1 31 = .ok (.istore_n 1, 1) := by decide +kernel
theorem d_38_32 : decode (g_m 38).2.1 32 = .ok (.iload_n 1, 1) := by decide +kernel
theorem d_38_33 : decode (g_m 38).2.1 33 = .ok (.aload_n 0, 1) := by decide +kernel
theorem d_38_34 : decode (g_m 38).2.1 34 = .ok (.getfield 11, 3) := by decide +kernel
theorem d_38_37 : decode (g_m 38).2.1 37 = .ok (.getfield 67, 3) := by decide +kernel
theorem d_38_40 : decode (g_m 38).2.1 40 = .ok (.if_icmp .ge (14), 3) := by decide +kernel
theorem d_38_43 : decode (g_m 38).2.1 43 = .ok (.aload_n 0, 1) := by decide +kernel
theorem d_38_44 : decode (g_m 38).2.1 44 = .ok (.iload_n 1, 1) := by decide +kernel
theorem d_38_45 : decode (g_m 38).2.1 45 = .ok (.invokevirtual 72, 3) := by decide +kernel
theorem d_38_48 : decode (g_m 38).2.1 48 = .ok (.iinc 1 1, 3) := by decide +kernel
theorem d_38_51 : decode (g_m 38).2.1 51 = .ok (.goto (-19), 3) := by decide +kernel
theorem d_38_54 : decode (g_m 38).2.1 54 = .ok (.return_, 1) := by decide +kernel
theorem d_46_0 : decode (g_m 46).2.1 0 = .ok (.aload_n 0, 1) := by decide +kernel
theorem d_46_1 : decode (g_m 46).2.1 1 = .ok (.iconst 0, 1) := by decide +kernel
theorem d_46_2 : decode (g_m 46).2.1 2 = .ok (.putfield 29, 3) := by decide +kernel
theorem d_46_5 : decode (g_m 46).2.1 5 = .ok (.aload_n 0, 1) := by decide +kernel
theorem d_46_6 : decode (g_m 46).2.1 6 = .ok (.getfield 51, 3) := by decide +kernel
theorem d_46_9 : decode (g_m 46).2.1 9 = .ok (.invokevirtual 91, 3) := by decide +kernel
theorem d_46_12 : decode (g_m 46).2.1 12 = .ok (.aload_n 0, 1) := by decide +kernel
theorem d_46_13 : decode (g_m 46).2.1 13 = .ok (.getfield 19, 3) := by decide +kernel
theorem d_46_16 : decode (g_m 46).2.1 16 = .ok (.bipush (-2), 2) := by decide +kernel
theorem d_46_18 : decode (g_m 46).2.1 18 = .ok (.if_icmp .eq (28), 3) := by decide +kernel
theorem d_46_21 : decode (g_m 46).2.1 21 = .ok (.aload_n 0, 1) := by decide +kernel
theorem d_46_22 : decode (g_m 46).2.1 22 = .ok (.aload_n 0, 1) := by decide +kernel
theorem d_46_23 : decode (g_m 46).2.1 23 = .ok (.aload_n 0, 1) := by decide +kernel
theorem d_46_24 : decode (g_m 46).2.1 24 = .ok (.getfield 19, 3) := by decide +kernel
theorem d_46_27 : decode (g_m 46).2.1 27 = .ok (.invokevirtual 75, 3) := by decide +kernel
theorem d_46_30 : decode (g_m 46).2.1 30 = .ok (.iconst 0, 1) := by decide +kernel
theorem d_46_31 : decode (g_m 46).2.1 31 = .ok (.bipush 100, 2) := by decide +kernel
theorem d_46_33 : decode (g_m 46).2.1 33 = .ok (.invokevirtual 79, 3) := by decide +kernel
theorem d_46_36 : decode (g_m 46).2.1 36 = .ok (.istore_n 2, 1) := by decide +kernel
theorem d_46_37 : decode (g_m 46).2.1 37 = .ok (.aload_n 0, 1) := by decide +kernel
theorem d_46_38 : decode (g_m 46).2.1 38 = .ok (.iload_n 2, 1) := by decide +kernel
theorem d_46_39 : decode (g_m 46).2.1 39 = .ok (.iconst 0, 1) := by decide +kernel
theorem d_46_40 : decode (g_m 46).2.1 40 = .ok (.iload_n 1, 1) := by decide +kernel
theorem d_46_41 : decode (g_m 46).2.1 41 = .ok (.bipush 100, 2) := by decide +kernel
theorem d_46_43 : decode (g_m 46).2.1 43 = .ok (.invokevirtual 94, 3) := by decide +kernel
theorem d_46_46 : decode (g_m 46).2.1 46 = .ok (.return_, 1) := by decide +kernel
theorem d_58_0 : decode (g_m 58).2.1 0 = .ok (.aload_n 0, 1) := by decide +kernel
theorem d_58_1 : decode (g_m 58).2.1 1 = .ok (.getfield 19, 3) := by decide +kernel
theorem d_58_4 : decode (g_m 58).2.1 4 = .ok (.bipush (-2), 2) := by decide +kernel
theorem d_58_6 : decode (g_m 58).2.1 6 = .ok (.if_icmp .ne (5), 3) := by decide +kernel
theorem d_58_9 : decode (g_m 58).2.1 9 = .ok (.iconst 0, 1) := by decide +kernel
theorem d_58_10 : decode (g_m 58).2.1 10 = .ok (.ireturn, 1) := by decide +kernel
theorem d_58_11 : decode (g_m 58).2.1 11 = .ok (.aload_n 0, 1) := by decide +kernel
theorem d_58_12 : decode (g_m 58).2.1 12 = .ok (.invokevirtual 98, 3) := by decide +kernel
theorem d_58_15 : decode (g_m 58).2.1 15 = .ok (.aload_n 0, 1) := by decide +kernel
theorem d_58_16 : decode (g_m 58).2.1 16 = .ok (.getfield 39, 3) := by decide +kernel
theorem d_58_19 : decode (g_m 58).2.1 19 = .ok (.aload_n 0, 1) := by decide +kernel
theorem d_58_20 : decode (g_m 58).2.1 20 = .ok (.getfield 19, 3) := by decide +kernel
theorem d_58_23 : decode (g_m 58).2.1 23 = .ok (.iconst 1, 1) := by decide +kernel
theorem d_58_24 : decode (g_m 58).2.1 24 = .ok (.bastore, 1) := by decide +kernel
theorem d_58_25 : decode (g_m 58).2.1 25 = .ok (.aload_n 0, 1) := by decide +kernel
theorem d_58_26 : decode (g_m 58).2.1 26 = .ok (.getfield 43, 3) := by decide +kernel
theorem d_58_29 : decode (g_m 58).2.1 29 = .ok (.iconst 0, 1) := by decide +kernel
theorem d_58_30 : decode (g_m 58).2.1 30 = .ok (.aload_n 0, 1) := by decide +kernel
theorem d_58_31 : decode (g_m 58).2.1 31 = .ok (.getfield 19, 3) := by decide +kernel
theorem d_58_34 : decode (g_m 58).2.1 34 = .ok (.iastore, 1) := by decide +kernel
theorem d_58_35 : decode (g_m 58).2.1 35 = .ok (.iconst 1, 1) := by decide +kernel
theorem d_58_36 : decode (g_m 58).2.1 36 = .ok (.istore_n 1, 1) := by decide +kernel
theorem d_58_37 : decode (g_m 58).2.1 37 = .ok (.iconst 0, 1) := by decide +kernel
theorem d_58_38 : decode (g_m 58).2.1 38 = .ok (.istore_n 2, 1) := by decide +kernel
theorem d_58_39 : decode (g_m 58).2.1 39 = .ok (.iload_n 2, 1) := by decide +kernel
theorem d_58_40 : decode (g_m 58).2.1 40 = .ok (.iload_n 1, 1) := by decide +kernel
theorem d_58_41 : decode (g_m 58).2.1 41 = .ok (.if_icmp .ge (30), 3) := by decide +kernel
theorem d_58_44 : decode (g_m 58).2.1 44 = .ok (.iload_n 2, 1) := by decide +kernel
theorem d_58_45 : decode (g_m 58).2.1 45 = .ok (.aload_n 0, 1) := by decide +kernel
theorem d_58_46 : decode (g_m 58).2.1 46 = .ok (.getfield 43, 3) := by decide +kernel
theorem d_58_49 : decode (g_m 58).2.1 49 = .ok (.arraylength, 1) := by decide +kernel
theorem d_58_50 : decode (g_m 58).2.1 50 = .ok (.if_icmp .ge (21), 3) := by decide +kernel
theorem d_58_53 : decode (g_m 58).2.1 53 = .ok (.aload_n 0, 1) := by decide +kernel
theorem d_58_54 : decode (g_m 58).2.1 54 = .ok (.aload_n 0, 1) := by decide +kernel
theorem d_58_55 : decode (g_m 58).2.1 55 = .ok (.getfield 43, 3) := by decide +kernel
theorem d_58_58 : decode (g_m 58).2.1 58 = .ok (.iload_n 2, 1) := by decide +kernel
theorem d_58_59 : decode (g_m 58).2.1 59 = .ok (.iaload, 1) := by decide +kernel
theorem d_58_60 : decode (g_m 58).2.1 60 = .ok (.iload_n 1, 1) := by decide +kernel
theorem d_58_61 : decode (g_m 58).2.1 61 = .ok (.invokevirtual 101, 3) := by decide +kernel
theorem d_58_64 : decode (g_m 58).2.1 64 = .ok (.istore_n 1, 1) := by decide +kernel
theorem d_58_65 : decode (g_m 58).2.1 65 = .ok (.iinc 2 1, 3) := by decide +kernel
theorem d_58_68 : decode (g_m 58).2.1 68 = .ok (.goto (-29), 3) := by decide +kernel
theorem d_58_71 : decode (g_m 58).2.1 71 = .ok (.iload_n 1, 1) := by decide +kernel
theorem d_58_72 : decode (g_m 58).2.1 72 = .ok (.ireturn, 1) := by decide +kernel
theorem d_59_0 : decode (g_m 59).2.1 0 = .ok (.iload_n 2, 1) := by decide +kernel
theorem d_59_1 : decode (g_m 59).2.1 1 = .ok (.istore_n 3, 1) := by decide +kernel
theorem d_59_2 : decode (g_m 59).2.1 2 = .ok (.aload_n 0, 1) := by decide +kernel
theorem d_59_3 : decode (g_m 59).2.1 3 = .ok (.iload_n 1, 1) := by decide +kernel
theorem d_59_4 : decode (g_m 59).2.1 4 = .ok (.iconst 0, 1) := by decide +kernel
theorem d_59_5 : decode (g_m 59).2.1 5 = .ok (.invokevirtual 104, 3) := by decide +kernel
theorem d_59_8 : decode (g_m 59).2.1 8 = .ok (.istore 4, 2) := by decide +kernel
theorem d_59_10 : decode (g_m 59).2.1 10 = .ok (.iconst 0, 1) := by decide +kernel
theorem d_59_11 : decode (g_m 59).2.1 11 = .ok (.istore 5, 2) := by decide +kernel
theorem d_59_13 : decode (g_m 59).2.1 13 = .ok (.iload 5, 2) := by decide +kernel
theorem d_59_15 : decode (g_m 59).2.1 15 = .ok (.iload 4, 2) := by decide +kernel
theorem d_59_17 : decode (g_m 59).2.1 17 = .ok (.if_icmp .ge (57), 3) := by decide +kernel
theorem d_59_20 : decode (g_m 59).2.1 20 = .ok (.aload_n 0, 1) := by decide +kernel
theorem d_59_21 : decode (g_m 59).2.1 21 = .ok (.iload_n 1, 1) := by decide +kernel
theorem d_59_22 : decode (g_m 59).2.1 22 = .ok (.iconst 0, 1) := by decide +kernel
theorem d_59_23 : decode (g_m 59).2.1 23 = .ok (.iload 5, 2) := by decide +kernel
theorem d_59_25 : decode (g_m 59).2.1 25 = .ok (.invokevirtual 107, 3) := by decide +kernel
theorem d_59_28 : decode (g_m 59).2.1 28 = .ok (.istore 6, 2) := by decide +kernel
theorem d_59_30 : decode (g_m 59).2.1 30 = .ok (.aload_n 0, 1) := by decide +kernel
theorem d_59_31 : decode (g_m 59).2.1 31 = .ok (.getfield 39, 3) := by decide +kernel
theorem d_59_34 : decode (g_m 59).2.1 34 = .ok (.iload 6, 2) := by decide +kernel
theorem d_59_36 : decode (g_m 59).2.1 36 = .ok (.baload, 1) := by decide +kernel
theorem d_59_37 : decode (g_m 59).2.1 37 = .ok (.ifCond .ne (31), 3) := by decide +kernel
theorem d_59_40 : decode (g_m 59).2.1 40 = .ok (.iload_n 3, 1) := by decide +kernel
theorem d_59_41 : decode (g_m 59).2.1 41 = .ok (.aload_n 0, 1) := by decide +kernel
theorem d_59_42 : decode (g_m 59).2.1 42 = .ok (.getfield 43, 3) := by decide +kernel
theorem d_59_45 : decode (g_m 59).2.1 45 = .ok (.arraylength, 1) := by decide +kernel
theorem d_59_46 : decode (g_m 59).2.1 46 = .ok (.if_icmp .ge (22), 3) := by decide +kernel
theorem d_59_49 : decode (g_m 59).2.1 49 = .ok (.aload_n 0, 1) := by decide +kernel
theorem d_59_50 : decode (g_m 59).2.1 50 = .ok (.getfield 39, 3) := by decide +kernel
theorem d_59_53 : decode (g_m 59).2.1 53 = .ok (.iload 6, 2) := by decide +kernel
theorem d_59_55 : decode (g_m 59).2.1 55 = .ok (.iconst 1, 1) := by decide +kernel
theorem d_59_56 : decode (g_m 59).2.1 56 = .ok (.bastore, 1) := by decide +kernel
theorem d_59_57 : decode (g_m 59).2.1 57 = .ok (.aload_n 0, 1) := by decide +kernel
theorem d_59_58 : decode (g_m 59).2.1 58 = .ok (.getfield 43, 3) := by decide +kernel
theorem d_59_61 : decode (g_m 59).2.1 61 = .ok (.iload_n 3, 1) := by decide +kernel
theorem d_59_62 : decode (g_m 59).2.1 62 = .ok (.iload 6, 2) := by decide +kernel
theorem d_59_64 : decode (g_m 59).2.1 64 = .ok (.iastore, 1) := by decide +kernel
theorem d_59_65 : decode (g_m 59).2.1 65 = .ok (.iinc 3 1, 3) := by decide +kernel
theorem d_59_68 : decode (g_m 59).2.1 68 = .ok (.iinc 5 1, 3) := by decide +kernel
theorem d_59_71 : decode (g_m 59).2.1 71 = .ok (.goto (-58), 3) := by decide +kernel
theorem d_59_74 : decode (g_m 59).2.1 74 = .ok (.iload_n 3, 1) := by decide +kernel
theorem d_59_75 : decode (g_m 59).2.1 75 = .ok (.ireturn, 1) := by decide +kernel
end
section
theorem d_3_0 : decode (g_m 3).2.1 0 = .ok (.aload_n 0, 1) := by decide +kernel
theorem d_3_1 : decode (g_m 3).2.1 1 = .ok (.invokespecial 3, 3) := by decide +kernel
theorem d_3_4 : decode (g_m 3).2.1 4 = .ok (.aload_n 0, 1) := by decide +kernel
theorem d_3_5 : decode (g_m 3).2.1 5 = .ok (.iconst 1, 1) := by decide +kernel
theorem d_3_6 : decode (g_m 3).2.1 6 = .ok (.iload_n 1, 1) := by decide +kernel
theorem d_3_7 : decode (g_m 3).2.1 7 = .ok (.invokestatic 9, 3) := by decide +kernel
theorem d_3_10 : decode (g_m 3).2.1 10 = .ok (.newarray .int, 2) := by decide +kernel
theorem d_3_12 : decode (g_m 3).2.1 12 = .ok (.putfield 15, 3) := by decide +kernel
theorem d_3_15 : decode (g_m 3).2.1 15 = .ok (.aload_n 0, 1) := by decide +kernel
theorem d_3_16 : decode (g_m 3).2.1 16 = .ok (.iconst 0, 1) := by decide +kernel
theorem d_3_17 : decode (g_m 3).2.1 17 = .ok (.putfield 21, 3) := by decide +kernel
theorem d_3_20 : decode (g_m 3).2.1 20 = .ok (.return_, 1) := by decide +kernel
theorem d_14_0 : decode (g_m 14).2.1 0 = .ok (.aload_n 0, 1) := by decide +kernel
theorem d_14_1 : decode (g_m 14).2.1 1 = .ok (.iconst 0, 1) := by decide +kernel
theorem d_14_2 : decode (g_m 14).2.1 2 = .ok (.putfield 21, 3) := by decide +kernel
theorem d_14_5 : decode (g_m 14).2.1 5 = .ok (.return_, 1) := by decide +kernel
theorem d_17_0 : decode (g_m 17).2.1 0 = .ok (.aload_n 0, 1) := by decide +kernel
theorem d_17_1 : decode (g_m 17).2.1 1 = .ok (.getfield 21, 3) := by decide +kernel
theorem d_17_4 : decode (g_m 17).2.1 4 = .ok (.ifCond .le (27), 3) := by decide +kernel
theorem d_17_7 : decode (g_m 17).2.1 7 = .ok (.aload_n 0, 1) := by decide +kernel
theorem d_17_8 : decode (g_m 17).2.1 8 = .ok (.getfield 15, 3) := by decide +kernel
theorem d_17_11 : decode (g_m 17).2.1 11 = .ok (.aload_n 0, 1) := by decide +kernel
theorem d_17_12 : decode (g_m 17).2.1 12 = .ok (.getfield 21, 3) := by decide +kernel
theorem d_17_15 : decode (g_m 17).2.1 15 = .ok (.iconst 1, 1) := by decide +kernel
theorem d_17_16 : decode (g_m 17).2.1 16 = .ok (.isub, 1) := by decide +kernel
theorem d_17_17 : decode (g_m 17).2.1 17 = .ok (.iaload, 1) := by decide +kernel
theorem d_17_18 : decode (g_m 17).2.1 18 = .ok (.iload_n 2, 1) := by decide +kernel
theorem d_17_19 : decode (g_m 17).2.1 19 = .ok (.bipush 100, 2) := by decide +kernel
theorem d_17_21 : decode (g_m 17).2.1 21 = .ok (.imul, 1) := by decide +kernel
theorem d_17_22 : decode (g_m 17).2.1 22 = .ok (.iload_n 1, 1) := by decide +kernel
theorem d_17_23 : decode (g_m 17).2.1 23 = .ok (.iadd, 1) := by decide +kernel
theorem d_17_24 : decode (g_m 17).2.1 24 = .ok (.if_icmp .ge (7), 3) := by decide +kernel
theorem d_17_27 : decode (g_m 17).2.1 27 = .ok (.iconst 1, 1) := by decide +kernel
theorem d_17_28 : decode (g_m 17).2.1 28 = .ok (.goto (4), 3) := by decide +kernel
theorem d_17_31 : decode (g_m 17).2.1 31 = .ok (.iconst 0, 1) := by decide +kernel
theorem d_17_32 : decode (g_m 17).2.1 32 = .ok (.ireturn, 1) := by decide +kernel
theorem d_18_0 : decode (g_m 18).2.1 0 = .ok (.aload_n 0, 1) := by decide +kernel
theorem d_18_1 : decode (g_m 18).2.1 1 = .ok (.getfield 21, 3) := by decide +kernel
theorem d_18_4 : decode (g_m 18).2.1 4 = .ok (.aload_n 0, 1) := by decide +kernel
theorem d_18_5 : decode (g_m 18).2.1 5 = .ok (.getfield 15, 3) := by decide +kernel
theorem d_18_8 : decode (g_m 18).2.1 8 = .ok (.arraylength, 1) := by decide +kernel
theorem d_18_9 : decode (g_m 18).2.1 9 = .ok (.if_icmp .lt (4), 3) := by decide +kernel
theorem d_18_12 : decode (g_m 18).2.1 12 = .ok (.return_, 1) := by decide +kernel
theorem d_18_13 : decode (g_m 18).2.1 13 = .ok (.iload_n 2, 1) := by decide +kernel
theorem d_18_14 : decode (g_m 18).2.1 14 = .ok (.bipush 100, 2) := by decide +kernel
theorem d_18_16 : decode (g_m 18).2.1 16 = .ok (.imul, 1) := by decide +kernel
theorem d_18_17 : decode (g_m 18).2.1 17 = .ok (.iload_n 1, 1) := by decide +kernel
theorem d_18_18 : decode (g_m 18).2.1 18 = .ok (.iadd, 1) := by decide +kernel
theorem d_18_19 : decode (g_m 18).2.1 19 = .ok (.istore_n 3, 1) := by decide +kernel
theorem d_18_20 : decode (g_m 18).2.1 20 = .ok (.aload_n 0, 1) := by decide +kernel
theorem d_18_21 : decode (g_m 18).2.1 21 = .ok (.getfield 21, 3) := by decide +kernel
theorem d_18_24 : decode (g_m 18).2.1 24 = .ok (.istore 4, 2) := by decide +kernel
theorem d_18_26 : decode (g_m 18).2.1 26 = .ok (.iload 4, 2) := by decide +kernel
theorem d_18_28 : decode (g_m 18).2.1 28 = .ok (.ifCond .le (38), 3) := by decide +kernel
theorem d_18_31 : decode (g_m 18).2.1 31 = .ok (.aload_n 0, 1) := by decide +kernel
theorem d_18_32 : decode (g_m 18).2.1 32 = .ok (.getfield 15, 3) := by decide +kernel
theorem d_18_35 : decode (g_m 18).2.1 35 = .ok (.iload 4, 2) := by decide +kernel
theorem d_18_37 : decode (g_m 18).2.1 37 = .ok (.iconst 1, 1) := by decide +kernel
theorem d_18_38 : decode (g_m 18).2.1 38 = .ok (.isub, 1) := by decide +kernel
theorem d_18_39 : decode (g_m 18).2.1 39 = .ok (.iaload, 1) := by decide +kernel
theorem d_18_40 : decode (g_m 18).2.1 40 = .ok (.iload_n 3, 1) := by decide +kernel
theorem d_18_41 : decode (g_m 18).2.1 41 = .ok (.if_icmp .le (25), 3) := by decide +kernel
theorem d_18_44 : decode (g_m 18).2.1 44 = .ok (.aload_n 0, 1) := by decide +kernel
theorem d_18_45 : decode (g_m 18).2.1 45 = .ok (.getfield 15, 3) := by decide +kernel
theorem d_18_48 : decode (g_m 18).2.1 48 = .ok (.iload 4, 2) := by decide +kernel
theorem d_18_50 : decode (g_m 18).2.1 50 = .ok (.aload_n 0, 1) := by decide +kernel
theorem d_18_51 : decode (g_m 18).2.1 51 = .ok (.getfield 15, 3) := by decide +kernel
theorem d_18_54 : decode (g_m 18).2.1 54 = .ok (.iload 4, 2) := by decide +kernel
theorem d_18_56 : decode (g_m 18).2.1 56 = .ok (.iconst 1, 1) := by decide +kernel
theorem d_18_57 : decode (g_m 18).2.1 57 = .ok (.isub, 1) := by decide +kernel
theorem d_18_58 : decode (g_m 18).2.1 58 = .ok (.iaload, 1) := by decide +kernel
theorem d_18_59 : decode (g_m 18).2.1 59 = .ok (.iastore, 1) := by decide +kernel
theorem d_18_60 : decode (g_m 18).2.1 60 = .ok (.iinc 4 (-1), 3) := by decide +kernel
theorem d_18_63 : decode (g_m 18).2.1 63 = .ok (.goto (-37), 3) := by decide +kernel
theorem d_18_66 : decode (g_m 18).2.1 66 = .ok (.aload_n 0, 1) := by decide +kernel
theorem d_18_67 : decode (g_m 18).2.1 67 = .ok (.getfield 15, 3) := by decide +kernel
theorem d_18_70 : decode (g_m 18).2.1 70 = .ok (.iload 4, 2) := by decide +kernel
theorem d_18_72 : decode (g_m 18).2.1 72 = .ok (.iload_n 3, 1) := by decide +kernel
theorem d_18_73 : decode (g_m 18).2.1 73 = .ok (.iastore, 1) := by decide +kernel
theorem d_18_74 : decode (g_m 18).2.1 74 = .ok (.aload_n 0, 1) := by decide +kernel
theorem d_18_75 : decode (g_m 18).2.1 75 = .ok (.dup, 1) := by decide +kernel
theorem d_18_76 : decode (g_m 18).2.1 76 = .ok (.getfield 21, 3) := by decide +kernel
theorem d_18_79 : decode (g_m 18).2.1 79 = .ok (.iconst 1, 1) := by decide +kernel
theorem d_18_80 : decode (g_m 18).2.1 80 = .ok (.iadd, 1) := by decide +kernel
theorem d_18_81 : decode (g_m 18).2.1 81 = .ok (.putfield 21, 3) := by decide +kernel
theorem d_18_84 : decode (g_m 18).2.1 84 = .ok (.return_, 1) := by decide +kernel
theorem d_19_0 : decode (g_m 19).2.1 0 = .ok (.aload_n 0, 1) := by decide +kernel
theorem d_19_1 : decode (g_m 19).2.1 1 = .ok (.iconst 0, 1) := by decide +kernel
theorem d_19_2 : decode (g_m 19).2.1 2 = .ok (.aload_n 0, 1) := by decide +kernel
theorem d_19_3 : decode (g_m 19).2.1 3 = .ok (.getfield 21, 3) := by decide +kernel
theorem d_19_6 : decode (g_m 19).2.1 6 = .ok (.iload_n 1, 1) := by decide +kernel
theorem d_19_7 : decode (g_m 19).2.1 7 = .ok (.invokestatic 31, 3) := by decide +kernel
theorem d_19_10 : decode (g_m 19).2.1 10 = .ok (.invokestatic 9, 3) := by decide +kernel
theorem d_19_13 : decode (g_m 19).2.1 13 = .ok (.putfield 21, 3) := by decide +kernel
theorem d_19_16 : decode (g_m 19).2.1 16 = .ok (.return_, 1) := by decide +kernel
theorem d_20_0 : decode (g_m 20).2.1 0 = .ok (.iload_n 1, 1) := by decide +kernel
theorem d_20_1 : decode (g_m 20).2.1 1 = .ok (.ifCond .lt (23), 3) := by decide +kernel
theorem d_20_4 : decode (g_m 20).2.1 4 = .ok (.iload_n 1, 1) := by decide +kernel
theorem d_20_5 : decode (g_m 20).2.1 5 = .ok (.aload_n 0, 1) := by decide +kernel
theorem d_20_6 : decode (g_m 20).2.1 6 = .ok (.getfield 21, 3) := by decide +kernel
theorem d_20_9 : decode (g_m 20).2.1 9 = .ok (.if_icmp .ge (15), 3) := by decide +kernel
theorem d_20_12 : decode (g_m 20).2.1 12 = .ok (.aload_n 0, 1) := by decide +kernel
theorem d_20_13 : decode (g_m 20).2.1 13 = .ok (.getfield 15, 3) := by decide +kernel
theorem d_20_16 : decode (g_m 20).2.1 16 = .ok (.iload_n 1, 1) := by decide +kernel
theorem d_20_17 : decode (g_m 20).2.1 17 = .ok (.iaload, 1) := by decide +kernel
theorem d_20_18 : decode (g_m 20).2.1 18 = .ok (.bipush 100, 2) := by decide +kernel
theorem d_20_20 : decode (g_m 20).2.1 20 = .ok (.irem, 1) := by decide +kernel
theorem d_20_21 : decode (g_m 20).2.1 21 = .ok (.goto (4), 3) := by decide +kernel
theorem d_20_24 : decode (g_m 20).2.1 24 = .ok (.iconst (-1), 1) := by decide +kernel
theorem d_20_25 : decode (g_m 20).2.1 25 = .ok (.ireturn, 1) := by decide +kernel
theorem d_21_0 : decode (g_m 21).2.1 0 = .ok (.iload_n 1, 1) := by decide +kernel
theorem d_21_1 : decode (g_m 21).2.1 1 = .ok (.ifCond .lt (23), 3) := by decide +kernel
theorem d_21_4 : decode (g_m 21).2.1 4 = .ok (.iload_n 1, 1) := by decide +kernel
theorem d_21_5 : decode (g_m 21).2.1 5 = .ok (.aload_n 0, 1) := by decide +kernel
theorem d_21_6 : decode (g_m 21).2.1 6 = .ok (.getfield 21, 3) := by decide +kernel
theorem d_21_9 : decode (g_m 21).2.1 9 = .ok (.if_icmp .ge (15), 3) := by decide +kernel
theorem d_21_12 : decode (g_m 21).2.1 12 = .ok (.aload_n 0, 1) := by decide +kernel
theorem d_21_13 : decode (g_m 21).2.1 13 = .ok (.getfield 15, 3) := by decide +kernel
theorem d_21_16 : decode (g_m 21).2.1 16 = .ok (.iload_n 1, 1) := by decide +kernel
theorem d_21_17 : decode (g_m 21).2.1 17 = .ok (.iaload, 1) := by decide +kernel
theorem d_21_18 : decode (g_m 21).2.1 18 = .ok (.bipush 100, 2) := by decide +kernel
theorem d_21_20 : decode (g_m 21).2.1 20 = .ok (.idiv, 1) := by decide +kernel
theorem d_21_21 : decode (g_m 21).2.1 21 = .ok (.goto (4), 3) := by decide +kernel
theorem d_21_24 : decode (g_m 21).2.1 24 = .ok (.iconst (-1), 1) := by decide +kernel
theorem d_21_25 : decode (g_m 21).2.1 25 = .ok (.ireturn, 1) := by decide +kernel
theorem d_22_0 : decode (g_m 22).2.1 0 = .ok (.aload_n 0, 1) := by decide +kernel
theorem d_22_1 : decode (g_m 22).2.1 1 = .ok (.getfield 21, 3) := by decide +kernel
theorem d_22_4 : decode (g_m 22).2.1 4 = .ok (.ifCond .le (30), 3) := by decide +kernel
theorem d_22_7 : decode (g_m 22).2.1 7 = .ok (.aload_n 0, 1) := by decide +kernel
theorem d_22_8 : decode (g_m 22).2.1 8 = .ok (.dup, 1) := by decide +kernel
theorem d_22_9 : decode (g_m 22).2.1 9 = .ok (.getfield 21, 3) := by decide +kernel
theorem d_22_12 : decode (g_m 22).2.1 12 = .ok (.iconst 1, 1) := by decide +kernel
theorem d_22_13 : decode (g_m 22).2.1 13 = .ok (.isub, 1) := by decide +kernel
theorem d_22_14 : decode (g_m 22).2.1 14 = .ok (.putfield 21, 3) := by decide +kernel
theorem d_22_17 : decode (g_m 22).2.1 17 = .ok (.aload_n 0, 1) := by decide +kernel
theorem d_22_18 : decode (g_m 22).2.1 18 = .ok (.getfield 15, 3) := by decide +kernel
theorem d_22_21 : decode (g_m 22).2.1 21 = .ok (.iconst 1, 1) := by decide +kernel
theorem d_22_22 : decode (g_m 22).2.1 22 = .ok (.aload_n 0, 1) := by decide +kernel
theorem d_22_23 : decode (g_m 22).2.1 23 = .ok (.getfield 15, 3) := by decide +kernel
theorem d_22_26 : decode (g_m 22).2.1 26 = .ok (.iconst 0, 1) := by decide +kernel
theorem d_22_27 : decode (g_m 22).2.1 27 = .ok (.aload_n 0, 1) := by decide +kernel
theorem d_22_28 : decode (g_m 22).2.1 28 = .ok (.getfield 21, 3) := by decide +kernel
theorem d_22_31 : decode (g_m 22).2.1 31 = .ok (.invokestatic 25, 3) := by decide +kernel
theorem d_22_34 : decode (g_m 22).2.1 34 = .ok (.return_, 1) := by decide +kernel
theorem d_29_0 : decode (g_m 29).2.1 0 = .ok (.iload_n 2, 1) := by decide +kernel
theorem d_29_1 : decode (g_m 29).2.1 1 = .ok (.ifCond .lt (28), 3) := by decide +kernel
theorem d_29_4 : decode (g_m 29).2.1 4 = .ok (.iload_n 2, 1) := by decide +kernel
theorem d_29_5 : decode (g_m 29).2.1 5 = .ok (.iload_n 1, 1) := by decide +kernel
theorem d_29_6 : decode (g_m 29).2.1 6 = .ok (.if_icmp .gt (23), 3) := by decide +kernel
theorem d_29_9 : decode (g_m 29).2.1 9 = .ok (.iload_n 1, 1) := by decide +kernel
theorem d_29_10 : decode (g_m 29).2.1 10 = .ok (.aload_n 0, 1) := by decide +kernel
theorem d_29_11 : decode (g_m 29).2.1 11 = .ok (.getfield 21, 3) := by decide +kernel
theorem d_29_14 : decode (g_m 29).2.1 14 = .ok (.if_icmp .ge (15), 3) := by decide +kernel
theorem d_29_17 : decode (g_m 29).2.1 17 = .ok (.aload_n 0, 1) := by decide +kernel
theorem d_29_18 : decode (g_m 29).2.1 18 = .ok (.getfield 15, 3) := by decide +kernel
theorem d_29_21 : decode (g_m 29).2.1 21 = .ok (.iload_n 2, 1) := by decide +kernel
theorem d_29_22 : decode (g_m 29).2.1 22 = .ok (.aload_n 0, 1) := by decide +kernel
theorem d_29_23 : decode (g_m 29).2.1 23 = .ok (.getfield 15, 3) := by decide +kernel
theorem d_29_26 : decode (g_m 29).2.1 26 = .ok (.iload_n 1, 1) := by decide +kernel
theorem d_29_27 : decode (g_m 29).2.1 27 = .ok (.iaload, 1) := by decide +kernel
theorem d_29_28 : decode (g_m 29).2.1 28 = .ok (.iastore, 1) := by decide +kernel
theorem d_29_29 : decode (g_m 29).2.1 29 = .ok (.return_, 1) := by decide +kernel
theorem d_49_0 : decode (g_m 49).2.1 0 = .ok (.iconst 0, 1) := by decide +kernel
theorem d_49_1 : decode (g_m 49).2.1 1 = .ok (.istore_n 2, 1) := by decide +kernel
theorem d_49_2 : decode (g_m 49).2.1 2 = .ok (.iload_n 2, 1) := by decide +kernel
theorem d_49_3 : decode (g_m 49).2.1 3 = .ok (.aload_n 0, 1) := by decide +kernel
theorem d_49_4 : decode (g_m 49).2.1 4 = .ok (.getfield 21, 3) := by decide +kernel
theorem d_49_7 : decode (g_m 49).2.1 7 = .ok (.if_icmp .ge (24), 3) := by decide +kernel
theorem d_49_10 : decode (g_m 49).2.1 10 = .ok (.aload_n 0, 1) := by decide +kernel
theorem d_49_11 : decode (g_m 49).2.1 11 = .ok (.getfield 15, 3) := by decide +kernel
theorem d_49_14 : decode (g_m 49).2.1 14 = .ok (.iload_n 2, 1) := by decide +kernel
theorem d_49_15 : decode (g_m 49).2.1 15 = .ok (.iaload, 1) := by decide +kernel
theorem d_49_16 : decode (g_m 49).2.1 16 = .ok (.bipush 100, 2) := by decide +kernel
theorem d_49_18 : decode (g_m 49).2.1 18 = .ok (.irem, 1) := by decide +kernel
theorem d_49_19 : decode (g_m 49).2.1 19 = .ok (.iload_n 1, 1) := by decide +kernel
theorem d_49_20 : decode (g_m 49).2.1 20 = .ok (.if_icmp .ne (5), 3) := by decide +kernel
theorem d_49_23 : decode (g_m 49).2.1 23 = .ok (.iconst 1, 1) := by decide +kernel
theorem d_49_24 : decode (g_m 49).2.1 24 = .ok (.ireturn, 1) := by decide +kernel
theorem d_49_25 : decode (g_m 49).2.1 25 = .ok (.iinc 2 1, 3) := by decide +kernel
theorem d_49_28 : decode (g_m 49).2.1 28 = .ok (.goto (-26), 3) := by decide +kernel
theorem d_49_31 : decode (g_m 49).2.1 31 = .ok (.iconst 0, 1) := by decide +kernel
theorem d_49_32 : decode (g_m 49).2.1 32 = .ok (.ireturn, 1) := by decide +kernel
end
section
theorem d_1_0 : decode (g_m 1).2.1 0 = .ok (.aload_n 0, 1) := by decide +kernel
theorem d_1_1 : decode (g_m 1).2.1 1 = .ok (.invokespecial 3, 3) := by decide +kernel
theorem d_1_4 : decode (g_m 1).2.1 4 = .ok (.aload_n 0, 1) := by decide +kernel
theorem d_1_5 : decode (g_m 1).2.1 5 = .ok (.iload_n 1, 1) := by decide +kernel
theorem d_1_6 : decode (g_m 1).2.1 6 = .ok (.putfield 9, 3) := by decide +kernel
theorem d_1_9 : decode (g_m 1).2.1 9 = .ok (.aload_n 0, 1) := by decide +kernel
theorem d_1_10 : decode (g_m 1).2.1 10 = .ok (.bipush 100, 2) := by decide +kernel
theorem d_1_12 : decode (g_m 1).2.1 12 = .ok (.newarray .boolean, 2) := by decide +kernel
theorem d_1_14 : decode (g_m 1).2.1 14 = .ok (.putfield 15, 3) := by decide +kernel
theorem d_1_17 : decode (g_m 1).2.1 17 = .ok (.aload_n 0, 1) := by decide +kernel
theorem d_1_18 : decode (g_m 1).2.1 18 = .ok (.bipush 100, 2) := by decide +kernel
theorem d_1_20 : decode (g_m 1).2.1 20 = .ok (.newarray .boolean, 2) := by decide +kernel
theorem d_1_22 : decode (g_m 1).2.1 22 = .ok (.putfield 19, 3) := by decide +kernel
theorem d_1_25 : decode (g_m 1).2.1 25 = .ok (.aload_n 0, 1) := by decide +kernel
theorem d_1_26 : decode (g_m 1).2.1 26 = .ok (.bipush 101, 2) := by decide +kernel
theorem d_1_28 : decode (g_m 1).2.1 28 = .ok (.iload_n 1, 1) := by decide +kernel
theorem d_1_29 : decode (g_m 1).2.1 29 = .ok (.imul, 1) := by decide +kernel
theorem d_1_30 : decode (g_m 1).2.1 30 = .ok (.newarray .int, 2) := by decide +kernel
theorem d_1_32 : decode (g_m 1).2.1 32 = .ok (.putfield 22, 3) := by decide +kernel
theorem d_1_35 : decode (g_m 1).2.1 35 = .ok (.aload_n 0, 1) := by decide +kernel
theorem d_1_36 : decode (g_m 1).2.1 36 = .ok (.iconst 0, 1) := by decide +kernel
theorem d_1_37 : decode (g_m 1).2.1 37 = .ok (.putfield 26, 3) := by decide +kernel
theorem d_1_40 : decode (g_m 1).2.1 40 = .ok (.aload_n 0, 1) := by decide +kernel
theorem d_1_41 : decode (g_m 1).2.1 41 = .ok (.iconst 0, 1) := by decide +kernel
theorem d_1_42 : decode (g_m 1).2.1 42 = .ok (.putfield 29, 3) := by decide +kernel
theorem d_1_45 : decode (g_m 1).2.1 45 = .ok (.return_, 1) := by decide +kernel
theorem d_5_0 : decode (g_m 5).2.1 0 = .ok (.bipush 100, 2) := by decide +kernel
theorem d_5_2 : decode (g_m 5).2.1 2 = .ok (.aload_n 0, 1) := by decide +kernel
theorem d_5_3 : decode (g_m 5).2.1 3 = .ok (.getfield 9, 3) := by decide +kernel
theorem d_5_6 : decode (g_m 5).2.1 6 = .ok (.imul, 1) := by decide +kernel
theorem d_5_7 : decode (g_m 5).2.1 7 = .ok (.iload_n 1, 1) := by decide +kernel
theorem d_5_8 : decode (g_m 5).2.1 8 = .ok (.iadd, 1) := by decide +kernel
theorem d_5_9 : decode (g_m 5).2.1 9 = .ok (.istore_n 3, 1) := by decide +kernel
theorem d_5_10 : decode (g_m 5).2.1 10 = .ok (.aload_n 0, 1) := by decide +kernel
theorem d_5_11 : decode (g_m 5).2.1 11 = .ok (.getfield 22, 3) := by decide +kernel
theorem d_5_14 : decode (g_m 5).2.1 14 = .ok (.iload_n 3, 1) := by decide +kernel
theorem d_5_15 : decode (g_m 5).2.1 15 = .ok (.iaload, 1) := by decide +kernel
theorem d_5_16 : decode (g_m 5).2.1 16 = .ok (.istore 4, 2) := by decide +kernel
theorem d_5_18 : decode (g_m 5).2.1 18 = .ok (.aload_n 0, 1) := by decide +kernel
theorem d_5_19 : decode (g_m 5).2.1 19 = .ok (.getfield 22, 3) := by decide +kernel
theorem d_5_22 : decode (g_m 5).2.1 22 = .ok (.iload_n 3, 1) := by decide +kernel
theorem d_5_23 : decode (g_m 5).2.1 23 = .ok (.iload_n 2, 1) := by decide +kernel
theorem d_5_24 : decode (g_m 5).2.1 24 = .ok (.iastore, 1) := by decide +kernel
theorem d_5_25 : decode (g_m 5).2.1 25 = .ok (.iload 4, 2) := by decide +kernel
theorem d_5_27 : decode (g_m 5).2.1 27 = .ok (.ireturn, 1) := by decide +kernel
theorem d_7_0 : decode (g_m 7).2.1 0 = .ok (.aload_n 0, 1) := by decide +kernel
theorem d_7_1 : decode (g_m 7).2.1 1 = .ok (.getfield 26, 3) := by decide +kernel
theorem d_7_4 : decode (g_m 7).2.1 4 = .ok (.istore_n 1, 1) := by decide +kernel
theorem d_7_5 : decode (g_m 7).2.1 5 = .ok (.aload_n 0, 1) := by decide +kernel
theorem d_7_6 : decode (g_m 7).2.1 6 = .ok (.bipush 100, 2) := by decide +kernel
theorem d_7_8 : decode (g_m 7).2.1 8 = .ok (.iload_n 1, 1) := by decide +kernel
theorem d_7_9 : decode (g_m 7).2.1 9 = .ok (.invokevirtual 36, 3) := by decide +kernel
theorem d_7_12 : decode (g_m 7).2.1 12 = .ok (.aload_n 0, 1) := by decide +kernel
theorem d_7_13 : decode (g_m 7).2.1 13 = .ok (.getfield 15, 3) := by decide +kernel
theorem d_7_16 : decode (g_m 7).2.1 16 = .ok (.iload_n 1, 1) := by decide +kernel
theorem d_7_17 : decode (g_m 7).2.1 17 = .ok (.iconst 0, 1) := by decide +kernel
theorem d_7_18 : decode (g_m 7).2.1 18 = .ok (.bastore, 1) := by decide +kernel
theorem d_7_19 : decode (g_m 7).2.1 19 = .ok (.aload_n 0, 1) := by decide +kernel
theorem d_7_20 : decode (g_m 7).2.1 20 = .ok (.getfield 19, 3) := by decide +kernel
theorem d_7_23 : decode (g_m 7).2.1 23 = .ok (.iload_n 1, 1) := by decide +kernel
theorem d_7_24 : decode (g_m 7).2.1 24 = .ok (.iconst 0, 1) := by decide +kernel
theorem d_7_25 : decode (g_m 7).2.1 25 = .ok (.bastore, 1) := by decide +kernel
theorem d_7_26 : decode (g_m 7).2.1 26 = .ok (.aload_n 0, 1) := by decide +kernel
theorem d_7_27 : decode (g_m 7).2.1 27 = .ok (.dup, 1) := by decide +kernel
theorem d_7_28 : decode (g_m 7).2.1 28 = .ok (.getfield 26, 3) := by decide +kernel
theorem d_7_31 : decode (g_m 7).2.1 31 = .ok (.iconst 1, 1) := by decide +kernel
theorem d_7_32 : decode (g_m 7).2.1 32 = .ok (.iadd, 1) := by decide +kernel
theorem d_7_33 : decode (g_m 7).2.1 33 = .ok (.putfield 26, 3) := by decide +kernel
theorem d_7_36 : decode (g_m 7).2.1 36 = .ok (.iload_n 1, 1) := by decide +kernel
theorem d_7_37 : decode (g_m 7).2.1 37 = .ok (.ireturn, 1) := by decide +kernel
theorem d_8_0 : decode (g_m 8).2.1 0 = .ok (.aload_n 0, 1) := by decide +kernel
theorem d_8_1 : decode (g_m 8).2.1 1 = .ok (.getfield 22, 3) := by decide +kernel
theorem d_8_4 : decode (g_m 8).2.1 4 = .ok (.iload_n 1, 1) := by decide +kernel
theorem d_8_5 : decode (g_m 8).2.1 5 = .ok (.aload_n 0, 1) := by decide +kernel
theorem d_8_6 : decode (g_m 8).2.1 6 = .ok (.getfield 9, 3) := by decide +kernel
theorem d_8_9 : decode (g_m 8).2.1 9 = .ok (.imul, 1) := by decide +kernel
theorem d_8_10 : decode (g_m 8).2.1 10 = .ok (.aload_n 0, 1) := by decide +kernel
theorem d_8_11 : decode (g_m 8).2.1 11 = .ok (.getfield 22, 3) := by decide +kernel
theorem d_8_14 : decode (g_m 8).2.1 14 = .ok (.iload_n 2, 1) := by decide +kernel
theorem d_8_15 : decode (g_m 8).2.1 15 = .ok (.aload_n 0, 1) := by decide +kernel
theorem d_8_16 : decode (g_m 8).2.1 16 = .ok (.getfield 9, 3) := by decide +kernel
theorem d_8_19 : decode (g_m 8).2.1 19 = .ok (.imul, 1) := by decide +kernel
theorem d_8_20 : decode (g_m 8).2.1 20 = .ok (.aload_n 0, 1) := by decide +kernel
theorem d_8_21 : decode (g_m 8).2.1 21 = .ok (.getfield 9, 3) := by decide +kernel
theorem d_8_24 : decode (g_m 8).2.1 24 = .ok (.invokestatic 40, 3) := by decide +kernel
theorem d_8_27 : decode (g_m 8).2.1 27 = .ok (.return_, 1) := by decide +kernel
theorem d_16_0 : decode (g_m 16).2.1 0 = .ok (.iconst 0, 1) := by decide +kernel
theorem d_16_1 : decode (g_m 16).2.1 1 = .ok (.istore 4, 2) := by decide +kernel
theorem d_16_3 : decode (g_m 16).2.1 3 = .ok (.iconst 0, 1) := by decide +kernel
theorem d_16_4 : decode (g_m 16).2.1 4 = .ok (.istore 5, 2) := by decide +kernel
theorem d_16_6 : decode (g_m 16).2.1 6 = .ok (.iload 5, 2) := by decide +kernel
theorem d_16_8 : decode (g_m 16).2.1 8 = .ok (.aload_n 0, 1) := by decide +kernel
theorem d_16_9 : decode (g_m 16).2.1 9 = .ok (.getfield 9, 3) := by decide +kernel
theorem d_16_12 : decode (g_m 16).2.1 12 = .ok (.if_icmp .ge (117), 3) := by decide +kernel
theorem d_16_15 : decode (g_m 16).2.1 15 = .ok (.aload_n 0, 1) := by decide +kernel
theorem d_16_16 : decode (g_m 16).2.1 16 = .ok (.getfield 22, 3) := by decide +kernel
theorem d_16_19 : decode (g_m 16).2.1 19 = .ok (.iload_n 1, 1) := by decide +kernel
theorem d_16_20 : decode (g_m 16).2.1 20 = .ok (.aload_n 0, 1) := by decide +kernel
theorem d_16_21 : decode (g_m 16).2.1 21 = .ok (.getfield 9, 3) := by decide +kernel
theorem d_16_24 : decode (g_m 16).2.1 24 = .ok (.imul, 1) := by decide +kernel
theorem d_16_25 : decode (g_m 16).2.1 25 = .ok (.iload 5, 2) := by decide +kernel
theorem d_16_27 : decode (g_m 16).2.1 27 = .ok (.iadd, 1) := by decide +kernel
theorem d_16_28 : decode (g_m 16).2.1 28 = .ok (.iaload, 1) := by decide +kernel
theorem d_16_29 : decode (g_m 16).2.1 29 = .ok (.iload_n 3, 1) := by decide +kernel
theorem d_16_30 : decode (g_m 16).2.1 30 = .ok (.imul, 1) := by decide +kernel
theorem d_16_31 : decode (g_m 16).2.1 31 = .ok (.bipush 100, 2) := by decide +kernel
theorem d_16_33 : decode (g_m 16).2.1 33 = .ok (.idiv, 1) := by decide +kernel
theorem d_16_34 : decode (g_m 16).2.1 34 = .ok (.istore 6, 2) := by decide +kernel
theorem d_16_36 : decode (g_m 16).2.1 36 = .ok (.aload_n 0, 1) := by decide +kernel
theorem d_16_37 : decode (g_m 16).2.1 37 = .ok (.getfield 22, 3) := by decide +kernel
theorem d_16_40 : decode (g_m 16).2.1 40 = .ok (.iload_n 2, 1) := by decide +kernel
theorem d_16_41 : decode (g_m 16).2.1 41 = .ok (.aload_n 0, 1) := by decide +kernel
theorem d_16_42 : decode (g_m 16).2.1 42 = .ok (.getfield 9, 3) := by decide +kernel
theorem d_16_45 : decode (g_m 16).2.1 45 = .ok (.imul, 1) := by decide +kernel
theorem d_16_46 : decode (g_m 16).2.1 46 = .ok (.iload 5, 2) := by decide +kernel
theorem d_16_48 : decode (g_m 16).2.1 48 = .ok (.iadd, 1) := by decide +kernel
theorem d_16_49 : decode (g_m 16).2.1 49 = .ok (.iaload, 1) := by decide +kernel
theorem d_16_50 : decode (g_m 16).2.1 50 = .ok (.iload_n 3, 1) := by decide +kernel
theorem d_16_51 : decode (g_m 16).2.1 51 = .ok (.imul, 1) := by decide +kernel
theorem d_16_52 : decode (g_m 16).2.1 52 = .ok (.bipush 100, 2) := by decide +kernel
theorem d_16_54 : decode (g_m 16).2.1 54 = .ok (.idiv, 1) := by decide +kernel
theorem d_16_55 : decode (g_m 16).2.1 55 = .ok (.istore 7, 2) := by decide +kernel
theorem d_16_57 : decode (g_m 16).2.1 57 = .ok (.iload 6, 2) := by decide +kernel
theorem d_16_59 : decode (g_m 16).2.1 59 = .ok (.iload 7, 2) := by decide +kernel
theorem d_16_61 : decode (g_m 16).2.1 61 = .ok (.isub, 1) := by decide +kernel
theorem d_16_62 : decode (g_m 16).2.1 62 = .ok (.istore 8, 2) := by decide +kernel
theorem d_16_64 : decode (g_m 16).2.1 64 = .ok (.aload_n 0, 1) := by decide +kernel
theorem d_16_65 : decode (g_m 16).2.1 65 = .ok (.getfield 29, 3) := by decide +kernel
theorem d_16_68 : decode (g_m 16).2.1 68 = .ok (.ifCond .ne (16), 3) := by decide +kernel
theorem d_16_71 : decode (g_m 16).2.1 71 = .ok (.iload 4, 2) := by decide +kernel
theorem d_16_73 : decode (g_m 16).2.1 73 = .ok (.iload 8, 2) := by decide +kernel
theorem d_16_75 : decode (g_m 16).2.1 75 = .ok (.iload 8, 2) := by decide +kernel
theorem d_16_77 : decode (g_m 16).2.1 77 = .ok (.imul, 1) := by decide +kernel
theorem d_16_78 : decode (g_m 16).2.1 78 = .ok (.iadd, 1) := by decide +kernel
theorem d_16_79 : decode (g_m 16).2.1 79 = .ok (.istore 4, 2) := by decide +kernel
theorem d_16_81 : decode (g_m 16).2.1 81 = .ok (.goto (42), 3) := by decide +kernel
theorem d_16_84 : decode (g_m 16).2.1 84 = .ok (.aload_n 0, 1) := by decide +kernel
theorem d_16_85 : decode (g_m 16).2.1 85 = .ok (.getfield 29, 3) := by decide +kernel
theorem d_16_88 : decode (g_m 16).2.1 88 = .ok (.iconst 1, 1) := by decide +kernel
theorem d_16_89 : decode (g_m 16).2.1 89 = .ok (.if_icmp .ne (16), 3) := by decide +kernel
theorem d_16_92 : decode (g_m 16).2.1 92 = .ok (.iload 4, 2) := by decide +kernel
theorem d_16_94 : decode (g_m 16).2.1 94 = .ok (.iload 6, 2) := by decide +kernel
theorem d_16_96 : decode (g_m 16).2.1 96 = .ok (.iload 7, 2) := by decide +kernel
theorem d_16_98 : decode (g_m 16).2.1 98 = .ok (.imul, 1) := by decide +kernel
theorem d_16_99 : decode (g_m 16).2.1 99 = .ok (.iadd, 1) := by decide +kernel
theorem d_16_100 : decode (g_m 16).2.1 100 = .ok (.istore 4, 2) := by decide +kernel
theorem d_16_102 : decode (g_m 16).2.1 102 = .ok (.goto (21), 3) := by decide +kernel
theorem d_16_105 : decode (g_m 16).2.1 105 = .ok (.iload 4, 2) := by decide +kernel
theorem d_16_107 : decode (g_m 16).2.1 107 = .ok (.iload 8, 2) := by decide +kernel
theorem d_16_109 : decode (g_m 16).2.1 109 = .ok (.ifCond .ge (9), 3) := by decide +kernel
theorem d_16_112 : decode (g_m 16).2.1 112 = .ok (.iload 8, 2) := by decide +kernel
theorem d_16_114 : decode (g_m 16).2.1 114 = .ok (.ineg, 1) := by decide +kernel
theorem d_16_115 : decode (g_m 16).2.1 115 = .ok (.goto (5), 3) := by decide +kernel
theorem d_16_118 : decode (g_m 16).2.1 118 = .ok (.iload 8, 2) := by decide +kernel
theorem d_16_120 : decode (g_m 16).2.1 120 = .ok (.iadd, 1) := by decide +kernel
theorem d_16_121 : decode (g_m 16).2.1 121 = .ok (.istore 4, 2) := by decide +kernel
theorem d_16_123 : decode (g_m 16).2.1 123 = .ok (.iinc 5 1, 3) := by decide +kernel
theorem d_16_126 : decode (g_m 16).2.1 126 = .ok (.goto (-120), 3) := by decide +kernel
theorem d_16_129 : decode (g_m 16).2.1 129 = .ok (.aload_n 0, 1) := by decide +kernel
theorem d_16_130 : decode (g_m 16).2.1 130 = .ok (.getfield 29, 3) := by decide +kernel
theorem d_16_133 : decode (g_m 16).2.1 133 = .ok (.iconst 1, 1) := by decide +kernel
theorem d_16_134 : decode (g_m 16).2.1 134 = .ok (.if_icmp .ne (18), 3) := by decide +kernel
theorem d_16_137 : decode (g_m 16).2.1 137 = .ok (.bipush 100, 2) := by decide +kernel
theorem d_16_139 : decode (g_m 16).2.1 139 = .ok (.iload_n 3, 1) := by decide +kernel
theorem d_16_140 : decode (g_m 16).2.1 140 = .ok (.imul, 1) := by decide +kernel
theorem d_16_141 : decode (g_m 16).2.1 141 = .ok (.aload_n 0, 1) := by decide +kernel
theorem d_16_142 : decode (g_m 16).2.1 142 = .ok (.getfield 9, 3) := by decide +kernel
theorem d_16_145 : decode (g_m 16).2.1 145 = .ok (.imul, 1) := by decide +kernel
theorem d_16_146 : decode (g_m 16).2.1 146 = .ok (.iload 4, 2) := by decide +kernel
theorem d_16_148 : decode (g_m 16).2.1 148 = .ok (.isub, 1) := by decide +kernel
theorem d_16_149 : decode (g_m 16).2.1 149 = .ok (.goto (5), 3) := by decide +kernel
theorem d_16_152 : decode (g_m 16).2.1 152 = .ok (.iload 4, 2) := by decide +kernel
theorem d_16_154 : decode (g_m 16).2.1 154 = .ok (.ireturn, 1) := by decide +kernel
theorem d_33_0 : decode (g_m 33).2.1 0 = .ok (.iload_n 1, 1) := by decide +kernel
theorem d_33_1 : decode (g_m 33).2.1 1 = .ok (.ifCond .lt (15), 3) := by decide +kernel
theorem d_33_4 : decode (g_m 33).2.1 4 = .ok (.iload_n 1, 1) := by decide +kernel
theorem d_33_5 : decode (g_m 33).2.1 5 = .ok (.aload_n 0, 1) := by decide +kernel
theorem d_33_6 : decode (g_m 33).2.1 6 = .ok (.getfield 26, 3) := by decide +kernel
theorem d_33_9 : decode (g_m 33).2.1 9 = .ok (.if_icmp .ge (7), 3) := by decide +kernel
theorem d_33_12 : decode (g_m 33).2.1 12 = .ok (.iconst 1, 1) := by decide +kernel
theorem d_33_13 : decode (g_m 33).2.1 13 = .ok (.goto (4), 3) := by decide +kernel
theorem d_33_16 : decode (g_m 33).2.1 16 = .ok (.iconst 0, 1) := by decide +kernel
theorem d_33_17 : decode (g_m 33).2.1 17 = .ok (.ireturn, 1) := by decide +kernel
theorem d_37_0 : decode (g_m 37).2.1 0 = .ok (.iconst 0, 1) := by decide +kernel
theorem d_37_1 : decode (g_m 37).2.1 1 = .ok (.istore_n 1, 1) := by decide +kernel
theorem d_37_2 : decode (g_m 37).2.1 2 = .ok (.iconst 0, 1) := by decide +kernel
theorem d_37_3 : decode (g_m 37).2.1 3 = .ok (.istore_n 2, 1) := by decide +kernel
theorem d_37_4 : decode (g_m 37).2.1 4 = .ok (.iload_n 2, 1) := by decide +kernel
theorem d_37_5 : decode (g_m 37).2.1 5 = .ok (.aload_n 0, 1) := by decide +kernel
theorem d_37_6 : decode (g_m 37).2.1 6 = .ok (.getfield 26, 3) := by decide +kernel
theorem d_37_9 : decode (g_m 37).2.1 9 = .ok (.if_icmp .ge (46), 3) := by decide +kernel
theorem d_37_12 : decode (g_m 37).2.1 12 = .ok (.aload_n 0, 1) := by decide +kernel
theorem d_37_13 : decode (g_m 37).2.1 13 = .ok (.getfield 15, 3) := by decide +kernel
theorem d_37_16 : decode (g_m 37).2.1 16 = .ok (.iload_n 2, 1) := by decide +kernel
theorem d_37_17 : decode (g_m 37).2.1 17 = .ok (.baload, 1) := by decide +kernel
theorem d_37_18 : decode (g_m 37).2.1 18 = .ok (.ifCond .ne (31), 3) := by decide +kernel
theorem d_37_21 : decode (g_m 37).2.1 21 = .ok (.aload_n 0, 1) := by decide +kernel
theorem d_37_22 : decode (g_m 37).2.1 22 = .ok (.iload_n 2, 1) := by decide +kernel
theorem d_37_23 : decode (g_m 37).2.1 23 = .ok (.iload_n 1, 1) := by decide +kernel
theorem d_37_24 : decode (g_m 37).2.1 24 = .ok (.invokevirtual 36, 3) := by decide +kernel
theorem d_37_27 : decode (g_m 37).2.1 27 = .ok (.aload_n 0, 1) := by decide +kernel
theorem d_37_28 : decode (g_m 37).2.1 28 = .ok (.getfield 19, 3) := by decide +kernel
theorem d_37_31 : decode (g_m 37).2.1 31 = .ok (.iload_n 1, 1) := by decide +kernel
theorem d_37_32 : decode (g_m 37).2.1 32 = .ok (.aload_n 0, 1) := by decide +kernel
theorem d_37_33 : decode (g_m 37).2.1 33 = .ok (.getfield 19, 3) := by decide +kernel
theorem d_37_36 : decode (g_m 37).2.1 36 = .ok (.iload_n 2, 1) := by decide +kernel
theorem d_37_37 : decode (g_m 37).2.1 37 = .ok (.baload, 1) := by decide +kernel
theorem d_37_38 : decode (g_m 37).2.1 38 = .ok (.bastore, 1) := by decide +kernel
theorem d_37_39 : decode (g_m 37).2.1 39 = .ok (.aload_n 0, 1) := by decide +kernel
theorem d_37_40 : decode (g_m 37).2.1 40 = .ok (.getfield 15, 3) := by decide +kernel
theorem d_37_43 : decode (g_m 37).2.1 43 = .ok (.iload_n 1, 1) := by decide +kernel
theorem d_37_44 : decode (g_m 37).2.1 44 = .ok (.iconst 0, 1) := by decide +kernel
theorem d_37_45 : decode (g_m 37).2.1 45 = .ok (.bastore, 1) := by decide +kernel
theorem d_37_46 : decode (g_m 37).2.1 46 = .ok (.iinc 1 1, 3) := by decide +kernel
theorem d_37_49 : decode (g_m 37).2.1 49 = .ok (.iinc 2 1, 3) := by decide +kernel
theorem d_37_52 : decode (g_m 37).2.1 52 = .ok (.goto (-48), 3) := by decide +kernel
theorem d_37_55 : decode (g_m 37).2.1 55 = .ok (.aload_n 0, 1) := by decide +kernel
theorem d_37_56 : decode (g_m 37).2.1 56 = .ok (.getfield 26, 3) := by decide +kernel
theorem d_37_59 : decode (g_m 37).2.1 59 = .ok (.iload_n 1, 1) := by decide +kernel
theorem d_37_60 : decode (g_m 37).2.1 60 = .ok (.isub, 1) := by decide +kernel
theorem d_37_61 : decode (g_m 37).2.1 61 = .ok (.istore_n 2, 1) := by decide +kernel
theorem d_37_62 : decode (g_m 37).2.1 62 = .ok (.aload_n 0, 1) := by decide +kernel
theorem d_37_63 : decode (g_m 37).2.1 63 = .ok (.iload_n 1, 1) := by decide +kernel
theorem d_37_64 : decode (g_m 37).2.1 64 = .ok (.putfield 26, 3) := by decide +kernel
theorem d_37_67 : decode (g_m 37).2.1 67 = .ok (.iload_n 2, 1) := by decide +kernel
theorem d_37_68 : decode (g_m 37).2.1 68 = .ok (.ireturn, 1) := by decide +kernel
theorem d_42_0 : decode (g_m 42).2.1 0 = .ok (.aload_n 0, 1) := by decide +kernel
theorem d_42_1 : decode (g_m 42).2.1 1 = .ok (.iload_n 1, 1) := by decide +kernel
theorem d_42_2 : decode (g_m 42).2.1 2 = .ok (.invokevirtual 32, 3) := by decide +kernel
theorem d_42_5 : decode (g_m 42).2.1 5 = .ok (.ifCond .eq (25), 3) := by decide +kernel
theorem d_42_8 : decode (g_m 42).2.1 8 = .ok (.aload_n 0, 1) := by decide +kernel
theorem d_42_9 : decode (g_m 42).2.1 9 = .ok (.getfield 15, 3) := by decide +kernel
theorem d_42_12 : decode (g_m 42).2.1 12 = .ok (.iload_n 1, 1) := by decide +kernel
theorem d_42_13 : decode (g_m 42).2.1 13 = .ok (.baload, 1) := by decide +kernel
theorem d_42_14 : decode (g_m 42).2.1 14 = .ok (.ifCond .ne (16), 3) := by decide +kernel
theorem d_42_17 : decode (g_m 42).2.1 17 = .ok (.aload_n 0, 1) := by decide +kernel
theorem d_42_18 : decode (g_m 42).2.1 18 = .ok (.getfield 19, 3) := by decide +kernel
theorem d_42_21 : decode (g_m 42).2.1 21 = .ok (.iload_n 1, 1) := by decide +kernel
theorem d_42_22 : decode (g_m 42).2.1 22 = .ok (.baload, 1) := by decide +kernel
theorem d_42_23 : decode (g_m 42).2.1 23 = .ok (.ifCond .ne (7), 3) := by decide +kernel
theorem d_42_26 : decode (g_m 42).2.1 26 = .ok (.iconst 1, 1) := by decide +kernel
theorem d_42_27 : decode (g_m 42).2.1 27 = .ok (.goto (4), 3) := by decide +kernel
theorem d_42_30 : decode (g_m 42).2.1 30 = .ok (.iconst 0, 1) := by decide +kernel
theorem d_42_31 : decode (g_m 42).2.1 31 = .ok (.ireturn, 1) := by decide +kernel
theorem d_61_0 : decode (g_m 61).2.1 0 = .ok (.iconst 0, 1) := by decide +kernel
theorem d_61_1 : decode (g_m 61).2.1 1 = .ok (.istore_n 2, 1) := by decide +kernel
theorem d_61_2 : decode (g_m 61).2.1 2 = .ok (.iconst 0, 1) := by decide +kernel
theorem d_61_3 : decode (g_m 61).2.1 3 = .ok (.istore_n 3, 1) := by decide +kernel
theorem d_61_4 : decode (g_m 61).2.1 4 = .ok (.iload_n 3, 1) := by decide +kernel
theorem d_61_5 : decode (g_m 61).2.1 5 = .ok (.aload_n 0, 1) := by decide +kernel
theorem d_61_6 : decode (g_m 61).2.1 6 = .ok (.getfield 26, 3) := by decide +kernel
theorem d_61_9 : decode (g_m 61).2.1 9 = .ok (.if_icmp .ge (29), 3) := by decide +kernel
theorem d_61_12 : decode (g_m 61).2.1 12 = .ok (.iload_n 3, 1) := by decide +kernel
theorem d_61_13 : decode (g_m 61).2.1 13 = .ok (.aload_n 1, 1) := by decide +kernel
theorem d_61_14 : decode (g_m 61).2.1 14 = .ok (.arraylength, 1) := by decide +kernel
theorem d_61_15 : decode (g_m 61).2.1 15 = .ok (.if_icmp .ge (23), 3) := by decide +kernel
theorem d_61_18 : decode (g_m 61).2.1 18 = .ok (.iload_n 2, 1) := by decide +kernel
theorem d_61_19 : decode (g_m 61).2.1 19 = .ok (.aload_n 1, 1) := by decide +kernel
theorem d_61_20 : decode (g_m 61).2.1 20 = .ok (.iload_n 3, 1) := by decide +kernel
theorem d_61_21 : decode (g_m 61).2.1 21 = .ok (.baload, 1) := by decide +kernel
theorem d_61_22 : decode (g_m 61).2.1 22 = .ok (.ifCond .eq (7), 3) := by decide +kernel
theorem d_61_25 : decode (g_m 61).2.1 25 = .ok (.iconst 1, 1) := by decide +kernel
theorem d_61_26 : decode (g_m 61).2.1 26 = .ok (.goto (4), 3) := by decide +kernel
theorem d_61_29 : decode (g_m 61).2.1 29 = .ok (.iconst 0, 1) := by decide +kernel
theorem d_61_30 : decode (g_m 61).2.1 30 = .ok (.iadd, 1) := by decide +kernel
theorem d_61_31 : decode (g_m 61).2.1 31 = .ok (.istore_n 2, 1) := by decide +kernel
theorem d_61_32 : decode (g_m 61).2.1 32 = .ok (.iinc 3 1, 3) := by decide +kernel
theorem d_61_35 : decode (g_m 61).2.1 35 = .ok (.goto (-31), 3) := by decide +kernel
theorem d_61_38 : decode (g_m 61).2.1 38 = .ok (.iload_n 2, 1) := by decide +kernel
theorem d_61_39 : decode (g_m 61).2.1 39 = .ok (.ireturn, 1) := by decide +kernel
theorem d_62_0 : decode (g_m 62).2.1 0 = .ok (.iconst 0, 1) := by decide +kernel
theorem d_62_1 : decode (g_m 62).2.1 1 = .ok (.istore_n 1, 1) := by decide +kernel
theorem d_62_2 : decode (g_m 62).2.1 2 = .ok (.iconst 0, 1) := by decide +kernel
theorem d_62_3 : decode (g_m 62).2.1 3 = .ok (.istore_n 2, 1) := by decide +kernel
theorem d_62_4 : decode (g_m 62).2.1 4 = .ok (.iload_n 2, 1) := by decide +kernel
theorem d_62_5 : decode (g_m 62).2.1 5 = .ok (.aload_n 0, 1) := by decide +kernel
theorem d_62_6 : decode (g_m 62).2.1 6 = .ok (.getfield 26, 3) := by decide +kernel
theorem d_62_9 : decode (g_m 62).2.1 9 = .ok (.if_icmp .ge (25), 3) := by decide +kernel
theorem d_62_12 : decode (g_m 62).2.1 12 = .ok (.iload_n 1, 1) := by decide +kernel
theorem d_62_13 : decode (g_m 62).2.1 13 = .ok (.aload_n 0, 1) := by decide +kernel
theorem d_62_14 : decode (g_m 62).2.1 14 = .ok (.iload_n 2, 1) := by decide +kernel
theorem d_62_15 : decode (g_m 62).2.1 15 = .ok (.invokevirtual 46, 3) := by decide +kernel
theorem d_62_18 : decode (g_m 62).2.1 18 = .ok (.ifCond .eq (7), 3) := by decide +kernel
theorem d_62_21 : decode (g_m 62).2.1 21 = .ok (.iconst 1, 1) := by decide +kernel
theorem d_62_22 : decode (g_m 62).2.1 22 = .ok (.goto (4), 3) := by decide +kernel
theorem d_62_25 : decode (g_m 62).2.1 25 = .ok (.iconst 0, 1) := by decide +kernel
theorem d_62_26 : decode (g_m 62).2.1 26 = .ok (.iadd, 1) := by decide +kernel
theorem d_62_27 : decode (g_m 62).2.1 27 = .ok (.istore_n 1, 1) := by decide +kernel
theorem d_62_28 : decode (g_m 62).2.1 28 = .ok (.iinc 2 1, 3) := by decide +kernel
theorem d_62_31 : decode (g_m 62).2.1 31 = .ok (.goto (-27), 3) := by decide +kernel
theorem d_62_34 : decode (g_m 62).2.1 34 = .ok (.iload_n 1, 1) := by decide +kernel
theorem d_62_35 : decode (g_m 62).2.1 35 = .ok (.ireturn, 1) := by decide +kernel
end
section
theorem d_0_0 : decode (g_m 0).2.1 0 = .ok (.aload_n 0, 1) := by decide +kernel
theorem d_0_1 : decode (g_m 0).2.1 1 = .ok (.invokespecial 3, 3) := by decide +kernel
theorem d_0_4 : decode (g_m 0).2.1 4 = .ok (.aload_n 0, 1) := by decide +kernel
theorem d_0_5 : decode (g_m 0).2.1 5 = .ok (.new 9, 3) := by decide +kernel
theorem d_0_8 : decode (g_m 0).2.1 8 = .ok (.dup, 1) := by decide +kernel
theorem d_0_9 : decode (g_m 0).2.1 9 = .ok (.iconst 1, 1) := by decide +kernel
theorem d_0_10 : decode (g_m 0).2.1 10 = .ok (.bipush 8, 2) := by decide +kernel
theorem d_0_12 : decode (g_m 0).2.1 12 = .ok (.iload_n 1, 1) := by decide +kernel
theorem d_0_13 : decode (g_m 0).2.1 13 = .ok (.invokestatic 11, 3) := by decide +kernel
theorem d_0_16 : decode (g_m 0).2.1 16 = .ok (.invokestatic 17, 3) := by decide +kernel
theorem d_0_19 : decode (g_m 0).2.1 19 = .ok (.invokespecial 20, 3) := by decide +kernel
theorem d_0_22 : decode (g_m 0).2.1 22 = .ok (.putfield 23, 3) := by decide +kernel
theorem d_0_25 : decode (g_m 0).2.1 25 = .ok (.aload_n 0, 1) := by decide +kernel
theorem d_0_26 : decode (g_m 0).2.1 26 = .ok (.new 27, 3) := by decide +kernel
theorem d_0_29 : decode (g_m 0).2.1 29 = .ok (.dup, 1) := by decide +kernel
theorem d_0_30 : decode (g_m 0).2.1 30 = .ok (.aload_n 0, 1) := by decide +kernel
theorem d_0_31 : decode (g_m 0).2.1 31 = .ok (.getfield 23, 3) := by decide +kernel
theorem d_0_34 : decode (g_m 0).2.1 34 = .ok (.iload_n 2, 1) := by decide +kernel
theorem d_0_35 : decode (g_m 0).2.1 35 = .ok (.invokespecial 29, 3) := by decide +kernel
theorem d_0_38 : decode (g_m 0).2.1 38 = .ok (.putfield 32, 3) := by decide +kernel
theorem d_0_41 : decode (g_m 0).2.1 41 = .ok (.aload_n 0, 1) := by decide +kernel
theorem d_0_42 : decode (g_m 0).2.1 42 = .ok (.new 36, 3) := by decide +kernel
theorem d_0_45 : decode (g_m 0).2.1 45 = .ok (.dup, 1) := by decide +kernel
theorem d_0_46 : decode (g_m 0).2.1 46 = .ok (.bipush 100, 2) := by decide +kernel
theorem d_0_48 : decode (g_m 0).2.1 48 = .ok (.invokespecial 38, 3) := by decide +kernel
theorem d_0_51 : decode (g_m 0).2.1 51 = .ok (.putfield 39, 3) := by decide +kernel
theorem d_0_54 : decode (g_m 0).2.1 54 = .ok (.aload_n 0, 1) := by decide +kernel
theorem d_0_55 : decode (g_m 0).2.1 55 = .ok (.new 36, 3) := by decide +kernel
theorem d_0_58 : decode (g_m 0).2.1 58 = .ok (.dup, 1) := by decide +kernel
theorem d_0_59 : decode (g_m 0).2.1 59 = .ok (.bipush 100, 2) := by decide +kernel
theorem d_0_61 : decode (g_m 0).2.1 61 = .ok (.invokespecial 38, 3) := by decide +kernel
theorem d_0_64 : decode (g_m 0).2.1 64 = .ok (.putfield 43, 3) := by decide +kernel
theorem d_0_67 : decode (g_m 0).2.1 67 = .ok (.aload_n 0, 1) := by decide +kernel
theorem d_0_68 : decode (g_m 0).2.1 68 = .ok (.new 36, 3) := by decide +kernel
theorem d_0_71 : decode (g_m 0).2.1 71 = .ok (.dup, 1) := by decide +kernel
theorem d_0_72 : decode (g_m 0).2.1 72 = .ok (.bipush 100, 2) := by decide +kernel
theorem d_0_74 : decode (g_m 0).2.1 74 = .ok (.invokespecial 38, 3) := by decide +kernel
theorem d_0_77 : decode (g_m 0).2.1 77 = .ok (.putfield 46, 3) := by decide +kernel
theorem d_0_80 : decode (g_m 0).2.1 80 = .ok (.aload_n 0, 1) := by decide +kernel
theorem d_0_81 : decode (g_m 0).2.1 81 = .ok (.iconst 0, 1) := by decide +kernel
theorem d_0_82 : decode (g_m 0).2.1 82 = .ok (.putfield 49, 3) := by decide +kernel
theorem d_0_85 : decode (g_m 0).2.1 85 = .ok (.return_, 1) := by decide +kernel
theorem d_4_0 : decode (g_m 4).2.1 0 = .ok (.iload_n 1, 1) := by decide +kernel
theorem d_4_1 : decode (g_m 4).2.1 1 = .ok (.ifCond .lt (26), 3) := by decide +kernel
theorem d_4_4 : decode (g_m 4).2.1 4 = .ok (.iload_n 1, 1) := by decide +kernel
theorem d_4_5 : decode (g_m 4).2.1 5 = .ok (.aload_n 0, 1) := by decide +kernel
theorem d_4_6 : decode (g_m 4).2.1 6 = .ok (.getfield 23, 3) := by decide +kernel
theorem d_4_9 : decode (g_m 4).2.1 9 = .ok (.getfield 53, 3) := by decide +kernel
theorem d_4_12 : decode (g_m 4).2.1 12 = .ok (.if_icmp .ge (15), 3) := by decide +kernel
theorem d_4_15 : decode (g_m 4).2.1 15 = .ok (.iload_n 2, 1) := by decide +kernel
theorem d_4_16 : decode (g_m 4).2.1 16 = .ok (.bipush (-100), 2) := by decide +kernel
theorem d_4_18 : decode (g_m 4).2.1 18 = .ok (.if_icmp .lt (9), 3) := by decide +kernel
theorem d_4_21 : decode (g_m 4).2.1 21 = .ok (.iload_n 2, 1) := by decide +kernel
theorem d_4_22 : decode (g_m 4).2.1 22 = .ok (.bipush 100, 2) := by decide +kernel
theorem d_4_24 : decode (g_m 4).2.1 24 = .ok (.if_icmp .le (7), 3) := by decide +kernel
theorem d_4_27 : decode (g_m 4).2.1 27 = .ok (.sipush (-1000), 3) := by decide +kernel
theorem d_4_30 : decode (g_m 4).2.1 30 = .ok (.ireturn, 1) := by decide +kernel
theorem d_4_31 : decode (g_m 4).2.1 31 = .ok (.aload_n 0, 1) := by decide +kernel
theorem d_4_32 : decode (g_m 4).2.1 32 = .ok (.getfield 23, 3) := by decide +kernel
theorem d_4_35 : decode (g_m 4).2.1 35 = .ok (.iload_n 1, 1) := by decide +kernel
theorem d_4_36 : decode (g_m 4).2.1 36 = .ok (.iload_n 2, 1) := by decide +kernel
theorem d_4_37 : decode (g_m 4).2.1 37 = .ok (.invokevirtual 56, 3) := by decide +kernel
theorem d_4_40 : decode (g_m 4).2.1 40 = .ok (.ireturn, 1) := by decide +kernel
theorem d_6_0 : decode (g_m 6).2.1 0 = .ok (.aload_n 0, 1) := by decide +kernel
theorem d_6_1 : decode (g_m 6).2.1 1 = .ok (.getfield 23, 3) := by decide +kernel
theorem d_6_4 : decode (g_m 6).2.1 4 = .ok (.getfield 59, 3) := by decide +kernel
theorem d_6_7 : decode (g_m 6).2.1 7 = .ok (.bipush 100, 2) := by decide +kernel
theorem d_6_9 : decode (g_m 6).2.1 9 = .ok (.if_icmp .lt (6), 3) := by decide +kernel
theorem d_6_12 : decode (g_m 6).2.1 12 = .ok (.bipush (-3), 2) := by decide +kernel
theorem d_6_14 : decode (g_m 6).2.1 14 = .ok (.ireturn, 1) := by decide +kernel
theorem d_6_15 : decode (g_m 6).2.1 15 = .ok (.aload_n 0, 1) := by decide +kernel
theorem d_6_16 : decode (g_m 6).2.1 16 = .ok (.getfield 23, 3) := by decide +kernel
theorem d_6_19 : decode (g_m 6).2.1 19 = .ok (.invokevirtual 62, 3) := by decide +kernel
theorem d_6_22 : decode (g_m 6).2.1 22 = .ok (.istore_n 1, 1) := by decide +kernel
theorem d_6_23 : decode (g_m 6).2.1 23 = .ok (.aload_n 0, 1) := by decide +kernel
theorem d_6_24 : decode (g_m 6).2.1 24 = .ok (.getfield 32, 3) := by decide +kernel
theorem d_6_27 : decode (g_m 6).2.1 27 = .ok (.iload_n 1, 1) := by decide +kernel
theorem d_6_28 : decode (g_m 6).2.1 28 = .ok (.invokevirtual 66, 3) := by decide +kernel
theorem d_6_31 : decode (g_m 6).2.1 31 = .ok (.iload_n 1, 1) := by decide +kernel
theorem d_6_32 : decode (g_m 6).2.1 32 = .ok (.ireturn, 1) := by decide +kernel
theorem d_32_0 : decode (g_m 32).2.1 0 = .ok (.aload_n 0, 1) := by decide +kernel
theorem d_32_1 : decode (g_m 32).2.1 1 = .ok (.getfield 23, 3) := by decide +kernel
theorem d_32_4 : decode (g_m 32).2.1 4 = .ok (.iload_n 1, 1) := by decide +kernel
theorem d_32_5 : decode (g_m 32).2.1 5 = .ok (.invokevirtual 69, 3) := by decide +kernel
theorem d_32_8 : decode (g_m 32).2.1 8 = .ok (.ifCond .ne (5), 3) := by decide +kernel
theorem d_32_11 : decode (g_m 32).2.1 11 = .ok (.iconst (-1), 1) := by decide +kernel
theorem d_32_12 : decode (g_m 32).2.1 12 = .ok (.ireturn, 1) := by decide +kernel
theorem d_32_13 : decode (g_m 32).2.1 13 = .ok (.aload_n 0, 1) := by decide +kernel
theorem d_32_14 : decode (g_m 32).2.1 14 = .ok (.getfield 23, 3) := by decide +kernel
theorem d_32_17 : decode (g_m 32).2.1 17 = .ok (.iload_n 1, 1) := by decide +kernel
theorem d_32_18 : decode (g_m 32).2.1 18 = .ok (.bipush 100, 2) := by decide +kernel
theorem d_32_20 : decode (g_m 32).2.1 20 = .ok (.invokevirtual 73, 3) := by decide +kernel
theorem d_32_23 : decode (g_m 32).2.1 23 = .ok (.iconst 1, 1) := by decide +kernel
theorem d_32_24 : decode (g_m 32).2.1 24 = .ok (.ireturn, 1) := by decide +kernel
theorem d_34_0 : decode (g_m 34).2.1 0 = .ok (.aload_n 0, 1) := by decide +kernel
theorem d_34_1 : decode (g_m 34).2.1 1 = .ok (.getfield 23, 3) := by decide +kernel
theorem d_34_4 : decode (g_m 34).2.1 4 = .ok (.iload_n 1, 1) := by decide +kernel
theorem d_34_5 : decode (g_m 34).2.1 5 = .ok (.invokevirtual 69, 3) := by decide +kernel
theorem d_34_8 : decode (g_m 34).2.1 8 = .ok (.ifCond .ne (5), 3) := by decide +kernel
theorem d_34_11 : decode (g_m 34).2.1 11 = .ok (.iconst (-1), 1) := by decide +kernel
theorem d_34_12 : decode (g_m 34).2.1 12 = .ok (.ireturn, 1) := by decide +kernel
theorem d_34_13 : decode (g_m 34).2.1 13 = .ok (.aload_n 0, 1) := by decide +kernel
theorem d_34_14 : decode (g_m 34).2.1 14 = .ok (.getfield 23, 3) := by decide +kernel
theorem d_34_17 : decode (g_m 34).2.1 17 = .ok (.getfield 77, 3) := by decide +kernel
theorem d_34_20 : decode (g_m 34).2.1 20 = .ok (.iload_n 1, 1) := by decide +kernel
theorem d_34_21 : decode (g_m 34).2.1 21 = .ok (.baload, 1) := by decide +kernel
theorem d_34_22 : decode (g_m 34).2.1 22 = .ok (.istore_n 2, 1) := by decide +kernel
theorem d_34_23 : decode (g_m 34).2.1 23 = .ok (.aload_n 0, 1) := by decide +kernel
theorem d_34_24 : decode (g_m 34).2.1 24 = .ok (.getfield 23, 3) := by decide +kernel
theorem d_34_27 : decode (g_m 34).2.1 27 = .ok (.getfield 77, 3) := by decide +kernel
theorem d_34_30 : decode (g_m 34).2.1 30 = .ok (.iload_n 1, 1) := by decide +kernel
theorem d_34_31 : decode (g_m 34).2.1 31 = .ok (.iconst 1, 1) := by decide +kernel
theorem d_34_32 : decode (g_m 34).2.1 32 = .ok (.bastore, 1) := by decide +kernel
theorem d_34_33 : decode (g_m 34).2.1 33 = .ok (.iload_n 2, 1) := by decide +kernel
theorem d_34_34 : decode (g_m 34).2.1 34 = .ok (.ifCond .eq (7), 3) := by decide +kernel
theorem d_34_37 : decode (g_m 34).2.1 37 = .ok (.iconst 0, 1) := by decide +kernel
theorem d_34_38 : decode (g_m 34).2.1 38 = .ok (.goto (4), 3) := by decide +kernel
theorem d_34_41 : decode (g_m 34).2.1 41 = .ok (.iconst 1, 1) := by decide +kernel
theorem d_34_42 : decode (g_m 34).2.1 42 = .ok (.ireturn, 1) := by decide +kernel
theorem d_35_0 : decode (g_m 35).2.1 0 = .ok (.aload_n 0, 1) := by decide +kernel
theorem d_35_1 : decode (g_m 35).2.1 1 = .ok (.getfield 23, 3) := by decide +kernel
theorem d_35_4 : decode (g_m 35).2.1 4 = .ok (.iload_n 1, 1) := by decide +kernel
theorem d_35_5 : decode (g_m 35).2.1 5 = .ok (.invokevirtual 69, 3) := by decide +kernel
theorem d_35_8 : decode (g_m 35).2.1 8 = .ok (.ifCond .ne (5), 3) := by decide +kernel
theorem d_35_11 : decode (g_m 35).2.1 11 = .ok (.iconst (-1), 1) := by decide +kernel
theorem d_35_12 : decode (g_m 35).2.1 12 = .ok (.ireturn, 1) := by decide +kernel
theorem d_35_13 : decode (g_m 35).2.1 13 = .ok (.aload_n 0, 1) := by decide +kernel
theorem d_35_14 : decode (g_m 35).2.1 14 = .ok (.getfield 23, 3) := by decide +kernel
theorem d_35_17 : decode (g_m 35).2.1 17 = .ok (.getfield 81, 3) := by decide +kernel
theorem d_35_20 : decode (g_m 35).2.1 20 = .ok (.iload_n 1, 1) := by decide +kernel
theorem d_35_21 : decode (g_m 35).2.1 21 = .ok (.baload, 1) := by decide +kernel
theorem d_35_22 : decode (g_m 35).2.1 22 = .ok (.istore_n 3, 1) := by decide +kernel
theorem d_35_23 : decode (g_m 35).2.1 23 = .ok (.aload_n 0, 1) := by decide +kernel
theorem d_35_24 : decode (g_m 35).2.1 24 = .ok (.getfield 23, 3) := by decide +kernel
theorem d_35_27 : decode (g_m 35).2.1 27 = .ok (.getfield 81, 3) := by decide +kernel
theorem d_35_30 : decode (g_m 35).2.1 30 = .ok (.iload_n 1, 1) := by decide +kernel
theorem d_35_31 : decode (g_m 35).2.1 31 = .ok (.iload_n 2, 1) := by decide +kernel
theorem d_35_32 : decode (g_m 35).2.1 32 = .ok (.bastore, 1) := by decide +kernel
theorem d_35_33 : decode (g_m 35).2.1 33 = .ok (.iload_n 3, 1) := by decide +kernel
theorem d_35_34 : decode (g_m 35).2.1 34 = .ok (.ifCond .eq (7), 3) := by decide +kernel
theorem d_35_37 : decode (g_m 35).2.1 37 = .ok (.iconst 1, 1) := by decide +kernel
theorem d_35_38 : decode (g_m 35).2.1 38 = .ok (.goto (4), 3) := by decide +kernel
theorem d_35_41 : decode (g_m 35).2.1 41 = .ok (.iconst 0, 1) := by decide +kernel
theorem d_35_42 : decode (g_m 35).2.1 42 = .ok (.ireturn, 1) := by decide +kernel
theorem d_36_0 : decode (g_m 36).2.1 0 = .ok (.aload_n 0, 1) := by decide +kernel
theorem d_36_1 : decode (g_m 36).2.1 1 = .ok (.getfield 23, 3) := by decide +kernel
theorem d_36_4 : decode (g_m 36).2.1 4 = .ok (.invokevirtual 84, 3) := by decide +kernel
theorem d_36_7 : decode (g_m 36).2.1 7 = .ok (.istore_n 1, 1) := by decide +kernel
theorem d_36_8 : decode (g_m 36).2.1 8 = .ok (.aload_n 0, 1) := by decide +kernel
theorem d_36_9 : decode (g_m 36).2.1 9 = .ok (.getfield 39, 3) := by decide +kernel
theorem d_36_12 : decode (g_m 36).2.1 12 = .ok (.invokevirtual 87, 3) := by decide +kernel
theorem d_36_15 : decode (g_m 36).2.1 15 = .ok (.aload_n 0, 1) := by decide +kernel
theorem d_36_16 : decode (g_m 36).2.1 16 = .ok (.getfield 32, 3) := by decide +kernel
theorem d_36_19 : decode (g_m 36).2.1 19 = .ok (.invokevirtual 90, 3) := by decide +kernel
theorem d_36_22 : decode (g_m 36).2.1 22 = .ok (.iload_n 1, 1) := by decide +kernel
theorem d_36_23 : decode (g_m 36).2.1 23 = .ok (.ireturn, 1) := by decide +kernel
theorem d_39_0 : decode (g_m 39).2.1 0 = .ok (.iconst (-1), 1) := by decide +kernel
theorem d_39_1 : decode (g_m 39).2.1 1 = .ok (.istore_n 3, 1) := by decide +kernel
theorem d_39_2 : decode (g_m 39).2.1 2 = .ok (.iload_n 1, 1) := by decide +kernel
theorem d_39_3 : decode (g_m 39).2.1 3 = .ok (.ifCond .ne (31), 3) := by decide +kernel
theorem d_39_6 : decode (g_m 39).2.1 6 = .ok (.iload_n 2, 1) := by decide +kernel
theorem d_39_7 : decode (g_m 39).2.1 7 = .ok (.ifCond .lt (27), 3) := by decide +kernel
theorem d_39_10 : decode (g_m 39).2.1 10 = .ok (.iload_n 2, 1) := by decide +kernel
theorem d_39_11 : decode (g_m 39).2.1 11 = .ok (.iconst 2, 1) := by decide +kernel
theorem d_39_12 : decode (g_m 39).2.1 12 = .ok (.if_icmp .gt (22), 3) := by decide +kernel
theorem d_39_15 : decode (g_m 39).2.1 15 = .ok (.aload_n 0, 1) := by decide +kernel
theorem d_39_16 : decode (g_m 39).2.1 16 = .ok (.getfield 23, 3) := by decide +kernel
theorem d_39_19 : decode (g_m 39).2.1 19 = .ok (.getfield 93, 3) := by decide +kernel
theorem d_39_22 : decode (g_m 39).2.1 22 = .ok (.istore_n 3, 1) := by decide +kernel
theorem d_39_23 : decode (g_m 39).2.1 23 = .ok (.aload_n 0, 1) := by decide +kernel
theorem d_39_24 : decode (g_m 39).2.1 24 = .ok (.getfield 23, 3) := by decide +kernel
theorem d_39_27 : decode (g_m 39).2.1 27 = .ok (.iload_n 2, 1) := by decide +kernel
theorem d_39_28 : decode (g_m 39).2.1 28 = .ok (.putfield 93, 3) := by decide +kernel
theorem d_39_31 : decode (g_m 39).2.1 31 = .ok (.goto (85), 3) := by decide +kernel
theorem d_39_34 : decode (g_m 39).2.1 34 = .ok (.iload_n 1, 1) := by decide +kernel
theorem d_39_35 : decode (g_m 39).2.1 35 = .ok (.iconst 1, 1) := by decide +kernel
theorem d_39_36 : decode (g_m 39).2.1 36 = .ok (.if_icmp .ne (33), 3) := by decide +kernel
theorem d_39_39 : decode (g_m 39).2.1 39 = .ok (.iload_n 2, 1) := by decide +kernel
theorem d_39_40 : decode (g_m 39).2.1 40 = .ok (.iconst 2, 1) := by decide +kernel
theorem d_39_41 : decode (g_m 39).2.1 41 = .ok (.if_icmp .lt (28), 3) := by decide +kernel
theorem d_39_44 : decode (g_m 39).2.1 44 = .ok (.iload_n 2, 1) := by decide +kernel
theorem d_39_45 : decode (g_m 39).2.1 45 = .ok (.bipush 6, 2) := by decide +kernel
theorem d_39_47 : decode (g_m 39).2.1 47 = .ok (.if_icmp .gt (22), 3) := by decide +kernel
theorem d_39_50 : decode (g_m 39).2.1 50 = .ok (.aload_n 0, 1) := by decide +kernel
theorem d_39_51 : decode (g_m 39).2.1 51 = .ok (.getfield 32, 3) := by decide +kernel
theorem d_39_54 : decode (g_m 39).2.1 54 = .ok (.getfield 96, 3) := by decide +kernel
theorem d_39_57 : decode (g_m 39).2.1 57 = .ok (.istore_n 3, 1) := by decide +kernel
theorem d_39_58 : decode (g_m 39).2.1 58 = .ok (.aload_n 0, 1) := by decide +kernel
theorem d_39_59 : decode (g_m 39).2.1 59 = .ok (.getfield 32, 3) := by decide +kernel
theorem d_39_62 : decode (g_m 39).2.1 62 = .ok (.iload_n 2, 1) := by decide +kernel
theorem d_39_63 : decode (g_m 39).2.1 63 = .ok (.putfield 96, 3) := by decide +kernel
theorem d_39_66 : decode (g_m 39).2.1 66 = .ok (.goto (50), 3) := by decide +kernel
theorem d_39_69 : decode (g_m 39).2.1 69 = .ok (.iload_n 1, 1) := by decide +kernel
theorem d_39_70 : decode (g_m 39).2.1 70 = .ok (.iconst 2, 1) := by decide +kernel
theorem d_39_71 : decode (g_m 39).2.1 71 = .ok (.if_icmp .ne (45), 3) := by decide +kernel
theorem d_39_74 : decode (g_m 39).2.1 74 = .ok (.iload_n 2, 1) := by decide +kernel
theorem d_39_75 : decode (g_m 39).2.1 75 = .ok (.ifCond .eq (8), 3) := by decide +kernel
theorem d_39_78 : decode (g_m 39).2.1 78 = .ok (.iload_n 2, 1) := by decide +kernel
theorem d_39_79 : decode (g_m 39).2.1 79 = .ok (.iconst 1, 1) := by decide +kernel
theorem d_39_80 : decode (g_m 39).2.1 80 = .ok (.if_icmp .ne (36), 3) := by decide +kernel
theorem d_39_83 : decode (g_m 39).2.1 83 = .ok (.aload_n 0, 1) := by decide +kernel
theorem d_39_84 : decode (g_m 39).2.1 84 = .ok (.getfield 32, 3) := by decide +kernel
theorem d_39_87 : decode (g_m 39).2.1 87 = .ok (.getfield 99, 3) := by decide +kernel
theorem d_39_90 : decode (g_m 39).2.1 90 = .ok (.ifCond .eq (7), 3) := by decide +kernel
theorem d_39_93 : decode (g_m 39).2.1 93 = .ok (.iconst 1, 1) := by decide +kernel
theorem d_39_94 : decode (g_m 39).2.1 94 = .ok (.goto (4), 3) := by decide +kernel
theorem d_39_97 : decode (g_m 39).2.1 97 = .ok (.iconst 0, 1) := by decide +kernel
theorem d_39_98 : decode (g_m 39).2.1 98 = .ok (.istore_n 3, 1) := by decide +kernel
theorem d_39_99 : decode (g_m 39).2.1 99 = .ok (.aload_n 0, 1) := by decide +kernel
theorem d_39_100 : decode (g_m 39).2.1 100 = .ok (.getfield 32, 3) := by decide +kernel
theorem d_39_103 : decode (g_m 39).2.1 103 = .ok (.iload_n 2, 1) := by decide +kernel
theorem d_39_104 : decode (g_m 39).2.1 104 = .ok (.iconst 1, 1) := by decide +kernel
theorem d_39_105 : decode (g_m 39).2.1 105 = .ok (.if_icmp .ne (7), 3) := by decide +kernel
theorem d_39_108 : decode (g_m 39).2.1 108 = .ok (.iconst 1, 1) := by decide +kernel
theorem d_39_109 : decode (g_m 39).2.1 109 = .ok (.goto (4), 3) := by decide +kernel
theorem d_39_112 : decode (g_m 39).2.1 112 = .ok (.iconst 0, 1) := by decide +kernel
theorem d_39_113 : decode (g_m 39).2.1 113 = .ok (.putfield 99, 3) := by decide +kernel
theorem d_39_116 : decode (g_m 39).2.1 116 = .ok (.iload_n 3, 1) := by decide +kernel
theorem d_39_117 : decode (g_m 39).2.1 117 = .ok (.iconst (-1), 1) := by decide +kernel
theorem d_39_118 : decode (g_m 39).2.1 118 = .ok (.if_icmp .eq (10), 3) := by decide +kernel
theorem d_39_121 : decode (g_m 39).2.1 121 = .ok (.aload_n 0, 1) := by decide +kernel
theorem d_39_122 : decode (g_m 39).2.1 122 = .ok (.getfield 32, 3) := by decide +kernel
theorem d_39_125 : decode (g_m 39).2.1 125 = .ok (.invokevirtual 90, 3) := by decide +kernel
theorem d_39_128 : decode (g_m 39).2.1 128 = .ok (.iload_n 3, 1) := by decide +kernel
theorem d_39_129 : decode (g_m 39).2.1 129 = .ok (.ireturn, 1) := by decide +kernel
theorem d_40_0 : decode (g_m 40).2.1 0 = .ok (.iload_n 1, 1) := by decide +kernel
theorem d_40_1 : decode (g_m 40).2.1 1 = .ok (.iconst 1, 1) := by decide +kernel
theorem d_40_2 : decode (g_m 40).2.1 2 = .ok (.if_icmp .lt (9), 3) := by decide +kernel
theorem d_40_5 : decode (g_m 40).2.1 5 = .ok (.iload_n 1, 1) := by decide +kernel
theorem d_40_6 : decode (g_m 40).2.1 6 = .ok (.bipush 100, 2) := by decide +kernel
theorem d_40_8 : decode (g_m 40).2.1 8 = .ok (.if_icmp .le (5), 3) := by decide +kernel
theorem d_40_11 : decode (g_m 40).2.1 11 = .ok (.iconst (-1), 1) := by decide +kernel
theorem d_40_12 : decode (g_m 40).2.1 12 = .ok (.ireturn, 1) := by decide +kernel
theorem d_40_13 : decode (g_m 40).2.1 13 = .ok (.aload_n 0, 1) := by decide +kernel
theorem d_40_14 : decode (g_m 40).2.1 14 = .ok (.aload_n 0, 1) := by decide +kernel
theorem d_40_15 : decode (g_m 40).2.1 15 = .ok (.getfield 39, 3) := by decide +kernel
theorem d_40_18 : decode (g_m 40).2.1 18 = .ok (.bipush 100, 2) := by decide +kernel
theorem d_40_20 : decode (g_m 40).2.1 20 = .ok (.invokevirtual 103, 3) := by decide +kernel
theorem d_40_23 : decode (g_m 40).2.1 23 = .ok (.aload_n 0, 1) := by decide +kernel
theorem d_40_24 : decode (g_m 40).2.1 24 = .ok (.getfield 39, 3) := by decide +kernel
theorem d_40_27 : decode (g_m 40).2.1 27 = .ok (.iload_n 1, 1) := by decide +kernel
theorem d_40_28 : decode (g_m 40).2.1 28 = .ok (.invokevirtual 107, 3) := by decide +kernel
theorem d_40_31 : decode (g_m 40).2.1 31 = .ok (.aload_n 0, 1) := by decide +kernel
theorem d_40_32 : decode (g_m 40).2.1 32 = .ok (.getfield 39, 3) := by decide +kernel
theorem d_40_35 : decode (g_m 40).2.1 35 = .ok (.getfield 110, 3) := by decide +kernel
theorem d_40_38 : decode (g_m 40).2.1 38 = .ok (.ireturn, 1) := by decide +kernel
theorem d_41_0 : decode (g_m 41).2.1 0 = .ok (.aload_n 1, 1) := by decide +kernel
theorem d_41_1 : decode (g_m 41).2.1 1 = .ok (.invokevirtual 87, 3) := by decide +kernel
theorem d_41_4 : decode (g_m 41).2.1 4 = .ok (.iconst 0, 1) := by decide +kernel
theorem d_41_5 : decode (g_m 41).2.1 5 = .ok (.istore_n 3, 1) := by decide +kernel
theorem d_41_6 : decode (g_m 41).2.1 6 = .ok (.iload_n 3, 1) := by decide +kernel
theorem d_41_7 : decode (g_m 41).2.1 7 = .ok (.aload_n 0, 1) := by decide +kernel
theorem d_41_8 : decode (g_m 41).2.1 8 = .ok (.getfield 23, 3) := by decide +kernel
theorem d_41_11 : decode (g_m 41).2.1 11 = .ok (.getfield 59, 3) := by decide +kernel
theorem d_41_14 : decode (g_m 41).2.1 14 = .ok (.if_icmp .ge (36), 3) := by decide +kernel
theorem d_41_17 : decode (g_m 41).2.1 17 = .ok (.aload_n 0, 1) := by decide +kernel
theorem d_41_18 : decode (g_m 41).2.1 18 = .ok (.getfield 23, 3) := by decide +kernel
theorem d_41_21 : decode (g_m 41).2.1 21 = .ok (.iload_n 3, 1) := by decide +kernel
theorem d_41_22 : decode (g_m 41).2.1 22 = .ok (.invokevirtual 156, 3) := by decide +kernel
theorem d_41_25 : decode (g_m 41).2.1 25 = .ok (.ifCond .eq (19), 3) := by decide +kernel
theorem d_41_28 : decode (g_m 41).2.1 28 = .ok (.aload_n 1, 1) := by decide +kernel
theorem d_41_29 : decode (g_m 41).2.1 29 = .ok (.iload_n 3, 1) := by decide +kernel
theorem d_41_30 : decode (g_m 41).2.1 30 = .ok (.aload_n 0, 1) := by decide +kernel
theorem d_41_31 : decode (g_m 41).2.1 31 = .ok (.getfield 23, 3) := by decide +kernel
theorem d_41_34 : decode (g_m 41).2.1 34 = .ok (.bipush 100, 2) := by decide +kernel
theorem d_41_36 : decode (g_m 41).2.1 36 = .ok (.iload_n 3, 1) := by decide +kernel
theorem d_41_37 : decode (g_m 41).2.1 37 = .ok (.iload_n 2, 1) := by decide +kernel
theorem d_41_38 : decode (g_m 41).2.1 38 = .ok (.invokevirtual 124, 3) := by decide +kernel
theorem d_41_41 : decode (g_m 41).2.1 41 = .ok (.invokevirtual 128, 3) := by decide +kernel
theorem d_41_44 : decode (g_m 41).2.1 44 = .ok (.iinc 3 1, 3) := by decide +kernel
theorem d_41_47 : decode (g_m 41).2.1 47 = .ok (.goto (-41), 3) := by decide +kernel
theorem d_41_50 : decode (g_m 41).2.1 50 = .ok (.return_, 1) := by decide +kernel
theorem d_43_0 : decode (g_m 43).2.1 0 = .ok (.iload_n 1, 1) := by decide +kernel
theorem d_43_1 : decode (g_m 43).2.1 1 = .ok (.iload_n 2, 1) := by decide +kernel
theorem d_43_2 : decode (g_m 43).2.1 2 = .ok (.invokestatic 113, 3) := by decide +kernel
theorem d_43_5 : decode (g_m 43).2.1 5 = .ok (.ifCond .ne (5), 3) := by decide +kernel
theorem d_43_8 : decode (g_m 43).2.1 8 = .ok (.iconst (-1), 1) := by decide +kernel
theorem d_43_9 : decode (g_m 43).2.1 9 = .ok (.ireturn, 1) := by decide +kernel
theorem d_43_10 : decode (g_m 43).2.1 10 = .ok (.aload_n 0, 1) := by decide +kernel
theorem d_43_11 : decode (g_m 43).2.1 11 = .ok (.aload_n 0, 1) := by decide +kernel
theorem d_43_12 : decode (g_m 43).2.1 12 = .ok (.getfield 39, 3) := by decide +kernel
theorem d_43_15 : decode (g_m 43).2.1 15 = .ok (.iload_n 2, 1) := by decide +kernel
theorem d_43_16 : decode (g_m 43).2.1 16 = .ok (.invokevirtual 117, 3) := by decide +kernel
theorem d_43_19 : decode (g_m 43).2.1 19 = .ok (.aload_n 0, 1) := by decide +kernel
theorem d_43_20 : decode (g_m 43).2.1 20 = .ok (.getfield 39, 3) := by decide +kernel
theorem d_43_23 : decode (g_m 43).2.1 23 = .ok (.iload_n 1, 1) := by decide +kernel
theorem d_43_24 : decode (g_m 43).2.1 24 = .ok (.invokevirtual 107, 3) := by decide +kernel
theorem d_43_27 : decode (g_m 43).2.1 27 = .ok (.aload_n 0, 1) := by decide +kernel
theorem d_43_28 : decode (g_m 43).2.1 28 = .ok (.getfield 39, 3) := by decide +kernel
theorem d_43_31 : decode (g_m 43).2.1 31 = .ok (.getfield 110, 3) := by decide +kernel
theorem d_43_34 : decode (g_m 43).2.1 34 = .ok (.ireturn, 1) := by decide +kernel
theorem d_44_0 : decode (g_m 44).2.1 0 = .ok (.iload_n 0, 1) := by decide +kernel
theorem d_44_1 : decode (g_m 44).2.1 1 = .ok (.iconst 1, 1) := by decide +kernel
theorem d_44_2 : decode (g_m 44).2.1 2 = .ok (.if_icmp .lt (18), 3) := by decide +kernel
theorem d_44_5 : decode (g_m 44).2.1 5 = .ok (.iload_n 1, 1) := by decide +kernel
theorem d_44_6 : decode (g_m 44).2.1 6 = .ok (.iload_n 0, 1) := by decide +kernel
theorem d_44_7 : decode (g_m 44).2.1 7 = .ok (.if_icmp .lt (13), 3) := by decide +kernel
theorem d_44_10 : decode (g_m 44).2.1 10 = .ok (.iload_n 1, 1) := by decide +kernel
theorem d_44_11 : decode (g_m 44).2.1 11 = .ok (.bipush 60, 2) := by decide +kernel
theorem d_44_13 : decode (g_m 44).2.1 13 = .ok (.if_icmp .gt (7), 3) := by decide +kernel
theorem d_44_16 : decode (g_m 44).2.1 16 = .ok (.iconst 1, 1) := by decide +kernel
theorem d_44_17 : decode (g_m 44).2.1 17 = .ok (.goto (4), 3) := by decide +kernel
theorem d_44_20 : decode (g_m 44).2.1 20 = .ok (.iconst 0, 1) := by decide +kernel
theorem d_44_21 : decode (g_m 44).2.1 21 = .ok (.ireturn, 1) := by decide +kernel
theorem d_45_0 : decode (g_m 45).2.1 0 = .ok (.aload_n 0, 1) := by decide +kernel
theorem d_45_1 : decode (g_m 45).2.1 1 = .ok (.getfield 32, 3) := by decide +kernel
theorem d_45_4 : decode (g_m 45).2.1 4 = .ok (.iload_n 2, 1) := by decide +kernel
theorem d_45_5 : decode (g_m 45).2.1 5 = .ok (.invokevirtual 159, 3) := by decide +kernel
theorem d_45_8 : decode (g_m 45).2.1 8 = .ok (.aload_n 0, 1) := by decide +kernel
theorem d_45_9 : decode (g_m 45).2.1 9 = .ok (.aload_n 0, 1) := by decide +kernel
theorem d_45_10 : decode (g_m 45).2.1 10 = .ok (.getfield 32, 3) := by decide +kernel
theorem d_45_13 : decode (g_m 45).2.1 13 = .ok (.getfield 162, 3) := by decide +kernel
theorem d_45_16 : decode (g_m 45).2.1 16 = .ok (.putfield 49, 3) := by decide +kernel
theorem d_45_19 : decode (g_m 45).2.1 19 = .ok (.aload_n 1, 1) := by decide +kernel
theorem d_45_20 : decode (g_m 45).2.1 20 = .ok (.invokevirtual 87, 3) := by decide +kernel
theorem d_45_23 : decode (g_m 45).2.1 23 = .ok (.iconst 0, 1) := by decide +kernel
theorem d_45_24 : decode (g_m 45).2.1 24 = .ok (.istore_n 3, 1) := by decide +kernel
theorem d_45_25 : decode (g_m 45).2.1 25 = .ok (.iload_n 3, 1) := by decide +kernel
theorem d_45_26 : decode (g_m 45).2.1 26 = .ok (.aload_n 0, 1) := by decide +kernel
theorem d_45_27 : decode (g_m 45).2.1 27 = .ok (.getfield 32, 3) := by decide +kernel
theorem d_45_30 : decode (g_m 45).2.1 30 = .ok (.getfield 165, 3) := by decide +kernel
theorem d_45_33 : decode (g_m 45).2.1 33 = .ok (.getfield 110, 3) := by decide +kernel
theorem d_45_36 : decode (g_m 45).2.1 36 = .ok (.if_icmp .ge (51), 3) := by decide +kernel
theorem d_45_39 : decode (g_m 45).2.1 39 = .ok (.aload_n 0, 1) := by decide +kernel
theorem d_45_40 : decode (g_m 45).2.1 40 = .ok (.getfield 32, 3) := by decide +kernel
theorem d_45_43 : decode (g_m 45).2.1 43 = .ok (.getfield 165, 3) := by decide +kernel
theorem d_45_46 : decode (g_m 45).2.1 46 = .ok (.iload_n 3, 1) := by decide +kernel
theorem d_45_47 : decode (g_m 45).2.1 47 = .ok (.invokevirtual 120, 3) := by decide +kernel
theorem d_45_50 : decode (g_m 45).2.1 50 = .ok (.istore 4, 2) := by decide +kernel
theorem d_45_52 : decode (g_m 45).2.1 52 = .ok (.aload_n 0, 1) := by decide +kernel
theorem d_45_53 : decode (g_m 45).2.1 53 = .ok (.getfield 23, 3) := by decide +kernel
theorem d_45_56 : decode (g_m 45).2.1 56 = .ok (.iload 4, 2) := by decide +kernel
theorem d_45_58 : decode (g_m 45).2.1 58 = .ok (.invokevirtual 156, 3) := by decide +kernel
theorem d_45_61 : decode (g_m 45).2.1 61 = .ok (.ifCond .eq (20), 3) := by decide +kernel
theorem d_45_64 : decode (g_m 45).2.1 64 = .ok (.aload_n 1, 1) := by decide +kernel
theorem d_45_65 : decode (g_m 45).2.1 65 = .ok (.iload 4, 2) := by decide +kernel
theorem d_45_67 : decode (g_m 45).2.1 67 = .ok (.aload_n 0, 1) := by decide +kernel
theorem d_45_68 : decode (g_m 45).2.1 68 = .ok (.getfield 32, 3) := by decide +kernel
theorem d_45_71 : decode (g_m 45).2.1 71 = .ok (.getfield 165, 3) := by decide +kernel
theorem d_45_74 : decode (g_m 45).2.1 74 = .ok (.iload_n 3, 1) := by decide +kernel
theorem d_45_75 : decode (g_m 45).2.1 75 = .ok (.invokevirtual 168, 3) := by decide +kernel
theorem d_45_78 : decode (g_m 45).2.1 78 = .ok (.invokevirtual 128, 3) := by decide +kernel
theorem d_45_81 : decode (g_m 45).2.1 81 = .ok (.iinc 3 1, 3) := by decide +kernel
theorem d_45_84 : decode (g_m 45).2.1 84 = .ok (.goto (-59), 3) := by decide +kernel
theorem d_45_87 : decode (g_m 45).2.1 87 = .ok (.return_, 1) := by decide +kernel
theorem d_47_0 : decode (g_m 47).2.1 0 = .ok (.iload_n 1, 1) := by decide +kernel
theorem d_47_1 : decode (g_m 47).2.1 1 = .ok (.iconst 1, 1) := by decide +kernel
theorem d_47_2 : decode (g_m 47).2.1 2 = .ok (.if_icmp .lt (25), 3) := by decide +kernel
theorem d_47_5 : decode (g_m 47).2.1 5 = .ok (.iload_n 2, 1) := by decide +kernel
theorem d_47_6 : decode (g_m 47).2.1 6 = .ok (.iload_n 1, 1) := by decide +kernel
theorem d_47_7 : decode (g_m 47).2.1 7 = .ok (.if_icmp .lt (20), 3) := by decide +kernel
theorem d_47_10 : decode (g_m 47).2.1 10 = .ok (.iload_n 2, 1) := by decide +kernel
theorem d_47_11 : decode (g_m 47).2.1 11 = .ok (.bipush 100, 2) := by decide +kernel
theorem d_47_13 : decode (g_m 47).2.1 13 = .ok (.if_icmp .gt (14), 3) := by decide +kernel
theorem d_47_16 : decode (g_m 47).2.1 16 = .ok (.iload_n 3, 1) := by decide +kernel
theorem d_47_17 : decode (g_m 47).2.1 17 = .ok (.iconst 1, 1) := by decide +kernel
theorem d_47_18 : decode (g_m 47).2.1 18 = .ok (.if_icmp .lt (9), 3) := by decide +kernel
theorem d_47_21 : decode (g_m 47).2.1 21 = .ok (.iload_n 3, 1) := by decide +kernel
theorem d_47_22 : decode (g_m 47).2.1 22 = .ok (.bipush 100, 2) := by decide +kernel
theorem d_47_24 : decode (g_m 47).2.1 24 = .ok (.if_icmp .le (5), 3) := by decide +kernel
theorem d_47_27 : decode (g_m 47).2.1 27 = .ok (.iconst (-1), 1) := by decide +kernel
theorem d_47_28 : decode (g_m 47).2.1 28 = .ok (.ireturn, 1) := by decide +kernel
theorem d_47_29 : decode (g_m 47).2.1 29 = .ok (.aload_n 0, 1) := by decide +kernel
theorem d_47_30 : decode (g_m 47).2.1 30 = .ok (.aload_n 0, 1) := by decide +kernel
theorem d_47_31 : decode (g_m 47).2.1 31 = .ok (.getfield 43, 3) := by decide +kernel
theorem d_47_34 : decode (g_m 47).2.1 34 = .ok (.iload_n 3, 1) := by decide +kernel
theorem d_47_35 : decode (g_m 47).2.1 35 = .ok (.invokevirtual 103, 3) := by decide +kernel
theorem d_47_38 : decode (g_m 47).2.1 38 = .ok (.aload_n 0, 1) := by decide +kernel
theorem d_47_39 : decode (g_m 47).2.1 39 = .ok (.getfield 43, 3) := by decide +kernel
theorem d_47_42 : decode (g_m 47).2.1 42 = .ok (.iload_n 2, 1) := by decide +kernel
theorem d_47_43 : decode (g_m 47).2.1 43 = .ok (.invokevirtual 107, 3) := by decide +kernel
theorem d_47_46 : decode (g_m 47).2.1 46 = .ok (.aload_n 0, 1) := by decide +kernel
theorem d_47_47 : decode (g_m 47).2.1 47 = .ok (.getfield 39, 3) := by decide +kernel
theorem d_47_50 : decode (g_m 47).2.1 50 = .ok (.invokevirtual 87, 3) := by decide +kernel
theorem d_47_53 : decode (g_m 47).2.1 53 = .ok (.iconst 0, 1) := by decide +kernel
theorem d_47_54 : decode (g_m 47).2.1 54 = .ok (.istore 4, 2) := by decide +kernel
theorem d_47_56 : decode (g_m 47).2.1 56 = .ok (.iload 4, 2) := by decide +kernel
theorem d_47_58 : decode (g_m 47).2.1 58 = .ok (.aload_n 0, 1) := by decide +kernel
theorem d_47_59 : decode (g_m 47).2.1 59 = .ok (.getfield 43, 3) := by decide +kernel
theorem d_47_62 : decode (g_m 47).2.1 62 = .ok (.getfield 110, 3) := by decide +kernel
theorem d_47_65 : decode (g_m 47).2.1 65 = .ok (.if_icmp .ge (42), 3) := by decide +kernel
theorem d_47_68 : decode (g_m 47).2.1 68 = .ok (.aload_n 0, 1) := by decide +kernel
theorem d_47_69 : decode (g_m 47).2.1 69 = .ok (.getfield 43, 3) := by decide +kernel
theorem d_47_72 : decode (g_m 47).2.1 72 = .ok (.iload 4, 2) := by decide +kernel
theorem d_47_74 : decode (g_m 47).2.1 74 = .ok (.invokevirtual 120, 3) := by decide +kernel
theorem d_47_77 : decode (g_m 47).2.1 77 = .ok (.istore 5, 2) := by decide +kernel
theorem d_47_79 : decode (g_m 47).2.1 79 = .ok (.aload_n 0, 1) := by decide +kernel
theorem d_47_80 : decode (g_m 47).2.1 80 = .ok (.getfield 39, 3) := by decide +kernel
theorem d_47_83 : decode (g_m 47).2.1 83 = .ok (.iload 5, 2) := by decide +kernel
theorem d_47_85 : decode (g_m 47).2.1 85 = .ok (.aload_n 0, 1) := by decide +kernel
theorem d_47_86 : decode (g_m 47).2.1 86 = .ok (.getfield 23, 3) := by decide +kernel
theorem d_47_89 : decode (g_m 47).2.1 89 = .ok (.bipush 100, 2) := by decide +kernel
theorem d_47_91 : decode (g_m 47).2.1 91 = .ok (.iload 5, 2) := by decide +kernel
theorem d_47_93 : decode (g_m 47).2.1 93 = .ok (.bipush 100, 2) := by decide +kernel
theorem d_47_95 : decode (g_m 47).2.1 95 = .ok (.invokevirtual 124, 3) := by decide +kernel
theorem d_47_98 : decode (g_m 47).2.1 98 = .ok (.invokevirtual 128, 3) := by decide +kernel
theorem d_47_101 : decode (g_m 47).2.1 101 = .ok (.iinc 4 1, 3) := by decide +kernel
theorem d_47_104 : decode (g_m 47).2.1 104 = .ok (.goto (-48), 3) := by decide +kernel
theorem d_47_107 : decode (g_m 47).2.1 107 = .ok (.aload_n 0, 1) := by decide +kernel
theorem d_47_108 : decode (g_m 47).2.1 108 = .ok (.getfield 39, 3) := by decide +kernel
theorem d_47_111 : decode (g_m 47).2.1 111 = .ok (.iload_n 1, 1) := by decide +kernel
theorem d_47_112 : decode (g_m 47).2.1 112 = .ok (.invokevirtual 107, 3) := by decide +kernel
theorem d_47_115 : decode (g_m 47).2.1 115 = .ok (.aload_n 0, 1) := by decide +kernel
theorem d_47_116 : decode (g_m 47).2.1 116 = .ok (.getfield 39, 3) := by decide +kernel
theorem d_47_119 : decode (g_m 47).2.1 119 = .ok (.getfield 110, 3) := by decide +kernel
theorem d_47_122 : decode (g_m 47).2.1 122 = .ok (.ireturn, 1) := by decide +kernel
theorem d_48_0 : decode (g_m 48).2.1 0 = .ok (.iload_n 1, 1) := by decide +kernel
theorem d_48_1 : decode (g_m 48).2.1 1 = .ok (.iload_n 2, 1) := by decide +kernel
theorem d_48_2 : decode (g_m 48).2.1 2 = .ok (.invokestatic 113, 3) := by decide +kernel
theorem d_48_5 : decode (g_m 48).2.1 5 = .ok (.ifCond .ne (5), 3) := by decide +kernel
theorem d_48_8 : decode (g_m 48).2.1 8 = .ok (.iconst (-1), 1) := by decide +kernel
theorem d_48_9 : decode (g_m 48).2.1 9 = .ok (.ireturn, 1) := by decide +kernel
theorem d_48_10 : decode (g_m 48).2.1 10 = .ok (.aload_n 0, 1) := by decide +kernel
theorem d_48_11 : decode (g_m 48).2.1 11 = .ok (.aload_n 0, 1) := by decide +kernel
theorem d_48_12 : decode (g_m 48).2.1 12 = .ok (.getfield 43, 3) := by decide +kernel
theorem d_48_15 : decode (g_m 48).2.1 15 = .ok (.bipush 100, 2) := by decide +kernel
theorem d_48_17 : decode (g_m 48).2.1 17 = .ok (.invokevirtual 103, 3) := by decide +kernel
theorem d_48_20 : decode (g_m 48).2.1 20 = .ok (.aload_n 0, 1) := by decide +kernel
theorem d_48_21 : decode (g_m 48).2.1 21 = .ok (.getfield 43, 3) := by decide +kernel
theorem d_48_24 : decode (g_m 48).2.1 24 = .ok (.iload_n 1, 1) := by decide +kernel
theorem d_48_25 : decode (g_m 48).2.1 25 = .ok (.invokevirtual 107, 3) := by decide +kernel
theorem d_48_28 : decode (g_m 48).2.1 28 = .ok (.aload_n 0, 1) := by decide +kernel
theorem d_48_29 : decode (g_m 48).2.1 29 = .ok (.aload_n 0, 1) := by decide +kernel
theorem d_48_30 : decode (g_m 48).2.1 30 = .ok (.getfield 46, 3) := by decide +kernel
theorem d_48_33 : decode (g_m 48).2.1 33 = .ok (.iload_n 2, 1) := by decide +kernel
theorem d_48_34 : decode (g_m 48).2.1 34 = .ok (.invokevirtual 117, 3) := by decide +kernel
theorem d_48_37 : decode (g_m 48).2.1 37 = .ok (.aload_n 0, 1) := by decide +kernel
theorem d_48_38 : decode (g_m 48).2.1 38 = .ok (.getfield 46, 3) := by decide +kernel
theorem d_48_41 : decode (g_m 48).2.1 41 = .ok (.iload_n 1, 1) := by decide +kernel
theorem d_48_42 : decode (g_m 48).2.1 42 = .ok (.invokevirtual 107, 3) := by decide +kernel
theorem d_48_45 : decode (g_m 48).2.1 45 = .ok (.iconst 0, 1) := by decide +kernel
theorem d_48_46 : decode (g_m 48).2.1 46 = .ok (.istore_n 3, 1) := by decide +kernel
theorem d_48_47 : decode (g_m 48).2.1 47 = .ok (.iconst 0, 1) := by decide +kernel
theorem d_48_48 : decode (g_m 48).2.1 48 = .ok (.istore 4, 2) := by decide +kernel
theorem d_48_50 : decode (g_m 48).2.1 50 = .ok (.iload 4, 2) := by decide +kernel
theorem d_48_52 : decode (g_m 48).2.1 52 = .ok (.aload_n 0, 1) := by decide +kernel
theorem d_48_53 : decode (g_m 48).2.1 53 = .ok (.getfield 46, 3) := by decide +kernel
theorem d_48_56 : decode (g_m 48).2.1 56 = .ok (.getfield 110, 3) := by decide +kernel
theorem d_48_59 : decode (g_m 48).2.1 59 = .ok (.if_icmp .ge (31), 3) := by decide +kernel
theorem d_48_62 : decode (g_m 48).2.1 62 = .ok (.aload_n 0, 1) := by decide +kernel
theorem d_48_63 : decode (g_m 48).2.1 63 = .ok (.getfield 43, 3) := by decide +kernel
theorem d_48_66 : decode (g_m 48).2.1 66 = .ok (.aload_n 0, 1) := by decide +kernel
theorem d_48_67 : decode (g_m 48).2.1 67 = .ok (.getfield 46, 3) := by decide +kernel
theorem d_48_70 : decode (g_m 48).2.1 70 = .ok (.iload 4, 2) := by decide +kernel
theorem d_48_72 : decode (g_m 48).2.1 72 = .ok (.invokevirtual 120, 3) := by decide +kernel
theorem d_48_75 : decode (g_m 48).2.1 75 = .ok (.invokevirtual 131, 3) := by decide +kernel
theorem d_48_78 : decode (g_m 48).2.1 78 = .ok (.ifCond .eq (6), 3) := by decide +kernel
theorem d_48_81 : decode (g_m 48).2.1 81 = .ok (.iinc 3 1, 3) := by decide +kernel
theorem d_48_84 : decode (g_m 48).2.1 84 = .ok (.iinc 4 1, 3) := by decide +kernel
theorem d_48_87 : decode (g_m 48).2.1 87 = .ok (.goto (-37), 3) := by decide +kernel
theorem d_48_90 : decode (g_m 48).2.1 90 = .ok (.iload_n 3, 1) := by decide +kernel
theorem d_48_91 : decode (g_m 48).2.1 91 = .ok (.ireturn, 1) := by decide +kernel
theorem d_50_0 : decode (g_m 50).2.1 0 = .ok (.aload_n 0, 1) := by decide +kernel
theorem d_50_1 : decode (g_m 50).2.1 1 = .ok (.getfield 39, 3) := by decide +kernel
theorem d_50_4 : decode (g_m 50).2.1 4 = .ok (.iload_n 1, 1) := by decide +kernel
theorem d_50_5 : decode (g_m 50).2.1 5 = .ok (.invokevirtual 120, 3) := by decide +kernel
theorem d_50_8 : decode (g_m 50).2.1 8 = .ok (.ireturn, 1) := by decide +kernel
theorem d_51_0 : decode (g_m 51).2.1 0 = .ok (.aload_n 0, 1) := by decide +kernel
theorem d_51_1 : decode (g_m 51).2.1 1 = .ok (.getfield 23, 3) := by decide +kernel
theorem d_51_4 : decode (g_m 51).2.1 4 = .ok (.iload_n 1, 1) := by decide +kernel
theorem d_51_5 : decode (g_m 51).2.1 5 = .ok (.invokevirtual 69, 3) := by decide +kernel
theorem d_51_8 : decode (g_m 51).2.1 8 = .ok (.ifCond .eq (18), 3) := by decide +kernel
theorem d_51_11 : decode (g_m 51).2.1 11 = .ok (.aload_n 0, 1) := by decide +kernel
theorem d_51_12 : decode (g_m 51).2.1 12 = .ok (.getfield 23, 3) := by decide +kernel
theorem d_51_15 : decode (g_m 51).2.1 15 = .ok (.bipush 100, 2) := by decide +kernel
theorem d_51_17 : decode (g_m 51).2.1 17 = .ok (.iload_n 1, 1) := by decide +kernel
theorem d_51_18 : decode (g_m 51).2.1 18 = .ok (.bipush 100, 2) := by decide +kernel
theorem d_51_20 : decode (g_m 51).2.1 20 = .ok (.invokevirtual 124, 3) := by decide +kernel
theorem d_51_23 : decode (g_m 51).2.1 23 = .ok (.goto (4), 3) := by decide +kernel
theorem d_51_26 : decode (g_m 51).2.1 26 = .ok (.iconst (-1), 1) := by decide +kernel
theorem d_51_27 : decode (g_m 51).2.1 27 = .ok (.ireturn, 1) := by decide +kernel
theorem d_52_0 : decode (g_m 52).2.1 0 = .ok (.aload_n 0, 1) := by decide +kernel
theorem d_52_1 : decode (g_m 52).2.1 1 = .ok (.getfield 23, 3) := by decide +kernel
theorem d_52_4 : decode (g_m 52).2.1 4 = .ok (.iload_n 1, 1) := by decide +kernel
theorem d_52_5 : decode (g_m 52).2.1 5 = .ok (.invokevirtual 69, 3) := by decide +kernel
theorem d_52_8 : decode (g_m 52).2.1 8 = .ok (.ifCond .eq (28), 3) := by decide +kernel
theorem d_52_11 : decode (g_m 52).2.1 11 = .ok (.aload_n 0, 1) := by decide +kernel
theorem d_52_12 : decode (g_m 52).2.1 12 = .ok (.getfield 23, 3) := by decide +kernel
theorem d_52_15 : decode (g_m 52).2.1 15 = .ok (.iload_n 2, 1) := by decide +kernel
theorem d_52_16 : decode (g_m 52).2.1 16 = .ok (.invokevirtual 69, 3) := by decide +kernel
theorem d_52_19 : decode (g_m 52).2.1 19 = .ok (.ifCond .eq (17), 3) := by decide +kernel
theorem d_52_22 : decode (g_m 52).2.1 22 = .ok (.aload_n 0, 1) := by decide +kernel
theorem d_52_23 : decode (g_m 52).2.1 23 = .ok (.getfield 23, 3) := by decide +kernel
theorem d_52_26 : decode (g_m 52).2.1 26 = .ok (.iload_n 1, 1) := by decide +kernel
theorem d_52_27 : decode (g_m 52).2.1 27 = .ok (.iload_n 2, 1) := by decide +kernel
theorem d_52_28 : decode (g_m 52).2.1 28 = .ok (.bipush 100, 2) := by decide +kernel
theorem d_52_30 : decode (g_m 52).2.1 30 = .ok (.invokevirtual 124, 3) := by decide +kernel
theorem d_52_33 : decode (g_m 52).2.1 33 = .ok (.goto (4), 3) := by decide +kernel
theorem d_52_36 : decode (g_m 52).2.1 36 = .ok (.iconst (-1), 1) := by decide +kernel
theorem d_52_37 : decode (g_m 52).2.1 37 = .ok (.ireturn, 1) := by decide +kernel
theorem d_53_0 : decode (g_m 53).2.1 0 = .ok (.aload_n 0, 1) := by decide +kernel
theorem d_53_1 : decode (g_m 53).2.1 1 = .ok (.getfield 49, 3) := by decide +kernel
theorem d_53_4 : decode (g_m 53).2.1 4 = .ok (.ireturn, 1) := by decide +kernel
theorem d_54_0 : decode (g_m 54).2.1 0 = .ok (.aload_n 0, 1) := by decide +kernel
theorem d_54_1 : decode (g_m 54).2.1 1 = .ok (.getfield 23, 3) := by decide +kernel
theorem d_54_4 : decode (g_m 54).2.1 4 = .ok (.iload_n 1, 1) := by decide +kernel
theorem d_54_5 : decode (g_m 54).2.1 5 = .ok (.invokevirtual 69, 3) := by decide +kernel
theorem d_54_8 : decode (g_m 54).2.1 8 = .ok (.ifCond .eq (14), 3) := by decide +kernel
theorem d_54_11 : decode (g_m 54).2.1 11 = .ok (.aload_n 0, 1) := by decide +kernel
theorem d_54_12 : decode (g_m 54).2.1 12 = .ok (.getfield 32, 3) := by decide +kernel
theorem d_54_15 : decode (g_m 54).2.1 15 = .ok (.iload_n 1, 1) := by decide +kernel
theorem d_54_16 : decode (g_m 54).2.1 16 = .ok (.invokevirtual 134, 3) := by decide +kernel
theorem d_54_19 : decode (g_m 54).2.1 19 = .ok (.goto (4), 3) := by decide +kernel
theorem d_54_22 : decode (g_m 54).2.1 22 = .ok (.iconst (-1), 1) := by decide +kernel
theorem d_54_23 : decode (g_m 54).2.1 23 = .ok (.ireturn, 1) := by decide +kernel
theorem d_55_0 : decode (g_m 55).2.1 0 = .ok (.aload_n 0, 1) := by decide +kernel
theorem d_55_1 : decode (g_m 55).2.1 1 = .ok (.getfield 32, 3) := by decide +kernel
theorem d_55_4 : decode (g_m 55).2.1 4 = .ok (.getfield 137, 3) := by decide +kernel
theorem d_55_7 : decode (g_m 55).2.1 7 = .ok (.ireturn, 1) := by decide +kernel
theorem d_56_0 : decode (g_m 56).2.1 0 = .ok (.aload_n 0, 1) := by decide +kernel
theorem d_56_1 : decode (g_m 56).2.1 1 = .ok (.getfield 23, 3) := by decide +kernel
theorem d_56_4 : decode (g_m 56).2.1 4 = .ok (.iload_n 1, 1) := by decide +kernel
theorem d_56_5 : decode (g_m 56).2.1 5 = .ok (.invokevirtual 69, 3) := by decide +kernel
theorem d_56_8 : decode (g_m 56).2.1 8 = .ok (.ifCond .eq (19), 3) := by decide +kernel
theorem d_56_11 : decode (g_m 56).2.1 11 = .ok (.iload_n 2, 1) := by decide +kernel
theorem d_56_12 : decode (g_m 56).2.1 12 = .ok (.ifCond .lt (15), 3) := by decide +kernel
theorem d_56_15 : decode (g_m 56).2.1 15 = .ok (.iload_n 2, 1) := by decide +kernel
theorem d_56_16 : decode (g_m 56).2.1 16 = .ok (.aload_n 0, 1) := by decide +kernel
theorem d_56_17 : decode (g_m 56).2.1 17 = .ok (.getfield 32, 3) := by decide +kernel
theorem d_56_20 : decode (g_m 56).2.1 20 = .ok (.iload_n 1, 1) := by decide +kernel
theorem d_56_21 : decode (g_m 56).2.1 21 = .ok (.invokevirtual 134, 3) := by decide +kernel
theorem d_56_24 : decode (g_m 56).2.1 24 = .ok (.if_icmp .le (5), 3) := by decide +kernel
theorem d_56_27 : decode (g_m 56).2.1 27 = .ok (.iconst (-1), 1) := by decide +kernel
theorem d_56_28 : decode (g_m 56).2.1 28 = .ok (.ireturn, 1) := by decide +kernel
theorem d_56_29 : decode (g_m 56).2.1 29 = .ok (.aload_n 0, 1) := by decide +kernel
theorem d_56_30 : decode (g_m 56).2.1 30 = .ok (.getfield 32, 3) := by decide +kernel
theorem d_56_33 : decode (g_m 56).2.1 33 = .ok (.iload_n 1, 1) := by decide +kernel
theorem d_56_34 : decode (g_m 56).2.1 34 = .ok (.iload_n 2, 1) := by decide +kernel
theorem d_56_35 : decode (g_m 56).2.1 35 = .ok (.invokevirtual 140, 3) := by decide +kernel
theorem d_56_38 : decode (g_m 56).2.1 38 = .ok (.istore 4, 2) := by decide +kernel
theorem d_56_40 : decode (g_m 56).2.1 40 = .ok (.iload_n 3, 1) := by decide +kernel
theorem d_56_41 : decode (g_m 56).2.1 41 = .ok (.iconst (-1), 1) := by decide +kernel
theorem d_56_42 : decode (g_m 56).2.1 42 = .ok (.if_icmp .ne (6), 3) := by decide +kernel
theorem d_56_45 : decode (g_m 56).2.1 45 = .ok (.iload 4, 2) := by decide +kernel
theorem d_56_47 : decode (g_m 56).2.1 47 = .ok (.ireturn, 1) := by decide +kernel
theorem d_56_48 : decode (g_m 56).2.1 48 = .ok (.iload_n 3, 1) := by decide +kernel
theorem d_56_49 : decode (g_m 56).2.1 49 = .ok (.ifCond .lt (22), 3) := by decide +kernel
theorem d_56_52 : decode (g_m 56).2.1 52 = .ok (.iload_n 3, 1) := by decide +kernel
theorem d_56_53 : decode (g_m 56).2.1 53 = .ok (.iload 4, 2) := by decide +kernel
theorem d_56_55 : decode (g_m 56).2.1 55 = .ok (.if_icmp .ge (16), 3) := by decide +kernel
theorem d_56_58 : decode (g_m 56).2.1 58 = .ok (.aload_n 0, 1) := by decide +kernel
theorem d_56_59 : decode (g_m 56).2.1 59 = .ok (.getfield 32, 3) := by decide +kernel
theorem d_56_62 : decode (g_m 56).2.1 62 = .ok (.iload_n 1, 1) := by decide +kernel
theorem d_56_63 : decode (g_m 56).2.1 63 = .ok (.iload_n 2, 1) := by decide +kernel
theorem d_56_64 : decode (g_m 56).2.1 64 = .ok (.iload_n 3, 1) := by decide +kernel
theorem d_56_65 : decode (g_m 56).2.1 65 = .ok (.invokevirtual 143, 3) := by decide +kernel
theorem d_56_68 : decode (g_m 56).2.1 68 = .ok (.goto (4), 3) := by decide +kernel
theorem d_56_71 : decode (g_m 56).2.1 71 = .ok (.iconst (-1), 1) := by decide +kernel
theorem d_56_72 : decode (g_m 56).2.1 72 = .ok (.ireturn, 1) := by decide +kernel
theorem d_57_0 : decode (g_m 57).2.1 0 = .ok (.aload_n 0, 1) := by decide +kernel
theorem d_57_1 : decode (g_m 57).2.1 1 = .ok (.getfield 32, 3) := by decide +kernel
theorem d_57_4 : decode (g_m 57).2.1 4 = .ok (.invokevirtual 146, 3) := by decide +kernel
theorem d_57_7 : decode (g_m 57).2.1 7 = .ok (.ireturn, 1) := by decide +kernel
theorem d_60_0 : decode (g_m 60).2.1 0 = .ok (.iload_n 1, 1) := by decide +kernel
theorem d_60_1 : decode (g_m 60).2.1 1 = .ok (.tableswitch 145 0 8 #[51, 59, 74, 89, 97, 105, 113, 121, 137], 51) := by decide +kernel
theorem d_60_52 : decode (g_m 60).2.1 52 = .ok (.aload_n 0, 1) := by decide +kernel
theorem d_60_53 : decode (g_m 60).2.1 53 = .ok (.getfield 23, 3) := by decide +kernel
theorem d_60_56 : decode (g_m 60).2.1 56 = .ok (.getfield 59, 3) := by decide +kernel
theorem d_60_59 : decode (g_m 60).2.1 59 = .ok (.ireturn, 1) := by decide +kernel
theorem d_60_60 : decode (g_m 60).2.1 60 = .ok (.aload_n 0, 1) := by decide +kernel
theorem d_60_61 : decode (g_m 60).2.1 61 = .ok (.getfield 23, 3) := by decide +kernel
theorem d_60_64 : decode (g_m 60).2.1 64 = .ok (.aload_n 0, 1) := by decide +kernel
theorem d_60_65 : decode (g_m 60).2.1 65 = .ok (.getfield 23, 3) := by decide +kernel
theorem d_60_68 : decode (g_m 60).2.1 68 = .ok (.getfield 77, 3) := by decide +kernel
theorem d_60_71 : decode (g_m 60).2.1 71 = .ok (.invokevirtual 149, 3) := by decide +kernel
theorem d_60_74 : decode (g_m 60).2.1 74 = .ok (.ireturn, 1) := by decide +kernel
theorem d_60_75 : decode (g_m 60).2.1 75 = .ok (.aload_n 0, 1) := by decide +kernel
theorem d_60_76 : decode (g_m 60).2.1 76 = .ok (.getfield 23, 3) := by decide +kernel
theorem d_60_79 : decode (g_m 60).2.1 79 = .ok (.aload_n 0, 1) := by decide +kernel
theorem d_60_80 : decode (g_m 60).2.1 80 = .ok (.getfield 23, 3) := by decide +kernel
theorem d_60_83 : decode (g_m 60).2.1 83 = .ok (.getfield 81, 3) := by decide +kernel
theorem d_60_86 : decode (g_m 60).2.1 86 = .ok (.invokevirtual 149, 3) := by decide +kernel
theorem d_60_89 : decode (g_m 60).2.1 89 = .ok (.ireturn, 1) := by decide +kernel
theorem d_60_90 : decode (g_m 60).2.1 90 = .ok (.aload_n 0, 1) := by decide +kernel
theorem d_60_91 : decode (g_m 60).2.1 91 = .ok (.getfield 23, 3) := by decide +kernel
theorem d_60_94 : decode (g_m 60).2.1 94 = .ok (.invokevirtual 153, 3) := by decide +kernel
theorem d_60_97 : decode (g_m 60).2.1 97 = .ok (.ireturn, 1) := by decide +kernel
theorem d_60_98 : decode (g_m 60).2.1 98 = .ok (.aload_n 0, 1) := by decide +kernel
theorem d_60_99 : decode (g_m 60).2.1 99 = .ok (.getfield 23, 3) := by decide +kernel
theorem d_60_102 : decode (g_m 60).2.1 102 = .ok (.getfield 53, 3) := by decide +kernel
theorem d_60_105 : decode (g_m 60).2.1 105 = .ok (.ireturn, 1) := by decide +kernel
theorem d_60_106 : decode (g_m 60).2.1 106 = .ok (.aload_n 0, 1) := by decide +kernel
theorem d_60_107 : decode (g_m 60).2.1 107 = .ok (.getfield 23, 3) := by decide +kernel
theorem d_60_110 : decode (g_m 60).2.1 110 = .ok (.getfield 93, 3) := by decide +kernel
theorem d_60_113 : decode (g_m 60).2.1 113 = .ok (.ireturn, 1) := by decide +kernel
theorem d_60_114 : decode (g_m 60).2.1 114 = .ok (.aload_n 0, 1) := by decide +kernel
theorem d_60_115 : decode (g_m 60).2.1 115 = .ok (.getfield 32, 3) := by decide +kernel
theorem d_60_118 : decode (g_m 60).2.1 118 = .ok (.getfield 96, 3) := by decide +kernel
theorem d_60_121 : decode (g_m 60).2.1 121 = .ok (.ireturn, 1) := by decide +kernel
theorem d_60_122 : decode (g_m 60).2.1 122 = .ok (.aload_n 0, 1) := by decide +kernel
theorem d_60_123 : decode (g_m 60).2.1 123 = .ok (.getfield 32, 3) := by decide +kernel
theorem d_60_126 : decode (g_m 60).2.1 126 = .ok (.getfield 99, 3) := by decide +kernel
theorem d_60_129 : decode (g_m 60).2.1 129 = .ok (.ifCond .eq (7), 3) := by decide +kernel
theorem d_60_132 : decode (g_m 60).2.1 132 = .ok (.iconst 1, 1) := by decide +kernel
theorem d_60_133 : decode (g_m 60).2.1 133 = .ok (.goto (4), 3) := by decide +kernel
theorem d_60_136 : decode (g_m 60).2.1 136 = .ok (.iconst 0, 1) := by decide +kernel
theorem d_60_137 : decode (g_m 60).2.1 137 = .ok (.ireturn, 1) := by decide +kernel
theorem d_60_138 : decode (g_m 60).2.1 138 = .ok (.aload_n 0, 1) := by decide +kernel
theorem d_60_139 : decode (g_m 60).2.1 139 = .ok (.getfield 39, 3) := by decide +kernel
theorem d_60_142 : decode (g_m 60).2.1 142 = .ok (.getfield 110, 3) := by decide +kernel
theorem d_60_145 : decode (g_m 60).2.1 145 = .ok (.ireturn, 1) := by decide +kernel
theorem d_60_146 : decode (g_m 60).2.1 146 = .ok (.iconst (-1), 1) := by decide +kernel
theorem d_60_147 : decode (g_m 60).2.1 147 = .ok (.ireturn, 1) := by decide +kernel
end
section
theorem d_64_0 : decode (g_m 64).2.1 0 = .ok (.aload_n 0, 1) := by decide +kernel
theorem d_64_1 : decode (g_m 64).2.1 1 = .ok (.invokespecial 7, 3) := by decide +kernel
theorem d_64_4 : decode (g_m 64).2.1 4 = .ok (.aload_n 0, 1) := by decide +kernel
theorem d_64_5 : decode (g_m 64).2.1 5 = .ok (.iconst 4, 1) := by decide +kernel
theorem d_64_6 : decode (g_m 64).2.1 6 = .ok (.putfield 13, 3) := by decide +kernel
theorem d_64_9 : decode (g_m 64).2.1 9 = .ok (.aload_n 0, 1) := by decide +kernel
theorem d_64_10 : decode (g_m 64).2.1 10 = .ok (.iconst 1, 1) := by decide +kernel
theorem d_64_11 : decode (g_m 64).2.1 11 = .ok (.putfield 16, 3) := by decide +kernel
theorem d_64_14 : decode (g_m 64).2.1 14 = .ok (.aload_n 0, 1) := by decide +kernel
theorem d_64_15 : decode (g_m 64).2.1 15 = .ok (.sipush 808, 3) := by decide +kernel
theorem d_64_18 : decode (g_m 64).2.1 18 = .ok (.newarray .int, 2) := by decide +kernel
theorem d_64_20 : decode (g_m 64).2.1 20 = .ok (.putfield 19, 3) := by decide +kernel
theorem d_64_23 : decode (g_m 64).2.1 23 = .ok (.aload_n 0, 1) := by decide +kernel
theorem d_64_24 : decode (g_m 64).2.1 24 = .ok (.bipush 100, 2) := by decide +kernel
theorem d_64_26 : decode (g_m 64).2.1 26 = .ok (.newarray .boolean, 2) := by decide +kernel
theorem d_64_28 : decode (g_m 64).2.1 28 = .ok (.putfield 23, 3) := by decide +kernel
theorem d_64_31 : decode (g_m 64).2.1 31 = .ok (.aload_n 0, 1) := by decide +kernel
theorem d_64_32 : decode (g_m 64).2.1 32 = .ok (.bipush 100, 2) := by decide +kernel
theorem d_64_34 : decode (g_m 64).2.1 34 = .ok (.newarray .boolean, 2) := by decide +kernel
theorem d_64_36 : decode (g_m 64).2.1 36 = .ok (.putfield 27, 3) := by decide +kernel
theorem d_64_39 : decode (g_m 64).2.1 39 = .ok (.aload_n 0, 1) := by decide +kernel
theorem d_64_40 : decode (g_m 64).2.1 40 = .ok (.bipush 100, 2) := by decide +kernel
theorem d_64_42 : decode (g_m 64).2.1 42 = .ok (.newarray .int, 2) := by decide +kernel
theorem d_64_44 : decode (g_m 64).2.1 44 = .ok (.putfield 30, 3) := by decide +kernel
theorem d_64_47 : decode (g_m 64).2.1 47 = .ok (.aload_n 0, 1) := by decide +kernel
theorem d_64_48 : decode (g_m 64).2.1 48 = .ok (.bipush 100, 2) := by decide +kernel
theorem d_64_50 : decode (g_m 64).2.1 50 = .ok (.newarray .int, 2) := by decide +kernel
theorem d_64_52 : decode (g_m 64).2.1 52 = .ok (.putfield 33, 3) := by decide +kernel
theorem d_64_55 : decode (g_m 64).2.1 55 = .ok (.aload_n 0, 1) := by decide +kernel
theorem d_64_56 : decode (g_m 64).2.1 56 = .ok (.ldc 36, 2) := by decide +kernel
theorem d_64_58 : decode (g_m 64).2.1 58 = .ok (.newarray .boolean, 2) := by decide +kernel
theorem d_64_60 : decode (g_m 64).2.1 60 = .ok (.putfield 37, 3) := by decide +kernel
theorem d_64_63 : decode (g_m 64).2.1 63 = .ok (.aload_n 0, 1) := by decide +kernel
theorem d_64_64 : decode (g_m 64).2.1 64 = .ok (.iconst (-1), 1) := by decide +kernel
theorem d_64_65 : decode (g_m 64).2.1 65 = .ok (.putfield 40, 3) := by decide +kernel
theorem d_64_68 : decode (g_m 64).2.1 68 = .ok (.aload_n 0, 1) := by decide +kernel
theorem d_64_69 : decode (g_m 64).2.1 69 = .ok (.sipush 10100, 3) := by decide +kernel
theorem d_64_72 : decode (g_m 64).2.1 72 = .ok (.newarray .int, 2) := by decide +kernel
theorem d_64_74 : decode (g_m 64).2.1 74 = .ok (.putfield 43, 3) := by decide +kernel
theorem d_64_77 : decode (g_m 64).2.1 77 = .ok (.aload_n 0, 1) := by decide +kernel
theorem d_64_78 : decode (g_m 64).2.1 78 = .ok (.bipush 100, 2) := by decide +kernel
theorem d_64_80 : decode (g_m 64).2.1 80 = .ok (.newarray .boolean, 2) := by decide +kernel
theorem d_64_82 : decode (g_m 64).2.1 82 = .ok (.putfield 46, 3) := by decide +kernel
theorem d_64_85 : decode (g_m 64).2.1 85 = .ok (.aload_n 0, 1) := by decide +kernel
theorem d_64_86 : decode (g_m 64).2.1 86 = .ok (.bipush 100, 2) := by decide +kernel
theorem d_64_88 : decode (g_m 64).2.1 88 = .ok (.newarray .boolean, 2) := by decide +kernel
theorem d_64_90 : decode (g_m 64).2.1 90 = .ok (.putfield 49, 3) := by decide +kernel
theorem d_64_93 : decode (g_m 64).2.1 93 = .ok (.aload_n 0, 1) := by decide +kernel
theorem d_64_94 : decode (g_m 64).2.1 94 = .ok (.bipush 100, 2) := by decide +kernel
theorem d_64_96 : decode (g_m 64).2.1 96 = .ok (.newarray .boolean, 2) := by decide +kernel
theorem d_64_98 : decode (g_m 64).2.1 98 = .ok (.putfield 52, 3) := by decide +kernel
theorem d_64_101 : decode (g_m 64).2.1 101 = .ok (.aload_n 0, 1) := by decide +kernel
theorem d_64_102 : decode (g_m 64).2.1 102 = .ok (.bipush 100, 2) := by decide +kernel
theorem d_64_104 : decode (g_m 64).2.1 104 = .ok (.newarray .boolean, 2) := by decide +kernel
theorem d_64_106 : decode (g_m 64).2.1 106 = .ok (.putfield 55, 3) := by decide +kernel
theorem d_64_109 : decode (g_m 64).2.1 109 = .ok (.aload_n 0, 1) := by decide +kernel
theorem d_64_110 : decode (g_m 64).2.1 110 = .ok (.bipush 100, 2) := by decide +kernel
theorem d_64_112 : decode (g_m 64).2.1 112 = .ok (.newarray .boolean, 2) := by decide +kernel
theorem d_64_114 : decode (g_m 64).2.1 114 = .ok (.putfield 58, 3) := by decide +kernel
theorem d_64_117 : decode (g_m 64).2.1 117 = .ok (.aload_n 0, 1) := by decide +kernel
theorem d_64_118 : decode (g_m 64).2.1 118 = .ok (.bipush 100, 2) := by decide +kernel
theorem d_64_120 : decode (g_m 64).2.1 120 = .ok (.newarray .boolean, 2) := by decide +kernel
theorem d_64_122 : decode (g_m 64).2.1 122 = .ok (.putfield 61, 3) := by decide +kernel
theorem d_64_125 : decode (g_m 64).2.1 125 = .ok (.aload_n 0, 1) := by decide +kernel
theorem d_64_126 : decode (g_m 64).2.1 126 = .ok (.bipush 100, 2) := by decide +kernel
theorem d_64_128 : decode (g_m 64).2.1 128 = .ok (.newarray .int, 2) := by decide +kernel
theorem d_64_130 : decode (g_m 64).2.1 130 = .ok (.putfield 64, 3) := by decide +kernel
theorem d_64_133 : decode (g_m 64).2.1 133 = .ok (.aload_n 0, 1) := by decide +kernel
theorem d_64_134 : decode (g_m 64).2.1 134 = .ok (.bipush 100, 2) := by decide +kernel
theorem d_64_136 : decode (g_m 64).2.1 136 = .ok (.newarray .boolean, 2) := by decide +kernel
theorem d_64_138 : decode (g_m 64).2.1 138 = .ok (.putfield 67, 3) := by decide +kernel
theorem d_64_141 : decode (g_m 64).2.1 141 = .ok (.aload_n 0, 1) := by decide +kernel
theorem d_64_142 : decode (g_m 64).2.1 142 = .ok (.iconst 0, 1) := by decide +kernel
theorem d_64_143 : decode (g_m 64).2.1 143 = .ok (.putfield 1, 3) := by decide +kernel
theorem d_64_146 : decode (g_m 64).2.1 146 = .ok (.aload_n 0, 1) := by decide +kernel
theorem d_64_147 : decode (g_m 64).2.1 147 = .ok (.iload_n 1, 1) := by decide +kernel
theorem d_64_148 : decode (g_m 64).2.1 148 = .ok (.iconst 1, 1) := by decide +kernel
theorem d_64_149 : decode (g_m 64).2.1 149 = .ok (.if_icmp .ge (7), 3) := by decide +kernel
theorem d_64_152 : decode (g_m 64).2.1 152 = .ok (.iconst 1, 1) := by decide +kernel
theorem d_64_153 : decode (g_m 64).2.1 153 = .ok (.goto (15), 3) := by decide +kernel
theorem d_64_156 : decode (g_m 64).2.1 156 = .ok (.iload_n 1, 1) := by decide +kernel
theorem d_64_157 : decode (g_m 64).2.1 157 = .ok (.bipush 8, 2) := by decide +kernel
theorem d_64_159 : decode (g_m 64).2.1 159 = .ok (.if_icmp .le (8), 3) := by decide +kernel
theorem d_64_162 : decode (g_m 64).2.1 162 = .ok (.bipush 8, 2) := by decide +kernel
theorem d_64_164 : decode (g_m 64).2.1 164 = .ok (.goto (4), 3) := by decide +kernel
theorem d_64_167 : decode (g_m 64).2.1 167 = .ok (.iload_n 1, 1) := by decide +kernel
theorem d_64_168 : decode (g_m 64).2.1 168 = .ok (.putfield 70, 3) := by decide +kernel
theorem d_64_171 : decode (g_m 64).2.1 171 = .ok (.aload_n 0, 1) := by decide +kernel
theorem d_64_172 : decode (g_m 64).2.1 172 = .ok (.iload_n 2, 1) := by decide +kernel
theorem d_64_173 : decode (g_m 64).2.1 173 = .ok (.putfield 73, 3) := by decide +kernel
theorem d_64_176 : decode (g_m 64).2.1 176 = .ok (.return_, 1) := by decide +kernel
theorem d_65_0 : decode (g_m 65).2.1 0 = .ok (.aload_n 0, 1) := by decide +kernel
theorem d_65_1 : decode (g_m 65).2.1 1 = .ok (.iconst 0, 1) := by decide +kernel
theorem d_65_2 : decode (g_m 65).2.1 2 = .ok (.putfield 1, 3) := by decide +kernel
theorem d_65_5 : decode (g_m 65).2.1 5 = .ok (.iload_n 1, 1) := by decide +kernel
theorem d_65_6 : decode (g_m 65).2.1 6 = .ok (.i2l, 1) := by decide +kernel
theorem d_65_7 : decode (g_m 65).2.1 7 = .ok (.lconst 0, 1) := by decide +kernel
theorem d_65_8 : decode (g_m 65).2.1 8 = .ok (.aload_n 0, 1) := by decide +kernel
theorem d_65_9 : decode (g_m 65).2.1 9 = .ok (.getfield 70, 3) := by decide +kernel
theorem d_65_12 : decode (g_m 65).2.1 12 = .ok (.iconst 1, 1) := by decide +kernel
theorem d_65_13 : decode (g_m 65).2.1 13 = .ok (.isub, 1) := by decide +kernel
theorem d_65_14 : decode (g_m 65).2.1 14 = .ok (.i2l, 1) := by decide +kernel
theorem d_65_15 : decode (g_m 65).2.1 15 = .ok (.invokestatic 79, 3) := by decide +kernel
theorem d_65_18 : decode (g_m 65).2.1 18 = .ok (.ifCond .eq (17), 3) := by decide +kernel
theorem d_65_21 : decode (g_m 65).2.1 21 = .ok (.iload_n 2, 1) := by decide +kernel
theorem d_65_22 : decode (g_m 65).2.1 22 = .ok (.i2l, 1) := by decide +kernel
theorem d_65_23 : decode (g_m 65).2.1 23 = .ok (.ldc2_w 153, 3) := by decide +kernel
theorem d_65_26 : decode (g_m 65).2.1 26 = .ok (.ldc2_w 155, 3) := by decide +kernel
theorem d_65_29 : decode (g_m 65).2.1 29 = .ok (.invokestatic 79, 3) := by decide +kernel
theorem d_65_32 : decode (g_m 65).2.1 32 = .ok (.ifCond .ne (7), 3) := by decide +kernel
theorem d_65_35 : decode (g_m 65).2.1 35 = .ok (.sipush (-1000), 3) := by decide +kernel
theorem d_65_38 : decode (g_m 65).2.1 38 = .ok (.ireturn, 1) := by decide +kernel
theorem d_65_39 : decode (g_m 65).2.1 39 = .ok (.aload_n 0, 1) := by decide +kernel
theorem d_65_40 : decode (g_m 65).2.1 40 = .ok (.getfield 19, 3) := by decide +kernel
theorem d_65_43 : decode (g_m 65).2.1 43 = .ok (.sipush 800, 3) := by decide +kernel
theorem d_65_46 : decode (g_m 65).2.1 46 = .ok (.iload_n 1, 1) := by decide +kernel
theorem d_65_47 : decode (g_m 65).2.1 47 = .ok (.iadd, 1) := by decide +kernel
theorem d_65_48 : decode (g_m 65).2.1 48 = .ok (.iaload, 1) := by decide +kernel
theorem d_65_49 : decode (g_m 65).2.1 49 = .ok (.istore_n 3, 1) := by decide +kernel
theorem d_65_50 : decode (g_m 65).2.1 50 = .ok (.aload_n 0, 1) := by decide +kernel
theorem d_65_51 : decode (g_m 65).2.1 51 = .ok (.getfield 19, 3) := by decide +kernel
theorem d_65_54 : decode (g_m 65).2.1 54 = .ok (.sipush 800, 3) := by decide +kernel
theorem d_65_57 : decode (g_m 65).2.1 57 = .ok (.iload_n 1, 1) := by decide +kernel
theorem d_65_58 : decode (g_m 65).2.1 58 = .ok (.iadd, 1) := by decide +kernel
theorem d_65_59 : decode (g_m 65).2.1 59 = .ok (.iload_n 2, 1) := by decide +kernel
theorem d_65_60 : decode (g_m 65).2.1 60 = .ok (.iastore, 1) := by decide +kernel
theorem d_65_61 : decode (g_m 65).2.1 61 = .ok (.iload_n 3, 1) := by decide +kernel
theorem d_65_62 : decode (g_m 65).2.1 62 = .ok (.ireturn, 1) := by decide +kernel
theorem d_66_0 : decode (g_m 66).2.1 0 = .ok (.lload_n 0, 1) := by decide +kernel
theorem d_66_1 : decode (g_m 66).2.1 1 = .ok (.lload_n 2, 1) := by decide +kernel
theorem d_66_2 : decode (g_m 66).2.1 2 = .ok (.lcmp, 1) := by decide +kernel
theorem d_66_3 : decode (g_m 66).2.1 3 = .ok (.ifCond .lt (14), 3) := by decide +kernel
theorem d_66_6 : decode (g_m 66).2.1 6 = .ok (.lload_n 0, 1) := by decide +kernel
theorem d_66_7 : decode (g_m 66).2.1 7 = .ok (.lload 4, 2) := by decide +kernel
theorem d_66_9 : decode (g_m 66).2.1 9 = .ok (.lcmp, 1) := by decide +kernel
theorem d_66_10 : decode (g_m 66).2.1 10 = .ok (.ifCond .gt (7), 3) := by decide +kernel
theorem d_66_13 : decode (g_m 66).2.1 13 = .ok (.iconst 1, 1) := by decide +kernel
theorem d_66_14 : decode (g_m 66).2.1 14 = .ok (.goto (4), 3) := by decide +kernel
theorem d_66_17 : decode (g_m 66).2.1 17 = .ok (.iconst 0, 1) := by decide +kernel
theorem d_66_18 : decode (g_m 66).2.1 18 = .ok (.ireturn, 1) := by decide +kernel
theorem d_67_0 : decode (g_m 67).2.1 0 = .ok (.aload_n 0, 1) := by decide +kernel
theorem d_67_1 : decode (g_m 67).2.1 1 = .ok (.iconst 0, 1) := by decide +kernel
theorem d_67_2 : decode (g_m 67).2.1 2 = .ok (.putfield 1, 3) := by decide +kernel
theorem d_67_5 : decode (g_m 67).2.1 5 = .ok (.aload_n 0, 1) := by decide +kernel
theorem d_67_6 : decode (g_m 67).2.1 6 = .ok (.getfield 76, 3) := by decide +kernel
theorem d_67_9 : decode (g_m 67).2.1 9 = .ok (.bipush 100, 2) := by decide +kernel
theorem d_67_11 : decode (g_m 67).2.1 11 = .ok (.if_icmp .ne (6), 3) := by decide +kernel
theorem d_67_14 : decode (g_m 67).2.1 14 = .ok (.bipush (-3), 2) := by decide +kernel
theorem d_67_16 : decode (g_m 67).2.1 16 = .ok (.ireturn, 1) := by decide +kernel
theorem d_67_17 : decode (g_m 67).2.1 17 = .ok (.aload_n 0, 1) := by decide +kernel
theorem d_67_18 : decode (g_m 67).2.1 18 = .ok (.bipush 100, 2) := by decide +kernel
theorem d_67_20 : decode (g_m 67).2.1 20 = .ok (.aload_n 0, 1) := by decide +kernel
theorem d_67_21 : decode (g_m 67).2.1 21 = .ok (.getfield 76, 3) := by decide +kernel
theorem d_67_24 : decode (g_m 67).2.1 24 = .ok (.invokevirtual 157, 3) := by decide +kernel
theorem d_67_27 : decode (g_m 67).2.1 27 = .ok (.aload_n 0, 1) := by decide +kernel
theorem d_67_28 : decode (g_m 67).2.1 28 = .ok (.getfield 23, 3) := by decide +kernel
theorem d_67_31 : decode (g_m 67).2.1 31 = .ok (.aload_n 0, 1) := by decide +kernel
theorem d_67_32 : decode (g_m 67).2.1 32 = .ok (.getfield 76, 3) := by decide +kernel
theorem d_67_35 : decode (g_m 67).2.1 35 = .ok (.iconst 0, 1) := by decide +kernel
theorem d_67_36 : decode (g_m 67).2.1 36 = .ok (.bastore, 1) := by decide +kernel
theorem d_67_37 : decode (g_m 67).2.1 37 = .ok (.aload_n 0, 1) := by decide +kernel
theorem d_67_38 : decode (g_m 67).2.1 38 = .ok (.getfield 27, 3) := by decide +kernel
theorem d_67_41 : decode (g_m 67).2.1 41 = .ok (.aload_n 0, 1) := by decide +kernel
theorem d_67_42 : decode (g_m 67).2.1 42 = .ok (.getfield 76, 3) := by decide +kernel
theorem d_67_45 : decode (g_m 67).2.1 45 = .ok (.iconst 0, 1) := by decide +kernel
theorem d_67_46 : decode (g_m 67).2.1 46 = .ok (.bastore, 1) := by decide +kernel
theorem d_67_47 : decode (g_m 67).2.1 47 = .ok (.aload_n 0, 1) := by decide +kernel
theorem d_67_48 : decode (g_m 67).2.1 48 = .ok (.dup, 1) := by decide +kernel
theorem d_67_49 : decode (g_m 67).2.1 49 = .ok (.getfield 76, 3) := by decide +kernel
theorem d_67_52 : decode (g_m 67).2.1 52 = .ok (.iconst 1, 1) := by decide +kernel
theorem d_67_53 : decode (g_m 67).2.1 53 = .ok (.iadd, 1) := by decide +kernel
theorem d_67_54 : decode (g_m 67).2.1 54 = .ok (.putfield 76, 3) := by decide +kernel
theorem d_67_57 : decode (g_m 67).2.1 57 = .ok (.aload_n 0, 1) := by decide +kernel
theorem d_67_58 : decode (g_m 67).2.1 58 = .ok (.iconst 1, 1) := by decide +kernel
theorem d_67_59 : decode (g_m 67).2.1 59 = .ok (.putfield 139, 3) := by decide +kernel
theorem d_67_62 : decode (g_m 67).2.1 62 = .ok (.aload_n 0, 1) := by decide +kernel
theorem d_67_63 : decode (g_m 67).2.1 63 = .ok (.getfield 76, 3) := by decide +kernel
theorem d_67_66 : decode (g_m 67).2.1 66 = .ok (.iconst 1, 1) := by decide +kernel
theorem d_67_67 : decode (g_m 67).2.1 67 = .ok (.isub, 1) := by decide +kernel
theorem d_67_68 : decode (g_m 67).2.1 68 = .ok (.ireturn, 1) := by decide +kernel
theorem d_68_0 : decode (g_m 68).2.1 0 = .ok (.iconst 0, 1) := by decide +kernel
theorem d_68_1 : decode (g_m 68).2.1 1 = .ok (.istore_n 3, 1) := by decide +kernel
theorem d_68_2 : decode (g_m 68).2.1 2 = .ok (.iload_n 3, 1) := by decide +kernel
theorem d_68_3 : decode (g_m 68).2.1 3 = .ok (.bipush 8, 2) := by decide +kernel
theorem d_68_5 : decode (g_m 68).2.1 5 = .ok (.if_icmp .ge (31), 3) := by decide +kernel
theorem d_68_8 : decode (g_m 68).2.1 8 = .ok (.aload_n 0, 1) := by decide +kernel
theorem d_68_9 : decode (g_m 68).2.1 9 = .ok (.getfield 19, 3) := by decide +kernel
theorem d_68_12 : decode (g_m 68).2.1 12 = .ok (.bipush 8, 2) := by decide +kernel
theorem d_68_14 : decode (g_m 68).2.1 14 = .ok (.iload_n 2, 1) := by decide +kernel
theorem d_68_15 : decode (g_m 68).2.1 15 = .ok (.imul, 1) := by decide +kernel
theorem d_68_16 : decode (g_m 68).2.1 16 = .ok (.iload_n 3, 1) := by decide +kernel
theorem d_68_17 : decode (g_m 68).2.1 17 = .ok (.iadd, 1) := by decide +kernel
theorem d_68_18 : decode (g_m 68).2.1 18 = .ok (.aload_n 0, 1) := by decide +kernel
theorem d_68_19 : decode (g_m 68).2.1 19 = .ok (.getfield 19, 3) := by decide +kernel
theorem d_68_22 : decode (g_m 68).2.1 22 = .ok (.bipush 8, 2) := by decide +kernel
theorem d_68_24 : decode (g_m 68).2.1 24 = .ok (.iload_n 1, 1) := by decide +kernel
theorem d_68_25 : decode (g_m 68).2.1 25 = .ok (.imul, 1) := by decide +kernel
theorem d_68_26 : decode (g_m 68).2.1 26 = .ok (.iload_n 3, 1) := by decide +kernel
theorem d_68_27 : decode (g_m 68).2.1 27 = .ok (.iadd, 1) := by decide +kernel
theorem d_68_28 : decode (g_m 68).2.1 28 = .ok (.iaload, 1) := by decide +kernel
theorem d_68_29 : decode (g_m 68).2.1 29 = .ok (.iastore, 1) := by decide +kernel
theorem d_68_30 : decode (g_m 68).2.1 30 = .ok (.iinc 3 1, 3) := by decide +kernel
theorem d_68_33 : decode (g_m 68).2.1 33 = .ok (.goto (-31), 3) := by decide +kernel
theorem d_68_36 : decode (g_m 68).2.1 36 = .ok (.return_, 1) := by decide +kernel
theorem d_69_0 : decode (g_m 69).2.1 0 = .ok (.aload_n 0, 1) := by decide +kernel
theorem d_69_1 : decode (g_m 69).2.1 1 = .ok (.iconst 0, 1) := by decide +kernel
theorem d_69_2 : decode (g_m 69).2.1 2 = .ok (.putfield 1, 3) := by decide +kernel
theorem d_69_5 : decode (g_m 69).2.1 5 = .ok (.aload_n 0, 1) := by decide +kernel
theorem d_69_6 : decode (g_m 69).2.1 6 = .ok (.iload_n 1, 1) := by decide +kernel
theorem d_69_7 : decode (g_m 69).2.1 7 = .ok (.invokevirtual 160, 3) := by decide +kernel
theorem d_69_10 : decode (g_m 69).2.1 10 = .ok (.ifCond .eq (5), 3) := by decide +kernel
theorem d_69_13 : decode (g_m 69).2.1 13 = .ok (.iconst (-1), 1) := by decide +kernel
theorem d_69_14 : decode (g_m 69).2.1 14 = .ok (.ireturn, 1) := by decide +kernel
theorem d_69_15 : decode (g_m 69).2.1 15 = .ok (.aload_n 0, 1) := by decide +kernel
theorem d_69_16 : decode (g_m 69).2.1 16 = .ok (.iload_n 1, 1) := by decide +kernel
theorem d_69_17 : decode (g_m 69).2.1 17 = .ok (.bipush 100, 2) := by decide +kernel
theorem d_69_19 : decode (g_m 69).2.1 19 = .ok (.invokevirtual 157, 3) := by decide +kernel
theorem d_69_22 : decode (g_m 69).2.1 22 = .ok (.iconst 1, 1) := by decide +kernel
theorem d_69_23 : decode (g_m 69).2.1 23 = .ok (.ireturn, 1) := by decide +kernel
theorem d_70_0 : decode (g_m 70).2.1 0 = .ok (.iload_n 1, 1) := by decide +kernel
theorem d_70_1 : decode (g_m 70).2.1 1 = .ok (.i2l, 1) := by decide +kernel
theorem d_70_2 : decode (g_m 70).2.1 2 = .ok (.lconst 0, 1) := by decide +kernel
theorem d_70_3 : decode (g_m 70).2.1 3 = .ok (.aload_n 0, 1) := by decide +kernel
theorem d_70_4 : decode (g_m 70).2.1 4 = .ok (.getfield 76, 3) := by decide +kernel
theorem d_70_7 : decode (g_m 70).2.1 7 = .ok (.iconst 1, 1) := by decide +kernel
theorem d_70_8 : decode (g_m 70).2.1 8 = .ok (.isub, 1) := by decide +kernel
theorem d_70_9 : decode (g_m 70).2.1 9 = .ok (.i2l, 1) := by decide +kernel
theorem d_70_10 : decode (g_m 70).2.1 10 = .ok (.invokestatic 79, 3) := by decide +kernel
theorem d_70_13 : decode (g_m 70).2.1 13 = .ok (.ifCond .ne (7), 3) := by decide +kernel
theorem d_70_16 : decode (g_m 70).2.1 16 = .ok (.iconst 1, 1) := by decide +kernel
theorem d_70_17 : decode (g_m 70).2.1 17 = .ok (.goto (4), 3) := by decide +kernel
theorem d_70_20 : decode (g_m 70).2.1 20 = .ok (.iconst 0, 1) := by decide +kernel
theorem d_70_21 : decode (g_m 70).2.1 21 = .ok (.ireturn, 1) := by decide +kernel
theorem d_71_0 : decode (g_m 71).2.1 0 = .ok (.aload_n 0, 1) := by decide +kernel
theorem d_71_1 : decode (g_m 71).2.1 1 = .ok (.iconst 0, 1) := by decide +kernel
theorem d_71_2 : decode (g_m 71).2.1 2 = .ok (.putfield 1, 3) := by decide +kernel
theorem d_71_5 : decode (g_m 71).2.1 5 = .ok (.aload_n 0, 1) := by decide +kernel
theorem d_71_6 : decode (g_m 71).2.1 6 = .ok (.iload_n 1, 1) := by decide +kernel
theorem d_71_7 : decode (g_m 71).2.1 7 = .ok (.invokevirtual 160, 3) := by decide +kernel
theorem d_71_10 : decode (g_m 71).2.1 10 = .ok (.ifCond .eq (5), 3) := by decide +kernel
theorem d_71_13 : decode (g_m 71).2.1 13 = .ok (.iconst (-1), 1) := by decide +kernel
theorem d_71_14 : decode (g_m 71).2.1 14 = .ok (.ireturn, 1) := by decide +kernel
theorem d_71_15 : decode (g_m 71).2.1 15 = .ok (.aload_n 0, 1) := by decide +kernel
theorem d_71_16 : decode (g_m 71).2.1 16 = .ok (.getfield 27, 3) := by decide +kernel
theorem d_71_19 : decode (g_m 71).2.1 19 = .ok (.iload_n 1, 1) := by decide +kernel
theorem d_71_20 : decode (g_m 71).2.1 20 = .ok (.baload, 1) := by decide +kernel
theorem d_71_21 : decode (g_m 71).2.1 21 = .ok (.istore_n 2, 1) := by decide +kernel
theorem d_71_22 : decode (g_m 71).2.1 22 = .ok (.aload_n 0, 1) := by decide +kernel
theorem d_71_23 : decode (g_m 71).2.1 23 = .ok (.getfield 27, 3) := by decide +kernel
theorem d_71_26 : decode (g_m 71).2.1 26 = .ok (.iload_n 1, 1) := by decide +kernel
theorem d_71_27 : decode (g_m 71).2.1 27 = .ok (.iconst 1, 1) := by decide +kernel
theorem d_71_28 : decode (g_m 71).2.1 28 = .ok (.bastore, 1) := by decide +kernel
theorem d_71_29 : decode (g_m 71).2.1 29 = .ok (.iload_n 2, 1) := by decide +kernel
theorem d_71_30 : decode (g_m 71).2.1 30 = .ok (.ifCond .eq (7), 3) := by decide +kernel
theorem d_71_33 : decode (g_m 71).2.1 33 = .ok (.iconst 0, 1) := by decide +kernel
theorem d_71_34 : decode (g_m 71).2.1 34 = .ok (.goto (4), 3) := by decide +kernel
theorem d_71_37 : decode (g_m 71).2.1 37 = .ok (.iconst 1, 1) := by decide +kernel
theorem d_71_38 : decode (g_m 71).2.1 38 = .ok (.ireturn, 1) := by decide +kernel
theorem d_72_0 : decode (g_m 72).2.1 0 = .ok (.aload_n 0, 1) := by decide +kernel
theorem d_72_1 : decode (g_m 72).2.1 1 = .ok (.iconst 0, 1) := by decide +kernel
theorem d_72_2 : decode (g_m 72).2.1 2 = .ok (.putfield 1, 3) := by decide +kernel
theorem d_72_5 : decode (g_m 72).2.1 5 = .ok (.aload_n 0, 1) := by decide +kernel
theorem d_72_6 : decode (g_m 72).2.1 6 = .ok (.iload_n 1, 1) := by decide +kernel
theorem d_72_7 : decode (g_m 72).2.1 7 = .ok (.invokevirtual 160, 3) := by decide +kernel
theorem d_72_10 : decode (g_m 72).2.1 10 = .ok (.ifCond .eq (5), 3) := by decide +kernel
theorem d_72_13 : decode (g_m 72).2.1 13 = .ok (.iconst (-1), 1) := by decide +kernel
theorem d_72_14 : decode (g_m 72).2.1 14 = .ok (.ireturn, 1) := by decide +kernel
theorem d_72_15 : decode (g_m 72).2.1 15 = .ok (.aload_n 0, 1) := by decide +kernel
theorem d_72_16 : decode (g_m 72).2.1 16 = .ok (.getfield 23, 3) := by decide +kernel
theorem d_72_19 : decode (g_m 72).2.1 19 = .ok (.iload_n 1, 1) := by decide +kernel
theorem d_72_20 : decode (g_m 72).2.1 20 = .ok (.baload, 1) := by decide +kernel
theorem d_72_21 : decode (g_m 72).2.1 21 = .ok (.istore_n 3, 1) := by decide +kernel
theorem d_72_22 : decode (g_m 72).2.1 22 = .ok (.aload_n 0, 1) := by decide +kernel
theorem d_72_23 : decode (g_m 72).2.1 23 = .ok (.getfield 23, 3) := by decide +kernel
theorem d_72_26 : decode (g_m 72).2.1 26 = .ok (.iload_n 1, 1) := by decide +kernel
theorem d_72_27 : decode (g_m 72).2.1 27 = .ok (.iload_n 2, 1) := by decide +kernel
theorem d_72_28 : decode (g_m 72).2.1 28 = .ok (.bastore, 1) := by decide +kernel
theorem d_72_29 : decode (g_m 72).2.1 29 = .ok (.iload_n 3, 1) := by decide +kernel
theorem d_72_30 : decode (g_m 72).2.1 30 = .ok (.ifCond .eq (7), 3) := by decide +kernel
theorem d_72_33 : decode (g_m 72).2.1 33 = .ok (.iconst 1, 1) := by decide +kernel
theorem d_72_34 : decode (g_m 72).2.1 34 = .ok (.goto (4), 3) := by decide +kernel
theorem d_72_37 : decode (g_m 72).2.1 37 = .ok (.iconst 0, 1) := by decide +kernel
theorem d_72_38 : decode (g_m 72).2.1 38 = .ok (.ireturn, 1) := by decide +kernel
theorem d_73_0 : decode (g_m 73).2.1 0 = .ok (.aload_n 0, 1) := by decide +kernel
theorem d_73_1 : decode (g_m 73).2.1 1 = .ok (.iconst 0, 1) := by decide +kernel
theorem d_73_2 : decode (g_m 73).2.1 2 = .ok (.putfield 1, 3) := by decide +kernel
theorem d_73_5 : decode (g_m 73).2.1 5 = .ok (.iconst 0, 1) := by decide +kernel
theorem d_73_6 : decode (g_m 73).2.1 6 = .ok (.istore_n 1, 1) := by decide +kernel
theorem d_73_7 : decode (g_m 73).2.1 7 = .ok (.iconst 0, 1) := by decide +kernel
theorem d_73_8 : decode (g_m 73).2.1 8 = .ok (.istore_n 2, 1) := by decide +kernel
theorem d_73_9 : decode (g_m 73).2.1 9 = .ok (.iload_n 2, 1) := by decide +kernel
theorem d_73_10 : decode (g_m 73).2.1 10 = .ok (.aload_n 0, 1) := by decide +kernel
theorem d_73_11 : decode (g_m 73).2.1 11 = .ok (.getfield 76, 3) := by decide +kernel
theorem d_73_14 : decode (g_m 73).2.1 14 = .ok (.if_icmp .ge (39), 3) := by decide +kernel
theorem d_73_17 : decode (g_m 73).2.1 17 = .ok (.aload_n 0, 1) := by decide +kernel
theorem d_73_18 : decode (g_m 73).2.1 18 = .ok (.getfield 27, 3) := by decide +kernel
theorem d_73_21 : decode (g_m 73).2.1 21 = .ok (.iload_n 2, 1) := by decide +kernel
theorem d_73_22 : decode (g_m 73).2.1 22 = .ok (.baload, 1) := by decide +kernel
theorem d_73_23 : decode (g_m 73).2.1 23 = .ok (.ifCond .ne (24), 3) := by decide +kernel
theorem d_73_26 : decode (g_m 73).2.1 26 = .ok (.aload_n 0, 1) := by decide +kernel
theorem d_73_27 : decode (g_m 73).2.1 27 = .ok (.iload_n 2, 1) := by decide +kernel
theorem d_73_28 : decode (g_m 73).2.1 28 = .ok (.iload_n 1, 1) := by decide +kernel
theorem d_73_29 : decode (g_m 73).2.1 29 = .ok (.invokevirtual 157, 3) := by decide +kernel
theorem d_73_32 : decode (g_m 73).2.1 32 = .ok (.aload_n 0, 1) := by decide +kernel
theorem d_73_33 : decode (g_m 73).2.1 33 = .ok (.getfield 23, 3) := by decide +kernel
theorem d_73_36 : decode (g_m 73).2.1 36 = .ok (.iload_n 1, 1) := by decide +kernel
theorem d_73_37 : decode (g_m 73).2.1 37 = .ok (.aload_n 0, 1) := by decide +kernel
theorem d_73_38 : decode (g_m 73).2.1 38 = .ok (.getfield 23, 3) := by decide +kernel
theorem d_73_41 : decode (g_m 73).2.1 41 = .ok (.iload_n 2, 1) := by decide +kernel
theorem d_73_42 : decode (g_m 73).2.1 42 = .ok (.baload, 1) := by decide +kernel
theorem d_73_43 : decode (g_m 73).2.1 43 = .ok (.bastore, 1) := by decide +kernel
theorem d_73_44 : decode (g_m 73).2.1 44 = .ok (.iinc 1 1, 3) := by decide +kernel
theorem d_73_47 : decode (g_m 73).2.1 47 = .ok (.iinc 2 1, 3) := by decide +kernel
theorem d_73_50 : decode (g_m 73).2.1 50 = .ok (.goto (-41), 3) := by decide +kernel
theorem d_73_53 : decode (g_m 73).2.1 53 = .ok (.aload_n 0, 1) := by decide +kernel
theorem d_73_54 : decode (g_m 73).2.1 54 = .ok (.getfield 76, 3) := by decide +kernel
theorem d_73_57 : decode (g_m 73).2.1 57 = .ok (.iload_n 1, 1) := by decide +kernel
theorem d_73_58 : decode (g_m 73).2.1 58 = .ok (.isub, 1) := by decide +kernel
theorem d_73_59 : decode (g_m 73).2.1 59 = .ok (.istore_n 2, 1) := by decide +kernel
theorem d_73_60 : decode (g_m 73).2.1 60 = .ok (.aload_n 0, 1) := by decide +kernel
theorem d_73_61 : decode (g_m 73).2.1 61 = .ok (.iload_n 1, 1) := by decide +kernel
theorem d_73_62 : decode (g_m 73).2.1 62 = .ok (.putfield 76, 3) := by decide +kernel
theorem d_73_65 : decode (g_m 73).2.1 65 = .ok (.iconst 0, 1) := by decide +kernel
theorem d_73_66 : decode (g_m 73).2.1 66 = .ok (.istore_n 3, 1) := by decide +kernel
theorem d_73_67 : decode (g_m 73).2.1 67 = .ok (.iload_n 3, 1) := by decide +kernel
theorem d_73_68 : decode (g_m 73).2.1 68 = .ok (.bipush 100, 2) := by decide +kernel
theorem d_73_70 : decode (g_m 73).2.1 70 = .ok (.if_icmp .ge (16), 3) := by decide +kernel
theorem d_73_73 : decode (g_m 73).2.1 73 = .ok (.aload_n 0, 1) := by decide +kernel
theorem d_73_74 : decode (g_m 73).2.1 74 = .ok (.getfield 27, 3) := by decide +kernel
theorem d_73_77 : decode (g_m 73).2.1 77 = .ok (.iload_n 3, 1) := by decide +kernel
theorem d_73_78 : decode (g_m 73).2.1 78 = .ok (.iconst 0, 1) := by decide +kernel
theorem d_73_79 : decode (g_m 73).2.1 79 = .ok (.bastore, 1) := by decide +kernel
theorem d_73_80 : decode (g_m 73).2.1 80 = .ok (.iinc 3 1, 3) := by decide +kernel
theorem d_73_83 : decode (g_m 73).2.1 83 = .ok (.goto (-16), 3) := by decide +kernel
theorem d_73_86 : decode (g_m 73).2.1 86 = .ok (.aload_n 0, 1) := by decide +kernel
theorem d_73_87 : decode (g_m 73).2.1 87 = .ok (.iconst 0, 1) := by decide +kernel
theorem d_73_88 : decode (g_m 73).2.1 88 = .ok (.putfield 164, 3) := by decide +kernel
theorem d_73_91 : decode (g_m 73).2.1 91 = .ok (.aload_n 0, 1) := by decide +kernel
theorem d_73_92 : decode (g_m 73).2.1 92 = .ok (.iconst 1, 1) := by decide +kernel
theorem d_73_93 : decode (g_m 73).2.1 93 = .ok (.putfield 139, 3) := by decide +kernel
theorem d_73_96 : decode (g_m 73).2.1 96 = .ok (.iload_n 2, 1) := by decide +kernel
theorem d_73_97 : decode (g_m 73).2.1 97 = .ok (.ireturn, 1) := by decide +kernel
theorem d_74_0 : decode (g_m 74).2.1 0 = .ok (.aload_n 0, 1) := by decide +kernel
theorem d_74_1 : decode (g_m 74).2.1 1 = .ok (.iconst 0, 1) := by decide +kernel
theorem d_74_2 : decode (g_m 74).2.1 2 = .ok (.putfield 1, 3) := by decide +kernel
theorem d_74_5 : decode (g_m 74).2.1 5 = .ok (.iload_n 1, 1) := by decide +kernel
theorem d_74_6 : decode (g_m 74).2.1 6 = .ok (.i2l, 1) := by decide +kernel
theorem d_74_7 : decode (g_m 74).2.1 7 = .ok (.lconst 0, 1) := by decide +kernel
theorem d_74_8 : decode (g_m 74).2.1 8 = .ok (.ldc2_w 167, 3) := by decide +kernel
theorem d_74_11 : decode (g_m 74).2.1 11 = .ok (.invokestatic 79, 3) := by decide +kernel
theorem d_74_14 : decode (g_m 74).2.1 14 = .ok (.ifCond .eq (45), 3) := by decide +kernel
theorem d_74_17 : decode (g_m 74).2.1 17 = .ok (.iload_n 2, 1) := by decide +kernel
theorem d_74_18 : decode (g_m 74).2.1 18 = .ok (.i2l, 1) := by decide +kernel
theorem d_74_19 : decode (g_m 74).2.1 19 = .ok (.iload_n 1, 1) := by decide +kernel
theorem d_74_20 : decode (g_m 74).2.1 20 = .ok (.iconst 1, 1) := by decide +kernel
theorem d_74_21 : decode (g_m 74).2.1 21 = .ok (.if_icmp .ne (9), 3) := by decide +kernel
theorem d_74_24 : decode (g_m 74).2.1 24 = .ok (.ldc2_w 167, 3) := by decide +kernel
theorem d_74_27 : decode (g_m 74).2.1 27 = .ok (.goto (4), 3) := by decide +kernel
theorem d_74_30 : decode (g_m 74).2.1 30 = .ok (.lconst 0, 1) := by decide +kernel
theorem d_74_31 : decode (g_m 74).2.1 31 = .ok (.iload_n 1, 1) := by decide +kernel
theorem d_74_32 : decode (g_m 74).2.1 32 = .ok (.ifCond .ne (9), 3) := by decide +kernel
theorem d_74_35 : decode (g_m 74).2.1 35 = .ok (.ldc2_w 167, 3) := by decide +kernel
theorem d_74_38 : decode (g_m 74).2.1 38 = .ok (.goto (15), 3) := by decide +kernel
theorem d_74_41 : decode (g_m 74).2.1 41 = .ok (.iload_n 1, 1) := by decide +kernel
theorem d_74_42 : decode (g_m 74).2.1 42 = .ok (.iconst 1, 1) := by decide +kernel
theorem d_74_43 : decode (g_m 74).2.1 43 = .ok (.if_icmp .ne (9), 3) := by decide +kernel
theorem d_74_46 : decode (g_m 74).2.1 46 = .ok (.ldc2_w 169, 3) := by decide +kernel
theorem d_74_49 : decode (g_m 74).2.1 49 = .ok (.goto (4), 3) := by decide +kernel
theorem d_74_52 : decode (g_m 74).2.1 52 = .ok (.lconst 1, 1) := by decide +kernel
theorem d_74_53 : decode (g_m 74).2.1 53 = .ok (.invokestatic 79, 3) := by decide +kernel
theorem d_74_56 : decode (g_m 74).2.1 56 = .ok (.ifCond .ne (5), 3) := by decide +kernel
theorem d_74_59 : decode (g_m 74).2.1 59 = .ok (.iconst (-1), 1) := by decide +kernel
theorem d_74_60 : decode (g_m 74).2.1 60 = .ok (.ireturn, 1) := by decide +kernel
theorem d_74_61 : decode (g_m 74).2.1 61 = .ok (.iload_n 1, 1) := by decide +kernel
theorem d_74_62 : decode (g_m 74).2.1 62 = .ok (.ifCond .ne (10), 3) := by decide +kernel
theorem d_74_65 : decode (g_m 74).2.1 65 = .ok (.aload_n 0, 1) := by decide +kernel
theorem d_74_66 : decode (g_m 74).2.1 66 = .ok (.getfield 83, 3) := by decide +kernel
theorem d_74_69 : decode (g_m 74).2.1 69 = .ok (.goto (19), 3) := by decide +kernel
theorem d_74_72 : decode (g_m 74).2.1 72 = .ok (.iload_n 1, 1) := by decide +kernel
theorem d_74_73 : decode (g_m 74).2.1 73 = .ok (.iconst 1, 1) := by decide +kernel
theorem d_74_74 : decode (g_m 74).2.1 74 = .ok (.if_icmp .ne (10), 3) := by decide +kernel
theorem d_74_77 : decode (g_m 74).2.1 77 = .ok (.aload_n 0, 1) := by decide +kernel
theorem d_74_78 : decode (g_m 74).2.1 78 = .ok (.getfield 13, 3) := by decide +kernel
theorem d_74_81 : decode (g_m 74).2.1 81 = .ok (.goto (7), 3) := by decide +kernel
theorem d_74_84 : decode (g_m 74).2.1 84 = .ok (.aload_n 0, 1) := by decide +kernel
theorem d_74_85 : decode (g_m 74).2.1 85 = .ok (.getfield 16, 3) := by decide +kernel
theorem d_74_88 : decode (g_m 74).2.1 88 = .ok (.istore_n 3, 1) := by decide +kernel
theorem d_74_89 : decode (g_m 74).2.1 89 = .ok (.aload_n 0, 1) := by decide +kernel
theorem d_74_90 : decode (g_m 74).2.1 90 = .ok (.iload_n 1, 1) := by decide +kernel
theorem d_74_91 : decode (g_m 74).2.1 91 = .ok (.ifCond .ne (7), 3) := by decide +kernel
theorem d_74_94 : decode (g_m 74).2.1 94 = .ok (.iload_n 2, 1) := by decide +kernel
theorem d_74_95 : decode (g_m 74).2.1 95 = .ok (.goto (7), 3) := by decide +kernel
theorem d_74_98 : decode (g_m 74).2.1 98 = .ok (.aload_n 0, 1) := by decide +kernel
theorem d_74_99 : decode (g_m 74).2.1 99 = .ok (.getfield 83, 3) := by decide +kernel
theorem d_74_102 : decode (g_m 74).2.1 102 = .ok (.putfield 83, 3) := by decide +kernel
theorem d_74_105 : decode (g_m 74).2.1 105 = .ok (.aload_n 0, 1) := by decide +kernel
theorem d_74_106 : decode (g_m 74).2.1 106 = .ok (.iload_n 1, 1) := by decide +kernel
theorem d_74_107 : decode (g_m 74).2.1 107 = .ok (.iconst 1, 1) := by decide +kernel
theorem d_74_108 : decode (g_m 74).2.1 108 = .ok (.if_icmp .ne (7), 3) := by decide +kernel
theorem d_74_111 : decode (g_m 74).2.1 111 = .ok (.iload_n 2, 1) := by decide +kernel
theorem d_74_112 : decode (g_m 74).2.1 112 = .ok (.goto (7), 3) := by decide +kernel
theorem d_74_115 : decode (g_m 74).2.1 115 = .ok (.aload_n 0, 1) := by decide +kernel
theorem d_74_116 : decode (g_m 74).2.1 116 = .ok (.getfield 13, 3) := by decide +kernel
theorem d_74_119 : decode (g_m 74).2.1 119 = .ok (.putfield 13, 3) := by decide +kernel
theorem d_74_122 : decode (g_m 74).2.1 122 = .ok (.aload_n 0, 1) := by decide +kernel
theorem d_74_123 : decode (g_m 74).2.1 123 = .ok (.iload_n 1, 1) := by decide +kernel
theorem d_74_124 : decode (g_m 74).2.1 124 = .ok (.iconst 2, 1) := by decide +kernel
theorem d_74_125 : decode (g_m 74).2.1 125 = .ok (.if_icmp .ne (7), 3) := by decide +kernel
theorem d_74_128 : decode (g_m 74).2.1 128 = .ok (.iload_n 2, 1) := by decide +kernel
theorem d_74_129 : decode (g_m 74).2.1 129 = .ok (.goto (7), 3) := by decide +kernel
theorem d_74_132 : decode (g_m 74).2.1 132 = .ok (.aload_n 0, 1) := by decide +kernel
theorem d_74_133 : decode (g_m 74).2.1 133 = .ok (.getfield 16, 3) := by decide +kernel
theorem d_74_136 : decode (g_m 74).2.1 136 = .ok (.putfield 16, 3) := by decide +kernel
theorem d_74_139 : decode (g_m 74).2.1 139 = .ok (.aload_n 0, 1) := by decide +kernel
theorem d_74_140 : decode (g_m 74).2.1 140 = .ok (.iconst 1, 1) := by decide +kernel
theorem d_74_141 : decode (g_m 74).2.1 141 = .ok (.putfield 139, 3) := by decide +kernel
theorem d_74_144 : decode (g_m 74).2.1 144 = .ok (.iload_n 3, 1) := by decide +kernel
theorem d_74_145 : decode (g_m 74).2.1 145 = .ok (.ireturn, 1) := by decide +kernel
theorem d_75_0 : decode (g_m 75).2.1 0 = .ok (.aload_n 0, 1) := by decide +kernel
theorem d_75_1 : decode (g_m 75).2.1 1 = .ok (.iconst 0, 1) := by decide +kernel
theorem d_75_2 : decode (g_m 75).2.1 2 = .ok (.putfield 1, 3) := by decide +kernel
theorem d_75_5 : decode (g_m 75).2.1 5 = .ok (.iload_n 1, 1) := by decide +kernel
theorem d_75_6 : decode (g_m 75).2.1 6 = .ok (.i2l, 1) := by decide +kernel
theorem d_75_7 : decode (g_m 75).2.1 7 = .ok (.lconst 1, 1) := by decide +kernel
theorem d_75_8 : decode (g_m 75).2.1 8 = .ok (.ldc2_w 155, 3) := by decide +kernel
theorem d_75_11 : decode (g_m 75).2.1 11 = .ok (.invokestatic 79, 3) := by decide +kernel
theorem d_75_14 : decode (g_m 75).2.1 14 = .ok (.ifCond .ne (5), 3) := by decide +kernel
theorem d_75_17 : decode (g_m 75).2.1 17 = .ok (.iconst (-1), 1) := by decide +kernel
theorem d_75_18 : decode (g_m 75).2.1 18 = .ok (.ireturn, 1) := by decide +kernel
theorem d_75_19 : decode (g_m 75).2.1 19 = .ok (.aload_n 0, 1) := by decide +kernel
theorem d_75_20 : decode (g_m 75).2.1 20 = .ok (.iload_n 1, 1) := by decide +kernel
theorem d_75_21 : decode (g_m 75).2.1 21 = .ok (.invokevirtual 183, 3) := by decide +kernel
theorem d_75_24 : decode (g_m 75).2.1 24 = .ok (.aload_n 0, 1) := by decide +kernel
theorem d_75_25 : decode (g_m 75).2.1 25 = .ok (.invokevirtual 186, 3) := by decide +kernel
theorem d_75_28 : decode (g_m 75).2.1 28 = .ok (.ireturn, 1) := by decide +kernel
theorem d_76_0 : decode (g_m 76).2.1 0 = .ok (.iconst 0, 1) := by decide +kernel
theorem d_76_1 : decode (g_m 76).2.1 1 = .ok (.istore_n 2, 1) := by decide +kernel
theorem d_76_2 : decode (g_m 76).2.1 2 = .ok (.iload_n 2, 1) := by decide +kernel
theorem d_76_3 : decode (g_m 76).2.1 3 = .ok (.aload_n 0, 1) := by decide +kernel
theorem d_76_4 : decode (g_m 76).2.1 4 = .ok (.getfield 76, 3) := by decide +kernel
theorem d_76_7 : decode (g_m 76).2.1 7 = .ok (.if_icmp .ge (20), 3) := by decide +kernel
theorem d_76_10 : decode (g_m 76).2.1 10 = .ok (.aload_n 0, 1) := by decide +kernel
theorem d_76_11 : decode (g_m 76).2.1 11 = .ok (.getfield 61, 3) := by decide +kernel
theorem d_76_14 : decode (g_m 76).2.1 14 = .ok (.iload_n 2, 1) := by decide +kernel
theorem d_76_15 : decode (g_m 76).2.1 15 = .ok (.aload_n 0, 1) := by decide +kernel
theorem d_76_16 : decode (g_m 76).2.1 16 = .ok (.iload_n 2, 1) := by decide +kernel
theorem d_76_17 : decode (g_m 76).2.1 17 = .ok (.invokevirtual 174, 3) := by decide +kernel
theorem d_76_20 : decode (g_m 76).2.1 20 = .ok (.bastore, 1) := by decide +kernel
theorem d_76_21 : decode (g_m 76).2.1 21 = .ok (.iinc 2 1, 3) := by decide +kernel
theorem d_76_24 : decode (g_m 76).2.1 24 = .ok (.goto (-22), 3) := by decide +kernel
theorem d_76_27 : decode (g_m 76).2.1 27 = .ok (.aload_n 0, 1) := by decide +kernel
theorem d_76_28 : decode (g_m 76).2.1 28 = .ok (.bipush 100, 2) := by decide +kernel
theorem d_76_30 : decode (g_m 76).2.1 30 = .ok (.bipush 100, 2) := by decide +kernel
theorem d_76_32 : decode (g_m 76).2.1 32 = .ok (.invokevirtual 146, 3) := by decide +kernel
theorem d_76_35 : decode (g_m 76).2.1 35 = .ok (.aload_n 0, 1) := by decide +kernel
theorem d_76_36 : decode (g_m 76).2.1 36 = .ok (.iload_n 1, 1) := by decide +kernel
theorem d_76_37 : decode (g_m 76).2.1 37 = .ok (.invokevirtual 177, 3) := by decide +kernel
theorem d_76_40 : decode (g_m 76).2.1 40 = .ok (.return_, 1) := by decide +kernel
theorem d_77_0 : decode (g_m 77).2.1 0 = .ok (.aload_n 0, 1) := by decide +kernel
theorem d_77_1 : decode (g_m 77).2.1 1 = .ok (.getfield 23, 3) := by decide +kernel
theorem d_77_4 : decode (g_m 77).2.1 4 = .ok (.iload_n 1, 1) := by decide +kernel
theorem d_77_5 : decode (g_m 77).2.1 5 = .ok (.baload, 1) := by decide +kernel
theorem d_77_6 : decode (g_m 77).2.1 6 = .ok (.ifCond .ne (16), 3) := by decide +kernel
theorem d_77_9 : decode (g_m 77).2.1 9 = .ok (.aload_n 0, 1) := by decide +kernel
theorem d_77_10 : decode (g_m 77).2.1 10 = .ok (.getfield 27, 3) := by decide +kernel
theorem d_77_13 : decode (g_m 77).2.1 13 = .ok (.iload_n 1, 1) := by decide +kernel
theorem d_77_14 : decode (g_m 77).2.1 14 = .ok (.baload, 1) := by decide +kernel
theorem d_77_15 : decode (g_m 77).2.1 15 = .ok (.ifCond .ne (7), 3) := by decide +kernel
theorem d_77_18 : decode (g_m 77).2.1 18 = .ok (.iconst 1, 1) := by decide +kernel
theorem d_77_19 : decode (g_m 77).2.1 19 = .ok (.goto (4), 3) := by decide +kernel
theorem d_77_22 : decode (g_m 77).2.1 22 = .ok (.iconst 0, 1) := by decide +kernel
theorem d_77_23 : decode (g_m 77).2.1 23 = .ok (.ireturn, 1) := by decide +kernel
theorem d_78_0 : decode (g_m 78).2.1 0 = .ok (.iconst 0, 1) := by decide +kernel
theorem d_78_1 : decode (g_m 78).2.1 1 = .ok (.istore_n 3, 1) := by decide +kernel
theorem d_78_2 : decode (g_m 78).2.1 2 = .ok (.iload_n 3, 1) := by decide +kernel
theorem d_78_3 : decode (g_m 78).2.1 3 = .ok (.aload_n 0, 1) := by decide +kernel
theorem d_78_4 : decode (g_m 78).2.1 4 = .ok (.getfield 76, 3) := by decide +kernel
theorem d_78_7 : decode (g_m 78).2.1 7 = .ok (.if_icmp .ge (27), 3) := by decide +kernel
theorem d_78_10 : decode (g_m 78).2.1 10 = .ok (.aload_n 0, 1) := by decide +kernel
theorem d_78_11 : decode (g_m 78).2.1 11 = .ok (.getfield 43, 3) := by decide +kernel
theorem d_78_14 : decode (g_m 78).2.1 14 = .ok (.bipush 100, 2) := by decide +kernel
theorem d_78_16 : decode (g_m 78).2.1 16 = .ok (.iload_n 1, 1) := by decide +kernel
theorem d_78_17 : decode (g_m 78).2.1 17 = .ok (.imul, 1) := by decide +kernel
theorem d_78_18 : decode (g_m 78).2.1 18 = .ok (.iload_n 3, 1) := by decide +kernel
theorem d_78_19 : decode (g_m 78).2.1 19 = .ok (.iadd, 1) := by decide +kernel
theorem d_78_20 : decode (g_m 78).2.1 20 = .ok (.aload_n 0, 1) := by decide +kernel
theorem d_78_21 : decode (g_m 78).2.1 21 = .ok (.iload_n 1, 1) := by decide +kernel
theorem d_78_22 : decode (g_m 78).2.1 22 = .ok (.iload_n 3, 1) := by decide +kernel
theorem d_78_23 : decode (g_m 78).2.1 23 = .ok (.iload_n 2, 1) := by decide +kernel
theorem d_78_24 : decode (g_m 78).2.1 24 = .ok (.invokevirtual 90, 3) := by decide +kernel
theorem d_78_27 : decode (g_m 78).2.1 27 = .ok (.iastore, 1) := by decide +kernel
theorem d_78_28 : decode (g_m 78).2.1 28 = .ok (.iinc 3 1, 3) := by decide +kernel
theorem d_78_31 : decode (g_m 78).2.1 31 = .ok (.goto (-29), 3) := by decide +kernel
theorem d_78_34 : decode (g_m 78).2.1 34 = .ok (.return_, 1) := by decide +kernel
theorem d_79_0 : decode (g_m 79).2.1 0 = .ok (.aload_n 0, 1) := by decide +kernel
theorem d_79_1 : decode (g_m 79).2.1 1 = .ok (.getfield 83, 3) := by decide +kernel
theorem d_79_4 : decode (g_m 79).2.1 4 = .ok (.iconst 1, 1) := by decide +kernel
theorem d_79_5 : decode (g_m 79).2.1 5 = .ok (.if_icmp .ne (15), 3) := by decide +kernel
theorem d_79_8 : decode (g_m 79).2.1 8 = .ok (.bipush 100, 2) := by decide +kernel
theorem d_79_10 : decode (g_m 79).2.1 10 = .ok (.iload_n 3, 1) := by decide +kernel
theorem d_79_11 : decode (g_m 79).2.1 11 = .ok (.imul, 1) := by decide +kernel
theorem d_79_12 : decode (g_m 79).2.1 12 = .ok (.aload_n 0, 1) := by decide +kernel
theorem d_79_13 : decode (g_m 79).2.1 13 = .ok (.getfield 70, 3) := by decide +kernel
theorem d_79_16 : decode (g_m 79).2.1 16 = .ok (.imul, 1) := by decide +kernel
theorem d_79_17 : decode (g_m 79).2.1 17 = .ok (.goto (4), 3) := by decide +kernel
theorem d_79_20 : decode (g_m 79).2.1 20 = .ok (.iconst 0, 1) := by decide +kernel
theorem d_79_21 : decode (g_m 79).2.1 21 = .ok (.istore 4, 2) := by decide +kernel
theorem d_79_23 : decode (g_m 79).2.1 23 = .ok (.iconst 0, 1) := by decide +kernel
theorem d_79_24 : decode (g_m 79).2.1 24 = .ok (.istore 5, 2) := by decide +kernel
theorem d_79_26 : decode (g_m 79).2.1 26 = .ok (.iload 5, 2) := by decide +kernel
theorem d_79_28 : decode (g_m 79).2.1 28 = .ok (.aload_n 0, 1) := by decide +kernel
theorem d_79_29 : decode (g_m 79).2.1 29 = .ok (.getfield 70, 3) := by decide +kernel
theorem d_79_32 : decode (g_m 79).2.1 32 = .ok (.if_icmp .ge (103), 3) := by decide +kernel
theorem d_79_35 : decode (g_m 79).2.1 35 = .ok (.aload_n 0, 1) := by decide +kernel
theorem d_79_36 : decode (g_m 79).2.1 36 = .ok (.getfield 19, 3) := by decide +kernel
theorem d_79_39 : decode (g_m 79).2.1 39 = .ok (.bipush 8, 2) := by decide +kernel
theorem d_79_41 : decode (g_m 79).2.1 41 = .ok (.iload_n 1, 1) := by decide +kernel
theorem d_79_42 : decode (g_m 79).2.1 42 = .ok (.imul, 1) := by decide +kernel
theorem d_79_43 : decode (g_m 79).2.1 43 = .ok (.iload 5, 2) := by decide +kernel
theorem d_79_45 : decode (g_m 79).2.1 45 = .ok (.iadd, 1) := by decide +kernel
theorem d_79_46 : decode (g_m 79).2.1 46 = .ok (.iaload, 1) := by decide +kernel
theorem d_79_47 : decode (g_m 79).2.1 47 = .ok (.iload_n 3, 1) := by decide +kernel
theorem d_79_48 : decode (g_m 79).2.1 48 = .ok (.imul, 1) := by decide +kernel
theorem d_79_49 : decode (g_m 79).2.1 49 = .ok (.bipush 100, 2) := by decide +kernel
theorem d_79_51 : decode (g_m 79).2.1 51 = .ok (.idiv, 1) := by decide +kernel
theorem d_79_52 : decode (g_m 79).2.1 52 = .ok (.istore 6, 2) := by decide +kernel
theorem d_79_54 : decode (g_m 79).2.1 54 = .ok (.aload_n 0, 1) := by decide +kernel
theorem d_79_55 : decode (g_m 79).2.1 55 = .ok (.getfield 19, 3) := by decide +kernel
theorem d_79_58 : decode (g_m 79).2.1 58 = .ok (.bipush 8, 2) := by decide +kernel
theorem d_79_60 : decode (g_m 79).2.1 60 = .ok (.iload_n 2, 1) := by decide +kernel
theorem d_79_61 : decode (g_m 79).2.1 61 = .ok (.imul, 1) := by decide +kernel
theorem d_79_62 : decode (g_m 79).2.1 62 = .ok (.iload 5, 2) := by decide +kernel
theorem d_79_64 : decode (g_m 79).2.1 64 = .ok (.iadd, 1) := by decide +kernel
theorem d_79_65 : decode (g_m 79).2.1 65 = .ok (.iaload, 1) := by decide +kernel
theorem d_79_66 : decode (g_m 79).2.1 66 = .ok (.iload_n 3, 1) := by decide +kernel
theorem d_79_67 : decode (g_m 79).2.1 67 = .ok (.imul, 1) := by decide +kernel
theorem d_79_68 : decode (g_m 79).2.1 68 = .ok (.bipush 100, 2) := by decide +kernel
theorem d_79_70 : decode (g_m 79).2.1 70 = .ok (.idiv, 1) := by decide +kernel
theorem d_79_71 : decode (g_m 79).2.1 71 = .ok (.istore 7, 2) := by decide +kernel
theorem d_79_73 : decode (g_m 79).2.1 73 = .ok (.aload_n 0, 1) := by decide +kernel
theorem d_79_74 : decode (g_m 79).2.1 74 = .ok (.getfield 83, 3) := by decide +kernel
theorem d_79_77 : decode (g_m 79).2.1 77 = .ok (.ifCond .ne (20), 3) := by decide +kernel
theorem d_79_80 : decode (g_m 79).2.1 80 = .ok (.iload 4, 2) := by decide +kernel
theorem d_79_82 : decode (g_m 79).2.1 82 = .ok (.iload 6, 2) := by decide +kernel
theorem d_79_84 : decode (g_m 79).2.1 84 = .ok (.iload 7, 2) := by decide +kernel
theorem d_79_86 : decode (g_m 79).2.1 86 = .ok (.isub, 1) := by decide +kernel
theorem d_79_87 : decode (g_m 79).2.1 87 = .ok (.iload 6, 2) := by decide +kernel
theorem d_79_89 : decode (g_m 79).2.1 89 = .ok (.iload 7, 2) := by decide +kernel
theorem d_79_91 : decode (g_m 79).2.1 91 = .ok (.isub, 1) := by decide +kernel
theorem d_79_92 : decode (g_m 79).2.1 92 = .ok (.imul, 1) := by decide +kernel
theorem d_79_93 : decode (g_m 79).2.1 93 = .ok (.iadd, 1) := by decide +kernel
theorem d_79_94 : decode (g_m 79).2.1 94 = .ok (.goto (33), 3) := by decide +kernel
theorem d_79_97 : decode (g_m 79).2.1 97 = .ok (.aload_n 0, 1) := by decide +kernel
theorem d_79_98 : decode (g_m 79).2.1 98 = .ok (.getfield 83, 3) := by decide +kernel
theorem d_79_101 : decode (g_m 79).2.1 101 = .ok (.iconst 1, 1) := by decide +kernel
theorem d_79_102 : decode (g_m 79).2.1 102 = .ok (.if_icmp .ne (14), 3) := by decide +kernel
theorem d_79_105 : decode (g_m 79).2.1 105 = .ok (.iload 4, 2) := by decide +kernel
theorem d_79_107 : decode (g_m 79).2.1 107 = .ok (.iload 6, 2) := by decide +kernel
theorem d_79_109 : decode (g_m 79).2.1 109 = .ok (.iload 7, 2) := by decide +kernel
theorem d_79_111 : decode (g_m 79).2.1 111 = .ok (.imul, 1) := by decide +kernel
theorem d_79_112 : decode (g_m 79).2.1 112 = .ok (.isub, 1) := by decide +kernel
theorem d_79_113 : decode (g_m 79).2.1 113 = .ok (.goto (14), 3) := by decide +kernel
theorem d_79_116 : decode (g_m 79).2.1 116 = .ok (.iload 4, 2) := by decide +kernel
theorem d_79_118 : decode (g_m 79).2.1 118 = .ok (.iload 6, 2) := by decide +kernel
theorem d_79_120 : decode (g_m 79).2.1 120 = .ok (.iload 7, 2) := by decide +kernel
theorem d_79_122 : decode (g_m 79).2.1 122 = .ok (.isub, 1) := by decide +kernel
theorem d_79_123 : decode (g_m 79).2.1 123 = .ok (.invokestatic 86, 3) := by decide +kernel
theorem d_79_126 : decode (g_m 79).2.1 126 = .ok (.iadd, 1) := by decide +kernel
theorem d_79_127 : decode (g_m 79).2.1 127 = .ok (.istore 4, 2) := by decide +kernel
theorem d_79_129 : decode (g_m 79).2.1 129 = .ok (.iinc 5 1, 3) := by decide +kernel
theorem d_79_132 : decode (g_m 79).2.1 132 = .ok (.goto (-106), 3) := by decide +kernel
theorem d_79_135 : decode (g_m 79).2.1 135 = .ok (.iload 4, 2) := by decide +kernel
theorem d_79_137 : decode (g_m 79).2.1 137 = .ok (.ireturn, 1) := by decide +kernel
theorem d_80_0 : decode (g_m 80).2.1 0 = .ok (.iload_n 0, 1) := by decide +kernel
theorem d_80_1 : decode (g_m 80).2.1 1 = .ok (.ifCond .ge (8), 3) := by decide +kernel
theorem d_80_4 : decode (g_m 80).2.1 4 = .ok (.iload_n 0, 1) := by decide +kernel
theorem d_80_5 : decode (g_m 80).2.1 5 = .ok (.ineg, 1) := by decide +kernel
theorem d_80_6 : decode (g_m 80).2.1 6 = .ok (.goto (4), 3) := by decide +kernel
theorem d_80_9 : decode (g_m 80).2.1 9 = .ok (.iload_n 0, 1) := by decide +kernel
theorem d_80_10 : decode (g_m 80).2.1 10 = .ok (.ireturn, 1) := by decide +kernel
theorem d_81_0 : decode (g_m 81).2.1 0 = .ok (.aload_n 0, 1) := by decide +kernel
theorem d_81_1 : decode (g_m 81).2.1 1 = .ok (.iconst 0, 1) := by decide +kernel
theorem d_81_2 : decode (g_m 81).2.1 2 = .ok (.putfield 171, 3) := by decide +kernel
theorem d_81_5 : decode (g_m 81).2.1 5 = .ok (.aload_n 0, 1) := by decide +kernel
theorem d_81_6 : decode (g_m 81).2.1 6 = .ok (.aload_n 0, 1) := by decide +kernel
theorem d_81_7 : decode (g_m 81).2.1 7 = .ok (.getfield 61, 3) := by decide +kernel
theorem d_81_10 : decode (g_m 81).2.1 10 = .ok (.bipush 100, 2) := by decide +kernel
theorem d_81_12 : decode (g_m 81).2.1 12 = .ok (.iconst 1, 1) := by decide +kernel
theorem d_81_13 : decode (g_m 81).2.1 13 = .ok (.invokevirtual 109, 3) := by decide +kernel
theorem d_81_16 : decode (g_m 81).2.1 16 = .ok (.istore_n 2, 1) := by decide +kernel
theorem d_81_17 : decode (g_m 81).2.1 17 = .ok (.iload_n 2, 1) := by decide +kernel
theorem d_81_18 : decode (g_m 81).2.1 18 = .ok (.ifCond .lt (53), 3) := by decide +kernel
theorem d_81_21 : decode (g_m 81).2.1 21 = .ok (.aload_n 0, 1) := by decide +kernel
theorem d_81_22 : decode (g_m 81).2.1 22 = .ok (.getfield 171, 3) := by decide +kernel
theorem d_81_25 : decode (g_m 81).2.1 25 = .ok (.iload_n 1, 1) := by decide +kernel
theorem d_81_26 : decode (g_m 81).2.1 26 = .ok (.if_icmp .ge (45), 3) := by decide +kernel
theorem d_81_29 : decode (g_m 81).2.1 29 = .ok (.aload_n 0, 1) := by decide +kernel
theorem d_81_30 : decode (g_m 81).2.1 30 = .ok (.getfield 61, 3) := by decide +kernel
theorem d_81_33 : decode (g_m 81).2.1 33 = .ok (.iload_n 2, 1) := by decide +kernel
theorem d_81_34 : decode (g_m 81).2.1 34 = .ok (.iconst 0, 1) := by decide +kernel
theorem d_81_35 : decode (g_m 81).2.1 35 = .ok (.bastore, 1) := by decide +kernel
theorem d_81_36 : decode (g_m 81).2.1 36 = .ok (.aload_n 0, 1) := by decide +kernel
theorem d_81_37 : decode (g_m 81).2.1 37 = .ok (.getfield 64, 3) := by decide +kernel
theorem d_81_40 : decode (g_m 81).2.1 40 = .ok (.aload_n 0, 1) := by decide +kernel
theorem d_81_41 : decode (g_m 81).2.1 41 = .ok (.getfield 171, 3) := by decide +kernel
theorem d_81_44 : decode (g_m 81).2.1 44 = .ok (.iload_n 2, 1) := by decide +kernel
theorem d_81_45 : decode (g_m 81).2.1 45 = .ok (.iastore, 1) := by decide +kernel
theorem d_81_46 : decode (g_m 81).2.1 46 = .ok (.aload_n 0, 1) := by decide +kernel
theorem d_81_47 : decode (g_m 81).2.1 47 = .ok (.dup, 1) := by decide +kernel
theorem d_81_48 : decode (g_m 81).2.1 48 = .ok (.getfield 171, 3) := by decide +kernel
theorem d_81_51 : decode (g_m 81).2.1 51 = .ok (.iconst 1, 1) := by decide +kernel
theorem d_81_52 : decode (g_m 81).2.1 52 = .ok (.iadd, 1) := by decide +kernel
theorem d_81_53 : decode (g_m 81).2.1 53 = .ok (.putfield 171, 3) := by decide +kernel
theorem d_81_56 : decode (g_m 81).2.1 56 = .ok (.aload_n 0, 1) := by decide +kernel
theorem d_81_57 : decode (g_m 81).2.1 57 = .ok (.aload_n 0, 1) := by decide +kernel
theorem d_81_58 : decode (g_m 81).2.1 58 = .ok (.getfield 61, 3) := by decide +kernel
theorem d_81_61 : decode (g_m 81).2.1 61 = .ok (.bipush 100, 2) := by decide +kernel
theorem d_81_63 : decode (g_m 81).2.1 63 = .ok (.iconst 1, 1) := by decide +kernel
theorem d_81_64 : decode (g_m 81).2.1 64 = .ok (.invokevirtual 109, 3) := by decide +kernel
theorem d_81_67 : decode (g_m 81).2.1 67 = .ok (.istore_n 2, 1) := by decide +kernel
theorem d_81_68 : decode (g_m 81).2.1 68 = .ok (.goto (-51), 3) := by decide +kernel
theorem d_81_71 : decode (g_m 81).2.1 71 = .ok (.return_, 1) := by decide +kernel
theorem d_82_0 : decode (g_m 82).2.1 0 = .ok (.iconst (-1), 1) := by decide +kernel
theorem d_82_1 : decode (g_m 82).2.1 1 = .ok (.istore 4, 2) := by decide +kernel
theorem d_82_3 : decode (g_m 82).2.1 3 = .ok (.iconst 0, 1) := by decide +kernel
theorem d_82_4 : decode (g_m 82).2.1 4 = .ok (.istore 5, 2) := by decide +kernel
theorem d_82_6 : decode (g_m 82).2.1 6 = .ok (.iload 5, 2) := by decide +kernel
theorem d_82_8 : decode (g_m 82).2.1 8 = .ok (.aload_n 0, 1) := by decide +kernel
theorem d_82_9 : decode (g_m 82).2.1 9 = .ok (.getfield 76, 3) := by decide +kernel
theorem d_82_12 : decode (g_m 82).2.1 12 = .ok (.if_icmp .ge (38), 3) := by decide +kernel
theorem d_82_15 : decode (g_m 82).2.1 15 = .ok (.aload_n 1, 1) := by decide +kernel
theorem d_82_16 : decode (g_m 82).2.1 16 = .ok (.iload 5, 2) := by decide +kernel
theorem d_82_18 : decode (g_m 82).2.1 18 = .ok (.baload, 1) := by decide +kernel
theorem d_82_19 : decode (g_m 82).2.1 19 = .ok (.ifCond .eq (25), 3) := by decide +kernel
theorem d_82_22 : decode (g_m 82).2.1 22 = .ok (.iload 4, 2) := by decide +kernel
theorem d_82_24 : decode (g_m 82).2.1 24 = .ok (.ifCond .lt (16), 3) := by decide +kernel
theorem d_82_27 : decode (g_m 82).2.1 27 = .ok (.aload_n 0, 1) := by decide +kernel
theorem d_82_28 : decode (g_m 82).2.1 28 = .ok (.iload_n 2, 1) := by decide +kernel
theorem d_82_29 : decode (g_m 82).2.1 29 = .ok (.iload 5, 2) := by decide +kernel
theorem d_82_31 : decode (g_m 82).2.1 31 = .ok (.iload 4, 2) := by decide +kernel
theorem d_82_33 : decode (g_m 82).2.1 33 = .ok (.invokevirtual 100, 3) := by decide +kernel
theorem d_82_36 : decode (g_m 82).2.1 36 = .ok (.iload_n 3, 1) := by decide +kernel
theorem d_82_37 : decode (g_m 82).2.1 37 = .ok (.if_icmp .ne (7), 3) := by decide +kernel
theorem d_82_40 : decode (g_m 82).2.1 40 = .ok (.iload 5, 2) := by decide +kernel
theorem d_82_42 : decode (g_m 82).2.1 42 = .ok (.istore 4, 2) := by decide +kernel
theorem d_82_44 : decode (g_m 82).2.1 44 = .ok (.iinc 5 1, 3) := by decide +kernel
theorem d_82_47 : decode (g_m 82).2.1 47 = .ok (.goto (-41), 3) := by decide +kernel
theorem d_82_50 : decode (g_m 82).2.1 50 = .ok (.iload 4, 2) := by decide +kernel
theorem d_82_52 : decode (g_m 82).2.1 52 = .ok (.ireturn, 1) := by decide +kernel
theorem d_83_0 : decode (g_m 83).2.1 0 = .ok (.aload_n 0, 1) := by decide +kernel
theorem d_83_1 : decode (g_m 83).2.1 1 = .ok (.getfield 43, 3) := by decide +kernel
theorem d_83_4 : decode (g_m 83).2.1 4 = .ok (.bipush 100, 2) := by decide +kernel
theorem d_83_6 : decode (g_m 83).2.1 6 = .ok (.iload_n 1, 1) := by decide +kernel
theorem d_83_7 : decode (g_m 83).2.1 7 = .ok (.imul, 1) := by decide +kernel
theorem d_83_8 : decode (g_m 83).2.1 8 = .ok (.iload_n 2, 1) := by decide +kernel
theorem d_83_9 : decode (g_m 83).2.1 9 = .ok (.iadd, 1) := by decide +kernel
theorem d_83_10 : decode (g_m 83).2.1 10 = .ok (.iaload, 1) := by decide +kernel
theorem d_83_11 : decode (g_m 83).2.1 11 = .ok (.istore 4, 2) := by decide +kernel
theorem d_83_13 : decode (g_m 83).2.1 13 = .ok (.aload_n 0, 1) := by decide +kernel
theorem d_83_14 : decode (g_m 83).2.1 14 = .ok (.getfield 43, 3) := by decide +kernel
theorem d_83_17 : decode (g_m 83).2.1 17 = .ok (.bipush 100, 2) := by decide +kernel
theorem d_83_19 : decode (g_m 83).2.1 19 = .ok (.iload_n 1, 1) := by decide +kernel
theorem d_83_20 : decode (g_m 83).2.1 20 = .ok (.imul, 1) := by decide +kernel
theorem d_83_21 : decode (g_m 83).2.1 21 = .ok (.iload_n 3, 1) := by decide +kernel
theorem d_83_22 : decode (g_m 83).2.1 22 = .ok (.iadd, 1) := by decide +kernel
theorem d_83_23 : decode (g_m 83).2.1 23 = .ok (.iaload, 1) := by decide +kernel
theorem d_83_24 : decode (g_m 83).2.1 24 = .ok (.istore 5, 2) := by decide +kernel
theorem d_83_26 : decode (g_m 83).2.1 26 = .ok (.iload 4, 2) := by decide +kernel
theorem d_83_28 : decode (g_m 83).2.1 28 = .ok (.iload 5, 2) := by decide +kernel
theorem d_83_30 : decode (g_m 83).2.1 30 = .ok (.if_icmp .lt (15), 3) := by decide +kernel
theorem d_83_33 : decode (g_m 83).2.1 33 = .ok (.iload 4, 2) := by decide +kernel
theorem d_83_35 : decode (g_m 83).2.1 35 = .ok (.iload 5, 2) := by decide +kernel
theorem d_83_37 : decode (g_m 83).2.1 37 = .ok (.if_icmp .ne (12), 3) := by decide +kernel
theorem d_83_40 : decode (g_m 83).2.1 40 = .ok (.iload_n 2, 1) := by decide +kernel
theorem d_83_41 : decode (g_m 83).2.1 41 = .ok (.iload_n 3, 1) := by decide +kernel
theorem d_83_42 : decode (g_m 83).2.1 42 = .ok (.if_icmp .ge (7), 3) := by decide +kernel
theorem d_83_45 : decode (g_m 83).2.1 45 = .ok (.iconst 1, 1) := by decide +kernel
theorem d_83_46 : decode (g_m 83).2.1 46 = .ok (.goto (4), 3) := by decide +kernel
theorem d_83_49 : decode (g_m 83).2.1 49 = .ok (.iconst 0, 1) := by decide +kernel
theorem d_83_50 : decode (g_m 83).2.1 50 = .ok (.ireturn, 1) := by decide +kernel
theorem d_84_0 : decode (g_m 84).2.1 0 = .ok (.aload_n 0, 1) := by decide +kernel
theorem d_84_1 : decode (g_m 84).2.1 1 = .ok (.aload_n 0, 1) := by decide +kernel
theorem d_84_2 : decode (g_m 84).2.1 2 = .ok (.getfield 171, 3) := by decide +kernel
theorem d_84_5 : decode (g_m 84).2.1 5 = .ok (.putfield 164, 3) := by decide +kernel
theorem d_84_8 : decode (g_m 84).2.1 8 = .ok (.iconst 0, 1) := by decide +kernel
theorem d_84_9 : decode (g_m 84).2.1 9 = .ok (.istore_n 1, 1) := by decide +kernel
theorem d_84_10 : decode (g_m 84).2.1 10 = .ok (.iload_n 1, 1) := by decide +kernel
theorem d_84_11 : decode (g_m 84).2.1 11 = .ok (.aload_n 0, 1) := by decide +kernel
theorem d_84_12 : decode (g_m 84).2.1 12 = .ok (.getfield 171, 3) := by decide +kernel
theorem d_84_15 : decode (g_m 84).2.1 15 = .ok (.if_icmp .ge (21), 3) := by decide +kernel
theorem d_84_18 : decode (g_m 84).2.1 18 = .ok (.aload_n 0, 1) := by decide +kernel
theorem d_84_19 : decode (g_m 84).2.1 19 = .ok (.getfield 30, 3) := by decide +kernel
theorem d_84_22 : decode (g_m 84).2.1 22 = .ok (.iload_n 1, 1) := by decide +kernel
theorem d_84_23 : decode (g_m 84).2.1 23 = .ok (.aload_n 0, 1) := by decide +kernel
theorem d_84_24 : decode (g_m 84).2.1 24 = .ok (.getfield 64, 3) := by decide +kernel
theorem d_84_27 : decode (g_m 84).2.1 27 = .ok (.iload_n 1, 1) := by decide +kernel
theorem d_84_28 : decode (g_m 84).2.1 28 = .ok (.iaload, 1) := by decide +kernel
theorem d_84_29 : decode (g_m 84).2.1 29 = .ok (.iastore, 1) := by decide +kernel
theorem d_84_30 : decode (g_m 84).2.1 30 = .ok (.iinc 1 1, 3) := by decide +kernel
theorem d_84_33 : decode (g_m 84).2.1 33 = .ok (.goto (-23), 3) := by decide +kernel
theorem d_84_36 : decode (g_m 84).2.1 36 = .ok (.aload_n 0, 1) := by decide +kernel
theorem d_84_37 : decode (g_m 84).2.1 37 = .ok (.getfield 164, 3) := by decide +kernel
theorem d_84_40 : decode (g_m 84).2.1 40 = .ok (.ireturn, 1) := by decide +kernel
theorem d_85_0 : decode (g_m 85).2.1 0 = .ok (.aload_n 0, 1) := by decide +kernel
theorem d_85_1 : decode (g_m 85).2.1 1 = .ok (.iconst 0, 1) := by decide +kernel
theorem d_85_2 : decode (g_m 85).2.1 2 = .ok (.putfield 1, 3) := by decide +kernel
theorem d_85_5 : decode (g_m 85).2.1 5 = .ok (.iload_n 1, 1) := by decide +kernel
theorem d_85_6 : decode (g_m 85).2.1 6 = .ok (.i2l, 1) := by decide +kernel
theorem d_85_7 : decode (g_m 85).2.1 7 = .ok (.lconst 1, 1) := by decide +kernel
theorem d_85_8 : decode (g_m 85).2.1 8 = .ok (.ldc2_w 190, 3) := by decide +kernel
theorem d_85_11 : decode (g_m 85).2.1 11 = .ok (.invokestatic 79, 3) := by decide +kernel
theorem d_85_14 : decode (g_m 85).2.1 14 = .ok (.ifCond .eq (16), 3) := by decide +kernel
theorem d_85_17 : decode (g_m 85).2.1 17 = .ok (.iload_n 2, 1) := by decide +kernel
theorem d_85_18 : decode (g_m 85).2.1 18 = .ok (.i2l, 1) := by decide +kernel
theorem d_85_19 : decode (g_m 85).2.1 19 = .ok (.iload_n 1, 1) := by decide +kernel
theorem d_85_20 : decode (g_m 85).2.1 20 = .ok (.i2l, 1) := by decide +kernel
theorem d_85_21 : decode (g_m 85).2.1 21 = .ok (.ldc2_w 190, 3) := by decide +kernel
theorem d_85_24 : decode (g_m 85).2.1 24 = .ok (.invokestatic 79, 3) := by decide +kernel
theorem d_85_27 : decode (g_m 85).2.1 27 = .ok (.ifCond .ne (5), 3) := by decide +kernel
theorem d_85_30 : decode (g_m 85).2.1 30 = .ok (.iconst (-1), 1) := by decide +kernel
theorem d_85_31 : decode (g_m 85).2.1 31 = .ok (.ireturn, 1) := by decide +kernel
theorem d_85_32 : decode (g_m 85).2.1 32 = .ok (.aload_n 0, 1) := by decide +kernel
theorem d_85_33 : decode (g_m 85).2.1 33 = .ok (.iload_n 1, 1) := by decide +kernel
theorem d_85_34 : decode (g_m 85).2.1 34 = .ok (.iload_n 2, 1) := by decide +kernel
theorem d_85_35 : decode (g_m 85).2.1 35 = .ok (.invokevirtual 192, 3) := by decide +kernel
theorem d_85_38 : decode (g_m 85).2.1 38 = .ok (.aload_n 0, 1) := by decide +kernel
theorem d_85_39 : decode (g_m 85).2.1 39 = .ok (.invokevirtual 186, 3) := by decide +kernel
theorem d_85_42 : decode (g_m 85).2.1 42 = .ok (.ireturn, 1) := by decide +kernel
theorem d_86_0 : decode (g_m 86).2.1 0 = .ok (.aload_n 0, 1) := by decide +kernel
theorem d_86_1 : decode (g_m 86).2.1 1 = .ok (.invokevirtual 180, 3) := by decide +kernel
theorem d_86_4 : decode (g_m 86).2.1 4 = .ok (.aload_n 0, 1) := by decide +kernel
theorem d_86_5 : decode (g_m 86).2.1 5 = .ok (.iconst 0, 1) := by decide +kernel
theorem d_86_6 : decode (g_m 86).2.1 6 = .ok (.putfield 106, 3) := by decide +kernel
theorem d_86_9 : decode (g_m 86).2.1 9 = .ok (.aload_n 0, 1) := by decide +kernel
theorem d_86_10 : decode (g_m 86).2.1 10 = .ok (.iconst 0, 1) := by decide +kernel
theorem d_86_11 : decode (g_m 86).2.1 11 = .ok (.putfield 171, 3) := by decide +kernel
theorem d_86_14 : decode (g_m 86).2.1 14 = .ok (.aload_n 0, 1) := by decide +kernel
theorem d_86_15 : decode (g_m 86).2.1 15 = .ok (.getfield 76, 3) := by decide +kernel
theorem d_86_18 : decode (g_m 86).2.1 18 = .ok (.ifCond .ne (4), 3) := by decide +kernel
theorem d_86_21 : decode (g_m 86).2.1 21 = .ok (.return_, 1) := by decide +kernel
theorem d_86_22 : decode (g_m 86).2.1 22 = .ok (.aload_n 0, 1) := by decide +kernel
theorem d_86_23 : decode (g_m 86).2.1 23 = .ok (.bipush 100, 2) := by decide +kernel
theorem d_86_25 : decode (g_m 86).2.1 25 = .ok (.bipush 100, 2) := by decide +kernel
theorem d_86_27 : decode (g_m 86).2.1 27 = .ok (.invokevirtual 146, 3) := by decide +kernel
theorem d_86_30 : decode (g_m 86).2.1 30 = .ok (.aload_n 0, 1) := by decide +kernel
theorem d_86_31 : decode (g_m 86).2.1 31 = .ok (.getfield 40, 3) := by decide +kernel
theorem d_86_34 : decode (g_m 86).2.1 34 = .ok (.istore_n 3, 1) := by decide +kernel
theorem d_86_35 : decode (g_m 86).2.1 35 = .ok (.aload_n 0, 1) := by decide +kernel
theorem d_86_36 : decode (g_m 86).2.1 36 = .ok (.getfield 33, 3) := by decide +kernel
theorem d_86_39 : decode (g_m 86).2.1 39 = .ok (.aload_n 0, 1) := by decide +kernel
theorem d_86_40 : decode (g_m 86).2.1 40 = .ok (.getfield 40, 3) := by decide +kernel
theorem d_86_43 : decode (g_m 86).2.1 43 = .ok (.iaload, 1) := by decide +kernel
theorem d_86_44 : decode (g_m 86).2.1 44 = .ok (.istore 4, 2) := by decide +kernel
theorem d_86_46 : decode (g_m 86).2.1 46 = .ok (.iload 4, 2) := by decide +kernel
theorem d_86_48 : decode (g_m 86).2.1 48 = .ok (.ifCond .le (31), 3) := by decide +kernel
theorem d_86_51 : decode (g_m 86).2.1 51 = .ok (.aload_n 0, 1) := by decide +kernel
theorem d_86_52 : decode (g_m 86).2.1 52 = .ok (.iload 4, 2) := by decide +kernel
theorem d_86_54 : decode (g_m 86).2.1 54 = .ok (.iload_n 3, 1) := by decide +kernel
theorem d_86_55 : decode (g_m 86).2.1 55 = .ok (.bipush 100, 2) := by decide +kernel
theorem d_86_57 : decode (g_m 86).2.1 57 = .ok (.iconst 1, 1) := by decide +kernel
theorem d_86_58 : decode (g_m 86).2.1 58 = .ok (.invokevirtual 132, 3) := by decide +kernel
theorem d_86_61 : decode (g_m 86).2.1 61 = .ok (.aload_n 0, 1) := by decide +kernel
theorem d_86_62 : decode (g_m 86).2.1 62 = .ok (.aload_n 0, 1) := by decide +kernel
theorem d_86_63 : decode (g_m 86).2.1 63 = .ok (.getfield 52, 3) := by decide +kernel
theorem d_86_66 : decode (g_m 86).2.1 66 = .ok (.bipush 100, 2) := by decide +kernel
theorem d_86_68 : decode (g_m 86).2.1 68 = .ok (.iconst 1, 1) := by decide +kernel
theorem d_86_69 : decode (g_m 86).2.1 69 = .ok (.invokevirtual 109, 3) := by decide +kernel
theorem d_86_72 : decode (g_m 86).2.1 72 = .ok (.istore_n 3, 1) := by decide +kernel
theorem d_86_73 : decode (g_m 86).2.1 73 = .ok (.iinc 4 (-1), 3) := by decide +kernel
theorem d_86_76 : decode (g_m 86).2.1 76 = .ok (.goto (-30), 3) := by decide +kernel
theorem d_86_79 : decode (g_m 86).2.1 79 = .ok (.aload_n 0, 1) := by decide +kernel
theorem d_86_80 : decode (g_m 86).2.1 80 = .ok (.iconst 0, 1) := by decide +kernel
theorem d_86_81 : decode (g_m 86).2.1 81 = .ok (.iload_n 3, 1) := by decide +kernel
theorem d_86_82 : decode (g_m 86).2.1 82 = .ok (.bipush 100, 2) := by decide +kernel
theorem d_86_84 : decode (g_m 86).2.1 84 = .ok (.iload_n 2, 1) := by decide +kernel
theorem d_86_85 : decode (g_m 86).2.1 85 = .ok (.invokevirtual 132, 3) := by decide +kernel
theorem d_86_88 : decode (g_m 86).2.1 88 = .ok (.iconst 0, 1) := by decide +kernel
theorem d_86_89 : decode (g_m 86).2.1 89 = .ok (.istore 4, 2) := by decide +kernel
theorem d_86_91 : decode (g_m 86).2.1 91 = .ok (.iload 4, 2) := by decide +kernel
theorem d_86_93 : decode (g_m 86).2.1 93 = .ok (.aload_n 0, 1) := by decide +kernel
theorem d_86_94 : decode (g_m 86).2.1 94 = .ok (.getfield 76, 3) := by decide +kernel
theorem d_86_97 : decode (g_m 86).2.1 97 = .ok (.if_icmp .ge (40), 3) := by decide +kernel
theorem d_86_100 : decode (g_m 86).2.1 100 = .ok (.aload_n 0, 1) := by decide +kernel
theorem d_86_101 : decode (g_m 86).2.1 101 = .ok (.getfield 61, 3) := by decide +kernel
theorem d_86_104 : decode (g_m 86).2.1 104 = .ok (.iload 4, 2) := by decide +kernel
theorem d_86_106 : decode (g_m 86).2.1 106 = .ok (.aload_n 0, 1) := by decide +kernel
theorem d_86_107 : decode (g_m 86).2.1 107 = .ok (.getfield 52, 3) := by decide +kernel
theorem d_86_110 : decode (g_m 86).2.1 110 = .ok (.iload 4, 2) := by decide +kernel
theorem d_86_112 : decode (g_m 86).2.1 112 = .ok (.baload, 1) := by decide +kernel
theorem d_86_113 : decode (g_m 86).2.1 113 = .ok (.ifCond .eq (16), 3) := by decide +kernel
theorem d_86_116 : decode (g_m 86).2.1 116 = .ok (.aload_n 0, 1) := by decide +kernel
theorem d_86_117 : decode (g_m 86).2.1 117 = .ok (.iload 4, 2) := by decide +kernel
theorem d_86_119 : decode (g_m 86).2.1 119 = .ok (.invokevirtual 174, 3) := by decide +kernel
theorem d_86_122 : decode (g_m 86).2.1 122 = .ok (.ifCond .eq (7), 3) := by decide +kernel
theorem d_86_125 : decode (g_m 86).2.1 125 = .ok (.iconst 1, 1) := by decide +kernel
theorem d_86_126 : decode (g_m 86).2.1 126 = .ok (.goto (4), 3) := by decide +kernel
theorem d_86_129 : decode (g_m 86).2.1 129 = .ok (.iconst 0, 1) := by decide +kernel
theorem d_86_130 : decode (g_m 86).2.1 130 = .ok (.bastore, 1) := by decide +kernel
theorem d_86_131 : decode (g_m 86).2.1 131 = .ok (.iinc 4 1, 3) := by decide +kernel
theorem d_86_134 : decode (g_m 86).2.1 134 = .ok (.goto (-43), 3) := by decide +kernel
theorem d_86_137 : decode (g_m 86).2.1 137 = .ok (.aload_n 0, 1) := by decide +kernel
theorem d_86_138 : decode (g_m 86).2.1 138 = .ok (.iload_n 1, 1) := by decide +kernel
theorem d_86_139 : decode (g_m 86).2.1 139 = .ok (.invokevirtual 177, 3) := by decide +kernel
theorem d_86_142 : decode (g_m 86).2.1 142 = .ok (.return_, 1) := by decide +kernel
theorem d_87_0 : decode (g_m 87).2.1 0 = .ok (.aload_n 0, 1) := by decide +kernel
theorem d_87_1 : decode (g_m 87).2.1 1 = .ok (.getfield 139, 3) := by decide +kernel
theorem d_87_4 : decode (g_m 87).2.1 4 = .ok (.ifCond .ne (4), 3) := by decide +kernel
theorem d_87_7 : decode (g_m 87).2.1 7 = .ok (.return_, 1) := by decide +kernel
theorem d_87_8 : decode (g_m 87).2.1 8 = .ok (.aload_n 0, 1) := by decide +kernel
theorem d_87_9 : decode (g_m 87).2.1 9 = .ok (.iconst 0, 1) := by decide +kernel
theorem d_87_10 : decode (g_m 87).2.1 10 = .ok (.putfield 139, 3) := by decide +kernel
theorem d_87_13 : decode (g_m 87).2.1 13 = .ok (.aload_n 0, 1) := by decide +kernel
theorem d_87_14 : decode (g_m 87).2.1 14 = .ok (.getfield 106, 3) := by decide +kernel
theorem d_87_17 : decode (g_m 87).2.1 17 = .ok (.istore_n 1, 1) := by decide +kernel
theorem d_87_18 : decode (g_m 87).2.1 18 = .ok (.aload_n 0, 1) := by decide +kernel
theorem d_87_19 : decode (g_m 87).2.1 19 = .ok (.iconst (-1), 1) := by decide +kernel
theorem d_87_20 : decode (g_m 87).2.1 20 = .ok (.putfield 40, 3) := by decide +kernel
theorem d_87_23 : decode (g_m 87).2.1 23 = .ok (.iconst 0, 1) := by decide +kernel
theorem d_87_24 : decode (g_m 87).2.1 24 = .ok (.istore_n 2, 1) := by decide +kernel
theorem d_87_25 : decode (g_m 87).2.1 25 = .ok (.iload_n 2, 1) := by decide +kernel
theorem d_87_26 : decode (g_m 87).2.1 26 = .ok (.ldc 36, 2) := by decide +kernel
theorem d_87_28 : decode (g_m 87).2.1 28 = .ok (.if_icmp .ge (16), 3) := by decide +kernel
theorem d_87_31 : decode (g_m 87).2.1 31 = .ok (.aload_n 0, 1) := by decide +kernel
theorem d_87_32 : decode (g_m 87).2.1 32 = .ok (.getfield 37, 3) := by decide +kernel
theorem d_87_35 : decode (g_m 87).2.1 35 = .ok (.iload_n 2, 1) := by decide +kernel
theorem d_87_36 : decode (g_m 87).2.1 36 = .ok (.iconst 0, 1) := by decide +kernel
theorem d_87_37 : decode (g_m 87).2.1 37 = .ok (.bastore, 1) := by decide +kernel
theorem d_87_38 : decode (g_m 87).2.1 38 = .ok (.iinc 2 1, 3) := by decide +kernel
theorem d_87_41 : decode (g_m 87).2.1 41 = .ok (.goto (-16), 3) := by decide +kernel
theorem d_87_44 : decode (g_m 87).2.1 44 = .ok (.iconst 0, 1) := by decide +kernel
theorem d_87_45 : decode (g_m 87).2.1 45 = .ok (.istore_n 2, 1) := by decide +kernel
theorem d_87_46 : decode (g_m 87).2.1 46 = .ok (.iload_n 2, 1) := by decide +kernel
theorem d_87_47 : decode (g_m 87).2.1 47 = .ok (.aload_n 0, 1) := by decide +kernel
theorem d_87_48 : decode (g_m 87).2.1 48 = .ok (.getfield 76, 3) := by decide +kernel
theorem d_87_51 : decode (g_m 87).2.1 51 = .ok (.if_icmp .ge (30), 3) := by decide +kernel
theorem d_87_54 : decode (g_m 87).2.1 54 = .ok (.aload_n 0, 1) := by decide +kernel
theorem d_87_55 : decode (g_m 87).2.1 55 = .ok (.getfield 33, 3) := by decide +kernel
theorem d_87_58 : decode (g_m 87).2.1 58 = .ok (.iload_n 2, 1) := by decide +kernel
theorem d_87_59 : decode (g_m 87).2.1 59 = .ok (.iload_n 2, 1) := by decide +kernel
theorem d_87_60 : decode (g_m 87).2.1 60 = .ok (.aload_n 0, 1) := by decide +kernel
theorem d_87_61 : decode (g_m 87).2.1 61 = .ok (.getfield 73, 3) := by decide +kernel
theorem d_87_64 : decode (g_m 87).2.1 64 = .ok (.invokestatic 143, 3) := by decide +kernel
theorem d_87_67 : decode (g_m 87).2.1 67 = .ok (.iastore, 1) := by decide +kernel
theorem d_87_68 : decode (g_m 87).2.1 68 = .ok (.aload_n 0, 1) := by decide +kernel
theorem d_87_69 : decode (g_m 87).2.1 69 = .ok (.iload_n 2, 1) := by decide +kernel
theorem d_87_70 : decode (g_m 87).2.1 70 = .ok (.bipush 100, 2) := by decide +kernel
theorem d_87_72 : decode (g_m 87).2.1 72 = .ok (.invokevirtual 146, 3) := by decide +kernel
theorem d_87_75 : decode (g_m 87).2.1 75 = .ok (.iinc 2 1, 3) := by decide +kernel
theorem d_87_78 : decode (g_m 87).2.1 78 = .ok (.goto (-32), 3) := by decide +kernel
theorem d_87_81 : decode (g_m 87).2.1 81 = .ok (.iconst 0, 1) := by decide +kernel
theorem d_87_82 : decode (g_m 87).2.1 82 = .ok (.istore_n 2, 1) := by decide +kernel
theorem d_87_83 : decode (g_m 87).2.1 83 = .ok (.iload_n 2, 1) := by decide +kernel
theorem d_87_84 : decode (g_m 87).2.1 84 = .ok (.aload_n 0, 1) := by decide +kernel
theorem d_87_85 : decode (g_m 87).2.1 85 = .ok (.getfield 76, 3) := by decide +kernel
theorem d_87_88 : decode (g_m 87).2.1 88 = .ok (.if_icmp .ge (14), 3) := by decide +kernel
theorem d_87_91 : decode (g_m 87).2.1 91 = .ok (.aload_n 0, 1) := by decide +kernel
theorem d_87_92 : decode (g_m 87).2.1 92 = .ok (.iload_n 2, 1) := by decide +kernel
theorem d_87_93 : decode (g_m 87).2.1 93 = .ok (.invokevirtual 149, 3) := by decide +kernel
theorem d_87_96 : decode (g_m 87).2.1 96 = .ok (.iinc 2 1, 3) := by decide +kernel
theorem d_87_99 : decode (g_m 87).2.1 99 = .ok (.goto (-16), 3) := by decide +kernel
theorem d_87_102 : decode (g_m 87).2.1 102 = .ok (.aload_n 0, 1) := by decide +kernel
theorem d_87_103 : decode (g_m 87).2.1 103 = .ok (.iload_n 1, 1) := by decide +kernel
theorem d_87_104 : decode (g_m 87).2.1 104 = .ok (.putfield 106, 3) := by decide +kernel
theorem d_87_107 : decode (g_m 87).2.1 107 = .ok (.return_, 1) := by decide +kernel
theorem d_88_0 : decode (g_m 88).2.1 0 = .ok (.iload_n 1, 1) := by decide +kernel
theorem d_88_1 : decode (g_m 88).2.1 1 = .ok (.iload_n 0, 1) := by decide +kernel
theorem d_88_2 : decode (g_m 88).2.1 2 = .ok (.ixor, 1) := by decide +kernel
theorem d_88_3 : decode (g_m 88).2.1 3 = .ok (.ldc 94, 2) := by decide +kernel
theorem d_88_5 : decode (g_m 88).2.1 5 = .ok (.imul, 1) := by decide +kernel
theorem d_88_6 : decode (g_m 88).2.1 6 = .ok (.istore_n 2, 1) := by decide +kernel
theorem d_88_7 : decode (g_m 88).2.1 7 = .ok (.iload_n 2, 1) := by decide +kernel
theorem d_88_8 : decode (g_m 88).2.1 8 = .ok (.iload_n 2, 1) := by decide +kernel
theorem d_88_9 : decode (g_m 88).2.1 9 = .ok (.bipush 16, 2) := by decide +kernel
theorem d_88_11 : decode (g_m 88).2.1 11 = .ok (.iushr, 1) := by decide +kernel
theorem d_88_12 : decode (g_m 88).2.1 12 = .ok (.ixor, 1) := by decide +kernel
theorem d_88_13 : decode (g_m 88).2.1 13 = .ok (.ldc 95, 2) := by decide +kernel
theorem d_88_15 : decode (g_m 88).2.1 15 = .ok (.imul, 1) := by decide +kernel
theorem d_88_16 : decode (g_m 88).2.1 16 = .ok (.istore_n 2, 1) := by decide +kernel
theorem d_88_17 : decode (g_m 88).2.1 17 = .ok (.iload_n 2, 1) := by decide +kernel
theorem d_88_18 : decode (g_m 88).2.1 18 = .ok (.iload_n 2, 1) := by decide +kernel
theorem d_88_19 : decode (g_m 88).2.1 19 = .ok (.bipush 13, 2) := by decide +kernel
theorem d_88_21 : decode (g_m 88).2.1 21 = .ok (.iushr, 1) := by decide +kernel
theorem d_88_22 : decode (g_m 88).2.1 22 = .ok (.ixor, 1) := by decide +kernel
theorem d_88_23 : decode (g_m 88).2.1 23 = .ok (.istore_n 2, 1) := by decide +kernel
theorem d_88_24 : decode (g_m 88).2.1 24 = .ok (.iconst 0, 1) := by decide +kernel
theorem d_88_25 : decode (g_m 88).2.1 25 = .ok (.istore_n 3, 1) := by decide +kernel
theorem d_88_26 : decode (g_m 88).2.1 26 = .ok (.iload_n 3, 1) := by decide +kernel
theorem d_88_27 : decode (g_m 88).2.1 27 = .ok (.bipush 32, 2) := by decide +kernel
theorem d_88_29 : decode (g_m 88).2.1 29 = .ok (.if_icmp .ge (17), 3) := by decide +kernel
theorem d_88_32 : decode (g_m 88).2.1 32 = .ok (.iload_n 2, 1) := by decide +kernel
theorem d_88_33 : decode (g_m 88).2.1 33 = .ok (.iload_n 3, 1) := by decide +kernel
theorem d_88_34 : decode (g_m 88).2.1 34 = .ok (.iushr, 1) := by decide +kernel
theorem d_88_35 : decode (g_m 88).2.1 35 = .ok (.iconst 1, 1) := by decide +kernel
theorem d_88_36 : decode (g_m 88).2.1 36 = .ok (.iand, 1) := by decide +kernel
theorem d_88_37 : decode (g_m 88).2.1 37 = .ok (.ifCond .ne (9), 3) := by decide +kernel
theorem d_88_40 : decode (g_m 88).2.1 40 = .ok (.iinc 3 1, 3) := by decide +kernel
theorem d_88_43 : decode (g_m 88).2.1 43 = .ok (.goto (-17), 3) := by decide +kernel
theorem d_88_46 : decode (g_m 88).2.1 46 = .ok (.iload_n 3, 1) := by decide +kernel
theorem d_88_47 : decode (g_m 88).2.1 47 = .ok (.iconst 2, 1) := by decide +kernel
theorem d_88_48 : decode (g_m 88).2.1 48 = .ok (.idiv, 1) := by decide +kernel
theorem d_88_49 : decode (g_m 88).2.1 49 = .ok (.iconst 4, 1) := by decide +kernel
theorem d_88_50 : decode (g_m 88).2.1 50 = .ok (.if_icmp .le (7), 3) := by decide +kernel
theorem d_88_53 : decode (g_m 88).2.1 53 = .ok (.iconst 4, 1) := by decide +kernel
theorem d_88_54 : decode (g_m 88).2.1 54 = .ok (.goto (6), 3) := by decide +kernel
theorem d_88_57 : decode (g_m 88).2.1 57 = .ok (.iload_n 3, 1) := by decide +kernel
theorem d_88_58 : decode (g_m 88).2.1 58 = .ok (.iconst 2, 1) := by decide +kernel
theorem d_88_59 : decode (g_m 88).2.1 59 = .ok (.idiv, 1) := by decide +kernel
theorem d_88_60 : decode (g_m 88).2.1 60 = .ok (.ireturn, 1) := by decide +kernel
theorem d_89_0 : decode (g_m 89).2.1 0 = .ok (.aload_n 0, 1) := by decide +kernel
theorem d_89_1 : decode (g_m 89).2.1 1 = .ok (.getfield 40, 3) := by decide +kernel
theorem d_89_4 : decode (g_m 89).2.1 4 = .ok (.ifCond .ge (9), 3) := by decide +kernel
theorem d_89_7 : decode (g_m 89).2.1 7 = .ok (.aload_n 0, 1) := by decide +kernel
theorem d_89_8 : decode (g_m 89).2.1 8 = .ok (.iload_n 1, 1) := by decide +kernel
theorem d_89_9 : decode (g_m 89).2.1 9 = .ok (.putfield 40, 3) := by decide +kernel
theorem d_89_12 : decode (g_m 89).2.1 12 = .ok (.return_, 1) := by decide +kernel
theorem d_89_13 : decode (g_m 89).2.1 13 = .ok (.aload_n 0, 1) := by decide +kernel
theorem d_89_14 : decode (g_m 89).2.1 14 = .ok (.getfield 40, 3) := by decide +kernel
theorem d_89_17 : decode (g_m 89).2.1 17 = .ok (.istore_n 2, 1) := by decide +kernel
theorem d_89_18 : decode (g_m 89).2.1 18 = .ok (.aload_n 0, 1) := by decide +kernel
theorem d_89_19 : decode (g_m 89).2.1 19 = .ok (.getfield 33, 3) := by decide +kernel
theorem d_89_22 : decode (g_m 89).2.1 22 = .ok (.aload_n 0, 1) := by decide +kernel
theorem d_89_23 : decode (g_m 89).2.1 23 = .ok (.getfield 40, 3) := by decide +kernel
theorem d_89_26 : decode (g_m 89).2.1 26 = .ok (.iaload, 1) := by decide +kernel
theorem d_89_27 : decode (g_m 89).2.1 27 = .ok (.istore_n 3, 1) := by decide +kernel
theorem d_89_28 : decode (g_m 89).2.1 28 = .ok (.iload_n 3, 1) := by decide +kernel
theorem d_89_29 : decode (g_m 89).2.1 29 = .ok (.ifCond .lt (67), 3) := by decide +kernel
theorem d_89_32 : decode (g_m 89).2.1 32 = .ok (.iload_n 3, 1) := by decide +kernel
theorem d_89_33 : decode (g_m 89).2.1 33 = .ok (.aload_n 0, 1) := by decide +kernel
theorem d_89_34 : decode (g_m 89).2.1 34 = .ok (.getfield 33, 3) := by decide +kernel
theorem d_89_37 : decode (g_m 89).2.1 37 = .ok (.iload_n 1, 1) := by decide +kernel
theorem d_89_38 : decode (g_m 89).2.1 38 = .ok (.iaload, 1) := by decide +kernel
theorem d_89_39 : decode (g_m 89).2.1 39 = .ok (.if_icmp .le (25), 3) := by decide +kernel
theorem d_89_42 : decode (g_m 89).2.1 42 = .ok (.aload_n 0, 1) := by decide +kernel
theorem d_89_43 : decode (g_m 89).2.1 43 = .ok (.iload_n 3, 1) := by decide +kernel
theorem d_89_44 : decode (g_m 89).2.1 44 = .ok (.iload_n 2, 1) := by decide +kernel
theorem d_89_45 : decode (g_m 89).2.1 45 = .ok (.iload_n 1, 1) := by decide +kernel
theorem d_89_46 : decode (g_m 89).2.1 46 = .ok (.iconst 1, 1) := by decide +kernel
theorem d_89_47 : decode (g_m 89).2.1 47 = .ok (.invokevirtual 132, 3) := by decide +kernel
theorem d_89_50 : decode (g_m 89).2.1 50 = .ok (.aload_n 0, 1) := by decide +kernel
theorem d_89_51 : decode (g_m 89).2.1 51 = .ok (.aload_n 0, 1) := by decide +kernel
theorem d_89_52 : decode (g_m 89).2.1 52 = .ok (.getfield 52, 3) := by decide +kernel
theorem d_89_55 : decode (g_m 89).2.1 55 = .ok (.iload_n 1, 1) := by decide +kernel
theorem d_89_56 : decode (g_m 89).2.1 56 = .ok (.iconst 1, 1) := by decide +kernel
theorem d_89_57 : decode (g_m 89).2.1 57 = .ok (.invokevirtual 109, 3) := by decide +kernel
theorem d_89_60 : decode (g_m 89).2.1 60 = .ok (.istore_n 2, 1) := by decide +kernel
theorem d_89_61 : decode (g_m 89).2.1 61 = .ok (.goto (29), 3) := by decide +kernel
theorem d_89_64 : decode (g_m 89).2.1 64 = .ok (.aload_n 0, 1) := by decide +kernel
theorem d_89_65 : decode (g_m 89).2.1 65 = .ok (.iload_n 3, 1) := by decide +kernel
theorem d_89_66 : decode (g_m 89).2.1 66 = .ok (.iload_n 2, 1) := by decide +kernel
theorem d_89_67 : decode (g_m 89).2.1 67 = .ok (.iload_n 1, 1) := by decide +kernel
theorem d_89_68 : decode (g_m 89).2.1 68 = .ok (.bipush 12, 2) := by decide +kernel
theorem d_89_70 : decode (g_m 89).2.1 70 = .ok (.invokevirtual 132, 3) := by decide +kernel
theorem d_89_73 : decode (g_m 89).2.1 73 = .ok (.aload_n 0, 1) := by decide +kernel
theorem d_89_74 : decode (g_m 89).2.1 74 = .ok (.aload_n 0, 1) := by decide +kernel
theorem d_89_75 : decode (g_m 89).2.1 75 = .ok (.getfield 52, 3) := by decide +kernel
theorem d_89_78 : decode (g_m 89).2.1 78 = .ok (.iload_n 1, 1) := by decide +kernel
theorem d_89_79 : decode (g_m 89).2.1 79 = .ok (.iconst 1, 1) := by decide +kernel
theorem d_89_80 : decode (g_m 89).2.1 80 = .ok (.invokevirtual 109, 3) := by decide +kernel
theorem d_89_83 : decode (g_m 89).2.1 83 = .ok (.istore_n 2, 1) := by decide +kernel
theorem d_89_84 : decode (g_m 89).2.1 84 = .ok (.aload_n 0, 1) := by decide +kernel
theorem d_89_85 : decode (g_m 89).2.1 85 = .ok (.iload_n 3, 1) := by decide +kernel
theorem d_89_86 : decode (g_m 89).2.1 86 = .ok (.iload_n 1, 1) := by decide +kernel
theorem d_89_87 : decode (g_m 89).2.1 87 = .ok (.invokevirtual 136, 3) := by decide +kernel
theorem d_89_90 : decode (g_m 89).2.1 90 = .ok (.iinc 3 (-1), 3) := by decide +kernel
theorem d_89_93 : decode (g_m 89).2.1 93 = .ok (.goto (-65), 3) := by decide +kernel
theorem d_89_96 : decode (g_m 89).2.1 96 = .ok (.aload_n 0, 1) := by decide +kernel
theorem d_89_97 : decode (g_m 89).2.1 97 = .ok (.aload_n 0, 1) := by decide +kernel
theorem d_89_98 : decode (g_m 89).2.1 98 = .ok (.getfield 33, 3) := by decide +kernel
theorem d_89_101 : decode (g_m 89).2.1 101 = .ok (.iload_n 1, 1) := by decide +kernel
theorem d_89_102 : decode (g_m 89).2.1 102 = .ok (.iaload, 1) := by decide +kernel
theorem d_89_103 : decode (g_m 89).2.1 103 = .ok (.aload_n 0, 1) := by decide +kernel
theorem d_89_104 : decode (g_m 89).2.1 104 = .ok (.getfield 33, 3) := by decide +kernel
theorem d_89_107 : decode (g_m 89).2.1 107 = .ok (.aload_n 0, 1) := by decide +kernel
theorem d_89_108 : decode (g_m 89).2.1 108 = .ok (.getfield 40, 3) := by decide +kernel
theorem d_89_111 : decode (g_m 89).2.1 111 = .ok (.iaload, 1) := by decide +kernel
theorem d_89_112 : decode (g_m 89).2.1 112 = .ok (.if_icmp .le (7), 3) := by decide +kernel
theorem d_89_115 : decode (g_m 89).2.1 115 = .ok (.iload_n 1, 1) := by decide +kernel
theorem d_89_116 : decode (g_m 89).2.1 116 = .ok (.goto (7), 3) := by decide +kernel
theorem d_89_119 : decode (g_m 89).2.1 119 = .ok (.aload_n 0, 1) := by decide +kernel
theorem d_89_120 : decode (g_m 89).2.1 120 = .ok (.getfield 40, 3) := by decide +kernel
theorem d_89_123 : decode (g_m 89).2.1 123 = .ok (.putfield 40, 3) := by decide +kernel
theorem d_89_126 : decode (g_m 89).2.1 126 = .ok (.return_, 1) := by decide +kernel
theorem d_90_0 : decode (g_m 90).2.1 0 = .ok (.iconst 0, 1) := by decide +kernel
theorem d_90_1 : decode (g_m 90).2.1 1 = .ok (.istore 5, 2) := by decide +kernel
theorem d_90_3 : decode (g_m 90).2.1 3 = .ok (.iload 5, 2) := by decide +kernel
theorem d_90_5 : decode (g_m 90).2.1 5 = .ok (.bipush 100, 2) := by decide +kernel
theorem d_90_7 : decode (g_m 90).2.1 7 = .ok (.if_icmp .ge (63), 3) := by decide +kernel
theorem d_90_10 : decode (g_m 90).2.1 10 = .ok (.aload_n 0, 1) := by decide +kernel
theorem d_90_11 : decode (g_m 90).2.1 11 = .ok (.getfield 46, 3) := by decide +kernel
theorem d_90_14 : decode (g_m 90).2.1 14 = .ok (.iload 5, 2) := by decide +kernel
theorem d_90_16 : decode (g_m 90).2.1 16 = .ok (.iload 5, 2) := by decide +kernel
theorem d_90_18 : decode (g_m 90).2.1 18 = .ok (.iload_n 2, 1) := by decide +kernel
theorem d_90_19 : decode (g_m 90).2.1 19 = .ok (.if_icmp .ne (7), 3) := by decide +kernel
theorem d_90_22 : decode (g_m 90).2.1 22 = .ok (.iconst 1, 1) := by decide +kernel
theorem d_90_23 : decode (g_m 90).2.1 23 = .ok (.goto (4), 3) := by decide +kernel
theorem d_90_26 : decode (g_m 90).2.1 26 = .ok (.iconst 0, 1) := by decide +kernel
theorem d_90_27 : decode (g_m 90).2.1 27 = .ok (.bastore, 1) := by decide +kernel
theorem d_90_28 : decode (g_m 90).2.1 28 = .ok (.aload_n 0, 1) := by decide +kernel
theorem d_90_29 : decode (g_m 90).2.1 29 = .ok (.getfield 49, 3) := by decide +kernel
theorem d_90_32 : decode (g_m 90).2.1 32 = .ok (.iload 5, 2) := by decide +kernel
theorem d_90_34 : decode (g_m 90).2.1 34 = .ok (.iload 5, 2) := by decide +kernel
theorem d_90_36 : decode (g_m 90).2.1 36 = .ok (.iload_n 2, 1) := by decide +kernel
theorem d_90_37 : decode (g_m 90).2.1 37 = .ok (.if_icmp .ne (7), 3) := by decide +kernel
theorem d_90_40 : decode (g_m 90).2.1 40 = .ok (.iconst 1, 1) := by decide +kernel
theorem d_90_41 : decode (g_m 90).2.1 41 = .ok (.goto (4), 3) := by decide +kernel
theorem d_90_44 : decode (g_m 90).2.1 44 = .ok (.iconst 0, 1) := by decide +kernel
theorem d_90_45 : decode (g_m 90).2.1 45 = .ok (.bastore, 1) := by decide +kernel
theorem d_90_46 : decode (g_m 90).2.1 46 = .ok (.aload_n 0, 1) := by decide +kernel
theorem d_90_47 : decode (g_m 90).2.1 47 = .ok (.getfield 52, 3) := by decide +kernel
theorem d_90_50 : decode (g_m 90).2.1 50 = .ok (.iload 5, 2) := by decide +kernel
theorem d_90_52 : decode (g_m 90).2.1 52 = .ok (.iload 5, 2) := by decide +kernel
theorem d_90_54 : decode (g_m 90).2.1 54 = .ok (.iload_n 2, 1) := by decide +kernel
theorem d_90_55 : decode (g_m 90).2.1 55 = .ok (.if_icmp .ne (7), 3) := by decide +kernel
theorem d_90_58 : decode (g_m 90).2.1 58 = .ok (.iconst 1, 1) := by decide +kernel
theorem d_90_59 : decode (g_m 90).2.1 59 = .ok (.goto (4), 3) := by decide +kernel
theorem d_90_62 : decode (g_m 90).2.1 62 = .ok (.iconst 0, 1) := by decide +kernel
theorem d_90_63 : decode (g_m 90).2.1 63 = .ok (.bastore, 1) := by decide +kernel
theorem d_90_64 : decode (g_m 90).2.1 64 = .ok (.iinc 5 1, 3) := by decide +kernel
theorem d_90_67 : decode (g_m 90).2.1 67 = .ok (.goto (-64), 3) := by decide +kernel
theorem d_90_70 : decode (g_m 90).2.1 70 = .ok (.aload_n 0, 1) := by decide +kernel
theorem d_90_71 : decode (g_m 90).2.1 71 = .ok (.iconst 1, 1) := by decide +kernel
theorem d_90_72 : decode (g_m 90).2.1 72 = .ok (.putfield 103, 3) := by decide +kernel
theorem d_90_75 : decode (g_m 90).2.1 75 = .ok (.aload_n 0, 1) := by decide +kernel
theorem d_90_76 : decode (g_m 90).2.1 76 = .ok (.dup, 1) := by decide +kernel
theorem d_90_77 : decode (g_m 90).2.1 77 = .ok (.getfield 106, 3) := by decide +kernel
theorem d_90_80 : decode (g_m 90).2.1 80 = .ok (.iconst 1, 1) := by decide +kernel
theorem d_90_81 : decode (g_m 90).2.1 81 = .ok (.iadd, 1) := by decide +kernel
theorem d_90_82 : decode (g_m 90).2.1 82 = .ok (.putfield 106, 3) := by decide +kernel
theorem d_90_85 : decode (g_m 90).2.1 85 = .ok (.aload_n 0, 1) := by decide +kernel
theorem d_90_86 : decode (g_m 90).2.1 86 = .ok (.aload_n 0, 1) := by decide +kernel
theorem d_90_87 : decode (g_m 90).2.1 87 = .ok (.getfield 49, 3) := by decide +kernel
theorem d_90_90 : decode (g_m 90).2.1 90 = .ok (.iload_n 3, 1) := by decide +kernel
theorem d_90_91 : decode (g_m 90).2.1 91 = .ok (.iconst 1, 1) := by decide +kernel
theorem d_90_92 : decode (g_m 90).2.1 92 = .ok (.invokevirtual 109, 3) := by decide +kernel
theorem d_90_95 : decode (g_m 90).2.1 95 = .ok (.istore 5, 2) := by decide +kernel
theorem d_90_97 : decode (g_m 90).2.1 97 = .ok (.iload 5, 2) := by decide +kernel
theorem d_90_99 : decode (g_m 90).2.1 99 = .ok (.ifCond .lt (129), 3) := by decide +kernel
theorem d_90_102 : decode (g_m 90).2.1 102 = .ok (.aload_n 0, 1) := by decide +kernel
theorem d_90_103 : decode (g_m 90).2.1 103 = .ok (.getfield 49, 3) := by decide +kernel
theorem d_90_106 : decode (g_m 90).2.1 106 = .ok (.iload 5, 2) := by decide +kernel
theorem d_90_108 : decode (g_m 90).2.1 108 = .ok (.iconst 0, 1) := by decide +kernel
theorem d_90_109 : decode (g_m 90).2.1 109 = .ok (.bastore, 1) := by decide +kernel
theorem d_90_110 : decode (g_m 90).2.1 110 = .ok (.aload_n 0, 1) := by decide +kernel
theorem d_90_111 : decode (g_m 90).2.1 111 = .ok (.getfield 103, 3) := by decide +kernel
theorem d_90_114 : decode (g_m 90).2.1 114 = .ok (.iload 4, 2) := by decide +kernel
theorem d_90_116 : decode (g_m 90).2.1 116 = .ok (.if_icmp .ne (24), 3) := by decide +kernel
theorem d_90_119 : decode (g_m 90).2.1 119 = .ok (.aload_n 0, 1) := by decide +kernel
theorem d_90_120 : decode (g_m 90).2.1 120 = .ok (.iload_n 3, 1) := by decide +kernel
theorem d_90_121 : decode (g_m 90).2.1 121 = .ok (.aload_n 0, 1) := by decide +kernel
theorem d_90_122 : decode (g_m 90).2.1 122 = .ok (.aload_n 0, 1) := by decide +kernel
theorem d_90_123 : decode (g_m 90).2.1 123 = .ok (.getfield 52, 3) := by decide +kernel
theorem d_90_126 : decode (g_m 90).2.1 126 = .ok (.iload_n 3, 1) := by decide +kernel
theorem d_90_127 : decode (g_m 90).2.1 127 = .ok (.iconst 0, 1) := by decide +kernel
theorem d_90_128 : decode (g_m 90).2.1 128 = .ok (.invokevirtual 109, 3) := by decide +kernel
theorem d_90_131 : decode (g_m 90).2.1 131 = .ok (.iload 5, 2) := by decide +kernel
theorem d_90_133 : decode (g_m 90).2.1 133 = .ok (.invokevirtual 100, 3) := by decide +kernel
theorem d_90_136 : decode (g_m 90).2.1 136 = .ok (.ifCond .eq (4), 3) := by decide +kernel
theorem d_90_139 : decode (g_m 90).2.1 139 = .ok (.return_, 1) := by decide +kernel
theorem d_90_140 : decode (g_m 90).2.1 140 = .ok (.aload_n 0, 1) := by decide +kernel
theorem d_90_141 : decode (g_m 90).2.1 141 = .ok (.iload_n 1, 1) := by decide +kernel
theorem d_90_142 : decode (g_m 90).2.1 142 = .ok (.iload 5, 2) := by decide +kernel
theorem d_90_144 : decode (g_m 90).2.1 144 = .ok (.invokevirtual 113, 3) := by decide +kernel
theorem d_90_147 : decode (g_m 90).2.1 147 = .ok (.istore 6, 2) := by decide +kernel
theorem d_90_149 : decode (g_m 90).2.1 149 = .ok (.iconst 0, 1) := by decide +kernel
theorem d_90_150 : decode (g_m 90).2.1 150 = .ok (.istore 7, 2) := by decide +kernel
theorem d_90_152 : decode (g_m 90).2.1 152 = .ok (.iload 7, 2) := by decide +kernel
theorem d_90_154 : decode (g_m 90).2.1 154 = .ok (.iload 6, 2) := by decide +kernel
theorem d_90_156 : decode (g_m 90).2.1 156 = .ok (.if_icmp .ge (57), 3) := by decide +kernel
theorem d_90_159 : decode (g_m 90).2.1 159 = .ok (.aload_n 0, 1) := by decide +kernel
theorem d_90_160 : decode (g_m 90).2.1 160 = .ok (.iload_n 1, 1) := by decide +kernel
theorem d_90_161 : decode (g_m 90).2.1 161 = .ok (.iload 5, 2) := by decide +kernel
theorem d_90_163 : decode (g_m 90).2.1 163 = .ok (.iload 7, 2) := by decide +kernel
theorem d_90_165 : decode (g_m 90).2.1 165 = .ok (.invokevirtual 117, 3) := by decide +kernel
theorem d_90_168 : decode (g_m 90).2.1 168 = .ok (.istore 8, 2) := by decide +kernel
theorem d_90_170 : decode (g_m 90).2.1 170 = .ok (.aload_n 0, 1) := by decide +kernel
theorem d_90_171 : decode (g_m 90).2.1 171 = .ok (.getfield 46, 3) := by decide +kernel
theorem d_90_174 : decode (g_m 90).2.1 174 = .ok (.iload 8, 2) := by decide +kernel
theorem d_90_176 : decode (g_m 90).2.1 176 = .ok (.baload, 1) := by decide +kernel
theorem d_90_177 : decode (g_m 90).2.1 177 = .ok (.ifCond .ne (30), 3) := by decide +kernel
theorem d_90_180 : decode (g_m 90).2.1 180 = .ok (.aload_n 0, 1) := by decide +kernel
theorem d_90_181 : decode (g_m 90).2.1 181 = .ok (.getfield 46, 3) := by decide +kernel
theorem d_90_184 : decode (g_m 90).2.1 184 = .ok (.iload 8, 2) := by decide +kernel
theorem d_90_186 : decode (g_m 90).2.1 186 = .ok (.iconst 1, 1) := by decide +kernel
theorem d_90_187 : decode (g_m 90).2.1 187 = .ok (.bastore, 1) := by decide +kernel
theorem d_90_188 : decode (g_m 90).2.1 188 = .ok (.aload_n 0, 1) := by decide +kernel
theorem d_90_189 : decode (g_m 90).2.1 189 = .ok (.dup, 1) := by decide +kernel
theorem d_90_190 : decode (g_m 90).2.1 190 = .ok (.getfield 106, 3) := by decide +kernel
theorem d_90_193 : decode (g_m 90).2.1 193 = .ok (.iconst 1, 1) := by decide +kernel
theorem d_90_194 : decode (g_m 90).2.1 194 = .ok (.iadd, 1) := by decide +kernel
theorem d_90_195 : decode (g_m 90).2.1 195 = .ok (.putfield 106, 3) := by decide +kernel
theorem d_90_198 : decode (g_m 90).2.1 198 = .ok (.aload_n 0, 1) := by decide +kernel
theorem d_90_199 : decode (g_m 90).2.1 199 = .ok (.iload 8, 2) := by decide +kernel
theorem d_90_201 : decode (g_m 90).2.1 201 = .ok (.iload_n 3, 1) := by decide +kernel
theorem d_90_202 : decode (g_m 90).2.1 202 = .ok (.iload 4, 2) := by decide +kernel
theorem d_90_204 : decode (g_m 90).2.1 204 = .ok (.invokevirtual 120, 3) := by decide +kernel
theorem d_90_207 : decode (g_m 90).2.1 207 = .ok (.iinc 7 1, 3) := by decide +kernel
theorem d_90_210 : decode (g_m 90).2.1 210 = .ok (.goto (-58), 3) := by decide +kernel
theorem d_90_213 : decode (g_m 90).2.1 213 = .ok (.aload_n 0, 1) := by decide +kernel
theorem d_90_214 : decode (g_m 90).2.1 214 = .ok (.aload_n 0, 1) := by decide +kernel
theorem d_90_215 : decode (g_m 90).2.1 215 = .ok (.getfield 49, 3) := by decide +kernel
theorem d_90_218 : decode (g_m 90).2.1 218 = .ok (.iload_n 3, 1) := by decide +kernel
theorem d_90_219 : decode (g_m 90).2.1 219 = .ok (.iconst 1, 1) := by decide +kernel
theorem d_90_220 : decode (g_m 90).2.1 220 = .ok (.invokevirtual 109, 3) := by decide +kernel
theorem d_90_223 : decode (g_m 90).2.1 223 = .ok (.istore 5, 2) := by decide +kernel
theorem d_90_225 : decode (g_m 90).2.1 225 = .ok (.goto (-128), 3) := by decide +kernel
theorem d_90_228 : decode (g_m 90).2.1 228 = .ok (.return_, 1) := by decide +kernel
theorem d_91_0 : decode (g_m 91).2.1 0 = .ok (.iconst 0, 1) := by decide +kernel
theorem d_91_1 : decode (g_m 91).2.1 1 = .ok (.istore_n 3, 1) := by decide +kernel
theorem d_91_2 : decode (g_m 91).2.1 2 = .ok (.iconst 0, 1) := by decide +kernel
theorem d_91_3 : decode (g_m 91).2.1 3 = .ok (.istore 4, 2) := by decide +kernel
theorem d_91_5 : decode (g_m 91).2.1 5 = .ok (.iload 4, 2) := by decide +kernel
theorem d_91_7 : decode (g_m 91).2.1 7 = .ok (.aload_n 0, 1) := by decide +kernel
theorem d_91_8 : decode (g_m 91).2.1 8 = .ok (.getfield 76, 3) := by decide +kernel
theorem d_91_11 : decode (g_m 91).2.1 11 = .ok (.if_icmp .ge (28), 3) := by decide +kernel
theorem d_91_14 : decode (g_m 91).2.1 14 = .ok (.aload_n 0, 1) := by decide +kernel
theorem d_91_15 : decode (g_m 91).2.1 15 = .ok (.iload_n 1, 1) := by decide +kernel
theorem d_91_16 : decode (g_m 91).2.1 16 = .ok (.iload_n 2, 1) := by decide +kernel
theorem d_91_17 : decode (g_m 91).2.1 17 = .ok (.iload 4, 2) := by decide +kernel
theorem d_91_19 : decode (g_m 91).2.1 19 = .ok (.invokevirtual 96, 3) := by decide +kernel
theorem d_91_22 : decode (g_m 91).2.1 22 = .ok (.ifCond .eq (9), 3) := by decide +kernel
theorem d_91_25 : decode (g_m 91).2.1 25 = .ok (.iload_n 3, 1) := by decide +kernel
theorem d_91_26 : decode (g_m 91).2.1 26 = .ok (.iconst 1, 1) := by decide +kernel
theorem d_91_27 : decode (g_m 91).2.1 27 = .ok (.iadd, 1) := by decide +kernel
theorem d_91_28 : decode (g_m 91).2.1 28 = .ok (.goto (4), 3) := by decide +kernel
theorem d_91_31 : decode (g_m 91).2.1 31 = .ok (.iload_n 3, 1) := by decide +kernel
theorem d_91_32 : decode (g_m 91).2.1 32 = .ok (.istore_n 3, 1) := by decide +kernel
theorem d_91_33 : decode (g_m 91).2.1 33 = .ok (.iinc 4 1, 3) := by decide +kernel
theorem d_91_36 : decode (g_m 91).2.1 36 = .ok (.goto (-31), 3) := by decide +kernel
theorem d_91_39 : decode (g_m 91).2.1 39 = .ok (.iload_n 3, 1) := by decide +kernel
theorem d_91_40 : decode (g_m 91).2.1 40 = .ok (.ireturn, 1) := by decide +kernel
theorem d_92_0 : decode (g_m 92).2.1 0 = .ok (.aload_n 0, 1) := by decide +kernel
theorem d_92_1 : decode (g_m 92).2.1 1 = .ok (.getfield 37, 3) := by decide +kernel
theorem d_92_4 : decode (g_m 92).2.1 4 = .ok (.sipush 10000, 3) := by decide +kernel
theorem d_92_7 : decode (g_m 92).2.1 7 = .ok (.iload_n 1, 1) := by decide +kernel
theorem d_92_8 : decode (g_m 92).2.1 8 = .ok (.imul, 1) := by decide +kernel
theorem d_92_9 : decode (g_m 92).2.1 9 = .ok (.bipush 100, 2) := by decide +kernel
theorem d_92_11 : decode (g_m 92).2.1 11 = .ok (.iload_n 2, 1) := by decide +kernel
theorem d_92_12 : decode (g_m 92).2.1 12 = .ok (.imul, 1) := by decide +kernel
theorem d_92_13 : decode (g_m 92).2.1 13 = .ok (.iadd, 1) := by decide +kernel
theorem d_92_14 : decode (g_m 92).2.1 14 = .ok (.iload_n 3, 1) := by decide +kernel
theorem d_92_15 : decode (g_m 92).2.1 15 = .ok (.iadd, 1) := by decide +kernel
theorem d_92_16 : decode (g_m 92).2.1 16 = .ok (.baload, 1) := by decide +kernel
theorem d_92_17 : decode (g_m 92).2.1 17 = .ok (.ireturn, 1) := by decide +kernel
theorem d_93_0 : decode (g_m 93).2.1 0 = .ok (.iconst 0, 1) := by decide +kernel
theorem d_93_1 : decode (g_m 93).2.1 1 = .ok (.istore 4, 2) := by decide +kernel
theorem d_93_3 : decode (g_m 93).2.1 3 = .ok (.iload 4, 2) := by decide +kernel
theorem d_93_5 : decode (g_m 93).2.1 5 = .ok (.aload_n 0, 1) := by decide +kernel
theorem d_93_6 : decode (g_m 93).2.1 6 = .ok (.getfield 76, 3) := by decide +kernel
theorem d_93_9 : decode (g_m 93).2.1 9 = .ok (.if_icmp .ge (84), 3) := by decide +kernel
theorem d_93_12 : decode (g_m 93).2.1 12 = .ok (.aload_n 0, 1) := by decide +kernel
theorem d_93_13 : decode (g_m 93).2.1 13 = .ok (.iload_n 1, 1) := by decide +kernel
theorem d_93_14 : decode (g_m 93).2.1 14 = .ok (.iload_n 2, 1) := by decide +kernel
theorem d_93_15 : decode (g_m 93).2.1 15 = .ok (.iload 4, 2) := by decide +kernel
theorem d_93_17 : decode (g_m 93).2.1 17 = .ok (.invokevirtual 96, 3) := by decide +kernel
theorem d_93_20 : decode (g_m 93).2.1 20 = .ok (.ifCond .eq (67), 3) := by decide +kernel
theorem d_93_23 : decode (g_m 93).2.1 23 = .ok (.iconst 0, 1) := by decide +kernel
theorem d_93_24 : decode (g_m 93).2.1 24 = .ok (.istore 5, 2) := by decide +kernel
theorem d_93_26 : decode (g_m 93).2.1 26 = .ok (.iconst 0, 1) := by decide +kernel
theorem d_93_27 : decode (g_m 93).2.1 27 = .ok (.istore 6, 2) := by decide +kernel
theorem d_93_29 : decode (g_m 93).2.1 29 = .ok (.iload 6, 2) := by decide +kernel
theorem d_93_31 : decode (g_m 93).2.1 31 = .ok (.aload_n 0, 1) := by decide +kernel
theorem d_93_32 : decode (g_m 93).2.1 32 = .ok (.getfield 76, 3) := by decide +kernel
theorem d_93_35 : decode (g_m 93).2.1 35 = .ok (.if_icmp .ge (43), 3) := by decide +kernel
theorem d_93_38 : decode (g_m 93).2.1 38 = .ok (.aload_n 0, 1) := by decide +kernel
theorem d_93_39 : decode (g_m 93).2.1 39 = .ok (.iload_n 1, 1) := by decide +kernel
theorem d_93_40 : decode (g_m 93).2.1 40 = .ok (.iload_n 2, 1) := by decide +kernel
theorem d_93_41 : decode (g_m 93).2.1 41 = .ok (.iload 6, 2) := by decide +kernel
theorem d_93_43 : decode (g_m 93).2.1 43 = .ok (.invokevirtual 96, 3) := by decide +kernel
theorem d_93_46 : decode (g_m 93).2.1 46 = .ok (.ifCond .eq (22), 3) := by decide +kernel
theorem d_93_49 : decode (g_m 93).2.1 49 = .ok (.aload_n 0, 1) := by decide +kernel
theorem d_93_50 : decode (g_m 93).2.1 50 = .ok (.iload_n 2, 1) := by decide +kernel
theorem d_93_51 : decode (g_m 93).2.1 51 = .ok (.iload 6, 2) := by decide +kernel
theorem d_93_53 : decode (g_m 93).2.1 53 = .ok (.iload 4, 2) := by decide +kernel
theorem d_93_55 : decode (g_m 93).2.1 55 = .ok (.invokevirtual 100, 3) := by decide +kernel
theorem d_93_58 : decode (g_m 93).2.1 58 = .ok (.ifCond .eq (10), 3) := by decide +kernel
theorem d_93_61 : decode (g_m 93).2.1 61 = .ok (.iload 5, 2) := by decide +kernel
theorem d_93_63 : decode (g_m 93).2.1 63 = .ok (.iconst 1, 1) := by decide +kernel
theorem d_93_64 : decode (g_m 93).2.1 64 = .ok (.iadd, 1) := by decide +kernel
theorem d_93_65 : decode (g_m 93).2.1 65 = .ok (.goto (5), 3) := by decide +kernel
theorem d_93_68 : decode (g_m 93).2.1 68 = .ok (.iload 5, 2) := by decide +kernel
theorem d_93_70 : decode (g_m 93).2.1 70 = .ok (.istore 5, 2) := by decide +kernel
theorem d_93_72 : decode (g_m 93).2.1 72 = .ok (.iinc 6 1, 3) := by decide +kernel
theorem d_93_75 : decode (g_m 93).2.1 75 = .ok (.goto (-46), 3) := by decide +kernel
theorem d_93_78 : decode (g_m 93).2.1 78 = .ok (.iload 5, 2) := by decide +kernel
theorem d_93_80 : decode (g_m 93).2.1 80 = .ok (.iload_n 3, 1) := by decide +kernel
theorem d_93_81 : decode (g_m 93).2.1 81 = .ok (.if_icmp .ne (6), 3) := by decide +kernel
theorem d_93_84 : decode (g_m 93).2.1 84 = .ok (.iload 4, 2) := by decide +kernel
theorem d_93_86 : decode (g_m 93).2.1 86 = .ok (.ireturn, 1) := by decide +kernel
theorem d_93_87 : decode (g_m 93).2.1 87 = .ok (.iinc 4 1, 3) := by decide +kernel
theorem d_93_90 : decode (g_m 93).2.1 90 = .ok (.goto (-87), 3) := by decide +kernel
theorem d_93_93 : decode (g_m 93).2.1 93 = .ok (.bipush (-2), 2) := by decide +kernel
theorem d_93_95 : decode (g_m 93).2.1 95 = .ok (.ireturn, 1) := by decide +kernel
theorem d_94_0 : decode (g_m 94).2.1 0 = .ok (.aload_n 0, 1) := by decide +kernel
theorem d_94_1 : decode (g_m 94).2.1 1 = .ok (.getfield 103, 3) := by decide +kernel
theorem d_94_4 : decode (g_m 94).2.1 4 = .ok (.iload_n 3, 1) := by decide +kernel
theorem d_94_5 : decode (g_m 94).2.1 5 = .ok (.if_icmp .lt (22), 3) := by decide +kernel
theorem d_94_8 : decode (g_m 94).2.1 8 = .ok (.aload_n 0, 1) := by decide +kernel
theorem d_94_9 : decode (g_m 94).2.1 9 = .ok (.iload_n 2, 1) := by decide +kernel
theorem d_94_10 : decode (g_m 94).2.1 10 = .ok (.iload_n 1, 1) := by decide +kernel
theorem d_94_11 : decode (g_m 94).2.1 11 = .ok (.aload_n 0, 1) := by decide +kernel
theorem d_94_12 : decode (g_m 94).2.1 12 = .ok (.aload_n 0, 1) := by decide +kernel
theorem d_94_13 : decode (g_m 94).2.1 13 = .ok (.getfield 52, 3) := by decide +kernel
theorem d_94_16 : decode (g_m 94).2.1 16 = .ok (.iload_n 2, 1) := by decide +kernel
theorem d_94_17 : decode (g_m 94).2.1 17 = .ok (.iconst 0, 1) := by decide +kernel
theorem d_94_18 : decode (g_m 94).2.1 18 = .ok (.invokevirtual 109, 3) := by decide +kernel
theorem d_94_21 : decode (g_m 94).2.1 21 = .ok (.invokevirtual 100, 3) := by decide +kernel
theorem d_94_24 : decode (g_m 94).2.1 24 = .ok (.ifCond .eq (61), 3) := by decide +kernel
theorem d_94_27 : decode (g_m 94).2.1 27 = .ok (.aload_n 0, 1) := by decide +kernel
theorem d_94_28 : decode (g_m 94).2.1 28 = .ok (.getfield 52, 3) := by decide +kernel
theorem d_94_31 : decode (g_m 94).2.1 31 = .ok (.iload_n 1, 1) := by decide +kernel
theorem d_94_32 : decode (g_m 94).2.1 32 = .ok (.iconst 1, 1) := by decide +kernel
theorem d_94_33 : decode (g_m 94).2.1 33 = .ok (.bastore, 1) := by decide +kernel
theorem d_94_34 : decode (g_m 94).2.1 34 = .ok (.aload_n 0, 1) := by decide +kernel
theorem d_94_35 : decode (g_m 94).2.1 35 = .ok (.getfield 49, 3) := by decide +kernel
theorem d_94_38 : decode (g_m 94).2.1 38 = .ok (.iload_n 1, 1) := by decide +kernel
theorem d_94_39 : decode (g_m 94).2.1 39 = .ok (.iconst 1, 1) := by decide +kernel
theorem d_94_40 : decode (g_m 94).2.1 40 = .ok (.bastore, 1) := by decide +kernel
theorem d_94_41 : decode (g_m 94).2.1 41 = .ok (.aload_n 0, 1) := by decide +kernel
theorem d_94_42 : decode (g_m 94).2.1 42 = .ok (.dup, 1) := by decide +kernel
theorem d_94_43 : decode (g_m 94).2.1 43 = .ok (.getfield 103, 3) := by decide +kernel
theorem d_94_46 : decode (g_m 94).2.1 46 = .ok (.iconst 1, 1) := by decide +kernel
theorem d_94_47 : decode (g_m 94).2.1 47 = .ok (.iadd, 1) := by decide +kernel
theorem d_94_48 : decode (g_m 94).2.1 48 = .ok (.putfield 103, 3) := by decide +kernel
theorem d_94_51 : decode (g_m 94).2.1 51 = .ok (.aload_n 0, 1) := by decide +kernel
theorem d_94_52 : decode (g_m 94).2.1 52 = .ok (.getfield 103, 3) := by decide +kernel
theorem d_94_55 : decode (g_m 94).2.1 55 = .ok (.iload_n 3, 1) := by decide +kernel
theorem d_94_56 : decode (g_m 94).2.1 56 = .ok (.if_icmp .le (29), 3) := by decide +kernel
theorem d_94_59 : decode (g_m 94).2.1 59 = .ok (.aload_n 0, 1) := by decide +kernel
theorem d_94_60 : decode (g_m 94).2.1 60 = .ok (.getfield 52, 3) := by decide +kernel
theorem d_94_63 : decode (g_m 94).2.1 63 = .ok (.aload_n 0, 1) := by decide +kernel
theorem d_94_64 : decode (g_m 94).2.1 64 = .ok (.aload_n 0, 1) := by decide +kernel
theorem d_94_65 : decode (g_m 94).2.1 65 = .ok (.getfield 52, 3) := by decide +kernel
theorem d_94_68 : decode (g_m 94).2.1 68 = .ok (.iload_n 2, 1) := by decide +kernel
theorem d_94_69 : decode (g_m 94).2.1 69 = .ok (.iconst 0, 1) := by decide +kernel
theorem d_94_70 : decode (g_m 94).2.1 70 = .ok (.invokevirtual 109, 3) := by decide +kernel
theorem d_94_73 : decode (g_m 94).2.1 73 = .ok (.iconst 0, 1) := by decide +kernel
theorem d_94_74 : decode (g_m 94).2.1 74 = .ok (.bastore, 1) := by decide +kernel
theorem d_94_75 : decode (g_m 94).2.1 75 = .ok (.aload_n 0, 1) := by decide +kernel
theorem d_94_76 : decode (g_m 94).2.1 76 = .ok (.dup, 1) := by decide +kernel
theorem d_94_77 : decode (g_m 94).2.1 77 = .ok (.getfield 103, 3) := by decide +kernel
theorem d_94_80 : decode (g_m 94).2.1 80 = .ok (.iconst 1, 1) := by decide +kernel
theorem d_94_81 : decode (g_m 94).2.1 81 = .ok (.isub, 1) := by decide +kernel
theorem d_94_82 : decode (g_m 94).2.1 82 = .ok (.putfield 103, 3) := by decide +kernel
theorem d_94_85 : decode (g_m 94).2.1 85 = .ok (.return_, 1) := by decide +kernel
theorem d_95_0 : decode (g_m 95).2.1 0 = .ok (.iload_n 1, 1) := by decide +kernel
theorem d_95_1 : decode (g_m 95).2.1 1 = .ok (.ifCond .ne (12), 3) := by decide +kernel
theorem d_95_4 : decode (g_m 95).2.1 4 = .ok (.iconst 2, 1) := by decide +kernel
theorem d_95_5 : decode (g_m 95).2.1 5 = .ok (.aload_n 0, 1) := by decide +kernel
theorem d_95_6 : decode (g_m 95).2.1 6 = .ok (.getfield 13, 3) := by decide +kernel
theorem d_95_9 : decode (g_m 95).2.1 9 = .ok (.imul, 1) := by decide +kernel
theorem d_95_10 : decode (g_m 95).2.1 10 = .ok (.goto (7), 3) := by decide +kernel
theorem d_95_13 : decode (g_m 95).2.1 13 = .ok (.aload_n 0, 1) := by decide +kernel
theorem d_95_14 : decode (g_m 95).2.1 14 = .ok (.getfield 13, 3) := by decide +kernel
theorem d_95_17 : decode (g_m 95).2.1 17 = .ok (.istore_n 3, 1) := by decide +kernel
theorem d_95_18 : decode (g_m 95).2.1 18 = .ok (.iconst 0, 1) := by decide +kernel
theorem d_95_19 : decode (g_m 95).2.1 19 = .ok (.istore 4, 2) := by decide +kernel
theorem d_95_21 : decode (g_m 95).2.1 21 = .ok (.iload 4, 2) := by decide +kernel
theorem d_95_23 : decode (g_m 95).2.1 23 = .ok (.bipush 100, 2) := by decide +kernel
theorem d_95_25 : decode (g_m 95).2.1 25 = .ok (.if_icmp .ge (23), 3) := by decide +kernel
theorem d_95_28 : decode (g_m 95).2.1 28 = .ok (.aload_n 0, 1) := by decide +kernel
theorem d_95_29 : decode (g_m 95).2.1 29 = .ok (.getfield 55, 3) := by decide +kernel
theorem d_95_32 : decode (g_m 95).2.1 32 = .ok (.iload 4, 2) := by decide +kernel
theorem d_95_34 : decode (g_m 95).2.1 34 = .ok (.aload_n 0, 1) := by decide +kernel
theorem d_95_35 : decode (g_m 95).2.1 35 = .ok (.getfield 52, 3) := by decide +kernel
theorem d_95_38 : decode (g_m 95).2.1 38 = .ok (.iload 4, 2) := by decide +kernel
theorem d_95_40 : decode (g_m 95).2.1 40 = .ok (.baload, 1) := by decide +kernel
theorem d_95_41 : decode (g_m 95).2.1 41 = .ok (.bastore, 1) := by decide +kernel
theorem d_95_42 : decode (g_m 95).2.1 42 = .ok (.iinc 4 1, 3) := by decide +kernel
theorem d_95_45 : decode (g_m 95).2.1 45 = .ok (.goto (-24), 3) := by decide +kernel
theorem d_95_48 : decode (g_m 95).2.1 48 = .ok (.aload_n 0, 1) := by decide +kernel
theorem d_95_49 : decode (g_m 95).2.1 49 = .ok (.iload_n 2, 1) := by decide +kernel
theorem d_95_50 : decode (g_m 95).2.1 50 = .ok (.iload_n 3, 1) := by decide +kernel
theorem d_95_51 : decode (g_m 95).2.1 51 = .ok (.invokevirtual 124, 3) := by decide +kernel
theorem d_95_54 : decode (g_m 95).2.1 54 = .ok (.iconst 0, 1) := by decide +kernel
theorem d_95_55 : decode (g_m 95).2.1 55 = .ok (.istore 4, 2) := by decide +kernel
theorem d_95_57 : decode (g_m 95).2.1 57 = .ok (.iload 4, 2) := by decide +kernel
theorem d_95_59 : decode (g_m 95).2.1 59 = .ok (.aload_n 0, 1) := by decide +kernel
theorem d_95_60 : decode (g_m 95).2.1 60 = .ok (.getfield 76, 3) := by decide +kernel
theorem d_95_63 : decode (g_m 95).2.1 63 = .ok (.if_icmp .ge (24), 3) := by decide +kernel
theorem d_95_66 : decode (g_m 95).2.1 66 = .ok (.aload_n 0, 1) := by decide +kernel
theorem d_95_67 : decode (g_m 95).2.1 67 = .ok (.iload_n 1, 1) := by decide +kernel
theorem d_95_68 : decode (g_m 95).2.1 68 = .ok (.iload_n 2, 1) := by decide +kernel
theorem d_95_69 : decode (g_m 95).2.1 69 = .ok (.iload 4, 2) := by decide +kernel
theorem d_95_71 : decode (g_m 95).2.1 71 = .ok (.aload_n 0, 1) := by decide +kernel
theorem d_95_72 : decode (g_m 95).2.1 72 = .ok (.getfield 58, 3) := by decide +kernel
theorem d_95_75 : decode (g_m 95).2.1 75 = .ok (.iload 4, 2) := by decide +kernel
theorem d_95_77 : decode (g_m 95).2.1 77 = .ok (.baload, 1) := by decide +kernel
theorem d_95_78 : decode (g_m 95).2.1 78 = .ok (.invokevirtual 128, 3) := by decide +kernel
theorem d_95_81 : decode (g_m 95).2.1 81 = .ok (.iinc 4 1, 3) := by decide +kernel
theorem d_95_84 : decode (g_m 95).2.1 84 = .ok (.goto (-27), 3) := by decide +kernel
theorem d_95_87 : decode (g_m 95).2.1 87 = .ok (.iconst 0, 1) := by decide +kernel
theorem d_95_88 : decode (g_m 95).2.1 88 = .ok (.istore 4, 2) := by decide +kernel
theorem d_95_90 : decode (g_m 95).2.1 90 = .ok (.iload 4, 2) := by decide +kernel
theorem d_95_92 : decode (g_m 95).2.1 92 = .ok (.aload_n 0, 1) := by decide +kernel
theorem d_95_93 : decode (g_m 95).2.1 93 = .ok (.getfield 76, 3) := by decide +kernel
theorem d_95_96 : decode (g_m 95).2.1 96 = .ok (.if_icmp .ge (115), 3) := by decide +kernel
theorem d_95_99 : decode (g_m 95).2.1 99 = .ok (.aload_n 0, 1) := by decide +kernel
theorem d_95_100 : decode (g_m 95).2.1 100 = .ok (.iload_n 1, 1) := by decide +kernel
theorem d_95_101 : decode (g_m 95).2.1 101 = .ok (.iload_n 2, 1) := by decide +kernel
theorem d_95_102 : decode (g_m 95).2.1 102 = .ok (.iload 4, 2) := by decide +kernel
theorem d_95_104 : decode (g_m 95).2.1 104 = .ok (.invokevirtual 96, 3) := by decide +kernel
theorem d_95_107 : decode (g_m 95).2.1 107 = .ok (.ifCond .eq (98), 3) := by decide +kernel
theorem d_95_110 : decode (g_m 95).2.1 110 = .ok (.aload_n 0, 1) := by decide +kernel
theorem d_95_111 : decode (g_m 95).2.1 111 = .ok (.iload_n 1, 1) := by decide +kernel
theorem d_95_112 : decode (g_m 95).2.1 112 = .ok (.iload 4, 2) := by decide +kernel
theorem d_95_114 : decode (g_m 95).2.1 114 = .ok (.iload_n 2, 1) := by decide +kernel
theorem d_95_115 : decode (g_m 95).2.1 115 = .ok (.iconst 1, 1) := by decide +kernel
theorem d_95_116 : decode (g_m 95).2.1 116 = .ok (.invokevirtual 128, 3) := by decide +kernel
theorem d_95_119 : decode (g_m 95).2.1 119 = .ok (.aload_n 0, 1) := by decide +kernel
theorem d_95_120 : decode (g_m 95).2.1 120 = .ok (.iload_n 1, 1) := by decide +kernel
theorem d_95_121 : decode (g_m 95).2.1 121 = .ok (.iload 4, 2) := by decide +kernel
theorem d_95_123 : decode (g_m 95).2.1 123 = .ok (.invokevirtual 113, 3) := by decide +kernel
theorem d_95_126 : decode (g_m 95).2.1 126 = .ok (.iload_n 3, 1) := by decide +kernel
theorem d_95_127 : decode (g_m 95).2.1 127 = .ok (.if_icmp .le (78), 3) := by decide +kernel
theorem d_95_130 : decode (g_m 95).2.1 130 = .ok (.iconst 0, 1) := by decide +kernel
theorem d_95_131 : decode (g_m 95).2.1 131 = .ok (.istore 5, 2) := by decide +kernel
theorem d_95_133 : decode (g_m 95).2.1 133 = .ok (.iload 5, 2) := by decide +kernel
theorem d_95_135 : decode (g_m 95).2.1 135 = .ok (.aload_n 0, 1) := by decide +kernel
theorem d_95_136 : decode (g_m 95).2.1 136 = .ok (.getfield 76, 3) := by decide +kernel
theorem d_95_139 : decode (g_m 95).2.1 139 = .ok (.if_icmp .ge (25), 3) := by decide +kernel
theorem d_95_142 : decode (g_m 95).2.1 142 = .ok (.aload_n 0, 1) := by decide +kernel
theorem d_95_143 : decode (g_m 95).2.1 143 = .ok (.getfield 55, 3) := by decide +kernel
theorem d_95_146 : decode (g_m 95).2.1 146 = .ok (.iload 5, 2) := by decide +kernel
theorem d_95_148 : decode (g_m 95).2.1 148 = .ok (.aload_n 0, 1) := by decide +kernel
theorem d_95_149 : decode (g_m 95).2.1 149 = .ok (.iload_n 1, 1) := by decide +kernel
theorem d_95_150 : decode (g_m 95).2.1 150 = .ok (.iload 4, 2) := by decide +kernel
theorem d_95_152 : decode (g_m 95).2.1 152 = .ok (.iload 5, 2) := by decide +kernel
theorem d_95_154 : decode (g_m 95).2.1 154 = .ok (.invokevirtual 96, 3) := by decide +kernel
theorem d_95_157 : decode (g_m 95).2.1 157 = .ok (.bastore, 1) := by decide +kernel
theorem d_95_158 : decode (g_m 95).2.1 158 = .ok (.iinc 5 1, 3) := by decide +kernel
theorem d_95_161 : decode (g_m 95).2.1 161 = .ok (.goto (-28), 3) := by decide +kernel
theorem d_95_164 : decode (g_m 95).2.1 164 = .ok (.aload_n 0, 1) := by decide +kernel
theorem d_95_165 : decode (g_m 95).2.1 165 = .ok (.iload 4, 2) := by decide +kernel
theorem d_95_167 : decode (g_m 95).2.1 167 = .ok (.iload_n 3, 1) := by decide +kernel
theorem d_95_168 : decode (g_m 95).2.1 168 = .ok (.invokevirtual 124, 3) := by decide +kernel
theorem d_95_171 : decode (g_m 95).2.1 171 = .ok (.iconst 0, 1) := by decide +kernel
theorem d_95_172 : decode (g_m 95).2.1 172 = .ok (.istore 5, 2) := by decide +kernel
theorem d_95_174 : decode (g_m 95).2.1 174 = .ok (.iload 5, 2) := by decide +kernel
theorem d_95_176 : decode (g_m 95).2.1 176 = .ok (.aload_n 0, 1) := by decide +kernel
theorem d_95_177 : decode (g_m 95).2.1 177 = .ok (.getfield 76, 3) := by decide +kernel
theorem d_95_180 : decode (g_m 95).2.1 180 = .ok (.if_icmp .ge (25), 3) := by decide +kernel
theorem d_95_183 : decode (g_m 95).2.1 183 = .ok (.aload_n 0, 1) := by decide +kernel
theorem d_95_184 : decode (g_m 95).2.1 184 = .ok (.iload_n 1, 1) := by decide +kernel
theorem d_95_185 : decode (g_m 95).2.1 185 = .ok (.iload 4, 2) := by decide +kernel
theorem d_95_187 : decode (g_m 95).2.1 187 = .ok (.iload 5, 2) := by decide +kernel
theorem d_95_189 : decode (g_m 95).2.1 189 = .ok (.aload_n 0, 1) := by decide +kernel
theorem d_95_190 : decode (g_m 95).2.1 190 = .ok (.getfield 58, 3) := by decide +kernel
theorem d_95_193 : decode (g_m 95).2.1 193 = .ok (.iload 5, 2) := by decide +kernel
theorem d_95_195 : decode (g_m 95).2.1 195 = .ok (.baload, 1) := by decide +kernel
theorem d_95_196 : decode (g_m 95).2.1 196 = .ok (.invokevirtual 128, 3) := by decide +kernel
theorem d_95_199 : decode (g_m 95).2.1 199 = .ok (.iinc 5 1, 3) := by decide +kernel
theorem d_95_202 : decode (g_m 95).2.1 202 = .ok (.goto (-28), 3) := by decide +kernel
theorem d_95_205 : decode (g_m 95).2.1 205 = .ok (.iinc 4 1, 3) := by decide +kernel
theorem d_95_208 : decode (g_m 95).2.1 208 = .ok (.goto (-118), 3) := by decide +kernel
theorem d_95_211 : decode (g_m 95).2.1 211 = .ok (.return_, 1) := by decide +kernel
theorem d_96_0 : decode (g_m 96).2.1 0 = .ok (.iconst 0, 1) := by decide +kernel
theorem d_96_1 : decode (g_m 96).2.1 1 = .ok (.istore_n 3, 1) := by decide +kernel
theorem d_96_2 : decode (g_m 96).2.1 2 = .ok (.iload_n 3, 1) := by decide +kernel
theorem d_96_3 : decode (g_m 96).2.1 3 = .ok (.bipush 100, 2) := by decide +kernel
theorem d_96_5 : decode (g_m 96).2.1 5 = .ok (.if_icmp .ge (16), 3) := by decide +kernel
theorem d_96_8 : decode (g_m 96).2.1 8 = .ok (.aload_n 0, 1) := by decide +kernel
theorem d_96_9 : decode (g_m 96).2.1 9 = .ok (.getfield 58, 3) := by decide +kernel
theorem d_96_12 : decode (g_m 96).2.1 12 = .ok (.iload_n 3, 1) := by decide +kernel
theorem d_96_13 : decode (g_m 96).2.1 13 = .ok (.iconst 0, 1) := by decide +kernel
theorem d_96_14 : decode (g_m 96).2.1 14 = .ok (.bastore, 1) := by decide +kernel
theorem d_96_15 : decode (g_m 96).2.1 15 = .ok (.iinc 3 1, 3) := by decide +kernel
theorem d_96_18 : decode (g_m 96).2.1 18 = .ok (.goto (-16), 3) := by decide +kernel
theorem d_96_21 : decode (g_m 96).2.1 21 = .ok (.iconst 0, 1) := by decide +kernel
theorem d_96_22 : decode (g_m 96).2.1 22 = .ok (.istore_n 3, 1) := by decide +kernel
theorem d_96_23 : decode (g_m 96).2.1 23 = .ok (.aload_n 0, 1) := by decide +kernel
theorem d_96_24 : decode (g_m 96).2.1 24 = .ok (.aload_n 0, 1) := by decide +kernel
theorem d_96_25 : decode (g_m 96).2.1 25 = .ok (.getfield 55, 3) := by decide +kernel
theorem d_96_28 : decode (g_m 96).2.1 28 = .ok (.iload_n 1, 1) := by decide +kernel
theorem d_96_29 : decode (g_m 96).2.1 29 = .ok (.iconst 1, 1) := by decide +kernel
theorem d_96_30 : decode (g_m 96).2.1 30 = .ok (.invokevirtual 109, 3) := by decide +kernel
theorem d_96_33 : decode (g_m 96).2.1 33 = .ok (.istore 4, 2) := by decide +kernel
theorem d_96_35 : decode (g_m 96).2.1 35 = .ok (.iload 4, 2) := by decide +kernel
theorem d_96_37 : decode (g_m 96).2.1 37 = .ok (.ifCond .lt (136), 3) := by decide +kernel
theorem d_96_40 : decode (g_m 96).2.1 40 = .ok (.aload_n 0, 1) := by decide +kernel
theorem d_96_41 : decode (g_m 96).2.1 41 = .ok (.getfield 55, 3) := by decide +kernel
theorem d_96_44 : decode (g_m 96).2.1 44 = .ok (.iload 4, 2) := by decide +kernel
theorem d_96_46 : decode (g_m 96).2.1 46 = .ok (.iconst 0, 1) := by decide +kernel
theorem d_96_47 : decode (g_m 96).2.1 47 = .ok (.bastore, 1) := by decide +kernel
theorem d_96_48 : decode (g_m 96).2.1 48 = .ok (.iload_n 3, 1) := by decide +kernel
theorem d_96_49 : decode (g_m 96).2.1 49 = .ok (.iload_n 2, 1) := by decide +kernel
theorem d_96_50 : decode (g_m 96).2.1 50 = .ok (.if_icmp .ge (7), 3) := by decide +kernel
theorem d_96_53 : decode (g_m 96).2.1 53 = .ok (.iconst 1, 1) := by decide +kernel
theorem d_96_54 : decode (g_m 96).2.1 54 = .ok (.goto (4), 3) := by decide +kernel
theorem d_96_57 : decode (g_m 96).2.1 57 = .ok (.iconst 0, 1) := by decide +kernel
theorem d_96_58 : decode (g_m 96).2.1 58 = .ok (.istore 5, 2) := by decide +kernel
theorem d_96_60 : decode (g_m 96).2.1 60 = .ok (.iconst 0, 1) := by decide +kernel
theorem d_96_61 : decode (g_m 96).2.1 61 = .ok (.istore 6, 2) := by decide +kernel
theorem d_96_63 : decode (g_m 96).2.1 63 = .ok (.iload 6, 2) := by decide +kernel
theorem d_96_65 : decode (g_m 96).2.1 65 = .ok (.aload_n 0, 1) := by decide +kernel
theorem d_96_66 : decode (g_m 96).2.1 66 = .ok (.getfield 76, 3) := by decide +kernel
theorem d_96_69 : decode (g_m 96).2.1 69 = .ok (.if_icmp .ge (67), 3) := by decide +kernel
theorem d_96_72 : decode (g_m 96).2.1 72 = .ok (.aload_n 0, 1) := by decide +kernel
theorem d_96_73 : decode (g_m 96).2.1 73 = .ok (.getfield 16, 3) := by decide +kernel
theorem d_96_76 : decode (g_m 96).2.1 76 = .ok (.iconst 1, 1) := by decide +kernel
theorem d_96_77 : decode (g_m 96).2.1 77 = .ok (.if_icmp .ne (59), 3) := by decide +kernel
theorem d_96_80 : decode (g_m 96).2.1 80 = .ok (.iload 5, 2) := by decide +kernel
theorem d_96_82 : decode (g_m 96).2.1 82 = .ok (.ifCond .eq (45), 3) := by decide +kernel
theorem d_96_85 : decode (g_m 96).2.1 85 = .ok (.aload_n 0, 1) := by decide +kernel
theorem d_96_86 : decode (g_m 96).2.1 86 = .ok (.getfield 58, 3) := by decide +kernel
theorem d_96_89 : decode (g_m 96).2.1 89 = .ok (.iload 6, 2) := by decide +kernel
theorem d_96_91 : decode (g_m 96).2.1 91 = .ok (.baload, 1) := by decide +kernel
theorem d_96_92 : decode (g_m 96).2.1 92 = .ok (.ifCond .eq (31), 3) := by decide +kernel
theorem d_96_95 : decode (g_m 96).2.1 95 = .ok (.aload_n 0, 1) := by decide +kernel
theorem d_96_96 : decode (g_m 96).2.1 96 = .ok (.getfield 43, 3) := by decide +kernel
theorem d_96_99 : decode (g_m 96).2.1 99 = .ok (.bipush 100, 2) := by decide +kernel
theorem d_96_101 : decode (g_m 96).2.1 101 = .ok (.iload 4, 2) := by decide +kernel
theorem d_96_103 : decode (g_m 96).2.1 103 = .ok (.imul, 1) := by decide +kernel
theorem d_96_104 : decode (g_m 96).2.1 104 = .ok (.iload_n 1, 1) := by decide +kernel
theorem d_96_105 : decode (g_m 96).2.1 105 = .ok (.iadd, 1) := by decide +kernel
theorem d_96_106 : decode (g_m 96).2.1 106 = .ok (.iaload, 1) := by decide +kernel
theorem d_96_107 : decode (g_m 96).2.1 107 = .ok (.aload_n 0, 1) := by decide +kernel
theorem d_96_108 : decode (g_m 96).2.1 108 = .ok (.getfield 43, 3) := by decide +kernel
theorem d_96_111 : decode (g_m 96).2.1 111 = .ok (.bipush 100, 2) := by decide +kernel
theorem d_96_113 : decode (g_m 96).2.1 113 = .ok (.iload 4, 2) := by decide +kernel
theorem d_96_115 : decode (g_m 96).2.1 115 = .ok (.imul, 1) := by decide +kernel
theorem d_96_116 : decode (g_m 96).2.1 116 = .ok (.iload 6, 2) := by decide +kernel
theorem d_96_118 : decode (g_m 96).2.1 118 = .ok (.iadd, 1) := by decide +kernel
theorem d_96_119 : decode (g_m 96).2.1 119 = .ok (.iaload, 1) := by decide +kernel
theorem d_96_120 : decode (g_m 96).2.1 120 = .ok (.if_icmp .ge (7), 3) := by decide +kernel
theorem d_96_123 : decode (g_m 96).2.1 123 = .ok (.iconst 1, 1) := by decide +kernel
theorem d_96_124 : decode (g_m 96).2.1 124 = .ok (.goto (4), 3) := by decide +kernel
theorem d_96_127 : decode (g_m 96).2.1 127 = .ok (.iconst 0, 1) := by decide +kernel
theorem d_96_128 : decode (g_m 96).2.1 128 = .ok (.istore 5, 2) := by decide +kernel
theorem d_96_130 : decode (g_m 96).2.1 130 = .ok (.iinc 6 1, 3) := by decide +kernel
theorem d_96_133 : decode (g_m 96).2.1 133 = .ok (.goto (-70), 3) := by decide +kernel
theorem d_96_136 : decode (g_m 96).2.1 136 = .ok (.aload_n 0, 1) := by decide +kernel
theorem d_96_137 : decode (g_m 96).2.1 137 = .ok (.getfield 58, 3) := by decide +kernel
theorem d_96_140 : decode (g_m 96).2.1 140 = .ok (.iload 4, 2) := by decide +kernel
theorem d_96_142 : decode (g_m 96).2.1 142 = .ok (.iload 5, 2) := by decide +kernel
theorem d_96_144 : decode (g_m 96).2.1 144 = .ok (.bastore, 1) := by decide +kernel
theorem d_96_145 : decode (g_m 96).2.1 145 = .ok (.iload 5, 2) := by decide +kernel
theorem d_96_147 : decode (g_m 96).2.1 147 = .ok (.ifCond .eq (9), 3) := by decide +kernel
theorem d_96_150 : decode (g_m 96).2.1 150 = .ok (.iload_n 3, 1) := by decide +kernel
theorem d_96_151 : decode (g_m 96).2.1 151 = .ok (.iconst 1, 1) := by decide +kernel
theorem d_96_152 : decode (g_m 96).2.1 152 = .ok (.iadd, 1) := by decide +kernel
theorem d_96_153 : decode (g_m 96).2.1 153 = .ok (.goto (4), 3) := by decide +kernel
theorem d_96_156 : decode (g_m 96).2.1 156 = .ok (.iload_n 3, 1) := by decide +kernel
theorem d_96_157 : decode (g_m 96).2.1 157 = .ok (.istore_n 3, 1) := by decide +kernel
theorem d_96_158 : decode (g_m 96).2.1 158 = .ok (.aload_n 0, 1) := by decide +kernel
theorem d_96_159 : decode (g_m 96).2.1 159 = .ok (.aload_n 0, 1) := by decide +kernel
theorem d_96_160 : decode (g_m 96).2.1 160 = .ok (.getfield 55, 3) := by decide +kernel
theorem d_96_163 : decode (g_m 96).2.1 163 = .ok (.iload_n 1, 1) := by decide +kernel
theorem d_96_164 : decode (g_m 96).2.1 164 = .ok (.iconst 1, 1) := by decide +kernel
theorem d_96_165 : decode (g_m 96).2.1 165 = .ok (.invokevirtual 109, 3) := by decide +kernel
theorem d_96_168 : decode (g_m 96).2.1 168 = .ok (.istore 4, 2) := by decide +kernel
theorem d_96_170 : decode (g_m 96).2.1 170 = .ok (.goto (-135), 3) := by decide +kernel
theorem d_96_173 : decode (g_m 96).2.1 173 = .ok (.return_, 1) := by decide +kernel
theorem d_97_0 : decode (g_m 97).2.1 0 = .ok (.aload_n 0, 1) := by decide +kernel
theorem d_97_1 : decode (g_m 97).2.1 1 = .ok (.getfield 37, 3) := by decide +kernel
theorem d_97_4 : decode (g_m 97).2.1 4 = .ok (.sipush 10000, 3) := by decide +kernel
theorem d_97_7 : decode (g_m 97).2.1 7 = .ok (.iload_n 1, 1) := by decide +kernel
theorem d_97_8 : decode (g_m 97).2.1 8 = .ok (.imul, 1) := by decide +kernel
theorem d_97_9 : decode (g_m 97).2.1 9 = .ok (.bipush 100, 2) := by decide +kernel
theorem d_97_11 : decode (g_m 97).2.1 11 = .ok (.iload_n 2, 1) := by decide +kernel
theorem d_97_12 : decode (g_m 97).2.1 12 = .ok (.imul, 1) := by decide +kernel
theorem d_97_13 : decode (g_m 97).2.1 13 = .ok (.iadd, 1) := by decide +kernel
theorem d_97_14 : decode (g_m 97).2.1 14 = .ok (.iload_n 3, 1) := by decide +kernel
theorem d_97_15 : decode (g_m 97).2.1 15 = .ok (.iadd, 1) := by decide +kernel
theorem d_97_16 : decode (g_m 97).2.1 16 = .ok (.iload 4, 2) := by decide +kernel
theorem d_97_18 : decode (g_m 97).2.1 18 = .ok (.bastore, 1) := by decide +kernel
theorem d_97_19 : decode (g_m 97).2.1 19 = .ok (.return_, 1) := by decide +kernel
theorem d_98_0 : decode (g_m 98).2.1 0 = .ok (.aload_n 0, 1) := by decide +kernel
theorem d_98_1 : decode (g_m 98).2.1 1 = .ok (.iconst 0, 1) := by decide +kernel
theorem d_98_2 : decode (g_m 98).2.1 2 = .ok (.putfield 1, 3) := by decide +kernel
theorem d_98_5 : decode (g_m 98).2.1 5 = .ok (.iload_n 1, 1) := by decide +kernel
theorem d_98_6 : decode (g_m 98).2.1 6 = .ok (.i2l, 1) := by decide +kernel
theorem d_98_7 : decode (g_m 98).2.1 7 = .ok (.lconst 1, 1) := by decide +kernel
theorem d_98_8 : decode (g_m 98).2.1 8 = .ok (.ldc2_w 155, 3) := by decide +kernel
theorem d_98_11 : decode (g_m 98).2.1 11 = .ok (.invokestatic 79, 3) := by decide +kernel
theorem d_98_14 : decode (g_m 98).2.1 14 = .ok (.ifCond .eq (28), 3) := by decide +kernel
theorem d_98_17 : decode (g_m 98).2.1 17 = .ok (.iload_n 2, 1) := by decide +kernel
theorem d_98_18 : decode (g_m 98).2.1 18 = .ok (.i2l, 1) := by decide +kernel
theorem d_98_19 : decode (g_m 98).2.1 19 = .ok (.iload_n 1, 1) := by decide +kernel
theorem d_98_20 : decode (g_m 98).2.1 20 = .ok (.i2l, 1) := by decide +kernel
theorem d_98_21 : decode (g_m 98).2.1 21 = .ok (.ldc2_w 155, 3) := by decide +kernel
theorem d_98_24 : decode (g_m 98).2.1 24 = .ok (.invokestatic 79, 3) := by decide +kernel
theorem d_98_27 : decode (g_m 98).2.1 27 = .ok (.ifCond .eq (15), 3) := by decide +kernel
theorem d_98_30 : decode (g_m 98).2.1 30 = .ok (.iload_n 3, 1) := by decide +kernel
theorem d_98_31 : decode (g_m 98).2.1 31 = .ok (.i2l, 1) := by decide +kernel
theorem d_98_32 : decode (g_m 98).2.1 32 = .ok (.lconst 1, 1) := by decide +kernel
theorem d_98_33 : decode (g_m 98).2.1 33 = .ok (.ldc2_w 155, 3) := by decide +kernel
theorem d_98_36 : decode (g_m 98).2.1 36 = .ok (.invokestatic 79, 3) := by decide +kernel
theorem d_98_39 : decode (g_m 98).2.1 39 = .ok (.ifCond .ne (5), 3) := by decide +kernel
theorem d_98_42 : decode (g_m 98).2.1 42 = .ok (.iconst (-1), 1) := by decide +kernel
theorem d_98_43 : decode (g_m 98).2.1 43 = .ok (.ireturn, 1) := by decide +kernel
theorem d_98_44 : decode (g_m 98).2.1 44 = .ok (.iconst 0, 1) := by decide +kernel
theorem d_98_45 : decode (g_m 98).2.1 45 = .ok (.istore 4, 2) := by decide +kernel
theorem d_98_47 : decode (g_m 98).2.1 47 = .ok (.iload 4, 2) := by decide +kernel
theorem d_98_49 : decode (g_m 98).2.1 49 = .ok (.aload_n 0, 1) := by decide +kernel
theorem d_98_50 : decode (g_m 98).2.1 50 = .ok (.getfield 76, 3) := by decide +kernel
theorem d_98_53 : decode (g_m 98).2.1 53 = .ok (.if_icmp .ge (22), 3) := by decide +kernel
theorem d_98_56 : decode (g_m 98).2.1 56 = .ok (.aload_n 0, 1) := by decide +kernel
theorem d_98_57 : decode (g_m 98).2.1 57 = .ok (.getfield 61, 3) := by decide +kernel
theorem d_98_60 : decode (g_m 98).2.1 60 = .ok (.iload 4, 2) := by decide +kernel
theorem d_98_62 : decode (g_m 98).2.1 62 = .ok (.aload_n 0, 1) := by decide +kernel
theorem d_98_63 : decode (g_m 98).2.1 63 = .ok (.iload 4, 2) := by decide +kernel
theorem d_98_65 : decode (g_m 98).2.1 65 = .ok (.invokevirtual 174, 3) := by decide +kernel
theorem d_98_68 : decode (g_m 98).2.1 68 = .ok (.bastore, 1) := by decide +kernel
theorem d_98_69 : decode (g_m 98).2.1 69 = .ok (.iinc 4 1, 3) := by decide +kernel
theorem d_98_72 : decode (g_m 98).2.1 72 = .ok (.goto (-25), 3) := by decide +kernel
theorem d_98_75 : decode (g_m 98).2.1 75 = .ok (.aload_n 0, 1) := by decide +kernel
theorem d_98_76 : decode (g_m 98).2.1 76 = .ok (.bipush 100, 2) := by decide +kernel
theorem d_98_78 : decode (g_m 98).2.1 78 = .ok (.iload_n 3, 1) := by decide +kernel
theorem d_98_79 : decode (g_m 98).2.1 79 = .ok (.invokevirtual 146, 3) := by decide +kernel
theorem d_98_82 : decode (g_m 98).2.1 82 = .ok (.aload_n 0, 1) := by decide +kernel
theorem d_98_83 : decode (g_m 98).2.1 83 = .ok (.iload_n 2, 1) := by decide +kernel
theorem d_98_84 : decode (g_m 98).2.1 84 = .ok (.invokevirtual 177, 3) := by decide +kernel
theorem d_98_87 : decode (g_m 98).2.1 87 = .ok (.iconst 0, 1) := by decide +kernel
theorem d_98_88 : decode (g_m 98).2.1 88 = .ok (.istore 4, 2) := by decide +kernel
theorem d_98_90 : decode (g_m 98).2.1 90 = .ok (.iload 4, 2) := by decide +kernel
theorem d_98_92 : decode (g_m 98).2.1 92 = .ok (.aload_n 0, 1) := by decide +kernel
theorem d_98_93 : decode (g_m 98).2.1 93 = .ok (.getfield 76, 3) := by decide +kernel
theorem d_98_96 : decode (g_m 98).2.1 96 = .ok (.if_icmp .ge (17), 3) := by decide +kernel
theorem d_98_99 : decode (g_m 98).2.1 99 = .ok (.aload_n 0, 1) := by decide +kernel
theorem d_98_100 : decode (g_m 98).2.1 100 = .ok (.getfield 61, 3) := by decide +kernel
theorem d_98_103 : decode (g_m 98).2.1 103 = .ok (.iload 4, 2) := by decide +kernel
theorem d_98_105 : decode (g_m 98).2.1 105 = .ok (.iconst 0, 1) := by decide +kernel
theorem d_98_106 : decode (g_m 98).2.1 106 = .ok (.bastore, 1) := by decide +kernel
theorem d_98_107 : decode (g_m 98).2.1 107 = .ok (.iinc 4 1, 3) := by decide +kernel
theorem d_98_110 : decode (g_m 98).2.1 110 = .ok (.goto (-20), 3) := by decide +kernel
theorem d_98_113 : decode (g_m 98).2.1 113 = .ok (.iconst 0, 1) := by decide +kernel
theorem d_98_114 : decode (g_m 98).2.1 114 = .ok (.istore 4, 2) := by decide +kernel
theorem d_98_116 : decode (g_m 98).2.1 116 = .ok (.iload 4, 2) := by decide +kernel
theorem d_98_118 : decode (g_m 98).2.1 118 = .ok (.aload_n 0, 1) := by decide +kernel
theorem d_98_119 : decode (g_m 98).2.1 119 = .ok (.getfield 171, 3) := by decide +kernel
theorem d_98_122 : decode (g_m 98).2.1 122 = .ok (.if_icmp .ge (22), 3) := by decide +kernel
theorem d_98_125 : decode (g_m 98).2.1 125 = .ok (.aload_n 0, 1) := by decide +kernel
theorem d_98_126 : decode (g_m 98).2.1 126 = .ok (.getfield 61, 3) := by decide +kernel
theorem d_98_129 : decode (g_m 98).2.1 129 = .ok (.aload_n 0, 1) := by decide +kernel
theorem d_98_130 : decode (g_m 98).2.1 130 = .ok (.getfield 64, 3) := by decide +kernel
theorem d_98_133 : decode (g_m 98).2.1 133 = .ok (.iload 4, 2) := by decide +kernel
theorem d_98_135 : decode (g_m 98).2.1 135 = .ok (.iaload, 1) := by decide +kernel
theorem d_98_136 : decode (g_m 98).2.1 136 = .ok (.iconst 1, 1) := by decide +kernel
theorem d_98_137 : decode (g_m 98).2.1 137 = .ok (.bastore, 1) := by decide +kernel
theorem d_98_138 : decode (g_m 98).2.1 138 = .ok (.iinc 4 1, 3) := by decide +kernel
theorem d_98_141 : decode (g_m 98).2.1 141 = .ok (.goto (-25), 3) := by decide +kernel
theorem d_98_144 : decode (g_m 98).2.1 144 = .ok (.aload_n 0, 1) := by decide +kernel
theorem d_98_145 : decode (g_m 98).2.1 145 = .ok (.bipush 100, 2) := by decide +kernel
theorem d_98_147 : decode (g_m 98).2.1 147 = .ok (.bipush 100, 2) := by decide +kernel
theorem d_98_149 : decode (g_m 98).2.1 149 = .ok (.invokevirtual 146, 3) := by decide +kernel
theorem d_98_152 : decode (g_m 98).2.1 152 = .ok (.aload_n 0, 1) := by decide +kernel
theorem d_98_153 : decode (g_m 98).2.1 153 = .ok (.iload_n 1, 1) := by decide +kernel
theorem d_98_154 : decode (g_m 98).2.1 154 = .ok (.invokevirtual 177, 3) := by decide +kernel
theorem d_98_157 : decode (g_m 98).2.1 157 = .ok (.aload_n 0, 1) := by decide +kernel
theorem d_98_158 : decode (g_m 98).2.1 158 = .ok (.invokevirtual 186, 3) := by decide +kernel
theorem d_98_161 : decode (g_m 98).2.1 161 = .ok (.ireturn, 1) := by decide +kernel
theorem d_99_0 : decode (g_m 99).2.1 0 = .ok (.aload_n 0, 1) := by decide +kernel
theorem d_99_1 : decode (g_m 99).2.1 1 = .ok (.iconst 0, 1) := by decide +kernel
theorem d_99_2 : decode (g_m 99).2.1 2 = .ok (.putfield 1, 3) := by decide +kernel
theorem d_99_5 : decode (g_m 99).2.1 5 = .ok (.iload_n 1, 1) := by decide +kernel
theorem d_99_6 : decode (g_m 99).2.1 6 = .ok (.i2l, 1) := by decide +kernel
theorem d_99_7 : decode (g_m 99).2.1 7 = .ok (.lconst 1, 1) := by decide +kernel
theorem d_99_8 : decode (g_m 99).2.1 8 = .ok (.ldc2_w 190, 3) := by decide +kernel
theorem d_99_11 : decode (g_m 99).2.1 11 = .ok (.invokestatic 79, 3) := by decide +kernel
theorem d_99_14 : decode (g_m 99).2.1 14 = .ok (.ifCond .eq (16), 3) := by decide +kernel
theorem d_99_17 : decode (g_m 99).2.1 17 = .ok (.iload_n 2, 1) := by decide +kernel
theorem d_99_18 : decode (g_m 99).2.1 18 = .ok (.i2l, 1) := by decide +kernel
theorem d_99_19 : decode (g_m 99).2.1 19 = .ok (.iload_n 1, 1) := by decide +kernel
theorem d_99_20 : decode (g_m 99).2.1 20 = .ok (.i2l, 1) := by decide +kernel
theorem d_99_21 : decode (g_m 99).2.1 21 = .ok (.ldc2_w 190, 3) := by decide +kernel
theorem d_99_24 : decode (g_m 99).2.1 24 = .ok (.invokestatic 79, 3) := by decide +kernel
theorem d_99_27 : decode (g_m 99).2.1 27 = .ok (.ifCond .ne (5), 3) := by decide +kernel
theorem d_99_30 : decode (g_m 99).2.1 30 = .ok (.iconst (-1), 1) := by decide +kernel
theorem d_99_31 : decode (g_m 99).2.1 31 = .ok (.ireturn, 1) := by decide +kernel
theorem d_99_32 : decode (g_m 99).2.1 32 = .ok (.aload_n 0, 1) := by decide +kernel
theorem d_99_33 : decode (g_m 99).2.1 33 = .ok (.iload_n 1, 1) := by decide +kernel
theorem d_99_34 : decode (g_m 99).2.1 34 = .ok (.iload_n 2, 1) := by decide +kernel
theorem d_99_35 : decode (g_m 99).2.1 35 = .ok (.invokevirtual 192, 3) := by decide +kernel
theorem d_99_38 : decode (g_m 99).2.1 38 = .ok (.iconst 0, 1) := by decide +kernel
theorem d_99_39 : decode (g_m 99).2.1 39 = .ok (.istore_n 3, 1) := by decide +kernel
theorem d_99_40 : decode (g_m 99).2.1 40 = .ok (.iload_n 3, 1) := by decide +kernel
theorem d_99_41 : decode (g_m 99).2.1 41 = .ok (.bipush 100, 2) := by decide +kernel
theorem d_99_43 : decode (g_m 99).2.1 43 = .ok (.if_icmp .ge (16), 3) := by decide +kernel
theorem d_99_46 : decode (g_m 99).2.1 46 = .ok (.aload_n 0, 1) := by decide +kernel
theorem d_99_47 : decode (g_m 99).2.1 47 = .ok (.getfield 67, 3) := by decide +kernel
theorem d_99_50 : decode (g_m 99).2.1 50 = .ok (.iload_n 3, 1) := by decide +kernel
theorem d_99_51 : decode (g_m 99).2.1 51 = .ok (.iconst 0, 1) := by decide +kernel
theorem d_99_52 : decode (g_m 99).2.1 52 = .ok (.bastore, 1) := by decide +kernel
theorem d_99_53 : decode (g_m 99).2.1 53 = .ok (.iinc 3 1, 3) := by decide +kernel
theorem d_99_56 : decode (g_m 99).2.1 56 = .ok (.goto (-16), 3) := by decide +kernel
theorem d_99_59 : decode (g_m 99).2.1 59 = .ok (.iconst 0, 1) := by decide +kernel
theorem d_99_60 : decode (g_m 99).2.1 60 = .ok (.istore_n 3, 1) := by decide +kernel
theorem d_99_61 : decode (g_m 99).2.1 61 = .ok (.iload_n 3, 1) := by decide +kernel
theorem d_99_62 : decode (g_m 99).2.1 62 = .ok (.aload_n 0, 1) := by decide +kernel
theorem d_99_63 : decode (g_m 99).2.1 63 = .ok (.getfield 171, 3) := by decide +kernel
theorem d_99_66 : decode (g_m 99).2.1 66 = .ok (.if_icmp .ge (21), 3) := by decide +kernel
theorem d_99_69 : decode (g_m 99).2.1 69 = .ok (.aload_n 0, 1) := by decide +kernel
theorem d_99_70 : decode (g_m 99).2.1 70 = .ok (.getfield 67, 3) := by decide +kernel
theorem d_99_73 : decode (g_m 99).2.1 73 = .ok (.aload_n 0, 1) := by decide +kernel
theorem d_99_74 : decode (g_m 99).2.1 74 = .ok (.getfield 64, 3) := by decide +kernel
theorem d_99_77 : decode (g_m 99).2.1 77 = .ok (.iload_n 3, 1) := by decide +kernel
theorem d_99_78 : decode (g_m 99).2.1 78 = .ok (.iaload, 1) := by decide +kernel
theorem d_99_79 : decode (g_m 99).2.1 79 = .ok (.iconst 1, 1) := by decide +kernel
theorem d_99_80 : decode (g_m 99).2.1 80 = .ok (.bastore, 1) := by decide +kernel
theorem d_99_81 : decode (g_m 99).2.1 81 = .ok (.iinc 3 1, 3) := by decide +kernel
theorem d_99_84 : decode (g_m 99).2.1 84 = .ok (.goto (-23), 3) := by decide +kernel
theorem d_99_87 : decode (g_m 99).2.1 87 = .ok (.aload_n 0, 1) := by decide +kernel
theorem d_99_88 : decode (g_m 99).2.1 88 = .ok (.iload_n 1, 1) := by decide +kernel
theorem d_99_89 : decode (g_m 99).2.1 89 = .ok (.invokevirtual 183, 3) := by decide +kernel
theorem d_99_92 : decode (g_m 99).2.1 92 = .ok (.iconst 0, 1) := by decide +kernel
theorem d_99_93 : decode (g_m 99).2.1 93 = .ok (.istore_n 3, 1) := by decide +kernel
theorem d_99_94 : decode (g_m 99).2.1 94 = .ok (.iconst 0, 1) := by decide +kernel
theorem d_99_95 : decode (g_m 99).2.1 95 = .ok (.istore 4, 2) := by decide +kernel
theorem d_99_97 : decode (g_m 99).2.1 97 = .ok (.iload 4, 2) := by decide +kernel
theorem d_99_99 : decode (g_m 99).2.1 99 = .ok (.aload_n 0, 1) := by decide +kernel
theorem d_99_100 : decode (g_m 99).2.1 100 = .ok (.getfield 171, 3) := by decide +kernel
theorem d_99_103 : decode (g_m 99).2.1 103 = .ok (.if_icmp .ge (32), 3) := by decide +kernel
theorem d_99_106 : decode (g_m 99).2.1 106 = .ok (.aload_n 0, 1) := by decide +kernel
theorem d_99_107 : decode (g_m 99).2.1 107 = .ok (.getfield 67, 3) := by decide +kernel
theorem d_99_110 : decode (g_m 99).2.1 110 = .ok (.aload_n 0, 1) := by decide +kernel
theorem d_99_111 : decode (g_m 99).2.1 111 = .ok (.getfield 64, 3) := by decide +kernel
theorem d_99_114 : decode (g_m 99).2.1 114 = .ok (.iload 4, 2) := by decide +kernel
theorem d_99_116 : decode (g_m 99).2.1 116 = .ok (.iaload, 1) := by decide +kernel
theorem d_99_117 : decode (g_m 99).2.1 117 = .ok (.baload, 1) := by decide +kernel
theorem d_99_118 : decode (g_m 99).2.1 118 = .ok (.ifCond .eq (9), 3) := by decide +kernel
theorem d_99_121 : decode (g_m 99).2.1 121 = .ok (.iload_n 3, 1) := by decide +kernel
theorem d_99_122 : decode (g_m 99).2.1 122 = .ok (.iconst 1, 1) := by decide +kernel
theorem d_99_123 : decode (g_m 99).2.1 123 = .ok (.iadd, 1) := by decide +kernel
theorem d_99_124 : decode (g_m 99).2.1 124 = .ok (.goto (4), 3) := by decide +kernel
theorem d_99_127 : decode (g_m 99).2.1 127 = .ok (.iload_n 3, 1) := by decide +kernel
theorem d_99_128 : decode (g_m 99).2.1 128 = .ok (.istore_n 3, 1) := by decide +kernel
theorem d_99_129 : decode (g_m 99).2.1 129 = .ok (.iinc 4 1, 3) := by decide +kernel
theorem d_99_132 : decode (g_m 99).2.1 132 = .ok (.goto (-35), 3) := by decide +kernel
theorem d_99_135 : decode (g_m 99).2.1 135 = .ok (.iload_n 3, 1) := by decide +kernel
theorem d_99_136 : decode (g_m 99).2.1 136 = .ok (.ireturn, 1) := by decide +kernel
theorem d_100_0 : decode (g_m 100).2.1 0 = .ok (.aload_n 0, 1) := by decide +kernel
theorem d_100_1 : decode (g_m 100).2.1 1 = .ok (.iconst 0, 1) := by decide +kernel
theorem d_100_2 : decode (g_m 100).2.1 2 = .ok (.putfield 1, 3) := by decide +kernel
theorem d_100_5 : decode (g_m 100).2.1 5 = .ok (.iload_n 1, 1) := by decide +kernel
theorem d_100_6 : decode (g_m 100).2.1 6 = .ok (.i2l, 1) := by decide +kernel
theorem d_100_7 : decode (g_m 100).2.1 7 = .ok (.lconst 0, 1) := by decide +kernel
theorem d_100_8 : decode (g_m 100).2.1 8 = .ok (.aload_n 0, 1) := by decide +kernel
theorem d_100_9 : decode (g_m 100).2.1 9 = .ok (.getfield 164, 3) := by decide +kernel
theorem d_100_12 : decode (g_m 100).2.1 12 = .ok (.iconst 1, 1) := by decide +kernel
theorem d_100_13 : decode (g_m 100).2.1 13 = .ok (.isub, 1) := by decide +kernel
theorem d_100_14 : decode (g_m 100).2.1 14 = .ok (.i2l, 1) := by decide +kernel
theorem d_100_15 : decode (g_m 100).2.1 15 = .ok (.invokestatic 79, 3) := by decide +kernel
theorem d_100_18 : decode (g_m 100).2.1 18 = .ok (.ifCond .eq (12), 3) := by decide +kernel
theorem d_100_21 : decode (g_m 100).2.1 21 = .ok (.aload_n 0, 1) := by decide +kernel
theorem d_100_22 : decode (g_m 100).2.1 22 = .ok (.getfield 30, 3) := by decide +kernel
theorem d_100_25 : decode (g_m 100).2.1 25 = .ok (.iload_n 1, 1) := by decide +kernel
theorem d_100_26 : decode (g_m 100).2.1 26 = .ok (.iaload, 1) := by decide +kernel
theorem d_100_27 : decode (g_m 100).2.1 27 = .ok (.goto (4), 3) := by decide +kernel
theorem d_100_30 : decode (g_m 100).2.1 30 = .ok (.iconst (-1), 1) := by decide +kernel
theorem d_100_31 : decode (g_m 100).2.1 31 = .ok (.ireturn, 1) := by decide +kernel
theorem d_101_0 : decode (g_m 101).2.1 0 = .ok (.aload_n 0, 1) := by decide +kernel
theorem d_101_1 : decode (g_m 101).2.1 1 = .ok (.iconst 0, 1) := by decide +kernel
theorem d_101_2 : decode (g_m 101).2.1 2 = .ok (.putfield 1, 3) := by decide +kernel
theorem d_101_5 : decode (g_m 101).2.1 5 = .ok (.aload_n 0, 1) := by decide +kernel
theorem d_101_6 : decode (g_m 101).2.1 6 = .ok (.iload_n 1, 1) := by decide +kernel
theorem d_101_7 : decode (g_m 101).2.1 7 = .ok (.invokevirtual 160, 3) := by decide +kernel
theorem d_101_10 : decode (g_m 101).2.1 10 = .ok (.ifCond .eq (7), 3) := by decide +kernel
theorem d_101_13 : decode (g_m 101).2.1 13 = .ok (.iconst (-1), 1) := by decide +kernel
theorem d_101_14 : decode (g_m 101).2.1 14 = .ok (.goto (12), 3) := by decide +kernel
theorem d_101_17 : decode (g_m 101).2.1 17 = .ok (.aload_n 0, 1) := by decide +kernel
theorem d_101_18 : decode (g_m 101).2.1 18 = .ok (.bipush 100, 2) := by decide +kernel
theorem d_101_20 : decode (g_m 101).2.1 20 = .ok (.iload_n 1, 1) := by decide +kernel
theorem d_101_21 : decode (g_m 101).2.1 21 = .ok (.bipush 100, 2) := by decide +kernel
theorem d_101_23 : decode (g_m 101).2.1 23 = .ok (.invokevirtual 90, 3) := by decide +kernel
theorem d_101_26 : decode (g_m 101).2.1 26 = .ok (.ireturn, 1) := by decide +kernel
theorem d_102_0 : decode (g_m 102).2.1 0 = .ok (.aload_n 0, 1) := by decide +kernel
theorem d_102_1 : decode (g_m 102).2.1 1 = .ok (.iconst 0, 1) := by decide +kernel
theorem d_102_2 : decode (g_m 102).2.1 2 = .ok (.putfield 1, 3) := by decide +kernel
theorem d_102_5 : decode (g_m 102).2.1 5 = .ok (.aload_n 0, 1) := by decide +kernel
theorem d_102_6 : decode (g_m 102).2.1 6 = .ok (.iload_n 1, 1) := by decide +kernel
theorem d_102_7 : decode (g_m 102).2.1 7 = .ok (.invokevirtual 160, 3) := by decide +kernel
theorem d_102_10 : decode (g_m 102).2.1 10 = .ok (.ifCond .ne (11), 3) := by decide +kernel
theorem d_102_13 : decode (g_m 102).2.1 13 = .ok (.aload_n 0, 1) := by decide +kernel
theorem d_102_14 : decode (g_m 102).2.1 14 = .ok (.iload_n 2, 1) := by decide +kernel
theorem d_102_15 : decode (g_m 102).2.1 15 = .ok (.invokevirtual 160, 3) := by decide +kernel
theorem d_102_18 : decode (g_m 102).2.1 18 = .ok (.ifCond .eq (7), 3) := by decide +kernel
theorem d_102_21 : decode (g_m 102).2.1 21 = .ok (.iconst (-1), 1) := by decide +kernel
theorem d_102_22 : decode (g_m 102).2.1 22 = .ok (.goto (11), 3) := by decide +kernel
theorem d_102_25 : decode (g_m 102).2.1 25 = .ok (.aload_n 0, 1) := by decide +kernel
theorem d_102_26 : decode (g_m 102).2.1 26 = .ok (.iload_n 1, 1) := by decide +kernel
theorem d_102_27 : decode (g_m 102).2.1 27 = .ok (.iload_n 2, 1) := by decide +kernel
theorem d_102_28 : decode (g_m 102).2.1 28 = .ok (.bipush 100, 2) := by decide +kernel
theorem d_102_30 : decode (g_m 102).2.1 30 = .ok (.invokevirtual 90, 3) := by decide +kernel
theorem d_102_33 : decode (g_m 102).2.1 33 = .ok (.ireturn, 1) := by decide +kernel
theorem d_103_0 : decode (g_m 103).2.1 0 = .ok (.aload_n 0, 1) := by decide +kernel
theorem d_103_1 : decode (g_m 103).2.1 1 = .ok (.iconst 0, 1) := by decide +kernel
theorem d_103_2 : decode (g_m 103).2.1 2 = .ok (.putfield 1, 3) := by decide +kernel
theorem d_103_5 : decode (g_m 103).2.1 5 = .ok (.aload_n 0, 1) := by decide +kernel
theorem d_103_6 : decode (g_m 103).2.1 6 = .ok (.getfield 106, 3) := by decide +kernel
theorem d_103_9 : decode (g_m 103).2.1 9 = .ok (.ireturn, 1) := by decide +kernel
theorem d_104_0 : decode (g_m 104).2.1 0 = .ok (.aload_n 0, 1) := by decide +kernel
theorem d_104_1 : decode (g_m 104).2.1 1 = .ok (.iconst 0, 1) := by decide +kernel
theorem d_104_2 : decode (g_m 104).2.1 2 = .ok (.putfield 1, 3) := by decide +kernel
theorem d_104_5 : decode (g_m 104).2.1 5 = .ok (.aload_n 0, 1) := by decide +kernel
theorem d_104_6 : decode (g_m 104).2.1 6 = .ok (.iload_n 1, 1) := by decide +kernel
theorem d_104_7 : decode (g_m 104).2.1 7 = .ok (.invokevirtual 160, 3) := by decide +kernel
theorem d_104_10 : decode (g_m 104).2.1 10 = .ok (.ifCond .eq (7), 3) := by decide +kernel
theorem d_104_13 : decode (g_m 104).2.1 13 = .ok (.iconst (-1), 1) := by decide +kernel
theorem d_104_14 : decode (g_m 104).2.1 14 = .ok (.goto (11), 3) := by decide +kernel
theorem d_104_17 : decode (g_m 104).2.1 17 = .ok (.iload_n 1, 1) := by decide +kernel
theorem d_104_18 : decode (g_m 104).2.1 18 = .ok (.aload_n 0, 1) := by decide +kernel
theorem d_104_19 : decode (g_m 104).2.1 19 = .ok (.getfield 73, 3) := by decide +kernel
theorem d_104_22 : decode (g_m 104).2.1 22 = .ok (.invokestatic 143, 3) := by decide +kernel
theorem d_104_25 : decode (g_m 104).2.1 25 = .ok (.ireturn, 1) := by decide +kernel
theorem d_105_0 : decode (g_m 105).2.1 0 = .ok (.aload_n 0, 1) := by decide +kernel
theorem d_105_1 : decode (g_m 105).2.1 1 = .ok (.iconst 0, 1) := by decide +kernel
theorem d_105_2 : decode (g_m 105).2.1 2 = .ok (.putfield 1, 3) := by decide +kernel
theorem d_105_5 : decode (g_m 105).2.1 5 = .ok (.aload_n 0, 1) := by decide +kernel
theorem d_105_6 : decode (g_m 105).2.1 6 = .ok (.invokevirtual 180, 3) := by decide +kernel
theorem d_105_9 : decode (g_m 105).2.1 9 = .ok (.aload_n 0, 1) := by decide +kernel
theorem d_105_10 : decode (g_m 105).2.1 10 = .ok (.getfield 76, 3) := by decide +kernel
theorem d_105_13 : decode (g_m 105).2.1 13 = .ok (.ifCond .ne (8), 3) := by decide +kernel
theorem d_105_16 : decode (g_m 105).2.1 16 = .ok (.bipush (-2), 2) := by decide +kernel
theorem d_105_18 : decode (g_m 105).2.1 18 = .ok (.goto (7), 3) := by decide +kernel
theorem d_105_21 : decode (g_m 105).2.1 21 = .ok (.aload_n 0, 1) := by decide +kernel
theorem d_105_22 : decode (g_m 105).2.1 22 = .ok (.getfield 40, 3) := by decide +kernel
theorem d_105_25 : decode (g_m 105).2.1 25 = .ok (.ireturn, 1) := by decide +kernel
theorem d_106_0 : decode (g_m 106).2.1 0 = .ok (.aload_n 0, 1) := by decide +kernel
theorem d_106_1 : decode (g_m 106).2.1 1 = .ok (.iconst 0, 1) := by decide +kernel
theorem d_106_2 : decode (g_m 106).2.1 2 = .ok (.putfield 1, 3) := by decide +kernel
theorem d_106_5 : decode (g_m 106).2.1 5 = .ok (.aload_n 0, 1) := by decide +kernel
theorem d_106_6 : decode (g_m 106).2.1 6 = .ok (.invokevirtual 180, 3) := by decide +kernel
theorem d_106_9 : decode (g_m 106).2.1 9 = .ok (.aload_n 0, 1) := by decide +kernel
theorem d_106_10 : decode (g_m 106).2.1 10 = .ok (.iload_n 1, 1) := by decide +kernel
theorem d_106_11 : decode (g_m 106).2.1 11 = .ok (.invokevirtual 160, 3) := by decide +kernel
theorem d_106_14 : decode (g_m 106).2.1 14 = .ok (.ifCond .ne (39), 3) := by decide +kernel
theorem d_106_17 : decode (g_m 106).2.1 17 = .ok (.iload_n 2, 1) := by decide +kernel
theorem d_106_18 : decode (g_m 106).2.1 18 = .ok (.i2l, 1) := by decide +kernel
theorem d_106_19 : decode (g_m 106).2.1 19 = .ok (.lconst 0, 1) := by decide +kernel
theorem d_106_20 : decode (g_m 106).2.1 20 = .ok (.aload_n 0, 1) := by decide +kernel
theorem d_106_21 : decode (g_m 106).2.1 21 = .ok (.getfield 33, 3) := by decide +kernel
theorem d_106_24 : decode (g_m 106).2.1 24 = .ok (.iload_n 1, 1) := by decide +kernel
theorem d_106_25 : decode (g_m 106).2.1 25 = .ok (.iaload, 1) := by decide +kernel
theorem d_106_26 : decode (g_m 106).2.1 26 = .ok (.i2l, 1) := by decide +kernel
theorem d_106_27 : decode (g_m 106).2.1 27 = .ok (.invokestatic 79, 3) := by decide +kernel
theorem d_106_30 : decode (g_m 106).2.1 30 = .ok (.ifCond .eq (23), 3) := by decide +kernel
theorem d_106_33 : decode (g_m 106).2.1 33 = .ok (.iload_n 3, 1) := by decide +kernel
theorem d_106_34 : decode (g_m 106).2.1 34 = .ok (.i2l, 1) := by decide +kernel
theorem d_106_35 : decode (g_m 106).2.1 35 = .ok (.ldc2_w 195, 3) := by decide +kernel
theorem d_106_38 : decode (g_m 106).2.1 38 = .ok (.aload_n 0, 1) := by decide +kernel
theorem d_106_39 : decode (g_m 106).2.1 39 = .ok (.iload_n 2, 1) := by decide +kernel
theorem d_106_40 : decode (g_m 106).2.1 40 = .ok (.iload_n 1, 1) := by decide +kernel
theorem d_106_41 : decode (g_m 106).2.1 41 = .ok (.invokevirtual 113, 3) := by decide +kernel
theorem d_106_44 : decode (g_m 106).2.1 44 = .ok (.iconst 1, 1) := by decide +kernel
theorem d_106_45 : decode (g_m 106).2.1 45 = .ok (.isub, 1) := by decide +kernel
theorem d_106_46 : decode (g_m 106).2.1 46 = .ok (.i2l, 1) := by decide +kernel
theorem d_106_47 : decode (g_m 106).2.1 47 = .ok (.invokestatic 79, 3) := by decide +kernel
theorem d_106_50 : decode (g_m 106).2.1 50 = .ok (.ifCond .ne (5), 3) := by decide +kernel
theorem d_106_53 : decode (g_m 106).2.1 53 = .ok (.iconst (-1), 1) := by decide +kernel
theorem d_106_54 : decode (g_m 106).2.1 54 = .ok (.ireturn, 1) := by decide +kernel
theorem d_106_55 : decode (g_m 106).2.1 55 = .ok (.iload_n 3, 1) := by decide +kernel
theorem d_106_56 : decode (g_m 106).2.1 56 = .ok (.ifCond .ge (12), 3) := by decide +kernel
theorem d_106_59 : decode (g_m 106).2.1 59 = .ok (.aload_n 0, 1) := by decide +kernel
theorem d_106_60 : decode (g_m 106).2.1 60 = .ok (.iload_n 2, 1) := by decide +kernel
theorem d_106_61 : decode (g_m 106).2.1 61 = .ok (.iload_n 1, 1) := by decide +kernel
theorem d_106_62 : decode (g_m 106).2.1 62 = .ok (.invokevirtual 113, 3) := by decide +kernel
theorem d_106_65 : decode (g_m 106).2.1 65 = .ok (.goto (10), 3) := by decide +kernel
theorem d_106_68 : decode (g_m 106).2.1 68 = .ok (.aload_n 0, 1) := by decide +kernel
theorem d_106_69 : decode (g_m 106).2.1 69 = .ok (.iload_n 2, 1) := by decide +kernel
theorem d_106_70 : decode (g_m 106).2.1 70 = .ok (.iload_n 1, 1) := by decide +kernel
theorem d_106_71 : decode (g_m 106).2.1 71 = .ok (.iload_n 3, 1) := by decide +kernel
theorem d_106_72 : decode (g_m 106).2.1 72 = .ok (.invokevirtual 117, 3) := by decide +kernel
theorem d_106_75 : decode (g_m 106).2.1 75 = .ok (.ireturn, 1) := by decide +kernel
theorem d_107_0 : decode (g_m 107).2.1 0 = .ok (.aload_n 0, 1) := by decide +kernel
theorem d_107_1 : decode (g_m 107).2.1 1 = .ok (.iconst 0, 1) := by decide +kernel
theorem d_107_2 : decode (g_m 107).2.1 2 = .ok (.putfield 1, 3) := by decide +kernel
theorem d_107_5 : decode (g_m 107).2.1 5 = .ok (.aload_n 0, 1) := by decide +kernel
theorem d_107_6 : decode (g_m 107).2.1 6 = .ok (.invokevirtual 180, 3) := by decide +kernel
theorem d_107_9 : decode (g_m 107).2.1 9 = .ok (.aload_n 0, 1) := by decide +kernel
theorem d_107_10 : decode (g_m 107).2.1 10 = .ok (.getfield 76, 3) := by decide +kernel
theorem d_107_13 : decode (g_m 107).2.1 13 = .ok (.ifCond .ne (5), 3) := by decide +kernel
theorem d_107_16 : decode (g_m 107).2.1 16 = .ok (.iconst 0, 1) := by decide +kernel
theorem d_107_17 : decode (g_m 107).2.1 17 = .ok (.ireturn, 1) := by decide +kernel
theorem d_107_18 : decode (g_m 107).2.1 18 = .ok (.iconst 0, 1) := by decide +kernel
theorem d_107_19 : decode (g_m 107).2.1 19 = .ok (.istore_n 1, 1) := by decide +kernel
theorem d_107_20 : decode (g_m 107).2.1 20 = .ok (.iload_n 1, 1) := by decide +kernel
theorem d_107_21 : decode (g_m 107).2.1 21 = .ok (.bipush 100, 2) := by decide +kernel
theorem d_107_23 : decode (g_m 107).2.1 23 = .ok (.if_icmp .ge (28), 3) := by decide +kernel
theorem d_107_26 : decode (g_m 107).2.1 26 = .ok (.aload_n 0, 1) := by decide +kernel
theorem d_107_27 : decode (g_m 107).2.1 27 = .ok (.getfield 46, 3) := by decide +kernel
theorem d_107_30 : decode (g_m 107).2.1 30 = .ok (.iload_n 1, 1) := by decide +kernel
theorem d_107_31 : decode (g_m 107).2.1 31 = .ok (.iload_n 1, 1) := by decide +kernel
theorem d_107_32 : decode (g_m 107).2.1 32 = .ok (.aload_n 0, 1) := by decide +kernel
theorem d_107_33 : decode (g_m 107).2.1 33 = .ok (.getfield 40, 3) := by decide +kernel
theorem d_107_36 : decode (g_m 107).2.1 36 = .ok (.if_icmp .ne (7), 3) := by decide +kernel
theorem d_107_39 : decode (g_m 107).2.1 39 = .ok (.iconst 1, 1) := by decide +kernel
theorem d_107_40 : decode (g_m 107).2.1 40 = .ok (.goto (4), 3) := by decide +kernel
theorem d_107_43 : decode (g_m 107).2.1 43 = .ok (.iconst 0, 1) := by decide +kernel
theorem d_107_44 : decode (g_m 107).2.1 44 = .ok (.bastore, 1) := by decide +kernel
theorem d_107_45 : decode (g_m 107).2.1 45 = .ok (.iinc 1 1, 3) := by decide +kernel
theorem d_107_48 : decode (g_m 107).2.1 48 = .ok (.goto (-28), 3) := by decide +kernel
theorem d_107_51 : decode (g_m 107).2.1 51 = .ok (.iconst 1, 1) := by decide +kernel
theorem d_107_52 : decode (g_m 107).2.1 52 = .ok (.istore_n 1, 1) := by decide +kernel
theorem d_107_53 : decode (g_m 107).2.1 53 = .ok (.iconst 1, 1) := by decide +kernel
theorem d_107_54 : decode (g_m 107).2.1 54 = .ok (.istore_n 2, 1) := by decide +kernel
theorem d_107_55 : decode (g_m 107).2.1 55 = .ok (.iload_n 2, 1) := by decide +kernel
theorem d_107_56 : decode (g_m 107).2.1 56 = .ok (.ifCond .eq (85), 3) := by decide +kernel
theorem d_107_59 : decode (g_m 107).2.1 59 = .ok (.iconst 0, 1) := by decide +kernel
theorem d_107_60 : decode (g_m 107).2.1 60 = .ok (.istore_n 2, 1) := by decide +kernel
theorem d_107_61 : decode (g_m 107).2.1 61 = .ok (.iconst 0, 1) := by decide +kernel
theorem d_107_62 : decode (g_m 107).2.1 62 = .ok (.istore_n 3, 1) := by decide +kernel
theorem d_107_63 : decode (g_m 107).2.1 63 = .ok (.iload_n 3, 1) := by decide +kernel
theorem d_107_64 : decode (g_m 107).2.1 64 = .ok (.aload_n 0, 1) := by decide +kernel
theorem d_107_65 : decode (g_m 107).2.1 65 = .ok (.getfield 76, 3) := by decide +kernel
theorem d_107_68 : decode (g_m 107).2.1 68 = .ok (.if_icmp .ge (70), 3) := by decide +kernel
theorem d_107_71 : decode (g_m 107).2.1 71 = .ok (.iconst 0, 1) := by decide +kernel
theorem d_107_72 : decode (g_m 107).2.1 72 = .ok (.istore 4, 2) := by decide +kernel
theorem d_107_74 : decode (g_m 107).2.1 74 = .ok (.iload 4, 2) := by decide +kernel
theorem d_107_76 : decode (g_m 107).2.1 76 = .ok (.aload_n 0, 1) := by decide +kernel
theorem d_107_77 : decode (g_m 107).2.1 77 = .ok (.getfield 76, 3) := by decide +kernel
theorem d_107_80 : decode (g_m 107).2.1 80 = .ok (.if_icmp .ge (52), 3) := by decide +kernel
theorem d_107_83 : decode (g_m 107).2.1 83 = .ok (.aload_n 0, 1) := by decide +kernel
theorem d_107_84 : decode (g_m 107).2.1 84 = .ok (.getfield 46, 3) := by decide +kernel
theorem d_107_87 : decode (g_m 107).2.1 87 = .ok (.iload_n 3, 1) := by decide +kernel
theorem d_107_88 : decode (g_m 107).2.1 88 = .ok (.baload, 1) := by decide +kernel
theorem d_107_89 : decode (g_m 107).2.1 89 = .ok (.ifCond .eq (43), 3) := by decide +kernel
theorem d_107_92 : decode (g_m 107).2.1 92 = .ok (.aload_n 0, 1) := by decide +kernel
theorem d_107_93 : decode (g_m 107).2.1 93 = .ok (.getfield 46, 3) := by decide +kernel
theorem d_107_96 : decode (g_m 107).2.1 96 = .ok (.iload 4, 2) := by decide +kernel
theorem d_107_98 : decode (g_m 107).2.1 98 = .ok (.baload, 1) := by decide +kernel
theorem d_107_99 : decode (g_m 107).2.1 99 = .ok (.ifCond .ne (27), 3) := by decide +kernel
theorem d_107_102 : decode (g_m 107).2.1 102 = .ok (.aload_n 0, 1) := by decide +kernel
theorem d_107_103 : decode (g_m 107).2.1 103 = .ok (.iconst 0, 1) := by decide +kernel
theorem d_107_104 : decode (g_m 107).2.1 104 = .ok (.iload_n 3, 1) := by decide +kernel
theorem d_107_105 : decode (g_m 107).2.1 105 = .ok (.iload 4, 2) := by decide +kernel
theorem d_107_107 : decode (g_m 107).2.1 107 = .ok (.invokevirtual 96, 3) := by decide +kernel
theorem d_107_110 : decode (g_m 107).2.1 110 = .ok (.ifCond .eq (16), 3) := by decide +kernel
theorem d_107_113 : decode (g_m 107).2.1 113 = .ok (.aload_n 0, 1) := by decide +kernel
theorem d_107_114 : decode (g_m 107).2.1 114 = .ok (.getfield 46, 3) := by decide +kernel
theorem d_107_117 : decode (g_m 107).2.1 117 = .ok (.iload 4, 2) := by decide +kernel
theorem d_107_119 : decode (g_m 107).2.1 119 = .ok (.iconst 1, 1) := by decide +kernel
theorem d_107_120 : decode (g_m 107).2.1 120 = .ok (.bastore, 1) := by decide +kernel
theorem d_107_121 : decode (g_m 107).2.1 121 = .ok (.iinc 1 1, 3) := by decide +kernel
theorem d_107_124 : decode (g_m 107).2.1 124 = .ok (.iconst 1, 1) := by decide +kernel
theorem d_107_125 : decode (g_m 107).2.1 125 = .ok (.istore_n 2, 1) := by decide +kernel
theorem d_107_126 : decode (g_m 107).2.1 126 = .ok (.iinc 4 1, 3) := by decide +kernel
theorem d_107_129 : decode (g_m 107).2.1 129 = .ok (.goto (-55), 3) := by decide +kernel
theorem d_107_132 : decode (g_m 107).2.1 132 = .ok (.iinc 3 1, 3) := by decide +kernel
theorem d_107_135 : decode (g_m 107).2.1 135 = .ok (.goto (-72), 3) := by decide +kernel
theorem d_107_138 : decode (g_m 107).2.1 138 = .ok (.goto (-83), 3) := by decide +kernel
theorem d_107_141 : decode (g_m 107).2.1 141 = .ok (.iload_n 1, 1) := by decide +kernel
theorem d_107_142 : decode (g_m 107).2.1 142 = .ok (.ireturn, 1) := by decide +kernel
theorem d_108_0 : decode (g_m 108).2.1 0 = .ok (.aload_n 0, 1) := by decide +kernel
theorem d_108_1 : decode (g_m 108).2.1 1 = .ok (.iconst 0, 1) := by decide +kernel
theorem d_108_2 : decode (g_m 108).2.1 2 = .ok (.putfield 1, 3) := by decide +kernel
theorem d_108_5 : decode (g_m 108).2.1 5 = .ok (.iconst 0, 1) := by decide +kernel
theorem d_108_6 : decode (g_m 108).2.1 6 = .ok (.istore_n 2, 1) := by decide +kernel
theorem d_108_7 : decode (g_m 108).2.1 7 = .ok (.iconst 0, 1) := by decide +kernel
theorem d_108_8 : decode (g_m 108).2.1 8 = .ok (.istore_n 3, 1) := by decide +kernel
theorem d_108_9 : decode (g_m 108).2.1 9 = .ok (.iconst 0, 1) := by decide +kernel
theorem d_108_10 : decode (g_m 108).2.1 10 = .ok (.istore 4, 2) := by decide +kernel
theorem d_108_12 : decode (g_m 108).2.1 12 = .ok (.iconst 0, 1) := by decide +kernel
theorem d_108_13 : decode (g_m 108).2.1 13 = .ok (.istore 5, 2) := by decide +kernel
theorem d_108_15 : decode (g_m 108).2.1 15 = .ok (.iload 5, 2) := by decide +kernel
theorem d_108_17 : decode (g_m 108).2.1 17 = .ok (.aload_n 0, 1) := by decide +kernel
theorem d_108_18 : decode (g_m 108).2.1 18 = .ok (.getfield 76, 3) := by decide +kernel
theorem d_108_21 : decode (g_m 108).2.1 21 = .ok (.if_icmp .ge (65), 3) := by decide +kernel
theorem d_108_24 : decode (g_m 108).2.1 24 = .ok (.aload_n 0, 1) := by decide +kernel
theorem d_108_25 : decode (g_m 108).2.1 25 = .ok (.getfield 27, 3) := by decide +kernel
theorem d_108_28 : decode (g_m 108).2.1 28 = .ok (.iload 5, 2) := by decide +kernel
theorem d_108_30 : decode (g_m 108).2.1 30 = .ok (.baload, 1) := by decide +kernel
theorem d_108_31 : decode (g_m 108).2.1 31 = .ok (.ifCond .eq (9), 3) := by decide +kernel
theorem d_108_34 : decode (g_m 108).2.1 34 = .ok (.iload_n 2, 1) := by decide +kernel
theorem d_108_35 : decode (g_m 108).2.1 35 = .ok (.iconst 1, 1) := by decide +kernel
theorem d_108_36 : decode (g_m 108).2.1 36 = .ok (.iadd, 1) := by decide +kernel
theorem d_108_37 : decode (g_m 108).2.1 37 = .ok (.goto (4), 3) := by decide +kernel
theorem d_108_40 : decode (g_m 108).2.1 40 = .ok (.iload_n 2, 1) := by decide +kernel
theorem d_108_41 : decode (g_m 108).2.1 41 = .ok (.istore_n 2, 1) := by decide +kernel
theorem d_108_42 : decode (g_m 108).2.1 42 = .ok (.aload_n 0, 1) := by decide +kernel
theorem d_108_43 : decode (g_m 108).2.1 43 = .ok (.getfield 23, 3) := by decide +kernel
theorem d_108_46 : decode (g_m 108).2.1 46 = .ok (.iload 5, 2) := by decide +kernel
theorem d_108_48 : decode (g_m 108).2.1 48 = .ok (.baload, 1) := by decide +kernel
theorem d_108_49 : decode (g_m 108).2.1 49 = .ok (.ifCond .eq (9), 3) := by decide +kernel
theorem d_108_52 : decode (g_m 108).2.1 52 = .ok (.iload_n 3, 1) := by decide +kernel
theorem d_108_53 : decode (g_m 108).2.1 53 = .ok (.iconst 1, 1) := by decide +kernel
theorem d_108_54 : decode (g_m 108).2.1 54 = .ok (.iadd, 1) := by decide +kernel
theorem d_108_55 : decode (g_m 108).2.1 55 = .ok (.goto (4), 3) := by decide +kernel
theorem d_108_58 : decode (g_m 108).2.1 58 = .ok (.iload_n 3, 1) := by decide +kernel
theorem d_108_59 : decode (g_m 108).2.1 59 = .ok (.istore_n 3, 1) := by decide +kernel
theorem d_108_60 : decode (g_m 108).2.1 60 = .ok (.aload_n 0, 1) := by decide +kernel
theorem d_108_61 : decode (g_m 108).2.1 61 = .ok (.iload 5, 2) := by decide +kernel
theorem d_108_63 : decode (g_m 108).2.1 63 = .ok (.invokevirtual 174, 3) := by decide +kernel
theorem d_108_66 : decode (g_m 108).2.1 66 = .ok (.ifCond .eq (10), 3) := by decide +kernel
theorem d_108_69 : decode (g_m 108).2.1 69 = .ok (.iload 4, 2) := by decide +kernel
theorem d_108_71 : decode (g_m 108).2.1 71 = .ok (.iconst 1, 1) := by decide +kernel
theorem d_108_72 : decode (g_m 108).2.1 72 = .ok (.iadd, 1) := by decide +kernel
theorem d_108_73 : decode (g_m 108).2.1 73 = .ok (.goto (5), 3) := by decide +kernel
theorem d_108_76 : decode (g_m 108).2.1 76 = .ok (.iload 4, 2) := by decide +kernel
theorem d_108_78 : decode (g_m 108).2.1 78 = .ok (.istore 4, 2) := by decide +kernel
theorem d_108_80 : decode (g_m 108).2.1 80 = .ok (.iinc 5 1, 3) := by decide +kernel
theorem d_108_83 : decode (g_m 108).2.1 83 = .ok (.goto (-68), 3) := by decide +kernel
theorem d_108_86 : decode (g_m 108).2.1 86 = .ok (.iload_n 1, 1) := by decide +kernel
theorem d_108_87 : decode (g_m 108).2.1 87 = .ok (.tableswitch 86 0 8 #[49, 54, 56, 58, 61, 66, 71, 76, 81], 49) := by decide +kernel
theorem d_108_136 : decode (g_m 108).2.1 136 = .ok (.aload_n 0, 1) := by decide +kernel
theorem d_108_137 : decode (g_m 108).2.1 137 = .ok (.getfield 76, 3) := by decide +kernel
theorem d_108_140 : decode (g_m 108).2.1 140 = .ok (.ireturn, 1) := by decide +kernel
theorem d_108_141 : decode (g_m 108).2.1 141 = .ok (.iload_n 2, 1) := by decide +kernel
theorem d_108_142 : decode (g_m 108).2.1 142 = .ok (.ireturn, 1) := by decide +kernel
theorem d_108_143 : decode (g_m 108).2.1 143 = .ok (.iload_n 3, 1) := by decide +kernel
theorem d_108_144 : decode (g_m 108).2.1 144 = .ok (.ireturn, 1) := by decide +kernel
theorem d_108_145 : decode (g_m 108).2.1 145 = .ok (.iload 4, 2) := by decide +kernel
theorem d_108_147 : decode (g_m 108).2.1 147 = .ok (.ireturn, 1) := by decide +kernel
theorem d_108_148 : decode (g_m 108).2.1 148 = .ok (.aload_n 0, 1) := by decide +kernel
theorem d_108_149 : decode (g_m 108).2.1 149 = .ok (.getfield 70, 3) := by decide +kernel
theorem d_108_152 : decode (g_m 108).2.1 152 = .ok (.ireturn, 1) := by decide +kernel
theorem d_108_153 : decode (g_m 108).2.1 153 = .ok (.aload_n 0, 1) := by decide +kernel
theorem d_108_154 : decode (g_m 108).2.1 154 = .ok (.getfield 83, 3) := by decide +kernel
theorem d_108_157 : decode (g_m 108).2.1 157 = .ok (.ireturn, 1) := by decide +kernel
theorem d_108_158 : decode (g_m 108).2.1 158 = .ok (.aload_n 0, 1) := by decide +kernel
theorem d_108_159 : decode (g_m 108).2.1 159 = .ok (.getfield 13, 3) := by decide +kernel
theorem d_108_162 : decode (g_m 108).2.1 162 = .ok (.ireturn, 1) := by decide +kernel
theorem d_108_163 : decode (g_m 108).2.1 163 = .ok (.aload_n 0, 1) := by decide +kernel
theorem d_108_164 : decode (g_m 108).2.1 164 = .ok (.getfield 16, 3) := by decide +kernel
theorem d_108_167 : decode (g_m 108).2.1 167 = .ok (.ireturn, 1) := by decide +kernel
theorem d_108_168 : decode (g_m 108).2.1 168 = .ok (.aload_n 0, 1) := by decide +kernel
theorem d_108_169 : decode (g_m 108).2.1 169 = .ok (.getfield 164, 3) := by decide +kernel
theorem d_108_172 : decode (g_m 108).2.1 172 = .ok (.ireturn, 1) := by decide +kernel
theorem d_108_173 : decode (g_m 108).2.1 173 = .ok (.iconst (-1), 1) := by decide +kernel
theorem d_108_174 : decode (g_m 108).2.1 174 = .ok (.ireturn, 1) := by decide +kernel
end
section
theorem d_63_0 : decode (g_m 63).2.1 0 = .ok (.iload_n 1, 1) := by decide +kernel
theorem d_63_1 : decode (g_m 63).2.1 1 = .ok (.aload_n 0, 1) := by decide +kernel
theorem d_63_2 : decode (g_m 63).2.1 2 = .ok (.arraylength, 1) := by decide +kernel
theorem d_63_3 : decode (g_m 63).2.1 3 = .ok (.if_icmp .ge (9), 3) := by decide +kernel
theorem d_63_6 : decode (g_m 63).2.1 6 = .ok (.aload_n 0, 1) := by decide +kernel
theorem d_63_7 : decode (g_m 63).2.1 7 = .ok (.iload_n 1, 1) := by decide +kernel
theorem d_63_8 : decode (g_m 63).2.1 8 = .ok (.iaload, 1) := by decide +kernel
theorem d_63_9 : decode (g_m 63).2.1 9 = .ok (.goto (4), 3) := by decide +kernel
theorem d_63_12 : decode (g_m 63).2.1 12 = .ok (.iconst 0, 1) := by decide +kernel
theorem d_63_13 : decode (g_m 63).2.1 13 = .ok (.ireturn, 1) := by decide +kernel
theorem d_109_0 : decode (g_m 109).2.1 0 = .ok (.new 7, 3) := by decide +kernel
theorem d_109_3 : decode (g_m 109).2.1 3 = .ok (.dup, 1) := by decide +kernel
theorem d_109_4 : decode (g_m 109).2.1 4 = .ok (.aload_n 0, 1) := by decide +kernel
theorem d_109_5 : decode (g_m 109).2.1 5 = .ok (.iconst 0, 1) := by decide +kernel
theorem d_109_6 : decode (g_m 109).2.1 6 = .ok (.invokestatic 9, 3) := by decide +kernel
theorem d_109_9 : decode (g_m 109).2.1 9 = .ok (.aload_n 0, 1) := by decide +kernel
theorem d_109_10 : decode (g_m 109).2.1 10 = .ok (.iconst 1, 1) := by decide +kernel
theorem d_109_11 : decode (g_m 109).2.1 11 = .ok (.invokestatic 9, 3) := by decide +kernel
theorem d_109_14 : decode (g_m 109).2.1 14 = .ok (.invokespecial 15, 3) := by decide +kernel
theorem d_109_17 : decode (g_m 109).2.1 17 = .ok (.astore_n 1, 1) := by decide +kernel
theorem d_109_18 : decode (g_m 109).2.1 18 = .ok (.new 18, 3) := by decide +kernel
theorem d_109_21 : decode (g_m 109).2.1 21 = .ok (.dup, 1) := by decide +kernel
theorem d_109_22 : decode (g_m 109).2.1 22 = .ok (.aload_n 0, 1) := by decide +kernel
theorem d_109_23 : decode (g_m 109).2.1 23 = .ok (.iconst 0, 1) := by decide +kernel
theorem d_109_24 : decode (g_m 109).2.1 24 = .ok (.invokestatic 9, 3) := by decide +kernel
theorem d_109_27 : decode (g_m 109).2.1 27 = .ok (.aload_n 0, 1) := by decide +kernel
theorem d_109_28 : decode (g_m 109).2.1 28 = .ok (.iconst 1, 1) := by decide +kernel
theorem d_109_29 : decode (g_m 109).2.1 29 = .ok (.invokestatic 9, 3) := by decide +kernel
theorem d_109_32 : decode (g_m 109).2.1 32 = .ok (.invokespecial 20, 3) := by decide +kernel
theorem d_109_35 : decode (g_m 109).2.1 35 = .ok (.astore_n 2, 1) := by decide +kernel
theorem d_109_36 : decode (g_m 109).2.1 36 = .ok (.iconst 2, 1) := by decide +kernel
theorem d_109_37 : decode (g_m 109).2.1 37 = .ok (.istore_n 3, 1) := by decide +kernel
theorem d_109_38 : decode (g_m 109).2.1 38 = .ok (.iload_n 3, 1) := by decide +kernel
theorem d_109_39 : decode (g_m 109).2.1 39 = .ok (.aload_n 0, 1) := by decide +kernel
theorem d_109_40 : decode (g_m 109).2.1 40 = .ok (.arraylength, 1) := by decide +kernel
theorem d_109_41 : decode (g_m 109).2.1 41 = .ok (.iconst 4, 1) := by decide +kernel
theorem d_109_42 : decode (g_m 109).2.1 42 = .ok (.isub, 1) := by decide +kernel
theorem d_109_43 : decode (g_m 109).2.1 43 = .ok (.if_icmp .gt (637), 3) := by decide +kernel
theorem d_109_46 : decode (g_m 109).2.1 46 = .ok (.aload_n 0, 1) := by decide +kernel
theorem d_109_47 : decode (g_m 109).2.1 47 = .ok (.iload_n 3, 1) := by decide +kernel
theorem d_109_48 : decode (g_m 109).2.1 48 = .ok (.iaload, 1) := by decide +kernel
theorem d_109_49 : decode (g_m 109).2.1 49 = .ok (.bipush 31, 2) := by decide +kernel
theorem d_109_51 : decode (g_m 109).2.1 51 = .ok (.iand, 1) := by decide +kernel
theorem d_109_52 : decode (g_m 109).2.1 52 = .ok (.tableswitch 622 0 19 #[96, 129, 142, 165, 188, 237, 250, 283, 306, 339, 382, 415, 438, 461, 494, 507, 530, 543, 586, 599], 96) := by decide +kernel
theorem d_109_148 : decode (g_m 109).2.1 148 = .ok (.aload_n 1, 1) := by decide +kernel
theorem d_109_149 : decode (g_m 109).2.1 149 = .ok (.aload_n 0, 1) := by decide +kernel
theorem d_109_150 : decode (g_m 109).2.1 150 = .ok (.iload_n 3, 1) := by decide +kernel
theorem d_109_151 : decode (g_m 109).2.1 151 = .ok (.iconst 1, 1) := by decide +kernel
theorem d_109_152 : decode (g_m 109).2.1 152 = .ok (.iadd, 1) := by decide +kernel
theorem d_109_153 : decode (g_m 109).2.1 153 = .ok (.iaload, 1) := by decide +kernel
theorem d_109_154 : decode (g_m 109).2.1 154 = .ok (.aload_n 0, 1) := by decide +kernel
theorem d_109_155 : decode (g_m 109).2.1 155 = .ok (.iload_n 3, 1) := by decide +kernel
theorem d_109_156 : decode (g_m 109).2.1 156 = .ok (.iconst 2, 1) := by decide +kernel
theorem d_109_157 : decode (g_m 109).2.1 157 = .ok (.iadd, 1) := by decide +kernel
theorem d_109_158 : decode (g_m 109).2.1 158 = .ok (.iaload, 1) := by decide +kernel
theorem d_109_159 : decode (g_m 109).2.1 159 = .ok (.invokevirtual 21, 3) := by decide +kernel
theorem d_109_162 : decode (g_m 109).2.1 162 = .ok (.aload_n 2, 1) := by decide +kernel
theorem d_109_163 : decode (g_m 109).2.1 163 = .ok (.aload_n 0, 1) := by decide +kernel
theorem d_109_164 : decode (g_m 109).2.1 164 = .ok (.iload_n 3, 1) := by decide +kernel
theorem d_109_165 : decode (g_m 109).2.1 165 = .ok (.iconst 1, 1) := by decide +kernel
theorem d_109_166 : decode (g_m 109).2.1 166 = .ok (.iadd, 1) := by decide +kernel
theorem d_109_167 : decode (g_m 109).2.1 167 = .ok (.iaload, 1) := by decide +kernel
theorem d_109_168 : decode (g_m 109).2.1 168 = .ok (.aload_n 0, 1) := by decide +kernel
theorem d_109_169 : decode (g_m 109).2.1 169 = .ok (.iload_n 3, 1) := by decide +kernel
theorem d_109_170 : decode (g_m 109).2.1 170 = .ok (.iconst 2, 1) := by decide +kernel
theorem d_109_171 : decode (g_m 109).2.1 171 = .ok (.iadd, 1) := by decide +kernel
theorem d_109_172 : decode (g_m 109).2.1 172 = .ok (.iaload, 1) := by decide +kernel
theorem d_109_173 : decode (g_m 109).2.1 173 = .ok (.invokevirtual 25, 3) := by decide +kernel
theorem d_109_176 : decode (g_m 109).2.1 176 = .ok (.if_icmp .eq (498), 3) := by decide +kernel
theorem d_109_179 : decode (g_m 109).2.1 179 = .ok (.iconst 0, 1) := by decide +kernel
theorem d_109_180 : decode (g_m 109).2.1 180 = .ok (.ireturn, 1) := by decide +kernel
theorem d_109_181 : decode (g_m 109).2.1 181 = .ok (.aload_n 1, 1) := by decide +kernel
theorem d_109_182 : decode (g_m 109).2.1 182 = .ok (.invokevirtual 26, 3) := by decide +kernel
theorem d_109_185 : decode (g_m 109).2.1 185 = .ok (.aload_n 2, 1) := by decide +kernel
theorem d_109_186 : decode (g_m 109).2.1 186 = .ok (.invokevirtual 30, 3) := by decide +kernel
theorem d_109_189 : decode (g_m 109).2.1 189 = .ok (.if_icmp .eq (485), 3) := by decide +kernel
theorem d_109_192 : decode (g_m 109).2.1 192 = .ok (.iconst 0, 1) := by decide +kernel
theorem d_109_193 : decode (g_m 109).2.1 193 = .ok (.ireturn, 1) := by decide +kernel
theorem d_109_194 : decode (g_m 109).2.1 194 = .ok (.aload_n 1, 1) := by decide +kernel
theorem d_109_195 : decode (g_m 109).2.1 195 = .ok (.aload_n 0, 1) := by decide +kernel
theorem d_109_196 : decode (g_m 109).2.1 196 = .ok (.iload_n 3, 1) := by decide +kernel
theorem d_109_197 : decode (g_m 109).2.1 197 = .ok (.iconst 1, 1) := by decide +kernel
theorem d_109_198 : decode (g_m 109).2.1 198 = .ok (.iadd, 1) := by decide +kernel
theorem d_109_199 : decode (g_m 109).2.1 199 = .ok (.iaload, 1) := by decide +kernel
theorem d_109_200 : decode (g_m 109).2.1 200 = .ok (.invokevirtual 31, 3) := by decide +kernel
theorem d_109_203 : decode (g_m 109).2.1 203 = .ok (.aload_n 2, 1) := by decide +kernel
theorem d_109_204 : decode (g_m 109).2.1 204 = .ok (.aload_n 0, 1) := by decide +kernel
theorem d_109_205 : decode (g_m 109).2.1 205 = .ok (.iload_n 3, 1) := by decide +kernel
theorem d_109_206 : decode (g_m 109).2.1 206 = .ok (.iconst 1, 1) := by decide +kernel
theorem d_109_207 : decode (g_m 109).2.1 207 = .ok (.iadd, 1) := by decide +kernel
theorem d_109_208 : decode (g_m 109).2.1 208 = .ok (.iaload, 1) := by decide +kernel
theorem d_109_209 : decode (g_m 109).2.1 209 = .ok (.invokevirtual 35, 3) := by decide +kernel
theorem d_109_212 : decode (g_m 109).2.1 212 = .ok (.if_icmp .eq (462), 3) := by decide +kernel
theorem d_109_215 : decode (g_m 109).2.1 215 = .ok (.iconst 0, 1) := by decide +kernel
theorem d_109_216 : decode (g_m 109).2.1 216 = .ok (.ireturn, 1) := by decide +kernel
theorem d_109_217 : decode (g_m 109).2.1 217 = .ok (.aload_n 1, 1) := by decide +kernel
theorem d_109_218 : decode (g_m 109).2.1 218 = .ok (.aload_n 0, 1) := by decide +kernel
theorem d_109_219 : decode (g_m 109).2.1 219 = .ok (.iload_n 3, 1) := by decide +kernel
theorem d_109_220 : decode (g_m 109).2.1 220 = .ok (.iconst 1, 1) := by decide +kernel
theorem d_109_221 : decode (g_m 109).2.1 221 = .ok (.iadd, 1) := by decide +kernel
theorem d_109_222 : decode (g_m 109).2.1 222 = .ok (.iaload, 1) := by decide +kernel
theorem d_109_223 : decode (g_m 109).2.1 223 = .ok (.invokevirtual 36, 3) := by decide +kernel
theorem d_109_226 : decode (g_m 109).2.1 226 = .ok (.aload_n 2, 1) := by decide +kernel
theorem d_109_227 : decode (g_m 109).2.1 227 = .ok (.aload_n 0, 1) := by decide +kernel
theorem d_109_228 : decode (g_m 109).2.1 228 = .ok (.iload_n 3, 1) := by decide +kernel
theorem d_109_229 : decode (g_m 109).2.1 229 = .ok (.iconst 1, 1) := by decide +kernel
theorem d_109_230 : decode (g_m 109).2.1 230 = .ok (.iadd, 1) := by decide +kernel
theorem d_109_231 : decode (g_m 109).2.1 231 = .ok (.iaload, 1) := by decide +kernel
theorem d_109_232 : decode (g_m 109).2.1 232 = .ok (.invokevirtual 39, 3) := by decide +kernel
theorem d_109_235 : decode (g_m 109).2.1 235 = .ok (.if_icmp .eq (439), 3) := by decide +kernel
theorem d_109_238 : decode (g_m 109).2.1 238 = .ok (.iconst 0, 1) := by decide +kernel
theorem d_109_239 : decode (g_m 109).2.1 239 = .ok (.ireturn, 1) := by decide +kernel
theorem d_109_240 : decode (g_m 109).2.1 240 = .ok (.aload_n 1, 1) := by decide +kernel
theorem d_109_241 : decode (g_m 109).2.1 241 = .ok (.aload_n 0, 1) := by decide +kernel
theorem d_109_242 : decode (g_m 109).2.1 242 = .ok (.iload_n 3, 1) := by decide +kernel
theorem d_109_243 : decode (g_m 109).2.1 243 = .ok (.iconst 1, 1) := by decide +kernel
theorem d_109_244 : decode (g_m 109).2.1 244 = .ok (.iadd, 1) := by decide +kernel
theorem d_109_245 : decode (g_m 109).2.1 245 = .ok (.iaload, 1) := by decide +kernel
theorem d_109_246 : decode (g_m 109).2.1 246 = .ok (.aload_n 0, 1) := by decide +kernel
theorem d_109_247 : decode (g_m 109).2.1 247 = .ok (.iload_n 3, 1) := by decide +kernel
theorem d_109_248 : decode (g_m 109).2.1 248 = .ok (.iconst 2, 1) := by decide +kernel
theorem d_109_249 : decode (g_m 109).2.1 249 = .ok (.iadd, 1) := by decide +kernel
theorem d_109_250 : decode (g_m 109).2.1 250 = .ok (.iaload, 1) := by decide +kernel
theorem d_109_251 : decode (g_m 109).2.1 251 = .ok (.ifCond .eq (7), 3) := by decide +kernel
theorem d_109_254 : decode (g_m 109).2.1 254 = .ok (.iconst 1, 1) := by decide +kernel
theorem d_109_255 : decode (g_m 109).2.1 255 = .ok (.goto (4), 3) := by decide +kernel
theorem d_109_258 : decode (g_m 109).2.1 258 = .ok (.iconst 0, 1) := by decide +kernel
theorem d_109_259 : decode (g_m 109).2.1 259 = .ok (.invokevirtual 40, 3) := by decide +kernel
theorem d_109_262 : decode (g_m 109).2.1 262 = .ok (.aload_n 2, 1) := by decide +kernel
theorem d_109_263 : decode (g_m 109).2.1 263 = .ok (.aload_n 0, 1) := by decide +kernel
theorem d_109_264 : decode (g_m 109).2.1 264 = .ok (.iload_n 3, 1) := by decide +kernel
theorem d_109_265 : decode (g_m 109).2.1 265 = .ok (.iconst 1, 1) := by decide +kernel
theorem d_109_266 : decode (g_m 109).2.1 266 = .ok (.iadd, 1) := by decide +kernel
theorem d_109_267 : decode (g_m 109).2.1 267 = .ok (.iaload, 1) := by decide +kernel
theorem d_109_268 : decode (g_m 109).2.1 268 = .ok (.aload_n 0, 1) := by decide +kernel
theorem d_109_269 : decode (g_m 109).2.1 269 = .ok (.iload_n 3, 1) := by decide +kernel
theorem d_109_270 : decode (g_m 109).2.1 270 = .ok (.iconst 2, 1) := by decide +kernel
theorem d_109_271 : decode (g_m 109).2.1 271 = .ok (.iadd, 1) := by decide +kernel
theorem d_109_272 : decode (g_m 109).2.1 272 = .ok (.iaload, 1) := by decide +kernel
theorem d_109_273 : decode (g_m 109).2.1 273 = .ok (.ifCond .eq (7), 3) := by decide +kernel
theorem d_109_276 : decode (g_m 109).2.1 276 = .ok (.iconst 1, 1) := by decide +kernel
theorem d_109_277 : decode (g_m 109).2.1 277 = .ok (.goto (4), 3) := by decide +kernel
theorem d_109_280 : decode (g_m 109).2.1 280 = .ok (.iconst 0, 1) := by decide +kernel
theorem d_109_281 : decode (g_m 109).2.1 281 = .ok (.invokevirtual 44, 3) := by decide +kernel
theorem d_109_284 : decode (g_m 109).2.1 284 = .ok (.if_icmp .eq (390), 3) := by decide +kernel
theorem d_109_287 : decode (g_m 109).2.1 287 = .ok (.iconst 0, 1) := by decide +kernel
theorem d_109_288 : decode (g_m 109).2.1 288 = .ok (.ireturn, 1) := by decide +kernel
theorem d_109_289 : decode (g_m 109).2.1 289 = .ok (.aload_n 1, 1) := by decide +kernel
theorem d_109_290 : decode (g_m 109).2.1 290 = .ok (.invokevirtual 45, 3) := by decide +kernel
theorem d_109_293 : decode (g_m 109).2.1 293 = .ok (.aload_n 2, 1) := by decide +kernel
theorem d_109_294 : decode (g_m 109).2.1 294 = .ok (.invokevirtual 48, 3) := by decide +kernel
theorem d_109_297 : decode (g_m 109).2.1 297 = .ok (.if_icmp .eq (377), 3) := by decide +kernel
theorem d_109_300 : decode (g_m 109).2.1 300 = .ok (.iconst 0, 1) := by decide +kernel
theorem d_109_301 : decode (g_m 109).2.1 301 = .ok (.ireturn, 1) := by decide +kernel
theorem d_109_302 : decode (g_m 109).2.1 302 = .ok (.aload_n 1, 1) := by decide +kernel
theorem d_109_303 : decode (g_m 109).2.1 303 = .ok (.aload_n 0, 1) := by decide +kernel
theorem d_109_304 : decode (g_m 109).2.1 304 = .ok (.iload_n 3, 1) := by decide +kernel
theorem d_109_305 : decode (g_m 109).2.1 305 = .ok (.iconst 1, 1) := by decide +kernel
theorem d_109_306 : decode (g_m 109).2.1 306 = .ok (.iadd, 1) := by decide +kernel
theorem d_109_307 : decode (g_m 109).2.1 307 = .ok (.iaload, 1) := by decide +kernel
theorem d_109_308 : decode (g_m 109).2.1 308 = .ok (.aload_n 0, 1) := by decide +kernel
theorem d_109_309 : decode (g_m 109).2.1 309 = .ok (.iload_n 3, 1) := by decide +kernel
theorem d_109_310 : decode (g_m 109).2.1 310 = .ok (.iconst 2, 1) := by decide +kernel
theorem d_109_311 : decode (g_m 109).2.1 311 = .ok (.iadd, 1) := by decide +kernel
theorem d_109_312 : decode (g_m 109).2.1 312 = .ok (.iaload, 1) := by decide +kernel
theorem d_109_313 : decode (g_m 109).2.1 313 = .ok (.invokevirtual 49, 3) := by decide +kernel
theorem d_109_316 : decode (g_m 109).2.1 316 = .ok (.aload_n 2, 1) := by decide +kernel
theorem d_109_317 : decode (g_m 109).2.1 317 = .ok (.aload_n 0, 1) := by decide +kernel
theorem d_109_318 : decode (g_m 109).2.1 318 = .ok (.iload_n 3, 1) := by decide +kernel
theorem d_109_319 : decode (g_m 109).2.1 319 = .ok (.iconst 1, 1) := by decide +kernel
theorem d_109_320 : decode (g_m 109).2.1 320 = .ok (.iadd, 1) := by decide +kernel
theorem d_109_321 : decode (g_m 109).2.1 321 = .ok (.iaload, 1) := by decide +kernel
theorem d_109_322 : decode (g_m 109).2.1 322 = .ok (.aload_n 0, 1) := by decide +kernel
theorem d_109_323 : decode (g_m 109).2.1 323 = .ok (.iload_n 3, 1) := by decide +kernel
theorem d_109_324 : decode (g_m 109).2.1 324 = .ok (.iconst 2, 1) := by decide +kernel
theorem d_109_325 : decode (g_m 109).2.1 325 = .ok (.iadd, 1) := by decide +kernel
theorem d_109_326 : decode (g_m 109).2.1 326 = .ok (.iaload, 1) := by decide +kernel
theorem d_109_327 : decode (g_m 109).2.1 327 = .ok (.invokevirtual 52, 3) := by decide +kernel
theorem d_109_330 : decode (g_m 109).2.1 330 = .ok (.if_icmp .eq (344), 3) := by decide +kernel
theorem d_109_333 : decode (g_m 109).2.1 333 = .ok (.iconst 0, 1) := by decide +kernel
theorem d_109_334 : decode (g_m 109).2.1 334 = .ok (.ireturn, 1) := by decide +kernel
theorem d_109_335 : decode (g_m 109).2.1 335 = .ok (.aload_n 1, 1) := by decide +kernel
theorem d_109_336 : decode (g_m 109).2.1 336 = .ok (.aload_n 0, 1) := by decide +kernel
theorem d_109_337 : decode (g_m 109).2.1 337 = .ok (.iload_n 3, 1) := by decide +kernel
theorem d_109_338 : decode (g_m 109).2.1 338 = .ok (.iconst 1, 1) := by decide +kernel
theorem d_109_339 : decode (g_m 109).2.1 339 = .ok (.iadd, 1) := by decide +kernel
theorem d_109_340 : decode (g_m 109).2.1 340 = .ok (.iaload, 1) := by decide +kernel
theorem d_109_341 : decode (g_m 109).2.1 341 = .ok (.invokevirtual 53, 3) := by decide +kernel
theorem d_109_344 : decode (g_m 109).2.1 344 = .ok (.aload_n 2, 1) := by decide +kernel
theorem d_109_345 : decode (g_m 109).2.1 345 = .ok (.aload_n 0, 1) := by decide +kernel
theorem d_109_346 : decode (g_m 109).2.1 346 = .ok (.iload_n 3, 1) := by decide +kernel
theorem d_109_347 : decode (g_m 109).2.1 347 = .ok (.iconst 1, 1) := by decide +kernel
theorem d_109_348 : decode (g_m 109).2.1 348 = .ok (.iadd, 1) := by decide +kernel
theorem d_109_349 : decode (g_m 109).2.1 349 = .ok (.iaload, 1) := by decide +kernel
theorem d_109_350 : decode (g_m 109).2.1 350 = .ok (.invokevirtual 56, 3) := by decide +kernel
theorem d_109_353 : decode (g_m 109).2.1 353 = .ok (.if_icmp .eq (321), 3) := by decide +kernel
theorem d_109_356 : decode (g_m 109).2.1 356 = .ok (.iconst 0, 1) := by decide +kernel
theorem d_109_357 : decode (g_m 109).2.1 357 = .ok (.ireturn, 1) := by decide +kernel
theorem d_109_358 : decode (g_m 109).2.1 358 = .ok (.aload_n 1, 1) := by decide +kernel
theorem d_109_359 : decode (g_m 109).2.1 359 = .ok (.aload_n 0, 1) := by decide +kernel
theorem d_109_360 : decode (g_m 109).2.1 360 = .ok (.iload_n 3, 1) := by decide +kernel
theorem d_109_361 : decode (g_m 109).2.1 361 = .ok (.iconst 1, 1) := by decide +kernel
theorem d_109_362 : decode (g_m 109).2.1 362 = .ok (.iadd, 1) := by decide +kernel
theorem d_109_363 : decode (g_m 109).2.1 363 = .ok (.iaload, 1) := by decide +kernel
theorem d_109_364 : decode (g_m 109).2.1 364 = .ok (.aload_n 0, 1) := by decide +kernel
theorem d_109_365 : decode (g_m 109).2.1 365 = .ok (.iload_n 3, 1) := by decide +kernel
theorem d_109_366 : decode (g_m 109).2.1 366 = .ok (.iconst 2, 1) := by decide +kernel
theorem d_109_367 : decode (g_m 109).2.1 367 = .ok (.iadd, 1) := by decide +kernel
theorem d_109_368 : decode (g_m 109).2.1 368 = .ok (.iaload, 1) := by decide +kernel
theorem d_109_369 : decode (g_m 109).2.1 369 = .ok (.invokevirtual 57, 3) := by decide +kernel
theorem d_109_372 : decode (g_m 109).2.1 372 = .ok (.aload_n 2, 1) := by decide +kernel
theorem d_109_373 : decode (g_m 109).2.1 373 = .ok (.aload_n 0, 1) := by decide +kernel
theorem d_109_374 : decode (g_m 109).2.1 374 = .ok (.iload_n 3, 1) := by decide +kernel
theorem d_109_375 : decode (g_m 109).2.1 375 = .ok (.iconst 1, 1) := by decide +kernel
theorem d_109_376 : decode (g_m 109).2.1 376 = .ok (.iadd, 1) := by decide +kernel
theorem d_109_377 : decode (g_m 109).2.1 377 = .ok (.iaload, 1) := by decide +kernel
theorem d_109_378 : decode (g_m 109).2.1 378 = .ok (.aload_n 0, 1) := by decide +kernel
theorem d_109_379 : decode (g_m 109).2.1 379 = .ok (.iload_n 3, 1) := by decide +kernel
theorem d_109_380 : decode (g_m 109).2.1 380 = .ok (.iconst 2, 1) := by decide +kernel
theorem d_109_381 : decode (g_m 109).2.1 381 = .ok (.iadd, 1) := by decide +kernel
theorem d_109_382 : decode (g_m 109).2.1 382 = .ok (.iaload, 1) := by decide +kernel
theorem d_109_383 : decode (g_m 109).2.1 383 = .ok (.invokevirtual 60, 3) := by decide +kernel
theorem d_109_386 : decode (g_m 109).2.1 386 = .ok (.if_icmp .eq (288), 3) := by decide +kernel
theorem d_109_389 : decode (g_m 109).2.1 389 = .ok (.iconst 0, 1) := by decide +kernel
theorem d_109_390 : decode (g_m 109).2.1 390 = .ok (.ireturn, 1) := by decide +kernel
theorem d_109_391 : decode (g_m 109).2.1 391 = .ok (.aload_n 1, 1) := by decide +kernel
theorem d_109_392 : decode (g_m 109).2.1 392 = .ok (.aload_n 0, 1) := by decide +kernel
theorem d_109_393 : decode (g_m 109).2.1 393 = .ok (.iload_n 3, 1) := by decide +kernel
theorem d_109_394 : decode (g_m 109).2.1 394 = .ok (.iconst 1, 1) := by decide +kernel
theorem d_109_395 : decode (g_m 109).2.1 395 = .ok (.iadd, 1) := by decide +kernel
theorem d_109_396 : decode (g_m 109).2.1 396 = .ok (.iaload, 1) := by decide +kernel
theorem d_109_397 : decode (g_m 109).2.1 397 = .ok (.aload_n 0, 1) := by decide +kernel
theorem d_109_398 : decode (g_m 109).2.1 398 = .ok (.iload_n 3, 1) := by decide +kernel
theorem d_109_399 : decode (g_m 109).2.1 399 = .ok (.iconst 2, 1) := by decide +kernel
theorem d_109_400 : decode (g_m 109).2.1 400 = .ok (.iadd, 1) := by decide +kernel
theorem d_109_401 : decode (g_m 109).2.1 401 = .ok (.iaload, 1) := by decide +kernel
theorem d_109_402 : decode (g_m 109).2.1 402 = .ok (.aload_n 0, 1) := by decide +kernel
theorem d_109_403 : decode (g_m 109).2.1 403 = .ok (.iload_n 3, 1) := by decide +kernel
theorem d_109_404 : decode (g_m 109).2.1 404 = .ok (.iconst 3, 1) := by decide +kernel
theorem d_109_405 : decode (g_m 109).2.1 405 = .ok (.iadd, 1) := by decide +kernel
theorem d_109_406 : decode (g_m 109).2.1 406 = .ok (.iaload, 1) := by decide +kernel
theorem d_109_407 : decode (g_m 109).2.1 407 = .ok (.invokevirtual 61, 3) := by decide +kernel
theorem d_109_410 : decode (g_m 109).2.1 410 = .ok (.aload_n 2, 1) := by decide +kernel
theorem d_109_411 : decode (g_m 109).2.1 411 = .ok (.aload_n 0, 1) := by decide +kernel
theorem d_109_412 : decode (g_m 109).2.1 412 = .ok (.iload_n 3, 1) := by decide +kernel
theorem d_109_413 : decode (g_m 109).2.1 413 = .ok (.iconst 1, 1) := by decide +kernel
theorem d_109_414 : decode (g_m 109).2.1 414 = .ok (.iadd, 1) := by decide +kernel
theorem d_109_415 : decode (g_m 109).2.1 415 = .ok (.iaload, 1) := by decide +kernel
theorem d_109_416 : decode (g_m 109).2.1 416 = .ok (.aload_n 0, 1) := by decide +kernel
theorem d_109_417 : decode (g_m 109).2.1 417 = .ok (.iload_n 3, 1) := by decide +kernel
theorem d_109_418 : decode (g_m 109).2.1 418 = .ok (.iconst 2, 1) := by decide +kernel
theorem d_109_419 : decode (g_m 109).2.1 419 = .ok (.iadd, 1) := by decide +kernel
theorem d_109_420 : decode (g_m 109).2.1 420 = .ok (.iaload, 1) := by decide +kernel
theorem d_109_421 : decode (g_m 109).2.1 421 = .ok (.aload_n 0, 1) := by decide +kernel
theorem d_109_422 : decode (g_m 109).2.1 422 = .ok (.iload_n 3, 1) := by decide +kernel
theorem d_109_423 : decode (g_m 109).2.1 423 = .ok (.iconst 3, 1) := by decide +kernel
theorem d_109_424 : decode (g_m 109).2.1 424 = .ok (.iadd, 1) := by decide +kernel
theorem d_109_425 : decode (g_m 109).2.1 425 = .ok (.iaload, 1) := by decide +kernel
theorem d_109_426 : decode (g_m 109).2.1 426 = .ok (.invokevirtual 65, 3) := by decide +kernel
theorem d_109_429 : decode (g_m 109).2.1 429 = .ok (.if_icmp .eq (245), 3) := by decide +kernel
theorem d_109_432 : decode (g_m 109).2.1 432 = .ok (.iconst 0, 1) := by decide +kernel
theorem d_109_433 : decode (g_m 109).2.1 433 = .ok (.ireturn, 1) := by decide +kernel
theorem d_109_434 : decode (g_m 109).2.1 434 = .ok (.aload_n 1, 1) := by decide +kernel
theorem d_109_435 : decode (g_m 109).2.1 435 = .ok (.aload_n 0, 1) := by decide +kernel
theorem d_109_436 : decode (g_m 109).2.1 436 = .ok (.iload_n 3, 1) := by decide +kernel
theorem d_109_437 : decode (g_m 109).2.1 437 = .ok (.iconst 1, 1) := by decide +kernel
theorem d_109_438 : decode (g_m 109).2.1 438 = .ok (.iadd, 1) := by decide +kernel
theorem d_109_439 : decode (g_m 109).2.1 439 = .ok (.iaload, 1) := by decide +kernel
theorem d_109_440 : decode (g_m 109).2.1 440 = .ok (.aload_n 0, 1) := by decide +kernel
theorem d_109_441 : decode (g_m 109).2.1 441 = .ok (.iload_n 3, 1) := by decide +kernel
theorem d_109_442 : decode (g_m 109).2.1 442 = .ok (.iconst 2, 1) := by decide +kernel
theorem d_109_443 : decode (g_m 109).2.1 443 = .ok (.iadd, 1) := by decide +kernel
theorem d_109_444 : decode (g_m 109).2.1 444 = .ok (.iaload, 1) := by decide +kernel
theorem d_109_445 : decode (g_m 109).2.1 445 = .ok (.invokevirtual 66, 3) := by decide +kernel
theorem d_109_448 : decode (g_m 109).2.1 448 = .ok (.aload_n 2, 1) := by decide +kernel
theorem d_109_449 : decode (g_m 109).2.1 449 = .ok (.aload_n 0, 1) := by decide +kernel
theorem d_109_450 : decode (g_m 109).2.1 450 = .ok (.iload_n 3, 1) := by decide +kernel
theorem d_109_451 : decode (g_m 109).2.1 451 = .ok (.iconst 1, 1) := by decide +kernel
theorem d_109_452 : decode (g_m 109).2.1 452 = .ok (.iadd, 1) := by decide +kernel
theorem d_109_453 : decode (g_m 109).2.1 453 = .ok (.iaload, 1) := by decide +kernel
theorem d_109_454 : decode (g_m 109).2.1 454 = .ok (.aload_n 0, 1) := by decide +kernel
theorem d_109_455 : decode (g_m 109).2.1 455 = .ok (.iload_n 3, 1) := by decide +kernel
theorem d_109_456 : decode (g_m 109).2.1 456 = .ok (.iconst 2, 1) := by decide +kernel
theorem d_109_457 : decode (g_m 109).2.1 457 = .ok (.iadd, 1) := by decide +kernel
theorem d_109_458 : decode (g_m 109).2.1 458 = .ok (.iaload, 1) := by decide +kernel
theorem d_109_459 : decode (g_m 109).2.1 459 = .ok (.invokevirtual 69, 3) := by decide +kernel
theorem d_109_462 : decode (g_m 109).2.1 462 = .ok (.if_icmp .eq (212), 3) := by decide +kernel
theorem d_109_465 : decode (g_m 109).2.1 465 = .ok (.iconst 0, 1) := by decide +kernel
theorem d_109_466 : decode (g_m 109).2.1 466 = .ok (.ireturn, 1) := by decide +kernel
theorem d_109_467 : decode (g_m 109).2.1 467 = .ok (.aload_n 1, 1) := by decide +kernel
theorem d_109_468 : decode (g_m 109).2.1 468 = .ok (.aload_n 0, 1) := by decide +kernel
theorem d_109_469 : decode (g_m 109).2.1 469 = .ok (.iload_n 3, 1) := by decide +kernel
theorem d_109_470 : decode (g_m 109).2.1 470 = .ok (.iconst 1, 1) := by decide +kernel
theorem d_109_471 : decode (g_m 109).2.1 471 = .ok (.iadd, 1) := by decide +kernel
theorem d_109_472 : decode (g_m 109).2.1 472 = .ok (.iaload, 1) := by decide +kernel
theorem d_109_473 : decode (g_m 109).2.1 473 = .ok (.invokevirtual 70, 3) := by decide +kernel
theorem d_109_476 : decode (g_m 109).2.1 476 = .ok (.aload_n 2, 1) := by decide +kernel
theorem d_109_477 : decode (g_m 109).2.1 477 = .ok (.aload_n 0, 1) := by decide +kernel
theorem d_109_478 : decode (g_m 109).2.1 478 = .ok (.iload_n 3, 1) := by decide +kernel
theorem d_109_479 : decode (g_m 109).2.1 479 = .ok (.iconst 1, 1) := by decide +kernel
theorem d_109_480 : decode (g_m 109).2.1 480 = .ok (.iadd, 1) := by decide +kernel
theorem d_109_481 : decode (g_m 109).2.1 481 = .ok (.iaload, 1) := by decide +kernel
theorem d_109_482 : decode (g_m 109).2.1 482 = .ok (.invokevirtual 73, 3) := by decide +kernel
theorem d_109_485 : decode (g_m 109).2.1 485 = .ok (.if_icmp .eq (189), 3) := by decide +kernel
theorem d_109_488 : decode (g_m 109).2.1 488 = .ok (.iconst 0, 1) := by decide +kernel
theorem d_109_489 : decode (g_m 109).2.1 489 = .ok (.ireturn, 1) := by decide +kernel
theorem d_109_490 : decode (g_m 109).2.1 490 = .ok (.aload_n 1, 1) := by decide +kernel
theorem d_109_491 : decode (g_m 109).2.1 491 = .ok (.aload_n 0, 1) := by decide +kernel
theorem d_109_492 : decode (g_m 109).2.1 492 = .ok (.iload_n 3, 1) := by decide +kernel
theorem d_109_493 : decode (g_m 109).2.1 493 = .ok (.iconst 1, 1) := by decide +kernel
theorem d_109_494 : decode (g_m 109).2.1 494 = .ok (.iadd, 1) := by decide +kernel
theorem d_109_495 : decode (g_m 109).2.1 495 = .ok (.iaload, 1) := by decide +kernel
theorem d_109_496 : decode (g_m 109).2.1 496 = .ok (.invokevirtual 74, 3) := by decide +kernel
theorem d_109_499 : decode (g_m 109).2.1 499 = .ok (.aload_n 2, 1) := by decide +kernel
theorem d_109_500 : decode (g_m 109).2.1 500 = .ok (.aload_n 0, 1) := by decide +kernel
theorem d_109_501 : decode (g_m 109).2.1 501 = .ok (.iload_n 3, 1) := by decide +kernel
theorem d_109_502 : decode (g_m 109).2.1 502 = .ok (.iconst 1, 1) := by decide +kernel
theorem d_109_503 : decode (g_m 109).2.1 503 = .ok (.iadd, 1) := by decide +kernel
theorem d_109_504 : decode (g_m 109).2.1 504 = .ok (.iaload, 1) := by decide +kernel
theorem d_109_505 : decode (g_m 109).2.1 505 = .ok (.invokevirtual 77, 3) := by decide +kernel
theorem d_109_508 : decode (g_m 109).2.1 508 = .ok (.if_icmp .eq (166), 3) := by decide +kernel
theorem d_109_511 : decode (g_m 109).2.1 511 = .ok (.iconst 0, 1) := by decide +kernel
theorem d_109_512 : decode (g_m 109).2.1 512 = .ok (.ireturn, 1) := by decide +kernel
theorem d_109_513 : decode (g_m 109).2.1 513 = .ok (.aload_n 1, 1) := by decide +kernel
theorem d_109_514 : decode (g_m 109).2.1 514 = .ok (.aload_n 0, 1) := by decide +kernel
theorem d_109_515 : decode (g_m 109).2.1 515 = .ok (.iload_n 3, 1) := by decide +kernel
theorem d_109_516 : decode (g_m 109).2.1 516 = .ok (.iconst 1, 1) := by decide +kernel
theorem d_109_517 : decode (g_m 109).2.1 517 = .ok (.iadd, 1) := by decide +kernel
theorem d_109_518 : decode (g_m 109).2.1 518 = .ok (.iaload, 1) := by decide +kernel
theorem d_109_519 : decode (g_m 109).2.1 519 = .ok (.aload_n 0, 1) := by decide +kernel
theorem d_109_520 : decode (g_m 109).2.1 520 = .ok (.iload_n 3, 1) := by decide +kernel
theorem d_109_521 : decode (g_m 109).2.1 521 = .ok (.iconst 2, 1) := by decide +kernel
theorem d_109_522 : decode (g_m 109).2.1 522 = .ok (.iadd, 1) := by decide +kernel
theorem d_109_523 : decode (g_m 109).2.1 523 = .ok (.iaload, 1) := by decide +kernel
theorem d_109_524 : decode (g_m 109).2.1 524 = .ok (.invokevirtual 78, 3) := by decide +kernel
theorem d_109_527 : decode (g_m 109).2.1 527 = .ok (.aload_n 2, 1) := by decide +kernel
theorem d_109_528 : decode (g_m 109).2.1 528 = .ok (.aload_n 0, 1) := by decide +kernel
theorem d_109_529 : decode (g_m 109).2.1 529 = .ok (.iload_n 3, 1) := by decide +kernel
theorem d_109_530 : decode (g_m 109).2.1 530 = .ok (.iconst 1, 1) := by decide +kernel
theorem d_109_531 : decode (g_m 109).2.1 531 = .ok (.iadd, 1) := by decide +kernel
theorem d_109_532 : decode (g_m 109).2.1 532 = .ok (.iaload, 1) := by decide +kernel
theorem d_109_533 : decode (g_m 109).2.1 533 = .ok (.aload_n 0, 1) := by decide +kernel
theorem d_109_534 : decode (g_m 109).2.1 534 = .ok (.iload_n 3, 1) := by decide +kernel
theorem d_109_535 : decode (g_m 109).2.1 535 = .ok (.iconst 2, 1) := by decide +kernel
theorem d_109_536 : decode (g_m 109).2.1 536 = .ok (.iadd, 1) := by decide +kernel
theorem d_109_537 : decode (g_m 109).2.1 537 = .ok (.iaload, 1) := by decide +kernel
theorem d_109_538 : decode (g_m 109).2.1 538 = .ok (.invokevirtual 81, 3) := by decide +kernel
theorem d_109_541 : decode (g_m 109).2.1 541 = .ok (.if_icmp .eq (133), 3) := by decide +kernel
theorem d_109_544 : decode (g_m 109).2.1 544 = .ok (.iconst 0, 1) := by decide +kernel
theorem d_109_545 : decode (g_m 109).2.1 545 = .ok (.ireturn, 1) := by decide +kernel
theorem d_109_546 : decode (g_m 109).2.1 546 = .ok (.aload_n 1, 1) := by decide +kernel
theorem d_109_547 : decode (g_m 109).2.1 547 = .ok (.invokevirtual 82, 3) := by decide +kernel
theorem d_109_550 : decode (g_m 109).2.1 550 = .ok (.aload_n 2, 1) := by decide +kernel
theorem d_109_551 : decode (g_m 109).2.1 551 = .ok (.invokevirtual 85, 3) := by decide +kernel
theorem d_109_554 : decode (g_m 109).2.1 554 = .ok (.if_icmp .eq (120), 3) := by decide +kernel
theorem d_109_557 : decode (g_m 109).2.1 557 = .ok (.iconst 0, 1) := by decide +kernel
theorem d_109_558 : decode (g_m 109).2.1 558 = .ok (.ireturn, 1) := by decide +kernel
theorem d_109_559 : decode (g_m 109).2.1 559 = .ok (.aload_n 1, 1) := by decide +kernel
theorem d_109_560 : decode (g_m 109).2.1 560 = .ok (.aload_n 0, 1) := by decide +kernel
theorem d_109_561 : decode (g_m 109).2.1 561 = .ok (.iload_n 3, 1) := by decide +kernel
theorem d_109_562 : decode (g_m 109).2.1 562 = .ok (.iconst 1, 1) := by decide +kernel
theorem d_109_563 : decode (g_m 109).2.1 563 = .ok (.iadd, 1) := by decide +kernel
theorem d_109_564 : decode (g_m 109).2.1 564 = .ok (.iaload, 1) := by decide +kernel
theorem d_109_565 : decode (g_m 109).2.1 565 = .ok (.invokevirtual 86, 3) := by decide +kernel
theorem d_109_568 : decode (g_m 109).2.1 568 = .ok (.aload_n 2, 1) := by decide +kernel
theorem d_109_569 : decode (g_m 109).2.1 569 = .ok (.aload_n 0, 1) := by decide +kernel
theorem d_109_570 : decode (g_m 109).2.1 570 = .ok (.iload_n 3, 1) := by decide +kernel
theorem d_109_571 : decode (g_m 109).2.1 571 = .ok (.iconst 1, 1) := by decide +kernel
theorem d_109_572 : decode (g_m 109).2.1 572 = .ok (.iadd, 1) := by decide +kernel
theorem d_109_573 : decode (g_m 109).2.1 573 = .ok (.iaload, 1) := by decide +kernel
theorem d_109_574 : decode (g_m 109).2.1 574 = .ok (.invokevirtual 89, 3) := by decide +kernel
theorem d_109_577 : decode (g_m 109).2.1 577 = .ok (.if_icmp .eq (97), 3) := by decide +kernel
theorem d_109_580 : decode (g_m 109).2.1 580 = .ok (.iconst 0, 1) := by decide +kernel
theorem d_109_581 : decode (g_m 109).2.1 581 = .ok (.ireturn, 1) := by decide +kernel
theorem d_109_582 : decode (g_m 109).2.1 582 = .ok (.aload_n 1, 1) := by decide +kernel
theorem d_109_583 : decode (g_m 109).2.1 583 = .ok (.invokevirtual 90, 3) := by decide +kernel
theorem d_109_586 : decode (g_m 109).2.1 586 = .ok (.aload_n 2, 1) := by decide +kernel
theorem d_109_587 : decode (g_m 109).2.1 587 = .ok (.invokevirtual 93, 3) := by decide +kernel
theorem d_109_590 : decode (g_m 109).2.1 590 = .ok (.if_icmp .eq (84), 3) := by decide +kernel
theorem d_109_593 : decode (g_m 109).2.1 593 = .ok (.iconst 0, 1) := by decide +kernel
theorem d_109_594 : decode (g_m 109).2.1 594 = .ok (.ireturn, 1) := by decide +kernel
theorem d_109_595 : decode (g_m 109).2.1 595 = .ok (.aload_n 1, 1) := by decide +kernel
theorem d_109_596 : decode (g_m 109).2.1 596 = .ok (.aload_n 0, 1) := by decide +kernel
theorem d_109_597 : decode (g_m 109).2.1 597 = .ok (.iload_n 3, 1) := by decide +kernel
theorem d_109_598 : decode (g_m 109).2.1 598 = .ok (.iconst 1, 1) := by decide +kernel
theorem d_109_599 : decode (g_m 109).2.1 599 = .ok (.iadd, 1) := by decide +kernel
theorem d_109_600 : decode (g_m 109).2.1 600 = .ok (.iaload, 1) := by decide +kernel
theorem d_109_601 : decode (g_m 109).2.1 601 = .ok (.aload_n 0, 1) := by decide +kernel
theorem d_109_602 : decode (g_m 109).2.1 602 = .ok (.iload_n 3, 1) := by decide +kernel
theorem d_109_603 : decode (g_m 109).2.1 603 = .ok (.iconst 2, 1) := by decide +kernel
theorem d_109_604 : decode (g_m 109).2.1 604 = .ok (.iadd, 1) := by decide +kernel
theorem d_109_605 : decode (g_m 109).2.1 605 = .ok (.iaload, 1) := by decide +kernel
theorem d_109_606 : decode (g_m 109).2.1 606 = .ok (.aload_n 0, 1) := by decide +kernel
theorem d_109_607 : decode (g_m 109).2.1 607 = .ok (.iload_n 3, 1) := by decide +kernel
theorem d_109_608 : decode (g_m 109).2.1 608 = .ok (.iconst 3, 1) := by decide +kernel
theorem d_109_609 : decode (g_m 109).2.1 609 = .ok (.iadd, 1) := by decide +kernel
theorem d_109_610 : decode (g_m 109).2.1 610 = .ok (.iaload, 1) := by decide +kernel
theorem d_109_611 : decode (g_m 109).2.1 611 = .ok (.invokevirtual 94, 3) := by decide +kernel
theorem d_109_614 : decode (g_m 109).2.1 614 = .ok (.aload_n 2, 1) := by decide +kernel
theorem d_109_615 : decode (g_m 109).2.1 615 = .ok (.aload_n 0, 1) := by decide +kernel
theorem d_109_616 : decode (g_m 109).2.1 616 = .ok (.iload_n 3, 1) := by decide +kernel
theorem d_109_617 : decode (g_m 109).2.1 617 = .ok (.iconst 1, 1) := by decide +kernel
theorem d_109_618 : decode (g_m 109).2.1 618 = .ok (.iadd, 1) := by decide +kernel
theorem d_109_619 : decode (g_m 109).2.1 619 = .ok (.iaload, 1) := by decide +kernel
theorem d_109_620 : decode (g_m 109).2.1 620 = .ok (.aload_n 0, 1) := by decide +kernel
theorem d_109_621 : decode (g_m 109).2.1 621 = .ok (.iload_n 3, 1) := by decide +kernel
theorem d_109_622 : decode (g_m 109).2.1 622 = .ok (.iconst 2, 1) := by decide +kernel
theorem d_109_623 : decode (g_m 109).2.1 623 = .ok (.iadd, 1) := by decide +kernel
theorem d_109_624 : decode (g_m 109).2.1 624 = .ok (.iaload, 1) := by decide +kernel
theorem d_109_625 : decode (g_m 109).2.1 625 = .ok (.aload_n 0, 1) := by decide +kernel
theorem d_109_626 : decode (g_m 109).2.1 626 = .ok (.iload_n 3, 1) := by decide +kernel
theorem d_109_627 : decode (g_m 109).2.1 627 = .ok (.iconst 3, 1) := by decide +kernel
theorem d_109_628 : decode (g_m 109).2.1 628 = .ok (.iadd, 1) := by decide +kernel
theorem d_109_629 : decode (g_m 109).2.1 629 = .ok (.iaload, 1) := by decide +kernel
theorem d_109_630 : decode (g_m 109).2.1 630 = .ok (.invokevirtual 97, 3) := by decide +kernel
theorem d_109_633 : decode (g_m 109).2.1 633 = .ok (.if_icmp .eq (41), 3) := by decide +kernel
theorem d_109_636 : decode (g_m 109).2.1 636 = .ok (.iconst 0, 1) := by decide +kernel
theorem d_109_637 : decode (g_m 109).2.1 637 = .ok (.ireturn, 1) := by decide +kernel
theorem d_109_638 : decode (g_m 109).2.1 638 = .ok (.aload_n 1, 1) := by decide +kernel
theorem d_109_639 : decode (g_m 109).2.1 639 = .ok (.invokevirtual 98, 3) := by decide +kernel
theorem d_109_642 : decode (g_m 109).2.1 642 = .ok (.aload_n 2, 1) := by decide +kernel
theorem d_109_643 : decode (g_m 109).2.1 643 = .ok (.invokevirtual 101, 3) := by decide +kernel
theorem d_109_646 : decode (g_m 109).2.1 646 = .ok (.if_icmp .eq (28), 3) := by decide +kernel
theorem d_109_649 : decode (g_m 109).2.1 649 = .ok (.iconst 0, 1) := by decide +kernel
theorem d_109_650 : decode (g_m 109).2.1 650 = .ok (.ireturn, 1) := by decide +kernel
theorem d_109_651 : decode (g_m 109).2.1 651 = .ok (.aload_n 1, 1) := by decide +kernel
theorem d_109_652 : decode (g_m 109).2.1 652 = .ok (.aload_n 0, 1) := by decide +kernel
theorem d_109_653 : decode (g_m 109).2.1 653 = .ok (.iload_n 3, 1) := by decide +kernel
theorem d_109_654 : decode (g_m 109).2.1 654 = .ok (.iconst 1, 1) := by decide +kernel
theorem d_109_655 : decode (g_m 109).2.1 655 = .ok (.iadd, 1) := by decide +kernel
theorem d_109_656 : decode (g_m 109).2.1 656 = .ok (.iaload, 1) := by decide +kernel
theorem d_109_657 : decode (g_m 109).2.1 657 = .ok (.invokevirtual 102, 3) := by decide +kernel
theorem d_109_660 : decode (g_m 109).2.1 660 = .ok (.aload_n 2, 1) := by decide +kernel
theorem d_109_661 : decode (g_m 109).2.1 661 = .ok (.aload_n 0, 1) := by decide +kernel
theorem d_109_662 : decode (g_m 109).2.1 662 = .ok (.iload_n 3, 1) := by decide +kernel
theorem d_109_663 : decode (g_m 109).2.1 663 = .ok (.iconst 1, 1) := by decide +kernel
theorem d_109_664 : decode (g_m 109).2.1 664 = .ok (.iadd, 1) := by decide +kernel
theorem d_109_665 : decode (g_m 109).2.1 665 = .ok (.iaload, 1) := by decide +kernel
theorem d_109_666 : decode (g_m 109).2.1 666 = .ok (.invokevirtual 105, 3) := by decide +kernel
theorem d_109_669 : decode (g_m 109).2.1 669 = .ok (.if_icmp .eq (5), 3) := by decide +kernel
theorem d_109_672 : decode (g_m 109).2.1 672 = .ok (.iconst 0, 1) := by decide +kernel
theorem d_109_673 : decode (g_m 109).2.1 673 = .ok (.ireturn, 1) := by decide +kernel
theorem d_109_674 : decode (g_m 109).2.1 674 = .ok (.iinc 3 4, 3) := by decide +kernel
theorem d_109_677 : decode (g_m 109).2.1 677 = .ok (.goto (-639), 3) := by decide +kernel
theorem d_109_680 : decode (g_m 109).2.1 680 = .ok (.iconst 1, 1) := by decide +kernel
theorem d_109_681 : decode (g_m 109).2.1 681 = .ok (.ireturn, 1) := by decide +kernel
end
section
/-! THE SMALL MACHINE. Cells have numbers; a cell is an array of ints (false) or booleans (true) with its length and contents, or an object: its class's number and its fields. A reference is a cell's number; retAddr 0 stands for the script. -/
abbrev ax_C : Type := (Bool × Nat × (Nat → Int32)) ⊕ (Nat × List Value)
/-- the heap: cells, how many there are, how many cells and slots may still be made -/
abbrev ax_H : Type := (Nat → ax_C) × Nat × Nat × Nat
abbrev ax_K : Type := Option Value → ax_H → Prop
abbrev ax_J : Type := Nat → Nat → List (Option Value) → List Value → ax_H → ax_K → Prop
abbrev ax_S : Type := Nat × (Nat → Int32)
def ax_v (b : Nat) (ad : Nat → Nat) : Value → Value
  | .ref i => .ref (ad i)
  | .retAddr _ => .ref b
  | .int x => .int x
  | .long x => .long x
  | .float x => .float x
  | .double x => .double x
  | .null => .null
def ax_e (b : Nat) (cI cZ : ClassId) (ad : Nat → Nat) : ax_C → va_E
  | .inl a => .inl (if a.1 then cZ else cI, a.2.1, .inl a.2.2)
  | .inr o => .inr (o.1, o.2.map (ax_v b ad))
def ax_w (b : Nat) (cI cZ : ClassId) (ad : Nat → Nat) (σ : Nat → ax_C) (n : Nat) : va_W := (List.range n).map fun i => (ad i, ax_e b cI cZ ad (σ i))
def ax_ok (n : Nat) (v : Value) : Prop := ∀ i, v = .ref i → i < n
def ax_okC (n : Nat) (x : ax_C) : Prop := ∀ o, x = .inr o → ∀ v ∈ o.2, ax_ok n v
def ax_pr (b : Nat) (ad : Nat → Nat) (ls : List (Option Value)) : List (Nat × Value) := (List.range ls.length).filterMap fun i => (ls[i]?.join).map fun v => (i, ax_v b ad v)
def ax_ps (v : Option Value) (st : List Value) : List Value := match v with
  | none => st
  | some x => x :: st
theorem ax_cat1 {b : Nat} {ad : Nat → Nat} {v : Value} (h : v.category = 1) : (ax_v b ad v).category = 1 := by cases v <;> first | rfl | exact h
theorem ax_cat0 {b : Nat} {ad : Nat → Nat} {v : Value} : (ax_v b ad v).category = v.category := by cases v <;> rfl
theorem ax_oi {n : Nat} {z : Int32} {st : List Value} (h : ∀ v ∈ st, ax_ok n v) : ∀ v ∈ (Value.int z :: st), ax_ok n v := by
  intro v hv i e
  rcases List.mem_cons.mp hv with rfl | hv
  · cases e
  · exact h v hv i e
theorem ax_on {n : Nat} {st : List Value} (h : ∀ v ∈ st, ax_ok n v) : ∀ v ∈ (Value.null :: st), ax_ok n v := by
  intro v hv i e
  rcases List.mem_cons.mp hv with rfl | hv
  · cases e
  · exact h v hv i e
theorem ax_oc {n : Nat} {x : Value} {st : List Value} (hx : ax_ok n x) (h : ∀ v ∈ st, ax_ok n v) : ∀ v ∈ (x :: st), ax_ok n v := by
  intro v hv
  rcases List.mem_cons.mp hv with rfl | hv
  · exact hx
  · exact h v hv
theorem ax_ot {n : Nat} {x : Value} {st : List Value} (h : ∀ v ∈ (x :: st), ax_ok n v) : ∀ v ∈ st, ax_ok n v := fun v hv => h v (List.mem_cons_of_mem _ hv)
theorem ax_oh {n : Nat} {x : Value} {st : List Value} (h : ∀ v ∈ (x :: st), ax_ok n v) : ax_ok n x := h x List.mem_cons_self
theorem ax_pr_mem {b : Nat} {ad : Nat → Nat} {ls : List (Option Value)} {q : Nat × Value} : q ∈ ax_pr b ad ls ↔ ∃ v, ls[q.1]? = some (some v) ∧ q.2 = ax_v b ad v := by
  unfold ax_pr
  rw [List.mem_filterMap]
  constructor
  · rintro ⟨i, hi, h⟩
    cases hj : ls[i]? with
    | none =>
      rw [hj] at h
      have h' : (none : Option (Nat × Value)) = some q := h
      cases h'
    | some o =>
      cases o with
      | none =>
        rw [hj] at h
        have h' : (none : Option (Nat × Value)) = some q := h
        cases h'
      | some v =>
        rw [hj] at h
        have h' : some (i, ax_v b ad v) = some q := h
        cases h'
        exact ⟨v, hj, rfl⟩
  · rintro ⟨v, h1, h2⟩
    refine ⟨q.1, List.mem_range.mpr (List.getElem?_eq_some_iff.mp h1).1, ?_⟩
    rw [h1]
    obtain ⟨q1, q2⟩ := q
    subst h2
    rfl
theorem ax_w_len {b : Nat} {cI cZ : ClassId} {ad : Nat → Nat} {σ : Nat → ax_C} {n : Nat} : (ax_w b cI cZ ad σ n).length = n := by simp [ax_w]
theorem ax_w_get {b : Nat} {cI cZ : ClassId} {ad : Nat → Nat} {σ : Nat → ax_C} {n i : Nat} (h : i < n) : (ax_w b cI cZ ad σ n)[i]? = some (ad i, ax_e b cI cZ ad (σ i)) := by
  unfold ax_w
  rw [List.getElem?_map, List.getElem?_range h]
  rfl
theorem ax_w_inv {b : Nat} {cI cZ : ClassId} {ad : Nat → Nat} {σ : Nat → ax_C} {n i : Nat} {q : Nat × va_E} (h : (ax_w b cI cZ ad σ n)[i]? = some q) : i < n ∧ q = (ad i, ax_e b cI cZ ad (σ i)) := by
  have hi : i < n := by
    have := (List.getElem?_eq_some_iff.mp h).1
    rwa [ax_w_len] at this
  rw [ax_w_get hi] at h
  exact ⟨hi, (Option.some.inj h).symm⟩
theorem ax_w_set {b : Nat} {cI cZ : ClassId} {ad : Nat → Nat} {σ : Nat → ax_C} {n i : Nat} {x : ax_C} {e : va_E} (he : ax_e b cI cZ ad x = e) : (ax_w b cI cZ ad σ n).set i (ad i, e) = ax_w b cI cZ ad (va_up σ i x) n := by
  subst he
  apply List.ext_getElem?
  intro j
  by_cases hj : j < n
  · rw [ax_w_get hj, List.getElem?_set]
    by_cases hij : i = j
    · subst hij
      rw [if_pos rfl, if_pos (by rw [ax_w_len]; exact hj)]
      simp [va_up]
    · rw [if_neg hij, ax_w_get hj]
      simp [va_up, Ne.symm hij]
  · rw [List.getElem?_eq_none (by rw [List.length_set, ax_w_len]; omega), List.getElem?_eq_none (by rw [ax_w_len]; omega)]
theorem ax_v_ag {b n : Nat} {ad ad' : Nat → Nat} (ha : ∀ i, i < n → ad' i = ad i) {v : Value} (h : ax_ok n v) : ax_v b ad' v = ax_v b ad v := by
  cases v with
  | ref i =>
    have := h i rfl
    show Value.ref _ = Value.ref _
    rw [ha i this]
  | _ => rfl
theorem ax_e_ag {b : Nat} {cI cZ : ClassId} {n : Nat} {ad ad' : Nat → Nat} (ha : ∀ i, i < n → ad' i = ad i) {x : ax_C} (h : ax_okC n x) : ax_e b cI cZ ad' x = ax_e b cI cZ ad x := by
  cases x with
  | inl a => rfl
  | inr o =>
    show Sum.inr (o.1, o.2.map (ax_v b ad')) = Sum.inr (o.1, o.2.map (ax_v b ad))
    rw [List.map_congr_left (fun v hv => ax_v_ag ha (h o rfl v hv))]
theorem ax_st_ag {b n : Nat} {ad ad' : Nat → Nat} (ha : ∀ i, i < n → ad' i = ad i) {st : List Value} (h : ∀ v ∈ st, ax_ok n v) : st.map (ax_v b ad') = st.map (ax_v b ad) := List.map_congr_left (fun v hv => ax_v_ag ha (h v hv))
theorem ax_pr_ag {b n : Nat} {ad ad' : Nat → Nat} (ha : ∀ i, i < n → ad' i = ad i) {ls : List (Option Value)} (h : ∀ v, some v ∈ ls → v.category = 1 ∧ ax_ok n v) : ax_pr b ad' ls = ax_pr b ad ls := by
  unfold ax_pr
  congr 1
  funext i
  cases hj : ls[i]? with
  | none => rfl
  | some o =>
    cases o with
    | none => rfl
    | some v =>
      show some (i, ax_v b ad' v) = some (i, ax_v b ad v)
      rw [ax_v_ag ha (h v (List.mem_of_getElem? hj)).2]
theorem ax_ag_up {n q : Nat} {ad : Nat → Nat} : ∀ i, i < n → va_up ad n q i = ad i := fun i hi => if_neg (by omega)
theorem ax_w_push {b : Nat} {cI cZ : ClassId} {ad : Nat → Nat} {σ : Nat → ax_C} {n q : Nat} {x : ax_C} {e : va_E} (hc : ∀ i, i < n → ax_okC n (σ i)) (he : ax_e b cI cZ (va_up ad n q) x = e) : ax_w b cI cZ ad σ n ++ [(q, e)] = ax_w b cI cZ (va_up ad n q) (va_up σ n x) (n + 1) := by
  subst he
  unfold ax_w
  rw [List.range_succ, List.map_append]
  congr 1
  · apply List.map_congr_left
    intro i hi
    have hi := List.mem_range.mp hi
    have hσ : va_up σ n x i = σ i := if_neg (by omega)
    rw [ax_ag_up i hi, hσ, ax_e_ag ax_ag_up (hc i hi)]
  · simp [va_up]
theorem ax_okC_mono {n n' : Nat} (h : n ≤ n') {x : ax_C} (hx : ax_okC n x) : ax_okC n' x := fun o e v hv i ei => Nat.lt_of_lt_of_le (hx o e v hv i ei) h
theorem ax_ok_mono {n n' : Nat} (h : n ≤ n') {x : Value} (hx : ax_ok n x) : ax_ok n' x := fun i ei => Nat.lt_of_lt_of_le (hx i ei) h
theorem ax_okC_up {n : Nat} {σ : Nat → ax_C} {i : Nat} {x : ax_C} (h : ∀ j, j < n → ax_okC n (σ j)) (hx : ax_okC n x) : ∀ j, j < n → ax_okC n (va_up σ i x j) := by
  intro j hj
  by_cases e : j = i
  · rw [show va_up σ i x j = x from if_pos e]; exact hx
  · rw [show va_up σ i x j = σ j from if_neg e]; exact h j hj
theorem ax_okC_arr {n : Nat} {a : Bool × Nat × (Nat → Int32)} : ax_okC n (.inl a) := fun o e => by cases e
theorem ax_fits {b : Nat} {ad : Nat → Nat} {ty : FieldType} {v : Value} (h : fits ty v = true) : fits ty (ax_v b ad v) = true := by
  cases v <;> first | exact h | (cases ty <;> first | exact h | exact absurd h (by simp [fits]))
theorem ax_narrow {b : Nat} {ad : Nat → Nat} {ty : FieldType} {v : Value} (h : narrow ty v = v) : narrow ty (ax_v b ad v) = ax_v b ad v := by
  cases v <;> first | exact h | (cases ty <;> rfl)
/-- the words of a field: class number ci, field j, seen from class own at index idx -/
def ax_fld (own : String) (idx ci j : Nat) : Prop := ∃ (C : String) (T : u_T) (N : Nat), classes[ci]? = some (C, T, N) ∧ j < N ∧ (Cond.fieldLink own idx (T j).1 (T j).2.1 (T j).2.2.1) ∈ gw ∧ (∀ w ∈ u_ws C T N, w ∈ gw)
/-- the same for a field that may be written: of type ty, final or not -/
def ax_fldW (own : String) (idx ci j : Nat) (ty : FieldType) (fin : Bool) : Prop := ∃ (C : String) (T : u_T) (N : Nat) (ty0 : Nat → FieldType), classes[ci]? = some (C, T, N) ∧ j < N ∧ (Cond.fieldLink own idx (T j).1 (T j).2.1 (T j).2.2.1) ∈ gw ∧ (∀ w ∈ u_ws C T N, w ∈ gw) ∧ (∀ k, k < N → parseFieldDescriptor (T k).2.2.1 = some (ty0 k)) ∧ (∀ a, a < N → ∀ b, b < N → a ≠ b → (T a).2.1 ≠ (T b).2.1) ∧ ty0 j = ty ∧ (T j).2.2.2 = fin ∧ (fin = true → (T j).1 = own)
/-- the words of a class of which an object is made: number ci, N slots, the fields' first values -/
def ax_cls (own : String) (idx ci N : Nat) (fs : List Value) : Prop := ∃ (C : String) (T : u_T) (ty : Nat → FieldType), classes[ci]? = some (C, T, N) ∧ (∀ w ∈ u_ws C T N, w ∈ gw) ∧ (∀ j, j < N → parseFieldDescriptor (T j).2.2.1 = some (ty j)) ∧ (Cond.classLink own idx C) ∈ gw ∧ (Cond.instantiable C N) ∈ gw ∧ (Cond.initialized C) ∈ gw ∧ (∀ j, j < N → defaultValue (ty j) = vp_V fs j) ∧ (∀ v ∈ fs, v = .null ∨ v = .int 0)
/-- the words of a method that is called, with na arguments beside its object -/
def ax_mok (z na : Nat) : Prop := (Cond.code (g_m z).1 (g_m z).2.1 (g_m z).2.2.1 (g_m z).2.2.2) ∈ gw ∧ (Cond.initialized (g_m z).1.cls) ∈ gw ∧ ((g_m z).1.cls ≠ "java/lang/invoke/MethodHandle" ∧ (g_m z).1.cls ≠ "java/lang/invoke/VarHandle" ∧ (parseMethodDescriptor (g_m z).1.desc).map (fun d => d.parameters.length) = some na) ∧ plainName (g_m z).1.cls = true
def ax_lV (own : String) (idx z ci : Nat) : Prop := (Cond.methodLink own idx (g_m z).1) ∈ gw ∧ (Cond.instanceMethod (g_m z).1) ∈ gw ∧ (Cond.selects (g_m z).1.cls (g_m z).1 (g_m z).1) ∈ gw ∧ (classes[ci]?).map (fun q => q.1) = some (g_m z).1.cls
def ax_lS (own : String) (idx z : Nat) : Prop := (Cond.methodLink own idx (g_m z).1) ∈ gw ∧ (Cond.static (g_m z).1) ∈ gw
def ax_lI (own : String) (idx z : Nat) : Prop := (Cond.methodLink own idx (g_m z).1) ∈ gw ∧ (Cond.instanceMethod (g_m z).1) ∈ gw ∧ (g_m z).1.name = "<init>"
def ax_up (z k : Nat) : Prop := g_fr z + 1 ≤ g_fr k ∧ 8 + ((g_m z).2.2.1 + 11) + g_lo z ≤ g_lo k
def ax_en (z : Nat) (vs : List Value) : List (Option Value) := vs.map some ++ List.replicate ((g_m z).2.2.1 - vs.length) none
/-- what the last instruction must be -/
def ax_rk (k pc : Nat) (v : Option Value) : Prop := match v with
  | none => decode (g_m k).2.1 pc = .ok (.return_, 1) ∧ (g_m k).2.2.2 = none
  | some (.int x) => decode (g_m k).2.1 pc = .ok (.ireturn, 1) ∧ ∃ ty, (g_m k).2.2.2 = some ty ∧ narrow ty (.int x) = .int x
  | some _ => False
/-- what stays through a method: machine, code, words, tables, room, script -/
def ax_At (sc : ax_S) (k : Nat) (p : Program) (R : Room) (s : State) (m : MethodId) (args : Array Value) (meth : Method) (c : Code) (D : va_G) (cI cZ : ClassId) (b : Nat) (A : Nat → Prop) : Prop :=
  p.tables.exec = Jvm.exec ∧ c.code = (g_m k).2.1 ∧ c.maxLocals = (g_m k).2.2.1 ∧ s.vm.findClass (g_m k).1.cls = some m.cls ∧ (∀ w ∈ gw, w.before args s = true) ∧ va_K D classes [(cI, .int), (cZ, .boolean)] s ∧ (∀ q : Nat, s.heap.size ≤ q → A q) ∧ (g_fr k ≤ R.frames ∧ g_lo k ≤ R.locals) ∧ meth.name = (g_m k).1.name ∧ va_X b sc.1 sc.2 s s.heap ∧ b < s.heap.size ∧ ¬ A b
def ax_Wd (D : va_G) (cI cZ : ClassId) (b : Nat) (A : Nat → Prop) (ad : Nat → Nat) (h : ax_H) (H0 H : Heap) (locs : List Loc) : Prop :=
  va_P D classes (ax_w b cI cZ ad h.1 h.2.1) H ∧ va_D A (ax_w b cI cZ ad h.1 h.2.1) ∧ va_S A H0 H locs ∧ ∀ i, i < h.2.1 → ax_okC h.2.1 (h.1 i)
def ax_Fm (k b : Nat) (ad : Nat → Nat) (n : Nat) (ls' : Array Slot) (ls : List (Option Value)) (st : List Value) : Prop :=
  lv_has ls' ls.length (ax_pr b ad ls) ∧ (∀ v, some v ∈ ls → v.category = 1 ∧ ax_ok n v) ∧ (∀ v ∈ st, ax_ok n v) ∧ ls.length = (g_m k).2.2.1
def ax_Bd (R : Room) (h : ax_H) (cells slots : Nat) : Prop := cells + h.2.2.1 ≤ R.cells ∧ slots + h.2.2.2 ≤ R.slots
def ax_Ret (k : Nat) (p : Program) (l : Launch) (e : Env) (R : Room) (s : State) (m : MethodId) (args : Array Value) (below : List Frame) (meth : Method) (c : Code) (D : va_G) (cI cZ : ClassId) (b : Nat) (A : Nat → Prop) (n : Nat) (ad : Nat → Nat) (Q : State → Prop) (K : ax_K) : Prop :=
  ∀ (v : Option Value) (h2 : ax_H) (ad2 : Nat → Nat) (H2 : Heap) (locs2 : List Loc) (c2 s2 pc2 : Nat) (ls2 : Array Slot), K v h2 → (∀ i, i < n → ad2 i = ad i) → n ≤ h2.2.1 → ax_rk k pc2 v → ax_Wd D cI cZ b A ad2 h2 s.heap H2 locs2 → c2 ≤ R.cells → s2 ≤ R.slots → W p l e R s m args below meth c H2 locs2 c2 s2 Q (F0 m pc2 ls2 (v.toList.map (ax_v b ad2)))
/-- a run of the small machine is a walk of the real one -/
def ax_PW (l : Launch) (sc : ax_S) : ax_J := fun k pc ls st h K =>
  ∀ (p : Program) (e : Env) (R : Room) (s : State) (m : MethodId) (args : Array Value) (below : List Frame) (meth : Method) (c : Code) (D : va_G) (cI cZ : ClassId) (b : Nat) (A : Nat → Prop) (ad : Nat → Nat) (H : Heap) (locs : List Loc) (cells slots : Nat) (ls' : Array Slot) (Q : State → Prop),
    ax_At sc k p R s m args meth c D cI cZ b A → ax_Wd D cI cZ b A ad h s.heap H locs → ax_Fm k b ad h.2.1 ls' ls st → ax_Bd R h cells slots → ax_Ret k p l e R s m args below meth c D cI cZ b A h.2.1 ad Q K →
    W p l e R s m args below meth c H locs cells slots Q (F0 m pc ls' (st.map (ax_v b ad)))
theorem ax_tl {k b : Nat} {ad : Nat → Nat} {n : Nat} {ls' : Array Slot} {ls : List (Option Value)} {x : Value} {st : List Value} (h : ax_Fm k b ad n ls' ls (x :: st)) : ax_Fm k b ad n ls' ls st := ⟨h.1, h.2.1, ax_ot h.2.2.1, h.2.2.2⟩
theorem ax_store {k b : Nat} {ad : Nat → Nat} {n : Nat} {ls' ls2 : Array Slot} {ls : List (Option Value)} {x : Value} {st : List Value} {i : Nat} {lv : List (Nat × Value)} (h : ax_Fm k b ad n ls' ls st) (hi : i < ls.length) (h2 : lv_has ls2 ls.length lv) (hlv : lv = (i, ax_v b ad x) :: (ax_pr b ad ls).filter (fun q => !(q.1 == i) && !(q.1 + 1 == i && q.2.category == 2))) (hc : x.category = 1) (hx : ax_ok n x) : ax_Fm k b ad n ls2 (ls.set i (some x)) st := by
  refine ⟨⟨by rw [List.length_set]; exact h2.1, h2.2.1, fun q hq => ?_⟩, fun v hv => ?_, h.2.2.1, by rw [List.length_set]; exact h.2.2.2⟩
  · obtain ⟨v, h3, h4⟩ := ax_pr_mem.mp hq
    apply h2.2.2
    rw [hlv]
    rw [List.getElem?_set] at h3
    obtain ⟨q1, q2⟩ := q
    by_cases hq1 : i = q1
    · rw [if_pos hq1, if_pos hi] at h3
      cases h3
      subst hq1
      rw [show q2 = ax_v b ad x from h4]
      exact List.mem_cons_self
    · rw [if_neg hq1] at h3
      apply List.mem_cons_of_mem
      refine List.mem_filter.mpr ⟨ax_pr_mem.mpr ⟨v, h3, h4⟩, ?_⟩
      have hcat : (ax_v b ad v).category = 1 := ax_cat1 (h.2.1 v (List.mem_of_getElem? h3)).1
      have h5 : q2 = ax_v b ad v := h4
      have h6 : ¬ q1 = i := fun e => hq1 e.symm
      subst h5
      simp [hcat, h6]
  · rcases List.mem_or_eq_of_mem_set hv with hv | hv
    · exact h.2.1 v hv
    · cases hv
      exact ⟨hc, hx⟩
theorem ax_retup {k : Nat} {p : Program} {l : Launch} {e : Env} {R : Room} {s : State} {m : MethodId} {args : Array Value} {below : List Frame} {meth : Method} {c : Code} {D : va_G} {cI cZ : ClassId} {b : Nat} {A : Nat → Prop} {n n2 : Nat} {ad ad2 : Nat → Nat} {Q : State → Prop} {K : ax_K} (h : ax_Ret k p l e R s m args below meth c D cI cZ b A n ad Q K) (hn : n ≤ n2) (ha : ∀ i, i < n → ad2 i = ad i) : ax_Ret k p l e R s m args below meth c D cI cZ b A n2 ad2 Q K :=
  fun v h2 ad3 H2 locs2 c2 s2 pc2 ls2 hK hag hn2 => h v h2 ad3 H2 locs2 c2 s2 pc2 ls2 hK (fun i hi => (hag i (Nat.lt_of_lt_of_le hi hn)).trans (ha i hi)) (Nat.le_trans hn hn2)
set_option maxHeartbeats 1000000 in
theorem ax_made {l : Launch} {sc : ax_S} {k pcq : Nat} {ls : List (Option Value)} {st : List Value} {h : ax_H} {K : ax_K} {x : ax_C} {N : Nat} (P0 : ax_PW l sc k pcq ls (.ref h.2.1 :: st) (va_up h.1 h.2.1 x, h.2.1 + 1, h.2.2.1 - 1, h.2.2.2 - N) K)
    {p : Program} {e : Env} {R : Room} {s : State} {m : MethodId} {args : Array Value} {below : List Frame} {meth : Method} {c : Code} {D : va_G} {cI cZ : ClassId} {b : Nat} {A : Nat → Prop} {ad : Nat → Nat} {H : Heap} {locs : List Loc} {cells slots : Nat} {ls' : Array Slot} {Q : State → Prop}
    (hA : ax_At sc k p R s m args meth c D cI cZ b A) (hW : ax_Wd D cI cZ b A ad h s.heap H locs) (hF : ax_Fm k b ad h.2.1 ls' ls st) (hB : ax_Bd R h cells slots) (hR : ax_Ret k p l e R s m args below meth c D cI cZ b A h.2.1 ad Q K)
    {q : Nat} {H2 : Heap} {ee : va_E} (he : ax_e b cI cZ (va_up ad h.2.1 q) x = ee) (hP : va_P D classes (ax_w b cI cZ ad h.1 h.2.1 ++ [(q, ee)]) H2) (hD : va_D A (ax_w b cI cZ ad h.1 h.2.1 ++ [(q, ee)])) (hS : va_S A s.heap H2 locs) (hx : ax_okC h.2.1 x) (hb1 : 1 ≤ h.2.2.1) (hb2 : N ≤ h.2.2.2) :
    W p l e R s m args below meth c H2 locs (cells + 1) (slots + N) Q (F0 m pcq ls' (.ref q :: st.map (ax_v b ad))) := by
  rw [ax_w_push hW.2.2.2 he] at hP hD
  have hle : h.2.1 ≤ h.2.1 + 1 := Nat.le_succ _
  have hst : (Value.ref h.2.1 :: st).map (ax_v b (va_up ad h.2.1 q)) = .ref q :: st.map (ax_v b ad) := by
    show Value.ref (va_up ad h.2.1 q h.2.1) :: st.map (ax_v b (va_up ad h.2.1 q)) = _
    rw [ax_st_ag ax_ag_up hF.2.2.1, show va_up ad h.2.1 q h.2.1 = q from if_pos rfl]
  rw [← hst]
  refine P0 p e R s m args below meth c D cI cZ b A (va_up ad h.2.1 q) H2 locs (cells + 1) (slots + N) ls' Q hA ⟨hP, hD, hS, fun i hi => ?_⟩ ⟨?_, fun v hv => ⟨(hF.2.1 v hv).1, ax_ok_mono hle (hF.2.1 v hv).2⟩, fun v hv => ?_, hF.2.2.2⟩ ⟨?_, ?_⟩ (ax_retup hR hle ax_ag_up)
  · show ax_okC (h.2.1 + 1) (va_up h.1 h.2.1 x i)
    have hi2 : i < h.2.1 + 1 := hi
    by_cases e1 : i = h.2.1
    · rw [show va_up h.1 h.2.1 x i = x from if_pos e1]; exact ax_okC_mono hle hx
    · rw [show va_up h.1 h.2.1 x i = h.1 i from if_neg e1]; exact ax_okC_mono hle (hW.2.2.2 i (by omega))
  · rw [ax_pr_ag ax_ag_up hF.2.1]; exact hF.1
  · rcases List.mem_cons.mp hv with rfl | hv
    · intro i e1
      cases e1
      exact Nat.lt_succ_self _
    · exact ax_ok_mono hle (hF.2.2.1 v hv)
  · have := hB.1
    show cells + 1 + (h.2.2.1 - 1) ≤ R.cells
    omega
  · have := hB.2
    show slots + N + (h.2.2.2 - N) ≤ R.slots
    omega
theorem ax_args (b : Nat) (ad : Nat → Nat) : ∀ (vs : List Value) (j i : Nat) (v : Value), (∀ v ∈ vs, v.category = 1) → vs[i]? = some v → (j + i, ax_v b ad v) ∈ lv_args j (vs.map (ax_v b ad))
  | [], _, i, _, _, h => by simp at h
  | a :: vs, j, i, v, hc, h => by
    have ha : (ax_v b ad a).category = 1 := ax_cat1 (hc a List.mem_cons_self)
    show _ ∈ (j, ax_v b ad a) :: lv_args (if (ax_v b ad a).category = 2 then j + 2 else j + 1) (vs.map (ax_v b ad))
    rw [ha, if_neg (by decide)]
    cases i with
    | zero =>
      cases h
      exact List.mem_cons_self
    | succ i =>
      apply List.mem_cons_of_mem
      have := ax_args b ad vs (j + 1) i v (fun v hv => hc v (List.mem_cons_of_mem _ hv)) h
      rwa [show j + 1 + i = j + (i + 1) by omega] at this
theorem ax_sl (b : Nat) (ad : Nat → Nat) : ∀ (vs : List Value), (∀ v ∈ vs, v.category = 1) → (lg_sl (vs.map (ax_v b ad))).length = vs.length
  | [], _ => rfl
  | a :: vs, hc => by
    have ha : (ax_v b ad a).category = 1 := ax_cat1 (hc a List.mem_cons_self)
    have ih := ax_sl b ad vs (fun v hv => hc v (List.mem_cons_of_mem _ hv))
    unfold lg_sl at ih ⊢
    rw [List.map_cons, List.flatMap_cons, ha, if_neg (by decide), List.length_append, ih]
    simp
    omega
theorem ax_en_len {z : Nat} {vs : List Value} (h : vs.length ≤ (g_m z).2.2.1) : (ax_en z vs).length = (g_m z).2.2.1 := by
  unfold ax_en
  rw [List.length_append, List.length_map, List.length_replicate]
  omega
theorem ax_en_get {z i : Nat} {vs : List Value} {v : Value} (h : (ax_en z vs)[i]? = some (some v)) : vs[i]? = some v := by
  unfold ax_en at h
  by_cases hi : i < vs.length
  · rw [List.getElem?_append_left (by rw [List.length_map]; exact hi), List.getElem?_map] at h
    cases hv : vs[i]? with
    | none => rw [hv] at h; cases h
    | some x => rw [hv] at h; cases h; rfl
  · rw [List.getElem?_append_right (by rw [List.length_map]; omega)] at h
    have := List.eq_of_mem_replicate (List.mem_of_getElem? h)
    cases this
theorem ax_en_mem {z : Nat} {vs : List Value} {v : Value} (h : some v ∈ ax_en z vs) : v ∈ vs := by
  obtain ⟨i, hi⟩ := List.getElem?_of_mem h
  exact List.mem_of_getElem? (ax_en_get hi)
/-- a callee's start and end -/
def ax_Pc (sc : ax_S) (D : va_G) (cI cZ : ClassId) (b : Nat) (ad : Nat → Nat) (σ : Nat → ax_C) (n : Nat) (vs : List Value) (sz : Nat) : Array Value → State → Prop := fun a U =>
  a = (vs.map (ax_v b ad)).toArray ∧ U.heap.size = sz ∧ va_P D classes (ax_w b cI cZ ad σ n) U.heap ∧ va_K D classes [(cI, .int), (cZ, .boolean)] U ∧ va_X b sc.1 sc.2 U U.heap
def ax_Qc (D : va_G) (cI cZ : ClassId) (b : Nat) (ad : Nat → Nat) (σ : Nat → ax_C) (n : Nat) (sz : Nat) (K : ax_K) : Array Value → State → Outcome → State → Prop := fun _ st oc t =>
  ∃ (v : Option Value) (h2 : ax_H) (ad2 : Nat → Nat), K v h2 ∧ (∀ i, i < n → ad2 i = ad i) ∧ n ≤ h2.2.1 ∧ oc = .returned (v.map (ax_v b ad2)) ∧ (∀ x, v = some x → ∃ y, x = .int y) ∧ va_P D classes (ax_w b cI cZ ad2 h2.1 h2.2.1) t.heap ∧ va_D (va_A (ax_w b cI cZ ad σ n) sz) (ax_w b cI cZ ad2 h2.1 h2.2.1) ∧ (∀ i, i < h2.2.1 → ax_okC h2.2.1 (h2.1 i)) ∧ va_F (va_A (ax_w b cI cZ ad σ n) sz) st t
def ax_rm (z mc ms : Nat) : Room := { frames := g_fr z, cells := mc, slots := ms, locals := g_lo z }
def ax_ws (z : Nat) : List Cond := Cond.code (g_m z).1 (g_m z).2.1 (g_m z).2.2.1 (g_m z).2.2.2 :: gw
set_option maxHeartbeats 2000000 in
theorem ax_met {l : Launch} {sc : ax_S} {z na : Nat} {vs : List Value} {σ : Nat → ax_C} {n mc ms : Nat} {K : ax_K} (P0 : ax_PW l sc z 0 (ax_en z vs) [] (σ, n, mc, ms) K) (hz : ax_mok z na) (hc : ∀ v ∈ vs, v.category = 1) (hl : vs.length ≤ (g_m z).2.2.1)
    {D : va_G} {cI cZ : ClassId} {b : Nat} {ad : Nat → Nat} {sz : Nat} (hn : ∀ v ∈ vs, ax_ok n v) (hσ : ∀ i, i < n → ax_okC n (σ i)) (hbl : b < sz) {A : Nat → Prop} (hD : va_D A (ax_w b cI cZ ad σ n)) (hbA : ¬ A b) :
    Met l (g_m z).1 (ax_ws z) (ax_rm z mc ms) (ax_Pc sc D cI cZ b ad σ n vs sz) (ax_Qc D cI cZ b ad σ n sz K) mc ms (va_A (ax_w b cI cZ ad σ n) sz) := by
  refine Met.ofW (cc := (g_m z).2.1) (maxL := (g_m z).2.2.1) (ret := (g_m z).2.2.2) hz.2.2.2 rfl ?_
  intro p e s m args below meth c s₁ B hml hv
  obtain ⟨rfl, hsz, hP, hK, hX⟩ := hv
  subst hsz
  have hts := atoms_spec (ws := ax_ws z) B.pre
  have hlocks := B.notSynchronized
  have hD2 : va_D (va_A (ax_w b cI cZ ad σ n) s.heap.size) (ax_w b cI cZ ad σ n) := hD.self
  have hbA2 : ¬ va_A (ax_w b cI cZ ad σ n) s.heap.size b := by
    intro h
    rcases h with ⟨k, e0, h⟩ | h
    · exact hbA (hD.2 k _ h)
    · omega
  have hent := lv_entry (vs.map (ax_v b ad)) (n := (g_m z).2.2.1) (by rw [ax_sl b ad vs hc]; exact hl)
  rw [lg_entry_eq]
  generalize (lg_sl (vs.map (ax_v b ad)) ++ List.replicate ((g_m z).2.2.1 - (lg_sl (vs.map (ax_v b ad))).length) Slot.unset).toArray = ls at hent ⊢
  refine P0 p e (headSpec (ax_ws z) (ax_rm z mc ms)).room s m _ below meth c D cI cZ b (va_A (ax_w b cI cZ ad σ n) s.heap.size) ad s.heap [] 0 0 ls _ ⟨B.exec, B.bytes, hml, findClass_of_methodNamed B.named, fun w hw => hts w (List.mem_cons_of_mem _ hw), hK, fun q h => Or.inr h, ⟨Nat.le_refl _, Nat.le_refl _⟩, (name_of_methodNamed B.named B.method).1, hX, hbl, hbA2⟩ ⟨hP, hD2, va_S.rf, hσ⟩ ⟨?_, fun v hv => ⟨hc v (ax_en_mem hv), hn v (ax_en_mem hv)⟩, fun v hv => (by cases hv), ax_en_len hl⟩ ⟨?_, ?_⟩ ?_
  · refine ⟨hent.1.trans (ax_en_len hl).symm, hent.2.1, fun q hq => ?_⟩
    obtain ⟨v, h1, h2⟩ := ax_pr_mem.mp hq
    apply hent.2.2
    obtain ⟨q1, q2⟩ := q
    have := ax_args b ad vs 0 q1 v hc (ax_en_get h1)
    rw [Nat.zero_add] at this
    rw [show q2 = ax_v b ad v from h2]
    exact this
  · show 0 + mc ≤ mc
    omega
  · show 0 + ms ≤ ms
    omega
  · intro v h2 ad2 H2 locs2 c2 s2 pc2 ls2 hKv hag hnn hrk hWd hc2 hs2
    refine W.widen (k := mc) (n := ms) hc2 hs2 ?_
    cases v with
    | none => exact W.vret B.exec B.bytes (B.returns.trans hrk.2) (fun t ht _ => ⟨none, h2, ad2, hKv, hag, hnn, rfl, fun x e => (by cases e), by rw [ht]; exact hWd.1, hWd.2.1, hWd.2.2.2, hWd.2.2.1.F ht⟩) hWd.2.2.1.2.2 hrk.1
    | some x =>
      cases x with
      | int y =>
        obtain ⟨h1, ty, h3, h4⟩ := hrk
        exact W.zret B.exec B.bytes (B.returns.trans h3) h4 (fun t ht _ => ⟨some (.int y), h2, ad2, hKv, hag, hnn, rfl, fun x e => ⟨y, (Option.some.inj e).symm⟩, by rw [ht]; exact hWd.1, hWd.2.1, hWd.2.2.2, hWd.2.2.1.F ht⟩) hWd.2.2.1.2.2 h1
      | _ => exact hrk.elim
theorem ax_good (z : Nat) (na : Nat) (hz : ax_mok z na) {args : Array Value} {s : State} (ht : ∀ w ∈ gw, w.before args s = true) : ∀ w ∈ ax_ws z, ∀ (a' : Array Value) (U : State), s.WarmedH U.vm → w.before a' U = true := by
  refine pay_in ht (fun w hw => ?_)
  rcases List.mem_cons.mp hw with rfl | hw
  · exact ⟨hz.1, gw_good _ hz.1⟩
  · exact ⟨hw, gw_good _ hw⟩
theorem ax_blind {sc : ax_S} {D : va_G} {cI cZ : ClassId} {b : Nat} {ad : Nat → Nat} {σ : Nat → ax_C} {n : Nat} {vs : List Value} {sz : Nat} : FrameBlind (ax_Pc sc D cI cZ b ad σ n vs sz) := by
  intro a U g mk q
  obtain ⟨q0, q1, qP, qK, qX⟩ := q
  exact ⟨q0, q1, qP, va_K.moved (u := U) (U := U.calling g mk a) (Vm.Alike.refl U.vm) qK, va_X.moved (u := U) (U := U.calling g mk a) (Vm.Alike.refl U.vm) qX⟩
theorem ax_pre {sc : ax_S} {k : Nat} {p : Program} {R : Room} {s : State} {m : MethodId} {args : Array Value} {meth : Method} {c : Code} {D : va_G} {cI cZ : ClassId} {b : Nat} {A : Nat → Prop} {ad : Nat → Nat} {h : ax_H} {H : Heap} {locs : List Loc} (vs : List Value) (hA : ax_At sc k p R s m args meth c D cI cZ b A) (hW : ax_Wd D cI cZ b A ad h s.heap H locs) : ∀ U : State, U.heap = H → s.WarmedH U.vm → ax_Pc sc D cI cZ b ad h.1 h.2.1 vs H.size (vs.map (ax_v b ad)).toArray U := by
  intro U hU hWm
  have hX := hA.2.2.2.2.2.2.2.2.2
  refine ⟨rfl, by rw [hU], by rw [hU]; exact hW.1, va_K.moved hWm.alike hA.2.2.2.2.2.1, ?_⟩
  rw [hU]
  exact va_X.moved hWm.alike (hX.1.kept (hW.2.2.1.2.1 b hX.2.1 hX.2.2))
set_option maxHeartbeats 2000000 in
/-- behind a call -/
theorem ax_back {l : Launch} {sc : ax_S} {k pc q : Nat} {ls : List (Option Value)} {st rest : List Value} {h : ax_H} {K : ax_K} {z : Nat} {vs : List Value} {mc ms : Nat}
    {p : Program} {e : Env} {R : Room} {s : State} {m : MethodId} {args : Array Value} {below : List Frame} {meth : Method} {c : Code} {D : va_G} {cI cZ : ClassId} {b : Nat} {A : Nat → Prop} {ad : Nat → Nat} {H : Heap} {locs : List Loc} {cells slots : Nat} {ls' : Array Slot} {Q : State → Prop} {st0 : List Value} {aa : Array Value}
    (hq : pc + 3 = q) (hmc : mc ≤ h.2.2.1) (hms : ms ≤ h.2.2.2)
    (hA : ax_At sc k p R s m args meth c D cI cZ b A) (hW : ax_Wd D cI cZ b A ad h s.heap H locs) (hF : ax_Fm k b ad h.2.1 ls' ls rest) (hB : ax_Bd R h cells slots) (hR : ax_Ret k p l e R s m args below meth c D cI cZ b A h.2.1 ad Q K)
    (hr : va_Run p l e R s m args below meth c H locs cells slots mc ms (F0 m pc ls' st0) (rest.map (ax_v b ad)) (ax_Qc D cI cZ b ad h.1 h.2.1 H.size (fun v h2 => ax_PW l sc k q ls (ax_ps v rest) (h2.1, h2.2.1, h.2.2.1 - mc, h.2.2.2 - ms) K) aa) (va_A (ax_w b cI cZ ad h.1 h.2.1) H.size)) :
    W p l e R s m args below meth c H locs cells slots Q (F0 m pc ls' st0) := by
  subst hq
  intro T hT X
  obtain ⟨v, st₀, t, T', L, h0, X', hL, e1, e2, hQ, stp⟩ := hr T hT X
  obtain ⟨v2, h2, ad2, hK2, hag, hnn, hv2, hint, hP2, hD2, hok2, hz, hk⟩ := hQ
  rw [h0] at hz hk
  have hfree : ∀ q, va_A (ax_w b cI cZ ad h.1 h.2.1) H.size q → A q := by
    intro q hq
    rcases hq with ⟨i, e0, hq⟩ | hq
    · exact hW.2.1.2 i _ hq
    · exact hA.2.2.2.2.2.2.1 q (Nat.le_trans hW.2.2.1.1 hq)
  have hS2 : va_S A s.heap T'.heap (locs ++ L) := by
    refine ⟨Nat.le_trans hW.2.2.1.1 (by rw [e1]; exact hz), fun q h1 h3 => ?_, fun q hq => ?_⟩
    · rw [e1, hk q (Nat.lt_of_lt_of_le h1 hW.2.2.1.1) (fun z => h3 (hfree q z))]
      exact hW.2.2.1.2.1 q h1 h3
    · rcases List.mem_append.mp hq with hq | hq
      · exact hW.2.2.1.2.2 q hq
      · exact hfree _ (hL q hq)
  have hveq : v = v2.map (ax_v b ad2) := by cases hv2; rfl
  have hstk : v.toList ++ rest.map (ax_v b ad) = (ax_ps v2 rest).map (ax_v b ad2) := by
    rw [hveq, ← ax_st_ag (b := b) hag hF.2.2.1]
    cases v2 <;> rfl
  have hps : ∀ w ∈ ax_ps v2 rest, ax_ok h2.2.1 w := by
    intro w hw
    cases v2 with
    | none => exact ax_ok_mono hnn (hF.2.2.1 w hw)
    | some x =>
      obtain ⟨y, rfl⟩ := hint x rfl
      exact ax_oi (fun w hw => ax_ok_mono hnn (hF.2.2.1 w hw)) w hw
  have K1 := hK2 p e R s m args below meth c D cI cZ b A ad2 T'.heap (locs ++ L) (cells + mc) (slots + ms) ls' Q hA ⟨by rw [e1]; exact hP2, hD2.weaken (fun i x _ hx => hfree x.1 hx), hS2, hok2⟩ ⟨by rw [ax_pr_ag hag hF.2.1]; exact hF.1, fun w hw => ⟨(hF.2.1 w hw).1, ax_ok_mono hnn (hF.2.1 w hw).2⟩, hps, hF.2.2.2⟩ ⟨by
    have := hB.1
    show cells + mc + (h.2.2.1 - mc) ≤ R.cells
    omega, by
    have := hB.2
    show slots + ms + (h.2.2.2 - ms) ≤ R.slots
    omega⟩ (ax_retup hR hnn hag) T' rfl X'
  obtain ⟨t2, a1, b1⟩ := K1
  refine ⟨t2, stp t2 ?_, b1⟩
  show Steps p.tables e below (T'.setTop (F0 m (pc + 3) ls' (v.toList ++ rest.map (ax_v b ad)))) t2
  rw [hstk]
  exact a1
theorem ax_sum {b : Nat} {ad : Nat → Nat} {st : List Value} : ((st.map (ax_v b ad)).map fun v => v.category).sum = (st.map fun v => v.category).sum := by
  rw [List.map_map]
  congr 1
  apply List.map_congr_left
  intro v _
  exact ax_cat0
def ax_in (a lo hi : Int64) : Int32 := if lo ≤ a ∧ a ≤ hi then 1 else 0
set_option maxHeartbeats 2000000 in
theorem ax_met_in {l : Launch} {sc : ax_S} {a lo hi : Int64} {σ : Nat → ax_C} {n : Nat} {K : ax_K} (P0 : K (some (.int (ax_in a lo hi))) (σ, n, 0, 0)) (hz : ax_mok 66 3)
    {D : va_G} {cI cZ : ClassId} {b : Nat} {ad : Nat → Nat} {sz : Nat} (hσ : ∀ i, i < n → ax_okC n (σ i)) (hbl : b < sz) {A : Nat → Prop} (hD : va_D A (ax_w b cI cZ ad σ n)) (hbA : ¬ A b) :
    Met l (g_m 66).1 (ax_ws 66) (ax_rm 66 0 0) (ax_Pc sc D cI cZ b ad σ n [.long a, .long lo, .long hi] sz) (ax_Qc D cI cZ b ad σ n sz K) 0 0 (va_A (ax_w b cI cZ ad σ n) sz) := by
  refine Met.ofW (cc := (g_m 66).2.1) (maxL := (g_m 66).2.2.1) (ret := (g_m 66).2.2.2) hz.2.2.2 rfl ?_
  intro p e s m args below meth c s₁ B hml hv
  obtain ⟨rfl, hsz, hP, hK, hX⟩ := hv
  subst hsz
  have hlocks := B.notSynchronized
  have hx := B.exec
  have hb := B.bytes
  have hD2 : va_D (va_A (ax_w b cI cZ ad σ n) s.heap.size) (ax_w b cI cZ ad σ n) := hD.self
  have hl := lv_entry ([.long a, .long lo, .long hi] : List Value) (n := 6) (Nat.le_of_ble_eq_true rfl)
  show W p l e _ s m _ below meth c s.heap [] 0 0 _ (entryFrame m ([.long a, .long lo, .long hi] : List Value).toArray 6)
  rw [lg_entry_eq]
  generalize (lg_sl ([.long a, .long lo, .long hi] : List Value) ++ List.replicate (6 - (lg_sl ([.long a, .long lo, .long hi] : List Value)).length) Slot.unset).toArray = ls at hl ⊢
  have hl : lv_has ls 6 [(0, .long a), (2, .long lo), (4, .long hi)] := hl
  have fin : ∀ (r : Int32), (r = 0 ∨ r = 1) → r = ax_in a lo hi → W p l e (headSpec (ax_ws 66) (ax_rm 66 0 0)).room s m ([.long a, .long lo, .long hi] : List Value).toArray below meth c s.heap [] 0 0 (MQ below (ax_Qc D cI cZ b ad σ n s.heap.size K) ([.long a, .long lo, .long hi] : List Value).toArray s 0 0 (va_A (ax_w b cI cZ ad σ n) s.heap.size)) (F0 m 18 ls [.int r]) := by
    intro r hr he
    refine W.zret (ty := .boolean) hx hb B.returns (by rcases hr with rfl | rfl <;> rfl) (fun t ht _ => ⟨some (.int r), (σ, n, 0, 0), ad, by rw [he]; exact P0, fun _ _ => rfl, Nat.le_refl _, rfl, fun x e => ⟨r, (Option.some.inj e).symm⟩, by rw [ht]; exact hP, hD2, hσ, (va_S.rf (A := va_A (ax_w b cI cZ ad σ n) s.heap.size) (H0 := s.heap)).F ht⟩) (fun q hq => by cases hq) d_66_18
  refine lv_lload_n hx hb d_66_0 rfl (lv_at hl 0 rfl) ?_
  refine lv_lload_n hx hb d_66_1 rfl (lv_at hl 1 rfl) ?_
  refine W.lcmp hx hb d_66_2 ?_
  refine lv_if_lt (tgt := 17) hx hb d_66_3 (by decide) (fun c1 => ?_) (fun c1 => ?_)
  · refine lv_iconst (v := 0) hx hb d_66_17 (by decide) ?_
    refine fin 0 (Or.inl rfl) ?_
    unfold ax_in
    rw [if_neg]
    intro h
    rw [lg_cmp_lt] at c1
    exact Int64.not_lt.mpr h.1 c1
  · refine lv_lload_n hx hb d_66_6 rfl (lv_at hl 0 rfl) ?_
    refine lv_lload hx hb d_66_7 (lv_at hl 2 rfl) ?_
    refine W.lcmp hx hb d_66_9 ?_
    refine lv_if_gt (tgt := 17) hx hb d_66_10 (by decide) (fun c2 => ?_) (fun c2 => ?_)
    · refine lv_iconst (v := 0) hx hb d_66_17 (by decide) ?_
      refine fin 0 (Or.inl rfl) ?_
      unfold ax_in
      rw [if_neg]
      intro h
      rw [lg_cmp_gt] at c2
      exact Int64.not_lt.mpr h.2 c2
    · refine lv_iconst (v := 1) hx hb d_66_13 (by decide) ?_
      refine lv_goto (tgt := 18) hx hb d_66_14 (by decide) ?_
      refine fin 1 (Or.inr rfl) ?_
      unfold ax_in
      rw [if_pos]
      rw [lg_cmp_lt] at c1
      rw [lg_cmp_gt] at c2
      exact ⟨Int64.not_lt.mp c1, Int64.not_lt.mp c2⟩
def ax_R_mono (sc : ax_S) (P : ax_J) : Prop := ∀ (k : Nat) (pc : Nat) (ls : List (Option Value)) (st : List Value) (h : ax_H) (K : ax_K) (K2 : ax_K), (∀ v h2, K v h2 → K2 v h2) → (P k pc ls st h K) → P k pc ls st h K2
def ax_R_iconst (sc : ax_S) (P : ax_J) : Prop := ∀ (k : Nat) (pc : Nat) (q : Nat) (ls : List (Option Value)) (st : List Value) (h : ax_H) (K : ax_K) (n : Int) (v : Int32), (decode (g_m k).2.1 pc = .ok (.iconst n, 1)) → (pc + 1 = q) → (Int32.ofInt n = v) → (P k q ls (.int v :: st) h K) → P k pc ls (st) h K
def ax_R_bipush (sc : ax_S) (P : ax_J) : Prop := ∀ (k : Nat) (pc : Nat) (q : Nat) (ls : List (Option Value)) (st : List Value) (h : ax_H) (K : ax_K) (n : Int) (v : Int32), (decode (g_m k).2.1 pc = .ok (.bipush n, 2)) → (pc + 2 = q) → ((Int8.ofInt n).toInt32 = v) → (P k q ls (.int v :: st) h K) → P k pc ls (st) h K
def ax_R_sipush (sc : ax_S) (P : ax_J) : Prop := ∀ (k : Nat) (pc : Nat) (q : Nat) (ls : List (Option Value)) (st : List Value) (h : ax_H) (K : ax_K) (n : Int) (v : Int32), (decode (g_m k).2.1 pc = .ok (.sipush n, 3)) → (pc + 3 = q) → ((Int16.ofInt n).toInt32 = v) → (P k q ls (.int v :: st) h K) → P k pc ls (st) h K
def ax_R_ldc (sc : ax_S) (P : ax_J) : Prop := ∀ (k : Nat) (pc : Nat) (q : Nat) (ls : List (Option Value)) (st : List Value) (h : ax_H) (K : ax_K) (idx : Nat) (v : Int32), (decode (g_m k).2.1 pc = .ok (.ldc idx, 2)) → (pc + 2 = q) → ((Cond.constant (g_m k).1.cls idx v) ∈ gw) → (P k q ls (.int v :: st) h K) → P k pc ls (st) h K
def ax_R_ldcw (sc : ax_S) (P : ax_J) : Prop := ∀ (k : Nat) (pc : Nat) (q : Nat) (ls : List (Option Value)) (st : List Value) (h : ax_H) (K : ax_K) (idx : Nat) (v : Int32), (decode (g_m k).2.1 pc = .ok (.ldc_w idx, 3)) → (pc + 3 = q) → ((Cond.constant (g_m k).1.cls idx v) ∈ gw) → (P k q ls (.int v :: st) h K) → P k pc ls (st) h K
def ax_R_null (sc : ax_S) (P : ax_J) : Prop := ∀ (k : Nat) (pc : Nat) (q : Nat) (ls : List (Option Value)) (st : List Value) (h : ax_H) (K : ax_K), (decode (g_m k).2.1 pc = .ok (.aconst_null, 1)) → (pc + 1 = q) → (P k q ls (.null :: st) h K) → P k pc ls (st) h K
def ax_R_iload (sc : ax_S) (P : ax_J) : Prop := ∀ (k : Nat) (pc : Nat) (q : Nat) (ls : List (Option Value)) (st : List Value) (h : ax_H) (K : ax_K) (i : Nat) (x : Int32), (decode (g_m k).2.1 pc = .ok (.iload i, 2)) → (pc + 2 = q) → (ls[i]? = some (some (.int x))) → (P k q ls (.int x :: st) h K) → P k pc ls (st) h K
def ax_R_iload_n (sc : ax_S) (P : ax_J) : Prop := ∀ (k : Nat) (pc : Nat) (q : Nat) (ls : List (Option Value)) (st : List Value) (h : ax_H) (K : ax_K) (i : Nat) (x : Int32) (j : Fin 4), (decode (g_m k).2.1 pc = .ok (.iload_n j, 1)) → (pc + 1 = q) → ((j : Nat) = i) → (ls[i]? = some (some (.int x))) → (P k q ls (.int x :: st) h K) → P k pc ls (st) h K
def ax_R_aload (sc : ax_S) (P : ax_J) : Prop := ∀ (k : Nat) (pc : Nat) (q : Nat) (ls : List (Option Value)) (st : List Value) (h : ax_H) (K : ax_K) (i : Nat) (o : Nat), (decode (g_m k).2.1 pc = .ok (.aload i, 2)) → (pc + 2 = q) → (ls[i]? = some (some (.ref o))) → (P k q ls (.ref o :: st) h K) → P k pc ls (st) h K
def ax_R_aload_n (sc : ax_S) (P : ax_J) : Prop := ∀ (k : Nat) (pc : Nat) (q : Nat) (ls : List (Option Value)) (st : List Value) (h : ax_H) (K : ax_K) (i : Nat) (o : Nat) (j : Fin 4), (decode (g_m k).2.1 pc = .ok (.aload_n j, 1)) → (pc + 1 = q) → ((j : Nat) = i) → (ls[i]? = some (some (.ref o))) → (P k q ls (.ref o :: st) h K) → P k pc ls (st) h K
def ax_R_aloadS (sc : ax_S) (P : ax_J) : Prop := ∀ (k : Nat) (pc : Nat) (q : Nat) (ls : List (Option Value)) (st : List Value) (h : ax_H) (K : ax_K) (i : Nat) (o : Nat), (decode (g_m k).2.1 pc = .ok (.aload i, 2)) → (pc + 2 = q) → (ls[i]? = some (some (.retAddr o))) → (P k q ls (.retAddr o :: st) h K) → P k pc ls (st) h K
def ax_R_aload_nS (sc : ax_S) (P : ax_J) : Prop := ∀ (k : Nat) (pc : Nat) (q : Nat) (ls : List (Option Value)) (st : List Value) (h : ax_H) (K : ax_K) (i : Nat) (o : Nat) (j : Fin 4), (decode (g_m k).2.1 pc = .ok (.aload_n j, 1)) → (pc + 1 = q) → ((j : Nat) = i) → (ls[i]? = some (some (.retAddr o))) → (P k q ls (.retAddr o :: st) h K) → P k pc ls (st) h K
def ax_R_istore (sc : ax_S) (P : ax_J) : Prop := ∀ (k : Nat) (pc : Nat) (q : Nat) (ls : List (Option Value)) (st : List Value) (h : ax_H) (K : ax_K) (i : Nat) (x : Int32), (decode (g_m k).2.1 pc = .ok (.istore i, 2)) → (pc + 2 = q) → (i < ls.length) → (P k q (ls.set i (some (.int x))) st h K) → P k pc ls (.int x :: st) h K
def ax_R_istore_n (sc : ax_S) (P : ax_J) : Prop := ∀ (k : Nat) (pc : Nat) (q : Nat) (ls : List (Option Value)) (st : List Value) (h : ax_H) (K : ax_K) (i : Nat) (x : Int32) (j : Fin 4), (decode (g_m k).2.1 pc = .ok (.istore_n j, 1)) → (pc + 1 = q) → ((j : Nat) = i) → (i < ls.length) → (P k q (ls.set i (some (.int x))) st h K) → P k pc ls (.int x :: st) h K
def ax_R_astore (sc : ax_S) (P : ax_J) : Prop := ∀ (k : Nat) (pc : Nat) (q : Nat) (ls : List (Option Value)) (st : List Value) (h : ax_H) (K : ax_K) (i : Nat) (o : Nat), (decode (g_m k).2.1 pc = .ok (.astore i, 2)) → (pc + 2 = q) → (i < ls.length) → (P k q (ls.set i (some (.ref o))) st h K) → P k pc ls (.ref o :: st) h K
def ax_R_astore_n (sc : ax_S) (P : ax_J) : Prop := ∀ (k : Nat) (pc : Nat) (q : Nat) (ls : List (Option Value)) (st : List Value) (h : ax_H) (K : ax_K) (i : Nat) (o : Nat) (j : Fin 4), (decode (g_m k).2.1 pc = .ok (.astore_n j, 1)) → (pc + 1 = q) → ((j : Nat) = i) → (i < ls.length) → (P k q (ls.set i (some (.ref o))) st h K) → P k pc ls (.ref o :: st) h K
def ax_R_iinc (sc : ax_S) (P : ax_J) : Prop := ∀ (k : Nat) (pc : Nat) (q : Nat) (ls : List (Option Value)) (st : List Value) (h : ax_H) (K : ax_K) (i : Nat) (n : Int) (x : Int32) (v : Int32), (decode (g_m k).2.1 pc = .ok (.iinc i n, 3)) → (pc + 3 = q) → (ls[i]? = some (some (.int x))) → (x + Int32.ofInt n = v) → (P k q (ls.set i (some (.int v))) st h K) → P k pc ls st h K
def ax_R_iadd (sc : ax_S) (P : ax_J) : Prop := ∀ (k : Nat) (pc : Nat) (q : Nat) (ls : List (Option Value)) (st : List Value) (h : ax_H) (K : ax_K) (x : Int32) (y : Int32), (decode (g_m k).2.1 pc = .ok (.iadd, 1)) → (pc + 1 = q) → (P k q ls (.int (x + y) :: st) h K) → P k pc ls (.int y :: .int x :: st) h K
def ax_R_isub (sc : ax_S) (P : ax_J) : Prop := ∀ (k : Nat) (pc : Nat) (q : Nat) (ls : List (Option Value)) (st : List Value) (h : ax_H) (K : ax_K) (x : Int32) (y : Int32), (decode (g_m k).2.1 pc = .ok (.isub, 1)) → (pc + 1 = q) → (P k q ls (.int (x - y) :: st) h K) → P k pc ls (.int y :: .int x :: st) h K
def ax_R_imul (sc : ax_S) (P : ax_J) : Prop := ∀ (k : Nat) (pc : Nat) (q : Nat) (ls : List (Option Value)) (st : List Value) (h : ax_H) (K : ax_K) (x : Int32) (y : Int32), (decode (g_m k).2.1 pc = .ok (.imul, 1)) → (pc + 1 = q) → (P k q ls (.int (x * y) :: st) h K) → P k pc ls (.int y :: .int x :: st) h K
def ax_R_iand (sc : ax_S) (P : ax_J) : Prop := ∀ (k : Nat) (pc : Nat) (q : Nat) (ls : List (Option Value)) (st : List Value) (h : ax_H) (K : ax_K) (x : Int32) (y : Int32), (decode (g_m k).2.1 pc = .ok (.iand, 1)) → (pc + 1 = q) → (P k q ls (.int (x &&& y) :: st) h K) → P k pc ls (.int y :: .int x :: st) h K
def ax_R_ior (sc : ax_S) (P : ax_J) : Prop := ∀ (k : Nat) (pc : Nat) (q : Nat) (ls : List (Option Value)) (st : List Value) (h : ax_H) (K : ax_K) (x : Int32) (y : Int32), (decode (g_m k).2.1 pc = .ok (.ior, 1)) → (pc + 1 = q) → (P k q ls (.int (x ||| y) :: st) h K) → P k pc ls (.int y :: .int x :: st) h K
def ax_R_ixor (sc : ax_S) (P : ax_J) : Prop := ∀ (k : Nat) (pc : Nat) (q : Nat) (ls : List (Option Value)) (st : List Value) (h : ax_H) (K : ax_K) (x : Int32) (y : Int32), (decode (g_m k).2.1 pc = .ok (.ixor, 1)) → (pc + 1 = q) → (P k q ls (.int (x ^^^ y) :: st) h K) → P k pc ls (.int y :: .int x :: st) h K
def ax_R_ishl (sc : ax_S) (P : ax_J) : Prop := ∀ (k : Nat) (pc : Nat) (q : Nat) (ls : List (Option Value)) (st : List Value) (h : ax_H) (K : ax_K) (x : Int32) (y : Int32), (decode (g_m k).2.1 pc = .ok (.ishl, 1)) → (pc + 1 = q) → (P k q ls (.int (x <<< (y &&& 31)) :: st) h K) → P k pc ls (.int y :: .int x :: st) h K
def ax_R_ishr (sc : ax_S) (P : ax_J) : Prop := ∀ (k : Nat) (pc : Nat) (q : Nat) (ls : List (Option Value)) (st : List Value) (h : ax_H) (K : ax_K) (x : Int32) (y : Int32), (decode (g_m k).2.1 pc = .ok (.ishr, 1)) → (pc + 1 = q) → (P k q ls (.int (x >>> (y &&& 31)) :: st) h K) → P k pc ls (.int y :: .int x :: st) h K
def ax_R_iushr (sc : ax_S) (P : ax_J) : Prop := ∀ (k : Nat) (pc : Nat) (q : Nat) (ls : List (Option Value)) (st : List Value) (h : ax_H) (K : ax_K) (x : Int32) (y : Int32), (decode (g_m k).2.1 pc = .ok (.iushr, 1)) → (pc + 1 = q) → (P k q ls (.int ((x.toUInt32 >>> (y.toUInt32 &&& Int32.toUInt32 31)).toInt32) :: st) h K) → P k pc ls (.int y :: .int x :: st) h K
def ax_R_idiv (sc : ax_S) (P : ax_J) : Prop := ∀ (k : Nat) (pc : Nat) (q : Nat) (ls : List (Option Value)) (st : List Value) (h : ax_H) (K : ax_K) (x : Int32) (y : Int32), (decode (g_m k).2.1 pc = .ok (.idiv, 1)) → (pc + 1 = q) → (¬ y = 0) → (P k q ls (.int (x / y) :: st) h K) → P k pc ls (.int y :: .int x :: st) h K
def ax_R_irem (sc : ax_S) (P : ax_J) : Prop := ∀ (k : Nat) (pc : Nat) (q : Nat) (ls : List (Option Value)) (st : List Value) (h : ax_H) (K : ax_K) (x : Int32) (y : Int32), (decode (g_m k).2.1 pc = .ok (.irem, 1)) → (pc + 1 = q) → (¬ y = 0) → (P k q ls (.int (x - x / y * y) :: st) h K) → P k pc ls (.int y :: .int x :: st) h K
def ax_R_ineg (sc : ax_S) (P : ax_J) : Prop := ∀ (k : Nat) (pc : Nat) (q : Nat) (ls : List (Option Value)) (st : List Value) (h : ax_H) (K : ax_K) (x : Int32), (decode (g_m k).2.1 pc = .ok (.ineg, 1)) → (pc + 1 = q) → (P k q ls (.int (-x) :: st) h K) → P k pc ls (.int x :: st) h K
def ax_R_dup (sc : ax_S) (P : ax_J) : Prop := ∀ (k : Nat) (pc : Nat) (q : Nat) (ls : List (Option Value)) (st : List Value) (h : ax_H) (K : ax_K) (x : Value), (decode (g_m k).2.1 pc = .ok (.dup, 1)) → (pc + 1 = q) → (x.category = 1) → (P k q ls (x :: x :: st) h K) → P k pc ls (x :: st) h K
def ax_R_pop (sc : ax_S) (P : ax_J) : Prop := ∀ (k : Nat) (pc : Nat) (q : Nat) (ls : List (Option Value)) (st : List Value) (h : ax_H) (K : ax_K) (x : Value), (decode (g_m k).2.1 pc = .ok (.pop, 1)) → (pc + 1 = q) → (x.category = 1) → (P k q ls (st) h K) → P k pc ls (x :: st) h K
def ax_R_dup_x1 (sc : ax_S) (P : ax_J) : Prop := ∀ (k : Nat) (pc : Nat) (q : Nat) (ls : List (Option Value)) (st : List Value) (h : ax_H) (K : ax_K) (x : Value) (y : Value), (decode (g_m k).2.1 pc = .ok (.dup_x1, 1)) → (pc + 1 = q) → (x.category = 1) → (y.category = 1) → (P k q ls (x :: y :: x :: st) h K) → P k pc ls (x :: y :: st) h K
def ax_R_dup_x2 (sc : ax_S) (P : ax_J) : Prop := ∀ (k : Nat) (pc : Nat) (q : Nat) (ls : List (Option Value)) (st : List Value) (h : ax_H) (K : ax_K) (x : Value) (y : Value) (z : Value), (decode (g_m k).2.1 pc = .ok (.dup_x2, 1)) → (pc + 1 = q) → (x.category = 1) → (y.category = 1) → (z.category = 1) → (P k q ls (x :: y :: z :: x :: st) h K) → P k pc ls (x :: y :: z :: st) h K
def ax_R_dup2 (sc : ax_S) (P : ax_J) : Prop := ∀ (k : Nat) (pc : Nat) (q : Nat) (ls : List (Option Value)) (st : List Value) (h : ax_H) (K : ax_K) (x : Value) (y : Value), (decode (g_m k).2.1 pc = .ok (.dup2, 1)) → (pc + 1 = q) → (x.category = 1) → (y.category = 1) → (P k q ls (x :: y :: x :: y :: st) h K) → P k pc ls (x :: y :: st) h K
def ax_R_goto (sc : ax_S) (P : ax_J) : Prop := ∀ (k : Nat) (pc : Nat) (ls : List (Option Value)) (st : List Value) (h : ax_H) (K : ax_K) (off : Int) (t : Nat), (decode (g_m k).2.1 pc = .ok (.goto off, 3)) → ((pc : Int) + off = (t : Int)) → (P k t ls st h K) → P k pc ls st h K
def ax_R_if_eq (sc : ax_S) (P : ax_J) : Prop := ∀ (k : Nat) (pc : Nat) (q : Nat) (ls : List (Option Value)) (st : List Value) (h : ax_H) (K : ax_K) (off : Int) (t : Nat) (x : Int32), (decode (g_m k).2.1 pc = .ok (.ifCond .eq off, 3)) → ((pc : Int) + off = (t : Int)) → (pc + 3 = q) → ((x = 0) → P k t ls st h K) → (¬ (x = 0) → P k q ls st h K) → P k pc ls (.int x :: st) h K
def ax_R_if_ne (sc : ax_S) (P : ax_J) : Prop := ∀ (k : Nat) (pc : Nat) (q : Nat) (ls : List (Option Value)) (st : List Value) (h : ax_H) (K : ax_K) (off : Int) (t : Nat) (x : Int32), (decode (g_m k).2.1 pc = .ok (.ifCond .ne off, 3)) → ((pc : Int) + off = (t : Int)) → (pc + 3 = q) → ((¬ x = 0) → P k t ls st h K) → (x = 0 → P k q ls st h K) → P k pc ls (.int x :: st) h K
def ax_R_if_lt (sc : ax_S) (P : ax_J) : Prop := ∀ (k : Nat) (pc : Nat) (q : Nat) (ls : List (Option Value)) (st : List Value) (h : ax_H) (K : ax_K) (off : Int) (t : Nat) (x : Int32), (decode (g_m k).2.1 pc = .ok (.ifCond .lt off, 3)) → ((pc : Int) + off = (t : Int)) → (pc + 3 = q) → ((x < 0) → P k t ls st h K) → (¬ (x < 0) → P k q ls st h K) → P k pc ls (.int x :: st) h K
def ax_R_if_ge (sc : ax_S) (P : ax_J) : Prop := ∀ (k : Nat) (pc : Nat) (q : Nat) (ls : List (Option Value)) (st : List Value) (h : ax_H) (K : ax_K) (off : Int) (t : Nat) (x : Int32), (decode (g_m k).2.1 pc = .ok (.ifCond .ge off, 3)) → ((pc : Int) + off = (t : Int)) → (pc + 3 = q) → ((0 ≤ x) → P k t ls st h K) → (¬ (0 ≤ x) → P k q ls st h K) → P k pc ls (.int x :: st) h K
def ax_R_if_gt (sc : ax_S) (P : ax_J) : Prop := ∀ (k : Nat) (pc : Nat) (q : Nat) (ls : List (Option Value)) (st : List Value) (h : ax_H) (K : ax_K) (off : Int) (t : Nat) (x : Int32), (decode (g_m k).2.1 pc = .ok (.ifCond .gt off, 3)) → ((pc : Int) + off = (t : Int)) → (pc + 3 = q) → ((0 < x) → P k t ls st h K) → (¬ (0 < x) → P k q ls st h K) → P k pc ls (.int x :: st) h K
def ax_R_if_le (sc : ax_S) (P : ax_J) : Prop := ∀ (k : Nat) (pc : Nat) (q : Nat) (ls : List (Option Value)) (st : List Value) (h : ax_H) (K : ax_K) (off : Int) (t : Nat) (x : Int32), (decode (g_m k).2.1 pc = .ok (.ifCond .le off, 3)) → ((pc : Int) + off = (t : Int)) → (pc + 3 = q) → ((x ≤ 0) → P k t ls st h K) → (¬ (x ≤ 0) → P k q ls st h K) → P k pc ls (.int x :: st) h K
def ax_R_icmp_eq (sc : ax_S) (P : ax_J) : Prop := ∀ (k : Nat) (pc : Nat) (q : Nat) (ls : List (Option Value)) (st : List Value) (h : ax_H) (K : ax_K) (off : Int) (t : Nat) (x : Int32) (y : Int32), (decode (g_m k).2.1 pc = .ok (.if_icmp .eq off, 3)) → ((pc : Int) + off = (t : Int)) → (pc + 3 = q) → ((x = y) → P k t ls st h K) → (¬ (x = y) → P k q ls st h K) → P k pc ls (.int y :: .int x :: st) h K
def ax_R_icmp_ne (sc : ax_S) (P : ax_J) : Prop := ∀ (k : Nat) (pc : Nat) (q : Nat) (ls : List (Option Value)) (st : List Value) (h : ax_H) (K : ax_K) (off : Int) (t : Nat) (x : Int32) (y : Int32), (decode (g_m k).2.1 pc = .ok (.if_icmp .ne off, 3)) → ((pc : Int) + off = (t : Int)) → (pc + 3 = q) → ((¬ x = y) → P k t ls st h K) → (x = y → P k q ls st h K) → P k pc ls (.int y :: .int x :: st) h K
def ax_R_icmp_lt (sc : ax_S) (P : ax_J) : Prop := ∀ (k : Nat) (pc : Nat) (q : Nat) (ls : List (Option Value)) (st : List Value) (h : ax_H) (K : ax_K) (off : Int) (t : Nat) (x : Int32) (y : Int32), (decode (g_m k).2.1 pc = .ok (.if_icmp .lt off, 3)) → ((pc : Int) + off = (t : Int)) → (pc + 3 = q) → ((x < y) → P k t ls st h K) → (¬ (x < y) → P k q ls st h K) → P k pc ls (.int y :: .int x :: st) h K
def ax_R_icmp_ge (sc : ax_S) (P : ax_J) : Prop := ∀ (k : Nat) (pc : Nat) (q : Nat) (ls : List (Option Value)) (st : List Value) (h : ax_H) (K : ax_K) (off : Int) (t : Nat) (x : Int32) (y : Int32), (decode (g_m k).2.1 pc = .ok (.if_icmp .ge off, 3)) → ((pc : Int) + off = (t : Int)) → (pc + 3 = q) → ((y ≤ x) → P k t ls st h K) → (¬ (y ≤ x) → P k q ls st h K) → P k pc ls (.int y :: .int x :: st) h K
def ax_R_icmp_gt (sc : ax_S) (P : ax_J) : Prop := ∀ (k : Nat) (pc : Nat) (q : Nat) (ls : List (Option Value)) (st : List Value) (h : ax_H) (K : ax_K) (off : Int) (t : Nat) (x : Int32) (y : Int32), (decode (g_m k).2.1 pc = .ok (.if_icmp .gt off, 3)) → ((pc : Int) + off = (t : Int)) → (pc + 3 = q) → ((y < x) → P k t ls st h K) → (¬ (y < x) → P k q ls st h K) → P k pc ls (.int y :: .int x :: st) h K
def ax_R_icmp_le (sc : ax_S) (P : ax_J) : Prop := ∀ (k : Nat) (pc : Nat) (q : Nat) (ls : List (Option Value)) (st : List Value) (h : ax_H) (K : ax_K) (off : Int) (t : Nat) (x : Int32) (y : Int32), (decode (g_m k).2.1 pc = .ok (.if_icmp .le off, 3)) → ((pc : Int) + off = (t : Int)) → (pc + 3 = q) → ((x ≤ y) → P k t ls st h K) → (¬ (x ≤ y) → P k q ls st h K) → P k pc ls (.int y :: .int x :: st) h K
def ax_R_tableIn (sc : ax_S) (P : ax_J) : Prop := ∀ (k : Nat) (pc : Nat) (ls : List (Option Value)) (st : List Value) (h : ax_H) (K : ax_K) (d : Int) (lo : Int) (hi : Int) (offs : Array Int) (len : Nat) (x : Int32) (off : Int) (t : Nat), (decode (g_m k).2.1 pc = .ok (.tableswitch d lo hi offs, len)) → (¬ x.toInt < lo) → (¬ hi < x.toInt) → (offs[(x.toInt - lo).toNat]? = some off) → ((pc : Int) + off = (t : Int)) → (P k t ls st h K) → P k pc ls (.int x :: st) h K
def ax_R_tableOut (sc : ax_S) (P : ax_J) : Prop := ∀ (k : Nat) (pc : Nat) (ls : List (Option Value)) (st : List Value) (h : ax_H) (K : ax_K) (d : Int) (lo : Int) (hi : Int) (offs : Array Int) (len : Nat) (x : Int32) (t : Nat), (decode (g_m k).2.1 pc = .ok (.tableswitch d lo hi offs, len)) → ((x.toInt < lo ∨ hi < x.toInt)) → ((pc : Int) + d = (t : Int)) → (P k t ls st h K) → P k pc ls (.int x :: st) h K
def ax_R_get (sc : ax_S) (P : ax_J) : Prop := ∀ (k : Nat) (pc : Nat) (q : Nat) (ls : List (Option Value)) (st : List Value) (h : ax_H) (K : ax_K) (idx : Nat) (o : Nat) (ci : Nat) (j : Nat) (fs : List Value) (v : Value), (decode (g_m k).2.1 pc = .ok (.getfield idx, 3)) → (pc + 3 = q) → (ax_fld (g_m k).1.cls idx ci j) → (o < h.2.1) → (h.1 o = .inr (ci, fs)) → (fs[j]? = some v) → (P k q ls (v :: st) h K) → P k pc ls (.ref o :: st) h K
def ax_R_put (sc : ax_S) (P : ax_J) : Prop := ∀ (k : Nat) (pc : Nat) (q : Nat) (ls : List (Option Value)) (st : List Value) (h : ax_H) (K : ax_K) (idx : Nat) (o : Nat) (ci : Nat) (j : Nat) (fs : List Value) (v : Value) (ty : FieldType), (decode (g_m k).2.1 pc = .ok (.putfield idx, 3)) → (pc + 3 = q) → (ax_fldW (g_m k).1.cls idx ci j ty false) → (o < h.2.1) → (h.1 o = .inr (ci, fs)) → (j < fs.length) → (narrow ty v = v) → (fits ty v = true) → (P k q ls st (va_up h.1 o (.inr (ci, fs.set j v)), h.2) K) → P k pc ls (v :: .ref o :: st) h K
def ax_R_putF (sc : ax_S) (P : ax_J) : Prop := ∀ (k : Nat) (pc : Nat) (q : Nat) (ls : List (Option Value)) (st : List Value) (h : ax_H) (K : ax_K) (idx : Nat) (o : Nat) (ci : Nat) (j : Nat) (fs : List Value) (v : Value) (ty : FieldType), (decode (g_m k).2.1 pc = .ok (.putfield idx, 3)) → (pc + 3 = q) → (ax_fldW (g_m k).1.cls idx ci j ty true) → (o < h.2.1) → (h.1 o = .inr (ci, fs)) → (j < fs.length) → (narrow ty v = v) → (fits ty v = true) → ((g_m k).1.name = "<init>") → (P k q ls st (va_up h.1 o (.inr (ci, fs.set j v)), h.2) K) → P k pc ls (v :: .ref o :: st) h K
def ax_R_iald (sc : ax_S) (P : ax_J) : Prop := ∀ (k : Nat) (pc : Nat) (q : Nat) (ls : List (Option Value)) (st : List Value) (h : ax_H) (K : ax_K) (o : Nat) (n : Nat) (f : Nat → Int32) (i : Int32), (decode (g_m k).2.1 pc = .ok (.iaload, 1)) → (pc + 1 = q) → (o < h.2.1) → (h.1 o = .inl (false, n, f)) → (vp_in i n) → (P k q ls (.int (f i.toNatClampNeg) :: st) h K) → P k pc ls (.int i :: .ref o :: st) h K
def ax_R_zald (sc : ax_S) (P : ax_J) : Prop := ∀ (k : Nat) (pc : Nat) (q : Nat) (ls : List (Option Value)) (st : List Value) (h : ax_H) (K : ax_K) (o : Nat) (n : Nat) (f : Nat → Int32) (i : Int32), (decode (g_m k).2.1 pc = .ok (.baload, 1)) → (pc + 1 = q) → (o < h.2.1) → (h.1 o = .inl (true, n, f)) → (vp_in i n) → (P k q ls (.int (f i.toNatClampNeg) :: st) h K) → P k pc ls (.int i :: .ref o :: st) h K
def ax_R_iast (sc : ax_S) (P : ax_J) : Prop := ∀ (k : Nat) (pc : Nat) (q : Nat) (ls : List (Option Value)) (st : List Value) (h : ax_H) (K : ax_K) (o : Nat) (n : Nat) (f : Nat → Int32) (i : Int32) (x : Int32), (decode (g_m k).2.1 pc = .ok (.iastore, 1)) → (pc + 1 = q) → (o < h.2.1) → (h.1 o = .inl (false, n, f)) → (vp_in i n) → (P k q ls st (va_up h.1 o (.inl (false, n, upd f i.toNatClampNeg x)), h.2) K) → P k pc ls (.int x :: .int i :: .ref o :: st) h K
def ax_R_zast (sc : ax_S) (P : ax_J) : Prop := ∀ (k : Nat) (pc : Nat) (q : Nat) (ls : List (Option Value)) (st : List Value) (h : ax_H) (K : ax_K) (o : Nat) (n : Nat) (f : Nat → Int32) (i : Int32) (x : Int32), (decode (g_m k).2.1 pc = .ok (.bastore, 1)) → (pc + 1 = q) → (o < h.2.1) → (h.1 o = .inl (true, n, f)) → (vp_in i n) → (P k q ls st (va_up h.1 o (.inl (true, n, upd f i.toNatClampNeg (vp_nar .boolean x))), h.2) K) → P k pc ls (.int x :: .int i :: .ref o :: st) h K
def ax_R_alen (sc : ax_S) (P : ax_J) : Prop := ∀ (k : Nat) (pc : Nat) (q : Nat) (ls : List (Option Value)) (st : List Value) (h : ax_H) (K : ax_K) (o : Nat) (n : Nat) (z : Bool) (f : Nat → Int32), (decode (g_m k).2.1 pc = .ok (.arraylength, 1)) → (pc + 1 = q) → (o < h.2.1) → (h.1 o = .inl (z, n, f)) → (P k q ls (.int (nI n) :: st) h K) → P k pc ls (.ref o :: st) h K
def ax_R_newI (sc : ax_S) (P : ax_J) : Prop := ∀ (k : Nat) (pc : Nat) (q : Nat) (ls : List (Option Value)) (st : List Value) (h : ax_H) (K : ax_K) (i : Int32) (n : Nat), (decode (g_m k).2.1 pc = .ok (.newarray .int, 2)) → (pc + 2 = q) → ((Cond.arrayClass .int) ∈ gw) → (¬ i < 0) → (i.toNatClampNeg = n) → (n ≤ 100000) → (1 ≤ h.2.2.1) → (n ≤ h.2.2.2) → (P k q ls (.ref h.2.1 :: st) (va_up h.1 h.2.1 (.inl (false, n, fun _ => 0)), h.2.1 + 1, h.2.2.1 - 1, h.2.2.2 - n) K) → P k pc ls (.int i :: st) h K
def ax_R_newZ (sc : ax_S) (P : ax_J) : Prop := ∀ (k : Nat) (pc : Nat) (q : Nat) (ls : List (Option Value)) (st : List Value) (h : ax_H) (K : ax_K) (i : Int32) (n : Nat), (decode (g_m k).2.1 pc = .ok (.newarray .boolean, 2)) → (pc + 2 = q) → ((Cond.arrayClass .boolean) ∈ gw) → (¬ i < 0) → (i.toNatClampNeg = n) → (n ≤ 100000) → (1 ≤ h.2.2.1) → (n ≤ h.2.2.2) → (P k q ls (.ref h.2.1 :: st) (va_up h.1 h.2.1 (.inl (true, n, fun _ => 0)), h.2.1 + 1, h.2.2.1 - 1, h.2.2.2 - n) K) → P k pc ls (.int i :: st) h K
def ax_R_new (sc : ax_S) (P : ax_J) : Prop := ∀ (k : Nat) (pc : Nat) (q : Nat) (ls : List (Option Value)) (st : List Value) (h : ax_H) (K : ax_K) (idx : Nat) (ci : Nat) (N : Nat) (fs : List Value), (decode (g_m k).2.1 pc = .ok (.new idx, 3)) → (pc + 3 = q) → (ax_cls (g_m k).1.cls idx ci N fs) → (1 ≤ h.2.2.1) → (N ≤ h.2.2.2) → (P k q ls (.ref h.2.1 :: st) (va_up h.1 h.2.1 (.inr (ci, fs)), h.2.1 + 1, h.2.2.1 - 1, h.2.2.2 - N) K) → P k pc ls st h K
def ax_R_sld (sc : ax_S) (P : ax_J) : Prop := ∀ (k : Nat) (pc : Nat) (q : Nat) (ls : List (Option Value)) (st : List Value) (h : ax_H) (K : ax_K) (o : Nat) (i : Int32), (decode (g_m k).2.1 pc = .ok (.iaload, 1)) → (pc + 1 = q) → (vp_in i sc.1) → (P k q ls (.int (sc.2 i.toNatClampNeg) :: st) h K) → P k pc ls (.int i :: .retAddr o :: st) h K
def ax_R_slen (sc : ax_S) (P : ax_J) : Prop := ∀ (k : Nat) (pc : Nat) (q : Nat) (ls : List (Option Value)) (st : List Value) (h : ax_H) (K : ax_K) (o : Nat), (decode (g_m k).2.1 pc = .ok (.arraylength, 1)) → (pc + 1 = q) → (P k q ls (.int (nI sc.1) :: st) h K) → P k pc ls (.retAddr o :: st) h K
def ax_R_iret (sc : ax_S) (P : ax_J) : Prop := ∀ (k : Nat) (pc : Nat) (ls : List (Option Value)) (h : ax_H) (K : ax_K) (x : Int32) (ty : FieldType), (decode (g_m k).2.1 pc = .ok (.ireturn, 1)) → ((g_m k).2.2.2 = some ty) → (narrow ty (.int x) = .int x) → (K (some (.int x)) h) → P k pc ls [.int x] h K
def ax_R_vret (sc : ax_S) (P : ax_J) : Prop := ∀ (k : Nat) (pc : Nat) (ls : List (Option Value)) (h : ax_H) (K : ax_K), (decode (g_m k).2.1 pc = .ok (.return_, 1)) → ((g_m k).2.2.2 = none) → (K none h) → P k pc ls [] h K
def ax_R_mmax (sc : ax_S) (P : ax_J) : Prop := ∀ (k : Nat) (pc : Nat) (q : Nat) (ls : List (Option Value)) (st : List Value) (h : ax_H) (K : ax_K) (idx : Nat) (x : Int32) (y : Int32), (decode (g_m k).2.1 pc = .ok (.invokestatic idx, 3)) → (pc + 3 = q) → ((Cond.methodLink (g_m k).1.cls idx Lib.Math.max.name) ∈ gw) → ((Cond.static Lib.Math.max.name) ∈ gw) → ((Cond.initialized "java/lang/Math") ∈ gw) → ((Cond.code Lib.Math.max.name Lib.Math.max.code 2 (some .int)) ∈ gw) → (1 ≤ g_fr k ∧ 30 ≤ g_lo k) → ((st.map fun v => v.category).sum ≤ 8) → (P k q ls (.int (if x < y then y else x) :: st) h K) → P k pc ls (.int y :: .int x :: st) h K
def ax_R_mmin (sc : ax_S) (P : ax_J) : Prop := ∀ (k : Nat) (pc : Nat) (q : Nat) (ls : List (Option Value)) (st : List Value) (h : ax_H) (K : ax_K) (idx : Nat) (x : Int32) (y : Int32), (decode (g_m k).2.1 pc = .ok (.invokestatic idx, 3)) → (pc + 3 = q) → ((Cond.methodLink (g_m k).1.cls idx Lib.Math.min.name) ∈ gw) → ((Cond.static Lib.Math.min.name) ∈ gw) → ((Cond.initialized "java/lang/Math") ∈ gw) → ((Cond.code Lib.Math.min.name Lib.Math.min.code 2 (some .int)) ∈ gw) → (1 ≤ g_fr k ∧ 30 ≤ g_lo k) → ((st.map fun v => v.category).sum ≤ 8) → (P k q ls (.int (if y < x then y else x) :: st) h K) → P k pc ls (.int y :: .int x :: st) h K
def ax_R_mabs (sc : ax_S) (P : ax_J) : Prop := ∀ (k : Nat) (pc : Nat) (q : Nat) (ls : List (Option Value)) (st : List Value) (h : ax_H) (K : ax_K) (idx : Nat) (x : Int32), (decode (g_m k).2.1 pc = .ok (.invokestatic idx, 3)) → (pc + 3 = q) → ((Cond.methodLink (g_m k).1.cls idx Lib.Math.abs.name) ∈ gw) → ((Cond.static Lib.Math.abs.name) ∈ gw) → ((Cond.initialized "java/lang/Math") ∈ gw) → ((Cond.code Lib.Math.abs.name Lib.Math.abs.code 1 (some .int)) ∈ gw) → (1 ≤ g_fr k ∧ 30 ≤ g_lo k) → ((st.map fun v => v.category).sum ≤ 8) → (P k q ls (.int (if 0 ≤ x then x else 0 - x) :: st) h K) → P k pc ls (.int x :: st) h K
def ax_R_acopy (sc : ax_S) (P : ax_J) : Prop := ∀ (k : Nat) (pc : Nat) (q : Nat) (ls : List (Option Value)) (st : List Value) (h : ax_H) (K : ax_K) (idx : Nat) (o0 : Nat) (o1 : Nat) (n0 : Nat) (n1 : Nat) (f : Nat → Int32) (g : Nat → Int32) (sp : Int32) (dp : Int32) (n : Int32), (decode (g_m k).2.1 pc = .ok (.invokestatic idx, 3)) → (pc + 3 = q) → ((Cond.methodLink (g_m k).1.cls idx arraycopyName) ∈ gw) → ((Cond.native arraycopyName) ∈ gw) → ((Cond.static arraycopyName) ∈ gw) → ((Cond.initialized "java/lang/System") ∈ gw) → (1 ≤ g_fr k ∧ 8 + (nativeFrameWords "java/lang/System" "arraycopy" 5 + 11) ≤ g_lo k) → ((st.map fun v => v.category).sum ≤ 8) → (o0 < h.2.1) → (o1 < h.2.1) → (h.1 o0 = .inl (false, n0, f)) → (h.1 o1 = .inl (false, n1, g)) → (¬ sp < 0) → (¬ dp < 0) → (¬ n < 0) → (sp.toNatClampNeg + n.toNatClampNeg ≤ n0) → (dp.toNatClampNeg + n.toNatClampNeg ≤ n1) → (P k q ls st (va_up h.1 o1 (.inl (false, n1, va_cpy f g sp.toNatClampNeg dp.toNatClampNeg n.toNatClampNeg)), h.2) K) → P k pc ls (.int n :: .int dp :: .ref o1 :: .int sp :: .ref o0 :: st) h K
def ax_R_objInit (sc : ax_S) (P : ax_J) : Prop := ∀ (k : Nat) (pc : Nat) (q : Nat) (ls : List (Option Value)) (st : List Value) (h : ax_H) (K : ax_K) (idx : Nat) (o : Nat), (decode (g_m k).2.1 pc = .ok (.invokespecial idx, 3)) → (pc + 3 = q) → ((Cond.methodLink (g_m k).1.cls idx Lib.objectInit) ∈ gw) → ((Cond.instanceMethod Lib.objectInit) ∈ gw) → ((Cond.code Lib.objectInit ⟨#[0xb1]⟩ 1 none) ∈ gw) → (1 ≤ g_fr k ∧ 20 ≤ g_lo k) → ((st.map fun v => v.category).sum ≤ 8) → (P k q ls (st) h K) → P k pc ls (.ref o :: st) h K
def ax_R_callV (sc : ax_S) (P : ax_J) : Prop := ∀ (k : Nat) (pc : Nat) (q : Nat) (ls : List (Option Value)) (rest : List Value) (h : ax_H) (K : ax_K) (idx : Nat) (z : Nat) (na : Nat) (vs : List Value) (mc : Nat) (ms : Nat) (o : Nat) (ci : Nat) (fs : List Value), (decode (g_m k).2.1 pc = .ok (.invokevirtual idx, 3)) → (pc + 3 = q) → (ax_lV (g_m k).1.cls idx z ci) → (ax_mok z na) → (ax_up z k) → (vs.length = na) → (∀ v ∈ (Value.ref o :: vs), v.category = 1) → ((Value.ref o :: vs).length ≤ (g_m z).2.2.1) → ((rest.map fun v => v.category).sum ≤ 8) → (mc ≤ h.2.2.1) → (ms ≤ h.2.2.2) → (o < h.2.1) → (h.1 o = .inr (ci, fs)) → (P z 0 (ax_en z (Value.ref o :: vs)) [] (h.1, h.2.1, mc, ms) (fun v h2 => P k q ls (ax_ps v rest) (h2.1, h2.2.1, h.2.2.1 - mc, h.2.2.2 - ms) K)) → P k pc ls (vs.reverse ++ .ref o :: rest) h K
def ax_R_callS (sc : ax_S) (P : ax_J) : Prop := ∀ (k : Nat) (pc : Nat) (q : Nat) (ls : List (Option Value)) (rest : List Value) (h : ax_H) (K : ax_K) (idx : Nat) (z : Nat) (na : Nat) (vs : List Value) (mc : Nat) (ms : Nat), (decode (g_m k).2.1 pc = .ok (.invokestatic idx, 3)) → (pc + 3 = q) → (ax_lS (g_m k).1.cls idx z) → (ax_mok z na) → (ax_up z k) → (vs.length = na) → (∀ v ∈ (vs), v.category = 1) → ((vs).length ≤ (g_m z).2.2.1) → ((rest.map fun v => v.category).sum ≤ 8) → (mc ≤ h.2.2.1) → (ms ≤ h.2.2.2) → (P z 0 (ax_en z (vs)) [] (h.1, h.2.1, mc, ms) (fun v h2 => P k q ls (ax_ps v rest) (h2.1, h2.2.1, h.2.2.1 - mc, h.2.2.2 - ms) K)) → P k pc ls (vs.reverse ++ rest) h K
def ax_R_callI (sc : ax_S) (P : ax_J) : Prop := ∀ (k : Nat) (pc : Nat) (q : Nat) (ls : List (Option Value)) (rest : List Value) (h : ax_H) (K : ax_K) (idx : Nat) (z : Nat) (na : Nat) (vs : List Value) (mc : Nat) (ms : Nat) (o : Nat), (decode (g_m k).2.1 pc = .ok (.invokespecial idx, 3)) → (pc + 3 = q) → (ax_lI (g_m k).1.cls idx z) → (ax_mok z na) → (ax_up z k) → (vs.length = na) → (∀ v ∈ (Value.ref o :: vs), v.category = 1) → ((Value.ref o :: vs).length ≤ (g_m z).2.2.1) → ((rest.map fun v => v.category).sum ≤ 8) → (mc ≤ h.2.2.1) → (ms ≤ h.2.2.2) → (o < h.2.1) → ((g_m z).2.2.2 = none) → (P z 0 (ax_en z (Value.ref o :: vs)) [] (h.1, h.2.1, mc, ms) (fun v h2 => P k q ls (ax_ps v rest) (h2.1, h2.2.1, h.2.2.1 - mc, h.2.2.2 - ms) K)) → P k pc ls (vs.reverse ++ .ref o :: rest) h K
def ax_R_lconst (sc : ax_S) (P : ax_J) : Prop := ∀ (k : Nat) (pc : Nat) (q : Nat) (ls : List (Option Value)) (st : List Value) (h : ax_H) (K : ax_K) (n : Fin 2) (v : Int64), (decode (g_m k).2.1 pc = .ok (.lconst n, 1)) → (pc + 1 = q) → (Int64.ofNat (n : Nat) = v) → (P k q ls (.long v :: st) h K) → P k pc ls (st) h K
def ax_R_ldc2 (sc : ax_S) (P : ax_J) : Prop := ∀ (k : Nat) (pc : Nat) (q : Nat) (ls : List (Option Value)) (st : List Value) (h : ax_H) (K : ax_K) (idx : Nat) (v : Int64), (decode (g_m k).2.1 pc = .ok (.ldc2_w idx, 3)) → (pc + 3 = q) → ((Cond.constantLong (g_m k).1.cls idx v) ∈ gw) → (P k q ls (.long v :: st) h K) → P k pc ls (st) h K
def ax_R_i2l (sc : ax_S) (P : ax_J) : Prop := ∀ (k : Nat) (pc : Nat) (q : Nat) (ls : List (Option Value)) (st : List Value) (h : ax_H) (K : ax_K) (x : Int32) (v : Int64), (decode (g_m k).2.1 pc = .ok (.i2l, 1)) → (pc + 1 = q) → (x.toInt64 = v) → (P k q ls (.long v :: st) h K) → P k pc ls (.int x :: st) h K
def ax_R_inL (sc : ax_S) (P : ax_J) : Prop := ∀ (k : Nat) (pc : Nat) (q : Nat) (ls : List (Option Value)) (st : List Value) (h : ax_H) (K : ax_K) (idx : Nat) (a : Int64) (lo : Int64) (hi : Int64), (decode (g_m k).2.1 pc = .ok (.invokestatic idx, 3)) → (pc + 3 = q) → (ax_lS (g_m k).1.cls idx 66) → (ax_mok 66 3) → (ax_up 66 k) → ((st.map fun v => v.category).sum ≤ 8) → (P k q ls (.int (ax_in a lo hi) :: st) h K) → P k pc ls (.long hi :: .long lo :: .long a :: st) h K
def ax_G0 (sc : ax_S) (P : ax_J) : Prop := ax_R_mono sc P ∧ ax_R_iconst sc P ∧ ax_R_bipush sc P ∧ ax_R_sipush sc P ∧ ax_R_ldc sc P ∧ ax_R_ldcw sc P ∧ ax_R_null sc P ∧ ax_R_iload sc P ∧ ax_R_iload_n sc P
def ax_G1 (sc : ax_S) (P : ax_J) : Prop := ax_R_aload sc P ∧ ax_R_aload_n sc P ∧ ax_R_aloadS sc P ∧ ax_R_aload_nS sc P ∧ ax_R_istore sc P ∧ ax_R_istore_n sc P ∧ ax_R_astore sc P ∧ ax_R_astore_n sc P ∧ ax_R_iinc sc P
def ax_G2 (sc : ax_S) (P : ax_J) : Prop := ax_R_iadd sc P ∧ ax_R_isub sc P ∧ ax_R_imul sc P ∧ ax_R_iand sc P ∧ ax_R_ior sc P ∧ ax_R_ixor sc P ∧ ax_R_ishl sc P ∧ ax_R_ishr sc P ∧ ax_R_iushr sc P
def ax_G3 (sc : ax_S) (P : ax_J) : Prop := ax_R_idiv sc P ∧ ax_R_irem sc P ∧ ax_R_ineg sc P ∧ ax_R_dup sc P ∧ ax_R_pop sc P ∧ ax_R_dup_x1 sc P ∧ ax_R_dup_x2 sc P ∧ ax_R_dup2 sc P ∧ ax_R_goto sc P
def ax_G4 (sc : ax_S) (P : ax_J) : Prop := ax_R_if_eq sc P ∧ ax_R_if_ne sc P ∧ ax_R_if_lt sc P ∧ ax_R_if_ge sc P ∧ ax_R_if_gt sc P ∧ ax_R_if_le sc P ∧ ax_R_icmp_eq sc P ∧ ax_R_icmp_ne sc P ∧ ax_R_icmp_lt sc P
def ax_G5 (sc : ax_S) (P : ax_J) : Prop := ax_R_icmp_ge sc P ∧ ax_R_icmp_gt sc P ∧ ax_R_icmp_le sc P ∧ ax_R_tableIn sc P ∧ ax_R_tableOut sc P ∧ ax_R_get sc P ∧ ax_R_put sc P ∧ ax_R_putF sc P ∧ ax_R_iald sc P
def ax_G6 (sc : ax_S) (P : ax_J) : Prop := ax_R_zald sc P ∧ ax_R_iast sc P ∧ ax_R_zast sc P ∧ ax_R_alen sc P ∧ ax_R_newI sc P ∧ ax_R_newZ sc P ∧ ax_R_new sc P ∧ ax_R_sld sc P ∧ ax_R_slen sc P
def ax_G7 (sc : ax_S) (P : ax_J) : Prop := ax_R_iret sc P ∧ ax_R_vret sc P ∧ ax_R_mmax sc P ∧ ax_R_mmin sc P ∧ ax_R_mabs sc P ∧ ax_R_acopy sc P ∧ ax_R_objInit sc P ∧ ax_R_callV sc P ∧ ax_R_callS sc P
def ax_G8 (sc : ax_S) (P : ax_J) : Prop := ax_R_callI sc P ∧ ax_R_lconst sc P ∧ ax_R_ldc2 sc P ∧ ax_R_i2l sc P ∧ ax_R_inL sc P
def ax_Cl (sc : ax_S) (P : ax_J) : Prop := ax_G0 sc P ∧ ax_G1 sc P ∧ ax_G2 sc P ∧ ax_G3 sc P ∧ ax_G4 sc P ∧ ax_G5 sc P ∧ ax_G6 sc P ∧ ax_G7 sc P ∧ ax_G8 sc P
/-- the least judgement that keeps the rules -/
def Ex (sc : ax_S) : ax_J := fun k pc ls st h K => ∀ P : ax_J, ax_Cl sc P → P k pc ls st h K
theorem x_mono {sc : ax_S} {k : Nat} {pc : Nat} {ls : List (Option Value)} {st : List Value} {h : ax_H} {K : ax_K} {K2 : ax_K} (g0 : ∀ v h2, K v h2 → K2 v h2) (p0 : Ex sc k pc ls st h K) : Ex sc k pc ls st h K2 := fun P hP => hP.1.1 k pc ls st h K K2 g0 (p0 P hP)
theorem x_iconst {sc : ax_S} {k : Nat} {pc : Nat} {q : Nat} {ls : List (Option Value)} {st : List Value} {h : ax_H} {K : ax_K} {n : Int} {v : Int32} (g0 : decode (g_m k).2.1 pc = .ok (.iconst n, 1)) (g1 : pc + 1 = q) (g2 : Int32.ofInt n = v) (p0 : Ex sc k q ls (.int v :: st) h K) : Ex sc k pc ls (st) h K := fun P hP => hP.1.2.1 k pc q ls st h K n v g0 g1 g2 (p0 P hP)
theorem x_bipush {sc : ax_S} {k : Nat} {pc : Nat} {q : Nat} {ls : List (Option Value)} {st : List Value} {h : ax_H} {K : ax_K} {n : Int} {v : Int32} (g0 : decode (g_m k).2.1 pc = .ok (.bipush n, 2)) (g1 : pc + 2 = q) (g2 : (Int8.ofInt n).toInt32 = v) (p0 : Ex sc k q ls (.int v :: st) h K) : Ex sc k pc ls (st) h K := fun P hP => hP.1.2.2.1 k pc q ls st h K n v g0 g1 g2 (p0 P hP)
theorem x_sipush {sc : ax_S} {k : Nat} {pc : Nat} {q : Nat} {ls : List (Option Value)} {st : List Value} {h : ax_H} {K : ax_K} {n : Int} {v : Int32} (g0 : decode (g_m k).2.1 pc = .ok (.sipush n, 3)) (g1 : pc + 3 = q) (g2 : (Int16.ofInt n).toInt32 = v) (p0 : Ex sc k q ls (.int v :: st) h K) : Ex sc k pc ls (st) h K := fun P hP => hP.1.2.2.2.1 k pc q ls st h K n v g0 g1 g2 (p0 P hP)
theorem x_ldc {sc : ax_S} {k : Nat} {pc : Nat} {q : Nat} {ls : List (Option Value)} {st : List Value} {h : ax_H} {K : ax_K} {idx : Nat} {v : Int32} (g0 : decode (g_m k).2.1 pc = .ok (.ldc idx, 2)) (g1 : pc + 2 = q) (g2 : (Cond.constant (g_m k).1.cls idx v) ∈ gw) (p0 : Ex sc k q ls (.int v :: st) h K) : Ex sc k pc ls (st) h K := fun P hP => hP.1.2.2.2.2.1 k pc q ls st h K idx v g0 g1 g2 (p0 P hP)
theorem x_ldcw {sc : ax_S} {k : Nat} {pc : Nat} {q : Nat} {ls : List (Option Value)} {st : List Value} {h : ax_H} {K : ax_K} {idx : Nat} {v : Int32} (g0 : decode (g_m k).2.1 pc = .ok (.ldc_w idx, 3)) (g1 : pc + 3 = q) (g2 : (Cond.constant (g_m k).1.cls idx v) ∈ gw) (p0 : Ex sc k q ls (.int v :: st) h K) : Ex sc k pc ls (st) h K := fun P hP => hP.1.2.2.2.2.2.1 k pc q ls st h K idx v g0 g1 g2 (p0 P hP)
theorem x_null {sc : ax_S} {k : Nat} {pc : Nat} {q : Nat} {ls : List (Option Value)} {st : List Value} {h : ax_H} {K : ax_K} (g0 : decode (g_m k).2.1 pc = .ok (.aconst_null, 1)) (g1 : pc + 1 = q) (p0 : Ex sc k q ls (.null :: st) h K) : Ex sc k pc ls (st) h K := fun P hP => hP.1.2.2.2.2.2.2.1 k pc q ls st h K g0 g1 (p0 P hP)
theorem x_iload {sc : ax_S} {k : Nat} {pc : Nat} {q : Nat} {ls : List (Option Value)} {st : List Value} {h : ax_H} {K : ax_K} {i : Nat} {x : Int32} (g0 : decode (g_m k).2.1 pc = .ok (.iload i, 2)) (g1 : pc + 2 = q) (g2 : ls[i]? = some (some (.int x))) (p0 : Ex sc k q ls (.int x :: st) h K) : Ex sc k pc ls (st) h K := fun P hP => hP.1.2.2.2.2.2.2.2.1 k pc q ls st h K i x g0 g1 g2 (p0 P hP)
theorem x_iload_n {sc : ax_S} {k : Nat} {pc : Nat} {q : Nat} {ls : List (Option Value)} {st : List Value} {h : ax_H} {K : ax_K} {i : Nat} {x : Int32} {j : Fin 4} (g0 : decode (g_m k).2.1 pc = .ok (.iload_n j, 1)) (g1 : pc + 1 = q) (g2 : (j : Nat) = i) (g3 : ls[i]? = some (some (.int x))) (p0 : Ex sc k q ls (.int x :: st) h K) : Ex sc k pc ls (st) h K := fun P hP => hP.1.2.2.2.2.2.2.2.2 k pc q ls st h K i x j g0 g1 g2 g3 (p0 P hP)
theorem x_aload {sc : ax_S} {k : Nat} {pc : Nat} {q : Nat} {ls : List (Option Value)} {st : List Value} {h : ax_H} {K : ax_K} {i : Nat} {o : Nat} (g0 : decode (g_m k).2.1 pc = .ok (.aload i, 2)) (g1 : pc + 2 = q) (g2 : ls[i]? = some (some (.ref o))) (p0 : Ex sc k q ls (.ref o :: st) h K) : Ex sc k pc ls (st) h K := fun P hP => hP.2.1.1 k pc q ls st h K i o g0 g1 g2 (p0 P hP)
theorem x_aload_n {sc : ax_S} {k : Nat} {pc : Nat} {q : Nat} {ls : List (Option Value)} {st : List Value} {h : ax_H} {K : ax_K} {i : Nat} {o : Nat} {j : Fin 4} (g0 : decode (g_m k).2.1 pc = .ok (.aload_n j, 1)) (g1 : pc + 1 = q) (g2 : (j : Nat) = i) (g3 : ls[i]? = some (some (.ref o))) (p0 : Ex sc k q ls (.ref o :: st) h K) : Ex sc k pc ls (st) h K := fun P hP => hP.2.1.2.1 k pc q ls st h K i o j g0 g1 g2 g3 (p0 P hP)
theorem x_aloadS {sc : ax_S} {k : Nat} {pc : Nat} {q : Nat} {ls : List (Option Value)} {st : List Value} {h : ax_H} {K : ax_K} {i : Nat} {o : Nat} (g0 : decode (g_m k).2.1 pc = .ok (.aload i, 2)) (g1 : pc + 2 = q) (g2 : ls[i]? = some (some (.retAddr o))) (p0 : Ex sc k q ls (.retAddr o :: st) h K) : Ex sc k pc ls (st) h K := fun P hP => hP.2.1.2.2.1 k pc q ls st h K i o g0 g1 g2 (p0 P hP)
theorem x_aload_nS {sc : ax_S} {k : Nat} {pc : Nat} {q : Nat} {ls : List (Option Value)} {st : List Value} {h : ax_H} {K : ax_K} {i : Nat} {o : Nat} {j : Fin 4} (g0 : decode (g_m k).2.1 pc = .ok (.aload_n j, 1)) (g1 : pc + 1 = q) (g2 : (j : Nat) = i) (g3 : ls[i]? = some (some (.retAddr o))) (p0 : Ex sc k q ls (.retAddr o :: st) h K) : Ex sc k pc ls (st) h K := fun P hP => hP.2.1.2.2.2.1 k pc q ls st h K i o j g0 g1 g2 g3 (p0 P hP)
theorem x_istore {sc : ax_S} {k : Nat} {pc : Nat} {q : Nat} {ls : List (Option Value)} {st : List Value} {h : ax_H} {K : ax_K} {i : Nat} {x : Int32} (g0 : decode (g_m k).2.1 pc = .ok (.istore i, 2)) (g1 : pc + 2 = q) (g2 : i < ls.length) (p0 : Ex sc k q (ls.set i (some (.int x))) st h K) : Ex sc k pc ls (.int x :: st) h K := fun P hP => hP.2.1.2.2.2.2.1 k pc q ls st h K i x g0 g1 g2 (p0 P hP)
theorem x_istore_n {sc : ax_S} {k : Nat} {pc : Nat} {q : Nat} {ls : List (Option Value)} {st : List Value} {h : ax_H} {K : ax_K} {i : Nat} {x : Int32} {j : Fin 4} (g0 : decode (g_m k).2.1 pc = .ok (.istore_n j, 1)) (g1 : pc + 1 = q) (g2 : (j : Nat) = i) (g3 : i < ls.length) (p0 : Ex sc k q (ls.set i (some (.int x))) st h K) : Ex sc k pc ls (.int x :: st) h K := fun P hP => hP.2.1.2.2.2.2.2.1 k pc q ls st h K i x j g0 g1 g2 g3 (p0 P hP)
theorem x_astore {sc : ax_S} {k : Nat} {pc : Nat} {q : Nat} {ls : List (Option Value)} {st : List Value} {h : ax_H} {K : ax_K} {i : Nat} {o : Nat} (g0 : decode (g_m k).2.1 pc = .ok (.astore i, 2)) (g1 : pc + 2 = q) (g2 : i < ls.length) (p0 : Ex sc k q (ls.set i (some (.ref o))) st h K) : Ex sc k pc ls (.ref o :: st) h K := fun P hP => hP.2.1.2.2.2.2.2.2.1 k pc q ls st h K i o g0 g1 g2 (p0 P hP)
theorem x_astore_n {sc : ax_S} {k : Nat} {pc : Nat} {q : Nat} {ls : List (Option Value)} {st : List Value} {h : ax_H} {K : ax_K} {i : Nat} {o : Nat} {j : Fin 4} (g0 : decode (g_m k).2.1 pc = .ok (.astore_n j, 1)) (g1 : pc + 1 = q) (g2 : (j : Nat) = i) (g3 : i < ls.length) (p0 : Ex sc k q (ls.set i (some (.ref o))) st h K) : Ex sc k pc ls (.ref o :: st) h K := fun P hP => hP.2.1.2.2.2.2.2.2.2.1 k pc q ls st h K i o j g0 g1 g2 g3 (p0 P hP)
theorem x_iinc {sc : ax_S} {k : Nat} {pc : Nat} {q : Nat} {ls : List (Option Value)} {st : List Value} {h : ax_H} {K : ax_K} {i : Nat} {n : Int} {x : Int32} {v : Int32} (g0 : decode (g_m k).2.1 pc = .ok (.iinc i n, 3)) (g1 : pc + 3 = q) (g2 : ls[i]? = some (some (.int x))) (g3 : x + Int32.ofInt n = v) (p0 : Ex sc k q (ls.set i (some (.int v))) st h K) : Ex sc k pc ls st h K := fun P hP => hP.2.1.2.2.2.2.2.2.2.2 k pc q ls st h K i n x v g0 g1 g2 g3 (p0 P hP)
theorem x_iadd {sc : ax_S} {k : Nat} {pc : Nat} {q : Nat} {ls : List (Option Value)} {st : List Value} {h : ax_H} {K : ax_K} {x : Int32} {y : Int32} (g0 : decode (g_m k).2.1 pc = .ok (.iadd, 1)) (g1 : pc + 1 = q) (p0 : Ex sc k q ls (.int (x + y) :: st) h K) : Ex sc k pc ls (.int y :: .int x :: st) h K := fun P hP => hP.2.2.1.1 k pc q ls st h K x y g0 g1 (p0 P hP)
theorem x_isub {sc : ax_S} {k : Nat} {pc : Nat} {q : Nat} {ls : List (Option Value)} {st : List Value} {h : ax_H} {K : ax_K} {x : Int32} {y : Int32} (g0 : decode (g_m k).2.1 pc = .ok (.isub, 1)) (g1 : pc + 1 = q) (p0 : Ex sc k q ls (.int (x - y) :: st) h K) : Ex sc k pc ls (.int y :: .int x :: st) h K := fun P hP => hP.2.2.1.2.1 k pc q ls st h K x y g0 g1 (p0 P hP)
theorem x_imul {sc : ax_S} {k : Nat} {pc : Nat} {q : Nat} {ls : List (Option Value)} {st : List Value} {h : ax_H} {K : ax_K} {x : Int32} {y : Int32} (g0 : decode (g_m k).2.1 pc = .ok (.imul, 1)) (g1 : pc + 1 = q) (p0 : Ex sc k q ls (.int (x * y) :: st) h K) : Ex sc k pc ls (.int y :: .int x :: st) h K := fun P hP => hP.2.2.1.2.2.1 k pc q ls st h K x y g0 g1 (p0 P hP)
theorem x_iand {sc : ax_S} {k : Nat} {pc : Nat} {q : Nat} {ls : List (Option Value)} {st : List Value} {h : ax_H} {K : ax_K} {x : Int32} {y : Int32} (g0 : decode (g_m k).2.1 pc = .ok (.iand, 1)) (g1 : pc + 1 = q) (p0 : Ex sc k q ls (.int (x &&& y) :: st) h K) : Ex sc k pc ls (.int y :: .int x :: st) h K := fun P hP => hP.2.2.1.2.2.2.1 k pc q ls st h K x y g0 g1 (p0 P hP)
theorem x_ior {sc : ax_S} {k : Nat} {pc : Nat} {q : Nat} {ls : List (Option Value)} {st : List Value} {h : ax_H} {K : ax_K} {x : Int32} {y : Int32} (g0 : decode (g_m k).2.1 pc = .ok (.ior, 1)) (g1 : pc + 1 = q) (p0 : Ex sc k q ls (.int (x ||| y) :: st) h K) : Ex sc k pc ls (.int y :: .int x :: st) h K := fun P hP => hP.2.2.1.2.2.2.2.1 k pc q ls st h K x y g0 g1 (p0 P hP)
theorem x_ixor {sc : ax_S} {k : Nat} {pc : Nat} {q : Nat} {ls : List (Option Value)} {st : List Value} {h : ax_H} {K : ax_K} {x : Int32} {y : Int32} (g0 : decode (g_m k).2.1 pc = .ok (.ixor, 1)) (g1 : pc + 1 = q) (p0 : Ex sc k q ls (.int (x ^^^ y) :: st) h K) : Ex sc k pc ls (.int y :: .int x :: st) h K := fun P hP => hP.2.2.1.2.2.2.2.2.1 k pc q ls st h K x y g0 g1 (p0 P hP)
theorem x_ishl {sc : ax_S} {k : Nat} {pc : Nat} {q : Nat} {ls : List (Option Value)} {st : List Value} {h : ax_H} {K : ax_K} {x : Int32} {y : Int32} (g0 : decode (g_m k).2.1 pc = .ok (.ishl, 1)) (g1 : pc + 1 = q) (p0 : Ex sc k q ls (.int (x <<< (y &&& 31)) :: st) h K) : Ex sc k pc ls (.int y :: .int x :: st) h K := fun P hP => hP.2.2.1.2.2.2.2.2.2.1 k pc q ls st h K x y g0 g1 (p0 P hP)
theorem x_ishr {sc : ax_S} {k : Nat} {pc : Nat} {q : Nat} {ls : List (Option Value)} {st : List Value} {h : ax_H} {K : ax_K} {x : Int32} {y : Int32} (g0 : decode (g_m k).2.1 pc = .ok (.ishr, 1)) (g1 : pc + 1 = q) (p0 : Ex sc k q ls (.int (x >>> (y &&& 31)) :: st) h K) : Ex sc k pc ls (.int y :: .int x :: st) h K := fun P hP => hP.2.2.1.2.2.2.2.2.2.2.1 k pc q ls st h K x y g0 g1 (p0 P hP)
theorem x_iushr {sc : ax_S} {k : Nat} {pc : Nat} {q : Nat} {ls : List (Option Value)} {st : List Value} {h : ax_H} {K : ax_K} {x : Int32} {y : Int32} (g0 : decode (g_m k).2.1 pc = .ok (.iushr, 1)) (g1 : pc + 1 = q) (p0 : Ex sc k q ls (.int ((x.toUInt32 >>> (y.toUInt32 &&& Int32.toUInt32 31)).toInt32) :: st) h K) : Ex sc k pc ls (.int y :: .int x :: st) h K := fun P hP => hP.2.2.1.2.2.2.2.2.2.2.2 k pc q ls st h K x y g0 g1 (p0 P hP)
theorem x_idiv {sc : ax_S} {k : Nat} {pc : Nat} {q : Nat} {ls : List (Option Value)} {st : List Value} {h : ax_H} {K : ax_K} {x : Int32} {y : Int32} (g0 : decode (g_m k).2.1 pc = .ok (.idiv, 1)) (g1 : pc + 1 = q) (g2 : ¬ y = 0) (p0 : Ex sc k q ls (.int (x / y) :: st) h K) : Ex sc k pc ls (.int y :: .int x :: st) h K := fun P hP => hP.2.2.2.1.1 k pc q ls st h K x y g0 g1 g2 (p0 P hP)
theorem x_irem {sc : ax_S} {k : Nat} {pc : Nat} {q : Nat} {ls : List (Option Value)} {st : List Value} {h : ax_H} {K : ax_K} {x : Int32} {y : Int32} (g0 : decode (g_m k).2.1 pc = .ok (.irem, 1)) (g1 : pc + 1 = q) (g2 : ¬ y = 0) (p0 : Ex sc k q ls (.int (x - x / y * y) :: st) h K) : Ex sc k pc ls (.int y :: .int x :: st) h K := fun P hP => hP.2.2.2.1.2.1 k pc q ls st h K x y g0 g1 g2 (p0 P hP)
theorem x_ineg {sc : ax_S} {k : Nat} {pc : Nat} {q : Nat} {ls : List (Option Value)} {st : List Value} {h : ax_H} {K : ax_K} {x : Int32} (g0 : decode (g_m k).2.1 pc = .ok (.ineg, 1)) (g1 : pc + 1 = q) (p0 : Ex sc k q ls (.int (-x) :: st) h K) : Ex sc k pc ls (.int x :: st) h K := fun P hP => hP.2.2.2.1.2.2.1 k pc q ls st h K x g0 g1 (p0 P hP)
theorem x_dup {sc : ax_S} {k : Nat} {pc : Nat} {q : Nat} {ls : List (Option Value)} {st : List Value} {h : ax_H} {K : ax_K} {x : Value} (g0 : decode (g_m k).2.1 pc = .ok (.dup, 1)) (g1 : pc + 1 = q) (g2 : x.category = 1) (p0 : Ex sc k q ls (x :: x :: st) h K) : Ex sc k pc ls (x :: st) h K := fun P hP => hP.2.2.2.1.2.2.2.1 k pc q ls st h K x g0 g1 g2 (p0 P hP)
theorem x_pop {sc : ax_S} {k : Nat} {pc : Nat} {q : Nat} {ls : List (Option Value)} {st : List Value} {h : ax_H} {K : ax_K} {x : Value} (g0 : decode (g_m k).2.1 pc = .ok (.pop, 1)) (g1 : pc + 1 = q) (g2 : x.category = 1) (p0 : Ex sc k q ls (st) h K) : Ex sc k pc ls (x :: st) h K := fun P hP => hP.2.2.2.1.2.2.2.2.1 k pc q ls st h K x g0 g1 g2 (p0 P hP)
theorem x_dup_x1 {sc : ax_S} {k : Nat} {pc : Nat} {q : Nat} {ls : List (Option Value)} {st : List Value} {h : ax_H} {K : ax_K} {x : Value} {y : Value} (g0 : decode (g_m k).2.1 pc = .ok (.dup_x1, 1)) (g1 : pc + 1 = q) (g2 : x.category = 1) (g3 : y.category = 1) (p0 : Ex sc k q ls (x :: y :: x :: st) h K) : Ex sc k pc ls (x :: y :: st) h K := fun P hP => hP.2.2.2.1.2.2.2.2.2.1 k pc q ls st h K x y g0 g1 g2 g3 (p0 P hP)
theorem x_dup_x2 {sc : ax_S} {k : Nat} {pc : Nat} {q : Nat} {ls : List (Option Value)} {st : List Value} {h : ax_H} {K : ax_K} {x : Value} {y : Value} {z : Value} (g0 : decode (g_m k).2.1 pc = .ok (.dup_x2, 1)) (g1 : pc + 1 = q) (g2 : x.category = 1) (g3 : y.category = 1) (g4 : z.category = 1) (p0 : Ex sc k q ls (x :: y :: z :: x :: st) h K) : Ex sc k pc ls (x :: y :: z :: st) h K := fun P hP => hP.2.2.2.1.2.2.2.2.2.2.1 k pc q ls st h K x y z g0 g1 g2 g3 g4 (p0 P hP)
theorem x_dup2 {sc : ax_S} {k : Nat} {pc : Nat} {q : Nat} {ls : List (Option Value)} {st : List Value} {h : ax_H} {K : ax_K} {x : Value} {y : Value} (g0 : decode (g_m k).2.1 pc = .ok (.dup2, 1)) (g1 : pc + 1 = q) (g2 : x.category = 1) (g3 : y.category = 1) (p0 : Ex sc k q ls (x :: y :: x :: y :: st) h K) : Ex sc k pc ls (x :: y :: st) h K := fun P hP => hP.2.2.2.1.2.2.2.2.2.2.2.1 k pc q ls st h K x y g0 g1 g2 g3 (p0 P hP)
theorem x_goto {sc : ax_S} {k : Nat} {pc : Nat} {ls : List (Option Value)} {st : List Value} {h : ax_H} {K : ax_K} {off : Int} {t : Nat} (g0 : decode (g_m k).2.1 pc = .ok (.goto off, 3)) (g1 : (pc : Int) + off = (t : Int)) (p0 : Ex sc k t ls st h K) : Ex sc k pc ls st h K := fun P hP => hP.2.2.2.1.2.2.2.2.2.2.2.2 k pc ls st h K off t g0 g1 (p0 P hP)
theorem x_if_eq {sc : ax_S} {k : Nat} {pc : Nat} {q : Nat} {ls : List (Option Value)} {st : List Value} {h : ax_H} {K : ax_K} {off : Int} {t : Nat} {x : Int32} (g0 : decode (g_m k).2.1 pc = .ok (.ifCond .eq off, 3)) (g1 : (pc : Int) + off = (t : Int)) (g2 : pc + 3 = q) (p0 : (x = 0) → Ex sc k t ls st h K) (p1 : ¬ (x = 0) → Ex sc k q ls st h K) : Ex sc k pc ls (.int x :: st) h K := fun P hP => hP.2.2.2.2.1.1 k pc q ls st h K off t x g0 g1 g2 (fun c => p0 c P hP) (fun c => p1 c P hP)
theorem x_if_ne {sc : ax_S} {k : Nat} {pc : Nat} {q : Nat} {ls : List (Option Value)} {st : List Value} {h : ax_H} {K : ax_K} {off : Int} {t : Nat} {x : Int32} (g0 : decode (g_m k).2.1 pc = .ok (.ifCond .ne off, 3)) (g1 : (pc : Int) + off = (t : Int)) (g2 : pc + 3 = q) (p0 : (¬ x = 0) → Ex sc k t ls st h K) (p1 : x = 0 → Ex sc k q ls st h K) : Ex sc k pc ls (.int x :: st) h K := fun P hP => hP.2.2.2.2.1.2.1 k pc q ls st h K off t x g0 g1 g2 (fun c => p0 c P hP) (fun c => p1 c P hP)
theorem x_if_lt {sc : ax_S} {k : Nat} {pc : Nat} {q : Nat} {ls : List (Option Value)} {st : List Value} {h : ax_H} {K : ax_K} {off : Int} {t : Nat} {x : Int32} (g0 : decode (g_m k).2.1 pc = .ok (.ifCond .lt off, 3)) (g1 : (pc : Int) + off = (t : Int)) (g2 : pc + 3 = q) (p0 : (x < 0) → Ex sc k t ls st h K) (p1 : ¬ (x < 0) → Ex sc k q ls st h K) : Ex sc k pc ls (.int x :: st) h K := fun P hP => hP.2.2.2.2.1.2.2.1 k pc q ls st h K off t x g0 g1 g2 (fun c => p0 c P hP) (fun c => p1 c P hP)
theorem x_if_ge {sc : ax_S} {k : Nat} {pc : Nat} {q : Nat} {ls : List (Option Value)} {st : List Value} {h : ax_H} {K : ax_K} {off : Int} {t : Nat} {x : Int32} (g0 : decode (g_m k).2.1 pc = .ok (.ifCond .ge off, 3)) (g1 : (pc : Int) + off = (t : Int)) (g2 : pc + 3 = q) (p0 : (0 ≤ x) → Ex sc k t ls st h K) (p1 : ¬ (0 ≤ x) → Ex sc k q ls st h K) : Ex sc k pc ls (.int x :: st) h K := fun P hP => hP.2.2.2.2.1.2.2.2.1 k pc q ls st h K off t x g0 g1 g2 (fun c => p0 c P hP) (fun c => p1 c P hP)
theorem x_if_gt {sc : ax_S} {k : Nat} {pc : Nat} {q : Nat} {ls : List (Option Value)} {st : List Value} {h : ax_H} {K : ax_K} {off : Int} {t : Nat} {x : Int32} (g0 : decode (g_m k).2.1 pc = .ok (.ifCond .gt off, 3)) (g1 : (pc : Int) + off = (t : Int)) (g2 : pc + 3 = q) (p0 : (0 < x) → Ex sc k t ls st h K) (p1 : ¬ (0 < x) → Ex sc k q ls st h K) : Ex sc k pc ls (.int x :: st) h K := fun P hP => hP.2.2.2.2.1.2.2.2.2.1 k pc q ls st h K off t x g0 g1 g2 (fun c => p0 c P hP) (fun c => p1 c P hP)
theorem x_if_le {sc : ax_S} {k : Nat} {pc : Nat} {q : Nat} {ls : List (Option Value)} {st : List Value} {h : ax_H} {K : ax_K} {off : Int} {t : Nat} {x : Int32} (g0 : decode (g_m k).2.1 pc = .ok (.ifCond .le off, 3)) (g1 : (pc : Int) + off = (t : Int)) (g2 : pc + 3 = q) (p0 : (x ≤ 0) → Ex sc k t ls st h K) (p1 : ¬ (x ≤ 0) → Ex sc k q ls st h K) : Ex sc k pc ls (.int x :: st) h K := fun P hP => hP.2.2.2.2.1.2.2.2.2.2.1 k pc q ls st h K off t x g0 g1 g2 (fun c => p0 c P hP) (fun c => p1 c P hP)
theorem x_icmp_eq {sc : ax_S} {k : Nat} {pc : Nat} {q : Nat} {ls : List (Option Value)} {st : List Value} {h : ax_H} {K : ax_K} {off : Int} {t : Nat} {x : Int32} {y : Int32} (g0 : decode (g_m k).2.1 pc = .ok (.if_icmp .eq off, 3)) (g1 : (pc : Int) + off = (t : Int)) (g2 : pc + 3 = q) (p0 : (x = y) → Ex sc k t ls st h K) (p1 : ¬ (x = y) → Ex sc k q ls st h K) : Ex sc k pc ls (.int y :: .int x :: st) h K := fun P hP => hP.2.2.2.2.1.2.2.2.2.2.2.1 k pc q ls st h K off t x y g0 g1 g2 (fun c => p0 c P hP) (fun c => p1 c P hP)
theorem x_icmp_ne {sc : ax_S} {k : Nat} {pc : Nat} {q : Nat} {ls : List (Option Value)} {st : List Value} {h : ax_H} {K : ax_K} {off : Int} {t : Nat} {x : Int32} {y : Int32} (g0 : decode (g_m k).2.1 pc = .ok (.if_icmp .ne off, 3)) (g1 : (pc : Int) + off = (t : Int)) (g2 : pc + 3 = q) (p0 : (¬ x = y) → Ex sc k t ls st h K) (p1 : x = y → Ex sc k q ls st h K) : Ex sc k pc ls (.int y :: .int x :: st) h K := fun P hP => hP.2.2.2.2.1.2.2.2.2.2.2.2.1 k pc q ls st h K off t x y g0 g1 g2 (fun c => p0 c P hP) (fun c => p1 c P hP)
theorem x_icmp_lt {sc : ax_S} {k : Nat} {pc : Nat} {q : Nat} {ls : List (Option Value)} {st : List Value} {h : ax_H} {K : ax_K} {off : Int} {t : Nat} {x : Int32} {y : Int32} (g0 : decode (g_m k).2.1 pc = .ok (.if_icmp .lt off, 3)) (g1 : (pc : Int) + off = (t : Int)) (g2 : pc + 3 = q) (p0 : (x < y) → Ex sc k t ls st h K) (p1 : ¬ (x < y) → Ex sc k q ls st h K) : Ex sc k pc ls (.int y :: .int x :: st) h K := fun P hP => hP.2.2.2.2.1.2.2.2.2.2.2.2.2 k pc q ls st h K off t x y g0 g1 g2 (fun c => p0 c P hP) (fun c => p1 c P hP)
theorem x_icmp_ge {sc : ax_S} {k : Nat} {pc : Nat} {q : Nat} {ls : List (Option Value)} {st : List Value} {h : ax_H} {K : ax_K} {off : Int} {t : Nat} {x : Int32} {y : Int32} (g0 : decode (g_m k).2.1 pc = .ok (.if_icmp .ge off, 3)) (g1 : (pc : Int) + off = (t : Int)) (g2 : pc + 3 = q) (p0 : (y ≤ x) → Ex sc k t ls st h K) (p1 : ¬ (y ≤ x) → Ex sc k q ls st h K) : Ex sc k pc ls (.int y :: .int x :: st) h K := fun P hP => hP.2.2.2.2.2.1.1 k pc q ls st h K off t x y g0 g1 g2 (fun c => p0 c P hP) (fun c => p1 c P hP)
theorem x_icmp_gt {sc : ax_S} {k : Nat} {pc : Nat} {q : Nat} {ls : List (Option Value)} {st : List Value} {h : ax_H} {K : ax_K} {off : Int} {t : Nat} {x : Int32} {y : Int32} (g0 : decode (g_m k).2.1 pc = .ok (.if_icmp .gt off, 3)) (g1 : (pc : Int) + off = (t : Int)) (g2 : pc + 3 = q) (p0 : (y < x) → Ex sc k t ls st h K) (p1 : ¬ (y < x) → Ex sc k q ls st h K) : Ex sc k pc ls (.int y :: .int x :: st) h K := fun P hP => hP.2.2.2.2.2.1.2.1 k pc q ls st h K off t x y g0 g1 g2 (fun c => p0 c P hP) (fun c => p1 c P hP)
theorem x_icmp_le {sc : ax_S} {k : Nat} {pc : Nat} {q : Nat} {ls : List (Option Value)} {st : List Value} {h : ax_H} {K : ax_K} {off : Int} {t : Nat} {x : Int32} {y : Int32} (g0 : decode (g_m k).2.1 pc = .ok (.if_icmp .le off, 3)) (g1 : (pc : Int) + off = (t : Int)) (g2 : pc + 3 = q) (p0 : (x ≤ y) → Ex sc k t ls st h K) (p1 : ¬ (x ≤ y) → Ex sc k q ls st h K) : Ex sc k pc ls (.int y :: .int x :: st) h K := fun P hP => hP.2.2.2.2.2.1.2.2.1 k pc q ls st h K off t x y g0 g1 g2 (fun c => p0 c P hP) (fun c => p1 c P hP)
theorem x_tableIn {sc : ax_S} {k : Nat} {pc : Nat} {ls : List (Option Value)} {st : List Value} {h : ax_H} {K : ax_K} {d : Int} {lo : Int} {hi : Int} {offs : Array Int} {len : Nat} {x : Int32} {off : Int} {t : Nat} (g0 : decode (g_m k).2.1 pc = .ok (.tableswitch d lo hi offs, len)) (g1 : ¬ x.toInt < lo) (g2 : ¬ hi < x.toInt) (g3 : offs[(x.toInt - lo).toNat]? = some off) (g4 : (pc : Int) + off = (t : Int)) (p0 : Ex sc k t ls st h K) : Ex sc k pc ls (.int x :: st) h K := fun P hP => hP.2.2.2.2.2.1.2.2.2.1 k pc ls st h K d lo hi offs len x off t g0 g1 g2 g3 g4 (p0 P hP)
theorem x_tableOut {sc : ax_S} {k : Nat} {pc : Nat} {ls : List (Option Value)} {st : List Value} {h : ax_H} {K : ax_K} {d : Int} {lo : Int} {hi : Int} {offs : Array Int} {len : Nat} {x : Int32} {t : Nat} (g0 : decode (g_m k).2.1 pc = .ok (.tableswitch d lo hi offs, len)) (g1 : (x.toInt < lo ∨ hi < x.toInt)) (g2 : (pc : Int) + d = (t : Int)) (p0 : Ex sc k t ls st h K) : Ex sc k pc ls (.int x :: st) h K := fun P hP => hP.2.2.2.2.2.1.2.2.2.2.1 k pc ls st h K d lo hi offs len x t g0 g1 g2 (p0 P hP)
theorem x_get {sc : ax_S} {k : Nat} {pc : Nat} {q : Nat} {ls : List (Option Value)} {st : List Value} {h : ax_H} {K : ax_K} {idx : Nat} {o : Nat} {ci : Nat} {j : Nat} {fs : List Value} {v : Value} (g0 : decode (g_m k).2.1 pc = .ok (.getfield idx, 3)) (g1 : pc + 3 = q) (g2 : ax_fld (g_m k).1.cls idx ci j) (g3 : o < h.2.1) (g4 : h.1 o = .inr (ci, fs)) (g5 : fs[j]? = some v) (p0 : Ex sc k q ls (v :: st) h K) : Ex sc k pc ls (.ref o :: st) h K := fun P hP => hP.2.2.2.2.2.1.2.2.2.2.2.1 k pc q ls st h K idx o ci j fs v g0 g1 g2 g3 g4 g5 (p0 P hP)
theorem x_put {sc : ax_S} {k : Nat} {pc : Nat} {q : Nat} {ls : List (Option Value)} {st : List Value} {h : ax_H} {K : ax_K} {idx : Nat} {o : Nat} {ci : Nat} {j : Nat} {fs : List Value} {v : Value} {ty : FieldType} (g0 : decode (g_m k).2.1 pc = .ok (.putfield idx, 3)) (g1 : pc + 3 = q) (g2 : ax_fldW (g_m k).1.cls idx ci j ty false) (g3 : o < h.2.1) (g4 : h.1 o = .inr (ci, fs)) (g5 : j < fs.length) (g6 : narrow ty v = v) (g7 : fits ty v = true) (p0 : Ex sc k q ls st (va_up h.1 o (.inr (ci, fs.set j v)), h.2) K) : Ex sc k pc ls (v :: .ref o :: st) h K := fun P hP => hP.2.2.2.2.2.1.2.2.2.2.2.2.1 k pc q ls st h K idx o ci j fs v ty g0 g1 g2 g3 g4 g5 g6 g7 (p0 P hP)
theorem x_putF {sc : ax_S} {k : Nat} {pc : Nat} {q : Nat} {ls : List (Option Value)} {st : List Value} {h : ax_H} {K : ax_K} {idx : Nat} {o : Nat} {ci : Nat} {j : Nat} {fs : List Value} {v : Value} {ty : FieldType} (g0 : decode (g_m k).2.1 pc = .ok (.putfield idx, 3)) (g1 : pc + 3 = q) (g2 : ax_fldW (g_m k).1.cls idx ci j ty true) (g3 : o < h.2.1) (g4 : h.1 o = .inr (ci, fs)) (g5 : j < fs.length) (g6 : narrow ty v = v) (g7 : fits ty v = true) (g8 : (g_m k).1.name = "<init>") (p0 : Ex sc k q ls st (va_up h.1 o (.inr (ci, fs.set j v)), h.2) K) : Ex sc k pc ls (v :: .ref o :: st) h K := fun P hP => hP.2.2.2.2.2.1.2.2.2.2.2.2.2.1 k pc q ls st h K idx o ci j fs v ty g0 g1 g2 g3 g4 g5 g6 g7 g8 (p0 P hP)
theorem x_iald {sc : ax_S} {k : Nat} {pc : Nat} {q : Nat} {ls : List (Option Value)} {st : List Value} {h : ax_H} {K : ax_K} {o : Nat} {n : Nat} {f : Nat → Int32} {i : Int32} (g0 : decode (g_m k).2.1 pc = .ok (.iaload, 1)) (g1 : pc + 1 = q) (g2 : o < h.2.1) (g3 : h.1 o = .inl (false, n, f)) (g4 : vp_in i n) (p0 : Ex sc k q ls (.int (f i.toNatClampNeg) :: st) h K) : Ex sc k pc ls (.int i :: .ref o :: st) h K := fun P hP => hP.2.2.2.2.2.1.2.2.2.2.2.2.2.2 k pc q ls st h K o n f i g0 g1 g2 g3 g4 (p0 P hP)
theorem x_zald {sc : ax_S} {k : Nat} {pc : Nat} {q : Nat} {ls : List (Option Value)} {st : List Value} {h : ax_H} {K : ax_K} {o : Nat} {n : Nat} {f : Nat → Int32} {i : Int32} (g0 : decode (g_m k).2.1 pc = .ok (.baload, 1)) (g1 : pc + 1 = q) (g2 : o < h.2.1) (g3 : h.1 o = .inl (true, n, f)) (g4 : vp_in i n) (p0 : Ex sc k q ls (.int (f i.toNatClampNeg) :: st) h K) : Ex sc k pc ls (.int i :: .ref o :: st) h K := fun P hP => hP.2.2.2.2.2.2.1.1 k pc q ls st h K o n f i g0 g1 g2 g3 g4 (p0 P hP)
theorem x_iast {sc : ax_S} {k : Nat} {pc : Nat} {q : Nat} {ls : List (Option Value)} {st : List Value} {h : ax_H} {K : ax_K} {o : Nat} {n : Nat} {f : Nat → Int32} {i : Int32} {x : Int32} (g0 : decode (g_m k).2.1 pc = .ok (.iastore, 1)) (g1 : pc + 1 = q) (g2 : o < h.2.1) (g3 : h.1 o = .inl (false, n, f)) (g4 : vp_in i n) (p0 : Ex sc k q ls st (va_up h.1 o (.inl (false, n, upd f i.toNatClampNeg x)), h.2) K) : Ex sc k pc ls (.int x :: .int i :: .ref o :: st) h K := fun P hP => hP.2.2.2.2.2.2.1.2.1 k pc q ls st h K o n f i x g0 g1 g2 g3 g4 (p0 P hP)
theorem x_zast {sc : ax_S} {k : Nat} {pc : Nat} {q : Nat} {ls : List (Option Value)} {st : List Value} {h : ax_H} {K : ax_K} {o : Nat} {n : Nat} {f : Nat → Int32} {i : Int32} {x : Int32} (g0 : decode (g_m k).2.1 pc = .ok (.bastore, 1)) (g1 : pc + 1 = q) (g2 : o < h.2.1) (g3 : h.1 o = .inl (true, n, f)) (g4 : vp_in i n) (p0 : Ex sc k q ls st (va_up h.1 o (.inl (true, n, upd f i.toNatClampNeg (vp_nar .boolean x))), h.2) K) : Ex sc k pc ls (.int x :: .int i :: .ref o :: st) h K := fun P hP => hP.2.2.2.2.2.2.1.2.2.1 k pc q ls st h K o n f i x g0 g1 g2 g3 g4 (p0 P hP)
theorem x_alen {sc : ax_S} {k : Nat} {pc : Nat} {q : Nat} {ls : List (Option Value)} {st : List Value} {h : ax_H} {K : ax_K} {o : Nat} {n : Nat} {z : Bool} {f : Nat → Int32} (g0 : decode (g_m k).2.1 pc = .ok (.arraylength, 1)) (g1 : pc + 1 = q) (g2 : o < h.2.1) (g3 : h.1 o = .inl (z, n, f)) (p0 : Ex sc k q ls (.int (nI n) :: st) h K) : Ex sc k pc ls (.ref o :: st) h K := fun P hP => hP.2.2.2.2.2.2.1.2.2.2.1 k pc q ls st h K o n z f g0 g1 g2 g3 (p0 P hP)
theorem x_newI {sc : ax_S} {k : Nat} {pc : Nat} {q : Nat} {ls : List (Option Value)} {st : List Value} {h : ax_H} {K : ax_K} {i : Int32} {n : Nat} (g0 : decode (g_m k).2.1 pc = .ok (.newarray .int, 2)) (g1 : pc + 2 = q) (g2 : (Cond.arrayClass .int) ∈ gw) (g3 : ¬ i < 0) (g4 : i.toNatClampNeg = n) (g5 : n ≤ 100000) (g6 : 1 ≤ h.2.2.1) (g7 : n ≤ h.2.2.2) (p0 : Ex sc k q ls (.ref h.2.1 :: st) (va_up h.1 h.2.1 (.inl (false, n, fun _ => 0)), h.2.1 + 1, h.2.2.1 - 1, h.2.2.2 - n) K) : Ex sc k pc ls (.int i :: st) h K := fun P hP => hP.2.2.2.2.2.2.1.2.2.2.2.1 k pc q ls st h K i n g0 g1 g2 g3 g4 g5 g6 g7 (p0 P hP)
theorem x_newZ {sc : ax_S} {k : Nat} {pc : Nat} {q : Nat} {ls : List (Option Value)} {st : List Value} {h : ax_H} {K : ax_K} {i : Int32} {n : Nat} (g0 : decode (g_m k).2.1 pc = .ok (.newarray .boolean, 2)) (g1 : pc + 2 = q) (g2 : (Cond.arrayClass .boolean) ∈ gw) (g3 : ¬ i < 0) (g4 : i.toNatClampNeg = n) (g5 : n ≤ 100000) (g6 : 1 ≤ h.2.2.1) (g7 : n ≤ h.2.2.2) (p0 : Ex sc k q ls (.ref h.2.1 :: st) (va_up h.1 h.2.1 (.inl (true, n, fun _ => 0)), h.2.1 + 1, h.2.2.1 - 1, h.2.2.2 - n) K) : Ex sc k pc ls (.int i :: st) h K := fun P hP => hP.2.2.2.2.2.2.1.2.2.2.2.2.1 k pc q ls st h K i n g0 g1 g2 g3 g4 g5 g6 g7 (p0 P hP)
theorem x_new {sc : ax_S} {k : Nat} {pc : Nat} {q : Nat} {ls : List (Option Value)} {st : List Value} {h : ax_H} {K : ax_K} {idx : Nat} {ci : Nat} {N : Nat} {fs : List Value} (g0 : decode (g_m k).2.1 pc = .ok (.new idx, 3)) (g1 : pc + 3 = q) (g2 : ax_cls (g_m k).1.cls idx ci N fs) (g3 : 1 ≤ h.2.2.1) (g4 : N ≤ h.2.2.2) (p0 : Ex sc k q ls (.ref h.2.1 :: st) (va_up h.1 h.2.1 (.inr (ci, fs)), h.2.1 + 1, h.2.2.1 - 1, h.2.2.2 - N) K) : Ex sc k pc ls st h K := fun P hP => hP.2.2.2.2.2.2.1.2.2.2.2.2.2.1 k pc q ls st h K idx ci N fs g0 g1 g2 g3 g4 (p0 P hP)
theorem x_sld {sc : ax_S} {k : Nat} {pc : Nat} {q : Nat} {ls : List (Option Value)} {st : List Value} {h : ax_H} {K : ax_K} {o : Nat} {i : Int32} (g0 : decode (g_m k).2.1 pc = .ok (.iaload, 1)) (g1 : pc + 1 = q) (g2 : vp_in i sc.1) (p0 : Ex sc k q ls (.int (sc.2 i.toNatClampNeg) :: st) h K) : Ex sc k pc ls (.int i :: .retAddr o :: st) h K := fun P hP => hP.2.2.2.2.2.2.1.2.2.2.2.2.2.2.1 k pc q ls st h K o i g0 g1 g2 (p0 P hP)
theorem x_slen {sc : ax_S} {k : Nat} {pc : Nat} {q : Nat} {ls : List (Option Value)} {st : List Value} {h : ax_H} {K : ax_K} {o : Nat} (g0 : decode (g_m k).2.1 pc = .ok (.arraylength, 1)) (g1 : pc + 1 = q) (p0 : Ex sc k q ls (.int (nI sc.1) :: st) h K) : Ex sc k pc ls (.retAddr o :: st) h K := fun P hP => hP.2.2.2.2.2.2.1.2.2.2.2.2.2.2.2 k pc q ls st h K o g0 g1 (p0 P hP)
theorem x_iret {sc : ax_S} {k : Nat} {pc : Nat} {ls : List (Option Value)} {h : ax_H} {K : ax_K} {x : Int32} {ty : FieldType} (g0 : decode (g_m k).2.1 pc = .ok (.ireturn, 1)) (g1 : (g_m k).2.2.2 = some ty) (g2 : narrow ty (.int x) = .int x) (g3 : K (some (.int x)) h)  : Ex sc k pc ls [.int x] h K := fun P hP => hP.2.2.2.2.2.2.2.1.1 k pc ls h K x ty g0 g1 g2 g3 
theorem x_vret {sc : ax_S} {k : Nat} {pc : Nat} {ls : List (Option Value)} {h : ax_H} {K : ax_K} (g0 : decode (g_m k).2.1 pc = .ok (.return_, 1)) (g1 : (g_m k).2.2.2 = none) (g2 : K none h)  : Ex sc k pc ls [] h K := fun P hP => hP.2.2.2.2.2.2.2.1.2.1 k pc ls h K g0 g1 g2 
theorem x_mmax {sc : ax_S} {k : Nat} {pc : Nat} {q : Nat} {ls : List (Option Value)} {st : List Value} {h : ax_H} {K : ax_K} {idx : Nat} {x : Int32} {y : Int32} (g0 : decode (g_m k).2.1 pc = .ok (.invokestatic idx, 3)) (g1 : pc + 3 = q) (g2 : (Cond.methodLink (g_m k).1.cls idx Lib.Math.max.name) ∈ gw) (g3 : (Cond.static Lib.Math.max.name) ∈ gw) (g4 : (Cond.initialized "java/lang/Math") ∈ gw) (g5 : (Cond.code Lib.Math.max.name Lib.Math.max.code 2 (some .int)) ∈ gw) (g6 : 1 ≤ g_fr k ∧ 30 ≤ g_lo k) (g7 : (st.map fun v => v.category).sum ≤ 8) (p0 : Ex sc k q ls (.int (if x < y then y else x) :: st) h K) : Ex sc k pc ls (.int y :: .int x :: st) h K := fun P hP => hP.2.2.2.2.2.2.2.1.2.2.1 k pc q ls st h K idx x y g0 g1 g2 g3 g4 g5 g6 g7 (p0 P hP)
theorem x_mmin {sc : ax_S} {k : Nat} {pc : Nat} {q : Nat} {ls : List (Option Value)} {st : List Value} {h : ax_H} {K : ax_K} {idx : Nat} {x : Int32} {y : Int32} (g0 : decode (g_m k).2.1 pc = .ok (.invokestatic idx, 3)) (g1 : pc + 3 = q) (g2 : (Cond.methodLink (g_m k).1.cls idx Lib.Math.min.name) ∈ gw) (g3 : (Cond.static Lib.Math.min.name) ∈ gw) (g4 : (Cond.initialized "java/lang/Math") ∈ gw) (g5 : (Cond.code Lib.Math.min.name Lib.Math.min.code 2 (some .int)) ∈ gw) (g6 : 1 ≤ g_fr k ∧ 30 ≤ g_lo k) (g7 : (st.map fun v => v.category).sum ≤ 8) (p0 : Ex sc k q ls (.int (if y < x then y else x) :: st) h K) : Ex sc k pc ls (.int y :: .int x :: st) h K := fun P hP => hP.2.2.2.2.2.2.2.1.2.2.2.1 k pc q ls st h K idx x y g0 g1 g2 g3 g4 g5 g6 g7 (p0 P hP)
theorem x_mabs {sc : ax_S} {k : Nat} {pc : Nat} {q : Nat} {ls : List (Option Value)} {st : List Value} {h : ax_H} {K : ax_K} {idx : Nat} {x : Int32} (g0 : decode (g_m k).2.1 pc = .ok (.invokestatic idx, 3)) (g1 : pc + 3 = q) (g2 : (Cond.methodLink (g_m k).1.cls idx Lib.Math.abs.name) ∈ gw) (g3 : (Cond.static Lib.Math.abs.name) ∈ gw) (g4 : (Cond.initialized "java/lang/Math") ∈ gw) (g5 : (Cond.code Lib.Math.abs.name Lib.Math.abs.code 1 (some .int)) ∈ gw) (g6 : 1 ≤ g_fr k ∧ 30 ≤ g_lo k) (g7 : (st.map fun v => v.category).sum ≤ 8) (p0 : Ex sc k q ls (.int (if 0 ≤ x then x else 0 - x) :: st) h K) : Ex sc k pc ls (.int x :: st) h K := fun P hP => hP.2.2.2.2.2.2.2.1.2.2.2.2.1 k pc q ls st h K idx x g0 g1 g2 g3 g4 g5 g6 g7 (p0 P hP)
theorem x_acopy {sc : ax_S} {k : Nat} {pc : Nat} {q : Nat} {ls : List (Option Value)} {st : List Value} {h : ax_H} {K : ax_K} {idx : Nat} {o0 : Nat} {o1 : Nat} {n0 : Nat} {n1 : Nat} {f : Nat → Int32} {g : Nat → Int32} {sp : Int32} {dp : Int32} {n : Int32} (g0 : decode (g_m k).2.1 pc = .ok (.invokestatic idx, 3)) (g1 : pc + 3 = q) (g2 : (Cond.methodLink (g_m k).1.cls idx arraycopyName) ∈ gw) (g3 : (Cond.native arraycopyName) ∈ gw) (g4 : (Cond.static arraycopyName) ∈ gw) (g5 : (Cond.initialized "java/lang/System") ∈ gw) (g6 : 1 ≤ g_fr k ∧ 8 + (nativeFrameWords "java/lang/System" "arraycopy" 5 + 11) ≤ g_lo k) (g7 : (st.map fun v => v.category).sum ≤ 8) (g8 : o0 < h.2.1) (g9 : o1 < h.2.1) (g10 : h.1 o0 = .inl (false, n0, f)) (g11 : h.1 o1 = .inl (false, n1, g)) (g12 : ¬ sp < 0) (g13 : ¬ dp < 0) (g14 : ¬ n < 0) (g15 : sp.toNatClampNeg + n.toNatClampNeg ≤ n0) (g16 : dp.toNatClampNeg + n.toNatClampNeg ≤ n1) (p0 : Ex sc k q ls st (va_up h.1 o1 (.inl (false, n1, va_cpy f g sp.toNatClampNeg dp.toNatClampNeg n.toNatClampNeg)), h.2) K) : Ex sc k pc ls (.int n :: .int dp :: .ref o1 :: .int sp :: .ref o0 :: st) h K := fun P hP => hP.2.2.2.2.2.2.2.1.2.2.2.2.2.1 k pc q ls st h K idx o0 o1 n0 n1 f g sp dp n g0 g1 g2 g3 g4 g5 g6 g7 g8 g9 g10 g11 g12 g13 g14 g15 g16 (p0 P hP)
theorem x_objInit {sc : ax_S} {k : Nat} {pc : Nat} {q : Nat} {ls : List (Option Value)} {st : List Value} {h : ax_H} {K : ax_K} {idx : Nat} {o : Nat} (g0 : decode (g_m k).2.1 pc = .ok (.invokespecial idx, 3)) (g1 : pc + 3 = q) (g2 : (Cond.methodLink (g_m k).1.cls idx Lib.objectInit) ∈ gw) (g3 : (Cond.instanceMethod Lib.objectInit) ∈ gw) (g4 : (Cond.code Lib.objectInit ⟨#[0xb1]⟩ 1 none) ∈ gw) (g5 : 1 ≤ g_fr k ∧ 20 ≤ g_lo k) (g6 : (st.map fun v => v.category).sum ≤ 8) (p0 : Ex sc k q ls (st) h K) : Ex sc k pc ls (.ref o :: st) h K := fun P hP => hP.2.2.2.2.2.2.2.1.2.2.2.2.2.2.1 k pc q ls st h K idx o g0 g1 g2 g3 g4 g5 g6 (p0 P hP)
theorem x_callV {sc : ax_S} {k : Nat} {pc : Nat} {q : Nat} {ls : List (Option Value)} {rest : List Value} {h : ax_H} {K : ax_K} {idx : Nat} {z : Nat} {na : Nat} {vs : List Value} {mc : Nat} {ms : Nat} {o : Nat} {ci : Nat} {fs : List Value} (g0 : decode (g_m k).2.1 pc = .ok (.invokevirtual idx, 3)) (g1 : pc + 3 = q) (g2 : ax_lV (g_m k).1.cls idx z ci) (g3 : ax_mok z na) (g4 : ax_up z k) (g5 : vs.length = na) (g6 : ∀ v ∈ (Value.ref o :: vs), v.category = 1) (g7 : (Value.ref o :: vs).length ≤ (g_m z).2.2.1) (g8 : (rest.map fun v => v.category).sum ≤ 8) (g9 : mc ≤ h.2.2.1) (g10 : ms ≤ h.2.2.2) (g11 : o < h.2.1) (g12 : h.1 o = .inr (ci, fs)) (p0 : Ex sc z 0 (ax_en z (Value.ref o :: vs)) [] (h.1, h.2.1, mc, ms) (fun v h2 => Ex sc k q ls (ax_ps v rest) (h2.1, h2.2.1, h.2.2.1 - mc, h.2.2.2 - ms) K)) : Ex sc k pc ls (vs.reverse ++ .ref o :: rest) h K := fun P hP => hP.2.2.2.2.2.2.2.1.2.2.2.2.2.2.2.1 k pc q ls rest h K idx z na vs mc ms o ci fs g0 g1 g2 g3 g4 g5 g6 g7 g8 g9 g10 g11 g12 (hP.1.1 _ _ _ _ _ _ _ (fun v h2 hE => hE P hP) (p0 P hP))
theorem x_callS {sc : ax_S} {k : Nat} {pc : Nat} {q : Nat} {ls : List (Option Value)} {rest : List Value} {h : ax_H} {K : ax_K} {idx : Nat} {z : Nat} {na : Nat} {vs : List Value} {mc : Nat} {ms : Nat} (g0 : decode (g_m k).2.1 pc = .ok (.invokestatic idx, 3)) (g1 : pc + 3 = q) (g2 : ax_lS (g_m k).1.cls idx z) (g3 : ax_mok z na) (g4 : ax_up z k) (g5 : vs.length = na) (g6 : ∀ v ∈ (vs), v.category = 1) (g7 : (vs).length ≤ (g_m z).2.2.1) (g8 : (rest.map fun v => v.category).sum ≤ 8) (g9 : mc ≤ h.2.2.1) (g10 : ms ≤ h.2.2.2) (p0 : Ex sc z 0 (ax_en z (vs)) [] (h.1, h.2.1, mc, ms) (fun v h2 => Ex sc k q ls (ax_ps v rest) (h2.1, h2.2.1, h.2.2.1 - mc, h.2.2.2 - ms) K)) : Ex sc k pc ls (vs.reverse ++ rest) h K := fun P hP => hP.2.2.2.2.2.2.2.1.2.2.2.2.2.2.2.2 k pc q ls rest h K idx z na vs mc ms g0 g1 g2 g3 g4 g5 g6 g7 g8 g9 g10 (hP.1.1 _ _ _ _ _ _ _ (fun v h2 hE => hE P hP) (p0 P hP))
theorem x_callI {sc : ax_S} {k : Nat} {pc : Nat} {q : Nat} {ls : List (Option Value)} {rest : List Value} {h : ax_H} {K : ax_K} {idx : Nat} {z : Nat} {na : Nat} {vs : List Value} {mc : Nat} {ms : Nat} {o : Nat} (g0 : decode (g_m k).2.1 pc = .ok (.invokespecial idx, 3)) (g1 : pc + 3 = q) (g2 : ax_lI (g_m k).1.cls idx z) (g3 : ax_mok z na) (g4 : ax_up z k) (g5 : vs.length = na) (g6 : ∀ v ∈ (Value.ref o :: vs), v.category = 1) (g7 : (Value.ref o :: vs).length ≤ (g_m z).2.2.1) (g8 : (rest.map fun v => v.category).sum ≤ 8) (g9 : mc ≤ h.2.2.1) (g10 : ms ≤ h.2.2.2) (g11 : o < h.2.1) (g12 : (g_m z).2.2.2 = none) (p0 : Ex sc z 0 (ax_en z (Value.ref o :: vs)) [] (h.1, h.2.1, mc, ms) (fun v h2 => Ex sc k q ls (ax_ps v rest) (h2.1, h2.2.1, h.2.2.1 - mc, h.2.2.2 - ms) K)) : Ex sc k pc ls (vs.reverse ++ .ref o :: rest) h K := fun P hP => hP.2.2.2.2.2.2.2.2.1 k pc q ls rest h K idx z na vs mc ms o g0 g1 g2 g3 g4 g5 g6 g7 g8 g9 g10 g11 g12 (hP.1.1 _ _ _ _ _ _ _ (fun v h2 hE => hE P hP) (p0 P hP))
theorem x_lconst {sc : ax_S} {k : Nat} {pc : Nat} {q : Nat} {ls : List (Option Value)} {st : List Value} {h : ax_H} {K : ax_K} {n : Fin 2} {v : Int64} (g0 : decode (g_m k).2.1 pc = .ok (.lconst n, 1)) (g1 : pc + 1 = q) (g2 : Int64.ofNat (n : Nat) = v) (p0 : Ex sc k q ls (.long v :: st) h K) : Ex sc k pc ls (st) h K := fun P hP => hP.2.2.2.2.2.2.2.2.2.1 k pc q ls st h K n v g0 g1 g2 (p0 P hP)
theorem x_ldc2 {sc : ax_S} {k : Nat} {pc : Nat} {q : Nat} {ls : List (Option Value)} {st : List Value} {h : ax_H} {K : ax_K} {idx : Nat} {v : Int64} (g0 : decode (g_m k).2.1 pc = .ok (.ldc2_w idx, 3)) (g1 : pc + 3 = q) (g2 : (Cond.constantLong (g_m k).1.cls idx v) ∈ gw) (p0 : Ex sc k q ls (.long v :: st) h K) : Ex sc k pc ls (st) h K := fun P hP => hP.2.2.2.2.2.2.2.2.2.2.1 k pc q ls st h K idx v g0 g1 g2 (p0 P hP)
theorem x_i2l {sc : ax_S} {k : Nat} {pc : Nat} {q : Nat} {ls : List (Option Value)} {st : List Value} {h : ax_H} {K : ax_K} {x : Int32} {v : Int64} (g0 : decode (g_m k).2.1 pc = .ok (.i2l, 1)) (g1 : pc + 1 = q) (g2 : x.toInt64 = v) (p0 : Ex sc k q ls (.long v :: st) h K) : Ex sc k pc ls (.int x :: st) h K := fun P hP => hP.2.2.2.2.2.2.2.2.2.2.2.1 k pc q ls st h K x v g0 g1 g2 (p0 P hP)
theorem x_inL {sc : ax_S} {k : Nat} {pc : Nat} {q : Nat} {ls : List (Option Value)} {st : List Value} {h : ax_H} {K : ax_K} {idx : Nat} {a : Int64} {lo : Int64} {hi : Int64} (g0 : decode (g_m k).2.1 pc = .ok (.invokestatic idx, 3)) (g1 : pc + 3 = q) (g2 : ax_lS (g_m k).1.cls idx 66) (g3 : ax_mok 66 3) (g4 : ax_up 66 k) (g5 : (st.map fun v => v.category).sum ≤ 8) (p0 : Ex sc k q ls (.int (ax_in a lo hi) :: st) h K) : Ex sc k pc ls (.long hi :: .long lo :: .long a :: st) h K := fun P hP => hP.2.2.2.2.2.2.2.2.2.2.2.2 k pc q ls st h K idx a lo hi g0 g1 g2 g3 g4 g5 (p0 P hP)
end
section
theorem fl_X_23 : ax_fld "VectorGraphs" 23 3 0 := ⟨"VectorGraphs", T_X, 6, rfl, by decide, List.mem_filter.mpr ⟨List.mem_append_right _ (List.mem_append_left _ (List.mem_of_getElem? (i := 124) rfl)), rfl⟩, cw_X⟩
theorem fw_X_23 : ax_fldW "VectorGraphs" 23 3 0 (.object "VectorGraphs$Vectors") true := ⟨"VectorGraphs", T_X, 6, ty_X, rfl, by decide, List.mem_filter.mpr ⟨List.mem_append_right _ (List.mem_append_left _ (List.mem_of_getElem? (i := 124) rfl)), rfl⟩, cw_X, tok_X, nm_X, rfl, rfl, fun _ => rfl⟩
theorem fl_X_32 : ax_fld "VectorGraphs" 32 3 1 := ⟨"VectorGraphs", T_X, 6, rfl, by decide, List.mem_filter.mpr ⟨List.mem_append_right _ (List.mem_append_left _ (List.mem_of_getElem? (i := 125) rfl)), rfl⟩, cw_X⟩
theorem fw_X_32 : ax_fldW "VectorGraphs" 32 3 1 (.object "VectorGraphs$Graph") true := ⟨"VectorGraphs", T_X, 6, ty_X, rfl, by decide, List.mem_filter.mpr ⟨List.mem_append_right _ (List.mem_append_left _ (List.mem_of_getElem? (i := 125) rfl)), rfl⟩, cw_X, tok_X, nm_X, rfl, rfl, fun _ => rfl⟩
theorem fl_X_39 : ax_fld "VectorGraphs" 39 3 2 := ⟨"VectorGraphs", T_X, 6, rfl, by decide, List.mem_filter.mpr ⟨List.mem_append_right _ (List.mem_append_left _ (List.mem_of_getElem? (i := 126) rfl)), rfl⟩, cw_X⟩
theorem fw_X_39 : ax_fldW "VectorGraphs" 39 3 2 (.object "VectorGraphs$Ranks") true := ⟨"VectorGraphs", T_X, 6, ty_X, rfl, by decide, List.mem_filter.mpr ⟨List.mem_append_right _ (List.mem_append_left _ (List.mem_of_getElem? (i := 126) rfl)), rfl⟩, cw_X, tok_X, nm_X, rfl, rfl, fun _ => rfl⟩
theorem fl_X_43 : ax_fld "VectorGraphs" 43 3 3 := ⟨"VectorGraphs", T_X, 6, rfl, by decide, List.mem_filter.mpr ⟨List.mem_append_right _ (List.mem_append_left _ (List.mem_of_getElem? (i := 127) rfl)), rfl⟩, cw_X⟩
theorem fw_X_43 : ax_fldW "VectorGraphs" 43 3 3 (.object "VectorGraphs$Ranks") true := ⟨"VectorGraphs", T_X, 6, ty_X, rfl, by decide, List.mem_filter.mpr ⟨List.mem_append_right _ (List.mem_append_left _ (List.mem_of_getElem? (i := 127) rfl)), rfl⟩, cw_X, tok_X, nm_X, rfl, rfl, fun _ => rfl⟩
theorem fl_X_46 : ax_fld "VectorGraphs" 46 3 4 := ⟨"VectorGraphs", T_X, 6, rfl, by decide, List.mem_filter.mpr ⟨List.mem_append_right _ (List.mem_append_left _ (List.mem_of_getElem? (i := 128) rfl)), rfl⟩, cw_X⟩
theorem fw_X_46 : ax_fldW "VectorGraphs" 46 3 4 (.object "VectorGraphs$Ranks") true := ⟨"VectorGraphs", T_X, 6, ty_X, rfl, by decide, List.mem_filter.mpr ⟨List.mem_append_right _ (List.mem_append_left _ (List.mem_of_getElem? (i := 128) rfl)), rfl⟩, cw_X, tok_X, nm_X, rfl, rfl, fun _ => rfl⟩
theorem fl_X_49 : ax_fld "VectorGraphs" 49 3 5 := ⟨"VectorGraphs", T_X, 6, rfl, by decide, List.mem_filter.mpr ⟨List.mem_append_right _ (List.mem_append_left _ (List.mem_of_getElem? (i := 129) rfl)), rfl⟩, cw_X⟩
theorem fw_X_49 : ax_fldW "VectorGraphs" 49 3 5 (.int) false := ⟨"VectorGraphs", T_X, 6, ty_X, rfl, by decide, List.mem_filter.mpr ⟨List.mem_append_right _ (List.mem_append_left _ (List.mem_of_getElem? (i := 129) rfl)), rfl⟩, cw_X, tok_X, nm_X, rfl, rfl, fun h => by cases h⟩
theorem fl_X_53 : ax_fld "VectorGraphs" 53 2 0 := ⟨"VectorGraphs$Vectors", T_V, 6, rfl, by decide, List.mem_filter.mpr ⟨List.mem_append_right _ (List.mem_append_left _ (List.mem_of_getElem? (i := 29) rfl)), rfl⟩, cw_V⟩
theorem fl_X_59 : ax_fld "VectorGraphs" 59 2 4 := ⟨"VectorGraphs$Vectors", T_V, 6, rfl, by decide, List.mem_filter.mpr ⟨List.mem_append_right _ (List.mem_append_left _ (List.mem_of_getElem? (i := 36) rfl)), rfl⟩, cw_V⟩
theorem fw_X_59 : ax_fldW "VectorGraphs" 59 2 4 (.int) false := ⟨"VectorGraphs$Vectors", T_V, 6, ty_V, rfl, by decide, List.mem_filter.mpr ⟨List.mem_append_right _ (List.mem_append_left _ (List.mem_of_getElem? (i := 36) rfl)), rfl⟩, cw_V, tok_V, nm_V, rfl, rfl, fun h => by cases h⟩
theorem fl_X_77 : ax_fld "VectorGraphs" 77 2 1 := ⟨"VectorGraphs$Vectors", T_V, 6, rfl, by decide, List.mem_filter.mpr ⟨List.mem_append_right _ (List.mem_append_left _ (List.mem_of_getElem? (i := 31) rfl)), rfl⟩, cw_V⟩
theorem fl_X_81 : ax_fld "VectorGraphs" 81 2 2 := ⟨"VectorGraphs$Vectors", T_V, 6, rfl, by decide, List.mem_filter.mpr ⟨List.mem_append_right _ (List.mem_append_left _ (List.mem_of_getElem? (i := 33) rfl)), rfl⟩, cw_V⟩
theorem fl_X_93 : ax_fld "VectorGraphs" 93 2 5 := ⟨"VectorGraphs$Vectors", T_V, 6, rfl, by decide, List.mem_filter.mpr ⟨List.mem_append_right _ (List.mem_append_left _ (List.mem_of_getElem? (i := 39) rfl)), rfl⟩, cw_V⟩
theorem fw_X_93 : ax_fldW "VectorGraphs" 93 2 5 (.int) false := ⟨"VectorGraphs$Vectors", T_V, 6, ty_V, rfl, by decide, List.mem_filter.mpr ⟨List.mem_append_right _ (List.mem_append_left _ (List.mem_of_getElem? (i := 39) rfl)), rfl⟩, cw_V, tok_V, nm_V, rfl, rfl, fun h => by cases h⟩
theorem fl_X_96 : ax_fld "VectorGraphs" 96 0 2 := ⟨"VectorGraphs$Graph", T_G, 13, rfl, by decide, List.mem_filter.mpr ⟨List.mem_append_right _ (List.mem_append_left _ (List.mem_of_getElem? (i := 82) rfl)), rfl⟩, cw_G⟩
theorem fw_X_96 : ax_fldW "VectorGraphs" 96 0 2 (.int) false := ⟨"VectorGraphs$Graph", T_G, 13, ty_G, rfl, by decide, List.mem_filter.mpr ⟨List.mem_append_right _ (List.mem_append_left _ (List.mem_of_getElem? (i := 82) rfl)), rfl⟩, cw_G, tok_G, nm_G, rfl, rfl, fun h => by cases h⟩
theorem fl_X_99 : ax_fld "VectorGraphs" 99 0 3 := ⟨"VectorGraphs$Graph", T_G, 13, rfl, by decide, List.mem_filter.mpr ⟨List.mem_append_right _ (List.mem_append_left _ (List.mem_of_getElem? (i := 84) rfl)), rfl⟩, cw_G⟩
theorem fw_X_99 : ax_fldW "VectorGraphs" 99 0 3 (.boolean) false := ⟨"VectorGraphs$Graph", T_G, 13, ty_G, rfl, by decide, List.mem_filter.mpr ⟨List.mem_append_right _ (List.mem_append_left _ (List.mem_of_getElem? (i := 84) rfl)), rfl⟩, cw_G, tok_G, nm_G, rfl, rfl, fun h => by cases h⟩
theorem fl_X_110 : ax_fld "VectorGraphs" 110 1 1 := ⟨"VectorGraphs$Ranks", T_R, 2, rfl, by decide, List.mem_filter.mpr ⟨List.mem_append_right _ (List.mem_append_left _ (List.mem_of_getElem? (i := 70) rfl)), rfl⟩, cw_R⟩
theorem fw_X_110 : ax_fldW "VectorGraphs" 110 1 1 (.int) false := ⟨"VectorGraphs$Ranks", T_R, 2, ty_R, rfl, by decide, List.mem_filter.mpr ⟨List.mem_append_right _ (List.mem_append_left _ (List.mem_of_getElem? (i := 70) rfl)), rfl⟩, cw_R, tok_R, nm_R, rfl, rfl, fun h => by cases h⟩
theorem fl_X_137 : ax_fld "VectorGraphs" 137 0 1 := ⟨"VectorGraphs$Graph", T_G, 13, rfl, by decide, List.mem_filter.mpr ⟨List.mem_append_right _ (List.mem_append_left _ (List.mem_of_getElem? (i := 80) rfl)), rfl⟩, cw_G⟩
theorem fw_X_137 : ax_fldW "VectorGraphs" 137 0 1 (.int) false := ⟨"VectorGraphs$Graph", T_G, 13, ty_G, rfl, by decide, List.mem_filter.mpr ⟨List.mem_append_right _ (List.mem_append_left _ (List.mem_of_getElem? (i := 80) rfl)), rfl⟩, cw_G, tok_G, nm_G, rfl, rfl, fun h => by cases h⟩
theorem fl_X_162 : ax_fld "VectorGraphs" 162 0 4 := ⟨"VectorGraphs$Graph", T_G, 13, rfl, by decide, List.mem_filter.mpr ⟨List.mem_append_right _ (List.mem_append_left _ (List.mem_of_getElem? (i := 86) rfl)), rfl⟩, cw_G⟩
theorem fw_X_162 : ax_fldW "VectorGraphs" 162 0 4 (.int) false := ⟨"VectorGraphs$Graph", T_G, 13, ty_G, rfl, by decide, List.mem_filter.mpr ⟨List.mem_append_right _ (List.mem_append_left _ (List.mem_of_getElem? (i := 86) rfl)), rfl⟩, cw_G, tok_G, nm_G, rfl, rfl, fun h => by cases h⟩
theorem fl_X_165 : ax_fld "VectorGraphs" 165 0 0 := ⟨"VectorGraphs$Graph", T_G, 13, rfl, by decide, List.mem_filter.mpr ⟨List.mem_append_right _ (List.mem_append_left _ (List.mem_of_getElem? (i := 78) rfl)), rfl⟩, cw_G⟩
theorem fl_G_11 : ax_fld "VectorGraphs$Graph" 11 0 5 := ⟨"VectorGraphs$Graph", T_G, 13, rfl, by decide, List.mem_filter.mpr ⟨List.mem_append_right _ (List.mem_append_left _ (List.mem_of_getElem? (i := 87) rfl)), rfl⟩, cw_G⟩
theorem fw_G_11 : ax_fldW "VectorGraphs$Graph" 11 0 5 (.object "VectorGraphs$Vectors") true := ⟨"VectorGraphs$Graph", T_G, 13, ty_G, rfl, by decide, List.mem_filter.mpr ⟨List.mem_append_right _ (List.mem_append_left _ (List.mem_of_getElem? (i := 87) rfl)), rfl⟩, cw_G, tok_G, nm_G, rfl, rfl, fun _ => rfl⟩
theorem fl_G_15 : ax_fld "VectorGraphs$Graph" 15 0 6 := ⟨"VectorGraphs$Graph", T_G, 13, rfl, by decide, List.mem_filter.mpr ⟨List.mem_append_right _ (List.mem_append_left _ (List.mem_of_getElem? (i := 88) rfl)), rfl⟩, cw_G⟩
theorem fw_G_15 : ax_fldW "VectorGraphs$Graph" 15 0 6 (.int) true := ⟨"VectorGraphs$Graph", T_G, 13, ty_G, rfl, by decide, List.mem_filter.mpr ⟨List.mem_append_right _ (List.mem_append_left _ (List.mem_of_getElem? (i := 88) rfl)), rfl⟩, cw_G, tok_G, nm_G, rfl, rfl, fun _ => rfl⟩
theorem fl_G_19 : ax_fld "VectorGraphs$Graph" 19 0 1 := ⟨"VectorGraphs$Graph", T_G, 13, rfl, by decide, List.mem_filter.mpr ⟨List.mem_append_right _ (List.mem_append_left _ (List.mem_of_getElem? (i := 79) rfl)), rfl⟩, cw_G⟩
theorem fw_G_19 : ax_fldW "VectorGraphs$Graph" 19 0 1 (.int) false := ⟨"VectorGraphs$Graph", T_G, 13, ty_G, rfl, by decide, List.mem_filter.mpr ⟨List.mem_append_right _ (List.mem_append_left _ (List.mem_of_getElem? (i := 79) rfl)), rfl⟩, cw_G, tok_G, nm_G, rfl, rfl, fun h => by cases h⟩
theorem fl_G_22 : ax_fld "VectorGraphs$Graph" 22 0 2 := ⟨"VectorGraphs$Graph", T_G, 13, rfl, by decide, List.mem_filter.mpr ⟨List.mem_append_right _ (List.mem_append_left _ (List.mem_of_getElem? (i := 81) rfl)), rfl⟩, cw_G⟩
theorem fw_G_22 : ax_fldW "VectorGraphs$Graph" 22 0 2 (.int) false := ⟨"VectorGraphs$Graph", T_G, 13, ty_G, rfl, by decide, List.mem_filter.mpr ⟨List.mem_append_right _ (List.mem_append_left _ (List.mem_of_getElem? (i := 81) rfl)), rfl⟩, cw_G, tok_G, nm_G, rfl, rfl, fun h => by cases h⟩
theorem fl_G_25 : ax_fld "VectorGraphs$Graph" 25 0 3 := ⟨"VectorGraphs$Graph", T_G, 13, rfl, by decide, List.mem_filter.mpr ⟨List.mem_append_right _ (List.mem_append_left _ (List.mem_of_getElem? (i := 83) rfl)), rfl⟩, cw_G⟩
theorem fw_G_25 : ax_fldW "VectorGraphs$Graph" 25 0 3 (.boolean) false := ⟨"VectorGraphs$Graph", T_G, 13, ty_G, rfl, by decide, List.mem_filter.mpr ⟨List.mem_append_right _ (List.mem_append_left _ (List.mem_of_getElem? (i := 83) rfl)), rfl⟩, cw_G, tok_G, nm_G, rfl, rfl, fun h => by cases h⟩
theorem fl_G_29 : ax_fld "VectorGraphs$Graph" 29 0 4 := ⟨"VectorGraphs$Graph", T_G, 13, rfl, by decide, List.mem_filter.mpr ⟨List.mem_append_right _ (List.mem_append_left _ (List.mem_of_getElem? (i := 85) rfl)), rfl⟩, cw_G⟩
theorem fw_G_29 : ax_fldW "VectorGraphs$Graph" 29 0 4 (.int) false := ⟨"VectorGraphs$Graph", T_G, 13, ty_G, rfl, by decide, List.mem_filter.mpr ⟨List.mem_append_right _ (List.mem_append_left _ (List.mem_of_getElem? (i := 85) rfl)), rfl⟩, cw_G, tok_G, nm_G, rfl, rfl, fun h => by cases h⟩
theorem fl_G_32 : ax_fld "VectorGraphs$Graph" 32 0 7 := ⟨"VectorGraphs$Graph", T_G, 13, rfl, by decide, List.mem_filter.mpr ⟨List.mem_append_right _ (List.mem_append_left _ (List.mem_of_getElem? (i := 89) rfl)), rfl⟩, cw_G⟩
theorem fw_G_32 : ax_fldW "VectorGraphs$Graph" 32 0 7 (.array .int) true := ⟨"VectorGraphs$Graph", T_G, 13, ty_G, rfl, by decide, List.mem_filter.mpr ⟨List.mem_append_right _ (List.mem_append_left _ (List.mem_of_getElem? (i := 89) rfl)), rfl⟩, cw_G, tok_G, nm_G, rfl, rfl, fun _ => rfl⟩
theorem fl_G_36 : ax_fld "VectorGraphs$Graph" 36 0 8 := ⟨"VectorGraphs$Graph", T_G, 13, rfl, by decide, List.mem_filter.mpr ⟨List.mem_append_right _ (List.mem_append_left _ (List.mem_of_getElem? (i := 90) rfl)), rfl⟩, cw_G⟩
theorem fw_G_36 : ax_fldW "VectorGraphs$Graph" 36 0 8 (.array .int) true := ⟨"VectorGraphs$Graph", T_G, 13, ty_G, rfl, by decide, List.mem_filter.mpr ⟨List.mem_append_right _ (List.mem_append_left _ (List.mem_of_getElem? (i := 90) rfl)), rfl⟩, cw_G, tok_G, nm_G, rfl, rfl, fun _ => rfl⟩
theorem fl_G_39 : ax_fld "VectorGraphs$Graph" 39 0 9 := ⟨"VectorGraphs$Graph", T_G, 13, rfl, by decide, List.mem_filter.mpr ⟨List.mem_append_right _ (List.mem_append_left _ (List.mem_of_getElem? (i := 91) rfl)), rfl⟩, cw_G⟩
theorem fw_G_39 : ax_fldW "VectorGraphs$Graph" 39 0 9 (.array .boolean) true := ⟨"VectorGraphs$Graph", T_G, 13, ty_G, rfl, by decide, List.mem_filter.mpr ⟨List.mem_append_right _ (List.mem_append_left _ (List.mem_of_getElem? (i := 91) rfl)), rfl⟩, cw_G, tok_G, nm_G, rfl, rfl, fun _ => rfl⟩
theorem fl_G_43 : ax_fld "VectorGraphs$Graph" 43 0 10 := ⟨"VectorGraphs$Graph", T_G, 13, rfl, by decide, List.mem_filter.mpr ⟨List.mem_append_right _ (List.mem_append_left _ (List.mem_of_getElem? (i := 92) rfl)), rfl⟩, cw_G⟩
theorem fw_G_43 : ax_fldW "VectorGraphs$Graph" 43 0 10 (.array .int) true := ⟨"VectorGraphs$Graph", T_G, 13, ty_G, rfl, by decide, List.mem_filter.mpr ⟨List.mem_append_right _ (List.mem_append_left _ (List.mem_of_getElem? (i := 92) rfl)), rfl⟩, cw_G, tok_G, nm_G, rfl, rfl, fun _ => rfl⟩
theorem fl_G_51 : ax_fld "VectorGraphs$Graph" 51 0 0 := ⟨"VectorGraphs$Graph", T_G, 13, rfl, by decide, List.mem_filter.mpr ⟨List.mem_append_right _ (List.mem_append_left _ (List.mem_of_getElem? (i := 77) rfl)), rfl⟩, cw_G⟩
theorem fw_G_51 : ax_fldW "VectorGraphs$Graph" 51 0 0 (.object "VectorGraphs$Ranks") true := ⟨"VectorGraphs$Graph", T_G, 13, ty_G, rfl, by decide, List.mem_filter.mpr ⟨List.mem_append_right _ (List.mem_append_left _ (List.mem_of_getElem? (i := 77) rfl)), rfl⟩, cw_G, tok_G, nm_G, rfl, rfl, fun _ => rfl⟩
theorem fl_G_55 : ax_fld "VectorGraphs$Graph" 55 0 11 := ⟨"VectorGraphs$Graph", T_G, 13, rfl, by decide, List.mem_filter.mpr ⟨List.mem_append_right _ (List.mem_append_left _ (List.mem_of_getElem? (i := 93) rfl)), rfl⟩, cw_G⟩
theorem fw_G_55 : ax_fldW "VectorGraphs$Graph" 55 0 11 (.object "VectorGraphs$Ranks") true := ⟨"VectorGraphs$Graph", T_G, 13, ty_G, rfl, by decide, List.mem_filter.mpr ⟨List.mem_append_right _ (List.mem_append_left _ (List.mem_of_getElem? (i := 93) rfl)), rfl⟩, cw_G, tok_G, nm_G, rfl, rfl, fun _ => rfl⟩
theorem fl_G_58 : ax_fld "VectorGraphs$Graph" 58 0 12 := ⟨"VectorGraphs$Graph", T_G, 13, rfl, by decide, List.mem_filter.mpr ⟨List.mem_append_right _ (List.mem_append_left _ (List.mem_of_getElem? (i := 94) rfl)), rfl⟩, cw_G⟩
theorem fw_G_58 : ax_fldW "VectorGraphs$Graph" 58 0 12 (.object "VectorGraphs$Ranks") true := ⟨"VectorGraphs$Graph", T_G, 13, ty_G, rfl, by decide, List.mem_filter.mpr ⟨List.mem_append_right _ (List.mem_append_left _ (List.mem_of_getElem? (i := 94) rfl)), rfl⟩, cw_G, tok_G, nm_G, rfl, rfl, fun _ => rfl⟩
theorem fl_G_67 : ax_fld "VectorGraphs$Graph" 67 2 4 := ⟨"VectorGraphs$Vectors", T_V, 6, rfl, by decide, List.mem_filter.mpr ⟨List.mem_append_right _ (List.mem_append_left _ (List.mem_of_getElem? (i := 37) rfl)), rfl⟩, cw_V⟩
theorem fw_G_67 : ax_fldW "VectorGraphs$Graph" 67 2 4 (.int) false := ⟨"VectorGraphs$Vectors", T_V, 6, ty_V, rfl, by decide, List.mem_filter.mpr ⟨List.mem_append_right _ (List.mem_append_left _ (List.mem_of_getElem? (i := 37) rfl)), rfl⟩, cw_V, tok_V, nm_V, rfl, rfl, fun h => by cases h⟩
theorem fl_G_135 : ax_fld "VectorGraphs$Graph" 135 1 1 := ⟨"VectorGraphs$Ranks", T_R, 2, rfl, by decide, List.mem_filter.mpr ⟨List.mem_append_right _ (List.mem_append_left _ (List.mem_of_getElem? (i := 71) rfl)), rfl⟩, cw_R⟩
theorem fw_G_135 : ax_fldW "VectorGraphs$Graph" 135 1 1 (.int) false := ⟨"VectorGraphs$Ranks", T_R, 2, ty_R, rfl, by decide, List.mem_filter.mpr ⟨List.mem_append_right _ (List.mem_append_left _ (List.mem_of_getElem? (i := 71) rfl)), rfl⟩, cw_R, tok_R, nm_R, rfl, rfl, fun h => by cases h⟩
theorem fl_R_15 : ax_fld "VectorGraphs$Ranks" 15 1 0 := ⟨"VectorGraphs$Ranks", T_R, 2, rfl, by decide, List.mem_filter.mpr ⟨List.mem_append_right _ (List.mem_append_left _ (List.mem_of_getElem? (i := 68) rfl)), rfl⟩, cw_R⟩
theorem fw_R_15 : ax_fldW "VectorGraphs$Ranks" 15 1 0 (.array .int) true := ⟨"VectorGraphs$Ranks", T_R, 2, ty_R, rfl, by decide, List.mem_filter.mpr ⟨List.mem_append_right _ (List.mem_append_left _ (List.mem_of_getElem? (i := 68) rfl)), rfl⟩, cw_R, tok_R, nm_R, rfl, rfl, fun _ => rfl⟩
theorem fl_R_21 : ax_fld "VectorGraphs$Ranks" 21 1 1 := ⟨"VectorGraphs$Ranks", T_R, 2, rfl, by decide, List.mem_filter.mpr ⟨List.mem_append_right _ (List.mem_append_left _ (List.mem_of_getElem? (i := 69) rfl)), rfl⟩, cw_R⟩
theorem fw_R_21 : ax_fldW "VectorGraphs$Ranks" 21 1 1 (.int) false := ⟨"VectorGraphs$Ranks", T_R, 2, ty_R, rfl, by decide, List.mem_filter.mpr ⟨List.mem_append_right _ (List.mem_append_left _ (List.mem_of_getElem? (i := 69) rfl)), rfl⟩, cw_R, tok_R, nm_R, rfl, rfl, fun h => by cases h⟩
theorem fl_V_9 : ax_fld "VectorGraphs$Vectors" 9 2 0 := ⟨"VectorGraphs$Vectors", T_V, 6, rfl, by decide, List.mem_filter.mpr ⟨List.mem_append_right _ (List.mem_append_left _ (List.mem_of_getElem? (i := 28) rfl)), rfl⟩, cw_V⟩
theorem fw_V_9 : ax_fldW "VectorGraphs$Vectors" 9 2 0 (.int) true := ⟨"VectorGraphs$Vectors", T_V, 6, ty_V, rfl, by decide, List.mem_filter.mpr ⟨List.mem_append_right _ (List.mem_append_left _ (List.mem_of_getElem? (i := 28) rfl)), rfl⟩, cw_V, tok_V, nm_V, rfl, rfl, fun _ => rfl⟩
theorem fl_V_15 : ax_fld "VectorGraphs$Vectors" 15 2 1 := ⟨"VectorGraphs$Vectors", T_V, 6, rfl, by decide, List.mem_filter.mpr ⟨List.mem_append_right _ (List.mem_append_left _ (List.mem_of_getElem? (i := 30) rfl)), rfl⟩, cw_V⟩
theorem fw_V_15 : ax_fldW "VectorGraphs$Vectors" 15 2 1 (.array .boolean) true := ⟨"VectorGraphs$Vectors", T_V, 6, ty_V, rfl, by decide, List.mem_filter.mpr ⟨List.mem_append_right _ (List.mem_append_left _ (List.mem_of_getElem? (i := 30) rfl)), rfl⟩, cw_V, tok_V, nm_V, rfl, rfl, fun _ => rfl⟩
theorem fl_V_19 : ax_fld "VectorGraphs$Vectors" 19 2 2 := ⟨"VectorGraphs$Vectors", T_V, 6, rfl, by decide, List.mem_filter.mpr ⟨List.mem_append_right _ (List.mem_append_left _ (List.mem_of_getElem? (i := 32) rfl)), rfl⟩, cw_V⟩
theorem fw_V_19 : ax_fldW "VectorGraphs$Vectors" 19 2 2 (.array .boolean) true := ⟨"VectorGraphs$Vectors", T_V, 6, ty_V, rfl, by decide, List.mem_filter.mpr ⟨List.mem_append_right _ (List.mem_append_left _ (List.mem_of_getElem? (i := 32) rfl)), rfl⟩, cw_V, tok_V, nm_V, rfl, rfl, fun _ => rfl⟩
theorem fl_V_22 : ax_fld "VectorGraphs$Vectors" 22 2 3 := ⟨"VectorGraphs$Vectors", T_V, 6, rfl, by decide, List.mem_filter.mpr ⟨List.mem_append_right _ (List.mem_append_left _ (List.mem_of_getElem? (i := 34) rfl)), rfl⟩, cw_V⟩
theorem fw_V_22 : ax_fldW "VectorGraphs$Vectors" 22 2 3 (.array .int) true := ⟨"VectorGraphs$Vectors", T_V, 6, ty_V, rfl, by decide, List.mem_filter.mpr ⟨List.mem_append_right _ (List.mem_append_left _ (List.mem_of_getElem? (i := 34) rfl)), rfl⟩, cw_V, tok_V, nm_V, rfl, rfl, fun _ => rfl⟩
theorem fl_V_26 : ax_fld "VectorGraphs$Vectors" 26 2 4 := ⟨"VectorGraphs$Vectors", T_V, 6, rfl, by decide, List.mem_filter.mpr ⟨List.mem_append_right _ (List.mem_append_left _ (List.mem_of_getElem? (i := 35) rfl)), rfl⟩, cw_V⟩
theorem fw_V_26 : ax_fldW "VectorGraphs$Vectors" 26 2 4 (.int) false := ⟨"VectorGraphs$Vectors", T_V, 6, ty_V, rfl, by decide, List.mem_filter.mpr ⟨List.mem_append_right _ (List.mem_append_left _ (List.mem_of_getElem? (i := 35) rfl)), rfl⟩, cw_V, tok_V, nm_V, rfl, rfl, fun h => by cases h⟩
theorem fl_V_29 : ax_fld "VectorGraphs$Vectors" 29 2 5 := ⟨"VectorGraphs$Vectors", T_V, 6, rfl, by decide, List.mem_filter.mpr ⟨List.mem_append_right _ (List.mem_append_left _ (List.mem_of_getElem? (i := 38) rfl)), rfl⟩, cw_V⟩
theorem fw_V_29 : ax_fldW "VectorGraphs$Vectors" 29 2 5 (.int) false := ⟨"VectorGraphs$Vectors", T_V, 6, ty_V, rfl, by decide, List.mem_filter.mpr ⟨List.mem_append_right _ (List.mem_append_left _ (List.mem_of_getElem? (i := 38) rfl)), rfl⟩, cw_V, tok_V, nm_V, rfl, rfl, fun h => by cases h⟩
theorem fl_M_1 : ax_fld "VectorGraphsModel" 1 4 0 := ⟨"VectorGraphsModel", T_M, 28, rfl, by decide, List.mem_filter.mpr ⟨List.mem_append_right _ (List.mem_append_right _ (List.mem_append_left _ (List.mem_of_getElem? (i := 168) rfl))), rfl⟩, cw_M⟩
theorem fw_M_1 : ax_fldW "VectorGraphsModel" 1 4 0 (.int) false := ⟨"VectorGraphsModel", T_M, 28, ty_M, rfl, by decide, List.mem_filter.mpr ⟨List.mem_append_right _ (List.mem_append_right _ (List.mem_append_left _ (List.mem_of_getElem? (i := 168) rfl))), rfl⟩, cw_M, tok_M, nm_M, rfl, rfl, fun h => by cases h⟩
theorem fl_M_13 : ax_fld "VectorGraphsModel" 13 4 4 := ⟨"VectorGraphsModel", T_M, 28, rfl, by decide, List.mem_filter.mpr ⟨List.mem_append_right _ (List.mem_append_right _ (List.mem_append_left _ (List.mem_of_getElem? (i := 172) rfl))), rfl⟩, cw_M⟩
theorem fw_M_13 : ax_fldW "VectorGraphsModel" 13 4 4 (.int) false := ⟨"VectorGraphsModel", T_M, 28, ty_M, rfl, by decide, List.mem_filter.mpr ⟨List.mem_append_right _ (List.mem_append_right _ (List.mem_append_left _ (List.mem_of_getElem? (i := 172) rfl))), rfl⟩, cw_M, tok_M, nm_M, rfl, rfl, fun h => by cases h⟩
theorem fl_M_16 : ax_fld "VectorGraphsModel" 16 4 5 := ⟨"VectorGraphsModel", T_M, 28, rfl, by decide, List.mem_filter.mpr ⟨List.mem_append_right _ (List.mem_append_right _ (List.mem_append_left _ (List.mem_of_getElem? (i := 173) rfl))), rfl⟩, cw_M⟩
theorem fw_M_16 : ax_fldW "VectorGraphsModel" 16 4 5 (.int) false := ⟨"VectorGraphsModel", T_M, 28, ty_M, rfl, by decide, List.mem_filter.mpr ⟨List.mem_append_right _ (List.mem_append_right _ (List.mem_append_left _ (List.mem_of_getElem? (i := 173) rfl))), rfl⟩, cw_M, tok_M, nm_M, rfl, rfl, fun h => by cases h⟩
theorem fl_M_19 : ax_fld "VectorGraphsModel" 19 4 6 := ⟨"VectorGraphsModel", T_M, 28, rfl, by decide, List.mem_filter.mpr ⟨List.mem_append_right _ (List.mem_append_right _ (List.mem_append_left _ (List.mem_of_getElem? (i := 174) rfl))), rfl⟩, cw_M⟩
theorem fw_M_19 : ax_fldW "VectorGraphsModel" 19 4 6 (.array .int) true := ⟨"VectorGraphsModel", T_M, 28, ty_M, rfl, by decide, List.mem_filter.mpr ⟨List.mem_append_right _ (List.mem_append_right _ (List.mem_append_left _ (List.mem_of_getElem? (i := 174) rfl))), rfl⟩, cw_M, tok_M, nm_M, rfl, rfl, fun _ => rfl⟩
theorem fl_M_23 : ax_fld "VectorGraphsModel" 23 4 8 := ⟨"VectorGraphsModel", T_M, 28, rfl, by decide, List.mem_filter.mpr ⟨List.mem_append_right _ (List.mem_append_right _ (List.mem_append_left _ (List.mem_of_getElem? (i := 176) rfl))), rfl⟩, cw_M⟩
theorem fw_M_23 : ax_fldW "VectorGraphsModel" 23 4 8 (.array .boolean) true := ⟨"VectorGraphsModel", T_M, 28, ty_M, rfl, by decide, List.mem_filter.mpr ⟨List.mem_append_right _ (List.mem_append_right _ (List.mem_append_left _ (List.mem_of_getElem? (i := 176) rfl))), rfl⟩, cw_M, tok_M, nm_M, rfl, rfl, fun _ => rfl⟩
theorem fl_M_27 : ax_fld "VectorGraphsModel" 27 4 9 := ⟨"VectorGraphsModel", T_M, 28, rfl, by decide, List.mem_filter.mpr ⟨List.mem_append_right _ (List.mem_append_right _ (List.mem_append_left _ (List.mem_of_getElem? (i := 177) rfl))), rfl⟩, cw_M⟩
theorem fw_M_27 : ax_fldW "VectorGraphsModel" 27 4 9 (.array .boolean) true := ⟨"VectorGraphsModel", T_M, 28, ty_M, rfl, by decide, List.mem_filter.mpr ⟨List.mem_append_right _ (List.mem_append_right _ (List.mem_append_left _ (List.mem_of_getElem? (i := 177) rfl))), rfl⟩, cw_M, tok_M, nm_M, rfl, rfl, fun _ => rfl⟩
theorem fl_M_30 : ax_fld "VectorGraphsModel" 30 4 10 := ⟨"VectorGraphsModel", T_M, 28, rfl, by decide, List.mem_filter.mpr ⟨List.mem_append_right _ (List.mem_append_right _ (List.mem_append_left _ (List.mem_of_getElem? (i := 178) rfl))), rfl⟩, cw_M⟩
theorem fw_M_30 : ax_fldW "VectorGraphsModel" 30 4 10 (.array .int) true := ⟨"VectorGraphsModel", T_M, 28, ty_M, rfl, by decide, List.mem_filter.mpr ⟨List.mem_append_right _ (List.mem_append_right _ (List.mem_append_left _ (List.mem_of_getElem? (i := 178) rfl))), rfl⟩, cw_M, tok_M, nm_M, rfl, rfl, fun _ => rfl⟩
theorem fl_M_33 : ax_fld "VectorGraphsModel" 33 4 14 := ⟨"VectorGraphsModel", T_M, 28, rfl, by decide, List.mem_filter.mpr ⟨List.mem_append_right _ (List.mem_append_right _ (List.mem_append_left _ (List.mem_of_getElem? (i := 182) rfl))), rfl⟩, cw_M⟩
theorem fw_M_33 : ax_fldW "VectorGraphsModel" 33 4 14 (.array .int) true := ⟨"VectorGraphsModel", T_M, 28, ty_M, rfl, by decide, List.mem_filter.mpr ⟨List.mem_append_right _ (List.mem_append_right _ (List.mem_append_left _ (List.mem_of_getElem? (i := 182) rfl))), rfl⟩, cw_M, tok_M, nm_M, rfl, rfl, fun _ => rfl⟩
theorem fl_M_37 : ax_fld "VectorGraphsModel" 37 4 15 := ⟨"VectorGraphsModel", T_M, 28, rfl, by decide, List.mem_filter.mpr ⟨List.mem_append_right _ (List.mem_append_right _ (List.mem_append_left _ (List.mem_of_getElem? (i := 183) rfl))), rfl⟩, cw_M⟩
theorem fw_M_37 : ax_fldW "VectorGraphsModel" 37 4 15 (.array .boolean) true := ⟨"VectorGraphsModel", T_M, 28, ty_M, rfl, by decide, List.mem_filter.mpr ⟨List.mem_append_right _ (List.mem_append_right _ (List.mem_append_left _ (List.mem_of_getElem? (i := 183) rfl))), rfl⟩, cw_M, tok_M, nm_M, rfl, rfl, fun _ => rfl⟩
theorem fl_M_40 : ax_fld "VectorGraphsModel" 40 4 16 := ⟨"VectorGraphsModel", T_M, 28, rfl, by decide, List.mem_filter.mpr ⟨List.mem_append_right _ (List.mem_append_right _ (List.mem_append_left _ (List.mem_of_getElem? (i := 184) rfl))), rfl⟩, cw_M⟩
theorem fw_M_40 : ax_fldW "VectorGraphsModel" 40 4 16 (.int) false := ⟨"VectorGraphsModel", T_M, 28, ty_M, rfl, by decide, List.mem_filter.mpr ⟨List.mem_append_right _ (List.mem_append_right _ (List.mem_append_left _ (List.mem_of_getElem? (i := 184) rfl))), rfl⟩, cw_M, tok_M, nm_M, rfl, rfl, fun h => by cases h⟩
theorem fl_M_43 : ax_fld "VectorGraphsModel" 43 4 17 := ⟨"VectorGraphsModel", T_M, 28, rfl, by decide, List.mem_filter.mpr ⟨List.mem_append_right _ (List.mem_append_right _ (List.mem_append_left _ (List.mem_of_getElem? (i := 185) rfl))), rfl⟩, cw_M⟩
theorem fw_M_43 : ax_fldW "VectorGraphsModel" 43 4 17 (.array .int) true := ⟨"VectorGraphsModel", T_M, 28, ty_M, rfl, by decide, List.mem_filter.mpr ⟨List.mem_append_right _ (List.mem_append_right _ (List.mem_append_left _ (List.mem_of_getElem? (i := 185) rfl))), rfl⟩, cw_M, tok_M, nm_M, rfl, rfl, fun _ => rfl⟩
theorem fl_M_46 : ax_fld "VectorGraphsModel" 46 4 18 := ⟨"VectorGraphsModel", T_M, 28, rfl, by decide, List.mem_filter.mpr ⟨List.mem_append_right _ (List.mem_append_right _ (List.mem_append_left _ (List.mem_of_getElem? (i := 186) rfl))), rfl⟩, cw_M⟩
theorem fw_M_46 : ax_fldW "VectorGraphsModel" 46 4 18 (.array .boolean) true := ⟨"VectorGraphsModel", T_M, 28, ty_M, rfl, by decide, List.mem_filter.mpr ⟨List.mem_append_right _ (List.mem_append_right _ (List.mem_append_left _ (List.mem_of_getElem? (i := 186) rfl))), rfl⟩, cw_M, tok_M, nm_M, rfl, rfl, fun _ => rfl⟩
theorem fl_M_49 : ax_fld "VectorGraphsModel" 49 4 19 := ⟨"VectorGraphsModel", T_M, 28, rfl, by decide, List.mem_filter.mpr ⟨List.mem_append_right _ (List.mem_append_right _ (List.mem_append_left _ (List.mem_of_getElem? (i := 187) rfl))), rfl⟩, cw_M⟩
theorem fw_M_49 : ax_fldW "VectorGraphsModel" 49 4 19 (.array .boolean) true := ⟨"VectorGraphsModel", T_M, 28, ty_M, rfl, by decide, List.mem_filter.mpr ⟨List.mem_append_right _ (List.mem_append_right _ (List.mem_append_left _ (List.mem_of_getElem? (i := 187) rfl))), rfl⟩, cw_M, tok_M, nm_M, rfl, rfl, fun _ => rfl⟩
theorem fl_M_52 : ax_fld "VectorGraphsModel" 52 4 20 := ⟨"VectorGraphsModel", T_M, 28, rfl, by decide, List.mem_filter.mpr ⟨List.mem_append_right _ (List.mem_append_right _ (List.mem_append_left _ (List.mem_of_getElem? (i := 188) rfl))), rfl⟩, cw_M⟩
theorem fw_M_52 : ax_fldW "VectorGraphsModel" 52 4 20 (.array .boolean) true := ⟨"VectorGraphsModel", T_M, 28, ty_M, rfl, by decide, List.mem_filter.mpr ⟨List.mem_append_right _ (List.mem_append_right _ (List.mem_append_left _ (List.mem_of_getElem? (i := 188) rfl))), rfl⟩, cw_M, tok_M, nm_M, rfl, rfl, fun _ => rfl⟩
theorem fl_M_55 : ax_fld "VectorGraphsModel" 55 4 22 := ⟨"VectorGraphsModel", T_M, 28, rfl, by decide, List.mem_filter.mpr ⟨List.mem_append_right _ (List.mem_append_right _ (List.mem_append_left _ (List.mem_of_getElem? (i := 190) rfl))), rfl⟩, cw_M⟩
theorem fw_M_55 : ax_fldW "VectorGraphsModel" 55 4 22 (.array .boolean) true := ⟨"VectorGraphsModel", T_M, 28, ty_M, rfl, by decide, List.mem_filter.mpr ⟨List.mem_append_right _ (List.mem_append_right _ (List.mem_append_left _ (List.mem_of_getElem? (i := 190) rfl))), rfl⟩, cw_M, tok_M, nm_M, rfl, rfl, fun _ => rfl⟩
theorem fl_M_58 : ax_fld "VectorGraphsModel" 58 4 23 := ⟨"VectorGraphsModel", T_M, 28, rfl, by decide, List.mem_filter.mpr ⟨List.mem_append_right _ (List.mem_append_right _ (List.mem_append_left _ (List.mem_of_getElem? (i := 191) rfl))), rfl⟩, cw_M⟩
theorem fw_M_58 : ax_fldW "VectorGraphsModel" 58 4 23 (.array .boolean) true := ⟨"VectorGraphsModel", T_M, 28, ty_M, rfl, by decide, List.mem_filter.mpr ⟨List.mem_append_right _ (List.mem_append_right _ (List.mem_append_left _ (List.mem_of_getElem? (i := 191) rfl))), rfl⟩, cw_M, tok_M, nm_M, rfl, rfl, fun _ => rfl⟩
theorem fl_M_61 : ax_fld "VectorGraphsModel" 61 4 24 := ⟨"VectorGraphsModel", T_M, 28, rfl, by decide, List.mem_filter.mpr ⟨List.mem_append_right _ (List.mem_append_right _ (List.mem_append_left _ (List.mem_of_getElem? (i := 192) rfl))), rfl⟩, cw_M⟩
theorem fw_M_61 : ax_fldW "VectorGraphsModel" 61 4 24 (.array .boolean) true := ⟨"VectorGraphsModel", T_M, 28, ty_M, rfl, by decide, List.mem_filter.mpr ⟨List.mem_append_right _ (List.mem_append_right _ (List.mem_append_left _ (List.mem_of_getElem? (i := 192) rfl))), rfl⟩, cw_M, tok_M, nm_M, rfl, rfl, fun _ => rfl⟩
theorem fl_M_64 : ax_fld "VectorGraphsModel" 64 4 25 := ⟨"VectorGraphsModel", T_M, 28, rfl, by decide, List.mem_filter.mpr ⟨List.mem_append_right _ (List.mem_append_right _ (List.mem_append_left _ (List.mem_of_getElem? (i := 193) rfl))), rfl⟩, cw_M⟩
theorem fw_M_64 : ax_fldW "VectorGraphsModel" 64 4 25 (.array .int) true := ⟨"VectorGraphsModel", T_M, 28, ty_M, rfl, by decide, List.mem_filter.mpr ⟨List.mem_append_right _ (List.mem_append_right _ (List.mem_append_left _ (List.mem_of_getElem? (i := 193) rfl))), rfl⟩, cw_M, tok_M, nm_M, rfl, rfl, fun _ => rfl⟩
theorem fl_M_67 : ax_fld "VectorGraphsModel" 67 4 27 := ⟨"VectorGraphsModel", T_M, 28, rfl, by decide, List.mem_filter.mpr ⟨List.mem_append_right _ (List.mem_append_right _ (List.mem_append_left _ (List.mem_of_getElem? (i := 195) rfl))), rfl⟩, cw_M⟩
theorem fw_M_67 : ax_fldW "VectorGraphsModel" 67 4 27 (.array .boolean) true := ⟨"VectorGraphsModel", T_M, 28, ty_M, rfl, by decide, List.mem_filter.mpr ⟨List.mem_append_right _ (List.mem_append_right _ (List.mem_append_left _ (List.mem_of_getElem? (i := 195) rfl))), rfl⟩, cw_M, tok_M, nm_M, rfl, rfl, fun _ => rfl⟩
theorem fl_M_70 : ax_fld "VectorGraphsModel" 70 4 1 := ⟨"VectorGraphsModel", T_M, 28, rfl, by decide, List.mem_filter.mpr ⟨List.mem_append_right _ (List.mem_append_right _ (List.mem_append_left _ (List.mem_of_getElem? (i := 169) rfl))), rfl⟩, cw_M⟩
theorem fw_M_70 : ax_fldW "VectorGraphsModel" 70 4 1 (.int) true := ⟨"VectorGraphsModel", T_M, 28, ty_M, rfl, by decide, List.mem_filter.mpr ⟨List.mem_append_right _ (List.mem_append_right _ (List.mem_append_left _ (List.mem_of_getElem? (i := 169) rfl))), rfl⟩, cw_M, tok_M, nm_M, rfl, rfl, fun _ => rfl⟩
theorem fl_M_73 : ax_fld "VectorGraphsModel" 73 4 2 := ⟨"VectorGraphsModel", T_M, 28, rfl, by decide, List.mem_filter.mpr ⟨List.mem_append_right _ (List.mem_append_right _ (List.mem_append_left _ (List.mem_of_getElem? (i := 170) rfl))), rfl⟩, cw_M⟩
theorem fw_M_73 : ax_fldW "VectorGraphsModel" 73 4 2 (.int) true := ⟨"VectorGraphsModel", T_M, 28, ty_M, rfl, by decide, List.mem_filter.mpr ⟨List.mem_append_right _ (List.mem_append_right _ (List.mem_append_left _ (List.mem_of_getElem? (i := 170) rfl))), rfl⟩, cw_M, tok_M, nm_M, rfl, rfl, fun _ => rfl⟩
theorem fl_M_76 : ax_fld "VectorGraphsModel" 76 4 7 := ⟨"VectorGraphsModel", T_M, 28, rfl, by decide, List.mem_filter.mpr ⟨List.mem_append_right _ (List.mem_append_right _ (List.mem_append_left _ (List.mem_of_getElem? (i := 175) rfl))), rfl⟩, cw_M⟩
theorem fw_M_76 : ax_fldW "VectorGraphsModel" 76 4 7 (.int) false := ⟨"VectorGraphsModel", T_M, 28, ty_M, rfl, by decide, List.mem_filter.mpr ⟨List.mem_append_right _ (List.mem_append_right _ (List.mem_append_left _ (List.mem_of_getElem? (i := 175) rfl))), rfl⟩, cw_M, tok_M, nm_M, rfl, rfl, fun h => by cases h⟩
theorem fl_M_83 : ax_fld "VectorGraphsModel" 83 4 3 := ⟨"VectorGraphsModel", T_M, 28, rfl, by decide, List.mem_filter.mpr ⟨List.mem_append_right _ (List.mem_append_right _ (List.mem_append_left _ (List.mem_of_getElem? (i := 171) rfl))), rfl⟩, cw_M⟩
theorem fw_M_83 : ax_fldW "VectorGraphsModel" 83 4 3 (.int) false := ⟨"VectorGraphsModel", T_M, 28, ty_M, rfl, by decide, List.mem_filter.mpr ⟨List.mem_append_right _ (List.mem_append_right _ (List.mem_append_left _ (List.mem_of_getElem? (i := 171) rfl))), rfl⟩, cw_M, tok_M, nm_M, rfl, rfl, fun h => by cases h⟩
theorem fl_M_103 : ax_fld "VectorGraphsModel" 103 4 21 := ⟨"VectorGraphsModel", T_M, 28, rfl, by decide, List.mem_filter.mpr ⟨List.mem_append_right _ (List.mem_append_right _ (List.mem_append_left _ (List.mem_of_getElem? (i := 189) rfl))), rfl⟩, cw_M⟩
theorem fw_M_103 : ax_fldW "VectorGraphsModel" 103 4 21 (.int) false := ⟨"VectorGraphsModel", T_M, 28, ty_M, rfl, by decide, List.mem_filter.mpr ⟨List.mem_append_right _ (List.mem_append_right _ (List.mem_append_left _ (List.mem_of_getElem? (i := 189) rfl))), rfl⟩, cw_M, tok_M, nm_M, rfl, rfl, fun h => by cases h⟩
theorem fl_M_106 : ax_fld "VectorGraphsModel" 106 4 12 := ⟨"VectorGraphsModel", T_M, 28, rfl, by decide, List.mem_filter.mpr ⟨List.mem_append_right _ (List.mem_append_right _ (List.mem_append_left _ (List.mem_of_getElem? (i := 180) rfl))), rfl⟩, cw_M⟩
theorem fw_M_106 : ax_fldW "VectorGraphsModel" 106 4 12 (.int) false := ⟨"VectorGraphsModel", T_M, 28, ty_M, rfl, by decide, List.mem_filter.mpr ⟨List.mem_append_right _ (List.mem_append_right _ (List.mem_append_left _ (List.mem_of_getElem? (i := 180) rfl))), rfl⟩, cw_M, tok_M, nm_M, rfl, rfl, fun h => by cases h⟩
theorem fl_M_139 : ax_fld "VectorGraphsModel" 139 4 13 := ⟨"VectorGraphsModel", T_M, 28, rfl, by decide, List.mem_filter.mpr ⟨List.mem_append_right _ (List.mem_append_right _ (List.mem_append_left _ (List.mem_of_getElem? (i := 181) rfl))), rfl⟩, cw_M⟩
theorem fw_M_139 : ax_fldW "VectorGraphsModel" 139 4 13 (.boolean) false := ⟨"VectorGraphsModel", T_M, 28, ty_M, rfl, by decide, List.mem_filter.mpr ⟨List.mem_append_right _ (List.mem_append_right _ (List.mem_append_left _ (List.mem_of_getElem? (i := 181) rfl))), rfl⟩, cw_M, tok_M, nm_M, rfl, rfl, fun h => by cases h⟩
theorem fl_M_164 : ax_fld "VectorGraphsModel" 164 4 11 := ⟨"VectorGraphsModel", T_M, 28, rfl, by decide, List.mem_filter.mpr ⟨List.mem_append_right _ (List.mem_append_right _ (List.mem_append_left _ (List.mem_of_getElem? (i := 179) rfl))), rfl⟩, cw_M⟩
theorem fw_M_164 : ax_fldW "VectorGraphsModel" 164 4 11 (.int) false := ⟨"VectorGraphsModel", T_M, 28, ty_M, rfl, by decide, List.mem_filter.mpr ⟨List.mem_append_right _ (List.mem_append_right _ (List.mem_append_left _ (List.mem_of_getElem? (i := 179) rfl))), rfl⟩, cw_M, tok_M, nm_M, rfl, rfl, fun h => by cases h⟩
theorem fl_M_171 : ax_fld "VectorGraphsModel" 171 4 26 := ⟨"VectorGraphsModel", T_M, 28, rfl, by decide, List.mem_filter.mpr ⟨List.mem_append_right _ (List.mem_append_right _ (List.mem_append_left _ (List.mem_of_getElem? (i := 194) rfl))), rfl⟩, cw_M⟩
theorem fw_M_171 : ax_fldW "VectorGraphsModel" 171 4 26 (.int) false := ⟨"VectorGraphsModel", T_M, 28, ty_M, rfl, by decide, List.mem_filter.mpr ⟨List.mem_append_right _ (List.mem_append_right _ (List.mem_append_left _ (List.mem_of_getElem? (i := 194) rfl))), rfl⟩, cw_M, tok_M, nm_M, rfl, rfl, fun h => by cases h⟩
theorem cl_X_9 : ax_cls "VectorGraphs" 9 2 6 [.int 0, .null, .null, .null, .int 0, .int 0] := ⟨"VectorGraphs$Vectors", T_V, ty_V, rfl, cw_V, tok_V, List.mem_filter.mpr ⟨List.mem_append_right _ (List.mem_append_left _ (List.mem_of_getElem? (i := 16) rfl)), rfl⟩, List.mem_filter.mpr ⟨List.mem_append_right _ (List.mem_append_left _ (List.mem_of_getElem? (i := 17) rfl)), rfl⟩, List.mem_filter.mpr ⟨List.mem_append_right _ (List.mem_append_left _ (List.mem_of_getElem? (i := 2) rfl)), rfl⟩, by decide +kernel, by decide +kernel⟩
theorem cl_X_27 : ax_cls "VectorGraphs" 27 0 13 [.null, .int 0, .int 0, .int 0, .int 0, .null, .int 0, .null, .null, .null, .null, .null, .null] := ⟨"VectorGraphs$Graph", T_G, ty_G, rfl, cw_G, tok_G, List.mem_filter.mpr ⟨List.mem_append_right _ (List.mem_append_left _ (List.mem_of_getElem? (i := 55) rfl)), rfl⟩, List.mem_filter.mpr ⟨List.mem_append_right _ (List.mem_append_left _ (List.mem_of_getElem? (i := 56) rfl)), rfl⟩, List.mem_filter.mpr ⟨List.mem_append_right _ (List.mem_append_left _ (List.mem_of_getElem? (i := 4) rfl)), rfl⟩, by decide +kernel, by decide +kernel⟩
theorem cl_X_36 : ax_cls "VectorGraphs" 36 1 2 [.null, .int 0] := ⟨"VectorGraphs$Ranks", T_R, ty_R, rfl, cw_R, tok_R, List.mem_filter.mpr ⟨List.mem_append_right _ (List.mem_append_left _ (List.mem_of_getElem? (i := 122) rfl)), rfl⟩, List.mem_filter.mpr ⟨List.mem_append_right _ (List.mem_append_left _ (List.mem_of_getElem? (i := 62) rfl)), rfl⟩, List.mem_filter.mpr ⟨List.mem_append_right _ (List.mem_append_left _ (List.mem_of_getElem? (i := 5) rfl)), rfl⟩, by decide +kernel, by decide +kernel⟩
theorem cl_G_46 : ax_cls "VectorGraphs$Graph" 46 1 2 [.null, .int 0] := ⟨"VectorGraphs$Ranks", T_R, ty_R, rfl, cw_R, tok_R, List.mem_filter.mpr ⟨List.mem_append_right _ (List.mem_append_left _ (List.mem_of_getElem? (i := 61) rfl)), rfl⟩, List.mem_filter.mpr ⟨List.mem_append_right _ (List.mem_append_left _ (List.mem_of_getElem? (i := 62) rfl)), rfl⟩, List.mem_filter.mpr ⟨List.mem_append_right _ (List.mem_append_left _ (List.mem_of_getElem? (i := 5) rfl)), rfl⟩, by decide +kernel, by decide +kernel⟩
theorem cl_L_7 : ax_cls "VectorGraphsLaw" 7 3 6 [.null, .null, .null, .null, .null, .int 0] := ⟨"VectorGraphs", T_X, ty_X, rfl, cw_X, tok_X, List.mem_filter.mpr ⟨List.mem_append_right _ (List.mem_append_left _ (List.mem_of_getElem? (i := 8) rfl)), rfl⟩, List.mem_filter.mpr ⟨List.mem_append_right _ (List.mem_append_left _ (List.mem_of_getElem? (i := 9) rfl)), rfl⟩, List.mem_filter.mpr ⟨List.mem_append_right _ (List.mem_append_left _ (List.mem_of_getElem? (i := 1) rfl)), rfl⟩, by decide +kernel, by decide +kernel⟩
theorem cl_L_18 : ax_cls "VectorGraphsLaw" 18 4 28 [.int 0, .int 0, .int 0, .int 0, .int 0, .int 0, .null, .int 0, .null, .null, .null, .int 0, .int 0, .int 0, .null, .null, .int 0, .null, .null, .null, .null, .int 0, .null, .null, .null, .null, .int 0, .null] := ⟨"VectorGraphsModel", T_M, ty_M, rfl, cw_M, tok_M, List.mem_filter.mpr ⟨List.mem_append_right _ (List.mem_append_right _ (List.mem_append_left _ (List.mem_of_getElem? (i := 161) rfl))), rfl⟩, List.mem_filter.mpr ⟨List.mem_append_right _ (List.mem_append_right _ (List.mem_append_left _ (List.mem_of_getElem? (i := 162) rfl))), rfl⟩, List.mem_filter.mpr ⟨List.mem_append_right _ (List.mem_append_left _ (List.mem_of_getElem? (i := 6) rfl)), rfl⟩, by decide +kernel, by decide +kernel⟩
theorem mo_0 : ax_mok 0 2 := ⟨List.mem_filter.mpr ⟨List.mem_append_right _ (List.mem_append_left _ (List.mem_of_getElem? (i := 12) rfl)), rfl⟩, List.mem_filter.mpr ⟨List.mem_append_right _ (List.mem_append_left _ (List.mem_of_getElem? (i := 1) rfl)), rfl⟩, ⟨by decide +kernel, by decide +kernel, by decide +kernel⟩, by decide +kernel⟩
theorem mo_1 : ax_mok 1 1 := ⟨List.mem_filter.mpr ⟨List.mem_append_right _ (List.mem_append_left _ (List.mem_of_getElem? (i := 26) rfl)), rfl⟩, List.mem_filter.mpr ⟨List.mem_append_right _ (List.mem_append_left _ (List.mem_of_getElem? (i := 2) rfl)), rfl⟩, ⟨by decide +kernel, by decide +kernel, by decide +kernel⟩, by decide +kernel⟩
theorem mo_2 : ax_mok 2 2 := ⟨List.mem_filter.mpr ⟨List.mem_append_right _ (List.mem_append_left _ (List.mem_of_getElem? (i := 59) rfl)), rfl⟩, List.mem_filter.mpr ⟨List.mem_append_right _ (List.mem_append_left _ (List.mem_of_getElem? (i := 4) rfl)), rfl⟩, ⟨by decide +kernel, by decide +kernel, by decide +kernel⟩, by decide +kernel⟩
theorem mo_3 : ax_mok 3 1 := ⟨List.mem_filter.mpr ⟨List.mem_append_right _ (List.mem_append_left _ (List.mem_of_getElem? (i := 65) rfl)), rfl⟩, List.mem_filter.mpr ⟨List.mem_append_right _ (List.mem_append_left _ (List.mem_of_getElem? (i := 5) rfl)), rfl⟩, ⟨by decide +kernel, by decide +kernel, by decide +kernel⟩, by decide +kernel⟩
theorem mo_4 : ax_mok 4 2 := ⟨List.mem_filter.mpr ⟨List.mem_append_right _ (List.mem_append_left _ (List.mem_of_getElem? (i := 146) rfl)), rfl⟩, List.mem_filter.mpr ⟨List.mem_append_right _ (List.mem_append_left _ (List.mem_of_getElem? (i := 1) rfl)), rfl⟩, ⟨by decide +kernel, by decide +kernel, by decide +kernel⟩, by decide +kernel⟩
theorem mo_5 : ax_mok 5 2 := ⟨List.mem_filter.mpr ⟨List.mem_append_right _ (List.mem_append_left _ (List.mem_of_getElem? (i := 150) rfl)), rfl⟩, List.mem_filter.mpr ⟨List.mem_append_right _ (List.mem_append_left _ (List.mem_of_getElem? (i := 2) rfl)), rfl⟩, ⟨by decide +kernel, by decide +kernel, by decide +kernel⟩, by decide +kernel⟩
theorem mo_6 : ax_mok 6 0 := ⟨List.mem_filter.mpr ⟨List.mem_append_right _ (List.mem_append_left _ (List.mem_of_getElem? (i := 154) rfl)), rfl⟩, List.mem_filter.mpr ⟨List.mem_append_right _ (List.mem_append_left _ (List.mem_of_getElem? (i := 1) rfl)), rfl⟩, ⟨by decide +kernel, by decide +kernel, by decide +kernel⟩, by decide +kernel⟩
theorem mo_7 : ax_mok 7 0 := ⟨List.mem_filter.mpr ⟨List.mem_append_right _ (List.mem_append_left _ (List.mem_of_getElem? (i := 158) rfl)), rfl⟩, List.mem_filter.mpr ⟨List.mem_append_right _ (List.mem_append_left _ (List.mem_of_getElem? (i := 2) rfl)), rfl⟩, ⟨by decide +kernel, by decide +kernel, by decide +kernel⟩, by decide +kernel⟩
theorem mo_8 : ax_mok 8 2 := ⟨List.mem_filter.mpr ⟨List.mem_append_right _ (List.mem_append_left _ (List.mem_of_getElem? (i := 162) rfl)), rfl⟩, List.mem_filter.mpr ⟨List.mem_append_right _ (List.mem_append_left _ (List.mem_of_getElem? (i := 2) rfl)), rfl⟩, ⟨by decide +kernel, by decide +kernel, by decide +kernel⟩, by decide +kernel⟩
theorem mo_9 : ax_mok 9 1 := ⟨List.mem_filter.mpr ⟨List.mem_append_right _ (List.mem_append_left _ (List.mem_of_getElem? (i := 169) rfl)), rfl⟩, List.mem_filter.mpr ⟨List.mem_append_right _ (List.mem_append_left _ (List.mem_of_getElem? (i := 4) rfl)), rfl⟩, ⟨by decide +kernel, by decide +kernel, by decide +kernel⟩, by decide +kernel⟩
theorem mo_10 : ax_mok 10 1 := ⟨List.mem_filter.mpr ⟨List.mem_append_right _ (List.mem_append_left _ (List.mem_of_getElem? (i := 173) rfl)), rfl⟩, List.mem_filter.mpr ⟨List.mem_append_right _ (List.mem_append_left _ (List.mem_of_getElem? (i := 4) rfl)), rfl⟩, ⟨by decide +kernel, by decide +kernel, by decide +kernel⟩, by decide +kernel⟩
theorem mo_11 : ax_mok 11 3 := ⟨List.mem_filter.mpr ⟨List.mem_append_right _ (List.mem_append_left _ (List.mem_of_getElem? (i := 179) rfl)), rfl⟩, List.mem_filter.mpr ⟨List.mem_append_right _ (List.mem_append_left _ (List.mem_of_getElem? (i := 4) rfl)), rfl⟩, ⟨by decide +kernel, by decide +kernel, by decide +kernel⟩, by decide +kernel⟩
theorem mo_12 : ax_mok 12 4 := ⟨List.mem_filter.mpr ⟨List.mem_append_right _ (List.mem_append_left _ (List.mem_of_getElem? (i := 183) rfl)), rfl⟩, List.mem_filter.mpr ⟨List.mem_append_right _ (List.mem_append_left _ (List.mem_of_getElem? (i := 4) rfl)), rfl⟩, ⟨by decide +kernel, by decide +kernel, by decide +kernel⟩, by decide +kernel⟩
theorem mo_13 : ax_mok 13 0 := ⟨List.mem_filter.mpr ⟨List.mem_append_right _ (List.mem_append_left _ (List.mem_of_getElem? (i := 187) rfl)), rfl⟩, List.mem_filter.mpr ⟨List.mem_append_right _ (List.mem_append_left _ (List.mem_of_getElem? (i := 4) rfl)), rfl⟩, ⟨by decide +kernel, by decide +kernel, by decide +kernel⟩, by decide +kernel⟩
theorem mo_14 : ax_mok 14 0 := ⟨List.mem_filter.mpr ⟨List.mem_append_right _ (List.mem_append_left _ (List.mem_of_getElem? (i := 191) rfl)), rfl⟩, List.mem_filter.mpr ⟨List.mem_append_right _ (List.mem_append_left _ (List.mem_of_getElem? (i := 5) rfl)), rfl⟩, ⟨by decide +kernel, by decide +kernel, by decide +kernel⟩, by decide +kernel⟩
theorem mo_15 : ax_mok 15 3 := ⟨List.mem_filter.mpr ⟨List.mem_append_right _ (List.mem_append_left _ (List.mem_of_getElem? (i := 195) rfl)), rfl⟩, List.mem_filter.mpr ⟨List.mem_append_right _ (List.mem_append_left _ (List.mem_of_getElem? (i := 4) rfl)), rfl⟩, ⟨by decide +kernel, by decide +kernel, by decide +kernel⟩, by decide +kernel⟩
theorem mo_16 : ax_mok 16 3 := ⟨List.mem_filter.mpr ⟨List.mem_append_right _ (List.mem_append_left _ (List.mem_of_getElem? (i := 199) rfl)), rfl⟩, List.mem_filter.mpr ⟨List.mem_append_right _ (List.mem_append_left _ (List.mem_of_getElem? (i := 2) rfl)), rfl⟩, ⟨by decide +kernel, by decide +kernel, by decide +kernel⟩, by decide +kernel⟩
theorem mo_17 : ax_mok 17 2 := ⟨List.mem_filter.mpr ⟨List.mem_append_right _ (List.mem_append_left _ (List.mem_of_getElem? (i := 203) rfl)), rfl⟩, List.mem_filter.mpr ⟨List.mem_append_right _ (List.mem_append_left _ (List.mem_of_getElem? (i := 5) rfl)), rfl⟩, ⟨by decide +kernel, by decide +kernel, by decide +kernel⟩, by decide +kernel⟩
theorem mo_18 : ax_mok 18 2 := ⟨List.mem_filter.mpr ⟨List.mem_append_right _ (List.mem_append_left _ (List.mem_of_getElem? (i := 207) rfl)), rfl⟩, List.mem_filter.mpr ⟨List.mem_append_right _ (List.mem_append_left _ (List.mem_of_getElem? (i := 5) rfl)), rfl⟩, ⟨by decide +kernel, by decide +kernel, by decide +kernel⟩, by decide +kernel⟩
theorem mo_19 : ax_mok 19 1 := ⟨List.mem_filter.mpr ⟨List.mem_append_right _ (List.mem_append_left _ (List.mem_of_getElem? (i := 211) rfl)), rfl⟩, List.mem_filter.mpr ⟨List.mem_append_right _ (List.mem_append_left _ (List.mem_of_getElem? (i := 5) rfl)), rfl⟩, ⟨by decide +kernel, by decide +kernel, by decide +kernel⟩, by decide +kernel⟩
theorem mo_20 : ax_mok 20 1 := ⟨List.mem_filter.mpr ⟨List.mem_append_right _ (List.mem_append_left _ (List.mem_of_getElem? (i := 216) rfl)), rfl⟩, List.mem_filter.mpr ⟨List.mem_append_right _ (List.mem_append_left _ (List.mem_of_getElem? (i := 5) rfl)), rfl⟩, ⟨by decide +kernel, by decide +kernel, by decide +kernel⟩, by decide +kernel⟩
theorem mo_21 : ax_mok 21 1 := ⟨List.mem_filter.mpr ⟨List.mem_append_right _ (List.mem_append_left _ (List.mem_of_getElem? (i := 220) rfl)), rfl⟩, List.mem_filter.mpr ⟨List.mem_append_right _ (List.mem_append_left _ (List.mem_of_getElem? (i := 5) rfl)), rfl⟩, ⟨by decide +kernel, by decide +kernel, by decide +kernel⟩, by decide +kernel⟩
theorem mo_22 : ax_mok 22 0 := ⟨List.mem_filter.mpr ⟨List.mem_append_right _ (List.mem_append_left _ (List.mem_of_getElem? (i := 224) rfl)), rfl⟩, List.mem_filter.mpr ⟨List.mem_append_right _ (List.mem_append_left _ (List.mem_of_getElem? (i := 5) rfl)), rfl⟩, ⟨by decide +kernel, by decide +kernel, by decide +kernel⟩, by decide +kernel⟩
theorem mo_23 : ax_mok 23 2 := ⟨List.mem_filter.mpr ⟨List.mem_append_right _ (List.mem_append_left _ (List.mem_of_getElem? (i := 229) rfl)), rfl⟩, List.mem_filter.mpr ⟨List.mem_append_right _ (List.mem_append_left _ (List.mem_of_getElem? (i := 4) rfl)), rfl⟩, ⟨by decide +kernel, by decide +kernel, by decide +kernel⟩, by decide +kernel⟩
theorem mo_24 : ax_mok 24 3 := ⟨List.mem_filter.mpr ⟨List.mem_append_right _ (List.mem_append_left _ (List.mem_of_getElem? (i := 233) rfl)), rfl⟩, List.mem_filter.mpr ⟨List.mem_append_right _ (List.mem_append_left _ (List.mem_of_getElem? (i := 4) rfl)), rfl⟩, ⟨by decide +kernel, by decide +kernel, by decide +kernel⟩, by decide +kernel⟩
theorem mo_25 : ax_mok 25 2 := ⟨List.mem_filter.mpr ⟨List.mem_append_right _ (List.mem_append_left _ (List.mem_of_getElem? (i := 236) rfl)), rfl⟩, List.mem_filter.mpr ⟨List.mem_append_right _ (List.mem_append_left _ (List.mem_of_getElem? (i := 4) rfl)), rfl⟩, ⟨by decide +kernel, by decide +kernel, by decide +kernel⟩, by decide +kernel⟩
theorem mo_26 : ax_mok 26 3 := ⟨List.mem_filter.mpr ⟨List.mem_append_right _ (List.mem_append_right _ (List.mem_append_left _ (List.mem_of_getElem? (i := 1) rfl))), rfl⟩, List.mem_filter.mpr ⟨List.mem_append_right _ (List.mem_append_left _ (List.mem_of_getElem? (i := 4) rfl)), rfl⟩, ⟨by decide +kernel, by decide +kernel, by decide +kernel⟩, by decide +kernel⟩
theorem mo_27 : ax_mok 27 1 := ⟨List.mem_filter.mpr ⟨List.mem_append_right _ (List.mem_append_right _ (List.mem_append_left _ (List.mem_of_getElem? (i := 5) rfl))), rfl⟩, List.mem_filter.mpr ⟨List.mem_append_right _ (List.mem_append_left _ (List.mem_of_getElem? (i := 4) rfl)), rfl⟩, ⟨by decide +kernel, by decide +kernel, by decide +kernel⟩, by decide +kernel⟩
theorem mo_28 : ax_mok 28 2 := ⟨List.mem_filter.mpr ⟨List.mem_append_right _ (List.mem_append_right _ (List.mem_append_left _ (List.mem_of_getElem? (i := 9) rfl))), rfl⟩, List.mem_filter.mpr ⟨List.mem_append_right _ (List.mem_append_left _ (List.mem_of_getElem? (i := 4) rfl)), rfl⟩, ⟨by decide +kernel, by decide +kernel, by decide +kernel⟩, by decide +kernel⟩
theorem mo_29 : ax_mok 29 2 := ⟨List.mem_filter.mpr ⟨List.mem_append_right _ (List.mem_append_right _ (List.mem_append_left _ (List.mem_of_getElem? (i := 13) rfl))), rfl⟩, List.mem_filter.mpr ⟨List.mem_append_right _ (List.mem_append_left _ (List.mem_of_getElem? (i := 5) rfl)), rfl⟩, ⟨by decide +kernel, by decide +kernel, by decide +kernel⟩, by decide +kernel⟩
theorem mo_30 : ax_mok 30 3 := ⟨List.mem_filter.mpr ⟨List.mem_append_right _ (List.mem_append_right _ (List.mem_append_left _ (List.mem_of_getElem? (i := 17) rfl))), rfl⟩, List.mem_filter.mpr ⟨List.mem_append_right _ (List.mem_append_left _ (List.mem_of_getElem? (i := 4) rfl)), rfl⟩, ⟨by decide +kernel, by decide +kernel, by decide +kernel⟩, by decide +kernel⟩
theorem mo_31 : ax_mok 31 3 := ⟨List.mem_filter.mpr ⟨List.mem_append_right _ (List.mem_append_right _ (List.mem_append_left _ (List.mem_of_getElem? (i := 21) rfl))), rfl⟩, List.mem_filter.mpr ⟨List.mem_append_right _ (List.mem_append_left _ (List.mem_of_getElem? (i := 4) rfl)), rfl⟩, ⟨by decide +kernel, by decide +kernel, by decide +kernel⟩, by decide +kernel⟩
theorem mo_32 : ax_mok 32 1 := ⟨List.mem_filter.mpr ⟨List.mem_append_right _ (List.mem_append_right _ (List.mem_append_left _ (List.mem_of_getElem? (i := 25) rfl))), rfl⟩, List.mem_filter.mpr ⟨List.mem_append_right _ (List.mem_append_left _ (List.mem_of_getElem? (i := 1) rfl)), rfl⟩, ⟨by decide +kernel, by decide +kernel, by decide +kernel⟩, by decide +kernel⟩
theorem mo_33 : ax_mok 33 1 := ⟨List.mem_filter.mpr ⟨List.mem_append_right _ (List.mem_append_right _ (List.mem_append_left _ (List.mem_of_getElem? (i := 29) rfl))), rfl⟩, List.mem_filter.mpr ⟨List.mem_append_right _ (List.mem_append_left _ (List.mem_of_getElem? (i := 2) rfl)), rfl⟩, ⟨by decide +kernel, by decide +kernel, by decide +kernel⟩, by decide +kernel⟩
theorem mo_34 : ax_mok 34 1 := ⟨List.mem_filter.mpr ⟨List.mem_append_right _ (List.mem_append_right _ (List.mem_append_left _ (List.mem_of_getElem? (i := 34) rfl))), rfl⟩, List.mem_filter.mpr ⟨List.mem_append_right _ (List.mem_append_left _ (List.mem_of_getElem? (i := 1) rfl)), rfl⟩, ⟨by decide +kernel, by decide +kernel, by decide +kernel⟩, by decide +kernel⟩
theorem mo_35 : ax_mok 35 2 := ⟨List.mem_filter.mpr ⟨List.mem_append_right _ (List.mem_append_right _ (List.mem_append_left _ (List.mem_of_getElem? (i := 38) rfl))), rfl⟩, List.mem_filter.mpr ⟨List.mem_append_right _ (List.mem_append_left _ (List.mem_of_getElem? (i := 1) rfl)), rfl⟩, ⟨by decide +kernel, by decide +kernel, by decide +kernel⟩, by decide +kernel⟩
theorem mo_36 : ax_mok 36 0 := ⟨List.mem_filter.mpr ⟨List.mem_append_right _ (List.mem_append_right _ (List.mem_append_left _ (List.mem_of_getElem? (i := 42) rfl))), rfl⟩, List.mem_filter.mpr ⟨List.mem_append_right _ (List.mem_append_left _ (List.mem_of_getElem? (i := 1) rfl)), rfl⟩, ⟨by decide +kernel, by decide +kernel, by decide +kernel⟩, by decide +kernel⟩
theorem mo_37 : ax_mok 37 0 := ⟨List.mem_filter.mpr ⟨List.mem_append_right _ (List.mem_append_right _ (List.mem_append_left _ (List.mem_of_getElem? (i := 46) rfl))), rfl⟩, List.mem_filter.mpr ⟨List.mem_append_right _ (List.mem_append_left _ (List.mem_of_getElem? (i := 2) rfl)), rfl⟩, ⟨by decide +kernel, by decide +kernel, by decide +kernel⟩, by decide +kernel⟩
theorem mo_38 : ax_mok 38 0 := ⟨List.mem_filter.mpr ⟨List.mem_append_right _ (List.mem_append_right _ (List.mem_append_left _ (List.mem_of_getElem? (i := 51) rfl))), rfl⟩, List.mem_filter.mpr ⟨List.mem_append_right _ (List.mem_append_left _ (List.mem_of_getElem? (i := 4) rfl)), rfl⟩, ⟨by decide +kernel, by decide +kernel, by decide +kernel⟩, by decide +kernel⟩
theorem mo_39 : ax_mok 39 2 := ⟨List.mem_filter.mpr ⟨List.mem_append_right _ (List.mem_append_right _ (List.mem_append_left _ (List.mem_of_getElem? (i := 56) rfl))), rfl⟩, List.mem_filter.mpr ⟨List.mem_append_right _ (List.mem_append_left _ (List.mem_of_getElem? (i := 1) rfl)), rfl⟩, ⟨by decide +kernel, by decide +kernel, by decide +kernel⟩, by decide +kernel⟩
theorem mo_40 : ax_mok 40 1 := ⟨List.mem_filter.mpr ⟨List.mem_append_right _ (List.mem_append_right _ (List.mem_append_left _ (List.mem_of_getElem? (i := 60) rfl))), rfl⟩, List.mem_filter.mpr ⟨List.mem_append_right _ (List.mem_append_left _ (List.mem_of_getElem? (i := 1) rfl)), rfl⟩, ⟨by decide +kernel, by decide +kernel, by decide +kernel⟩, by decide +kernel⟩
theorem mo_41 : ax_mok 41 2 := ⟨List.mem_filter.mpr ⟨List.mem_append_right _ (List.mem_append_right _ (List.mem_append_left _ (List.mem_of_getElem? (i := 64) rfl))), rfl⟩, List.mem_filter.mpr ⟨List.mem_append_right _ (List.mem_append_left _ (List.mem_of_getElem? (i := 1) rfl)), rfl⟩, ⟨by decide +kernel, by decide +kernel, by decide +kernel⟩, by decide +kernel⟩
theorem mo_42 : ax_mok 42 1 := ⟨List.mem_filter.mpr ⟨List.mem_append_right _ (List.mem_append_right _ (List.mem_append_left _ (List.mem_of_getElem? (i := 68) rfl))), rfl⟩, List.mem_filter.mpr ⟨List.mem_append_right _ (List.mem_append_left _ (List.mem_of_getElem? (i := 2) rfl)), rfl⟩, ⟨by decide +kernel, by decide +kernel, by decide +kernel⟩, by decide +kernel⟩
theorem mo_43 : ax_mok 43 2 := ⟨List.mem_filter.mpr ⟨List.mem_append_right _ (List.mem_append_right _ (List.mem_append_left _ (List.mem_of_getElem? (i := 76) rfl))), rfl⟩, List.mem_filter.mpr ⟨List.mem_append_right _ (List.mem_append_left _ (List.mem_of_getElem? (i := 1) rfl)), rfl⟩, ⟨by decide +kernel, by decide +kernel, by decide +kernel⟩, by decide +kernel⟩
theorem mo_44 : ax_mok 44 2 := ⟨List.mem_filter.mpr ⟨List.mem_append_right _ (List.mem_append_right _ (List.mem_append_left _ (List.mem_of_getElem? (i := 79) rfl))), rfl⟩, List.mem_filter.mpr ⟨List.mem_append_right _ (List.mem_append_left _ (List.mem_of_getElem? (i := 1) rfl)), rfl⟩, ⟨by decide +kernel, by decide +kernel, by decide +kernel⟩, by decide +kernel⟩
theorem mo_45 : ax_mok 45 2 := ⟨List.mem_filter.mpr ⟨List.mem_append_right _ (List.mem_append_right _ (List.mem_append_left _ (List.mem_of_getElem? (i := 83) rfl))), rfl⟩, List.mem_filter.mpr ⟨List.mem_append_right _ (List.mem_append_left _ (List.mem_of_getElem? (i := 1) rfl)), rfl⟩, ⟨by decide +kernel, by decide +kernel, by decide +kernel⟩, by decide +kernel⟩
theorem mo_46 : ax_mok 46 1 := ⟨List.mem_filter.mpr ⟨List.mem_append_right _ (List.mem_append_right _ (List.mem_append_left _ (List.mem_of_getElem? (i := 87) rfl))), rfl⟩, List.mem_filter.mpr ⟨List.mem_append_right _ (List.mem_append_left _ (List.mem_of_getElem? (i := 4) rfl)), rfl⟩, ⟨by decide +kernel, by decide +kernel, by decide +kernel⟩, by decide +kernel⟩
theorem mo_47 : ax_mok 47 3 := ⟨List.mem_filter.mpr ⟨List.mem_append_right _ (List.mem_append_right _ (List.mem_append_left _ (List.mem_of_getElem? (i := 93) rfl))), rfl⟩, List.mem_filter.mpr ⟨List.mem_append_right _ (List.mem_append_left _ (List.mem_of_getElem? (i := 1) rfl)), rfl⟩, ⟨by decide +kernel, by decide +kernel, by decide +kernel⟩, by decide +kernel⟩
theorem mo_48 : ax_mok 48 2 := ⟨List.mem_filter.mpr ⟨List.mem_append_right _ (List.mem_append_right _ (List.mem_append_left _ (List.mem_of_getElem? (i := 97) rfl))), rfl⟩, List.mem_filter.mpr ⟨List.mem_append_right _ (List.mem_append_left _ (List.mem_of_getElem? (i := 1) rfl)), rfl⟩, ⟨by decide +kernel, by decide +kernel, by decide +kernel⟩, by decide +kernel⟩
theorem mo_49 : ax_mok 49 1 := ⟨List.mem_filter.mpr ⟨List.mem_append_right _ (List.mem_append_right _ (List.mem_append_left _ (List.mem_of_getElem? (i := 101) rfl))), rfl⟩, List.mem_filter.mpr ⟨List.mem_append_right _ (List.mem_append_left _ (List.mem_of_getElem? (i := 5) rfl)), rfl⟩, ⟨by decide +kernel, by decide +kernel, by decide +kernel⟩, by decide +kernel⟩
theorem mo_50 : ax_mok 50 1 := ⟨List.mem_filter.mpr ⟨List.mem_append_right _ (List.mem_append_right _ (List.mem_append_left _ (List.mem_of_getElem? (i := 105) rfl))), rfl⟩, List.mem_filter.mpr ⟨List.mem_append_right _ (List.mem_append_left _ (List.mem_of_getElem? (i := 1) rfl)), rfl⟩, ⟨by decide +kernel, by decide +kernel, by decide +kernel⟩, by decide +kernel⟩
theorem mo_51 : ax_mok 51 1 := ⟨List.mem_filter.mpr ⟨List.mem_append_right _ (List.mem_append_right _ (List.mem_append_left _ (List.mem_of_getElem? (i := 109) rfl))), rfl⟩, List.mem_filter.mpr ⟨List.mem_append_right _ (List.mem_append_left _ (List.mem_of_getElem? (i := 1) rfl)), rfl⟩, ⟨by decide +kernel, by decide +kernel, by decide +kernel⟩, by decide +kernel⟩
theorem mo_52 : ax_mok 52 2 := ⟨List.mem_filter.mpr ⟨List.mem_append_right _ (List.mem_append_right _ (List.mem_append_left _ (List.mem_of_getElem? (i := 113) rfl))), rfl⟩, List.mem_filter.mpr ⟨List.mem_append_right _ (List.mem_append_left _ (List.mem_of_getElem? (i := 1) rfl)), rfl⟩, ⟨by decide +kernel, by decide +kernel, by decide +kernel⟩, by decide +kernel⟩
theorem mo_53 : ax_mok 53 0 := ⟨List.mem_filter.mpr ⟨List.mem_append_right _ (List.mem_append_right _ (List.mem_append_left _ (List.mem_of_getElem? (i := 117) rfl))), rfl⟩, List.mem_filter.mpr ⟨List.mem_append_right _ (List.mem_append_left _ (List.mem_of_getElem? (i := 1) rfl)), rfl⟩, ⟨by decide +kernel, by decide +kernel, by decide +kernel⟩, by decide +kernel⟩
theorem mo_54 : ax_mok 54 1 := ⟨List.mem_filter.mpr ⟨List.mem_append_right _ (List.mem_append_right _ (List.mem_append_left _ (List.mem_of_getElem? (i := 121) rfl))), rfl⟩, List.mem_filter.mpr ⟨List.mem_append_right _ (List.mem_append_left _ (List.mem_of_getElem? (i := 1) rfl)), rfl⟩, ⟨by decide +kernel, by decide +kernel, by decide +kernel⟩, by decide +kernel⟩
theorem mo_55 : ax_mok 55 0 := ⟨List.mem_filter.mpr ⟨List.mem_append_right _ (List.mem_append_right _ (List.mem_append_left _ (List.mem_of_getElem? (i := 126) rfl))), rfl⟩, List.mem_filter.mpr ⟨List.mem_append_right _ (List.mem_append_left _ (List.mem_of_getElem? (i := 1) rfl)), rfl⟩, ⟨by decide +kernel, by decide +kernel, by decide +kernel⟩, by decide +kernel⟩
theorem mo_56 : ax_mok 56 3 := ⟨List.mem_filter.mpr ⟨List.mem_append_right _ (List.mem_append_right _ (List.mem_append_left _ (List.mem_of_getElem? (i := 130) rfl))), rfl⟩, List.mem_filter.mpr ⟨List.mem_append_right _ (List.mem_append_left _ (List.mem_of_getElem? (i := 1) rfl)), rfl⟩, ⟨by decide +kernel, by decide +kernel, by decide +kernel⟩, by decide +kernel⟩
theorem mo_57 : ax_mok 57 0 := ⟨List.mem_filter.mpr ⟨List.mem_append_right _ (List.mem_append_right _ (List.mem_append_left _ (List.mem_of_getElem? (i := 136) rfl))), rfl⟩, List.mem_filter.mpr ⟨List.mem_append_right _ (List.mem_append_left _ (List.mem_of_getElem? (i := 1) rfl)), rfl⟩, ⟨by decide +kernel, by decide +kernel, by decide +kernel⟩, by decide +kernel⟩
theorem mo_58 : ax_mok 58 0 := ⟨List.mem_filter.mpr ⟨List.mem_append_right _ (List.mem_append_right _ (List.mem_append_left _ (List.mem_of_getElem? (i := 140) rfl))), rfl⟩, List.mem_filter.mpr ⟨List.mem_append_right _ (List.mem_append_left _ (List.mem_of_getElem? (i := 4) rfl)), rfl⟩, ⟨by decide +kernel, by decide +kernel, by decide +kernel⟩, by decide +kernel⟩
theorem mo_59 : ax_mok 59 2 := ⟨List.mem_filter.mpr ⟨List.mem_append_right _ (List.mem_append_right _ (List.mem_append_left _ (List.mem_of_getElem? (i := 144) rfl))), rfl⟩, List.mem_filter.mpr ⟨List.mem_append_right _ (List.mem_append_left _ (List.mem_of_getElem? (i := 4) rfl)), rfl⟩, ⟨by decide +kernel, by decide +kernel, by decide +kernel⟩, by decide +kernel⟩
theorem mo_60 : ax_mok 60 1 := ⟨List.mem_filter.mpr ⟨List.mem_append_right _ (List.mem_append_right _ (List.mem_append_left _ (List.mem_of_getElem? (i := 148) rfl))), rfl⟩, List.mem_filter.mpr ⟨List.mem_append_right _ (List.mem_append_left _ (List.mem_of_getElem? (i := 1) rfl)), rfl⟩, ⟨by decide +kernel, by decide +kernel, by decide +kernel⟩, by decide +kernel⟩
theorem mo_61 : ax_mok 61 1 := ⟨List.mem_filter.mpr ⟨List.mem_append_right _ (List.mem_append_right _ (List.mem_append_left _ (List.mem_of_getElem? (i := 152) rfl))), rfl⟩, List.mem_filter.mpr ⟨List.mem_append_right _ (List.mem_append_left _ (List.mem_of_getElem? (i := 2) rfl)), rfl⟩, ⟨by decide +kernel, by decide +kernel, by decide +kernel⟩, by decide +kernel⟩
theorem mo_62 : ax_mok 62 0 := ⟨List.mem_filter.mpr ⟨List.mem_append_right _ (List.mem_append_right _ (List.mem_append_left _ (List.mem_of_getElem? (i := 156) rfl))), rfl⟩, List.mem_filter.mpr ⟨List.mem_append_right _ (List.mem_append_left _ (List.mem_of_getElem? (i := 2) rfl)), rfl⟩, ⟨by decide +kernel, by decide +kernel, by decide +kernel⟩, by decide +kernel⟩
theorem mo_63 : ax_mok 63 2 := ⟨List.mem_filter.mpr ⟨List.mem_append_right _ (List.mem_append_right _ (List.mem_append_left _ (List.mem_of_getElem? (i := 160) rfl))), rfl⟩, List.mem_filter.mpr ⟨List.mem_append_right _ (List.mem_append_left _ (List.mem_of_getElem? (i := 0) rfl)), rfl⟩, ⟨by decide +kernel, by decide +kernel, by decide +kernel⟩, by decide +kernel⟩
theorem mo_64 : ax_mok 64 2 := ⟨List.mem_filter.mpr ⟨List.mem_append_right _ (List.mem_append_right _ (List.mem_append_left _ (List.mem_of_getElem? (i := 165) rfl))), rfl⟩, List.mem_filter.mpr ⟨List.mem_append_right _ (List.mem_append_left _ (List.mem_of_getElem? (i := 6) rfl)), rfl⟩, ⟨by decide +kernel, by decide +kernel, by decide +kernel⟩, by decide +kernel⟩
theorem mo_65 : ax_mok 65 2 := ⟨List.mem_filter.mpr ⟨List.mem_append_right _ (List.mem_append_right _ (List.mem_append_right _ (List.mem_of_getElem? (i := 16) rfl))), rfl⟩, List.mem_filter.mpr ⟨List.mem_append_right _ (List.mem_append_left _ (List.mem_of_getElem? (i := 6) rfl)), rfl⟩, ⟨by decide +kernel, by decide +kernel, by decide +kernel⟩, by decide +kernel⟩
theorem mo_66 : ax_mok 66 3 := ⟨List.mem_filter.mpr ⟨List.mem_append_right _ (List.mem_append_right _ (List.mem_append_right _ (List.mem_of_getElem? (i := 19) rfl))), rfl⟩, List.mem_filter.mpr ⟨List.mem_append_right _ (List.mem_append_left _ (List.mem_of_getElem? (i := 6) rfl)), rfl⟩, ⟨by decide +kernel, by decide +kernel, by decide +kernel⟩, by decide +kernel⟩
theorem mo_67 : ax_mok 67 0 := ⟨List.mem_filter.mpr ⟨List.mem_append_right _ (List.mem_append_right _ (List.mem_append_right _ (List.mem_of_getElem? (i := 25) rfl))), rfl⟩, List.mem_filter.mpr ⟨List.mem_append_right _ (List.mem_append_left _ (List.mem_of_getElem? (i := 6) rfl)), rfl⟩, ⟨by decide +kernel, by decide +kernel, by decide +kernel⟩, by decide +kernel⟩
theorem mo_68 : ax_mok 68 2 := ⟨List.mem_filter.mpr ⟨List.mem_append_right _ (List.mem_append_right _ (List.mem_append_right _ (List.mem_of_getElem? (i := 29) rfl))), rfl⟩, List.mem_filter.mpr ⟨List.mem_append_right _ (List.mem_append_left _ (List.mem_of_getElem? (i := 6) rfl)), rfl⟩, ⟨by decide +kernel, by decide +kernel, by decide +kernel⟩, by decide +kernel⟩
theorem mo_69 : ax_mok 69 1 := ⟨List.mem_filter.mpr ⟨List.mem_append_right _ (List.mem_append_right _ (List.mem_append_right _ (List.mem_of_getElem? (i := 33) rfl))), rfl⟩, List.mem_filter.mpr ⟨List.mem_append_right _ (List.mem_append_left _ (List.mem_of_getElem? (i := 6) rfl)), rfl⟩, ⟨by decide +kernel, by decide +kernel, by decide +kernel⟩, by decide +kernel⟩
theorem mo_70 : ax_mok 70 1 := ⟨List.mem_filter.mpr ⟨List.mem_append_right _ (List.mem_append_right _ (List.mem_append_right _ (List.mem_of_getElem? (i := 37) rfl))), rfl⟩, List.mem_filter.mpr ⟨List.mem_append_right _ (List.mem_append_left _ (List.mem_of_getElem? (i := 6) rfl)), rfl⟩, ⟨by decide +kernel, by decide +kernel, by decide +kernel⟩, by decide +kernel⟩
theorem mo_71 : ax_mok 71 1 := ⟨List.mem_filter.mpr ⟨List.mem_append_right _ (List.mem_append_right _ (List.mem_append_right _ (List.mem_of_getElem? (i := 41) rfl))), rfl⟩, List.mem_filter.mpr ⟨List.mem_append_right _ (List.mem_append_left _ (List.mem_of_getElem? (i := 6) rfl)), rfl⟩, ⟨by decide +kernel, by decide +kernel, by decide +kernel⟩, by decide +kernel⟩
theorem mo_72 : ax_mok 72 2 := ⟨List.mem_filter.mpr ⟨List.mem_append_right _ (List.mem_append_right _ (List.mem_append_right _ (List.mem_of_getElem? (i := 45) rfl))), rfl⟩, List.mem_filter.mpr ⟨List.mem_append_right _ (List.mem_append_left _ (List.mem_of_getElem? (i := 6) rfl)), rfl⟩, ⟨by decide +kernel, by decide +kernel, by decide +kernel⟩, by decide +kernel⟩
theorem mo_73 : ax_mok 73 0 := ⟨List.mem_filter.mpr ⟨List.mem_append_right _ (List.mem_append_right _ (List.mem_append_right _ (List.mem_of_getElem? (i := 49) rfl))), rfl⟩, List.mem_filter.mpr ⟨List.mem_append_right _ (List.mem_append_left _ (List.mem_of_getElem? (i := 6) rfl)), rfl⟩, ⟨by decide +kernel, by decide +kernel, by decide +kernel⟩, by decide +kernel⟩
theorem mo_74 : ax_mok 74 2 := ⟨List.mem_filter.mpr ⟨List.mem_append_right _ (List.mem_append_right _ (List.mem_append_right _ (List.mem_of_getElem? (i := 53) rfl))), rfl⟩, List.mem_filter.mpr ⟨List.mem_append_right _ (List.mem_append_left _ (List.mem_of_getElem? (i := 6) rfl)), rfl⟩, ⟨by decide +kernel, by decide +kernel, by decide +kernel⟩, by decide +kernel⟩
theorem mo_75 : ax_mok 75 1 := ⟨List.mem_filter.mpr ⟨List.mem_append_right _ (List.mem_append_right _ (List.mem_append_right _ (List.mem_of_getElem? (i := 59) rfl))), rfl⟩, List.mem_filter.mpr ⟨List.mem_append_right _ (List.mem_append_left _ (List.mem_of_getElem? (i := 6) rfl)), rfl⟩, ⟨by decide +kernel, by decide +kernel, by decide +kernel⟩, by decide +kernel⟩
theorem mo_76 : ax_mok 76 1 := ⟨List.mem_filter.mpr ⟨List.mem_append_right _ (List.mem_append_right _ (List.mem_append_right _ (List.mem_of_getElem? (i := 63) rfl))), rfl⟩, List.mem_filter.mpr ⟨List.mem_append_right _ (List.mem_append_left _ (List.mem_of_getElem? (i := 6) rfl)), rfl⟩, ⟨by decide +kernel, by decide +kernel, by decide +kernel⟩, by decide +kernel⟩
theorem mo_77 : ax_mok 77 1 := ⟨List.mem_filter.mpr ⟨List.mem_append_right _ (List.mem_append_right _ (List.mem_append_right _ (List.mem_of_getElem? (i := 67) rfl))), rfl⟩, List.mem_filter.mpr ⟨List.mem_append_right _ (List.mem_append_left _ (List.mem_of_getElem? (i := 6) rfl)), rfl⟩, ⟨by decide +kernel, by decide +kernel, by decide +kernel⟩, by decide +kernel⟩
theorem mo_78 : ax_mok 78 2 := ⟨List.mem_filter.mpr ⟨List.mem_append_right _ (List.mem_append_right _ (List.mem_append_right _ (List.mem_of_getElem? (i := 71) rfl))), rfl⟩, List.mem_filter.mpr ⟨List.mem_append_right _ (List.mem_append_left _ (List.mem_of_getElem? (i := 6) rfl)), rfl⟩, ⟨by decide +kernel, by decide +kernel, by decide +kernel⟩, by decide +kernel⟩
theorem mo_79 : ax_mok 79 3 := ⟨List.mem_filter.mpr ⟨List.mem_append_right _ (List.mem_append_right _ (List.mem_append_right _ (List.mem_of_getElem? (i := 75) rfl))), rfl⟩, List.mem_filter.mpr ⟨List.mem_append_right _ (List.mem_append_left _ (List.mem_of_getElem? (i := 6) rfl)), rfl⟩, ⟨by decide +kernel, by decide +kernel, by decide +kernel⟩, by decide +kernel⟩
theorem mo_80 : ax_mok 80 1 := ⟨List.mem_filter.mpr ⟨List.mem_append_right _ (List.mem_append_right _ (List.mem_append_right _ (List.mem_of_getElem? (i := 78) rfl))), rfl⟩, List.mem_filter.mpr ⟨List.mem_append_right _ (List.mem_append_left _ (List.mem_of_getElem? (i := 6) rfl)), rfl⟩, ⟨by decide +kernel, by decide +kernel, by decide +kernel⟩, by decide +kernel⟩
theorem mo_81 : ax_mok 81 1 := ⟨List.mem_filter.mpr ⟨List.mem_append_right _ (List.mem_append_right _ (List.mem_append_right _ (List.mem_of_getElem? (i := 82) rfl))), rfl⟩, List.mem_filter.mpr ⟨List.mem_append_right _ (List.mem_append_left _ (List.mem_of_getElem? (i := 6) rfl)), rfl⟩, ⟨by decide +kernel, by decide +kernel, by decide +kernel⟩, by decide +kernel⟩
theorem mo_82 : ax_mok 82 3 := ⟨List.mem_filter.mpr ⟨List.mem_append_right _ (List.mem_append_right _ (List.mem_append_right _ (List.mem_of_getElem? (i := 86) rfl))), rfl⟩, List.mem_filter.mpr ⟨List.mem_append_right _ (List.mem_append_left _ (List.mem_of_getElem? (i := 6) rfl)), rfl⟩, ⟨by decide +kernel, by decide +kernel, by decide +kernel⟩, by decide +kernel⟩
theorem mo_83 : ax_mok 83 3 := ⟨List.mem_filter.mpr ⟨List.mem_append_right _ (List.mem_append_right _ (List.mem_append_right _ (List.mem_of_getElem? (i := 90) rfl))), rfl⟩, List.mem_filter.mpr ⟨List.mem_append_right _ (List.mem_append_left _ (List.mem_of_getElem? (i := 6) rfl)), rfl⟩, ⟨by decide +kernel, by decide +kernel, by decide +kernel⟩, by decide +kernel⟩
theorem mo_84 : ax_mok 84 0 := ⟨List.mem_filter.mpr ⟨List.mem_append_right _ (List.mem_append_right _ (List.mem_append_right _ (List.mem_of_getElem? (i := 94) rfl))), rfl⟩, List.mem_filter.mpr ⟨List.mem_append_right _ (List.mem_append_left _ (List.mem_of_getElem? (i := 6) rfl)), rfl⟩, ⟨by decide +kernel, by decide +kernel, by decide +kernel⟩, by decide +kernel⟩
theorem mo_85 : ax_mok 85 2 := ⟨List.mem_filter.mpr ⟨List.mem_append_right _ (List.mem_append_right _ (List.mem_append_right _ (List.mem_of_getElem? (i := 98) rfl))), rfl⟩, List.mem_filter.mpr ⟨List.mem_append_right _ (List.mem_append_left _ (List.mem_of_getElem? (i := 6) rfl)), rfl⟩, ⟨by decide +kernel, by decide +kernel, by decide +kernel⟩, by decide +kernel⟩
theorem mo_86 : ax_mok 86 2 := ⟨List.mem_filter.mpr ⟨List.mem_append_right _ (List.mem_append_right _ (List.mem_append_right _ (List.mem_of_getElem? (i := 103) rfl))), rfl⟩, List.mem_filter.mpr ⟨List.mem_append_right _ (List.mem_append_left _ (List.mem_of_getElem? (i := 6) rfl)), rfl⟩, ⟨by decide +kernel, by decide +kernel, by decide +kernel⟩, by decide +kernel⟩
theorem mo_87 : ax_mok 87 0 := ⟨List.mem_filter.mpr ⟨List.mem_append_right _ (List.mem_append_right _ (List.mem_append_right _ (List.mem_of_getElem? (i := 107) rfl))), rfl⟩, List.mem_filter.mpr ⟨List.mem_append_right _ (List.mem_append_left _ (List.mem_of_getElem? (i := 6) rfl)), rfl⟩, ⟨by decide +kernel, by decide +kernel, by decide +kernel⟩, by decide +kernel⟩
theorem mo_88 : ax_mok 88 2 := ⟨List.mem_filter.mpr ⟨List.mem_append_right _ (List.mem_append_right _ (List.mem_append_right _ (List.mem_of_getElem? (i := 110) rfl))), rfl⟩, List.mem_filter.mpr ⟨List.mem_append_right _ (List.mem_append_left _ (List.mem_of_getElem? (i := 6) rfl)), rfl⟩, ⟨by decide +kernel, by decide +kernel, by decide +kernel⟩, by decide +kernel⟩
theorem mo_89 : ax_mok 89 1 := ⟨List.mem_filter.mpr ⟨List.mem_append_right _ (List.mem_append_right _ (List.mem_append_right _ (List.mem_of_getElem? (i := 116) rfl))), rfl⟩, List.mem_filter.mpr ⟨List.mem_append_right _ (List.mem_append_left _ (List.mem_of_getElem? (i := 6) rfl)), rfl⟩, ⟨by decide +kernel, by decide +kernel, by decide +kernel⟩, by decide +kernel⟩
theorem mo_90 : ax_mok 90 4 := ⟨List.mem_filter.mpr ⟨List.mem_append_right _ (List.mem_append_right _ (List.mem_append_right _ (List.mem_of_getElem? (i := 120) rfl))), rfl⟩, List.mem_filter.mpr ⟨List.mem_append_right _ (List.mem_append_left _ (List.mem_of_getElem? (i := 6) rfl)), rfl⟩, ⟨by decide +kernel, by decide +kernel, by decide +kernel⟩, by decide +kernel⟩
theorem mo_91 : ax_mok 91 2 := ⟨List.mem_filter.mpr ⟨List.mem_append_right _ (List.mem_append_right _ (List.mem_append_right _ (List.mem_of_getElem? (i := 124) rfl))), rfl⟩, List.mem_filter.mpr ⟨List.mem_append_right _ (List.mem_append_left _ (List.mem_of_getElem? (i := 6) rfl)), rfl⟩, ⟨by decide +kernel, by decide +kernel, by decide +kernel⟩, by decide +kernel⟩
theorem mo_92 : ax_mok 92 3 := ⟨List.mem_filter.mpr ⟨List.mem_append_right _ (List.mem_append_right _ (List.mem_append_right _ (List.mem_of_getElem? (i := 128) rfl))), rfl⟩, List.mem_filter.mpr ⟨List.mem_append_right _ (List.mem_append_left _ (List.mem_of_getElem? (i := 6) rfl)), rfl⟩, ⟨by decide +kernel, by decide +kernel, by decide +kernel⟩, by decide +kernel⟩
theorem mo_93 : ax_mok 93 3 := ⟨List.mem_filter.mpr ⟨List.mem_append_right _ (List.mem_append_right _ (List.mem_append_right _ (List.mem_of_getElem? (i := 132) rfl))), rfl⟩, List.mem_filter.mpr ⟨List.mem_append_right _ (List.mem_append_left _ (List.mem_of_getElem? (i := 6) rfl)), rfl⟩, ⟨by decide +kernel, by decide +kernel, by decide +kernel⟩, by decide +kernel⟩
theorem mo_94 : ax_mok 94 3 := ⟨List.mem_filter.mpr ⟨List.mem_append_right _ (List.mem_append_right _ (List.mem_append_right _ (List.mem_of_getElem? (i := 136) rfl))), rfl⟩, List.mem_filter.mpr ⟨List.mem_append_right _ (List.mem_append_left _ (List.mem_of_getElem? (i := 6) rfl)), rfl⟩, ⟨by decide +kernel, by decide +kernel, by decide +kernel⟩, by decide +kernel⟩
theorem mo_95 : ax_mok 95 2 := ⟨List.mem_filter.mpr ⟨List.mem_append_right _ (List.mem_append_right _ (List.mem_append_right _ (List.mem_of_getElem? (i := 140) rfl))), rfl⟩, List.mem_filter.mpr ⟨List.mem_append_right _ (List.mem_append_left _ (List.mem_of_getElem? (i := 6) rfl)), rfl⟩, ⟨by decide +kernel, by decide +kernel, by decide +kernel⟩, by decide +kernel⟩
theorem mo_96 : ax_mok 96 2 := ⟨List.mem_filter.mpr ⟨List.mem_append_right _ (List.mem_append_right _ (List.mem_append_right _ (List.mem_of_getElem? (i := 144) rfl))), rfl⟩, List.mem_filter.mpr ⟨List.mem_append_right _ (List.mem_append_left _ (List.mem_of_getElem? (i := 6) rfl)), rfl⟩, ⟨by decide +kernel, by decide +kernel, by decide +kernel⟩, by decide +kernel⟩
theorem mo_97 : ax_mok 97 4 := ⟨List.mem_filter.mpr ⟨List.mem_append_right _ (List.mem_append_right _ (List.mem_append_right _ (List.mem_of_getElem? (i := 148) rfl))), rfl⟩, List.mem_filter.mpr ⟨List.mem_append_right _ (List.mem_append_left _ (List.mem_of_getElem? (i := 6) rfl)), rfl⟩, ⟨by decide +kernel, by decide +kernel, by decide +kernel⟩, by decide +kernel⟩
theorem mo_98 : ax_mok 98 3 := ⟨List.mem_filter.mpr ⟨List.mem_append_right _ (List.mem_append_right _ (List.mem_append_right _ (List.mem_of_getElem? (i := 152) rfl))), rfl⟩, List.mem_filter.mpr ⟨List.mem_append_right _ (List.mem_append_left _ (List.mem_of_getElem? (i := 6) rfl)), rfl⟩, ⟨by decide +kernel, by decide +kernel, by decide +kernel⟩, by decide +kernel⟩
theorem mo_99 : ax_mok 99 2 := ⟨List.mem_filter.mpr ⟨List.mem_append_right _ (List.mem_append_right _ (List.mem_append_right _ (List.mem_of_getElem? (i := 156) rfl))), rfl⟩, List.mem_filter.mpr ⟨List.mem_append_right _ (List.mem_append_left _ (List.mem_of_getElem? (i := 6) rfl)), rfl⟩, ⟨by decide +kernel, by decide +kernel, by decide +kernel⟩, by decide +kernel⟩
theorem mo_100 : ax_mok 100 1 := ⟨List.mem_filter.mpr ⟨List.mem_append_right _ (List.mem_append_right _ (List.mem_append_right _ (List.mem_of_getElem? (i := 160) rfl))), rfl⟩, List.mem_filter.mpr ⟨List.mem_append_right _ (List.mem_append_left _ (List.mem_of_getElem? (i := 6) rfl)), rfl⟩, ⟨by decide +kernel, by decide +kernel, by decide +kernel⟩, by decide +kernel⟩
theorem mo_101 : ax_mok 101 1 := ⟨List.mem_filter.mpr ⟨List.mem_append_right _ (List.mem_append_right _ (List.mem_append_right _ (List.mem_of_getElem? (i := 164) rfl))), rfl⟩, List.mem_filter.mpr ⟨List.mem_append_right _ (List.mem_append_left _ (List.mem_of_getElem? (i := 6) rfl)), rfl⟩, ⟨by decide +kernel, by decide +kernel, by decide +kernel⟩, by decide +kernel⟩
theorem mo_102 : ax_mok 102 2 := ⟨List.mem_filter.mpr ⟨List.mem_append_right _ (List.mem_append_right _ (List.mem_append_right _ (List.mem_of_getElem? (i := 168) rfl))), rfl⟩, List.mem_filter.mpr ⟨List.mem_append_right _ (List.mem_append_left _ (List.mem_of_getElem? (i := 6) rfl)), rfl⟩, ⟨by decide +kernel, by decide +kernel, by decide +kernel⟩, by decide +kernel⟩
theorem mo_103 : ax_mok 103 0 := ⟨List.mem_filter.mpr ⟨List.mem_append_right _ (List.mem_append_right _ (List.mem_append_right _ (List.mem_of_getElem? (i := 172) rfl))), rfl⟩, List.mem_filter.mpr ⟨List.mem_append_right _ (List.mem_append_left _ (List.mem_of_getElem? (i := 6) rfl)), rfl⟩, ⟨by decide +kernel, by decide +kernel, by decide +kernel⟩, by decide +kernel⟩
theorem mo_104 : ax_mok 104 1 := ⟨List.mem_filter.mpr ⟨List.mem_append_right _ (List.mem_append_right _ (List.mem_append_right _ (List.mem_of_getElem? (i := 176) rfl))), rfl⟩, List.mem_filter.mpr ⟨List.mem_append_right _ (List.mem_append_left _ (List.mem_of_getElem? (i := 6) rfl)), rfl⟩, ⟨by decide +kernel, by decide +kernel, by decide +kernel⟩, by decide +kernel⟩
theorem mo_105 : ax_mok 105 0 := ⟨List.mem_filter.mpr ⟨List.mem_append_right _ (List.mem_append_right _ (List.mem_append_right _ (List.mem_of_getElem? (i := 180) rfl))), rfl⟩, List.mem_filter.mpr ⟨List.mem_append_right _ (List.mem_append_left _ (List.mem_of_getElem? (i := 6) rfl)), rfl⟩, ⟨by decide +kernel, by decide +kernel, by decide +kernel⟩, by decide +kernel⟩
theorem mo_106 : ax_mok 106 3 := ⟨List.mem_filter.mpr ⟨List.mem_append_right _ (List.mem_append_right _ (List.mem_append_right _ (List.mem_of_getElem? (i := 184) rfl))), rfl⟩, List.mem_filter.mpr ⟨List.mem_append_right _ (List.mem_append_left _ (List.mem_of_getElem? (i := 6) rfl)), rfl⟩, ⟨by decide +kernel, by decide +kernel, by decide +kernel⟩, by decide +kernel⟩
theorem mo_107 : ax_mok 107 0 := ⟨List.mem_filter.mpr ⟨List.mem_append_right _ (List.mem_append_right _ (List.mem_append_right _ (List.mem_of_getElem? (i := 189) rfl))), rfl⟩, List.mem_filter.mpr ⟨List.mem_append_right _ (List.mem_append_left _ (List.mem_of_getElem? (i := 6) rfl)), rfl⟩, ⟨by decide +kernel, by decide +kernel, by decide +kernel⟩, by decide +kernel⟩
theorem mo_108 : ax_mok 108 1 := ⟨List.mem_filter.mpr ⟨List.mem_append_right _ (List.mem_append_right _ (List.mem_append_right _ (List.mem_of_getElem? (i := 193) rfl))), rfl⟩, List.mem_filter.mpr ⟨List.mem_append_right _ (List.mem_append_left _ (List.mem_of_getElem? (i := 6) rfl)), rfl⟩, ⟨by decide +kernel, by decide +kernel, by decide +kernel⟩, by decide +kernel⟩
theorem li_X_3 : (Cond.methodLink "VectorGraphs" 3 Lib.objectInit) ∈ gw := List.mem_filter.mpr ⟨List.mem_append_right _ (List.mem_append_left _ (List.mem_of_getElem? (i := 13) rfl)), rfl⟩
theorem li_X_11 : (Cond.methodLink "VectorGraphs" 11 Lib.Math.min.name) ∈ gw := List.mem_filter.mpr ⟨List.mem_append_right _ (List.mem_append_left _ (List.mem_of_getElem? (i := 18) rfl)), rfl⟩
theorem li_X_17 : (Cond.methodLink "VectorGraphs" 17 Lib.Math.max.name) ∈ gw := List.mem_filter.mpr ⟨List.mem_append_right _ (List.mem_append_left _ (List.mem_of_getElem? (i := 21) rfl)), rfl⟩
theorem lk_X_20 : ax_lI "VectorGraphs" 20 1 := ⟨List.mem_filter.mpr ⟨List.mem_append_right _ (List.mem_append_left _ (List.mem_of_getElem? (i := 24) rfl)), rfl⟩, List.mem_filter.mpr ⟨List.mem_append_right _ (List.mem_append_left _ (List.mem_of_getElem? (i := 25) rfl)), rfl⟩, rfl⟩
theorem lk_X_29 : ax_lI "VectorGraphs" 29 2 := ⟨List.mem_filter.mpr ⟨List.mem_append_right _ (List.mem_append_left _ (List.mem_of_getElem? (i := 57) rfl)), rfl⟩, List.mem_filter.mpr ⟨List.mem_append_right _ (List.mem_append_left _ (List.mem_of_getElem? (i := 58) rfl)), rfl⟩, rfl⟩
theorem lk_X_38 : ax_lI "VectorGraphs" 38 3 := ⟨List.mem_filter.mpr ⟨List.mem_append_right _ (List.mem_append_left _ (List.mem_of_getElem? (i := 123) rfl)), rfl⟩, List.mem_filter.mpr ⟨List.mem_append_right _ (List.mem_append_left _ (List.mem_of_getElem? (i := 64) rfl)), rfl⟩, rfl⟩
theorem lk_X_56 : ax_lV "VectorGraphs" 56 5 2 := ⟨List.mem_filter.mpr ⟨List.mem_append_right _ (List.mem_append_left _ (List.mem_of_getElem? (i := 147) rfl)), rfl⟩, List.mem_filter.mpr ⟨List.mem_append_right _ (List.mem_append_left _ (List.mem_of_getElem? (i := 148) rfl)), rfl⟩, List.mem_filter.mpr ⟨List.mem_append_right _ (List.mem_append_left _ (List.mem_of_getElem? (i := 149) rfl)), rfl⟩, rfl⟩
theorem lk_X_62 : ax_lV "VectorGraphs" 62 7 2 := ⟨List.mem_filter.mpr ⟨List.mem_append_right _ (List.mem_append_left _ (List.mem_of_getElem? (i := 155) rfl)), rfl⟩, List.mem_filter.mpr ⟨List.mem_append_right _ (List.mem_append_left _ (List.mem_of_getElem? (i := 156) rfl)), rfl⟩, List.mem_filter.mpr ⟨List.mem_append_right _ (List.mem_append_left _ (List.mem_of_getElem? (i := 157) rfl)), rfl⟩, rfl⟩
theorem lk_X_66 : ax_lV "VectorGraphs" 66 9 0 := ⟨List.mem_filter.mpr ⟨List.mem_append_right _ (List.mem_append_left _ (List.mem_of_getElem? (i := 166) rfl)), rfl⟩, List.mem_filter.mpr ⟨List.mem_append_right _ (List.mem_append_left _ (List.mem_of_getElem? (i := 167) rfl)), rfl⟩, List.mem_filter.mpr ⟨List.mem_append_right _ (List.mem_append_left _ (List.mem_of_getElem? (i := 168) rfl)), rfl⟩, rfl⟩
theorem lk_X_69 : ax_lV "VectorGraphs" 69 33 2 := ⟨List.mem_filter.mpr ⟨List.mem_append_right _ (List.mem_append_right _ (List.mem_append_left _ (List.mem_of_getElem? (i := 26) rfl))), rfl⟩, List.mem_filter.mpr ⟨List.mem_append_right _ (List.mem_append_right _ (List.mem_append_left _ (List.mem_of_getElem? (i := 27) rfl))), rfl⟩, List.mem_filter.mpr ⟨List.mem_append_right _ (List.mem_append_right _ (List.mem_append_left _ (List.mem_of_getElem? (i := 28) rfl))), rfl⟩, rfl⟩
theorem lk_X_73 : ax_lV "VectorGraphs" 73 8 2 := ⟨List.mem_filter.mpr ⟨List.mem_append_right _ (List.mem_append_right _ (List.mem_append_left _ (List.mem_of_getElem? (i := 30) rfl))), rfl⟩, List.mem_filter.mpr ⟨List.mem_append_right _ (List.mem_append_left _ (List.mem_of_getElem? (i := 160) rfl)), rfl⟩, List.mem_filter.mpr ⟨List.mem_append_right _ (List.mem_append_left _ (List.mem_of_getElem? (i := 161) rfl)), rfl⟩, rfl⟩
theorem lk_X_84 : ax_lV "VectorGraphs" 84 37 2 := ⟨List.mem_filter.mpr ⟨List.mem_append_right _ (List.mem_append_right _ (List.mem_append_left _ (List.mem_of_getElem? (i := 43) rfl))), rfl⟩, List.mem_filter.mpr ⟨List.mem_append_right _ (List.mem_append_right _ (List.mem_append_left _ (List.mem_of_getElem? (i := 44) rfl))), rfl⟩, List.mem_filter.mpr ⟨List.mem_append_right _ (List.mem_append_right _ (List.mem_append_left _ (List.mem_of_getElem? (i := 45) rfl))), rfl⟩, rfl⟩
theorem lk_X_87 : ax_lV "VectorGraphs" 87 14 1 := ⟨List.mem_filter.mpr ⟨List.mem_append_right _ (List.mem_append_right _ (List.mem_append_left _ (List.mem_of_getElem? (i := 47) rfl))), rfl⟩, List.mem_filter.mpr ⟨List.mem_append_right _ (List.mem_append_left _ (List.mem_of_getElem? (i := 189) rfl)), rfl⟩, List.mem_filter.mpr ⟨List.mem_append_right _ (List.mem_append_left _ (List.mem_of_getElem? (i := 190) rfl)), rfl⟩, rfl⟩
theorem lk_X_90 : ax_lV "VectorGraphs" 90 38 0 := ⟨List.mem_filter.mpr ⟨List.mem_append_right _ (List.mem_append_right _ (List.mem_append_left _ (List.mem_of_getElem? (i := 48) rfl))), rfl⟩, List.mem_filter.mpr ⟨List.mem_append_right _ (List.mem_append_right _ (List.mem_append_left _ (List.mem_of_getElem? (i := 49) rfl))), rfl⟩, List.mem_filter.mpr ⟨List.mem_append_right _ (List.mem_append_right _ (List.mem_append_left _ (List.mem_of_getElem? (i := 50) rfl))), rfl⟩, rfl⟩
theorem lk_X_103 : ax_lV "VectorGraphs" 103 41 3 := ⟨List.mem_filter.mpr ⟨List.mem_append_right _ (List.mem_append_right _ (List.mem_append_left _ (List.mem_of_getElem? (i := 61) rfl))), rfl⟩, List.mem_filter.mpr ⟨List.mem_append_right _ (List.mem_append_right _ (List.mem_append_left _ (List.mem_of_getElem? (i := 63) rfl))), rfl⟩, List.mem_filter.mpr ⟨List.mem_append_left _ (List.mem_of_getElem? (i := 9) rfl), rfl⟩, rfl⟩
theorem lk_X_107 : ax_lV "VectorGraphs" 107 19 1 := ⟨List.mem_filter.mpr ⟨List.mem_append_right _ (List.mem_append_right _ (List.mem_append_left _ (List.mem_of_getElem? (i := 72) rfl))), rfl⟩, List.mem_filter.mpr ⟨List.mem_append_right _ (List.mem_append_left _ (List.mem_of_getElem? (i := 209) rfl)), rfl⟩, List.mem_filter.mpr ⟨List.mem_append_right _ (List.mem_append_left _ (List.mem_of_getElem? (i := 210) rfl)), rfl⟩, rfl⟩
theorem lk_X_113 : ax_lS "VectorGraphs" 113 44 := ⟨List.mem_filter.mpr ⟨List.mem_append_right _ (List.mem_append_right _ (List.mem_append_left _ (List.mem_of_getElem? (i := 77) rfl))), rfl⟩, List.mem_filter.mpr ⟨List.mem_append_right _ (List.mem_append_right _ (List.mem_append_left _ (List.mem_of_getElem? (i := 78) rfl))), rfl⟩⟩
theorem lk_X_117 : ax_lV "VectorGraphs" 117 45 3 := ⟨List.mem_filter.mpr ⟨List.mem_append_right _ (List.mem_append_right _ (List.mem_append_left _ (List.mem_of_getElem? (i := 80) rfl))), rfl⟩, List.mem_filter.mpr ⟨List.mem_append_right _ (List.mem_append_right _ (List.mem_append_left _ (List.mem_of_getElem? (i := 82) rfl))), rfl⟩, List.mem_filter.mpr ⟨List.mem_append_left _ (List.mem_of_getElem? (i := 10) rfl), rfl⟩, rfl⟩
theorem lk_X_120 : ax_lV "VectorGraphs" 120 20 1 := ⟨List.mem_filter.mpr ⟨List.mem_append_right _ (List.mem_append_right _ (List.mem_append_left _ (List.mem_of_getElem? (i := 88) rfl))), rfl⟩, List.mem_filter.mpr ⟨List.mem_append_right _ (List.mem_append_left _ (List.mem_of_getElem? (i := 214) rfl)), rfl⟩, List.mem_filter.mpr ⟨List.mem_append_right _ (List.mem_append_left _ (List.mem_of_getElem? (i := 215) rfl)), rfl⟩, rfl⟩
theorem lk_X_124 : ax_lV "VectorGraphs" 124 16 2 := ⟨List.mem_filter.mpr ⟨List.mem_append_right _ (List.mem_append_right _ (List.mem_append_left _ (List.mem_of_getElem? (i := 70) rfl))), rfl⟩, List.mem_filter.mpr ⟨List.mem_append_right _ (List.mem_append_left _ (List.mem_of_getElem? (i := 197) rfl)), rfl⟩, List.mem_filter.mpr ⟨List.mem_append_right _ (List.mem_append_left _ (List.mem_of_getElem? (i := 198) rfl)), rfl⟩, rfl⟩
theorem lk_X_128 : ax_lV "VectorGraphs" 128 18 1 := ⟨List.mem_filter.mpr ⟨List.mem_append_right _ (List.mem_append_right _ (List.mem_append_left _ (List.mem_of_getElem? (i := 71) rfl))), rfl⟩, List.mem_filter.mpr ⟨List.mem_append_right _ (List.mem_append_left _ (List.mem_of_getElem? (i := 205) rfl)), rfl⟩, List.mem_filter.mpr ⟨List.mem_append_right _ (List.mem_append_left _ (List.mem_of_getElem? (i := 206) rfl)), rfl⟩, rfl⟩
theorem lk_X_131 : ax_lV "VectorGraphs" 131 49 1 := ⟨List.mem_filter.mpr ⟨List.mem_append_right _ (List.mem_append_right _ (List.mem_append_left _ (List.mem_of_getElem? (i := 98) rfl))), rfl⟩, List.mem_filter.mpr ⟨List.mem_append_right _ (List.mem_append_right _ (List.mem_append_left _ (List.mem_of_getElem? (i := 99) rfl))), rfl⟩, List.mem_filter.mpr ⟨List.mem_append_right _ (List.mem_append_right _ (List.mem_append_left _ (List.mem_of_getElem? (i := 100) rfl))), rfl⟩, rfl⟩
theorem lk_X_134 : ax_lV "VectorGraphs" 134 10 0 := ⟨List.mem_filter.mpr ⟨List.mem_append_right _ (List.mem_append_right _ (List.mem_append_left _ (List.mem_of_getElem? (i := 122) rfl))), rfl⟩, List.mem_filter.mpr ⟨List.mem_append_right _ (List.mem_append_left _ (List.mem_of_getElem? (i := 171) rfl)), rfl⟩, List.mem_filter.mpr ⟨List.mem_append_right _ (List.mem_append_left _ (List.mem_of_getElem? (i := 172) rfl)), rfl⟩, rfl⟩
theorem lk_X_140 : ax_lV "VectorGraphs" 140 23 0 := ⟨List.mem_filter.mpr ⟨List.mem_append_right _ (List.mem_append_right _ (List.mem_append_left _ (List.mem_of_getElem? (i := 131) rfl))), rfl⟩, List.mem_filter.mpr ⟨List.mem_append_right _ (List.mem_append_left _ (List.mem_of_getElem? (i := 227) rfl)), rfl⟩, List.mem_filter.mpr ⟨List.mem_append_right _ (List.mem_append_left _ (List.mem_of_getElem? (i := 228) rfl)), rfl⟩, rfl⟩
theorem lk_X_143 : ax_lV "VectorGraphs" 143 24 0 := ⟨List.mem_filter.mpr ⟨List.mem_append_right _ (List.mem_append_right _ (List.mem_append_left _ (List.mem_of_getElem? (i := 132) rfl))), rfl⟩, List.mem_filter.mpr ⟨List.mem_append_right _ (List.mem_append_left _ (List.mem_of_getElem? (i := 231) rfl)), rfl⟩, List.mem_filter.mpr ⟨List.mem_append_right _ (List.mem_append_left _ (List.mem_of_getElem? (i := 232) rfl)), rfl⟩, rfl⟩
theorem lk_X_146 : ax_lV "VectorGraphs" 146 58 0 := ⟨List.mem_filter.mpr ⟨List.mem_append_right _ (List.mem_append_right _ (List.mem_append_left _ (List.mem_of_getElem? (i := 137) rfl))), rfl⟩, List.mem_filter.mpr ⟨List.mem_append_right _ (List.mem_append_right _ (List.mem_append_left _ (List.mem_of_getElem? (i := 138) rfl))), rfl⟩, List.mem_filter.mpr ⟨List.mem_append_right _ (List.mem_append_right _ (List.mem_append_left _ (List.mem_of_getElem? (i := 139) rfl))), rfl⟩, rfl⟩
theorem lk_X_149 : ax_lV "VectorGraphs" 149 61 2 := ⟨List.mem_filter.mpr ⟨List.mem_append_right _ (List.mem_append_right _ (List.mem_append_left _ (List.mem_of_getElem? (i := 149) rfl))), rfl⟩, List.mem_filter.mpr ⟨List.mem_append_right _ (List.mem_append_right _ (List.mem_append_left _ (List.mem_of_getElem? (i := 150) rfl))), rfl⟩, List.mem_filter.mpr ⟨List.mem_append_right _ (List.mem_append_right _ (List.mem_append_left _ (List.mem_of_getElem? (i := 151) rfl))), rfl⟩, rfl⟩
theorem lk_X_153 : ax_lV "VectorGraphs" 153 62 2 := ⟨List.mem_filter.mpr ⟨List.mem_append_right _ (List.mem_append_right _ (List.mem_append_left _ (List.mem_of_getElem? (i := 153) rfl))), rfl⟩, List.mem_filter.mpr ⟨List.mem_append_right _ (List.mem_append_right _ (List.mem_append_left _ (List.mem_of_getElem? (i := 154) rfl))), rfl⟩, List.mem_filter.mpr ⟨List.mem_append_right _ (List.mem_append_right _ (List.mem_append_left _ (List.mem_of_getElem? (i := 155) rfl))), rfl⟩, rfl⟩
theorem lk_X_156 : ax_lV "VectorGraphs" 156 42 2 := ⟨List.mem_filter.mpr ⟨List.mem_append_right _ (List.mem_append_right _ (List.mem_append_left _ (List.mem_of_getElem? (i := 65) rfl))), rfl⟩, List.mem_filter.mpr ⟨List.mem_append_right _ (List.mem_append_right _ (List.mem_append_left _ (List.mem_of_getElem? (i := 66) rfl))), rfl⟩, List.mem_filter.mpr ⟨List.mem_append_right _ (List.mem_append_right _ (List.mem_append_left _ (List.mem_of_getElem? (i := 67) rfl))), rfl⟩, rfl⟩
theorem lk_X_159 : ax_lV "VectorGraphs" 159 46 0 := ⟨List.mem_filter.mpr ⟨List.mem_append_right _ (List.mem_append_right _ (List.mem_append_left _ (List.mem_of_getElem? (i := 84) rfl))), rfl⟩, List.mem_filter.mpr ⟨List.mem_append_right _ (List.mem_append_right _ (List.mem_append_left _ (List.mem_of_getElem? (i := 85) rfl))), rfl⟩, List.mem_filter.mpr ⟨List.mem_append_right _ (List.mem_append_right _ (List.mem_append_left _ (List.mem_of_getElem? (i := 86) rfl))), rfl⟩, rfl⟩
theorem lk_X_168 : ax_lV "VectorGraphs" 168 21 1 := ⟨List.mem_filter.mpr ⟨List.mem_append_right _ (List.mem_append_right _ (List.mem_append_left _ (List.mem_of_getElem? (i := 89) rfl))), rfl⟩, List.mem_filter.mpr ⟨List.mem_append_right _ (List.mem_append_left _ (List.mem_of_getElem? (i := 218) rfl)), rfl⟩, List.mem_filter.mpr ⟨List.mem_append_right _ (List.mem_append_left _ (List.mem_of_getElem? (i := 219) rfl)), rfl⟩, rfl⟩
theorem li_G_5 : (Cond.methodLink "VectorGraphs$Graph" 5 Lib.objectInit) ∈ gw := List.mem_filter.mpr ⟨List.mem_append_right _ (List.mem_append_left _ (List.mem_of_getElem? (i := 60) rfl)), rfl⟩
theorem lk_G_48 : ax_lI "VectorGraphs$Graph" 48 3 := ⟨List.mem_filter.mpr ⟨List.mem_append_right _ (List.mem_append_left _ (List.mem_of_getElem? (i := 63) rfl)), rfl⟩, List.mem_filter.mpr ⟨List.mem_append_right _ (List.mem_append_left _ (List.mem_of_getElem? (i := 64) rfl)), rfl⟩, rfl⟩
theorem lk_G_63 : ax_lS "VectorGraphs$Graph" 63 25 := ⟨List.mem_filter.mpr ⟨List.mem_append_right _ (List.mem_append_left _ (List.mem_of_getElem? (i := 234) rfl)), rfl⟩, List.mem_filter.mpr ⟨List.mem_append_right _ (List.mem_append_left _ (List.mem_of_getElem? (i := 235) rfl)), rfl⟩⟩
theorem lk_G_72 : ax_lV "VectorGraphs$Graph" 72 9 0 := ⟨List.mem_filter.mpr ⟨List.mem_append_right _ (List.mem_append_right _ (List.mem_append_left _ (List.mem_of_getElem? (i := 52) rfl))), rfl⟩, List.mem_filter.mpr ⟨List.mem_append_right _ (List.mem_append_left _ (List.mem_of_getElem? (i := 167) rfl)), rfl⟩, List.mem_filter.mpr ⟨List.mem_append_right _ (List.mem_append_left _ (List.mem_of_getElem? (i := 168) rfl)), rfl⟩, rfl⟩
theorem lk_G_75 : ax_lV "VectorGraphs$Graph" 75 10 0 := ⟨List.mem_filter.mpr ⟨List.mem_append_right _ (List.mem_append_left _ (List.mem_of_getElem? (i := 170) rfl)), rfl⟩, List.mem_filter.mpr ⟨List.mem_append_right _ (List.mem_append_left _ (List.mem_of_getElem? (i := 171) rfl)), rfl⟩, List.mem_filter.mpr ⟨List.mem_append_right _ (List.mem_append_left _ (List.mem_of_getElem? (i := 172) rfl)), rfl⟩, rfl⟩
theorem lk_G_79 : ax_lV "VectorGraphs$Graph" 79 11 0 := ⟨List.mem_filter.mpr ⟨List.mem_append_right _ (List.mem_append_left _ (List.mem_of_getElem? (i := 176) rfl)), rfl⟩, List.mem_filter.mpr ⟨List.mem_append_right _ (List.mem_append_left _ (List.mem_of_getElem? (i := 178) rfl)), rfl⟩, List.mem_filter.mpr ⟨List.mem_append_left _ (List.mem_of_getElem? (i := 0) rfl), rfl⟩, rfl⟩
theorem li_G_83 : (Cond.methodLink "VectorGraphs$Graph" 83 Lib.Math.min.name) ∈ gw := List.mem_filter.mpr ⟨List.mem_append_right _ (List.mem_append_left _ (List.mem_of_getElem? (i := 237) rfl)), rfl⟩
theorem lk_G_88 : ax_lV "VectorGraphs$Graph" 88 26 0 := ⟨List.mem_filter.mpr ⟨List.mem_append_right _ (List.mem_append_left _ (List.mem_of_getElem? (i := 238) rfl)), rfl⟩, List.mem_filter.mpr ⟨List.mem_append_right _ (List.mem_append_right _ (List.mem_append_left _ (List.mem_of_getElem? (i := 0) rfl))), rfl⟩, List.mem_filter.mpr ⟨List.mem_append_left _ (List.mem_of_getElem? (i := 4) rfl), rfl⟩, rfl⟩
theorem lk_G_91 : ax_lV "VectorGraphs$Graph" 91 14 1 := ⟨List.mem_filter.mpr ⟨List.mem_append_right _ (List.mem_append_left _ (List.mem_of_getElem? (i := 188) rfl)), rfl⟩, List.mem_filter.mpr ⟨List.mem_append_right _ (List.mem_append_left _ (List.mem_of_getElem? (i := 189) rfl)), rfl⟩, List.mem_filter.mpr ⟨List.mem_append_right _ (List.mem_append_left _ (List.mem_of_getElem? (i := 190) rfl)), rfl⟩, rfl⟩
theorem lk_G_94 : ax_lV "VectorGraphs$Graph" 94 12 0 := ⟨List.mem_filter.mpr ⟨List.mem_append_right _ (List.mem_append_left _ (List.mem_of_getElem? (i := 180) rfl)), rfl⟩, List.mem_filter.mpr ⟨List.mem_append_right _ (List.mem_append_left _ (List.mem_of_getElem? (i := 182) rfl)), rfl⟩, List.mem_filter.mpr ⟨List.mem_append_left _ (List.mem_of_getElem? (i := 1) rfl), rfl⟩, rfl⟩
theorem lk_G_98 : ax_lV "VectorGraphs$Graph" 98 13 0 := ⟨List.mem_filter.mpr ⟨List.mem_append_right _ (List.mem_append_left _ (List.mem_of_getElem? (i := 184) rfl)), rfl⟩, List.mem_filter.mpr ⟨List.mem_append_right _ (List.mem_append_left _ (List.mem_of_getElem? (i := 186) rfl)), rfl⟩, List.mem_filter.mpr ⟨List.mem_append_left _ (List.mem_of_getElem? (i := 2) rfl), rfl⟩, rfl⟩
theorem lk_G_101 : ax_lV "VectorGraphs$Graph" 101 59 0 := ⟨List.mem_filter.mpr ⟨List.mem_append_right _ (List.mem_append_right _ (List.mem_append_left _ (List.mem_of_getElem? (i := 141) rfl))), rfl⟩, List.mem_filter.mpr ⟨List.mem_append_right _ (List.mem_append_right _ (List.mem_append_left _ (List.mem_of_getElem? (i := 143) rfl))), rfl⟩, List.mem_filter.mpr ⟨List.mem_append_left _ (List.mem_of_getElem? (i := 11) rfl), rfl⟩, rfl⟩
theorem lk_G_104 : ax_lV "VectorGraphs$Graph" 104 23 0 := ⟨List.mem_filter.mpr ⟨List.mem_append_right _ (List.mem_append_left _ (List.mem_of_getElem? (i := 226) rfl)), rfl⟩, List.mem_filter.mpr ⟨List.mem_append_right _ (List.mem_append_left _ (List.mem_of_getElem? (i := 227) rfl)), rfl⟩, List.mem_filter.mpr ⟨List.mem_append_right _ (List.mem_append_left _ (List.mem_of_getElem? (i := 228) rfl)), rfl⟩, rfl⟩
theorem lk_G_107 : ax_lV "VectorGraphs$Graph" 107 24 0 := ⟨List.mem_filter.mpr ⟨List.mem_append_right _ (List.mem_append_left _ (List.mem_of_getElem? (i := 230) rfl)), rfl⟩, List.mem_filter.mpr ⟨List.mem_append_right _ (List.mem_append_left _ (List.mem_of_getElem? (i := 231) rfl)), rfl⟩, List.mem_filter.mpr ⟨List.mem_append_right _ (List.mem_append_left _ (List.mem_of_getElem? (i := 232) rfl)), rfl⟩, rfl⟩
theorem lk_G_110 : ax_lV "VectorGraphs$Graph" 110 20 1 := ⟨List.mem_filter.mpr ⟨List.mem_append_right _ (List.mem_append_left _ (List.mem_of_getElem? (i := 213) rfl)), rfl⟩, List.mem_filter.mpr ⟨List.mem_append_right _ (List.mem_append_left _ (List.mem_of_getElem? (i := 214) rfl)), rfl⟩, List.mem_filter.mpr ⟨List.mem_append_right _ (List.mem_append_left _ (List.mem_of_getElem? (i := 215) rfl)), rfl⟩, rfl⟩
theorem lk_G_113 : ax_lV "VectorGraphs$Graph" 113 27 0 := ⟨List.mem_filter.mpr ⟨List.mem_append_right _ (List.mem_append_right _ (List.mem_append_left _ (List.mem_of_getElem? (i := 2) rfl))), rfl⟩, List.mem_filter.mpr ⟨List.mem_append_right _ (List.mem_append_right _ (List.mem_append_left _ (List.mem_of_getElem? (i := 4) rfl))), rfl⟩, List.mem_filter.mpr ⟨List.mem_append_left _ (List.mem_of_getElem? (i := 5) rfl), rfl⟩, rfl⟩
theorem lk_G_116 : ax_lV "VectorGraphs$Graph" 116 28 0 := ⟨List.mem_filter.mpr ⟨List.mem_append_right _ (List.mem_append_right _ (List.mem_append_left _ (List.mem_of_getElem? (i := 6) rfl))), rfl⟩, List.mem_filter.mpr ⟨List.mem_append_right _ (List.mem_append_right _ (List.mem_append_left _ (List.mem_of_getElem? (i := 8) rfl))), rfl⟩, List.mem_filter.mpr ⟨List.mem_append_left _ (List.mem_of_getElem? (i := 6) rfl), rfl⟩, rfl⟩
theorem lk_G_120 : ax_lV "VectorGraphs$Graph" 120 30 0 := ⟨List.mem_filter.mpr ⟨List.mem_append_right _ (List.mem_append_right _ (List.mem_append_left _ (List.mem_of_getElem? (i := 14) rfl))), rfl⟩, List.mem_filter.mpr ⟨List.mem_append_right _ (List.mem_append_right _ (List.mem_append_left _ (List.mem_of_getElem? (i := 16) rfl))), rfl⟩, List.mem_filter.mpr ⟨List.mem_append_left _ (List.mem_of_getElem? (i := 7) rfl), rfl⟩, rfl⟩
theorem lk_G_124 : ax_lV "VectorGraphs$Graph" 124 31 0 := ⟨List.mem_filter.mpr ⟨List.mem_append_right _ (List.mem_append_right _ (List.mem_append_left _ (List.mem_of_getElem? (i := 18) rfl))), rfl⟩, List.mem_filter.mpr ⟨List.mem_append_right _ (List.mem_append_right _ (List.mem_append_left _ (List.mem_of_getElem? (i := 20) rfl))), rfl⟩, List.mem_filter.mpr ⟨List.mem_append_left _ (List.mem_of_getElem? (i := 8) rfl), rfl⟩, rfl⟩
theorem lk_G_128 : ax_lV "VectorGraphs$Graph" 128 16 2 := ⟨List.mem_filter.mpr ⟨List.mem_append_right _ (List.mem_append_left _ (List.mem_of_getElem? (i := 196) rfl)), rfl⟩, List.mem_filter.mpr ⟨List.mem_append_right _ (List.mem_append_left _ (List.mem_of_getElem? (i := 197) rfl)), rfl⟩, List.mem_filter.mpr ⟨List.mem_append_right _ (List.mem_append_left _ (List.mem_of_getElem? (i := 198) rfl)), rfl⟩, rfl⟩
theorem lk_G_131 : ax_lV "VectorGraphs$Graph" 131 18 1 := ⟨List.mem_filter.mpr ⟨List.mem_append_right _ (List.mem_append_left _ (List.mem_of_getElem? (i := 204) rfl)), rfl⟩, List.mem_filter.mpr ⟨List.mem_append_right _ (List.mem_append_left _ (List.mem_of_getElem? (i := 205) rfl)), rfl⟩, List.mem_filter.mpr ⟨List.mem_append_right _ (List.mem_append_left _ (List.mem_of_getElem? (i := 206) rfl)), rfl⟩, rfl⟩
theorem lk_G_138 : ax_lV "VectorGraphs$Graph" 138 21 1 := ⟨List.mem_filter.mpr ⟨List.mem_append_right _ (List.mem_append_left _ (List.mem_of_getElem? (i := 217) rfl)), rfl⟩, List.mem_filter.mpr ⟨List.mem_append_right _ (List.mem_append_left _ (List.mem_of_getElem? (i := 218) rfl)), rfl⟩, List.mem_filter.mpr ⟨List.mem_append_right _ (List.mem_append_left _ (List.mem_of_getElem? (i := 219) rfl)), rfl⟩, rfl⟩
theorem lk_G_141 : ax_lV "VectorGraphs$Graph" 141 29 1 := ⟨List.mem_filter.mpr ⟨List.mem_append_right _ (List.mem_append_right _ (List.mem_append_left _ (List.mem_of_getElem? (i := 10) rfl))), rfl⟩, List.mem_filter.mpr ⟨List.mem_append_right _ (List.mem_append_right _ (List.mem_append_left _ (List.mem_of_getElem? (i := 11) rfl))), rfl⟩, List.mem_filter.mpr ⟨List.mem_append_right _ (List.mem_append_right _ (List.mem_append_left _ (List.mem_of_getElem? (i := 12) rfl))), rfl⟩, rfl⟩
theorem lk_G_144 : ax_lV "VectorGraphs$Graph" 144 19 1 := ⟨List.mem_filter.mpr ⟨List.mem_append_right _ (List.mem_append_left _ (List.mem_of_getElem? (i := 208) rfl)), rfl⟩, List.mem_filter.mpr ⟨List.mem_append_right _ (List.mem_append_left _ (List.mem_of_getElem? (i := 209) rfl)), rfl⟩, List.mem_filter.mpr ⟨List.mem_append_right _ (List.mem_append_left _ (List.mem_of_getElem? (i := 210) rfl)), rfl⟩, rfl⟩
theorem lk_G_147 : ax_lV "VectorGraphs$Graph" 147 15 0 := ⟨List.mem_filter.mpr ⟨List.mem_append_right _ (List.mem_append_left _ (List.mem_of_getElem? (i := 192) rfl)), rfl⟩, List.mem_filter.mpr ⟨List.mem_append_right _ (List.mem_append_left _ (List.mem_of_getElem? (i := 194) rfl)), rfl⟩, List.mem_filter.mpr ⟨List.mem_append_left _ (List.mem_of_getElem? (i := 3) rfl), rfl⟩, rfl⟩
theorem lk_G_150 : ax_lV "VectorGraphs$Graph" 150 22 1 := ⟨List.mem_filter.mpr ⟨List.mem_append_right _ (List.mem_append_left _ (List.mem_of_getElem? (i := 221) rfl)), rfl⟩, List.mem_filter.mpr ⟨List.mem_append_right _ (List.mem_append_left _ (List.mem_of_getElem? (i := 222) rfl)), rfl⟩, List.mem_filter.mpr ⟨List.mem_append_right _ (List.mem_append_left _ (List.mem_of_getElem? (i := 223) rfl)), rfl⟩, rfl⟩
theorem lk_G_153 : ax_lV "VectorGraphs$Graph" 153 17 1 := ⟨List.mem_filter.mpr ⟨List.mem_append_right _ (List.mem_append_left _ (List.mem_of_getElem? (i := 200) rfl)), rfl⟩, List.mem_filter.mpr ⟨List.mem_append_right _ (List.mem_append_left _ (List.mem_of_getElem? (i := 201) rfl)), rfl⟩, List.mem_filter.mpr ⟨List.mem_append_right _ (List.mem_append_left _ (List.mem_of_getElem? (i := 202) rfl)), rfl⟩, rfl⟩
theorem li_R_3 : (Cond.methodLink "VectorGraphs$Ranks" 3 Lib.objectInit) ∈ gw := List.mem_filter.mpr ⟨List.mem_append_right _ (List.mem_append_left _ (List.mem_of_getElem? (i := 66) rfl)), rfl⟩
theorem li_R_9 : (Cond.methodLink "VectorGraphs$Ranks" 9 Lib.Math.max.name) ∈ gw := List.mem_filter.mpr ⟨List.mem_append_right _ (List.mem_append_left _ (List.mem_of_getElem? (i := 67) rfl)), rfl⟩
theorem li_R_25 : (Cond.methodLink "VectorGraphs$Ranks" 25 arraycopyName) ∈ gw := List.mem_filter.mpr ⟨List.mem_append_right _ (List.mem_append_left _ (List.mem_of_getElem? (i := 225) rfl)), rfl⟩
theorem li_R_31 : (Cond.methodLink "VectorGraphs$Ranks" 31 Lib.Math.min.name) ∈ gw := List.mem_filter.mpr ⟨List.mem_append_right _ (List.mem_append_left _ (List.mem_of_getElem? (i := 212) rfl)), rfl⟩
theorem li_V_3 : (Cond.methodLink "VectorGraphs$Vectors" 3 Lib.objectInit) ∈ gw := List.mem_filter.mpr ⟨List.mem_append_right _ (List.mem_append_left _ (List.mem_of_getElem? (i := 27) rfl)), rfl⟩
theorem lk_V_32 : ax_lV "VectorGraphs$Vectors" 32 33 2 := ⟨List.mem_filter.mpr ⟨List.mem_append_right _ (List.mem_append_right _ (List.mem_append_left _ (List.mem_of_getElem? (i := 69) rfl))), rfl⟩, List.mem_filter.mpr ⟨List.mem_append_right _ (List.mem_append_right _ (List.mem_append_left _ (List.mem_of_getElem? (i := 27) rfl))), rfl⟩, List.mem_filter.mpr ⟨List.mem_append_right _ (List.mem_append_right _ (List.mem_append_left _ (List.mem_of_getElem? (i := 28) rfl))), rfl⟩, rfl⟩
theorem lk_V_36 : ax_lV "VectorGraphs$Vectors" 36 8 2 := ⟨List.mem_filter.mpr ⟨List.mem_append_right _ (List.mem_append_left _ (List.mem_of_getElem? (i := 159) rfl)), rfl⟩, List.mem_filter.mpr ⟨List.mem_append_right _ (List.mem_append_left _ (List.mem_of_getElem? (i := 160) rfl)), rfl⟩, List.mem_filter.mpr ⟨List.mem_append_right _ (List.mem_append_left _ (List.mem_of_getElem? (i := 161) rfl)), rfl⟩, rfl⟩
theorem li_V_40 : (Cond.methodLink "VectorGraphs$Vectors" 40 arraycopyName) ∈ gw := List.mem_filter.mpr ⟨List.mem_append_right _ (List.mem_append_left _ (List.mem_of_getElem? (i := 163) rfl)), rfl⟩
theorem lk_V_46 : ax_lV "VectorGraphs$Vectors" 46 42 2 := ⟨List.mem_filter.mpr ⟨List.mem_append_right _ (List.mem_append_right _ (List.mem_append_left _ (List.mem_of_getElem? (i := 157) rfl))), rfl⟩, List.mem_filter.mpr ⟨List.mem_append_right _ (List.mem_append_right _ (List.mem_append_left _ (List.mem_of_getElem? (i := 66) rfl))), rfl⟩, List.mem_filter.mpr ⟨List.mem_append_right _ (List.mem_append_right _ (List.mem_append_left _ (List.mem_of_getElem? (i := 67) rfl))), rfl⟩, rfl⟩
theorem lk_L_9 : ax_lS "VectorGraphsLaw" 9 63 := ⟨List.mem_filter.mpr ⟨List.mem_append_right _ (List.mem_append_right _ (List.mem_append_left _ (List.mem_of_getElem? (i := 158) rfl))), rfl⟩, List.mem_filter.mpr ⟨List.mem_append_right _ (List.mem_append_right _ (List.mem_append_left _ (List.mem_of_getElem? (i := 159) rfl))), rfl⟩⟩
theorem lk_L_15 : ax_lI "VectorGraphsLaw" 15 0 := ⟨List.mem_filter.mpr ⟨List.mem_append_right _ (List.mem_append_left _ (List.mem_of_getElem? (i := 10) rfl)), rfl⟩, List.mem_filter.mpr ⟨List.mem_append_right _ (List.mem_append_left _ (List.mem_of_getElem? (i := 11) rfl)), rfl⟩, rfl⟩
theorem lk_L_20 : ax_lI "VectorGraphsLaw" 20 64 := ⟨List.mem_filter.mpr ⟨List.mem_append_right _ (List.mem_append_right _ (List.mem_append_left _ (List.mem_of_getElem? (i := 163) rfl))), rfl⟩, List.mem_filter.mpr ⟨List.mem_append_right _ (List.mem_append_right _ (List.mem_append_left _ (List.mem_of_getElem? (i := 164) rfl))), rfl⟩, rfl⟩
theorem lk_L_21 : ax_lV "VectorGraphsLaw" 21 4 3 := ⟨List.mem_filter.mpr ⟨List.mem_append_right _ (List.mem_append_left _ (List.mem_of_getElem? (i := 143) rfl)), rfl⟩, List.mem_filter.mpr ⟨List.mem_append_right _ (List.mem_append_left _ (List.mem_of_getElem? (i := 144) rfl)), rfl⟩, List.mem_filter.mpr ⟨List.mem_append_right _ (List.mem_append_left _ (List.mem_of_getElem? (i := 145) rfl)), rfl⟩, rfl⟩
theorem lk_L_25 : ax_lV "VectorGraphsLaw" 25 65 4 := ⟨List.mem_filter.mpr ⟨List.mem_append_right _ (List.mem_append_right _ (List.mem_append_right _ (List.mem_of_getElem? (i := 13) rfl))), rfl⟩, List.mem_filter.mpr ⟨List.mem_append_right _ (List.mem_append_right _ (List.mem_append_right _ (List.mem_of_getElem? (i := 14) rfl))), rfl⟩, List.mem_filter.mpr ⟨List.mem_append_right _ (List.mem_append_right _ (List.mem_append_right _ (List.mem_of_getElem? (i := 15) rfl))), rfl⟩, rfl⟩
theorem lk_L_26 : ax_lV "VectorGraphsLaw" 26 6 3 := ⟨List.mem_filter.mpr ⟨List.mem_append_right _ (List.mem_append_left _ (List.mem_of_getElem? (i := 151) rfl)), rfl⟩, List.mem_filter.mpr ⟨List.mem_append_right _ (List.mem_append_left _ (List.mem_of_getElem? (i := 152) rfl)), rfl⟩, List.mem_filter.mpr ⟨List.mem_append_right _ (List.mem_append_left _ (List.mem_of_getElem? (i := 153) rfl)), rfl⟩, rfl⟩
theorem lk_L_30 : ax_lV "VectorGraphsLaw" 30 67 4 := ⟨List.mem_filter.mpr ⟨List.mem_append_right _ (List.mem_append_right _ (List.mem_append_right _ (List.mem_of_getElem? (i := 22) rfl))), rfl⟩, List.mem_filter.mpr ⟨List.mem_append_right _ (List.mem_append_right _ (List.mem_append_right _ (List.mem_of_getElem? (i := 23) rfl))), rfl⟩, List.mem_filter.mpr ⟨List.mem_append_right _ (List.mem_append_right _ (List.mem_append_right _ (List.mem_of_getElem? (i := 24) rfl))), rfl⟩, rfl⟩
theorem lk_L_31 : ax_lV "VectorGraphsLaw" 31 32 3 := ⟨List.mem_filter.mpr ⟨List.mem_append_right _ (List.mem_append_right _ (List.mem_append_left _ (List.mem_of_getElem? (i := 22) rfl))), rfl⟩, List.mem_filter.mpr ⟨List.mem_append_right _ (List.mem_append_right _ (List.mem_append_left _ (List.mem_of_getElem? (i := 23) rfl))), rfl⟩, List.mem_filter.mpr ⟨List.mem_append_right _ (List.mem_append_right _ (List.mem_append_left _ (List.mem_of_getElem? (i := 24) rfl))), rfl⟩, rfl⟩
theorem lk_L_35 : ax_lV "VectorGraphsLaw" 35 69 4 := ⟨List.mem_filter.mpr ⟨List.mem_append_right _ (List.mem_append_right _ (List.mem_append_right _ (List.mem_of_getElem? (i := 30) rfl))), rfl⟩, List.mem_filter.mpr ⟨List.mem_append_right _ (List.mem_append_right _ (List.mem_append_right _ (List.mem_of_getElem? (i := 31) rfl))), rfl⟩, List.mem_filter.mpr ⟨List.mem_append_right _ (List.mem_append_right _ (List.mem_append_right _ (List.mem_of_getElem? (i := 32) rfl))), rfl⟩, rfl⟩
theorem lk_L_36 : ax_lV "VectorGraphsLaw" 36 34 3 := ⟨List.mem_filter.mpr ⟨List.mem_append_right _ (List.mem_append_right _ (List.mem_append_left _ (List.mem_of_getElem? (i := 31) rfl))), rfl⟩, List.mem_filter.mpr ⟨List.mem_append_right _ (List.mem_append_right _ (List.mem_append_left _ (List.mem_of_getElem? (i := 32) rfl))), rfl⟩, List.mem_filter.mpr ⟨List.mem_append_right _ (List.mem_append_right _ (List.mem_append_left _ (List.mem_of_getElem? (i := 33) rfl))), rfl⟩, rfl⟩
theorem lk_L_39 : ax_lV "VectorGraphsLaw" 39 71 4 := ⟨List.mem_filter.mpr ⟨List.mem_append_right _ (List.mem_append_right _ (List.mem_append_right _ (List.mem_of_getElem? (i := 38) rfl))), rfl⟩, List.mem_filter.mpr ⟨List.mem_append_right _ (List.mem_append_right _ (List.mem_append_right _ (List.mem_of_getElem? (i := 39) rfl))), rfl⟩, List.mem_filter.mpr ⟨List.mem_append_right _ (List.mem_append_right _ (List.mem_append_right _ (List.mem_of_getElem? (i := 40) rfl))), rfl⟩, rfl⟩
theorem lk_L_40 : ax_lV "VectorGraphsLaw" 40 35 3 := ⟨List.mem_filter.mpr ⟨List.mem_append_right _ (List.mem_append_right _ (List.mem_append_left _ (List.mem_of_getElem? (i := 35) rfl))), rfl⟩, List.mem_filter.mpr ⟨List.mem_append_right _ (List.mem_append_right _ (List.mem_append_left _ (List.mem_of_getElem? (i := 36) rfl))), rfl⟩, List.mem_filter.mpr ⟨List.mem_append_right _ (List.mem_append_right _ (List.mem_append_left _ (List.mem_of_getElem? (i := 37) rfl))), rfl⟩, rfl⟩
theorem lk_L_44 : ax_lV "VectorGraphsLaw" 44 72 4 := ⟨List.mem_filter.mpr ⟨List.mem_append_right _ (List.mem_append_right _ (List.mem_append_right _ (List.mem_of_getElem? (i := 42) rfl))), rfl⟩, List.mem_filter.mpr ⟨List.mem_append_right _ (List.mem_append_right _ (List.mem_append_right _ (List.mem_of_getElem? (i := 43) rfl))), rfl⟩, List.mem_filter.mpr ⟨List.mem_append_right _ (List.mem_append_right _ (List.mem_append_right _ (List.mem_of_getElem? (i := 44) rfl))), rfl⟩, rfl⟩
theorem lk_L_45 : ax_lV "VectorGraphsLaw" 45 36 3 := ⟨List.mem_filter.mpr ⟨List.mem_append_right _ (List.mem_append_right _ (List.mem_append_left _ (List.mem_of_getElem? (i := 39) rfl))), rfl⟩, List.mem_filter.mpr ⟨List.mem_append_right _ (List.mem_append_right _ (List.mem_append_left _ (List.mem_of_getElem? (i := 40) rfl))), rfl⟩, List.mem_filter.mpr ⟨List.mem_append_right _ (List.mem_append_right _ (List.mem_append_left _ (List.mem_of_getElem? (i := 41) rfl))), rfl⟩, rfl⟩
theorem lk_L_48 : ax_lV "VectorGraphsLaw" 48 73 4 := ⟨List.mem_filter.mpr ⟨List.mem_append_right _ (List.mem_append_right _ (List.mem_append_right _ (List.mem_of_getElem? (i := 46) rfl))), rfl⟩, List.mem_filter.mpr ⟨List.mem_append_right _ (List.mem_append_right _ (List.mem_append_right _ (List.mem_of_getElem? (i := 47) rfl))), rfl⟩, List.mem_filter.mpr ⟨List.mem_append_right _ (List.mem_append_right _ (List.mem_append_right _ (List.mem_of_getElem? (i := 48) rfl))), rfl⟩, rfl⟩
theorem lk_L_49 : ax_lV "VectorGraphsLaw" 49 39 3 := ⟨List.mem_filter.mpr ⟨List.mem_append_right _ (List.mem_append_right _ (List.mem_append_left _ (List.mem_of_getElem? (i := 53) rfl))), rfl⟩, List.mem_filter.mpr ⟨List.mem_append_right _ (List.mem_append_right _ (List.mem_append_left _ (List.mem_of_getElem? (i := 54) rfl))), rfl⟩, List.mem_filter.mpr ⟨List.mem_append_right _ (List.mem_append_right _ (List.mem_append_left _ (List.mem_of_getElem? (i := 55) rfl))), rfl⟩, rfl⟩
theorem lk_L_52 : ax_lV "VectorGraphsLaw" 52 74 4 := ⟨List.mem_filter.mpr ⟨List.mem_append_right _ (List.mem_append_right _ (List.mem_append_right _ (List.mem_of_getElem? (i := 50) rfl))), rfl⟩, List.mem_filter.mpr ⟨List.mem_append_right _ (List.mem_append_right _ (List.mem_append_right _ (List.mem_of_getElem? (i := 51) rfl))), rfl⟩, List.mem_filter.mpr ⟨List.mem_append_right _ (List.mem_append_right _ (List.mem_append_right _ (List.mem_of_getElem? (i := 52) rfl))), rfl⟩, rfl⟩
theorem lk_L_53 : ax_lV "VectorGraphsLaw" 53 40 3 := ⟨List.mem_filter.mpr ⟨List.mem_append_right _ (List.mem_append_right _ (List.mem_append_left _ (List.mem_of_getElem? (i := 57) rfl))), rfl⟩, List.mem_filter.mpr ⟨List.mem_append_right _ (List.mem_append_right _ (List.mem_append_left _ (List.mem_of_getElem? (i := 58) rfl))), rfl⟩, List.mem_filter.mpr ⟨List.mem_append_right _ (List.mem_append_right _ (List.mem_append_left _ (List.mem_of_getElem? (i := 59) rfl))), rfl⟩, rfl⟩
theorem lk_L_56 : ax_lV "VectorGraphsLaw" 56 75 4 := ⟨List.mem_filter.mpr ⟨List.mem_append_right _ (List.mem_append_right _ (List.mem_append_right _ (List.mem_of_getElem? (i := 56) rfl))), rfl⟩, List.mem_filter.mpr ⟨List.mem_append_right _ (List.mem_append_right _ (List.mem_append_right _ (List.mem_of_getElem? (i := 57) rfl))), rfl⟩, List.mem_filter.mpr ⟨List.mem_append_right _ (List.mem_append_right _ (List.mem_append_right _ (List.mem_of_getElem? (i := 58) rfl))), rfl⟩, rfl⟩
theorem lk_L_57 : ax_lV "VectorGraphsLaw" 57 43 3 := ⟨List.mem_filter.mpr ⟨List.mem_append_right _ (List.mem_append_right _ (List.mem_append_left _ (List.mem_of_getElem? (i := 73) rfl))), rfl⟩, List.mem_filter.mpr ⟨List.mem_append_right _ (List.mem_append_right _ (List.mem_append_left _ (List.mem_of_getElem? (i := 74) rfl))), rfl⟩, List.mem_filter.mpr ⟨List.mem_append_right _ (List.mem_append_right _ (List.mem_append_left _ (List.mem_of_getElem? (i := 75) rfl))), rfl⟩, rfl⟩
theorem lk_L_60 : ax_lV "VectorGraphsLaw" 60 85 4 := ⟨List.mem_filter.mpr ⟨List.mem_append_right _ (List.mem_append_right _ (List.mem_append_right _ (List.mem_of_getElem? (i := 95) rfl))), rfl⟩, List.mem_filter.mpr ⟨List.mem_append_right _ (List.mem_append_right _ (List.mem_append_right _ (List.mem_of_getElem? (i := 96) rfl))), rfl⟩, List.mem_filter.mpr ⟨List.mem_append_right _ (List.mem_append_right _ (List.mem_append_right _ (List.mem_of_getElem? (i := 97) rfl))), rfl⟩, rfl⟩
theorem lk_L_61 : ax_lV "VectorGraphsLaw" 61 47 3 := ⟨List.mem_filter.mpr ⟨List.mem_append_right _ (List.mem_append_right _ (List.mem_append_left _ (List.mem_of_getElem? (i := 90) rfl))), rfl⟩, List.mem_filter.mpr ⟨List.mem_append_right _ (List.mem_append_right _ (List.mem_append_left _ (List.mem_of_getElem? (i := 91) rfl))), rfl⟩, List.mem_filter.mpr ⟨List.mem_append_right _ (List.mem_append_right _ (List.mem_append_left _ (List.mem_of_getElem? (i := 92) rfl))), rfl⟩, rfl⟩
theorem lk_L_65 : ax_lV "VectorGraphsLaw" 65 98 4 := ⟨List.mem_filter.mpr ⟨List.mem_append_right _ (List.mem_append_right _ (List.mem_append_right _ (List.mem_of_getElem? (i := 149) rfl))), rfl⟩, List.mem_filter.mpr ⟨List.mem_append_right _ (List.mem_append_right _ (List.mem_append_right _ (List.mem_of_getElem? (i := 150) rfl))), rfl⟩, List.mem_filter.mpr ⟨List.mem_append_right _ (List.mem_append_right _ (List.mem_append_right _ (List.mem_of_getElem? (i := 151) rfl))), rfl⟩, rfl⟩
theorem lk_L_66 : ax_lV "VectorGraphsLaw" 66 48 3 := ⟨List.mem_filter.mpr ⟨List.mem_append_right _ (List.mem_append_right _ (List.mem_append_left _ (List.mem_of_getElem? (i := 94) rfl))), rfl⟩, List.mem_filter.mpr ⟨List.mem_append_right _ (List.mem_append_right _ (List.mem_append_left _ (List.mem_of_getElem? (i := 95) rfl))), rfl⟩, List.mem_filter.mpr ⟨List.mem_append_right _ (List.mem_append_right _ (List.mem_append_left _ (List.mem_of_getElem? (i := 96) rfl))), rfl⟩, rfl⟩
theorem lk_L_69 : ax_lV "VectorGraphsLaw" 69 99 4 := ⟨List.mem_filter.mpr ⟨List.mem_append_right _ (List.mem_append_right _ (List.mem_append_right _ (List.mem_of_getElem? (i := 153) rfl))), rfl⟩, List.mem_filter.mpr ⟨List.mem_append_right _ (List.mem_append_right _ (List.mem_append_right _ (List.mem_of_getElem? (i := 154) rfl))), rfl⟩, List.mem_filter.mpr ⟨List.mem_append_right _ (List.mem_append_right _ (List.mem_append_right _ (List.mem_of_getElem? (i := 155) rfl))), rfl⟩, rfl⟩
theorem lk_L_70 : ax_lV "VectorGraphsLaw" 70 50 3 := ⟨List.mem_filter.mpr ⟨List.mem_append_right _ (List.mem_append_right _ (List.mem_append_left _ (List.mem_of_getElem? (i := 102) rfl))), rfl⟩, List.mem_filter.mpr ⟨List.mem_append_right _ (List.mem_append_right _ (List.mem_append_left _ (List.mem_of_getElem? (i := 103) rfl))), rfl⟩, List.mem_filter.mpr ⟨List.mem_append_right _ (List.mem_append_right _ (List.mem_append_left _ (List.mem_of_getElem? (i := 104) rfl))), rfl⟩, rfl⟩
theorem lk_L_73 : ax_lV "VectorGraphsLaw" 73 100 4 := ⟨List.mem_filter.mpr ⟨List.mem_append_right _ (List.mem_append_right _ (List.mem_append_right _ (List.mem_of_getElem? (i := 157) rfl))), rfl⟩, List.mem_filter.mpr ⟨List.mem_append_right _ (List.mem_append_right _ (List.mem_append_right _ (List.mem_of_getElem? (i := 158) rfl))), rfl⟩, List.mem_filter.mpr ⟨List.mem_append_right _ (List.mem_append_right _ (List.mem_append_right _ (List.mem_of_getElem? (i := 159) rfl))), rfl⟩, rfl⟩
theorem lk_L_74 : ax_lV "VectorGraphsLaw" 74 51 3 := ⟨List.mem_filter.mpr ⟨List.mem_append_right _ (List.mem_append_right _ (List.mem_append_left _ (List.mem_of_getElem? (i := 106) rfl))), rfl⟩, List.mem_filter.mpr ⟨List.mem_append_right _ (List.mem_append_right _ (List.mem_append_left _ (List.mem_of_getElem? (i := 107) rfl))), rfl⟩, List.mem_filter.mpr ⟨List.mem_append_right _ (List.mem_append_right _ (List.mem_append_left _ (List.mem_of_getElem? (i := 108) rfl))), rfl⟩, rfl⟩
theorem lk_L_77 : ax_lV "VectorGraphsLaw" 77 101 4 := ⟨List.mem_filter.mpr ⟨List.mem_append_right _ (List.mem_append_right _ (List.mem_append_right _ (List.mem_of_getElem? (i := 161) rfl))), rfl⟩, List.mem_filter.mpr ⟨List.mem_append_right _ (List.mem_append_right _ (List.mem_append_right _ (List.mem_of_getElem? (i := 162) rfl))), rfl⟩, List.mem_filter.mpr ⟨List.mem_append_right _ (List.mem_append_right _ (List.mem_append_right _ (List.mem_of_getElem? (i := 163) rfl))), rfl⟩, rfl⟩
theorem lk_L_78 : ax_lV "VectorGraphsLaw" 78 52 3 := ⟨List.mem_filter.mpr ⟨List.mem_append_right _ (List.mem_append_right _ (List.mem_append_left _ (List.mem_of_getElem? (i := 110) rfl))), rfl⟩, List.mem_filter.mpr ⟨List.mem_append_right _ (List.mem_append_right _ (List.mem_append_left _ (List.mem_of_getElem? (i := 111) rfl))), rfl⟩, List.mem_filter.mpr ⟨List.mem_append_right _ (List.mem_append_right _ (List.mem_append_left _ (List.mem_of_getElem? (i := 112) rfl))), rfl⟩, rfl⟩
theorem lk_L_81 : ax_lV "VectorGraphsLaw" 81 102 4 := ⟨List.mem_filter.mpr ⟨List.mem_append_right _ (List.mem_append_right _ (List.mem_append_right _ (List.mem_of_getElem? (i := 165) rfl))), rfl⟩, List.mem_filter.mpr ⟨List.mem_append_right _ (List.mem_append_right _ (List.mem_append_right _ (List.mem_of_getElem? (i := 166) rfl))), rfl⟩, List.mem_filter.mpr ⟨List.mem_append_right _ (List.mem_append_right _ (List.mem_append_right _ (List.mem_of_getElem? (i := 167) rfl))), rfl⟩, rfl⟩
theorem lk_L_82 : ax_lV "VectorGraphsLaw" 82 53 3 := ⟨List.mem_filter.mpr ⟨List.mem_append_right _ (List.mem_append_right _ (List.mem_append_left _ (List.mem_of_getElem? (i := 114) rfl))), rfl⟩, List.mem_filter.mpr ⟨List.mem_append_right _ (List.mem_append_right _ (List.mem_append_left _ (List.mem_of_getElem? (i := 115) rfl))), rfl⟩, List.mem_filter.mpr ⟨List.mem_append_right _ (List.mem_append_right _ (List.mem_append_left _ (List.mem_of_getElem? (i := 116) rfl))), rfl⟩, rfl⟩
theorem lk_L_85 : ax_lV "VectorGraphsLaw" 85 103 4 := ⟨List.mem_filter.mpr ⟨List.mem_append_right _ (List.mem_append_right _ (List.mem_append_right _ (List.mem_of_getElem? (i := 169) rfl))), rfl⟩, List.mem_filter.mpr ⟨List.mem_append_right _ (List.mem_append_right _ (List.mem_append_right _ (List.mem_of_getElem? (i := 170) rfl))), rfl⟩, List.mem_filter.mpr ⟨List.mem_append_right _ (List.mem_append_right _ (List.mem_append_right _ (List.mem_of_getElem? (i := 171) rfl))), rfl⟩, rfl⟩
theorem lk_L_86 : ax_lV "VectorGraphsLaw" 86 54 3 := ⟨List.mem_filter.mpr ⟨List.mem_append_right _ (List.mem_append_right _ (List.mem_append_left _ (List.mem_of_getElem? (i := 118) rfl))), rfl⟩, List.mem_filter.mpr ⟨List.mem_append_right _ (List.mem_append_right _ (List.mem_append_left _ (List.mem_of_getElem? (i := 119) rfl))), rfl⟩, List.mem_filter.mpr ⟨List.mem_append_right _ (List.mem_append_right _ (List.mem_append_left _ (List.mem_of_getElem? (i := 120) rfl))), rfl⟩, rfl⟩
theorem lk_L_89 : ax_lV "VectorGraphsLaw" 89 104 4 := ⟨List.mem_filter.mpr ⟨List.mem_append_right _ (List.mem_append_right _ (List.mem_append_right _ (List.mem_of_getElem? (i := 173) rfl))), rfl⟩, List.mem_filter.mpr ⟨List.mem_append_right _ (List.mem_append_right _ (List.mem_append_right _ (List.mem_of_getElem? (i := 174) rfl))), rfl⟩, List.mem_filter.mpr ⟨List.mem_append_right _ (List.mem_append_right _ (List.mem_append_right _ (List.mem_of_getElem? (i := 175) rfl))), rfl⟩, rfl⟩
theorem lk_L_90 : ax_lV "VectorGraphsLaw" 90 55 3 := ⟨List.mem_filter.mpr ⟨List.mem_append_right _ (List.mem_append_right _ (List.mem_append_left _ (List.mem_of_getElem? (i := 123) rfl))), rfl⟩, List.mem_filter.mpr ⟨List.mem_append_right _ (List.mem_append_right _ (List.mem_append_left _ (List.mem_of_getElem? (i := 124) rfl))), rfl⟩, List.mem_filter.mpr ⟨List.mem_append_right _ (List.mem_append_right _ (List.mem_append_left _ (List.mem_of_getElem? (i := 125) rfl))), rfl⟩, rfl⟩
theorem lk_L_93 : ax_lV "VectorGraphsLaw" 93 105 4 := ⟨List.mem_filter.mpr ⟨List.mem_append_right _ (List.mem_append_right _ (List.mem_append_right _ (List.mem_of_getElem? (i := 177) rfl))), rfl⟩, List.mem_filter.mpr ⟨List.mem_append_right _ (List.mem_append_right _ (List.mem_append_right _ (List.mem_of_getElem? (i := 178) rfl))), rfl⟩, List.mem_filter.mpr ⟨List.mem_append_right _ (List.mem_append_right _ (List.mem_append_right _ (List.mem_of_getElem? (i := 179) rfl))), rfl⟩, rfl⟩
theorem lk_L_94 : ax_lV "VectorGraphsLaw" 94 56 3 := ⟨List.mem_filter.mpr ⟨List.mem_append_right _ (List.mem_append_right _ (List.mem_append_left _ (List.mem_of_getElem? (i := 127) rfl))), rfl⟩, List.mem_filter.mpr ⟨List.mem_append_right _ (List.mem_append_right _ (List.mem_append_left _ (List.mem_of_getElem? (i := 128) rfl))), rfl⟩, List.mem_filter.mpr ⟨List.mem_append_right _ (List.mem_append_right _ (List.mem_append_left _ (List.mem_of_getElem? (i := 129) rfl))), rfl⟩, rfl⟩
theorem lk_L_97 : ax_lV "VectorGraphsLaw" 97 106 4 := ⟨List.mem_filter.mpr ⟨List.mem_append_right _ (List.mem_append_right _ (List.mem_append_right _ (List.mem_of_getElem? (i := 181) rfl))), rfl⟩, List.mem_filter.mpr ⟨List.mem_append_right _ (List.mem_append_right _ (List.mem_append_right _ (List.mem_of_getElem? (i := 182) rfl))), rfl⟩, List.mem_filter.mpr ⟨List.mem_append_right _ (List.mem_append_right _ (List.mem_append_right _ (List.mem_of_getElem? (i := 183) rfl))), rfl⟩, rfl⟩
theorem lk_L_98 : ax_lV "VectorGraphsLaw" 98 57 3 := ⟨List.mem_filter.mpr ⟨List.mem_append_right _ (List.mem_append_right _ (List.mem_append_left _ (List.mem_of_getElem? (i := 133) rfl))), rfl⟩, List.mem_filter.mpr ⟨List.mem_append_right _ (List.mem_append_right _ (List.mem_append_left _ (List.mem_of_getElem? (i := 134) rfl))), rfl⟩, List.mem_filter.mpr ⟨List.mem_append_right _ (List.mem_append_right _ (List.mem_append_left _ (List.mem_of_getElem? (i := 135) rfl))), rfl⟩, rfl⟩
theorem lk_L_101 : ax_lV "VectorGraphsLaw" 101 107 4 := ⟨List.mem_filter.mpr ⟨List.mem_append_right _ (List.mem_append_right _ (List.mem_append_right _ (List.mem_of_getElem? (i := 186) rfl))), rfl⟩, List.mem_filter.mpr ⟨List.mem_append_right _ (List.mem_append_right _ (List.mem_append_right _ (List.mem_of_getElem? (i := 187) rfl))), rfl⟩, List.mem_filter.mpr ⟨List.mem_append_right _ (List.mem_append_right _ (List.mem_append_right _ (List.mem_of_getElem? (i := 188) rfl))), rfl⟩, rfl⟩
theorem lk_L_102 : ax_lV "VectorGraphsLaw" 102 60 3 := ⟨List.mem_filter.mpr ⟨List.mem_append_right _ (List.mem_append_right _ (List.mem_append_left _ (List.mem_of_getElem? (i := 145) rfl))), rfl⟩, List.mem_filter.mpr ⟨List.mem_append_right _ (List.mem_append_right _ (List.mem_append_left _ (List.mem_of_getElem? (i := 146) rfl))), rfl⟩, List.mem_filter.mpr ⟨List.mem_append_right _ (List.mem_append_right _ (List.mem_append_left _ (List.mem_of_getElem? (i := 147) rfl))), rfl⟩, rfl⟩
theorem lk_L_105 : ax_lV "VectorGraphsLaw" 105 108 4 := ⟨List.mem_filter.mpr ⟨List.mem_append_right _ (List.mem_append_right _ (List.mem_append_right _ (List.mem_of_getElem? (i := 190) rfl))), rfl⟩, List.mem_filter.mpr ⟨List.mem_append_right _ (List.mem_append_right _ (List.mem_append_right _ (List.mem_of_getElem? (i := 191) rfl))), rfl⟩, List.mem_filter.mpr ⟨List.mem_append_right _ (List.mem_append_right _ (List.mem_append_right _ (List.mem_of_getElem? (i := 192) rfl))), rfl⟩, rfl⟩
theorem li_M_7 : (Cond.methodLink "VectorGraphsModel" 7 Lib.objectInit) ∈ gw := List.mem_filter.mpr ⟨List.mem_append_right _ (List.mem_append_right _ (List.mem_append_left _ (List.mem_of_getElem? (i := 166) rfl))), rfl⟩
theorem lk_M_79 : ax_lS "VectorGraphsModel" 79 66 := ⟨List.mem_filter.mpr ⟨List.mem_append_right _ (List.mem_append_right _ (List.mem_append_right _ (List.mem_of_getElem? (i := 17) rfl))), rfl⟩, List.mem_filter.mpr ⟨List.mem_append_right _ (List.mem_append_right _ (List.mem_append_right _ (List.mem_of_getElem? (i := 18) rfl))), rfl⟩⟩
theorem lk_M_86 : ax_lS "VectorGraphsModel" 86 80 := ⟨List.mem_filter.mpr ⟨List.mem_append_right _ (List.mem_append_right _ (List.mem_append_right _ (List.mem_of_getElem? (i := 76) rfl))), rfl⟩, List.mem_filter.mpr ⟨List.mem_append_right _ (List.mem_append_right _ (List.mem_append_right _ (List.mem_of_getElem? (i := 77) rfl))), rfl⟩⟩
theorem lk_M_90 : ax_lV "VectorGraphsModel" 90 79 4 := ⟨List.mem_filter.mpr ⟨List.mem_append_right _ (List.mem_append_right _ (List.mem_append_right _ (List.mem_of_getElem? (i := 72) rfl))), rfl⟩, List.mem_filter.mpr ⟨List.mem_append_right _ (List.mem_append_right _ (List.mem_append_right _ (List.mem_of_getElem? (i := 74) rfl))), rfl⟩, List.mem_filter.mpr ⟨List.mem_append_left _ (List.mem_of_getElem? (i := 17) rfl), rfl⟩, rfl⟩
theorem lk_M_96 : ax_lV "VectorGraphsModel" 96 92 4 := ⟨List.mem_filter.mpr ⟨List.mem_append_right _ (List.mem_append_right _ (List.mem_append_right _ (List.mem_of_getElem? (i := 125) rfl))), rfl⟩, List.mem_filter.mpr ⟨List.mem_append_right _ (List.mem_append_right _ (List.mem_append_right _ (List.mem_of_getElem? (i := 127) rfl))), rfl⟩, List.mem_filter.mpr ⟨List.mem_append_left _ (List.mem_of_getElem? (i := 27) rfl), rfl⟩, rfl⟩
theorem lk_M_100 : ax_lV "VectorGraphsModel" 100 83 4 := ⟨List.mem_filter.mpr ⟨List.mem_append_right _ (List.mem_append_right _ (List.mem_append_right _ (List.mem_of_getElem? (i := 87) rfl))), rfl⟩, List.mem_filter.mpr ⟨List.mem_append_right _ (List.mem_append_right _ (List.mem_append_right _ (List.mem_of_getElem? (i := 89) rfl))), rfl⟩, List.mem_filter.mpr ⟨List.mem_append_left _ (List.mem_of_getElem? (i := 20) rfl), rfl⟩, rfl⟩
theorem lk_M_109 : ax_lV "VectorGraphsModel" 109 82 4 := ⟨List.mem_filter.mpr ⟨List.mem_append_right _ (List.mem_append_right _ (List.mem_append_right _ (List.mem_of_getElem? (i := 83) rfl))), rfl⟩, List.mem_filter.mpr ⟨List.mem_append_right _ (List.mem_append_right _ (List.mem_append_right _ (List.mem_of_getElem? (i := 85) rfl))), rfl⟩, List.mem_filter.mpr ⟨List.mem_append_left _ (List.mem_of_getElem? (i := 19) rfl), rfl⟩, rfl⟩
theorem lk_M_113 : ax_lV "VectorGraphsModel" 113 91 4 := ⟨List.mem_filter.mpr ⟨List.mem_append_right _ (List.mem_append_right _ (List.mem_append_right _ (List.mem_of_getElem? (i := 121) rfl))), rfl⟩, List.mem_filter.mpr ⟨List.mem_append_right _ (List.mem_append_right _ (List.mem_append_right _ (List.mem_of_getElem? (i := 123) rfl))), rfl⟩, List.mem_filter.mpr ⟨List.mem_append_left _ (List.mem_of_getElem? (i := 26) rfl), rfl⟩, rfl⟩
theorem lk_M_117 : ax_lV "VectorGraphsModel" 117 93 4 := ⟨List.mem_filter.mpr ⟨List.mem_append_right _ (List.mem_append_right _ (List.mem_append_right _ (List.mem_of_getElem? (i := 129) rfl))), rfl⟩, List.mem_filter.mpr ⟨List.mem_append_right _ (List.mem_append_right _ (List.mem_append_right _ (List.mem_of_getElem? (i := 131) rfl))), rfl⟩, List.mem_filter.mpr ⟨List.mem_append_left _ (List.mem_of_getElem? (i := 28) rfl), rfl⟩, rfl⟩
theorem lk_M_120 : ax_lV "VectorGraphsModel" 120 94 4 := ⟨List.mem_filter.mpr ⟨List.mem_append_right _ (List.mem_append_right _ (List.mem_append_right _ (List.mem_of_getElem? (i := 133) rfl))), rfl⟩, List.mem_filter.mpr ⟨List.mem_append_right _ (List.mem_append_right _ (List.mem_append_right _ (List.mem_of_getElem? (i := 135) rfl))), rfl⟩, List.mem_filter.mpr ⟨List.mem_append_left _ (List.mem_of_getElem? (i := 29) rfl), rfl⟩, rfl⟩
theorem lk_M_124 : ax_lV "VectorGraphsModel" 124 96 4 := ⟨List.mem_filter.mpr ⟨List.mem_append_right _ (List.mem_append_right _ (List.mem_append_right _ (List.mem_of_getElem? (i := 141) rfl))), rfl⟩, List.mem_filter.mpr ⟨List.mem_append_right _ (List.mem_append_right _ (List.mem_append_right _ (List.mem_of_getElem? (i := 143) rfl))), rfl⟩, List.mem_filter.mpr ⟨List.mem_append_left _ (List.mem_of_getElem? (i := 31) rfl), rfl⟩, rfl⟩
theorem lk_M_128 : ax_lV "VectorGraphsModel" 128 97 4 := ⟨List.mem_filter.mpr ⟨List.mem_append_right _ (List.mem_append_right _ (List.mem_append_right _ (List.mem_of_getElem? (i := 145) rfl))), rfl⟩, List.mem_filter.mpr ⟨List.mem_append_right _ (List.mem_append_right _ (List.mem_append_right _ (List.mem_of_getElem? (i := 147) rfl))), rfl⟩, List.mem_filter.mpr ⟨List.mem_append_left _ (List.mem_of_getElem? (i := 32) rfl), rfl⟩, rfl⟩
theorem lk_M_132 : ax_lV "VectorGraphsModel" 132 90 4 := ⟨List.mem_filter.mpr ⟨List.mem_append_right _ (List.mem_append_right _ (List.mem_append_right _ (List.mem_of_getElem? (i := 117) rfl))), rfl⟩, List.mem_filter.mpr ⟨List.mem_append_right _ (List.mem_append_right _ (List.mem_append_right _ (List.mem_of_getElem? (i := 119) rfl))), rfl⟩, List.mem_filter.mpr ⟨List.mem_append_left _ (List.mem_of_getElem? (i := 25) rfl), rfl⟩, rfl⟩
theorem lk_M_136 : ax_lV "VectorGraphsModel" 136 95 4 := ⟨List.mem_filter.mpr ⟨List.mem_append_right _ (List.mem_append_right _ (List.mem_append_right _ (List.mem_of_getElem? (i := 137) rfl))), rfl⟩, List.mem_filter.mpr ⟨List.mem_append_right _ (List.mem_append_right _ (List.mem_append_right _ (List.mem_of_getElem? (i := 139) rfl))), rfl⟩, List.mem_filter.mpr ⟨List.mem_append_left _ (List.mem_of_getElem? (i := 30) rfl), rfl⟩, rfl⟩
theorem lk_M_143 : ax_lS "VectorGraphsModel" 143 88 := ⟨List.mem_filter.mpr ⟨List.mem_append_right _ (List.mem_append_right _ (List.mem_append_right _ (List.mem_of_getElem? (i := 108) rfl))), rfl⟩, List.mem_filter.mpr ⟨List.mem_append_right _ (List.mem_append_right _ (List.mem_append_right _ (List.mem_of_getElem? (i := 109) rfl))), rfl⟩⟩
theorem lk_M_146 : ax_lV "VectorGraphsModel" 146 78 4 := ⟨List.mem_filter.mpr ⟨List.mem_append_right _ (List.mem_append_right _ (List.mem_append_right _ (List.mem_of_getElem? (i := 68) rfl))), rfl⟩, List.mem_filter.mpr ⟨List.mem_append_right _ (List.mem_append_right _ (List.mem_append_right _ (List.mem_of_getElem? (i := 70) rfl))), rfl⟩, List.mem_filter.mpr ⟨List.mem_append_left _ (List.mem_of_getElem? (i := 16) rfl), rfl⟩, rfl⟩
theorem lk_M_149 : ax_lV "VectorGraphsModel" 149 89 4 := ⟨List.mem_filter.mpr ⟨List.mem_append_right _ (List.mem_append_right _ (List.mem_append_right _ (List.mem_of_getElem? (i := 113) rfl))), rfl⟩, List.mem_filter.mpr ⟨List.mem_append_right _ (List.mem_append_right _ (List.mem_append_right _ (List.mem_of_getElem? (i := 115) rfl))), rfl⟩, List.mem_filter.mpr ⟨List.mem_append_left _ (List.mem_of_getElem? (i := 24) rfl), rfl⟩, rfl⟩
theorem lk_M_157 : ax_lV "VectorGraphsModel" 157 68 4 := ⟨List.mem_filter.mpr ⟨List.mem_append_right _ (List.mem_append_right _ (List.mem_append_right _ (List.mem_of_getElem? (i := 26) rfl))), rfl⟩, List.mem_filter.mpr ⟨List.mem_append_right _ (List.mem_append_right _ (List.mem_append_right _ (List.mem_of_getElem? (i := 28) rfl))), rfl⟩, List.mem_filter.mpr ⟨List.mem_append_left _ (List.mem_of_getElem? (i := 12) rfl), rfl⟩, rfl⟩
theorem lk_M_160 : ax_lV "VectorGraphsModel" 160 70 4 := ⟨List.mem_filter.mpr ⟨List.mem_append_right _ (List.mem_append_right _ (List.mem_append_right _ (List.mem_of_getElem? (i := 34) rfl))), rfl⟩, List.mem_filter.mpr ⟨List.mem_append_right _ (List.mem_append_right _ (List.mem_append_right _ (List.mem_of_getElem? (i := 36) rfl))), rfl⟩, List.mem_filter.mpr ⟨List.mem_append_left _ (List.mem_of_getElem? (i := 13) rfl), rfl⟩, rfl⟩
theorem lk_M_174 : ax_lV "VectorGraphsModel" 174 77 4 := ⟨List.mem_filter.mpr ⟨List.mem_append_right _ (List.mem_append_right _ (List.mem_append_right _ (List.mem_of_getElem? (i := 64) rfl))), rfl⟩, List.mem_filter.mpr ⟨List.mem_append_right _ (List.mem_append_right _ (List.mem_append_right _ (List.mem_of_getElem? (i := 66) rfl))), rfl⟩, List.mem_filter.mpr ⟨List.mem_append_left _ (List.mem_of_getElem? (i := 15) rfl), rfl⟩, rfl⟩
theorem lk_M_177 : ax_lV "VectorGraphsModel" 177 81 4 := ⟨List.mem_filter.mpr ⟨List.mem_append_right _ (List.mem_append_right _ (List.mem_append_right _ (List.mem_of_getElem? (i := 79) rfl))), rfl⟩, List.mem_filter.mpr ⟨List.mem_append_right _ (List.mem_append_right _ (List.mem_append_right _ (List.mem_of_getElem? (i := 81) rfl))), rfl⟩, List.mem_filter.mpr ⟨List.mem_append_left _ (List.mem_of_getElem? (i := 18) rfl), rfl⟩, rfl⟩
theorem lk_M_180 : ax_lV "VectorGraphsModel" 180 87 4 := ⟨List.mem_filter.mpr ⟨List.mem_append_right _ (List.mem_append_right _ (List.mem_append_right _ (List.mem_of_getElem? (i := 104) rfl))), rfl⟩, List.mem_filter.mpr ⟨List.mem_append_right _ (List.mem_append_right _ (List.mem_append_right _ (List.mem_of_getElem? (i := 106) rfl))), rfl⟩, List.mem_filter.mpr ⟨List.mem_append_left _ (List.mem_of_getElem? (i := 23) rfl), rfl⟩, rfl⟩
theorem lk_M_183 : ax_lV "VectorGraphsModel" 183 76 4 := ⟨List.mem_filter.mpr ⟨List.mem_append_right _ (List.mem_append_right _ (List.mem_append_right _ (List.mem_of_getElem? (i := 60) rfl))), rfl⟩, List.mem_filter.mpr ⟨List.mem_append_right _ (List.mem_append_right _ (List.mem_append_right _ (List.mem_of_getElem? (i := 62) rfl))), rfl⟩, List.mem_filter.mpr ⟨List.mem_append_left _ (List.mem_of_getElem? (i := 14) rfl), rfl⟩, rfl⟩
theorem lk_M_186 : ax_lV "VectorGraphsModel" 186 84 4 := ⟨List.mem_filter.mpr ⟨List.mem_append_right _ (List.mem_append_right _ (List.mem_append_right _ (List.mem_of_getElem? (i := 91) rfl))), rfl⟩, List.mem_filter.mpr ⟨List.mem_append_right _ (List.mem_append_right _ (List.mem_append_right _ (List.mem_of_getElem? (i := 93) rfl))), rfl⟩, List.mem_filter.mpr ⟨List.mem_append_left _ (List.mem_of_getElem? (i := 21) rfl), rfl⟩, rfl⟩
theorem lk_M_192 : ax_lV "VectorGraphsModel" 192 86 4 := ⟨List.mem_filter.mpr ⟨List.mem_append_right _ (List.mem_append_right _ (List.mem_append_right _ (List.mem_of_getElem? (i := 100) rfl))), rfl⟩, List.mem_filter.mpr ⟨List.mem_append_right _ (List.mem_append_right _ (List.mem_append_right _ (List.mem_of_getElem? (i := 102) rfl))), rfl⟩, List.mem_filter.mpr ⟨List.mem_append_left _ (List.mem_of_getElem? (i := 22) rfl), rfl⟩, rfl⟩
theorem wo_i : (Cond.instanceMethod Lib.objectInit) ∈ gw := List.mem_filter.mpr ⟨List.mem_append_right _ (List.mem_append_left _ (List.mem_of_getElem? (i := 14) rfl)), rfl⟩
theorem wo_c : (Cond.code Lib.objectInit ⟨#[0xb1]⟩ 1 none) ∈ gw := List.mem_filter.mpr ⟨List.mem_append_right _ (List.mem_append_left _ (List.mem_of_getElem? (i := 15) rfl)), rfl⟩
theorem wm_max_s : (Cond.static Lib.Math.max.name) ∈ gw := List.mem_filter.mpr ⟨List.mem_append_right _ (List.mem_append_left _ (List.mem_of_getElem? (i := 22) rfl)), rfl⟩
theorem wm_max_c : (Cond.code Lib.Math.max.name Lib.Math.max.code 2 (some .int)) ∈ gw := List.mem_filter.mpr ⟨List.mem_append_right _ (List.mem_append_left _ (List.mem_of_getElem? (i := 23) rfl)), rfl⟩
theorem wm_min_s : (Cond.static Lib.Math.min.name) ∈ gw := List.mem_filter.mpr ⟨List.mem_append_right _ (List.mem_append_left _ (List.mem_of_getElem? (i := 19) rfl)), rfl⟩
theorem wm_min_c : (Cond.code Lib.Math.min.name Lib.Math.min.code 2 (some .int)) ∈ gw := List.mem_filter.mpr ⟨List.mem_append_right _ (List.mem_append_left _ (List.mem_of_getElem? (i := 20) rfl)), rfl⟩
theorem wm_i : (Cond.initialized "java/lang/Math") ∈ gw := List.mem_filter.mpr ⟨List.mem_append_right _ (List.mem_append_left _ (List.mem_of_getElem? (i := 3) rfl)), rfl⟩
theorem ws_i : (Cond.initialized "java/lang/System") ∈ gw := List.mem_filter.mpr ⟨List.mem_append_right _ (List.mem_append_left _ (List.mem_of_getElem? (i := 7) rfl)), rfl⟩
theorem ws_n : (Cond.native arraycopyName) ∈ gw := List.mem_filter.mpr ⟨List.mem_append_right _ (List.mem_append_left _ (List.mem_of_getElem? (i := 165) rfl)), rfl⟩
theorem ws_s : (Cond.static arraycopyName) ∈ gw := List.mem_filter.mpr ⟨List.mem_append_right _ (List.mem_append_left _ (List.mem_of_getElem? (i := 164) rfl)), rfl⟩
theorem wa_I : (Cond.arrayClass .int) ∈ gw := List.mem_filter.mpr ⟨List.mem_append_right _ (List.mem_append_left _ (List.mem_of_getElem? (i := 54) rfl)), rfl⟩
theorem wa_Z : (Cond.arrayClass .boolean) ∈ gw := List.mem_filter.mpr ⟨List.mem_append_right _ (List.mem_append_left _ (List.mem_of_getElem? (i := 53) rfl)), rfl⟩
theorem kc_G_61 : (Cond.constant "VectorGraphs$Graph" 61 (-1640531535)) ∈ gw := List.mem_filter.mpr ⟨List.mem_append_right _ (List.mem_append_left _ (List.mem_of_getElem? (i := 174) rfl)), rfl⟩
theorem kc_G_62 : (Cond.constant "VectorGraphs$Graph" 62 (-2048144789)) ∈ gw := List.mem_filter.mpr ⟨List.mem_append_right _ (List.mem_append_left _ (List.mem_of_getElem? (i := 175) rfl)), rfl⟩
theorem kc_M_36 : (Cond.constant "VectorGraphsModel" 36 (50000)) ∈ gw := List.mem_filter.mpr ⟨List.mem_append_right _ (List.mem_append_right _ (List.mem_append_left _ (List.mem_of_getElem? (i := 167) rfl))), rfl⟩
theorem kc_M_153 : (Cond.constantLong "VectorGraphsModel" 153 (-100)) ∈ gw := List.mem_filter.mpr ⟨List.mem_append_right _ (List.mem_append_right _ (List.mem_append_right _ (List.mem_of_getElem? (i := 20) rfl))), rfl⟩
theorem kc_M_155 : (Cond.constantLong "VectorGraphsModel" 155 (100)) ∈ gw := List.mem_filter.mpr ⟨List.mem_append_right _ (List.mem_append_right _ (List.mem_append_right _ (List.mem_of_getElem? (i := 21) rfl))), rfl⟩
theorem kc_M_167 : (Cond.constantLong "VectorGraphsModel" 167 (2)) ∈ gw := List.mem_filter.mpr ⟨List.mem_append_right _ (List.mem_append_right _ (List.mem_append_right _ (List.mem_of_getElem? (i := 54) rfl))), rfl⟩
theorem kc_M_169 : (Cond.constantLong "VectorGraphsModel" 169 (6)) ∈ gw := List.mem_filter.mpr ⟨List.mem_append_right _ (List.mem_append_right _ (List.mem_append_right _ (List.mem_of_getElem? (i := 55) rfl))), rfl⟩
theorem kc_M_190 : (Cond.constantLong "VectorGraphsModel" 190 (60)) ∈ gw := List.mem_filter.mpr ⟨List.mem_append_right _ (List.mem_append_right _ (List.mem_append_right _ (List.mem_of_getElem? (i := 99) rfl))), rfl⟩
theorem kc_M_94 : (Cond.constant "VectorGraphsModel" 94 (-1640531535)) ∈ gw := List.mem_filter.mpr ⟨List.mem_append_right _ (List.mem_append_right _ (List.mem_append_right _ (List.mem_of_getElem? (i := 111) rfl))), rfl⟩
theorem kc_M_95 : (Cond.constant "VectorGraphsModel" 95 (-2048144789)) ∈ gw := List.mem_filter.mpr ⟨List.mem_append_right _ (List.mem_append_right _ (List.mem_append_right _ (List.mem_of_getElem? (i := 112) rfl))), rfl⟩
theorem kc_M_195 : (Cond.constantLong "VectorGraphsModel" 195 (-1)) ∈ gw := List.mem_filter.mpr ⟨List.mem_append_right _ (List.mem_append_right _ (List.mem_append_right _ (List.mem_of_getElem? (i := 185) rfl))), rfl⟩
end
section
set_option maxHeartbeats 1000000 in
theorem ax_s_mono (l : Launch) (sc : ax_S) : ax_R_mono sc (ax_PW l sc) := by
  intro k pc ls st h K K2 hk P0 p e R s m args below meth c D cI cZ b A ad H locs cells slots ls' Q hA hW hF hB hR
  exact P0 p e R s m args below meth c D cI cZ b A ad H locs cells slots ls' Q hA hW hF hB (fun v h2 ad2 H2 locs2 c2 s2 pc2 ls2 hK => hR v h2 ad2 H2 locs2 c2 s2 pc2 ls2 (hk v h2 hK))
set_option maxHeartbeats 1000000 in
theorem ax_s_iconst (l : Launch) (sc : ax_S) : ax_R_iconst sc (ax_PW l sc) := by
  intro k pc q ls st h K n v g0 g1 g2 P0 p e R s m args below meth c D cI cZ b A ad H locs cells slots ls' Q hA hW hF hB hR
  subst g1
  exact lv_iconst hA.1 hA.2.1 g0 g2 (P0 p e R s m args below meth c D cI cZ b A ad H locs cells slots ls' Q hA hW ⟨hF.1, hF.2.1, ax_oi hF.2.2.1, hF.2.2.2⟩ hB hR)
set_option maxHeartbeats 1000000 in
theorem ax_s_bipush (l : Launch) (sc : ax_S) : ax_R_bipush sc (ax_PW l sc) := by
  intro k pc q ls st h K n v g0 g1 g2 P0 p e R s m args below meth c D cI cZ b A ad H locs cells slots ls' Q hA hW hF hB hR
  subst g1
  exact lv_bipush hA.1 hA.2.1 g0 g2 (P0 p e R s m args below meth c D cI cZ b A ad H locs cells slots ls' Q hA hW ⟨hF.1, hF.2.1, ax_oi hF.2.2.1, hF.2.2.2⟩ hB hR)
set_option maxHeartbeats 1000000 in
theorem ax_s_sipush (l : Launch) (sc : ax_S) : ax_R_sipush sc (ax_PW l sc) := by
  intro k pc q ls st h K n v g0 g1 g2 P0 p e R s m args below meth c D cI cZ b A ad H locs cells slots ls' Q hA hW hF hB hR
  subst g1
  exact lv_sipush hA.1 hA.2.1 g0 g2 (P0 p e R s m args below meth c D cI cZ b A ad H locs cells slots ls' Q hA hW ⟨hF.1, hF.2.1, ax_oi hF.2.2.1, hF.2.2.2⟩ hB hR)
set_option maxHeartbeats 1000000 in
theorem ax_s_ldc (l : Launch) (sc : ax_S) : ax_R_ldc sc (ax_PW l sc) := by
  intro k pc q ls st h K idx v g0 g1 g2 P0 p e R s m args below meth c D cI cZ b A ad H locs cells slots ls' Q hA hW hF hB hR
  subst g1
  exact lv_ldc hA.1 hA.2.1 hA.2.2.2.1 (hA.2.2.2.2.1 _ g2) g0 (P0 p e R s m args below meth c D cI cZ b A ad H locs cells slots ls' Q hA hW ⟨hF.1, hF.2.1, ax_oi hF.2.2.1, hF.2.2.2⟩ hB hR)
set_option maxHeartbeats 1000000 in
theorem ax_s_ldcw (l : Launch) (sc : ax_S) : ax_R_ldcw sc (ax_PW l sc) := by
  intro k pc q ls st h K idx v g0 g1 g2 P0 p e R s m args below meth c D cI cZ b A ad H locs cells slots ls' Q hA hW hF hB hR
  subst g1
  exact lv_ldcw hA.1 hA.2.1 hA.2.2.2.1 (hA.2.2.2.2.1 _ g2) g0 (P0 p e R s m args below meth c D cI cZ b A ad H locs cells slots ls' Q hA hW ⟨hF.1, hF.2.1, ax_oi hF.2.2.1, hF.2.2.2⟩ hB hR)
set_option maxHeartbeats 1000000 in
theorem ax_s_null (l : Launch) (sc : ax_S) : ax_R_null sc (ax_PW l sc) := by
  intro k pc q ls st h K g0 g1 P0 p e R s m args below meth c D cI cZ b A ad H locs cells slots ls' Q hA hW hF hB hR
  subst g1
  exact lv_null hA.1 hA.2.1 g0 (P0 p e R s m args below meth c D cI cZ b A ad H locs cells slots ls' Q hA hW ⟨hF.1, hF.2.1, ax_on hF.2.2.1, hF.2.2.2⟩ hB hR)
set_option maxHeartbeats 1000000 in
theorem ax_s_iload (l : Launch) (sc : ax_S) : ax_R_iload sc (ax_PW l sc) := by
  intro k pc q ls st h K i x g0 g1 g2 P0 p e R s m args below meth c D cI cZ b A ad H locs cells slots ls' Q hA hW hF hB hR
  subst g1
  exact lv_iload hA.1 hA.2.1 g0 (hF.1.2.2 (i, _) (ax_pr_mem.mpr ⟨_, g2, rfl⟩)) (P0 p e R s m args below meth c D cI cZ b A ad H locs cells slots ls' Q hA hW ⟨hF.1, hF.2.1, ax_oi hF.2.2.1, hF.2.2.2⟩ hB hR)
set_option maxHeartbeats 1000000 in
theorem ax_s_iload_n (l : Launch) (sc : ax_S) : ax_R_iload_n sc (ax_PW l sc) := by
  intro k pc q ls st h K i x j g0 g1 g2 g3 P0 p e R s m args below meth c D cI cZ b A ad H locs cells slots ls' Q hA hW hF hB hR
  subst g1
  exact lv_iload_n hA.1 hA.2.1 g0 g2 (hF.1.2.2 (i, _) (ax_pr_mem.mpr ⟨_, g3, rfl⟩)) (P0 p e R s m args below meth c D cI cZ b A ad H locs cells slots ls' Q hA hW ⟨hF.1, hF.2.1, ax_oi hF.2.2.1, hF.2.2.2⟩ hB hR)
set_option maxHeartbeats 1000000 in
theorem ax_s_aload (l : Launch) (sc : ax_S) : ax_R_aload sc (ax_PW l sc) := by
  intro k pc q ls st h K i o g0 g1 g2 P0 p e R s m args below meth c D cI cZ b A ad H locs cells slots ls' Q hA hW hF hB hR
  subst g1
  exact lv_aload hA.1 hA.2.1 g0 (hF.1.2.2 (i, _) (ax_pr_mem.mpr ⟨_, g2, rfl⟩)) (P0 p e R s m args below meth c D cI cZ b A ad H locs cells slots ls' Q hA hW ⟨hF.1, hF.2.1, ax_oc (hF.2.1 _ (List.mem_of_getElem? g2)).2 hF.2.2.1, hF.2.2.2⟩ hB hR)
set_option maxHeartbeats 1000000 in
theorem ax_s_aload_n (l : Launch) (sc : ax_S) : ax_R_aload_n sc (ax_PW l sc) := by
  intro k pc q ls st h K i o j g0 g1 g2 g3 P0 p e R s m args below meth c D cI cZ b A ad H locs cells slots ls' Q hA hW hF hB hR
  subst g1
  exact lv_aload_n hA.1 hA.2.1 g0 g2 (hF.1.2.2 (i, _) (ax_pr_mem.mpr ⟨_, g3, rfl⟩)) (P0 p e R s m args below meth c D cI cZ b A ad H locs cells slots ls' Q hA hW ⟨hF.1, hF.2.1, ax_oc (hF.2.1 _ (List.mem_of_getElem? g3)).2 hF.2.2.1, hF.2.2.2⟩ hB hR)
set_option maxHeartbeats 1000000 in
theorem ax_s_aloadS (l : Launch) (sc : ax_S) : ax_R_aloadS sc (ax_PW l sc) := by
  intro k pc q ls st h K i o g0 g1 g2 P0 p e R s m args below meth c D cI cZ b A ad H locs cells slots ls' Q hA hW hF hB hR
  subst g1
  exact lv_aload hA.1 hA.2.1 g0 (hF.1.2.2 (i, _) (ax_pr_mem.mpr ⟨_, g2, rfl⟩)) (P0 p e R s m args below meth c D cI cZ b A ad H locs cells slots ls' Q hA hW ⟨hF.1, hF.2.1, ax_oc (hF.2.1 _ (List.mem_of_getElem? g2)).2 hF.2.2.1, hF.2.2.2⟩ hB hR)
set_option maxHeartbeats 1000000 in
theorem ax_s_aload_nS (l : Launch) (sc : ax_S) : ax_R_aload_nS sc (ax_PW l sc) := by
  intro k pc q ls st h K i o j g0 g1 g2 g3 P0 p e R s m args below meth c D cI cZ b A ad H locs cells slots ls' Q hA hW hF hB hR
  subst g1
  exact lv_aload_n hA.1 hA.2.1 g0 g2 (hF.1.2.2 (i, _) (ax_pr_mem.mpr ⟨_, g3, rfl⟩)) (P0 p e R s m args below meth c D cI cZ b A ad H locs cells slots ls' Q hA hW ⟨hF.1, hF.2.1, ax_oc (hF.2.1 _ (List.mem_of_getElem? g3)).2 hF.2.2.1, hF.2.2.2⟩ hB hR)
set_option maxHeartbeats 1000000 in
theorem ax_s_istore (l : Launch) (sc : ax_S) : ax_R_istore sc (ax_PW l sc) := by
  intro k pc q ls st h K i x g0 g1 g2 P0 p e R s m args below meth c D cI cZ b A ad H locs cells slots ls' Q hA hW hF hB hR
  subst g1
  exact lv_istore hA.1 hA.2.1 g0 hF.1 g2 rfl (fun ls2 h2 => P0 p e R s m args below meth c D cI cZ b A ad H locs cells slots ls2 Q hA hW (ax_store (x := .int x) (ax_tl hF) g2 h2 rfl rfl (fun _ e => by cases e)) hB hR)
set_option maxHeartbeats 1000000 in
theorem ax_s_istore_n (l : Launch) (sc : ax_S) : ax_R_istore_n sc (ax_PW l sc) := by
  intro k pc q ls st h K i x j g0 g1 g2 g3 P0 p e R s m args below meth c D cI cZ b A ad H locs cells slots ls' Q hA hW hF hB hR
  subst g1
  exact lv_istore_n hA.1 hA.2.1 g0 g2 hF.1 g3 rfl (fun ls2 h2 => P0 p e R s m args below meth c D cI cZ b A ad H locs cells slots ls2 Q hA hW (ax_store (x := .int x) (ax_tl hF) g3 h2 rfl rfl (fun _ e => by cases e)) hB hR)
set_option maxHeartbeats 1000000 in
theorem ax_s_astore (l : Launch) (sc : ax_S) : ax_R_astore sc (ax_PW l sc) := by
  intro k pc q ls st h K i o g0 g1 g2 P0 p e R s m args below meth c D cI cZ b A ad H locs cells slots ls' Q hA hW hF hB hR
  subst g1
  exact lv_astore hA.1 hA.2.1 g0 hF.1 g2 rfl (fun ls2 h2 => P0 p e R s m args below meth c D cI cZ b A ad H locs cells slots ls2 Q hA hW (ax_store (x := .ref o) (ax_tl hF) g2 h2 rfl rfl (ax_oh hF.2.2.1)) hB hR)
set_option maxHeartbeats 1000000 in
theorem ax_s_astore_n (l : Launch) (sc : ax_S) : ax_R_astore_n sc (ax_PW l sc) := by
  intro k pc q ls st h K i o j g0 g1 g2 g3 P0 p e R s m args below meth c D cI cZ b A ad H locs cells slots ls' Q hA hW hF hB hR
  subst g1
  exact lv_astore_n hA.1 hA.2.1 g0 g2 hF.1 g3 rfl (fun ls2 h2 => P0 p e R s m args below meth c D cI cZ b A ad H locs cells slots ls2 Q hA hW (ax_store (x := .ref o) (ax_tl hF) g3 h2 rfl rfl (ax_oh hF.2.2.1)) hB hR)
set_option maxHeartbeats 1000000 in
theorem ax_s_iinc (l : Launch) (sc : ax_S) : ax_R_iinc sc (ax_PW l sc) := by
  intro k pc q ls st h K i n x v g0 g1 g2 g3 P0 p e R s m args below meth c D cI cZ b A ad H locs cells slots ls' Q hA hW hF hB hR
  subst g1
  have hm : (i, Value.int x) ∈ ax_pr b ad ls := ax_pr_mem.mpr ⟨_, g2, rfl⟩
  obtain ⟨j, hj⟩ := List.getElem?_of_mem hm
  have hil := (List.getElem?_eq_some_iff.mp g2).1
  exact lv_iinc hA.1 hA.2.1 g0 hF.1 hj g3 hil rfl (fun ls2 h2 => P0 p e R s m args below meth c D cI cZ b A ad H locs cells slots ls2 Q hA hW (ax_store (x := .int v) hF hil h2 rfl rfl (fun _ e => by cases e)) hB hR)
set_option maxHeartbeats 1000000 in
theorem ax_s_iadd (l : Launch) (sc : ax_S) : ax_R_iadd sc (ax_PW l sc) := by
  intro k pc q ls st h K x y g0 g1 P0 p e R s m args below meth c D cI cZ b A ad H locs cells slots ls' Q hA hW hF hB hR
  subst g1
  exact lv_iadd hA.1 hA.2.1 g0 (P0 p e R s m args below meth c D cI cZ b A ad H locs cells slots ls' Q hA hW ⟨hF.1, hF.2.1, ax_oi (ax_ot (ax_ot hF.2.2.1)), hF.2.2.2⟩ hB hR)
set_option maxHeartbeats 1000000 in
theorem ax_s_isub (l : Launch) (sc : ax_S) : ax_R_isub sc (ax_PW l sc) := by
  intro k pc q ls st h K x y g0 g1 P0 p e R s m args below meth c D cI cZ b A ad H locs cells slots ls' Q hA hW hF hB hR
  subst g1
  exact lv_isub hA.1 hA.2.1 g0 (P0 p e R s m args below meth c D cI cZ b A ad H locs cells slots ls' Q hA hW ⟨hF.1, hF.2.1, ax_oi (ax_ot (ax_ot hF.2.2.1)), hF.2.2.2⟩ hB hR)
set_option maxHeartbeats 1000000 in
theorem ax_s_imul (l : Launch) (sc : ax_S) : ax_R_imul sc (ax_PW l sc) := by
  intro k pc q ls st h K x y g0 g1 P0 p e R s m args below meth c D cI cZ b A ad H locs cells slots ls' Q hA hW hF hB hR
  subst g1
  exact lv_imul hA.1 hA.2.1 g0 (P0 p e R s m args below meth c D cI cZ b A ad H locs cells slots ls' Q hA hW ⟨hF.1, hF.2.1, ax_oi (ax_ot (ax_ot hF.2.2.1)), hF.2.2.2⟩ hB hR)
set_option maxHeartbeats 1000000 in
theorem ax_s_iand (l : Launch) (sc : ax_S) : ax_R_iand sc (ax_PW l sc) := by
  intro k pc q ls st h K x y g0 g1 P0 p e R s m args below meth c D cI cZ b A ad H locs cells slots ls' Q hA hW hF hB hR
  subst g1
  exact lv_iand hA.1 hA.2.1 g0 (P0 p e R s m args below meth c D cI cZ b A ad H locs cells slots ls' Q hA hW ⟨hF.1, hF.2.1, ax_oi (ax_ot (ax_ot hF.2.2.1)), hF.2.2.2⟩ hB hR)
set_option maxHeartbeats 1000000 in
theorem ax_s_ior (l : Launch) (sc : ax_S) : ax_R_ior sc (ax_PW l sc) := by
  intro k pc q ls st h K x y g0 g1 P0 p e R s m args below meth c D cI cZ b A ad H locs cells slots ls' Q hA hW hF hB hR
  subst g1
  exact lv_ior hA.1 hA.2.1 g0 (P0 p e R s m args below meth c D cI cZ b A ad H locs cells slots ls' Q hA hW ⟨hF.1, hF.2.1, ax_oi (ax_ot (ax_ot hF.2.2.1)), hF.2.2.2⟩ hB hR)
set_option maxHeartbeats 1000000 in
theorem ax_s_ixor (l : Launch) (sc : ax_S) : ax_R_ixor sc (ax_PW l sc) := by
  intro k pc q ls st h K x y g0 g1 P0 p e R s m args below meth c D cI cZ b A ad H locs cells slots ls' Q hA hW hF hB hR
  subst g1
  exact lv_ixor hA.1 hA.2.1 g0 (P0 p e R s m args below meth c D cI cZ b A ad H locs cells slots ls' Q hA hW ⟨hF.1, hF.2.1, ax_oi (ax_ot (ax_ot hF.2.2.1)), hF.2.2.2⟩ hB hR)
set_option maxHeartbeats 1000000 in
theorem ax_s_ishl (l : Launch) (sc : ax_S) : ax_R_ishl sc (ax_PW l sc) := by
  intro k pc q ls st h K x y g0 g1 P0 p e R s m args below meth c D cI cZ b A ad H locs cells slots ls' Q hA hW hF hB hR
  subst g1
  exact lv_ishl hA.1 hA.2.1 g0 (P0 p e R s m args below meth c D cI cZ b A ad H locs cells slots ls' Q hA hW ⟨hF.1, hF.2.1, ax_oi (ax_ot (ax_ot hF.2.2.1)), hF.2.2.2⟩ hB hR)
set_option maxHeartbeats 1000000 in
theorem ax_s_ishr (l : Launch) (sc : ax_S) : ax_R_ishr sc (ax_PW l sc) := by
  intro k pc q ls st h K x y g0 g1 P0 p e R s m args below meth c D cI cZ b A ad H locs cells slots ls' Q hA hW hF hB hR
  subst g1
  exact lv_ishr hA.1 hA.2.1 g0 (P0 p e R s m args below meth c D cI cZ b A ad H locs cells slots ls' Q hA hW ⟨hF.1, hF.2.1, ax_oi (ax_ot (ax_ot hF.2.2.1)), hF.2.2.2⟩ hB hR)
set_option maxHeartbeats 1000000 in
theorem ax_s_iushr (l : Launch) (sc : ax_S) : ax_R_iushr sc (ax_PW l sc) := by
  intro k pc q ls st h K x y g0 g1 P0 p e R s m args below meth c D cI cZ b A ad H locs cells slots ls' Q hA hW hF hB hR
  subst g1
  exact lv_iushr hA.1 hA.2.1 g0 rfl (P0 p e R s m args below meth c D cI cZ b A ad H locs cells slots ls' Q hA hW ⟨hF.1, hF.2.1, ax_oi (ax_ot (ax_ot hF.2.2.1)), hF.2.2.2⟩ hB hR)
set_option maxHeartbeats 1000000 in
theorem ax_s_idiv (l : Launch) (sc : ax_S) : ax_R_idiv sc (ax_PW l sc) := by
  intro k pc q ls st h K x y g0 g1 g2 P0 p e R s m args below meth c D cI cZ b A ad H locs cells slots ls' Q hA hW hF hB hR
  subst g1
  exact lv_idiv hA.1 hA.2.1 g0 g2 (P0 p e R s m args below meth c D cI cZ b A ad H locs cells slots ls' Q hA hW ⟨hF.1, hF.2.1, ax_oi (ax_ot (ax_ot hF.2.2.1)), hF.2.2.2⟩ hB hR)
set_option maxHeartbeats 1000000 in
theorem ax_s_irem (l : Launch) (sc : ax_S) : ax_R_irem sc (ax_PW l sc) := by
  intro k pc q ls st h K x y g0 g1 g2 P0 p e R s m args below meth c D cI cZ b A ad H locs cells slots ls' Q hA hW hF hB hR
  subst g1
  exact lv_irem hA.1 hA.2.1 g0 g2 (P0 p e R s m args below meth c D cI cZ b A ad H locs cells slots ls' Q hA hW ⟨hF.1, hF.2.1, ax_oi (ax_ot (ax_ot hF.2.2.1)), hF.2.2.2⟩ hB hR)
set_option maxHeartbeats 1000000 in
theorem ax_s_ineg (l : Launch) (sc : ax_S) : ax_R_ineg sc (ax_PW l sc) := by
  intro k pc q ls st h K x g0 g1 P0 p e R s m args below meth c D cI cZ b A ad H locs cells slots ls' Q hA hW hF hB hR
  subst g1
  exact lv_ineg hA.1 hA.2.1 g0 (P0 p e R s m args below meth c D cI cZ b A ad H locs cells slots ls' Q hA hW ⟨hF.1, hF.2.1, ax_oi (ax_ot hF.2.2.1), hF.2.2.2⟩ hB hR)
set_option maxHeartbeats 1000000 in
theorem ax_s_dup (l : Launch) (sc : ax_S) : ax_R_dup sc (ax_PW l sc) := by
  intro k pc q ls st h K x g0 g1 g2 P0 p e R s m args below meth c D cI cZ b A ad H locs cells slots ls' Q hA hW hF hB hR
  subst g1
  exact lv_dup hA.1 hA.2.1 g0 (ax_cat1 g2) (P0 p e R s m args below meth c D cI cZ b A ad H locs cells slots ls' Q hA hW ⟨hF.1, hF.2.1, ax_oc (ax_oh hF.2.2.1) hF.2.2.1, hF.2.2.2⟩ hB hR)
set_option maxHeartbeats 1000000 in
theorem ax_s_pop (l : Launch) (sc : ax_S) : ax_R_pop sc (ax_PW l sc) := by
  intro k pc q ls st h K x g0 g1 g2 P0 p e R s m args below meth c D cI cZ b A ad H locs cells slots ls' Q hA hW hF hB hR
  subst g1
  exact lv_pop hA.1 hA.2.1 g0 (ax_cat1 g2) (P0 p e R s m args below meth c D cI cZ b A ad H locs cells slots ls' Q hA hW ⟨hF.1, hF.2.1, ax_ot hF.2.2.1, hF.2.2.2⟩ hB hR)
set_option maxHeartbeats 1000000 in
theorem ax_s_dup_x1 (l : Launch) (sc : ax_S) : ax_R_dup_x1 sc (ax_PW l sc) := by
  intro k pc q ls st h K x y g0 g1 g2 g3 P0 p e R s m args below meth c D cI cZ b A ad H locs cells slots ls' Q hA hW hF hB hR
  subst g1
  exact lv_dup_x1 hA.1 hA.2.1 g0 (ax_cat1 g2) (ax_cat1 g3) (P0 p e R s m args below meth c D cI cZ b A ad H locs cells slots ls' Q hA hW ⟨hF.1, hF.2.1, ax_oc (ax_oh hF.2.2.1) (ax_oc (ax_oh (ax_ot hF.2.2.1)) (ax_oc (ax_oh hF.2.2.1) (ax_ot (ax_ot hF.2.2.1)))), hF.2.2.2⟩ hB hR)
set_option maxHeartbeats 1000000 in
theorem ax_s_dup_x2 (l : Launch) (sc : ax_S) : ax_R_dup_x2 sc (ax_PW l sc) := by
  intro k pc q ls st h K x y z g0 g1 g2 g3 g4 P0 p e R s m args below meth c D cI cZ b A ad H locs cells slots ls' Q hA hW hF hB hR
  subst g1
  exact lv_dup_x2 hA.1 hA.2.1 g0 (ax_cat1 g2) (ax_cat1 g3) (ax_cat1 g4) (P0 p e R s m args below meth c D cI cZ b A ad H locs cells slots ls' Q hA hW ⟨hF.1, hF.2.1, ax_oc (ax_oh hF.2.2.1) (ax_oc (ax_oh (ax_ot hF.2.2.1)) (ax_oc (ax_oh (ax_ot (ax_ot hF.2.2.1))) (ax_oc (ax_oh hF.2.2.1) (ax_ot (ax_ot (ax_ot hF.2.2.1)))))), hF.2.2.2⟩ hB hR)
set_option maxHeartbeats 1000000 in
theorem ax_s_dup2 (l : Launch) (sc : ax_S) : ax_R_dup2 sc (ax_PW l sc) := by
  intro k pc q ls st h K x y g0 g1 g2 g3 P0 p e R s m args below meth c D cI cZ b A ad H locs cells slots ls' Q hA hW hF hB hR
  subst g1
  exact lv_dup2_11 hA.1 hA.2.1 g0 (ax_cat1 g2) (ax_cat1 g3) (P0 p e R s m args below meth c D cI cZ b A ad H locs cells slots ls' Q hA hW ⟨hF.1, hF.2.1, ax_oc (ax_oh hF.2.2.1) (ax_oc (ax_oh (ax_ot hF.2.2.1)) hF.2.2.1), hF.2.2.2⟩ hB hR)
set_option maxHeartbeats 1000000 in
theorem ax_s_goto (l : Launch) (sc : ax_S) : ax_R_goto sc (ax_PW l sc) := by
  intro k pc ls st h K off t g0 g1 P0 p e R s m args below meth c D cI cZ b A ad H locs cells slots ls' Q hA hW hF hB hR
  exact lv_goto hA.1 hA.2.1 g0 g1 (P0 p e R s m args below meth c D cI cZ b A ad H locs cells slots ls' Q hA hW hF hB hR)
set_option maxHeartbeats 1000000 in
theorem ax_s_if_eq (l : Launch) (sc : ax_S) : ax_R_if_eq sc (ax_PW l sc) := by
  intro k pc q ls st h K off t x g0 g1 g2 P0 P1 p e R s m args below meth c D cI cZ b A ad H locs cells slots ls' Q hA hW hF hB hR
  subst g2
  exact lv_if_eq hA.1 hA.2.1 g0 g1 (fun z => P0 z p e R s m args below meth c D cI cZ b A ad H locs cells slots ls' Q hA hW (ax_tl hF) hB hR) (fun z => P1 z p e R s m args below meth c D cI cZ b A ad H locs cells slots ls' Q hA hW (ax_tl hF) hB hR)
set_option maxHeartbeats 1000000 in
theorem ax_s_if_ne (l : Launch) (sc : ax_S) : ax_R_if_ne sc (ax_PW l sc) := by
  intro k pc q ls st h K off t x g0 g1 g2 P0 P1 p e R s m args below meth c D cI cZ b A ad H locs cells slots ls' Q hA hW hF hB hR
  subst g2
  exact lv_if_ne hA.1 hA.2.1 g0 g1 (fun z => P0 z p e R s m args below meth c D cI cZ b A ad H locs cells slots ls' Q hA hW (ax_tl hF) hB hR) (fun z => P1 z p e R s m args below meth c D cI cZ b A ad H locs cells slots ls' Q hA hW (ax_tl hF) hB hR)
set_option maxHeartbeats 1000000 in
theorem ax_s_if_lt (l : Launch) (sc : ax_S) : ax_R_if_lt sc (ax_PW l sc) := by
  intro k pc q ls st h K off t x g0 g1 g2 P0 P1 p e R s m args below meth c D cI cZ b A ad H locs cells slots ls' Q hA hW hF hB hR
  subst g2
  exact lv_if_lt hA.1 hA.2.1 g0 g1 (fun z => P0 z p e R s m args below meth c D cI cZ b A ad H locs cells slots ls' Q hA hW (ax_tl hF) hB hR) (fun z => P1 z p e R s m args below meth c D cI cZ b A ad H locs cells slots ls' Q hA hW (ax_tl hF) hB hR)
set_option maxHeartbeats 1000000 in
theorem ax_s_if_ge (l : Launch) (sc : ax_S) : ax_R_if_ge sc (ax_PW l sc) := by
  intro k pc q ls st h K off t x g0 g1 g2 P0 P1 p e R s m args below meth c D cI cZ b A ad H locs cells slots ls' Q hA hW hF hB hR
  subst g2
  exact lv_if_ge hA.1 hA.2.1 g0 g1 (fun z => P0 z p e R s m args below meth c D cI cZ b A ad H locs cells slots ls' Q hA hW (ax_tl hF) hB hR) (fun z => P1 z p e R s m args below meth c D cI cZ b A ad H locs cells slots ls' Q hA hW (ax_tl hF) hB hR)
set_option maxHeartbeats 1000000 in
theorem ax_s_if_gt (l : Launch) (sc : ax_S) : ax_R_if_gt sc (ax_PW l sc) := by
  intro k pc q ls st h K off t x g0 g1 g2 P0 P1 p e R s m args below meth c D cI cZ b A ad H locs cells slots ls' Q hA hW hF hB hR
  subst g2
  exact lv_if_gt hA.1 hA.2.1 g0 g1 (fun z => P0 z p e R s m args below meth c D cI cZ b A ad H locs cells slots ls' Q hA hW (ax_tl hF) hB hR) (fun z => P1 z p e R s m args below meth c D cI cZ b A ad H locs cells slots ls' Q hA hW (ax_tl hF) hB hR)
set_option maxHeartbeats 1000000 in
theorem ax_s_if_le (l : Launch) (sc : ax_S) : ax_R_if_le sc (ax_PW l sc) := by
  intro k pc q ls st h K off t x g0 g1 g2 P0 P1 p e R s m args below meth c D cI cZ b A ad H locs cells slots ls' Q hA hW hF hB hR
  subst g2
  exact lv_if_le hA.1 hA.2.1 g0 g1 (fun z => P0 z p e R s m args below meth c D cI cZ b A ad H locs cells slots ls' Q hA hW (ax_tl hF) hB hR) (fun z => P1 z p e R s m args below meth c D cI cZ b A ad H locs cells slots ls' Q hA hW (ax_tl hF) hB hR)
set_option maxHeartbeats 1000000 in
theorem ax_s_icmp_eq (l : Launch) (sc : ax_S) : ax_R_icmp_eq sc (ax_PW l sc) := by
  intro k pc q ls st h K off t x y g0 g1 g2 P0 P1 p e R s m args below meth c D cI cZ b A ad H locs cells slots ls' Q hA hW hF hB hR
  subst g2
  exact lv_icmp_eq hA.1 hA.2.1 g0 g1 (fun z => P0 z p e R s m args below meth c D cI cZ b A ad H locs cells slots ls' Q hA hW (ax_tl (ax_tl hF)) hB hR) (fun z => P1 z p e R s m args below meth c D cI cZ b A ad H locs cells slots ls' Q hA hW (ax_tl (ax_tl hF)) hB hR)
set_option maxHeartbeats 1000000 in
theorem ax_s_icmp_ne (l : Launch) (sc : ax_S) : ax_R_icmp_ne sc (ax_PW l sc) := by
  intro k pc q ls st h K off t x y g0 g1 g2 P0 P1 p e R s m args below meth c D cI cZ b A ad H locs cells slots ls' Q hA hW hF hB hR
  subst g2
  exact lv_icmp_ne hA.1 hA.2.1 g0 g1 (fun z => P0 z p e R s m args below meth c D cI cZ b A ad H locs cells slots ls' Q hA hW (ax_tl (ax_tl hF)) hB hR) (fun z => P1 z p e R s m args below meth c D cI cZ b A ad H locs cells slots ls' Q hA hW (ax_tl (ax_tl hF)) hB hR)
set_option maxHeartbeats 1000000 in
theorem ax_s_icmp_lt (l : Launch) (sc : ax_S) : ax_R_icmp_lt sc (ax_PW l sc) := by
  intro k pc q ls st h K off t x y g0 g1 g2 P0 P1 p e R s m args below meth c D cI cZ b A ad H locs cells slots ls' Q hA hW hF hB hR
  subst g2
  exact lv_icmp_lt hA.1 hA.2.1 g0 g1 (fun z => P0 z p e R s m args below meth c D cI cZ b A ad H locs cells slots ls' Q hA hW (ax_tl (ax_tl hF)) hB hR) (fun z => P1 z p e R s m args below meth c D cI cZ b A ad H locs cells slots ls' Q hA hW (ax_tl (ax_tl hF)) hB hR)
set_option maxHeartbeats 1000000 in
theorem ax_s_icmp_ge (l : Launch) (sc : ax_S) : ax_R_icmp_ge sc (ax_PW l sc) := by
  intro k pc q ls st h K off t x y g0 g1 g2 P0 P1 p e R s m args below meth c D cI cZ b A ad H locs cells slots ls' Q hA hW hF hB hR
  subst g2
  exact lv_icmp_ge hA.1 hA.2.1 g0 g1 (fun z => P0 z p e R s m args below meth c D cI cZ b A ad H locs cells slots ls' Q hA hW (ax_tl (ax_tl hF)) hB hR) (fun z => P1 z p e R s m args below meth c D cI cZ b A ad H locs cells slots ls' Q hA hW (ax_tl (ax_tl hF)) hB hR)
set_option maxHeartbeats 1000000 in
theorem ax_s_icmp_gt (l : Launch) (sc : ax_S) : ax_R_icmp_gt sc (ax_PW l sc) := by
  intro k pc q ls st h K off t x y g0 g1 g2 P0 P1 p e R s m args below meth c D cI cZ b A ad H locs cells slots ls' Q hA hW hF hB hR
  subst g2
  exact lv_icmp_gt hA.1 hA.2.1 g0 g1 (fun z => P0 z p e R s m args below meth c D cI cZ b A ad H locs cells slots ls' Q hA hW (ax_tl (ax_tl hF)) hB hR) (fun z => P1 z p e R s m args below meth c D cI cZ b A ad H locs cells slots ls' Q hA hW (ax_tl (ax_tl hF)) hB hR)
set_option maxHeartbeats 1000000 in
theorem ax_s_icmp_le (l : Launch) (sc : ax_S) : ax_R_icmp_le sc (ax_PW l sc) := by
  intro k pc q ls st h K off t x y g0 g1 g2 P0 P1 p e R s m args below meth c D cI cZ b A ad H locs cells slots ls' Q hA hW hF hB hR
  subst g2
  exact lv_icmp_le hA.1 hA.2.1 g0 g1 (fun z => P0 z p e R s m args below meth c D cI cZ b A ad H locs cells slots ls' Q hA hW (ax_tl (ax_tl hF)) hB hR) (fun z => P1 z p e R s m args below meth c D cI cZ b A ad H locs cells slots ls' Q hA hW (ax_tl (ax_tl hF)) hB hR)
set_option maxHeartbeats 1000000 in
theorem ax_s_tableIn (l : Launch) (sc : ax_S) : ax_R_tableIn sc (ax_PW l sc) := by
  intro k pc ls st h K d lo hi offs len x off t g0 g1 g2 g3 g4 P0 p e R s m args below meth c D cI cZ b A ad H locs cells slots ls' Q hA hW hF hB hR
  exact lv_tableIn hA.1 hA.2.1 g0 g1 g2 g3 g4 (P0 p e R s m args below meth c D cI cZ b A ad H locs cells slots ls' Q hA hW (ax_tl hF) hB hR)
set_option maxHeartbeats 1000000 in
theorem ax_s_tableOut (l : Launch) (sc : ax_S) : ax_R_tableOut sc (ax_PW l sc) := by
  intro k pc ls st h K d lo hi offs len x t g0 g1 g2 P0 p e R s m args below meth c D cI cZ b A ad H locs cells slots ls' Q hA hW hF hB hR
  exact lv_tableOut hA.1 hA.2.1 g0 g1 g2 (P0 p e R s m args below meth c D cI cZ b A ad H locs cells slots ls' Q hA hW (ax_tl hF) hB hR)
set_option maxHeartbeats 1000000 in
theorem ax_s_get (l : Launch) (sc : ax_S) : ax_R_get sc (ax_PW l sc) := by
  intro k pc q ls st h K idx o ci j fs v g0 g1 g2 g3 g4 g5 P0 p e R s m args below meth c D cI cZ b A ad H locs cells slots ls' Q hA hW hF hB hR
  subst g1
  obtain ⟨C, T, N, f1, f2, f3, f4⟩ := g2
  have e0 : (ax_w b cI cZ ad h.1 h.2.1)[o]? = some (ad o, .inr (ci, fs.map (ax_v b ad))) := by rw [ax_w_get g3, g4]; rfl
  exact va_get (v := ax_v b ad v) hA.1 hA.2.1 hA.2.2.2.2.1 f4 hA.2.2.2.1 hA.2.2.2.2.2.1 hW.1 o e0 f1 j f2 (hA.2.2.2.2.1 _ f3) (fun _ z => z) (by rw [List.getElem?_map, g5]; rfl) g0 (P0 p e R s m args below meth c D cI cZ b A ad H locs cells slots ls' Q hA hW ⟨hF.1, hF.2.1, ax_oc (hW.2.2.2 o g3 _ g4 v (List.mem_of_getElem? g5)) (ax_ot hF.2.2.1), hF.2.2.2⟩ hB hR)
set_option maxHeartbeats 1000000 in
theorem ax_s_put (l : Launch) (sc : ax_S) : ax_R_put sc (ax_PW l sc) := by
  intro k pc q ls st h K idx o ci j fs v ty g0 g1 g2 g3 g4 g5 g6 g7 P0 p e R s m args below meth c D cI cZ b A ad H locs cells slots ls' Q hA hW hF hB hR
  subst g1
  obtain ⟨C, T, N, ty0, f1, f2, f3, f4, f5, f6, f7, f8, f9⟩ := g2
  have e0 : (ax_w b cI cZ ad h.1 h.2.1)[o]? = some (ad o, .inr (ci, fs.map (ax_v b ad))) := by rw [ax_w_get g3, g4]; rfl
  refine va_put (ty := ty) hA.1 hA.2.1 hA.2.2.2.2.1 f4 ty0 f5 f6 hA.2.2.2.1 hA.2.2.2.2.2.1 hW.1 hW.2.1 hW.2.2.1 o e0 f1 j f2 (hA.2.2.2.2.1 _ f3) (fun _ z => z) f8 (by rw [f5 j f2, f7]) (ax_narrow g6) (ax_fits g7) (by rw [List.length_map]; exact g5) g0 (fun H2 locs2 hP hD hS => ?_)
  have es : ax_e b cI cZ ad (.inr (ci, fs.set j v)) = .inr (ci, (fs.map (ax_v b ad)).set j (ax_v b ad v)) := by
    show Sum.inr (ci, (fs.set j v).map _) = _
    rw [List.map_set]
  rw [ax_w_set es] at hP hD
  exact P0 p e R s m args below meth c D cI cZ b A ad H2 locs2 cells slots ls' Q hA ⟨hP, hD, hS, ax_okC_up hW.2.2.2 (fun z e w hw => by
    cases e
    rcases List.mem_or_eq_of_mem_set hw with hw | hw
    · exact hW.2.2.2 o g3 _ g4 w hw
    · rw [hw]; exact ax_oh hF.2.2.1)⟩ (ax_tl (ax_tl hF)) hB hR
set_option maxHeartbeats 1000000 in
theorem ax_s_putF (l : Launch) (sc : ax_S) : ax_R_putF sc (ax_PW l sc) := by
  intro k pc q ls st h K idx o ci j fs v ty g0 g1 g2 g3 g4 g5 g6 g7 g8 P0 p e R s m args below meth c D cI cZ b A ad H locs cells slots ls' Q hA hW hF hB hR
  subst g1
  obtain ⟨C, T, N, ty0, f1, f2, f3, f4, f5, f6, f7, f8, f9⟩ := g2
  have e0 : (ax_w b cI cZ ad h.1 h.2.1)[o]? = some (ad o, .inr (ci, fs.map (ax_v b ad))) := by rw [ax_w_get g3, g4]; rfl
  refine va_putF (ty := ty) hA.1 hA.2.1 hA.2.2.2.2.1 f4 ty0 f5 f6 hA.2.2.2.1 hA.2.2.2.2.2.1 hW.1 hW.2.1 hW.2.2.1 o e0 f1 j f2 (hA.2.2.2.2.1 _ f3) (fun _ z => z) f8 (hA.2.2.2.2.2.2.2.2.1.trans g8) (f9 rfl) (by rw [f5 j f2, f7]) (ax_narrow g6) (ax_fits g7) (by rw [List.length_map]; exact g5) g0 (fun H2 locs2 hP hD hS => ?_)
  have es : ax_e b cI cZ ad (.inr (ci, fs.set j v)) = .inr (ci, (fs.map (ax_v b ad)).set j (ax_v b ad v)) := by
    show Sum.inr (ci, (fs.set j v).map _) = _
    rw [List.map_set]
  rw [ax_w_set es] at hP hD
  exact P0 p e R s m args below meth c D cI cZ b A ad H2 locs2 cells slots ls' Q hA ⟨hP, hD, hS, ax_okC_up hW.2.2.2 (fun z e w hw => by
    cases e
    rcases List.mem_or_eq_of_mem_set hw with hw | hw
    · exact hW.2.2.2 o g3 _ g4 w hw
    · rw [hw]; exact ax_oh hF.2.2.1)⟩ (ax_tl (ax_tl hF)) hB hR
set_option maxHeartbeats 1000000 in
theorem ax_s_iald (l : Launch) (sc : ax_S) : ax_R_iald sc (ax_PW l sc) := by
  intro k pc q ls st h K o n f i g0 g1 g2 g3 g4 P0 p e R s m args below meth c D cI cZ b A ad H locs cells slots ls' Q hA hW hF hB hR
  subst g1
  have e0 : (ax_w b cI cZ ad h.1 h.2.1)[o]? = some (ad o, .inl (cI, n, .inl f)) := by rw [ax_w_get g2, g3]; rfl
  exact va_iald hA.1 hA.2.1 hA.2.2.2.2.2.1 hW.1 o 0 e0 rfl g4 g0 (P0 p e R s m args below meth c D cI cZ b A ad H locs cells slots ls' Q hA hW ⟨hF.1, hF.2.1, ax_oi (ax_ot (ax_ot hF.2.2.1)), hF.2.2.2⟩ hB hR)
set_option maxHeartbeats 1000000 in
theorem ax_s_zald (l : Launch) (sc : ax_S) : ax_R_zald sc (ax_PW l sc) := by
  intro k pc q ls st h K o n f i g0 g1 g2 g3 g4 P0 p e R s m args below meth c D cI cZ b A ad H locs cells slots ls' Q hA hW hF hB hR
  subst g1
  have e0 : (ax_w b cI cZ ad h.1 h.2.1)[o]? = some (ad o, .inl (cZ, n, .inl f)) := by rw [ax_w_get g2, g3]; rfl
  exact va_zald hA.1 hA.2.1 hA.2.2.2.2.2.1 hW.1 o 1 e0 rfl g4 g0 (P0 p e R s m args below meth c D cI cZ b A ad H locs cells slots ls' Q hA hW ⟨hF.1, hF.2.1, ax_oi (ax_ot (ax_ot hF.2.2.1)), hF.2.2.2⟩ hB hR)
set_option maxHeartbeats 1000000 in
theorem ax_s_iast (l : Launch) (sc : ax_S) : ax_R_iast sc (ax_PW l sc) := by
  intro k pc q ls st h K o n f i x g0 g1 g2 g3 g4 P0 p e R s m args below meth c D cI cZ b A ad H locs cells slots ls' Q hA hW hF hB hR
  subst g1
  have e0 : (ax_w b cI cZ ad h.1 h.2.1)[o]? = some (ad o, .inl (cI, n, .inl f)) := by rw [ax_w_get g2, g3]; rfl
  refine va_iast hA.1 hA.2.1 hA.2.2.2.2.2.1 hW.1 hW.2.1 hW.2.2.1 o 0 e0 rfl g4 g0 (fun H2 locs2 hP hD hS => ?_)
  have es : ax_e b cI cZ ad (.inl (false, n, upd f i.toNatClampNeg x)) = .inl (cI, n, .inl (upd f i.toNatClampNeg x)) := rfl
  rw [ax_w_set es] at hP hD
  exact P0 p e R s m args below meth c D cI cZ b A ad H2 locs2 cells slots ls' Q hA ⟨hP, hD, hS, ax_okC_up hW.2.2.2 ax_okC_arr⟩ (ax_tl (ax_tl (ax_tl hF))) hB hR
set_option maxHeartbeats 1000000 in
theorem ax_s_zast (l : Launch) (sc : ax_S) : ax_R_zast sc (ax_PW l sc) := by
  intro k pc q ls st h K o n f i x g0 g1 g2 g3 g4 P0 p e R s m args below meth c D cI cZ b A ad H locs cells slots ls' Q hA hW hF hB hR
  subst g1
  have e0 : (ax_w b cI cZ ad h.1 h.2.1)[o]? = some (ad o, .inl (cZ, n, .inl f)) := by rw [ax_w_get g2, g3]; rfl
  refine va_zast hA.1 hA.2.1 hA.2.2.2.2.2.1 hW.1 hW.2.1 hW.2.2.1 o 1 e0 rfl g4 g0 (fun H2 locs2 hP hD hS => ?_)
  have es : ax_e b cI cZ ad (.inl (true, n, upd f i.toNatClampNeg (vp_nar .boolean x))) = .inl (cZ, n, .inl (upd f i.toNatClampNeg (vp_nar .boolean x))) := rfl
  rw [ax_w_set es] at hP hD
  exact P0 p e R s m args below meth c D cI cZ b A ad H2 locs2 cells slots ls' Q hA ⟨hP, hD, hS, ax_okC_up hW.2.2.2 ax_okC_arr⟩ (ax_tl (ax_tl (ax_tl hF))) hB hR
set_option maxHeartbeats 1000000 in
theorem ax_s_alen (l : Launch) (sc : ax_S) : ax_R_alen sc (ax_PW l sc) := by
  intro k pc q ls st h K o n z f g0 g1 g2 g3 P0 p e R s m args below meth c D cI cZ b A ad H locs cells slots ls' Q hA hW hF hB hR
  subst g1
  cases z with
  | false =>
    have e0 : (ax_w b cI cZ ad h.1 h.2.1)[o]? = some (ad o, .inl (cI, n, .inl f)) := by rw [ax_w_get g2, g3]; rfl
    exact va_alen hA.1 hA.2.1 hA.2.2.2.2.2.1 hW.1 o 0 e0 rfl rfl g0 (P0 p e R s m args below meth c D cI cZ b A ad H locs cells slots ls' Q hA hW ⟨hF.1, hF.2.1, ax_oi (ax_ot hF.2.2.1), hF.2.2.2⟩ hB hR)
  | true =>
    have e0 : (ax_w b cI cZ ad h.1 h.2.1)[o]? = some (ad o, .inl (cZ, n, .inl f)) := by rw [ax_w_get g2, g3]; rfl
    exact va_alen hA.1 hA.2.1 hA.2.2.2.2.2.1 hW.1 o 1 e0 rfl rfl g0 (P0 p e R s m args below meth c D cI cZ b A ad H locs cells slots ls' Q hA hW ⟨hF.1, hF.2.1, ax_oi (ax_ot hF.2.2.1), hF.2.2.2⟩ hB hR)
set_option maxHeartbeats 1000000 in
theorem ax_s_newI (l : Launch) (sc : ax_S) : ax_R_newI sc (ax_PW l sc) := by
  intro k pc q ls st h K i n g0 g1 g2 g3 g4 g5 g6 g7 P0 p e R s m args below meth c D cI cZ b A ad H locs cells slots ls' Q hA hW hF hB hR
  subst g1
  have hB1 := hB.1
  have hB2 := hB.2
  refine va_newa (atype := .int) (ty := .int) (a0 := (n, .inl fun _ => 0)) hA.1 hA.2.1 (hA.2.2.2.2.1 _ g2) rfl hA.2.2.2.2.2.1 hW.1 hW.2.1 hW.2.2.1 hA.2.2.2.2.2.2.1 (fun _ => rfl) g3 g4 (show n * 4 ≤ 536870912 by omega) (by omega) (by omega) g0 (fun qa cA H2 hK2 hP hD hS => ?_)
  have hcA : cA = cI := Option.some.inj ((hK2.2 2 _ rfl).2.symm.trans (hA.2.2.2.2.2.1.2 0 _ rfl).2)
  subst hcA
  exact ax_made P0 hA hW (ax_tl hF) hB hR rfl hP hD hS ax_okC_arr g6 g7
set_option maxHeartbeats 1000000 in
theorem ax_s_newZ (l : Launch) (sc : ax_S) : ax_R_newZ sc (ax_PW l sc) := by
  intro k pc q ls st h K i n g0 g1 g2 g3 g4 g5 g6 g7 P0 p e R s m args below meth c D cI cZ b A ad H locs cells slots ls' Q hA hW hF hB hR
  subst g1
  have hB1 := hB.1
  have hB2 := hB.2
  refine va_newa (atype := .boolean) (ty := .boolean) (a0 := (n, .inl fun _ => 0)) hA.1 hA.2.1 (hA.2.2.2.2.1 _ g2) rfl hA.2.2.2.2.2.1 hW.1 hW.2.1 hW.2.2.1 hA.2.2.2.2.2.2.1 (fun _ => rfl) g3 g4 (show n * 1 ≤ 536870912 by omega) (by omega) (by omega) g0 (fun qa cA H2 hK2 hP hD hS => ?_)
  have hcA : cA = cZ := Option.some.inj ((hK2.2 2 _ rfl).2.symm.trans (hA.2.2.2.2.2.1.2 1 _ rfl).2)
  subst hcA
  exact ax_made P0 hA hW (ax_tl hF) hB hR rfl hP hD hS ax_okC_arr g6 g7
set_option maxHeartbeats 1000000 in
theorem ax_s_new (l : Launch) (sc : ax_S) : ax_R_new sc (ax_PW l sc) := by
  intro k pc q ls st h K idx ci N fs g0 g1 g2 g3 g4 P0 p e R s m args below meth c D cI cZ b A ad H locs cells slots ls' Q hA hW hF hB hR
  subst g1
  have hB1 := hB.1
  have hB2 := hB.2
  obtain ⟨C, T, ty, f1, f2, f3, f4, f5, f6, f7, f8⟩ := g2
  refine va_new (fs := fs) hA.1 hA.2.1 hA.2.2.2.2.1 f2 ty f3 hA.2.2.2.1 (hA.2.2.2.2.1 _ f4) (hA.2.2.2.2.1 _ f5) (hA.2.2.2.2.1 _ f6) hA.2.2.2.2.2.1 hW.1 hW.2.1 hW.2.2.1 hA.2.2.2.2.2.2.1 f1 f7 (by omega) (by omega) g0 (fun qa H2 hP hD hS => ?_)
  refine ax_made P0 hA hW hF hB hR ?_ hP hD hS (fun z e v hm => ?_) g3 g4
  · show Sum.inr (ci, fs.map (ax_v b (va_up ad h.2.1 qa))) = Sum.inr (ci, fs)
    have hmap : fs.map (ax_v b (va_up ad h.2.1 qa)) = fs.map id := List.map_congr_left (fun v hm => by rcases f8 v hm with rfl | rfl <;> rfl)
    rw [hmap, List.map_id]
  · cases e
    rcases f8 v hm with rfl | rfl <;> (intro i e; cases e)
set_option maxHeartbeats 1000000 in
theorem ax_s_sld (l : Launch) (sc : ax_S) : ax_R_sld sc (ax_PW l sc) := by
  intro k pc q ls st h K o i g0 g1 g2 P0 p e R s m args below meth c D cI cZ b A ad H locs cells slots ls' Q hA hW hF hB hR
  subst g1
  have hX := hA.2.2.2.2.2.2.2.2.2
  exact va_sld hA.1 hA.2.1 hX.1 hX.2.1 hX.2.2 hW.2.2.1 g2 g0 (P0 p e R s m args below meth c D cI cZ b A ad H locs cells slots ls' Q hA hW ⟨hF.1, hF.2.1, ax_oi (ax_ot (ax_ot hF.2.2.1)), hF.2.2.2⟩ hB hR)
set_option maxHeartbeats 1000000 in
theorem ax_s_slen (l : Launch) (sc : ax_S) : ax_R_slen sc (ax_PW l sc) := by
  intro k pc q ls st h K o g0 g1 P0 p e R s m args below meth c D cI cZ b A ad H locs cells slots ls' Q hA hW hF hB hR
  subst g1
  have hX := hA.2.2.2.2.2.2.2.2.2
  exact va_slen hA.1 hA.2.1 hX.1 hX.2.1 hX.2.2 hW.2.2.1 g0 (P0 p e R s m args below meth c D cI cZ b A ad H locs cells slots ls' Q hA hW ⟨hF.1, hF.2.1, ax_oi (ax_ot hF.2.2.1), hF.2.2.2⟩ hB hR)
set_option maxHeartbeats 1000000 in
theorem ax_s_iret (l : Launch) (sc : ax_S) : ax_R_iret sc (ax_PW l sc) := by
  intro k pc ls h K x ty g0 g1 g2 g3  p e R s m args below meth c D cI cZ b A ad H locs cells slots ls' Q hA hW hF hB hR
  have hB1 := hB.1
  have hB2 := hB.2
  exact hR (some (.int x)) h ad H locs cells slots pc ls' g3 (fun _ _ => rfl) (Nat.le_refl _) ⟨g0, ty, g1, g2⟩ hW (by omega) (by omega)
set_option maxHeartbeats 1000000 in
theorem ax_s_vret (l : Launch) (sc : ax_S) : ax_R_vret sc (ax_PW l sc) := by
  intro k pc ls h K g0 g1 g2  p e R s m args below meth c D cI cZ b A ad H locs cells slots ls' Q hA hW hF hB hR
  have hB1 := hB.1
  have hB2 := hB.2
  exact hR none h ad H locs cells slots pc ls' g2 (fun _ _ => rfl) (Nat.le_refl _) ⟨g0, g1⟩ hW (by omega) (by omega)
set_option maxHeartbeats 1000000 in
theorem ax_s_mmax (l : Launch) (sc : ax_S) : ax_R_mmax sc (ax_PW l sc) := by
  intro k pc q ls st h K idx x y g0 g1 g2 g3 g4 g5 g6 g7 P0 p e R s m args below meth c D cI cZ b A ad H locs cells slots ls' Q hA hW hF hB hR
  subst g1
  exact va_mmax hA.1 hA.2.1 (hA.2.2.1.trans (hF.2.2.2.symm.trans hF.1.1.symm)) hA.2.2.2.1 (hA.2.2.2.2.1 _ g2) (hA.2.2.2.2.1 _ g3) (hA.2.2.2.2.1 _ g4) (hA.2.2.2.2.1 _ g5) (by have := hA.2.2.2.2.2.2.2.1; omega) (by have := hA.2.2.2.2.2.2.2.1; rw [ax_sum]; omega) (by have := hB.1; omega) (by have := hB.2; omega) g0 (P0 p e R s m args below meth c D cI cZ b A ad H locs cells slots ls' Q hA hW ⟨hF.1, hF.2.1, ax_oi (ax_ot (ax_ot hF.2.2.1)), hF.2.2.2⟩ hB hR)
set_option maxHeartbeats 1000000 in
theorem ax_s_mmin (l : Launch) (sc : ax_S) : ax_R_mmin sc (ax_PW l sc) := by
  intro k pc q ls st h K idx x y g0 g1 g2 g3 g4 g5 g6 g7 P0 p e R s m args below meth c D cI cZ b A ad H locs cells slots ls' Q hA hW hF hB hR
  subst g1
  exact va_mmin hA.1 hA.2.1 (hA.2.2.1.trans (hF.2.2.2.symm.trans hF.1.1.symm)) hA.2.2.2.1 (hA.2.2.2.2.1 _ g2) (hA.2.2.2.2.1 _ g3) (hA.2.2.2.2.1 _ g4) (hA.2.2.2.2.1 _ g5) (by have := hA.2.2.2.2.2.2.2.1; omega) (by have := hA.2.2.2.2.2.2.2.1; rw [ax_sum]; omega) (by have := hB.1; omega) (by have := hB.2; omega) g0 (P0 p e R s m args below meth c D cI cZ b A ad H locs cells slots ls' Q hA hW ⟨hF.1, hF.2.1, ax_oi (ax_ot (ax_ot hF.2.2.1)), hF.2.2.2⟩ hB hR)
set_option maxHeartbeats 1000000 in
theorem ax_s_mabs (l : Launch) (sc : ax_S) : ax_R_mabs sc (ax_PW l sc) := by
  intro k pc q ls st h K idx x g0 g1 g2 g3 g4 g5 g6 g7 P0 p e R s m args below meth c D cI cZ b A ad H locs cells slots ls' Q hA hW hF hB hR
  subst g1
  exact va_mabs hA.1 hA.2.1 (hA.2.2.1.trans (hF.2.2.2.symm.trans hF.1.1.symm)) hA.2.2.2.1 (hA.2.2.2.2.1 _ g2) (hA.2.2.2.2.1 _ g3) (hA.2.2.2.2.1 _ g4) (hA.2.2.2.2.1 _ g5) (by have := hA.2.2.2.2.2.2.2.1; omega) (by have := hA.2.2.2.2.2.2.2.1; rw [ax_sum]; omega) (by have := hB.1; omega) (by have := hB.2; omega) g0 (P0 p e R s m args below meth c D cI cZ b A ad H locs cells slots ls' Q hA hW ⟨hF.1, hF.2.1, ax_oi (ax_ot hF.2.2.1), hF.2.2.2⟩ hB hR)
set_option maxHeartbeats 1000000 in
theorem ax_s_acopy (l : Launch) (sc : ax_S) : ax_R_acopy sc (ax_PW l sc) := by
  intro k pc q ls st h K idx o0 o1 n0 n1 f g sp dp n g0 g1 g2 g3 g4 g5 g6 g7 g8 g9 g10 g11 g12 g13 g14 g15 g16 P0 p e R s m args below meth c D cI cZ b A ad H locs cells slots ls' Q hA hW hF hB hR
  subst g1
  have e0 : (ax_w b cI cZ ad h.1 h.2.1)[o0]? = some (ad o0, .inl (cI, n0, .inl f)) := by rw [ax_w_get g8, g10]; rfl
  have e1 : (ax_w b cI cZ ad h.1 h.2.1)[o1]? = some (ad o1, .inl (cI, n1, .inl g)) := by rw [ax_w_get g9, g11]; rfl
  refine va_copyi hA.1 hA.2.1 (hA.2.2.1.trans (hF.2.2.2.symm.trans hF.1.1.symm)) hA.2.2.2.1 (hA.2.2.2.2.1 _ g2) (hA.2.2.2.2.1 _ g3) (hA.2.2.2.2.1 _ g4) (hA.2.2.2.2.1 _ g5) hA.2.2.2.2.2.1 hW.1 hW.2.1 hW.2.2.1 o0 o1 0 0 e0 e1 rfl rfl rfl g12 g13 g14 g15 g16 (fun _ _ => rfl) (by have := hA.2.2.2.2.2.2.2.1; omega) (by have := hA.2.2.2.2.2.2.2.1; rw [ax_sum]; omega) g0 (fun H2 locs2 hP hD hS => ?_)
  have es : ax_e b cI cZ ad (.inl (false, n1, va_cpy f g sp.toNatClampNeg dp.toNatClampNeg n.toNatClampNeg)) = .inl (cI, n1, .inl (va_cpy f g sp.toNatClampNeg dp.toNatClampNeg n.toNatClampNeg)) := rfl
  rw [ax_w_set es] at hP hD
  exact P0 p e R s m args below meth c D cI cZ b A ad H2 locs2 cells slots ls' Q hA ⟨hP, hD, hS, ax_okC_up hW.2.2.2 ax_okC_arr⟩ (ax_tl (ax_tl (ax_tl (ax_tl (ax_tl hF))))) hB hR
set_option maxHeartbeats 1000000 in
theorem ax_s_objInit (l : Launch) (sc : ax_S) : ax_R_objInit sc (ax_PW l sc) := by
  intro k pc q ls st h K idx o g0 g1 g2 g3 g4 g5 g6 P0 p e R s m args below meth c D cI cZ b A ad H locs cells slots ls' Q hA hW hF hB hR
  subst g1
  refine W.objInit hA.1 hA.2.1 hA.2.2.2.1 (hA.2.2.2.2.1 _ g2) (hA.2.2.2.2.1 _ g3) (hA.2.2.2.2.1 _ g4) rfl (hF.1.1.trans (hF.2.2.2.trans hA.2.2.1.symm)) rfl g0 (by have := hA.2.2.2.2.2.2.2.1; omega) (by
    have := hA.2.2.2.2.2.2.2.1
    show 2 * 0 + ((st.map (ax_v b ad)).map fun v => v.category).sum + 12 ≤ R.locals
    rw [ax_sum]
    omega) ?_
  exact P0 p e R s m args below meth c D cI cZ b A ad H locs cells slots ls' Q hA hW (ax_tl hF) hB hR
set_option maxHeartbeats 1000000 in
theorem ax_s_callV (l : Launch) (sc : ax_S) : ax_R_callV sc (ax_PW l sc) := by
  intro k pc q ls rest h K idx z na vs mc ms o ci fs g0 g1 g2 g3 g4 g5 g6 g7 g8 g9 g10 g11 g12 P0 p e R s m args below meth c D cI cZ b A ad H locs cells slots ls' Q hA hW hF hB hR
  have hX := hA.2.2.2.2.2.2.2.2.2
  have hM := ax_met P0 g3 g6 g7 (D := D) (cI := cI) (cZ := cZ) (b := b) (ad := ad) (sz := H.size) (ax_oc (hF.2.2.1 _ (List.mem_append_right _ List.mem_cons_self)) (fun v hv => hF.2.2.1 v (List.mem_append_left _ (List.mem_reverse.mpr hv)))) hW.2.2.2 (Nat.lt_of_lt_of_le hX.2.1 hW.2.2.1.1) hW.2.1 hX.2.2
  have e0 : (ax_w b cI cZ ad h.1 h.2.1)[o]? = some (ad o, .inr (ci, fs.map (ax_v b ad))) := by rw [ax_w_get g11, g12]; rfl
  obtain ⟨cq, hcq, hcn⟩ : ∃ cq, classes[ci]? = some cq ∧ cq.1 = (g_m z).1.cls := by
    have h8 := g2.2.2.2
    cases hcc : classes[ci]? with
    | none => rw [hcc] at h8; cases h8
    | some cq => rw [hcc] at h8; exact ⟨cq, rfl, Option.some.inj h8⟩
  have hrc := va_recv hA.2.2.2.2.2.1 hW.1 hcq e0
  rw [hcn] at hrc
  refine ax_back (aa := (Value.ref (ad o) :: vs.map (ax_v b ad)).toArray) (rest := rest) (st := rest) (z := z) (vs := vs) (mc := mc) (ms := ms) g1 g9 g10 hA hW ⟨hF.1, hF.2.1, (fun v hv => hF.2.2.1 v (List.mem_append_right _ (List.mem_cons_of_mem _ hv))), hF.2.2.2⟩ hB hR ?_
  exact va_runV (bytes := (g_m z).2.1) (maxL := (g_m z).2.2.1) (ret := (g_m z).2.2.2) (n := na) (index := idx) (own := (g_m k).1.cls) (C := (g_m z).1.cls) (As := vs.map (ax_v b ad)) (rest := rest.map (ax_v b ad)) ⟨hA.1, hA.2.1, hA.2.2.1.trans (hF.2.2.2.symm.trans hF.1.1.symm), hA.2.2.2.1, hA.2.2.2.2.1⟩ hM ⟨⟨rfl, rfl, by have := hA.2.2.2.2.2.2.2.1; have := g4.1; show g_fr z + 1 ≤ R.frames; omega, by have := hA.2.2.2.2.2.2.2.1; have := g4.2; show 8 + ((g_m z).2.2.1 + 11) + g_lo z ≤ R.locals; omega, ax_good z na g3 hA.2.2.2.2.1, List.mem_cons_self, hA.2.2.2.2.1 _ g3.1, hA.2.2.2.2.1 _ g3.2.1, ⟨g3.2.2.1.1, g3.2.2.1.2.1⟩, fun sig hsig => (by have h9 := g3.2.2.1.2.2; rw [hsig] at h9; exact (Option.some.inj h9).symm), hA.2.2.2.2.1 _ g2.1⟩, hA.2.2.2.2.1 _ g2.2.1, hA.2.2.2.2.1 _ g2.2.2.1⟩ ⟨ax_blind, hrc, ax_pre (.ref o :: vs) hA hW⟩ rfl (by rw [List.length_map]; exact g5) rfl (by
    show (vs.reverse ++ .ref o :: rest).map (ax_v b ad) = (vs.map (ax_v b ad)).reverse ++ .ref (ad o) :: rest.map (ax_v b ad)
    rw [List.map_append, List.map_reverse]
    rfl) (by show 2 * 0 + ((rest.map (ax_v b ad)).map fun v => v.category).sum ≤ 8; rw [ax_sum]; omega) g0 ⟨by have := hB.1; omega, by have := hB.2; omega⟩
set_option maxHeartbeats 1000000 in
theorem ax_s_callS (l : Launch) (sc : ax_S) : ax_R_callS sc (ax_PW l sc) := by
  intro k pc q ls rest h K idx z na vs mc ms g0 g1 g2 g3 g4 g5 g6 g7 g8 g9 g10 P0 p e R s m args below meth c D cI cZ b A ad H locs cells slots ls' Q hA hW hF hB hR
  have hX := hA.2.2.2.2.2.2.2.2.2
  have hM := ax_met P0 g3 g6 g7 (D := D) (cI := cI) (cZ := cZ) (b := b) (ad := ad) (sz := H.size) (fun v hv => hF.2.2.1 v (List.mem_append_left _ (List.mem_reverse.mpr hv))) hW.2.2.2 (Nat.lt_of_lt_of_le hX.2.1 hW.2.2.1.1) hW.2.1 hX.2.2
  refine ax_back (aa := (vs.map (ax_v b ad)).toArray) (rest := rest) (st := rest) (z := z) (vs := vs) (mc := mc) (ms := ms) g1 g9 g10 hA hW ⟨hF.1, hF.2.1, (fun v hv => hF.2.2.1 v (List.mem_append_right _ hv)), hF.2.2.2⟩ hB hR ?_
  exact va_runS (bytes := (g_m z).2.1) (maxL := (g_m z).2.2.1) (ret := (g_m z).2.2.2) (n := na) (index := idx) (own := (g_m k).1.cls) (As := vs.map (ax_v b ad)) (rest := rest.map (ax_v b ad)) ⟨hA.1, hA.2.1, hA.2.2.1.trans (hF.2.2.2.symm.trans hF.1.1.symm), hA.2.2.2.1, hA.2.2.2.2.1⟩ hM ⟨⟨rfl, rfl, by have := hA.2.2.2.2.2.2.2.1; have := g4.1; show g_fr z + 1 ≤ R.frames; omega, by have := hA.2.2.2.2.2.2.2.1; have := g4.2; show 8 + ((g_m z).2.2.1 + 11) + g_lo z ≤ R.locals; omega, ax_good z na g3 hA.2.2.2.2.1, List.mem_cons_self, hA.2.2.2.2.1 _ g3.1, hA.2.2.2.2.1 _ g3.2.1, ⟨g3.2.2.1.1, g3.2.2.1.2.1⟩, fun sig hsig => (by have h9 := g3.2.2.1.2.2; rw [hsig] at h9; exact (Option.some.inj h9).symm), hA.2.2.2.2.1 _ g2.1⟩, hA.2.2.2.2.1 _ g2.2⟩ ⟨ax_blind, ax_pre vs hA hW⟩ rfl (by rw [List.length_map]; exact g5) rfl (by
    show (vs.reverse ++ rest).map (ax_v b ad) = (vs.map (ax_v b ad)).reverse ++ rest.map (ax_v b ad)
    rw [List.map_append, List.map_reverse]) (by show 2 * 0 + ((rest.map (ax_v b ad)).map fun v => v.category).sum ≤ 8; rw [ax_sum]; omega) g0 ⟨by have := hB.1; omega, by have := hB.2; omega⟩
set_option maxHeartbeats 1000000 in
theorem ax_s_callI (l : Launch) (sc : ax_S) : ax_R_callI sc (ax_PW l sc) := by
  intro k pc q ls rest h K idx z na vs mc ms o g0 g1 g2 g3 g4 g5 g6 g7 g8 g9 g10 g11 g12 P0 p e R s m args below meth c D cI cZ b A ad H locs cells slots ls' Q hA hW hF hB hR
  have hX := hA.2.2.2.2.2.2.2.2.2
  have hM := ax_met P0 g3 g6 g7 (D := D) (cI := cI) (cZ := cZ) (b := b) (ad := ad) (sz := H.size) (ax_oc (hF.2.2.1 _ (List.mem_append_right _ List.mem_cons_self)) (fun v hv => hF.2.2.1 v (List.mem_append_left _ (List.mem_reverse.mpr hv)))) hW.2.2.2 (Nat.lt_of_lt_of_le hX.2.1 hW.2.2.1.1) hW.2.1 hX.2.2
  have hret : (g_m z).2.2.2 = none := g12
  have hcw : Cond.code (g_m z).1 (g_m z).2.1 (g_m z).2.2.1 none ∈ ax_ws z := by rw [← hret]; exact List.mem_cons_self
  have hcg : Cond.code (g_m z).1 (g_m z).2.1 (g_m z).2.2.1 none ∈ gw := by rw [← hret]; exact g3.1
  refine ax_back (aa := (Value.ref (ad o) :: vs.map (ax_v b ad)).toArray) (rest := rest) (st := rest) (z := z) (vs := vs) (mc := mc) (ms := ms) g1 g9 g10 hA hW ⟨hF.1, hF.2.1, (fun v hv => hF.2.2.1 v (List.mem_append_right _ (List.mem_cons_of_mem _ hv))), hF.2.2.2⟩ hB hR ?_
  exact va_runI (bytes := (g_m z).2.1) (maxL := (g_m z).2.2.1) (n := na) (index := idx) (own := (g_m k).1.cls) (As := vs.map (ax_v b ad)) (rest := rest.map (ax_v b ad)) ⟨hA.1, hA.2.1, hA.2.2.1.trans (hF.2.2.2.symm.trans hF.1.1.symm), hA.2.2.2.1, hA.2.2.2.2.1⟩ hM ⟨⟨rfl, rfl, by have := hA.2.2.2.2.2.2.2.1; have := g4.1; show g_fr z + 1 ≤ R.frames; omega, by have := hA.2.2.2.2.2.2.2.1; have := g4.2; show 8 + ((g_m z).2.2.1 + 11) + g_lo z ≤ R.locals; omega, ax_good z na g3 hA.2.2.2.2.1, hcw, hA.2.2.2.2.1 _ hcg, hA.2.2.2.2.1 _ g3.2.1, ⟨g3.2.2.1.1, g3.2.2.1.2.1⟩, fun sig hsig => (by have h9 := g3.2.2.1.2.2; rw [hsig] at h9; exact (Option.some.inj h9).symm), hA.2.2.2.2.1 _ g2.1⟩, g2.2.2, hA.2.2.2.2.1 _ g2.2.1⟩ ⟨ax_blind, ax_pre (.ref o :: vs) hA hW⟩ rfl (by rw [List.length_map]; exact g5) rfl (by
    show (vs.reverse ++ .ref o :: rest).map (ax_v b ad) = (vs.map (ax_v b ad)).reverse ++ .ref (ad o) :: rest.map (ax_v b ad)
    rw [List.map_append, List.map_reverse]
    rfl) (by show 2 * 0 + ((rest.map (ax_v b ad)).map fun v => v.category).sum ≤ 8; rw [ax_sum]; omega) g0 ⟨by have := hB.1; omega, by have := hB.2; omega⟩
set_option maxHeartbeats 1000000 in
theorem ax_s_lconst (l : Launch) (sc : ax_S) : ax_R_lconst sc (ax_PW l sc) := by
  intro k pc q ls st h K n v g0 g1 g2 P0 p e R s m args below meth c D cI cZ b A ad H locs cells slots ls' Q hA hW hF hB hR
  subst g1
  exact lv_lconst hA.1 hA.2.1 g0 g2 (P0 p e R s m args below meth c D cI cZ b A ad H locs cells slots ls' Q hA hW ⟨hF.1, hF.2.1, ax_oc (fun _ e => by cases e) hF.2.2.1, hF.2.2.2⟩ hB hR)
set_option maxHeartbeats 1000000 in
theorem ax_s_ldc2 (l : Launch) (sc : ax_S) : ax_R_ldc2 sc (ax_PW l sc) := by
  intro k pc q ls st h K idx v g0 g1 g2 P0 p e R s m args below meth c D cI cZ b A ad H locs cells slots ls' Q hA hW hF hB hR
  subst g1
  exact lv_ldc2 hA.1 hA.2.1 hA.2.2.2.1 (hA.2.2.2.2.1 _ g2) g0 (P0 p e R s m args below meth c D cI cZ b A ad H locs cells slots ls' Q hA hW ⟨hF.1, hF.2.1, ax_oc (fun _ e => by cases e) hF.2.2.1, hF.2.2.2⟩ hB hR)
set_option maxHeartbeats 1000000 in
theorem ax_s_i2l (l : Launch) (sc : ax_S) : ax_R_i2l sc (ax_PW l sc) := by
  intro k pc q ls st h K x v g0 g1 g2 P0 p e R s m args below meth c D cI cZ b A ad H locs cells slots ls' Q hA hW hF hB hR
  subst g1
  exact lv_i2l hA.1 hA.2.1 g0 g2 (P0 p e R s m args below meth c D cI cZ b A ad H locs cells slots ls' Q hA hW ⟨hF.1, hF.2.1, ax_oc (fun _ e => by cases e) (ax_ot hF.2.2.1), hF.2.2.2⟩ hB hR)
set_option maxHeartbeats 1000000 in
theorem ax_s_inL (l : Launch) (sc : ax_S) : ax_R_inL sc (ax_PW l sc) := by
  intro k pc q ls st h K idx a lo hi g0 g1 g2 g3 g4 g5 P0 p e R s m args below meth c D cI cZ b A ad H locs cells slots ls' Q hA hW hF hB hR
  have hX := hA.2.2.2.2.2.2.2.2.2
  have hM := ax_met_in (l := l) (sc := sc) (a := a) (lo := lo) (hi := hi) (σ := h.1) (n := h.2.1) (K := fun v h2 => ax_PW l sc k q ls (ax_ps v st) (h2.1, h2.2.1, h.2.2.1 - 0, h.2.2.2 - 0) K) P0 g3 (D := D) (cI := cI) (cZ := cZ) (b := b) (ad := ad) (sz := H.size) hW.2.2.2 (Nat.lt_of_lt_of_le hX.2.1 hW.2.2.1.1) hW.2.1 hX.2.2
  refine ax_back (aa := ([.long a, .long lo, .long hi] : List Value).toArray) (rest := st) (st := st) (z := 66) (vs := []) (mc := 0) (ms := 0) g1 (Nat.zero_le _) (Nat.zero_le _) hA hW ⟨hF.1, hF.2.1, ax_ot (ax_ot (ax_ot hF.2.2.1)), hF.2.2.2⟩ hB hR ?_
  exact va_runS (bytes := (g_m 66).2.1) (maxL := (g_m 66).2.2.1) (ret := (g_m 66).2.2.2) (n := 3) (index := idx) (own := (g_m k).1.cls) (As := [.long a, .long lo, .long hi]) (rest := st.map (ax_v b ad)) ⟨hA.1, hA.2.1, hA.2.2.1.trans (hF.2.2.2.symm.trans hF.1.1.symm), hA.2.2.2.1, hA.2.2.2.2.1⟩ hM ⟨⟨rfl, rfl, by have := hA.2.2.2.2.2.2.2.1; have := g4.1; show g_fr 66 + 1 ≤ R.frames; omega, by have := hA.2.2.2.2.2.2.2.1; have := g4.2; show 8 + ((g_m 66).2.2.1 + 11) + g_lo 66 ≤ R.locals; omega, ax_good 66 3 g3 hA.2.2.2.2.1, List.mem_cons_self, hA.2.2.2.2.1 _ g3.1, hA.2.2.2.2.1 _ g3.2.1, ⟨g3.2.2.1.1, g3.2.2.1.2.1⟩, fun sig hsig => (by have h9 := g3.2.2.1.2.2; rw [hsig] at h9; exact (Option.some.inj h9).symm), hA.2.2.2.2.1 _ g2.1⟩, hA.2.2.2.2.1 _ g2.2⟩ ⟨ax_blind, ax_pre [.long a, .long lo, .long hi] hA hW⟩ rfl rfl rfl rfl (by show 2 * 0 + ((st.map (ax_v b ad)).map fun v => v.category).sum ≤ 8; rw [ax_sum]; omega) g0 ⟨by have := hB.1; omega, by have := hB.2; omega⟩
theorem ax_sound (l : Launch) (sc : ax_S) : ax_Cl sc (ax_PW l sc) := ⟨⟨ax_s_mono l sc, ax_s_iconst l sc, ax_s_bipush l sc, ax_s_sipush l sc, ax_s_ldc l sc, ax_s_ldcw l sc, ax_s_null l sc, ax_s_iload l sc, ax_s_iload_n l sc⟩, ⟨ax_s_aload l sc, ax_s_aload_n l sc, ax_s_aloadS l sc, ax_s_aload_nS l sc, ax_s_istore l sc, ax_s_istore_n l sc, ax_s_astore l sc, ax_s_astore_n l sc, ax_s_iinc l sc⟩, ⟨ax_s_iadd l sc, ax_s_isub l sc, ax_s_imul l sc, ax_s_iand l sc, ax_s_ior l sc, ax_s_ixor l sc, ax_s_ishl l sc, ax_s_ishr l sc, ax_s_iushr l sc⟩, ⟨ax_s_idiv l sc, ax_s_irem l sc, ax_s_ineg l sc, ax_s_dup l sc, ax_s_pop l sc, ax_s_dup_x1 l sc, ax_s_dup_x2 l sc, ax_s_dup2 l sc, ax_s_goto l sc⟩, ⟨ax_s_if_eq l sc, ax_s_if_ne l sc, ax_s_if_lt l sc, ax_s_if_ge l sc, ax_s_if_gt l sc, ax_s_if_le l sc, ax_s_icmp_eq l sc, ax_s_icmp_ne l sc, ax_s_icmp_lt l sc⟩, ⟨ax_s_icmp_ge l sc, ax_s_icmp_gt l sc, ax_s_icmp_le l sc, ax_s_tableIn l sc, ax_s_tableOut l sc, ax_s_get l sc, ax_s_put l sc, ax_s_putF l sc, ax_s_iald l sc⟩, ⟨ax_s_zald l sc, ax_s_iast l sc, ax_s_zast l sc, ax_s_alen l sc, ax_s_newI l sc, ax_s_newZ l sc, ax_s_new l sc, ax_s_sld l sc, ax_s_slen l sc⟩, ⟨ax_s_iret l sc, ax_s_vret l sc, ax_s_mmax l sc, ax_s_mmin l sc, ax_s_mabs l sc, ax_s_acopy l sc, ax_s_objInit l sc, ax_s_callV l sc, ax_s_callS l sc⟩, ⟨ax_s_callI l sc, ax_s_lconst l sc, ax_s_ldc2 l sc, ax_s_i2l l sc, ax_s_inL l sc⟩⟩
theorem Ex.W {l : Launch} {sc : ax_S} {k pc : Nat} {ls : List (Option Value)} {st : List Value} {h : ax_H} {K : ax_K} (e : Ex sc k pc ls st h K) : ax_PW l sc k pc ls st h K := e _ (ax_sound l sc)
end
section
theorem ax_c1 {o : Nat} {vs : List Value} (h : ∀ v ∈ vs, v.category = 1) : ∀ v ∈ (Value.ref o :: vs), v.category = 1 := by
  intro v hv
  rcases List.mem_cons.mp hv with rfl | hv
  · rfl
  · exact h v hv
theorem xild_0 {sc : ax_S} {k pc q : Nat} {st : List Value} {h : ax_H} {K : ax_K} {tl : List (Option Value)} {x : Int32} (g0 : decode (g_m k).2.1 pc = .ok (.iload_n 0, 1)) (g1 : pc + 1 = q) (p0 : Ex sc k q (some (.int x) :: tl) (.int x :: st) h K) : Ex sc k pc (some (.int x) :: tl) st h K := x_iload_n (i := 0) g0 g1 rfl rfl p0
theorem xald_0 {sc : ax_S} {k pc q : Nat} {st : List Value} {h : ax_H} {K : ax_K} {tl : List (Option Value)} {o : Nat} (g0 : decode (g_m k).2.1 pc = .ok (.aload_n 0, 1)) (g1 : pc + 1 = q) (p0 : Ex sc k q (some (.ref o) :: tl) (.ref o :: st) h K) : Ex sc k pc (some (.ref o) :: tl) st h K := x_aload_n (i := 0) g0 g1 rfl rfl p0
theorem xsld_0 {sc : ax_S} {k pc q : Nat} {st : List Value} {h : ax_H} {K : ax_K} {tl : List (Option Value)} {o : Nat} (g0 : decode (g_m k).2.1 pc = .ok (.aload_n 0, 1)) (g1 : pc + 1 = q) (p0 : Ex sc k q (some (.retAddr o) :: tl) (.retAddr o :: st) h K) : Ex sc k pc (some (.retAddr o) :: tl) st h K := x_aload_nS (i := 0) g0 g1 rfl rfl p0
theorem xist_0 {sc : ax_S} {k pc q : Nat} {st : List Value} {h : ax_H} {K : ax_K} {tl : List (Option Value)} {x : Int32} {b0 : Option Value} (g0 : decode (g_m k).2.1 pc = .ok (.istore_n 0, 1)) (g1 : pc + 1 = q) (p0 : Ex sc k q (some (.int x) :: tl) st h K) : Ex sc k pc (b0 :: tl) (.int x :: st) h K := x_istore_n (i := 0) g0 g1 rfl (by simp only [List.length_cons]; omega) p0
theorem xast_0 {sc : ax_S} {k pc q : Nat} {st : List Value} {h : ax_H} {K : ax_K} {tl : List (Option Value)} {o : Nat} {b0 : Option Value} (g0 : decode (g_m k).2.1 pc = .ok (.astore_n 0, 1)) (g1 : pc + 1 = q) (p0 : Ex sc k q (some (.ref o) :: tl) st h K) : Ex sc k pc (b0 :: tl) (.ref o :: st) h K := x_astore_n (i := 0) g0 g1 rfl (by simp only [List.length_cons]; omega) p0
theorem xinc_0 {sc : ax_S} {k pc q : Nat} {st : List Value} {h : ax_H} {K : ax_K} {tl : List (Option Value)} {x v : Int32} {n : Int} (g0 : decode (g_m k).2.1 pc = .ok (.iinc 0 n, 3)) (g1 : pc + 3 = q) (g2 : x + Int32.ofInt n = v) (p0 : Ex sc k q (some (.int v) :: tl) st h K) : Ex sc k pc (some (.int x) :: tl) st h K := x_iinc (i := 0) g0 g1 rfl g2 p0
theorem xild_1 {sc : ax_S} {k pc q : Nat} {st : List Value} {h : ax_H} {K : ax_K} {tl : List (Option Value)} {a0 : Option Value} {x : Int32} (g0 : decode (g_m k).2.1 pc = .ok (.iload_n 1, 1)) (g1 : pc + 1 = q) (p0 : Ex sc k q (a0 :: some (.int x) :: tl) (.int x :: st) h K) : Ex sc k pc (a0 :: some (.int x) :: tl) st h K := x_iload_n (i := 1) g0 g1 rfl rfl p0
theorem xald_1 {sc : ax_S} {k pc q : Nat} {st : List Value} {h : ax_H} {K : ax_K} {tl : List (Option Value)} {a0 : Option Value} {o : Nat} (g0 : decode (g_m k).2.1 pc = .ok (.aload_n 1, 1)) (g1 : pc + 1 = q) (p0 : Ex sc k q (a0 :: some (.ref o) :: tl) (.ref o :: st) h K) : Ex sc k pc (a0 :: some (.ref o) :: tl) st h K := x_aload_n (i := 1) g0 g1 rfl rfl p0
theorem xsld_1 {sc : ax_S} {k pc q : Nat} {st : List Value} {h : ax_H} {K : ax_K} {tl : List (Option Value)} {a0 : Option Value} {o : Nat} (g0 : decode (g_m k).2.1 pc = .ok (.aload_n 1, 1)) (g1 : pc + 1 = q) (p0 : Ex sc k q (a0 :: some (.retAddr o) :: tl) (.retAddr o :: st) h K) : Ex sc k pc (a0 :: some (.retAddr o) :: tl) st h K := x_aload_nS (i := 1) g0 g1 rfl rfl p0
theorem xist_1 {sc : ax_S} {k pc q : Nat} {st : List Value} {h : ax_H} {K : ax_K} {tl : List (Option Value)} {a0 : Option Value} {x : Int32} {b0 : Option Value} (g0 : decode (g_m k).2.1 pc = .ok (.istore_n 1, 1)) (g1 : pc + 1 = q) (p0 : Ex sc k q (a0 :: some (.int x) :: tl) st h K) : Ex sc k pc (a0 :: b0 :: tl) (.int x :: st) h K := x_istore_n (i := 1) g0 g1 rfl (by simp only [List.length_cons]; omega) p0
theorem xast_1 {sc : ax_S} {k pc q : Nat} {st : List Value} {h : ax_H} {K : ax_K} {tl : List (Option Value)} {a0 : Option Value} {o : Nat} {b0 : Option Value} (g0 : decode (g_m k).2.1 pc = .ok (.astore_n 1, 1)) (g1 : pc + 1 = q) (p0 : Ex sc k q (a0 :: some (.ref o) :: tl) st h K) : Ex sc k pc (a0 :: b0 :: tl) (.ref o :: st) h K := x_astore_n (i := 1) g0 g1 rfl (by simp only [List.length_cons]; omega) p0
theorem xinc_1 {sc : ax_S} {k pc q : Nat} {st : List Value} {h : ax_H} {K : ax_K} {tl : List (Option Value)} {a0 : Option Value} {x v : Int32} {n : Int} (g0 : decode (g_m k).2.1 pc = .ok (.iinc 1 n, 3)) (g1 : pc + 3 = q) (g2 : x + Int32.ofInt n = v) (p0 : Ex sc k q (a0 :: some (.int v) :: tl) st h K) : Ex sc k pc (a0 :: some (.int x) :: tl) st h K := x_iinc (i := 1) g0 g1 rfl g2 p0
theorem xild_2 {sc : ax_S} {k pc q : Nat} {st : List Value} {h : ax_H} {K : ax_K} {tl : List (Option Value)} {a0 a1 : Option Value} {x : Int32} (g0 : decode (g_m k).2.1 pc = .ok (.iload_n 2, 1)) (g1 : pc + 1 = q) (p0 : Ex sc k q (a0 :: a1 :: some (.int x) :: tl) (.int x :: st) h K) : Ex sc k pc (a0 :: a1 :: some (.int x) :: tl) st h K := x_iload_n (i := 2) g0 g1 rfl rfl p0
theorem xald_2 {sc : ax_S} {k pc q : Nat} {st : List Value} {h : ax_H} {K : ax_K} {tl : List (Option Value)} {a0 a1 : Option Value} {o : Nat} (g0 : decode (g_m k).2.1 pc = .ok (.aload_n 2, 1)) (g1 : pc + 1 = q) (p0 : Ex sc k q (a0 :: a1 :: some (.ref o) :: tl) (.ref o :: st) h K) : Ex sc k pc (a0 :: a1 :: some (.ref o) :: tl) st h K := x_aload_n (i := 2) g0 g1 rfl rfl p0
theorem xsld_2 {sc : ax_S} {k pc q : Nat} {st : List Value} {h : ax_H} {K : ax_K} {tl : List (Option Value)} {a0 a1 : Option Value} {o : Nat} (g0 : decode (g_m k).2.1 pc = .ok (.aload_n 2, 1)) (g1 : pc + 1 = q) (p0 : Ex sc k q (a0 :: a1 :: some (.retAddr o) :: tl) (.retAddr o :: st) h K) : Ex sc k pc (a0 :: a1 :: some (.retAddr o) :: tl) st h K := x_aload_nS (i := 2) g0 g1 rfl rfl p0
theorem xist_2 {sc : ax_S} {k pc q : Nat} {st : List Value} {h : ax_H} {K : ax_K} {tl : List (Option Value)} {a0 a1 : Option Value} {x : Int32} {b0 : Option Value} (g0 : decode (g_m k).2.1 pc = .ok (.istore_n 2, 1)) (g1 : pc + 1 = q) (p0 : Ex sc k q (a0 :: a1 :: some (.int x) :: tl) st h K) : Ex sc k pc (a0 :: a1 :: b0 :: tl) (.int x :: st) h K := x_istore_n (i := 2) g0 g1 rfl (by simp only [List.length_cons]; omega) p0
theorem xast_2 {sc : ax_S} {k pc q : Nat} {st : List Value} {h : ax_H} {K : ax_K} {tl : List (Option Value)} {a0 a1 : Option Value} {o : Nat} {b0 : Option Value} (g0 : decode (g_m k).2.1 pc = .ok (.astore_n 2, 1)) (g1 : pc + 1 = q) (p0 : Ex sc k q (a0 :: a1 :: some (.ref o) :: tl) st h K) : Ex sc k pc (a0 :: a1 :: b0 :: tl) (.ref o :: st) h K := x_astore_n (i := 2) g0 g1 rfl (by simp only [List.length_cons]; omega) p0
theorem xinc_2 {sc : ax_S} {k pc q : Nat} {st : List Value} {h : ax_H} {K : ax_K} {tl : List (Option Value)} {a0 a1 : Option Value} {x v : Int32} {n : Int} (g0 : decode (g_m k).2.1 pc = .ok (.iinc 2 n, 3)) (g1 : pc + 3 = q) (g2 : x + Int32.ofInt n = v) (p0 : Ex sc k q (a0 :: a1 :: some (.int v) :: tl) st h K) : Ex sc k pc (a0 :: a1 :: some (.int x) :: tl) st h K := x_iinc (i := 2) g0 g1 rfl g2 p0
theorem xild_3 {sc : ax_S} {k pc q : Nat} {st : List Value} {h : ax_H} {K : ax_K} {tl : List (Option Value)} {a0 a1 a2 : Option Value} {x : Int32} (g0 : decode (g_m k).2.1 pc = .ok (.iload_n 3, 1)) (g1 : pc + 1 = q) (p0 : Ex sc k q (a0 :: a1 :: a2 :: some (.int x) :: tl) (.int x :: st) h K) : Ex sc k pc (a0 :: a1 :: a2 :: some (.int x) :: tl) st h K := x_iload_n (i := 3) g0 g1 rfl rfl p0
theorem xald_3 {sc : ax_S} {k pc q : Nat} {st : List Value} {h : ax_H} {K : ax_K} {tl : List (Option Value)} {a0 a1 a2 : Option Value} {o : Nat} (g0 : decode (g_m k).2.1 pc = .ok (.aload_n 3, 1)) (g1 : pc + 1 = q) (p0 : Ex sc k q (a0 :: a1 :: a2 :: some (.ref o) :: tl) (.ref o :: st) h K) : Ex sc k pc (a0 :: a1 :: a2 :: some (.ref o) :: tl) st h K := x_aload_n (i := 3) g0 g1 rfl rfl p0
theorem xsld_3 {sc : ax_S} {k pc q : Nat} {st : List Value} {h : ax_H} {K : ax_K} {tl : List (Option Value)} {a0 a1 a2 : Option Value} {o : Nat} (g0 : decode (g_m k).2.1 pc = .ok (.aload_n 3, 1)) (g1 : pc + 1 = q) (p0 : Ex sc k q (a0 :: a1 :: a2 :: some (.retAddr o) :: tl) (.retAddr o :: st) h K) : Ex sc k pc (a0 :: a1 :: a2 :: some (.retAddr o) :: tl) st h K := x_aload_nS (i := 3) g0 g1 rfl rfl p0
theorem xist_3 {sc : ax_S} {k pc q : Nat} {st : List Value} {h : ax_H} {K : ax_K} {tl : List (Option Value)} {a0 a1 a2 : Option Value} {x : Int32} {b0 : Option Value} (g0 : decode (g_m k).2.1 pc = .ok (.istore_n 3, 1)) (g1 : pc + 1 = q) (p0 : Ex sc k q (a0 :: a1 :: a2 :: some (.int x) :: tl) st h K) : Ex sc k pc (a0 :: a1 :: a2 :: b0 :: tl) (.int x :: st) h K := x_istore_n (i := 3) g0 g1 rfl (by simp only [List.length_cons]; omega) p0
theorem xast_3 {sc : ax_S} {k pc q : Nat} {st : List Value} {h : ax_H} {K : ax_K} {tl : List (Option Value)} {a0 a1 a2 : Option Value} {o : Nat} {b0 : Option Value} (g0 : decode (g_m k).2.1 pc = .ok (.astore_n 3, 1)) (g1 : pc + 1 = q) (p0 : Ex sc k q (a0 :: a1 :: a2 :: some (.ref o) :: tl) st h K) : Ex sc k pc (a0 :: a1 :: a2 :: b0 :: tl) (.ref o :: st) h K := x_astore_n (i := 3) g0 g1 rfl (by simp only [List.length_cons]; omega) p0
theorem xinc_3 {sc : ax_S} {k pc q : Nat} {st : List Value} {h : ax_H} {K : ax_K} {tl : List (Option Value)} {a0 a1 a2 : Option Value} {x v : Int32} {n : Int} (g0 : decode (g_m k).2.1 pc = .ok (.iinc 3 n, 3)) (g1 : pc + 3 = q) (g2 : x + Int32.ofInt n = v) (p0 : Ex sc k q (a0 :: a1 :: a2 :: some (.int v) :: tl) st h K) : Ex sc k pc (a0 :: a1 :: a2 :: some (.int x) :: tl) st h K := x_iinc (i := 3) g0 g1 rfl g2 p0
theorem xild_4 {sc : ax_S} {k pc q : Nat} {st : List Value} {h : ax_H} {K : ax_K} {tl : List (Option Value)} {a0 a1 a2 a3 : Option Value} {x : Int32} (g0 : decode (g_m k).2.1 pc = .ok (.iload 4, 2)) (g1 : pc + 2 = q) (p0 : Ex sc k q (a0 :: a1 :: a2 :: a3 :: some (.int x) :: tl) (.int x :: st) h K) : Ex sc k pc (a0 :: a1 :: a2 :: a3 :: some (.int x) :: tl) st h K := x_iload (i := 4) g0 g1 rfl p0
theorem xald_4 {sc : ax_S} {k pc q : Nat} {st : List Value} {h : ax_H} {K : ax_K} {tl : List (Option Value)} {a0 a1 a2 a3 : Option Value} {o : Nat} (g0 : decode (g_m k).2.1 pc = .ok (.aload 4, 2)) (g1 : pc + 2 = q) (p0 : Ex sc k q (a0 :: a1 :: a2 :: a3 :: some (.ref o) :: tl) (.ref o :: st) h K) : Ex sc k pc (a0 :: a1 :: a2 :: a3 :: some (.ref o) :: tl) st h K := x_aload (i := 4) g0 g1 rfl p0
theorem xsld_4 {sc : ax_S} {k pc q : Nat} {st : List Value} {h : ax_H} {K : ax_K} {tl : List (Option Value)} {a0 a1 a2 a3 : Option Value} {o : Nat} (g0 : decode (g_m k).2.1 pc = .ok (.aload 4, 2)) (g1 : pc + 2 = q) (p0 : Ex sc k q (a0 :: a1 :: a2 :: a3 :: some (.retAddr o) :: tl) (.retAddr o :: st) h K) : Ex sc k pc (a0 :: a1 :: a2 :: a3 :: some (.retAddr o) :: tl) st h K := x_aloadS (i := 4) g0 g1 rfl p0
theorem xist_4 {sc : ax_S} {k pc q : Nat} {st : List Value} {h : ax_H} {K : ax_K} {tl : List (Option Value)} {a0 a1 a2 a3 : Option Value} {x : Int32} {b0 : Option Value} (g0 : decode (g_m k).2.1 pc = .ok (.istore 4, 2)) (g1 : pc + 2 = q) (p0 : Ex sc k q (a0 :: a1 :: a2 :: a3 :: some (.int x) :: tl) st h K) : Ex sc k pc (a0 :: a1 :: a2 :: a3 :: b0 :: tl) (.int x :: st) h K := x_istore (i := 4) g0 g1 (by simp only [List.length_cons]; omega) p0
theorem xast_4 {sc : ax_S} {k pc q : Nat} {st : List Value} {h : ax_H} {K : ax_K} {tl : List (Option Value)} {a0 a1 a2 a3 : Option Value} {o : Nat} {b0 : Option Value} (g0 : decode (g_m k).2.1 pc = .ok (.astore 4, 2)) (g1 : pc + 2 = q) (p0 : Ex sc k q (a0 :: a1 :: a2 :: a3 :: some (.ref o) :: tl) st h K) : Ex sc k pc (a0 :: a1 :: a2 :: a3 :: b0 :: tl) (.ref o :: st) h K := x_astore (i := 4) g0 g1 (by simp only [List.length_cons]; omega) p0
theorem xinc_4 {sc : ax_S} {k pc q : Nat} {st : List Value} {h : ax_H} {K : ax_K} {tl : List (Option Value)} {a0 a1 a2 a3 : Option Value} {x v : Int32} {n : Int} (g0 : decode (g_m k).2.1 pc = .ok (.iinc 4 n, 3)) (g1 : pc + 3 = q) (g2 : x + Int32.ofInt n = v) (p0 : Ex sc k q (a0 :: a1 :: a2 :: a3 :: some (.int v) :: tl) st h K) : Ex sc k pc (a0 :: a1 :: a2 :: a3 :: some (.int x) :: tl) st h K := x_iinc (i := 4) g0 g1 rfl g2 p0
theorem xild_5 {sc : ax_S} {k pc q : Nat} {st : List Value} {h : ax_H} {K : ax_K} {tl : List (Option Value)} {a0 a1 a2 a3 a4 : Option Value} {x : Int32} (g0 : decode (g_m k).2.1 pc = .ok (.iload 5, 2)) (g1 : pc + 2 = q) (p0 : Ex sc k q (a0 :: a1 :: a2 :: a3 :: a4 :: some (.int x) :: tl) (.int x :: st) h K) : Ex sc k pc (a0 :: a1 :: a2 :: a3 :: a4 :: some (.int x) :: tl) st h K := x_iload (i := 5) g0 g1 rfl p0
theorem xald_5 {sc : ax_S} {k pc q : Nat} {st : List Value} {h : ax_H} {K : ax_K} {tl : List (Option Value)} {a0 a1 a2 a3 a4 : Option Value} {o : Nat} (g0 : decode (g_m k).2.1 pc = .ok (.aload 5, 2)) (g1 : pc + 2 = q) (p0 : Ex sc k q (a0 :: a1 :: a2 :: a3 :: a4 :: some (.ref o) :: tl) (.ref o :: st) h K) : Ex sc k pc (a0 :: a1 :: a2 :: a3 :: a4 :: some (.ref o) :: tl) st h K := x_aload (i := 5) g0 g1 rfl p0
theorem xsld_5 {sc : ax_S} {k pc q : Nat} {st : List Value} {h : ax_H} {K : ax_K} {tl : List (Option Value)} {a0 a1 a2 a3 a4 : Option Value} {o : Nat} (g0 : decode (g_m k).2.1 pc = .ok (.aload 5, 2)) (g1 : pc + 2 = q) (p0 : Ex sc k q (a0 :: a1 :: a2 :: a3 :: a4 :: some (.retAddr o) :: tl) (.retAddr o :: st) h K) : Ex sc k pc (a0 :: a1 :: a2 :: a3 :: a4 :: some (.retAddr o) :: tl) st h K := x_aloadS (i := 5) g0 g1 rfl p0
theorem xist_5 {sc : ax_S} {k pc q : Nat} {st : List Value} {h : ax_H} {K : ax_K} {tl : List (Option Value)} {a0 a1 a2 a3 a4 : Option Value} {x : Int32} {b0 : Option Value} (g0 : decode (g_m k).2.1 pc = .ok (.istore 5, 2)) (g1 : pc + 2 = q) (p0 : Ex sc k q (a0 :: a1 :: a2 :: a3 :: a4 :: some (.int x) :: tl) st h K) : Ex sc k pc (a0 :: a1 :: a2 :: a3 :: a4 :: b0 :: tl) (.int x :: st) h K := x_istore (i := 5) g0 g1 (by simp only [List.length_cons]; omega) p0
theorem xast_5 {sc : ax_S} {k pc q : Nat} {st : List Value} {h : ax_H} {K : ax_K} {tl : List (Option Value)} {a0 a1 a2 a3 a4 : Option Value} {o : Nat} {b0 : Option Value} (g0 : decode (g_m k).2.1 pc = .ok (.astore 5, 2)) (g1 : pc + 2 = q) (p0 : Ex sc k q (a0 :: a1 :: a2 :: a3 :: a4 :: some (.ref o) :: tl) st h K) : Ex sc k pc (a0 :: a1 :: a2 :: a3 :: a4 :: b0 :: tl) (.ref o :: st) h K := x_astore (i := 5) g0 g1 (by simp only [List.length_cons]; omega) p0
theorem xinc_5 {sc : ax_S} {k pc q : Nat} {st : List Value} {h : ax_H} {K : ax_K} {tl : List (Option Value)} {a0 a1 a2 a3 a4 : Option Value} {x v : Int32} {n : Int} (g0 : decode (g_m k).2.1 pc = .ok (.iinc 5 n, 3)) (g1 : pc + 3 = q) (g2 : x + Int32.ofInt n = v) (p0 : Ex sc k q (a0 :: a1 :: a2 :: a3 :: a4 :: some (.int v) :: tl) st h K) : Ex sc k pc (a0 :: a1 :: a2 :: a3 :: a4 :: some (.int x) :: tl) st h K := x_iinc (i := 5) g0 g1 rfl g2 p0
theorem xild_6 {sc : ax_S} {k pc q : Nat} {st : List Value} {h : ax_H} {K : ax_K} {tl : List (Option Value)} {a0 a1 a2 a3 a4 a5 : Option Value} {x : Int32} (g0 : decode (g_m k).2.1 pc = .ok (.iload 6, 2)) (g1 : pc + 2 = q) (p0 : Ex sc k q (a0 :: a1 :: a2 :: a3 :: a4 :: a5 :: some (.int x) :: tl) (.int x :: st) h K) : Ex sc k pc (a0 :: a1 :: a2 :: a3 :: a4 :: a5 :: some (.int x) :: tl) st h K := x_iload (i := 6) g0 g1 rfl p0
theorem xald_6 {sc : ax_S} {k pc q : Nat} {st : List Value} {h : ax_H} {K : ax_K} {tl : List (Option Value)} {a0 a1 a2 a3 a4 a5 : Option Value} {o : Nat} (g0 : decode (g_m k).2.1 pc = .ok (.aload 6, 2)) (g1 : pc + 2 = q) (p0 : Ex sc k q (a0 :: a1 :: a2 :: a3 :: a4 :: a5 :: some (.ref o) :: tl) (.ref o :: st) h K) : Ex sc k pc (a0 :: a1 :: a2 :: a3 :: a4 :: a5 :: some (.ref o) :: tl) st h K := x_aload (i := 6) g0 g1 rfl p0
theorem xsld_6 {sc : ax_S} {k pc q : Nat} {st : List Value} {h : ax_H} {K : ax_K} {tl : List (Option Value)} {a0 a1 a2 a3 a4 a5 : Option Value} {o : Nat} (g0 : decode (g_m k).2.1 pc = .ok (.aload 6, 2)) (g1 : pc + 2 = q) (p0 : Ex sc k q (a0 :: a1 :: a2 :: a3 :: a4 :: a5 :: some (.retAddr o) :: tl) (.retAddr o :: st) h K) : Ex sc k pc (a0 :: a1 :: a2 :: a3 :: a4 :: a5 :: some (.retAddr o) :: tl) st h K := x_aloadS (i := 6) g0 g1 rfl p0
theorem xist_6 {sc : ax_S} {k pc q : Nat} {st : List Value} {h : ax_H} {K : ax_K} {tl : List (Option Value)} {a0 a1 a2 a3 a4 a5 : Option Value} {x : Int32} {b0 : Option Value} (g0 : decode (g_m k).2.1 pc = .ok (.istore 6, 2)) (g1 : pc + 2 = q) (p0 : Ex sc k q (a0 :: a1 :: a2 :: a3 :: a4 :: a5 :: some (.int x) :: tl) st h K) : Ex sc k pc (a0 :: a1 :: a2 :: a3 :: a4 :: a5 :: b0 :: tl) (.int x :: st) h K := x_istore (i := 6) g0 g1 (by simp only [List.length_cons]; omega) p0
theorem xast_6 {sc : ax_S} {k pc q : Nat} {st : List Value} {h : ax_H} {K : ax_K} {tl : List (Option Value)} {a0 a1 a2 a3 a4 a5 : Option Value} {o : Nat} {b0 : Option Value} (g0 : decode (g_m k).2.1 pc = .ok (.astore 6, 2)) (g1 : pc + 2 = q) (p0 : Ex sc k q (a0 :: a1 :: a2 :: a3 :: a4 :: a5 :: some (.ref o) :: tl) st h K) : Ex sc k pc (a0 :: a1 :: a2 :: a3 :: a4 :: a5 :: b0 :: tl) (.ref o :: st) h K := x_astore (i := 6) g0 g1 (by simp only [List.length_cons]; omega) p0
theorem xinc_6 {sc : ax_S} {k pc q : Nat} {st : List Value} {h : ax_H} {K : ax_K} {tl : List (Option Value)} {a0 a1 a2 a3 a4 a5 : Option Value} {x v : Int32} {n : Int} (g0 : decode (g_m k).2.1 pc = .ok (.iinc 6 n, 3)) (g1 : pc + 3 = q) (g2 : x + Int32.ofInt n = v) (p0 : Ex sc k q (a0 :: a1 :: a2 :: a3 :: a4 :: a5 :: some (.int v) :: tl) st h K) : Ex sc k pc (a0 :: a1 :: a2 :: a3 :: a4 :: a5 :: some (.int x) :: tl) st h K := x_iinc (i := 6) g0 g1 rfl g2 p0
theorem xild_7 {sc : ax_S} {k pc q : Nat} {st : List Value} {h : ax_H} {K : ax_K} {tl : List (Option Value)} {a0 a1 a2 a3 a4 a5 a6 : Option Value} {x : Int32} (g0 : decode (g_m k).2.1 pc = .ok (.iload 7, 2)) (g1 : pc + 2 = q) (p0 : Ex sc k q (a0 :: a1 :: a2 :: a3 :: a4 :: a5 :: a6 :: some (.int x) :: tl) (.int x :: st) h K) : Ex sc k pc (a0 :: a1 :: a2 :: a3 :: a4 :: a5 :: a6 :: some (.int x) :: tl) st h K := x_iload (i := 7) g0 g1 rfl p0
theorem xald_7 {sc : ax_S} {k pc q : Nat} {st : List Value} {h : ax_H} {K : ax_K} {tl : List (Option Value)} {a0 a1 a2 a3 a4 a5 a6 : Option Value} {o : Nat} (g0 : decode (g_m k).2.1 pc = .ok (.aload 7, 2)) (g1 : pc + 2 = q) (p0 : Ex sc k q (a0 :: a1 :: a2 :: a3 :: a4 :: a5 :: a6 :: some (.ref o) :: tl) (.ref o :: st) h K) : Ex sc k pc (a0 :: a1 :: a2 :: a3 :: a4 :: a5 :: a6 :: some (.ref o) :: tl) st h K := x_aload (i := 7) g0 g1 rfl p0
theorem xsld_7 {sc : ax_S} {k pc q : Nat} {st : List Value} {h : ax_H} {K : ax_K} {tl : List (Option Value)} {a0 a1 a2 a3 a4 a5 a6 : Option Value} {o : Nat} (g0 : decode (g_m k).2.1 pc = .ok (.aload 7, 2)) (g1 : pc + 2 = q) (p0 : Ex sc k q (a0 :: a1 :: a2 :: a3 :: a4 :: a5 :: a6 :: some (.retAddr o) :: tl) (.retAddr o :: st) h K) : Ex sc k pc (a0 :: a1 :: a2 :: a3 :: a4 :: a5 :: a6 :: some (.retAddr o) :: tl) st h K := x_aloadS (i := 7) g0 g1 rfl p0
theorem xist_7 {sc : ax_S} {k pc q : Nat} {st : List Value} {h : ax_H} {K : ax_K} {tl : List (Option Value)} {a0 a1 a2 a3 a4 a5 a6 : Option Value} {x : Int32} {b0 : Option Value} (g0 : decode (g_m k).2.1 pc = .ok (.istore 7, 2)) (g1 : pc + 2 = q) (p0 : Ex sc k q (a0 :: a1 :: a2 :: a3 :: a4 :: a5 :: a6 :: some (.int x) :: tl) st h K) : Ex sc k pc (a0 :: a1 :: a2 :: a3 :: a4 :: a5 :: a6 :: b0 :: tl) (.int x :: st) h K := x_istore (i := 7) g0 g1 (by simp only [List.length_cons]; omega) p0
theorem xast_7 {sc : ax_S} {k pc q : Nat} {st : List Value} {h : ax_H} {K : ax_K} {tl : List (Option Value)} {a0 a1 a2 a3 a4 a5 a6 : Option Value} {o : Nat} {b0 : Option Value} (g0 : decode (g_m k).2.1 pc = .ok (.astore 7, 2)) (g1 : pc + 2 = q) (p0 : Ex sc k q (a0 :: a1 :: a2 :: a3 :: a4 :: a5 :: a6 :: some (.ref o) :: tl) st h K) : Ex sc k pc (a0 :: a1 :: a2 :: a3 :: a4 :: a5 :: a6 :: b0 :: tl) (.ref o :: st) h K := x_astore (i := 7) g0 g1 (by simp only [List.length_cons]; omega) p0
theorem xinc_7 {sc : ax_S} {k pc q : Nat} {st : List Value} {h : ax_H} {K : ax_K} {tl : List (Option Value)} {a0 a1 a2 a3 a4 a5 a6 : Option Value} {x v : Int32} {n : Int} (g0 : decode (g_m k).2.1 pc = .ok (.iinc 7 n, 3)) (g1 : pc + 3 = q) (g2 : x + Int32.ofInt n = v) (p0 : Ex sc k q (a0 :: a1 :: a2 :: a3 :: a4 :: a5 :: a6 :: some (.int v) :: tl) st h K) : Ex sc k pc (a0 :: a1 :: a2 :: a3 :: a4 :: a5 :: a6 :: some (.int x) :: tl) st h K := x_iinc (i := 7) g0 g1 rfl g2 p0
theorem xild_8 {sc : ax_S} {k pc q : Nat} {st : List Value} {h : ax_H} {K : ax_K} {tl : List (Option Value)} {a0 a1 a2 a3 a4 a5 a6 a7 : Option Value} {x : Int32} (g0 : decode (g_m k).2.1 pc = .ok (.iload 8, 2)) (g1 : pc + 2 = q) (p0 : Ex sc k q (a0 :: a1 :: a2 :: a3 :: a4 :: a5 :: a6 :: a7 :: some (.int x) :: tl) (.int x :: st) h K) : Ex sc k pc (a0 :: a1 :: a2 :: a3 :: a4 :: a5 :: a6 :: a7 :: some (.int x) :: tl) st h K := x_iload (i := 8) g0 g1 rfl p0
theorem xald_8 {sc : ax_S} {k pc q : Nat} {st : List Value} {h : ax_H} {K : ax_K} {tl : List (Option Value)} {a0 a1 a2 a3 a4 a5 a6 a7 : Option Value} {o : Nat} (g0 : decode (g_m k).2.1 pc = .ok (.aload 8, 2)) (g1 : pc + 2 = q) (p0 : Ex sc k q (a0 :: a1 :: a2 :: a3 :: a4 :: a5 :: a6 :: a7 :: some (.ref o) :: tl) (.ref o :: st) h K) : Ex sc k pc (a0 :: a1 :: a2 :: a3 :: a4 :: a5 :: a6 :: a7 :: some (.ref o) :: tl) st h K := x_aload (i := 8) g0 g1 rfl p0
theorem xsld_8 {sc : ax_S} {k pc q : Nat} {st : List Value} {h : ax_H} {K : ax_K} {tl : List (Option Value)} {a0 a1 a2 a3 a4 a5 a6 a7 : Option Value} {o : Nat} (g0 : decode (g_m k).2.1 pc = .ok (.aload 8, 2)) (g1 : pc + 2 = q) (p0 : Ex sc k q (a0 :: a1 :: a2 :: a3 :: a4 :: a5 :: a6 :: a7 :: some (.retAddr o) :: tl) (.retAddr o :: st) h K) : Ex sc k pc (a0 :: a1 :: a2 :: a3 :: a4 :: a5 :: a6 :: a7 :: some (.retAddr o) :: tl) st h K := x_aloadS (i := 8) g0 g1 rfl p0
theorem xist_8 {sc : ax_S} {k pc q : Nat} {st : List Value} {h : ax_H} {K : ax_K} {tl : List (Option Value)} {a0 a1 a2 a3 a4 a5 a6 a7 : Option Value} {x : Int32} {b0 : Option Value} (g0 : decode (g_m k).2.1 pc = .ok (.istore 8, 2)) (g1 : pc + 2 = q) (p0 : Ex sc k q (a0 :: a1 :: a2 :: a3 :: a4 :: a5 :: a6 :: a7 :: some (.int x) :: tl) st h K) : Ex sc k pc (a0 :: a1 :: a2 :: a3 :: a4 :: a5 :: a6 :: a7 :: b0 :: tl) (.int x :: st) h K := x_istore (i := 8) g0 g1 (by simp only [List.length_cons]; omega) p0
theorem xast_8 {sc : ax_S} {k pc q : Nat} {st : List Value} {h : ax_H} {K : ax_K} {tl : List (Option Value)} {a0 a1 a2 a3 a4 a5 a6 a7 : Option Value} {o : Nat} {b0 : Option Value} (g0 : decode (g_m k).2.1 pc = .ok (.astore 8, 2)) (g1 : pc + 2 = q) (p0 : Ex sc k q (a0 :: a1 :: a2 :: a3 :: a4 :: a5 :: a6 :: a7 :: some (.ref o) :: tl) st h K) : Ex sc k pc (a0 :: a1 :: a2 :: a3 :: a4 :: a5 :: a6 :: a7 :: b0 :: tl) (.ref o :: st) h K := x_astore (i := 8) g0 g1 (by simp only [List.length_cons]; omega) p0
theorem xinc_8 {sc : ax_S} {k pc q : Nat} {st : List Value} {h : ax_H} {K : ax_K} {tl : List (Option Value)} {a0 a1 a2 a3 a4 a5 a6 a7 : Option Value} {x v : Int32} {n : Int} (g0 : decode (g_m k).2.1 pc = .ok (.iinc 8 n, 3)) (g1 : pc + 3 = q) (g2 : x + Int32.ofInt n = v) (p0 : Ex sc k q (a0 :: a1 :: a2 :: a3 :: a4 :: a5 :: a6 :: a7 :: some (.int v) :: tl) st h K) : Ex sc k pc (a0 :: a1 :: a2 :: a3 :: a4 :: a5 :: a6 :: a7 :: some (.int x) :: tl) st h K := x_iinc (i := 8) g0 g1 rfl g2 p0
theorem xild_9 {sc : ax_S} {k pc q : Nat} {st : List Value} {h : ax_H} {K : ax_K} {tl : List (Option Value)} {a0 a1 a2 a3 a4 a5 a6 a7 a8 : Option Value} {x : Int32} (g0 : decode (g_m k).2.1 pc = .ok (.iload 9, 2)) (g1 : pc + 2 = q) (p0 : Ex sc k q (a0 :: a1 :: a2 :: a3 :: a4 :: a5 :: a6 :: a7 :: a8 :: some (.int x) :: tl) (.int x :: st) h K) : Ex sc k pc (a0 :: a1 :: a2 :: a3 :: a4 :: a5 :: a6 :: a7 :: a8 :: some (.int x) :: tl) st h K := x_iload (i := 9) g0 g1 rfl p0
theorem xald_9 {sc : ax_S} {k pc q : Nat} {st : List Value} {h : ax_H} {K : ax_K} {tl : List (Option Value)} {a0 a1 a2 a3 a4 a5 a6 a7 a8 : Option Value} {o : Nat} (g0 : decode (g_m k).2.1 pc = .ok (.aload 9, 2)) (g1 : pc + 2 = q) (p0 : Ex sc k q (a0 :: a1 :: a2 :: a3 :: a4 :: a5 :: a6 :: a7 :: a8 :: some (.ref o) :: tl) (.ref o :: st) h K) : Ex sc k pc (a0 :: a1 :: a2 :: a3 :: a4 :: a5 :: a6 :: a7 :: a8 :: some (.ref o) :: tl) st h K := x_aload (i := 9) g0 g1 rfl p0
theorem xsld_9 {sc : ax_S} {k pc q : Nat} {st : List Value} {h : ax_H} {K : ax_K} {tl : List (Option Value)} {a0 a1 a2 a3 a4 a5 a6 a7 a8 : Option Value} {o : Nat} (g0 : decode (g_m k).2.1 pc = .ok (.aload 9, 2)) (g1 : pc + 2 = q) (p0 : Ex sc k q (a0 :: a1 :: a2 :: a3 :: a4 :: a5 :: a6 :: a7 :: a8 :: some (.retAddr o) :: tl) (.retAddr o :: st) h K) : Ex sc k pc (a0 :: a1 :: a2 :: a3 :: a4 :: a5 :: a6 :: a7 :: a8 :: some (.retAddr o) :: tl) st h K := x_aloadS (i := 9) g0 g1 rfl p0
theorem xist_9 {sc : ax_S} {k pc q : Nat} {st : List Value} {h : ax_H} {K : ax_K} {tl : List (Option Value)} {a0 a1 a2 a3 a4 a5 a6 a7 a8 : Option Value} {x : Int32} {b0 : Option Value} (g0 : decode (g_m k).2.1 pc = .ok (.istore 9, 2)) (g1 : pc + 2 = q) (p0 : Ex sc k q (a0 :: a1 :: a2 :: a3 :: a4 :: a5 :: a6 :: a7 :: a8 :: some (.int x) :: tl) st h K) : Ex sc k pc (a0 :: a1 :: a2 :: a3 :: a4 :: a5 :: a6 :: a7 :: a8 :: b0 :: tl) (.int x :: st) h K := x_istore (i := 9) g0 g1 (by simp only [List.length_cons]; omega) p0
theorem xast_9 {sc : ax_S} {k pc q : Nat} {st : List Value} {h : ax_H} {K : ax_K} {tl : List (Option Value)} {a0 a1 a2 a3 a4 a5 a6 a7 a8 : Option Value} {o : Nat} {b0 : Option Value} (g0 : decode (g_m k).2.1 pc = .ok (.astore 9, 2)) (g1 : pc + 2 = q) (p0 : Ex sc k q (a0 :: a1 :: a2 :: a3 :: a4 :: a5 :: a6 :: a7 :: a8 :: some (.ref o) :: tl) st h K) : Ex sc k pc (a0 :: a1 :: a2 :: a3 :: a4 :: a5 :: a6 :: a7 :: a8 :: b0 :: tl) (.ref o :: st) h K := x_astore (i := 9) g0 g1 (by simp only [List.length_cons]; omega) p0
theorem xinc_9 {sc : ax_S} {k pc q : Nat} {st : List Value} {h : ax_H} {K : ax_K} {tl : List (Option Value)} {a0 a1 a2 a3 a4 a5 a6 a7 a8 : Option Value} {x v : Int32} {n : Int} (g0 : decode (g_m k).2.1 pc = .ok (.iinc 9 n, 3)) (g1 : pc + 3 = q) (g2 : x + Int32.ofInt n = v) (p0 : Ex sc k q (a0 :: a1 :: a2 :: a3 :: a4 :: a5 :: a6 :: a7 :: a8 :: some (.int v) :: tl) st h K) : Ex sc k pc (a0 :: a1 :: a2 :: a3 :: a4 :: a5 :: a6 :: a7 :: a8 :: some (.int x) :: tl) st h K := x_iinc (i := 9) g0 g1 rfl g2 p0
theorem xild_10 {sc : ax_S} {k pc q : Nat} {st : List Value} {h : ax_H} {K : ax_K} {tl : List (Option Value)} {a0 a1 a2 a3 a4 a5 a6 a7 a8 a9 : Option Value} {x : Int32} (g0 : decode (g_m k).2.1 pc = .ok (.iload 10, 2)) (g1 : pc + 2 = q) (p0 : Ex sc k q (a0 :: a1 :: a2 :: a3 :: a4 :: a5 :: a6 :: a7 :: a8 :: a9 :: some (.int x) :: tl) (.int x :: st) h K) : Ex sc k pc (a0 :: a1 :: a2 :: a3 :: a4 :: a5 :: a6 :: a7 :: a8 :: a9 :: some (.int x) :: tl) st h K := x_iload (i := 10) g0 g1 rfl p0
theorem xald_10 {sc : ax_S} {k pc q : Nat} {st : List Value} {h : ax_H} {K : ax_K} {tl : List (Option Value)} {a0 a1 a2 a3 a4 a5 a6 a7 a8 a9 : Option Value} {o : Nat} (g0 : decode (g_m k).2.1 pc = .ok (.aload 10, 2)) (g1 : pc + 2 = q) (p0 : Ex sc k q (a0 :: a1 :: a2 :: a3 :: a4 :: a5 :: a6 :: a7 :: a8 :: a9 :: some (.ref o) :: tl) (.ref o :: st) h K) : Ex sc k pc (a0 :: a1 :: a2 :: a3 :: a4 :: a5 :: a6 :: a7 :: a8 :: a9 :: some (.ref o) :: tl) st h K := x_aload (i := 10) g0 g1 rfl p0
theorem xsld_10 {sc : ax_S} {k pc q : Nat} {st : List Value} {h : ax_H} {K : ax_K} {tl : List (Option Value)} {a0 a1 a2 a3 a4 a5 a6 a7 a8 a9 : Option Value} {o : Nat} (g0 : decode (g_m k).2.1 pc = .ok (.aload 10, 2)) (g1 : pc + 2 = q) (p0 : Ex sc k q (a0 :: a1 :: a2 :: a3 :: a4 :: a5 :: a6 :: a7 :: a8 :: a9 :: some (.retAddr o) :: tl) (.retAddr o :: st) h K) : Ex sc k pc (a0 :: a1 :: a2 :: a3 :: a4 :: a5 :: a6 :: a7 :: a8 :: a9 :: some (.retAddr o) :: tl) st h K := x_aloadS (i := 10) g0 g1 rfl p0
theorem xist_10 {sc : ax_S} {k pc q : Nat} {st : List Value} {h : ax_H} {K : ax_K} {tl : List (Option Value)} {a0 a1 a2 a3 a4 a5 a6 a7 a8 a9 : Option Value} {x : Int32} {b0 : Option Value} (g0 : decode (g_m k).2.1 pc = .ok (.istore 10, 2)) (g1 : pc + 2 = q) (p0 : Ex sc k q (a0 :: a1 :: a2 :: a3 :: a4 :: a5 :: a6 :: a7 :: a8 :: a9 :: some (.int x) :: tl) st h K) : Ex sc k pc (a0 :: a1 :: a2 :: a3 :: a4 :: a5 :: a6 :: a7 :: a8 :: a9 :: b0 :: tl) (.int x :: st) h K := x_istore (i := 10) g0 g1 (by simp only [List.length_cons]; omega) p0
theorem xast_10 {sc : ax_S} {k pc q : Nat} {st : List Value} {h : ax_H} {K : ax_K} {tl : List (Option Value)} {a0 a1 a2 a3 a4 a5 a6 a7 a8 a9 : Option Value} {o : Nat} {b0 : Option Value} (g0 : decode (g_m k).2.1 pc = .ok (.astore 10, 2)) (g1 : pc + 2 = q) (p0 : Ex sc k q (a0 :: a1 :: a2 :: a3 :: a4 :: a5 :: a6 :: a7 :: a8 :: a9 :: some (.ref o) :: tl) st h K) : Ex sc k pc (a0 :: a1 :: a2 :: a3 :: a4 :: a5 :: a6 :: a7 :: a8 :: a9 :: b0 :: tl) (.ref o :: st) h K := x_astore (i := 10) g0 g1 (by simp only [List.length_cons]; omega) p0
theorem xinc_10 {sc : ax_S} {k pc q : Nat} {st : List Value} {h : ax_H} {K : ax_K} {tl : List (Option Value)} {a0 a1 a2 a3 a4 a5 a6 a7 a8 a9 : Option Value} {x v : Int32} {n : Int} (g0 : decode (g_m k).2.1 pc = .ok (.iinc 10 n, 3)) (g1 : pc + 3 = q) (g2 : x + Int32.ofInt n = v) (p0 : Ex sc k q (a0 :: a1 :: a2 :: a3 :: a4 :: a5 :: a6 :: a7 :: a8 :: a9 :: some (.int v) :: tl) st h K) : Ex sc k pc (a0 :: a1 :: a2 :: a3 :: a4 :: a5 :: a6 :: a7 :: a8 :: a9 :: some (.int x) :: tl) st h K := x_iinc (i := 10) g0 g1 rfl g2 p0
theorem xild_11 {sc : ax_S} {k pc q : Nat} {st : List Value} {h : ax_H} {K : ax_K} {tl : List (Option Value)} {a0 a1 a2 a3 a4 a5 a6 a7 a8 a9 a10 : Option Value} {x : Int32} (g0 : decode (g_m k).2.1 pc = .ok (.iload 11, 2)) (g1 : pc + 2 = q) (p0 : Ex sc k q (a0 :: a1 :: a2 :: a3 :: a4 :: a5 :: a6 :: a7 :: a8 :: a9 :: a10 :: some (.int x) :: tl) (.int x :: st) h K) : Ex sc k pc (a0 :: a1 :: a2 :: a3 :: a4 :: a5 :: a6 :: a7 :: a8 :: a9 :: a10 :: some (.int x) :: tl) st h K := x_iload (i := 11) g0 g1 rfl p0
theorem xald_11 {sc : ax_S} {k pc q : Nat} {st : List Value} {h : ax_H} {K : ax_K} {tl : List (Option Value)} {a0 a1 a2 a3 a4 a5 a6 a7 a8 a9 a10 : Option Value} {o : Nat} (g0 : decode (g_m k).2.1 pc = .ok (.aload 11, 2)) (g1 : pc + 2 = q) (p0 : Ex sc k q (a0 :: a1 :: a2 :: a3 :: a4 :: a5 :: a6 :: a7 :: a8 :: a9 :: a10 :: some (.ref o) :: tl) (.ref o :: st) h K) : Ex sc k pc (a0 :: a1 :: a2 :: a3 :: a4 :: a5 :: a6 :: a7 :: a8 :: a9 :: a10 :: some (.ref o) :: tl) st h K := x_aload (i := 11) g0 g1 rfl p0
theorem xsld_11 {sc : ax_S} {k pc q : Nat} {st : List Value} {h : ax_H} {K : ax_K} {tl : List (Option Value)} {a0 a1 a2 a3 a4 a5 a6 a7 a8 a9 a10 : Option Value} {o : Nat} (g0 : decode (g_m k).2.1 pc = .ok (.aload 11, 2)) (g1 : pc + 2 = q) (p0 : Ex sc k q (a0 :: a1 :: a2 :: a3 :: a4 :: a5 :: a6 :: a7 :: a8 :: a9 :: a10 :: some (.retAddr o) :: tl) (.retAddr o :: st) h K) : Ex sc k pc (a0 :: a1 :: a2 :: a3 :: a4 :: a5 :: a6 :: a7 :: a8 :: a9 :: a10 :: some (.retAddr o) :: tl) st h K := x_aloadS (i := 11) g0 g1 rfl p0
theorem xist_11 {sc : ax_S} {k pc q : Nat} {st : List Value} {h : ax_H} {K : ax_K} {tl : List (Option Value)} {a0 a1 a2 a3 a4 a5 a6 a7 a8 a9 a10 : Option Value} {x : Int32} {b0 : Option Value} (g0 : decode (g_m k).2.1 pc = .ok (.istore 11, 2)) (g1 : pc + 2 = q) (p0 : Ex sc k q (a0 :: a1 :: a2 :: a3 :: a4 :: a5 :: a6 :: a7 :: a8 :: a9 :: a10 :: some (.int x) :: tl) st h K) : Ex sc k pc (a0 :: a1 :: a2 :: a3 :: a4 :: a5 :: a6 :: a7 :: a8 :: a9 :: a10 :: b0 :: tl) (.int x :: st) h K := x_istore (i := 11) g0 g1 (by simp only [List.length_cons]; omega) p0
theorem xast_11 {sc : ax_S} {k pc q : Nat} {st : List Value} {h : ax_H} {K : ax_K} {tl : List (Option Value)} {a0 a1 a2 a3 a4 a5 a6 a7 a8 a9 a10 : Option Value} {o : Nat} {b0 : Option Value} (g0 : decode (g_m k).2.1 pc = .ok (.astore 11, 2)) (g1 : pc + 2 = q) (p0 : Ex sc k q (a0 :: a1 :: a2 :: a3 :: a4 :: a5 :: a6 :: a7 :: a8 :: a9 :: a10 :: some (.ref o) :: tl) st h K) : Ex sc k pc (a0 :: a1 :: a2 :: a3 :: a4 :: a5 :: a6 :: a7 :: a8 :: a9 :: a10 :: b0 :: tl) (.ref o :: st) h K := x_astore (i := 11) g0 g1 (by simp only [List.length_cons]; omega) p0
theorem xinc_11 {sc : ax_S} {k pc q : Nat} {st : List Value} {h : ax_H} {K : ax_K} {tl : List (Option Value)} {a0 a1 a2 a3 a4 a5 a6 a7 a8 a9 a10 : Option Value} {x v : Int32} {n : Int} (g0 : decode (g_m k).2.1 pc = .ok (.iinc 11 n, 3)) (g1 : pc + 3 = q) (g2 : x + Int32.ofInt n = v) (p0 : Ex sc k q (a0 :: a1 :: a2 :: a3 :: a4 :: a5 :: a6 :: a7 :: a8 :: a9 :: a10 :: some (.int v) :: tl) st h K) : Ex sc k pc (a0 :: a1 :: a2 :: a3 :: a4 :: a5 :: a6 :: a7 :: a8 :: a9 :: a10 :: some (.int x) :: tl) st h K := x_iinc (i := 11) g0 g1 rfl g2 p0
theorem xild_12 {sc : ax_S} {k pc q : Nat} {st : List Value} {h : ax_H} {K : ax_K} {tl : List (Option Value)} {a0 a1 a2 a3 a4 a5 a6 a7 a8 a9 a10 a11 : Option Value} {x : Int32} (g0 : decode (g_m k).2.1 pc = .ok (.iload 12, 2)) (g1 : pc + 2 = q) (p0 : Ex sc k q (a0 :: a1 :: a2 :: a3 :: a4 :: a5 :: a6 :: a7 :: a8 :: a9 :: a10 :: a11 :: some (.int x) :: tl) (.int x :: st) h K) : Ex sc k pc (a0 :: a1 :: a2 :: a3 :: a4 :: a5 :: a6 :: a7 :: a8 :: a9 :: a10 :: a11 :: some (.int x) :: tl) st h K := x_iload (i := 12) g0 g1 rfl p0
theorem xald_12 {sc : ax_S} {k pc q : Nat} {st : List Value} {h : ax_H} {K : ax_K} {tl : List (Option Value)} {a0 a1 a2 a3 a4 a5 a6 a7 a8 a9 a10 a11 : Option Value} {o : Nat} (g0 : decode (g_m k).2.1 pc = .ok (.aload 12, 2)) (g1 : pc + 2 = q) (p0 : Ex sc k q (a0 :: a1 :: a2 :: a3 :: a4 :: a5 :: a6 :: a7 :: a8 :: a9 :: a10 :: a11 :: some (.ref o) :: tl) (.ref o :: st) h K) : Ex sc k pc (a0 :: a1 :: a2 :: a3 :: a4 :: a5 :: a6 :: a7 :: a8 :: a9 :: a10 :: a11 :: some (.ref o) :: tl) st h K := x_aload (i := 12) g0 g1 rfl p0
theorem xsld_12 {sc : ax_S} {k pc q : Nat} {st : List Value} {h : ax_H} {K : ax_K} {tl : List (Option Value)} {a0 a1 a2 a3 a4 a5 a6 a7 a8 a9 a10 a11 : Option Value} {o : Nat} (g0 : decode (g_m k).2.1 pc = .ok (.aload 12, 2)) (g1 : pc + 2 = q) (p0 : Ex sc k q (a0 :: a1 :: a2 :: a3 :: a4 :: a5 :: a6 :: a7 :: a8 :: a9 :: a10 :: a11 :: some (.retAddr o) :: tl) (.retAddr o :: st) h K) : Ex sc k pc (a0 :: a1 :: a2 :: a3 :: a4 :: a5 :: a6 :: a7 :: a8 :: a9 :: a10 :: a11 :: some (.retAddr o) :: tl) st h K := x_aloadS (i := 12) g0 g1 rfl p0
theorem xist_12 {sc : ax_S} {k pc q : Nat} {st : List Value} {h : ax_H} {K : ax_K} {tl : List (Option Value)} {a0 a1 a2 a3 a4 a5 a6 a7 a8 a9 a10 a11 : Option Value} {x : Int32} {b0 : Option Value} (g0 : decode (g_m k).2.1 pc = .ok (.istore 12, 2)) (g1 : pc + 2 = q) (p0 : Ex sc k q (a0 :: a1 :: a2 :: a3 :: a4 :: a5 :: a6 :: a7 :: a8 :: a9 :: a10 :: a11 :: some (.int x) :: tl) st h K) : Ex sc k pc (a0 :: a1 :: a2 :: a3 :: a4 :: a5 :: a6 :: a7 :: a8 :: a9 :: a10 :: a11 :: b0 :: tl) (.int x :: st) h K := x_istore (i := 12) g0 g1 (by simp only [List.length_cons]; omega) p0
theorem xast_12 {sc : ax_S} {k pc q : Nat} {st : List Value} {h : ax_H} {K : ax_K} {tl : List (Option Value)} {a0 a1 a2 a3 a4 a5 a6 a7 a8 a9 a10 a11 : Option Value} {o : Nat} {b0 : Option Value} (g0 : decode (g_m k).2.1 pc = .ok (.astore 12, 2)) (g1 : pc + 2 = q) (p0 : Ex sc k q (a0 :: a1 :: a2 :: a3 :: a4 :: a5 :: a6 :: a7 :: a8 :: a9 :: a10 :: a11 :: some (.ref o) :: tl) st h K) : Ex sc k pc (a0 :: a1 :: a2 :: a3 :: a4 :: a5 :: a6 :: a7 :: a8 :: a9 :: a10 :: a11 :: b0 :: tl) (.ref o :: st) h K := x_astore (i := 12) g0 g1 (by simp only [List.length_cons]; omega) p0
theorem xinc_12 {sc : ax_S} {k pc q : Nat} {st : List Value} {h : ax_H} {K : ax_K} {tl : List (Option Value)} {a0 a1 a2 a3 a4 a5 a6 a7 a8 a9 a10 a11 : Option Value} {x v : Int32} {n : Int} (g0 : decode (g_m k).2.1 pc = .ok (.iinc 12 n, 3)) (g1 : pc + 3 = q) (g2 : x + Int32.ofInt n = v) (p0 : Ex sc k q (a0 :: a1 :: a2 :: a3 :: a4 :: a5 :: a6 :: a7 :: a8 :: a9 :: a10 :: a11 :: some (.int v) :: tl) st h K) : Ex sc k pc (a0 :: a1 :: a2 :: a3 :: a4 :: a5 :: a6 :: a7 :: a8 :: a9 :: a10 :: a11 :: some (.int x) :: tl) st h K := x_iinc (i := 12) g0 g1 rfl g2 p0
theorem xild_13 {sc : ax_S} {k pc q : Nat} {st : List Value} {h : ax_H} {K : ax_K} {tl : List (Option Value)} {a0 a1 a2 a3 a4 a5 a6 a7 a8 a9 a10 a11 a12 : Option Value} {x : Int32} (g0 : decode (g_m k).2.1 pc = .ok (.iload 13, 2)) (g1 : pc + 2 = q) (p0 : Ex sc k q (a0 :: a1 :: a2 :: a3 :: a4 :: a5 :: a6 :: a7 :: a8 :: a9 :: a10 :: a11 :: a12 :: some (.int x) :: tl) (.int x :: st) h K) : Ex sc k pc (a0 :: a1 :: a2 :: a3 :: a4 :: a5 :: a6 :: a7 :: a8 :: a9 :: a10 :: a11 :: a12 :: some (.int x) :: tl) st h K := x_iload (i := 13) g0 g1 rfl p0
theorem xald_13 {sc : ax_S} {k pc q : Nat} {st : List Value} {h : ax_H} {K : ax_K} {tl : List (Option Value)} {a0 a1 a2 a3 a4 a5 a6 a7 a8 a9 a10 a11 a12 : Option Value} {o : Nat} (g0 : decode (g_m k).2.1 pc = .ok (.aload 13, 2)) (g1 : pc + 2 = q) (p0 : Ex sc k q (a0 :: a1 :: a2 :: a3 :: a4 :: a5 :: a6 :: a7 :: a8 :: a9 :: a10 :: a11 :: a12 :: some (.ref o) :: tl) (.ref o :: st) h K) : Ex sc k pc (a0 :: a1 :: a2 :: a3 :: a4 :: a5 :: a6 :: a7 :: a8 :: a9 :: a10 :: a11 :: a12 :: some (.ref o) :: tl) st h K := x_aload (i := 13) g0 g1 rfl p0
theorem xsld_13 {sc : ax_S} {k pc q : Nat} {st : List Value} {h : ax_H} {K : ax_K} {tl : List (Option Value)} {a0 a1 a2 a3 a4 a5 a6 a7 a8 a9 a10 a11 a12 : Option Value} {o : Nat} (g0 : decode (g_m k).2.1 pc = .ok (.aload 13, 2)) (g1 : pc + 2 = q) (p0 : Ex sc k q (a0 :: a1 :: a2 :: a3 :: a4 :: a5 :: a6 :: a7 :: a8 :: a9 :: a10 :: a11 :: a12 :: some (.retAddr o) :: tl) (.retAddr o :: st) h K) : Ex sc k pc (a0 :: a1 :: a2 :: a3 :: a4 :: a5 :: a6 :: a7 :: a8 :: a9 :: a10 :: a11 :: a12 :: some (.retAddr o) :: tl) st h K := x_aloadS (i := 13) g0 g1 rfl p0
theorem xist_13 {sc : ax_S} {k pc q : Nat} {st : List Value} {h : ax_H} {K : ax_K} {tl : List (Option Value)} {a0 a1 a2 a3 a4 a5 a6 a7 a8 a9 a10 a11 a12 : Option Value} {x : Int32} {b0 : Option Value} (g0 : decode (g_m k).2.1 pc = .ok (.istore 13, 2)) (g1 : pc + 2 = q) (p0 : Ex sc k q (a0 :: a1 :: a2 :: a3 :: a4 :: a5 :: a6 :: a7 :: a8 :: a9 :: a10 :: a11 :: a12 :: some (.int x) :: tl) st h K) : Ex sc k pc (a0 :: a1 :: a2 :: a3 :: a4 :: a5 :: a6 :: a7 :: a8 :: a9 :: a10 :: a11 :: a12 :: b0 :: tl) (.int x :: st) h K := x_istore (i := 13) g0 g1 (by simp only [List.length_cons]; omega) p0
theorem xast_13 {sc : ax_S} {k pc q : Nat} {st : List Value} {h : ax_H} {K : ax_K} {tl : List (Option Value)} {a0 a1 a2 a3 a4 a5 a6 a7 a8 a9 a10 a11 a12 : Option Value} {o : Nat} {b0 : Option Value} (g0 : decode (g_m k).2.1 pc = .ok (.astore 13, 2)) (g1 : pc + 2 = q) (p0 : Ex sc k q (a0 :: a1 :: a2 :: a3 :: a4 :: a5 :: a6 :: a7 :: a8 :: a9 :: a10 :: a11 :: a12 :: some (.ref o) :: tl) st h K) : Ex sc k pc (a0 :: a1 :: a2 :: a3 :: a4 :: a5 :: a6 :: a7 :: a8 :: a9 :: a10 :: a11 :: a12 :: b0 :: tl) (.ref o :: st) h K := x_astore (i := 13) g0 g1 (by simp only [List.length_cons]; omega) p0
theorem xinc_13 {sc : ax_S} {k pc q : Nat} {st : List Value} {h : ax_H} {K : ax_K} {tl : List (Option Value)} {a0 a1 a2 a3 a4 a5 a6 a7 a8 a9 a10 a11 a12 : Option Value} {x v : Int32} {n : Int} (g0 : decode (g_m k).2.1 pc = .ok (.iinc 13 n, 3)) (g1 : pc + 3 = q) (g2 : x + Int32.ofInt n = v) (p0 : Ex sc k q (a0 :: a1 :: a2 :: a3 :: a4 :: a5 :: a6 :: a7 :: a8 :: a9 :: a10 :: a11 :: a12 :: some (.int v) :: tl) st h K) : Ex sc k pc (a0 :: a1 :: a2 :: a3 :: a4 :: a5 :: a6 :: a7 :: a8 :: a9 :: a10 :: a11 :: a12 :: some (.int x) :: tl) st h K := x_iinc (i := 13) g0 g1 rfl g2 p0
theorem xild_14 {sc : ax_S} {k pc q : Nat} {st : List Value} {h : ax_H} {K : ax_K} {tl : List (Option Value)} {a0 a1 a2 a3 a4 a5 a6 a7 a8 a9 a10 a11 a12 a13 : Option Value} {x : Int32} (g0 : decode (g_m k).2.1 pc = .ok (.iload 14, 2)) (g1 : pc + 2 = q) (p0 : Ex sc k q (a0 :: a1 :: a2 :: a3 :: a4 :: a5 :: a6 :: a7 :: a8 :: a9 :: a10 :: a11 :: a12 :: a13 :: some (.int x) :: tl) (.int x :: st) h K) : Ex sc k pc (a0 :: a1 :: a2 :: a3 :: a4 :: a5 :: a6 :: a7 :: a8 :: a9 :: a10 :: a11 :: a12 :: a13 :: some (.int x) :: tl) st h K := x_iload (i := 14) g0 g1 rfl p0
theorem xald_14 {sc : ax_S} {k pc q : Nat} {st : List Value} {h : ax_H} {K : ax_K} {tl : List (Option Value)} {a0 a1 a2 a3 a4 a5 a6 a7 a8 a9 a10 a11 a12 a13 : Option Value} {o : Nat} (g0 : decode (g_m k).2.1 pc = .ok (.aload 14, 2)) (g1 : pc + 2 = q) (p0 : Ex sc k q (a0 :: a1 :: a2 :: a3 :: a4 :: a5 :: a6 :: a7 :: a8 :: a9 :: a10 :: a11 :: a12 :: a13 :: some (.ref o) :: tl) (.ref o :: st) h K) : Ex sc k pc (a0 :: a1 :: a2 :: a3 :: a4 :: a5 :: a6 :: a7 :: a8 :: a9 :: a10 :: a11 :: a12 :: a13 :: some (.ref o) :: tl) st h K := x_aload (i := 14) g0 g1 rfl p0
theorem xsld_14 {sc : ax_S} {k pc q : Nat} {st : List Value} {h : ax_H} {K : ax_K} {tl : List (Option Value)} {a0 a1 a2 a3 a4 a5 a6 a7 a8 a9 a10 a11 a12 a13 : Option Value} {o : Nat} (g0 : decode (g_m k).2.1 pc = .ok (.aload 14, 2)) (g1 : pc + 2 = q) (p0 : Ex sc k q (a0 :: a1 :: a2 :: a3 :: a4 :: a5 :: a6 :: a7 :: a8 :: a9 :: a10 :: a11 :: a12 :: a13 :: some (.retAddr o) :: tl) (.retAddr o :: st) h K) : Ex sc k pc (a0 :: a1 :: a2 :: a3 :: a4 :: a5 :: a6 :: a7 :: a8 :: a9 :: a10 :: a11 :: a12 :: a13 :: some (.retAddr o) :: tl) st h K := x_aloadS (i := 14) g0 g1 rfl p0
theorem xist_14 {sc : ax_S} {k pc q : Nat} {st : List Value} {h : ax_H} {K : ax_K} {tl : List (Option Value)} {a0 a1 a2 a3 a4 a5 a6 a7 a8 a9 a10 a11 a12 a13 : Option Value} {x : Int32} {b0 : Option Value} (g0 : decode (g_m k).2.1 pc = .ok (.istore 14, 2)) (g1 : pc + 2 = q) (p0 : Ex sc k q (a0 :: a1 :: a2 :: a3 :: a4 :: a5 :: a6 :: a7 :: a8 :: a9 :: a10 :: a11 :: a12 :: a13 :: some (.int x) :: tl) st h K) : Ex sc k pc (a0 :: a1 :: a2 :: a3 :: a4 :: a5 :: a6 :: a7 :: a8 :: a9 :: a10 :: a11 :: a12 :: a13 :: b0 :: tl) (.int x :: st) h K := x_istore (i := 14) g0 g1 (by simp only [List.length_cons]; omega) p0
theorem xast_14 {sc : ax_S} {k pc q : Nat} {st : List Value} {h : ax_H} {K : ax_K} {tl : List (Option Value)} {a0 a1 a2 a3 a4 a5 a6 a7 a8 a9 a10 a11 a12 a13 : Option Value} {o : Nat} {b0 : Option Value} (g0 : decode (g_m k).2.1 pc = .ok (.astore 14, 2)) (g1 : pc + 2 = q) (p0 : Ex sc k q (a0 :: a1 :: a2 :: a3 :: a4 :: a5 :: a6 :: a7 :: a8 :: a9 :: a10 :: a11 :: a12 :: a13 :: some (.ref o) :: tl) st h K) : Ex sc k pc (a0 :: a1 :: a2 :: a3 :: a4 :: a5 :: a6 :: a7 :: a8 :: a9 :: a10 :: a11 :: a12 :: a13 :: b0 :: tl) (.ref o :: st) h K := x_astore (i := 14) g0 g1 (by simp only [List.length_cons]; omega) p0
theorem xinc_14 {sc : ax_S} {k pc q : Nat} {st : List Value} {h : ax_H} {K : ax_K} {tl : List (Option Value)} {a0 a1 a2 a3 a4 a5 a6 a7 a8 a9 a10 a11 a12 a13 : Option Value} {x v : Int32} {n : Int} (g0 : decode (g_m k).2.1 pc = .ok (.iinc 14 n, 3)) (g1 : pc + 3 = q) (g2 : x + Int32.ofInt n = v) (p0 : Ex sc k q (a0 :: a1 :: a2 :: a3 :: a4 :: a5 :: a6 :: a7 :: a8 :: a9 :: a10 :: a11 :: a12 :: a13 :: some (.int v) :: tl) st h K) : Ex sc k pc (a0 :: a1 :: a2 :: a3 :: a4 :: a5 :: a6 :: a7 :: a8 :: a9 :: a10 :: a11 :: a12 :: a13 :: some (.int x) :: tl) st h K := x_iinc (i := 14) g0 g1 rfl g2 p0
theorem xild_15 {sc : ax_S} {k pc q : Nat} {st : List Value} {h : ax_H} {K : ax_K} {tl : List (Option Value)} {a0 a1 a2 a3 a4 a5 a6 a7 a8 a9 a10 a11 a12 a13 a14 : Option Value} {x : Int32} (g0 : decode (g_m k).2.1 pc = .ok (.iload 15, 2)) (g1 : pc + 2 = q) (p0 : Ex sc k q (a0 :: a1 :: a2 :: a3 :: a4 :: a5 :: a6 :: a7 :: a8 :: a9 :: a10 :: a11 :: a12 :: a13 :: a14 :: some (.int x) :: tl) (.int x :: st) h K) : Ex sc k pc (a0 :: a1 :: a2 :: a3 :: a4 :: a5 :: a6 :: a7 :: a8 :: a9 :: a10 :: a11 :: a12 :: a13 :: a14 :: some (.int x) :: tl) st h K := x_iload (i := 15) g0 g1 rfl p0
theorem xald_15 {sc : ax_S} {k pc q : Nat} {st : List Value} {h : ax_H} {K : ax_K} {tl : List (Option Value)} {a0 a1 a2 a3 a4 a5 a6 a7 a8 a9 a10 a11 a12 a13 a14 : Option Value} {o : Nat} (g0 : decode (g_m k).2.1 pc = .ok (.aload 15, 2)) (g1 : pc + 2 = q) (p0 : Ex sc k q (a0 :: a1 :: a2 :: a3 :: a4 :: a5 :: a6 :: a7 :: a8 :: a9 :: a10 :: a11 :: a12 :: a13 :: a14 :: some (.ref o) :: tl) (.ref o :: st) h K) : Ex sc k pc (a0 :: a1 :: a2 :: a3 :: a4 :: a5 :: a6 :: a7 :: a8 :: a9 :: a10 :: a11 :: a12 :: a13 :: a14 :: some (.ref o) :: tl) st h K := x_aload (i := 15) g0 g1 rfl p0
theorem xsld_15 {sc : ax_S} {k pc q : Nat} {st : List Value} {h : ax_H} {K : ax_K} {tl : List (Option Value)} {a0 a1 a2 a3 a4 a5 a6 a7 a8 a9 a10 a11 a12 a13 a14 : Option Value} {o : Nat} (g0 : decode (g_m k).2.1 pc = .ok (.aload 15, 2)) (g1 : pc + 2 = q) (p0 : Ex sc k q (a0 :: a1 :: a2 :: a3 :: a4 :: a5 :: a6 :: a7 :: a8 :: a9 :: a10 :: a11 :: a12 :: a13 :: a14 :: some (.retAddr o) :: tl) (.retAddr o :: st) h K) : Ex sc k pc (a0 :: a1 :: a2 :: a3 :: a4 :: a5 :: a6 :: a7 :: a8 :: a9 :: a10 :: a11 :: a12 :: a13 :: a14 :: some (.retAddr o) :: tl) st h K := x_aloadS (i := 15) g0 g1 rfl p0
theorem xist_15 {sc : ax_S} {k pc q : Nat} {st : List Value} {h : ax_H} {K : ax_K} {tl : List (Option Value)} {a0 a1 a2 a3 a4 a5 a6 a7 a8 a9 a10 a11 a12 a13 a14 : Option Value} {x : Int32} {b0 : Option Value} (g0 : decode (g_m k).2.1 pc = .ok (.istore 15, 2)) (g1 : pc + 2 = q) (p0 : Ex sc k q (a0 :: a1 :: a2 :: a3 :: a4 :: a5 :: a6 :: a7 :: a8 :: a9 :: a10 :: a11 :: a12 :: a13 :: a14 :: some (.int x) :: tl) st h K) : Ex sc k pc (a0 :: a1 :: a2 :: a3 :: a4 :: a5 :: a6 :: a7 :: a8 :: a9 :: a10 :: a11 :: a12 :: a13 :: a14 :: b0 :: tl) (.int x :: st) h K := x_istore (i := 15) g0 g1 (by simp only [List.length_cons]; omega) p0
theorem xast_15 {sc : ax_S} {k pc q : Nat} {st : List Value} {h : ax_H} {K : ax_K} {tl : List (Option Value)} {a0 a1 a2 a3 a4 a5 a6 a7 a8 a9 a10 a11 a12 a13 a14 : Option Value} {o : Nat} {b0 : Option Value} (g0 : decode (g_m k).2.1 pc = .ok (.astore 15, 2)) (g1 : pc + 2 = q) (p0 : Ex sc k q (a0 :: a1 :: a2 :: a3 :: a4 :: a5 :: a6 :: a7 :: a8 :: a9 :: a10 :: a11 :: a12 :: a13 :: a14 :: some (.ref o) :: tl) st h K) : Ex sc k pc (a0 :: a1 :: a2 :: a3 :: a4 :: a5 :: a6 :: a7 :: a8 :: a9 :: a10 :: a11 :: a12 :: a13 :: a14 :: b0 :: tl) (.ref o :: st) h K := x_astore (i := 15) g0 g1 (by simp only [List.length_cons]; omega) p0
theorem xinc_15 {sc : ax_S} {k pc q : Nat} {st : List Value} {h : ax_H} {K : ax_K} {tl : List (Option Value)} {a0 a1 a2 a3 a4 a5 a6 a7 a8 a9 a10 a11 a12 a13 a14 : Option Value} {x v : Int32} {n : Int} (g0 : decode (g_m k).2.1 pc = .ok (.iinc 15 n, 3)) (g1 : pc + 3 = q) (g2 : x + Int32.ofInt n = v) (p0 : Ex sc k q (a0 :: a1 :: a2 :: a3 :: a4 :: a5 :: a6 :: a7 :: a8 :: a9 :: a10 :: a11 :: a12 :: a13 :: a14 :: some (.int v) :: tl) st h K) : Ex sc k pc (a0 :: a1 :: a2 :: a3 :: a4 :: a5 :: a6 :: a7 :: a8 :: a9 :: a10 :: a11 :: a12 :: a13 :: a14 :: some (.int x) :: tl) st h K := x_iinc (i := 15) g0 g1 rfl g2 p0
theorem xild_16 {sc : ax_S} {k pc q : Nat} {st : List Value} {h : ax_H} {K : ax_K} {tl : List (Option Value)} {a0 a1 a2 a3 a4 a5 a6 a7 a8 a9 a10 a11 a12 a13 a14 a15 : Option Value} {x : Int32} (g0 : decode (g_m k).2.1 pc = .ok (.iload 16, 2)) (g1 : pc + 2 = q) (p0 : Ex sc k q (a0 :: a1 :: a2 :: a3 :: a4 :: a5 :: a6 :: a7 :: a8 :: a9 :: a10 :: a11 :: a12 :: a13 :: a14 :: a15 :: some (.int x) :: tl) (.int x :: st) h K) : Ex sc k pc (a0 :: a1 :: a2 :: a3 :: a4 :: a5 :: a6 :: a7 :: a8 :: a9 :: a10 :: a11 :: a12 :: a13 :: a14 :: a15 :: some (.int x) :: tl) st h K := x_iload (i := 16) g0 g1 rfl p0
theorem xald_16 {sc : ax_S} {k pc q : Nat} {st : List Value} {h : ax_H} {K : ax_K} {tl : List (Option Value)} {a0 a1 a2 a3 a4 a5 a6 a7 a8 a9 a10 a11 a12 a13 a14 a15 : Option Value} {o : Nat} (g0 : decode (g_m k).2.1 pc = .ok (.aload 16, 2)) (g1 : pc + 2 = q) (p0 : Ex sc k q (a0 :: a1 :: a2 :: a3 :: a4 :: a5 :: a6 :: a7 :: a8 :: a9 :: a10 :: a11 :: a12 :: a13 :: a14 :: a15 :: some (.ref o) :: tl) (.ref o :: st) h K) : Ex sc k pc (a0 :: a1 :: a2 :: a3 :: a4 :: a5 :: a6 :: a7 :: a8 :: a9 :: a10 :: a11 :: a12 :: a13 :: a14 :: a15 :: some (.ref o) :: tl) st h K := x_aload (i := 16) g0 g1 rfl p0
theorem xsld_16 {sc : ax_S} {k pc q : Nat} {st : List Value} {h : ax_H} {K : ax_K} {tl : List (Option Value)} {a0 a1 a2 a3 a4 a5 a6 a7 a8 a9 a10 a11 a12 a13 a14 a15 : Option Value} {o : Nat} (g0 : decode (g_m k).2.1 pc = .ok (.aload 16, 2)) (g1 : pc + 2 = q) (p0 : Ex sc k q (a0 :: a1 :: a2 :: a3 :: a4 :: a5 :: a6 :: a7 :: a8 :: a9 :: a10 :: a11 :: a12 :: a13 :: a14 :: a15 :: some (.retAddr o) :: tl) (.retAddr o :: st) h K) : Ex sc k pc (a0 :: a1 :: a2 :: a3 :: a4 :: a5 :: a6 :: a7 :: a8 :: a9 :: a10 :: a11 :: a12 :: a13 :: a14 :: a15 :: some (.retAddr o) :: tl) st h K := x_aloadS (i := 16) g0 g1 rfl p0
theorem xist_16 {sc : ax_S} {k pc q : Nat} {st : List Value} {h : ax_H} {K : ax_K} {tl : List (Option Value)} {a0 a1 a2 a3 a4 a5 a6 a7 a8 a9 a10 a11 a12 a13 a14 a15 : Option Value} {x : Int32} {b0 : Option Value} (g0 : decode (g_m k).2.1 pc = .ok (.istore 16, 2)) (g1 : pc + 2 = q) (p0 : Ex sc k q (a0 :: a1 :: a2 :: a3 :: a4 :: a5 :: a6 :: a7 :: a8 :: a9 :: a10 :: a11 :: a12 :: a13 :: a14 :: a15 :: some (.int x) :: tl) st h K) : Ex sc k pc (a0 :: a1 :: a2 :: a3 :: a4 :: a5 :: a6 :: a7 :: a8 :: a9 :: a10 :: a11 :: a12 :: a13 :: a14 :: a15 :: b0 :: tl) (.int x :: st) h K := x_istore (i := 16) g0 g1 (by simp only [List.length_cons]; omega) p0
theorem xast_16 {sc : ax_S} {k pc q : Nat} {st : List Value} {h : ax_H} {K : ax_K} {tl : List (Option Value)} {a0 a1 a2 a3 a4 a5 a6 a7 a8 a9 a10 a11 a12 a13 a14 a15 : Option Value} {o : Nat} {b0 : Option Value} (g0 : decode (g_m k).2.1 pc = .ok (.astore 16, 2)) (g1 : pc + 2 = q) (p0 : Ex sc k q (a0 :: a1 :: a2 :: a3 :: a4 :: a5 :: a6 :: a7 :: a8 :: a9 :: a10 :: a11 :: a12 :: a13 :: a14 :: a15 :: some (.ref o) :: tl) st h K) : Ex sc k pc (a0 :: a1 :: a2 :: a3 :: a4 :: a5 :: a6 :: a7 :: a8 :: a9 :: a10 :: a11 :: a12 :: a13 :: a14 :: a15 :: b0 :: tl) (.ref o :: st) h K := x_astore (i := 16) g0 g1 (by simp only [List.length_cons]; omega) p0
theorem xinc_16 {sc : ax_S} {k pc q : Nat} {st : List Value} {h : ax_H} {K : ax_K} {tl : List (Option Value)} {a0 a1 a2 a3 a4 a5 a6 a7 a8 a9 a10 a11 a12 a13 a14 a15 : Option Value} {x v : Int32} {n : Int} (g0 : decode (g_m k).2.1 pc = .ok (.iinc 16 n, 3)) (g1 : pc + 3 = q) (g2 : x + Int32.ofInt n = v) (p0 : Ex sc k q (a0 :: a1 :: a2 :: a3 :: a4 :: a5 :: a6 :: a7 :: a8 :: a9 :: a10 :: a11 :: a12 :: a13 :: a14 :: a15 :: some (.int v) :: tl) st h K) : Ex sc k pc (a0 :: a1 :: a2 :: a3 :: a4 :: a5 :: a6 :: a7 :: a8 :: a9 :: a10 :: a11 :: a12 :: a13 :: a14 :: a15 :: some (.int x) :: tl) st h K := x_iinc (i := 16) g0 g1 rfl g2 p0
theorem xild_17 {sc : ax_S} {k pc q : Nat} {st : List Value} {h : ax_H} {K : ax_K} {tl : List (Option Value)} {a0 a1 a2 a3 a4 a5 a6 a7 a8 a9 a10 a11 a12 a13 a14 a15 a16 : Option Value} {x : Int32} (g0 : decode (g_m k).2.1 pc = .ok (.iload 17, 2)) (g1 : pc + 2 = q) (p0 : Ex sc k q (a0 :: a1 :: a2 :: a3 :: a4 :: a5 :: a6 :: a7 :: a8 :: a9 :: a10 :: a11 :: a12 :: a13 :: a14 :: a15 :: a16 :: some (.int x) :: tl) (.int x :: st) h K) : Ex sc k pc (a0 :: a1 :: a2 :: a3 :: a4 :: a5 :: a6 :: a7 :: a8 :: a9 :: a10 :: a11 :: a12 :: a13 :: a14 :: a15 :: a16 :: some (.int x) :: tl) st h K := x_iload (i := 17) g0 g1 rfl p0
theorem xald_17 {sc : ax_S} {k pc q : Nat} {st : List Value} {h : ax_H} {K : ax_K} {tl : List (Option Value)} {a0 a1 a2 a3 a4 a5 a6 a7 a8 a9 a10 a11 a12 a13 a14 a15 a16 : Option Value} {o : Nat} (g0 : decode (g_m k).2.1 pc = .ok (.aload 17, 2)) (g1 : pc + 2 = q) (p0 : Ex sc k q (a0 :: a1 :: a2 :: a3 :: a4 :: a5 :: a6 :: a7 :: a8 :: a9 :: a10 :: a11 :: a12 :: a13 :: a14 :: a15 :: a16 :: some (.ref o) :: tl) (.ref o :: st) h K) : Ex sc k pc (a0 :: a1 :: a2 :: a3 :: a4 :: a5 :: a6 :: a7 :: a8 :: a9 :: a10 :: a11 :: a12 :: a13 :: a14 :: a15 :: a16 :: some (.ref o) :: tl) st h K := x_aload (i := 17) g0 g1 rfl p0
theorem xsld_17 {sc : ax_S} {k pc q : Nat} {st : List Value} {h : ax_H} {K : ax_K} {tl : List (Option Value)} {a0 a1 a2 a3 a4 a5 a6 a7 a8 a9 a10 a11 a12 a13 a14 a15 a16 : Option Value} {o : Nat} (g0 : decode (g_m k).2.1 pc = .ok (.aload 17, 2)) (g1 : pc + 2 = q) (p0 : Ex sc k q (a0 :: a1 :: a2 :: a3 :: a4 :: a5 :: a6 :: a7 :: a8 :: a9 :: a10 :: a11 :: a12 :: a13 :: a14 :: a15 :: a16 :: some (.retAddr o) :: tl) (.retAddr o :: st) h K) : Ex sc k pc (a0 :: a1 :: a2 :: a3 :: a4 :: a5 :: a6 :: a7 :: a8 :: a9 :: a10 :: a11 :: a12 :: a13 :: a14 :: a15 :: a16 :: some (.retAddr o) :: tl) st h K := x_aloadS (i := 17) g0 g1 rfl p0
theorem xist_17 {sc : ax_S} {k pc q : Nat} {st : List Value} {h : ax_H} {K : ax_K} {tl : List (Option Value)} {a0 a1 a2 a3 a4 a5 a6 a7 a8 a9 a10 a11 a12 a13 a14 a15 a16 : Option Value} {x : Int32} {b0 : Option Value} (g0 : decode (g_m k).2.1 pc = .ok (.istore 17, 2)) (g1 : pc + 2 = q) (p0 : Ex sc k q (a0 :: a1 :: a2 :: a3 :: a4 :: a5 :: a6 :: a7 :: a8 :: a9 :: a10 :: a11 :: a12 :: a13 :: a14 :: a15 :: a16 :: some (.int x) :: tl) st h K) : Ex sc k pc (a0 :: a1 :: a2 :: a3 :: a4 :: a5 :: a6 :: a7 :: a8 :: a9 :: a10 :: a11 :: a12 :: a13 :: a14 :: a15 :: a16 :: b0 :: tl) (.int x :: st) h K := x_istore (i := 17) g0 g1 (by simp only [List.length_cons]; omega) p0
theorem xast_17 {sc : ax_S} {k pc q : Nat} {st : List Value} {h : ax_H} {K : ax_K} {tl : List (Option Value)} {a0 a1 a2 a3 a4 a5 a6 a7 a8 a9 a10 a11 a12 a13 a14 a15 a16 : Option Value} {o : Nat} {b0 : Option Value} (g0 : decode (g_m k).2.1 pc = .ok (.astore 17, 2)) (g1 : pc + 2 = q) (p0 : Ex sc k q (a0 :: a1 :: a2 :: a3 :: a4 :: a5 :: a6 :: a7 :: a8 :: a9 :: a10 :: a11 :: a12 :: a13 :: a14 :: a15 :: a16 :: some (.ref o) :: tl) st h K) : Ex sc k pc (a0 :: a1 :: a2 :: a3 :: a4 :: a5 :: a6 :: a7 :: a8 :: a9 :: a10 :: a11 :: a12 :: a13 :: a14 :: a15 :: a16 :: b0 :: tl) (.ref o :: st) h K := x_astore (i := 17) g0 g1 (by simp only [List.length_cons]; omega) p0
theorem xinc_17 {sc : ax_S} {k pc q : Nat} {st : List Value} {h : ax_H} {K : ax_K} {tl : List (Option Value)} {a0 a1 a2 a3 a4 a5 a6 a7 a8 a9 a10 a11 a12 a13 a14 a15 a16 : Option Value} {x v : Int32} {n : Int} (g0 : decode (g_m k).2.1 pc = .ok (.iinc 17 n, 3)) (g1 : pc + 3 = q) (g2 : x + Int32.ofInt n = v) (p0 : Ex sc k q (a0 :: a1 :: a2 :: a3 :: a4 :: a5 :: a6 :: a7 :: a8 :: a9 :: a10 :: a11 :: a12 :: a13 :: a14 :: a15 :: a16 :: some (.int v) :: tl) st h K) : Ex sc k pc (a0 :: a1 :: a2 :: a3 :: a4 :: a5 :: a6 :: a7 :: a8 :: a9 :: a10 :: a11 :: a12 :: a13 :: a14 :: a15 :: a16 :: some (.int x) :: tl) st h K := x_iinc (i := 17) g0 g1 rfl g2 p0
theorem xild_18 {sc : ax_S} {k pc q : Nat} {st : List Value} {h : ax_H} {K : ax_K} {tl : List (Option Value)} {a0 a1 a2 a3 a4 a5 a6 a7 a8 a9 a10 a11 a12 a13 a14 a15 a16 a17 : Option Value} {x : Int32} (g0 : decode (g_m k).2.1 pc = .ok (.iload 18, 2)) (g1 : pc + 2 = q) (p0 : Ex sc k q (a0 :: a1 :: a2 :: a3 :: a4 :: a5 :: a6 :: a7 :: a8 :: a9 :: a10 :: a11 :: a12 :: a13 :: a14 :: a15 :: a16 :: a17 :: some (.int x) :: tl) (.int x :: st) h K) : Ex sc k pc (a0 :: a1 :: a2 :: a3 :: a4 :: a5 :: a6 :: a7 :: a8 :: a9 :: a10 :: a11 :: a12 :: a13 :: a14 :: a15 :: a16 :: a17 :: some (.int x) :: tl) st h K := x_iload (i := 18) g0 g1 rfl p0
theorem xald_18 {sc : ax_S} {k pc q : Nat} {st : List Value} {h : ax_H} {K : ax_K} {tl : List (Option Value)} {a0 a1 a2 a3 a4 a5 a6 a7 a8 a9 a10 a11 a12 a13 a14 a15 a16 a17 : Option Value} {o : Nat} (g0 : decode (g_m k).2.1 pc = .ok (.aload 18, 2)) (g1 : pc + 2 = q) (p0 : Ex sc k q (a0 :: a1 :: a2 :: a3 :: a4 :: a5 :: a6 :: a7 :: a8 :: a9 :: a10 :: a11 :: a12 :: a13 :: a14 :: a15 :: a16 :: a17 :: some (.ref o) :: tl) (.ref o :: st) h K) : Ex sc k pc (a0 :: a1 :: a2 :: a3 :: a4 :: a5 :: a6 :: a7 :: a8 :: a9 :: a10 :: a11 :: a12 :: a13 :: a14 :: a15 :: a16 :: a17 :: some (.ref o) :: tl) st h K := x_aload (i := 18) g0 g1 rfl p0
theorem xsld_18 {sc : ax_S} {k pc q : Nat} {st : List Value} {h : ax_H} {K : ax_K} {tl : List (Option Value)} {a0 a1 a2 a3 a4 a5 a6 a7 a8 a9 a10 a11 a12 a13 a14 a15 a16 a17 : Option Value} {o : Nat} (g0 : decode (g_m k).2.1 pc = .ok (.aload 18, 2)) (g1 : pc + 2 = q) (p0 : Ex sc k q (a0 :: a1 :: a2 :: a3 :: a4 :: a5 :: a6 :: a7 :: a8 :: a9 :: a10 :: a11 :: a12 :: a13 :: a14 :: a15 :: a16 :: a17 :: some (.retAddr o) :: tl) (.retAddr o :: st) h K) : Ex sc k pc (a0 :: a1 :: a2 :: a3 :: a4 :: a5 :: a6 :: a7 :: a8 :: a9 :: a10 :: a11 :: a12 :: a13 :: a14 :: a15 :: a16 :: a17 :: some (.retAddr o) :: tl) st h K := x_aloadS (i := 18) g0 g1 rfl p0
theorem xist_18 {sc : ax_S} {k pc q : Nat} {st : List Value} {h : ax_H} {K : ax_K} {tl : List (Option Value)} {a0 a1 a2 a3 a4 a5 a6 a7 a8 a9 a10 a11 a12 a13 a14 a15 a16 a17 : Option Value} {x : Int32} {b0 : Option Value} (g0 : decode (g_m k).2.1 pc = .ok (.istore 18, 2)) (g1 : pc + 2 = q) (p0 : Ex sc k q (a0 :: a1 :: a2 :: a3 :: a4 :: a5 :: a6 :: a7 :: a8 :: a9 :: a10 :: a11 :: a12 :: a13 :: a14 :: a15 :: a16 :: a17 :: some (.int x) :: tl) st h K) : Ex sc k pc (a0 :: a1 :: a2 :: a3 :: a4 :: a5 :: a6 :: a7 :: a8 :: a9 :: a10 :: a11 :: a12 :: a13 :: a14 :: a15 :: a16 :: a17 :: b0 :: tl) (.int x :: st) h K := x_istore (i := 18) g0 g1 (by simp only [List.length_cons]; omega) p0
theorem xast_18 {sc : ax_S} {k pc q : Nat} {st : List Value} {h : ax_H} {K : ax_K} {tl : List (Option Value)} {a0 a1 a2 a3 a4 a5 a6 a7 a8 a9 a10 a11 a12 a13 a14 a15 a16 a17 : Option Value} {o : Nat} {b0 : Option Value} (g0 : decode (g_m k).2.1 pc = .ok (.astore 18, 2)) (g1 : pc + 2 = q) (p0 : Ex sc k q (a0 :: a1 :: a2 :: a3 :: a4 :: a5 :: a6 :: a7 :: a8 :: a9 :: a10 :: a11 :: a12 :: a13 :: a14 :: a15 :: a16 :: a17 :: some (.ref o) :: tl) st h K) : Ex sc k pc (a0 :: a1 :: a2 :: a3 :: a4 :: a5 :: a6 :: a7 :: a8 :: a9 :: a10 :: a11 :: a12 :: a13 :: a14 :: a15 :: a16 :: a17 :: b0 :: tl) (.ref o :: st) h K := x_astore (i := 18) g0 g1 (by simp only [List.length_cons]; omega) p0
theorem xinc_18 {sc : ax_S} {k pc q : Nat} {st : List Value} {h : ax_H} {K : ax_K} {tl : List (Option Value)} {a0 a1 a2 a3 a4 a5 a6 a7 a8 a9 a10 a11 a12 a13 a14 a15 a16 a17 : Option Value} {x v : Int32} {n : Int} (g0 : decode (g_m k).2.1 pc = .ok (.iinc 18 n, 3)) (g1 : pc + 3 = q) (g2 : x + Int32.ofInt n = v) (p0 : Ex sc k q (a0 :: a1 :: a2 :: a3 :: a4 :: a5 :: a6 :: a7 :: a8 :: a9 :: a10 :: a11 :: a12 :: a13 :: a14 :: a15 :: a16 :: a17 :: some (.int v) :: tl) st h K) : Ex sc k pc (a0 :: a1 :: a2 :: a3 :: a4 :: a5 :: a6 :: a7 :: a8 :: a9 :: a10 :: a11 :: a12 :: a13 :: a14 :: a15 :: a16 :: a17 :: some (.int x) :: tl) st h K := x_iinc (i := 18) g0 g1 rfl g2 p0
theorem xild_19 {sc : ax_S} {k pc q : Nat} {st : List Value} {h : ax_H} {K : ax_K} {tl : List (Option Value)} {a0 a1 a2 a3 a4 a5 a6 a7 a8 a9 a10 a11 a12 a13 a14 a15 a16 a17 a18 : Option Value} {x : Int32} (g0 : decode (g_m k).2.1 pc = .ok (.iload 19, 2)) (g1 : pc + 2 = q) (p0 : Ex sc k q (a0 :: a1 :: a2 :: a3 :: a4 :: a5 :: a6 :: a7 :: a8 :: a9 :: a10 :: a11 :: a12 :: a13 :: a14 :: a15 :: a16 :: a17 :: a18 :: some (.int x) :: tl) (.int x :: st) h K) : Ex sc k pc (a0 :: a1 :: a2 :: a3 :: a4 :: a5 :: a6 :: a7 :: a8 :: a9 :: a10 :: a11 :: a12 :: a13 :: a14 :: a15 :: a16 :: a17 :: a18 :: some (.int x) :: tl) st h K := x_iload (i := 19) g0 g1 rfl p0
theorem xald_19 {sc : ax_S} {k pc q : Nat} {st : List Value} {h : ax_H} {K : ax_K} {tl : List (Option Value)} {a0 a1 a2 a3 a4 a5 a6 a7 a8 a9 a10 a11 a12 a13 a14 a15 a16 a17 a18 : Option Value} {o : Nat} (g0 : decode (g_m k).2.1 pc = .ok (.aload 19, 2)) (g1 : pc + 2 = q) (p0 : Ex sc k q (a0 :: a1 :: a2 :: a3 :: a4 :: a5 :: a6 :: a7 :: a8 :: a9 :: a10 :: a11 :: a12 :: a13 :: a14 :: a15 :: a16 :: a17 :: a18 :: some (.ref o) :: tl) (.ref o :: st) h K) : Ex sc k pc (a0 :: a1 :: a2 :: a3 :: a4 :: a5 :: a6 :: a7 :: a8 :: a9 :: a10 :: a11 :: a12 :: a13 :: a14 :: a15 :: a16 :: a17 :: a18 :: some (.ref o) :: tl) st h K := x_aload (i := 19) g0 g1 rfl p0
theorem xsld_19 {sc : ax_S} {k pc q : Nat} {st : List Value} {h : ax_H} {K : ax_K} {tl : List (Option Value)} {a0 a1 a2 a3 a4 a5 a6 a7 a8 a9 a10 a11 a12 a13 a14 a15 a16 a17 a18 : Option Value} {o : Nat} (g0 : decode (g_m k).2.1 pc = .ok (.aload 19, 2)) (g1 : pc + 2 = q) (p0 : Ex sc k q (a0 :: a1 :: a2 :: a3 :: a4 :: a5 :: a6 :: a7 :: a8 :: a9 :: a10 :: a11 :: a12 :: a13 :: a14 :: a15 :: a16 :: a17 :: a18 :: some (.retAddr o) :: tl) (.retAddr o :: st) h K) : Ex sc k pc (a0 :: a1 :: a2 :: a3 :: a4 :: a5 :: a6 :: a7 :: a8 :: a9 :: a10 :: a11 :: a12 :: a13 :: a14 :: a15 :: a16 :: a17 :: a18 :: some (.retAddr o) :: tl) st h K := x_aloadS (i := 19) g0 g1 rfl p0
theorem xist_19 {sc : ax_S} {k pc q : Nat} {st : List Value} {h : ax_H} {K : ax_K} {tl : List (Option Value)} {a0 a1 a2 a3 a4 a5 a6 a7 a8 a9 a10 a11 a12 a13 a14 a15 a16 a17 a18 : Option Value} {x : Int32} {b0 : Option Value} (g0 : decode (g_m k).2.1 pc = .ok (.istore 19, 2)) (g1 : pc + 2 = q) (p0 : Ex sc k q (a0 :: a1 :: a2 :: a3 :: a4 :: a5 :: a6 :: a7 :: a8 :: a9 :: a10 :: a11 :: a12 :: a13 :: a14 :: a15 :: a16 :: a17 :: a18 :: some (.int x) :: tl) st h K) : Ex sc k pc (a0 :: a1 :: a2 :: a3 :: a4 :: a5 :: a6 :: a7 :: a8 :: a9 :: a10 :: a11 :: a12 :: a13 :: a14 :: a15 :: a16 :: a17 :: a18 :: b0 :: tl) (.int x :: st) h K := x_istore (i := 19) g0 g1 (by simp only [List.length_cons]; omega) p0
theorem xast_19 {sc : ax_S} {k pc q : Nat} {st : List Value} {h : ax_H} {K : ax_K} {tl : List (Option Value)} {a0 a1 a2 a3 a4 a5 a6 a7 a8 a9 a10 a11 a12 a13 a14 a15 a16 a17 a18 : Option Value} {o : Nat} {b0 : Option Value} (g0 : decode (g_m k).2.1 pc = .ok (.astore 19, 2)) (g1 : pc + 2 = q) (p0 : Ex sc k q (a0 :: a1 :: a2 :: a3 :: a4 :: a5 :: a6 :: a7 :: a8 :: a9 :: a10 :: a11 :: a12 :: a13 :: a14 :: a15 :: a16 :: a17 :: a18 :: some (.ref o) :: tl) st h K) : Ex sc k pc (a0 :: a1 :: a2 :: a3 :: a4 :: a5 :: a6 :: a7 :: a8 :: a9 :: a10 :: a11 :: a12 :: a13 :: a14 :: a15 :: a16 :: a17 :: a18 :: b0 :: tl) (.ref o :: st) h K := x_astore (i := 19) g0 g1 (by simp only [List.length_cons]; omega) p0
theorem xinc_19 {sc : ax_S} {k pc q : Nat} {st : List Value} {h : ax_H} {K : ax_K} {tl : List (Option Value)} {a0 a1 a2 a3 a4 a5 a6 a7 a8 a9 a10 a11 a12 a13 a14 a15 a16 a17 a18 : Option Value} {x v : Int32} {n : Int} (g0 : decode (g_m k).2.1 pc = .ok (.iinc 19 n, 3)) (g1 : pc + 3 = q) (g2 : x + Int32.ofInt n = v) (p0 : Ex sc k q (a0 :: a1 :: a2 :: a3 :: a4 :: a5 :: a6 :: a7 :: a8 :: a9 :: a10 :: a11 :: a12 :: a13 :: a14 :: a15 :: a16 :: a17 :: a18 :: some (.int v) :: tl) st h K) : Ex sc k pc (a0 :: a1 :: a2 :: a3 :: a4 :: a5 :: a6 :: a7 :: a8 :: a9 :: a10 :: a11 :: a12 :: a13 :: a14 :: a15 :: a16 :: a17 :: a18 :: some (.int x) :: tl) st h K := x_iinc (i := 19) g0 g1 rfl g2 p0
theorem xcV0 {sc : ax_S} {k pc q idx z : Nat} {ls : List (Option Value)} {rest : List Value} {σ : Nat → ax_C} {n bc bs : Nat} {K : ax_K} {o ci : Nat} {fs : List Value} (g0 : decode (g_m k).2.1 pc = .ok (.invokevirtual idx, 3)) (g1 : pc + 3 = q) (g2 : ax_lV (g_m k).1.cls idx z ci) (g3 : ax_mok z 0) (g4 : ax_up z k) (gl : 1 ≤ (g_m z).2.2.1) (g8 : (rest.map fun v => v.category).sum ≤ 8) (go : o < n) (gf : σ o = .inr (ci, fs)) (p0 : Ex sc z 0 (ax_en z [.ref o]) [] (σ, n, 0, 0) (fun v h2 => Ex sc k q ls (ax_ps v rest) (h2.1, h2.2.1, bc, bs) K)) : Ex sc k pc ls (.ref o :: rest) (σ, n, bc, bs) K := x_callV (h := (σ, n, bc, bs)) (vs := []) (mc := 0) (ms := 0) g0 g1 g2 g3 g4 rfl (ax_c1 (fun v hv => by cases hv)) gl g8 (Nat.zero_le _) (Nat.zero_le _) go gf p0
theorem xcS0 {sc : ax_S} {k pc q idx z : Nat} {ls : List (Option Value)} {rest : List Value} {σ : Nat → ax_C} {n bc bs : Nat} {K : ax_K} (g0 : decode (g_m k).2.1 pc = .ok (.invokestatic idx, 3)) (g1 : pc + 3 = q) (g2 : ax_lS (g_m k).1.cls idx z) (g3 : ax_mok z 0) (g4 : ax_up z k) (gl : 0 ≤ (g_m z).2.2.1) (g8 : (rest.map fun v => v.category).sum ≤ 8) (p0 : Ex sc z 0 (ax_en z []) [] (σ, n, 0, 0) (fun v h2 => Ex sc k q ls (ax_ps v rest) (h2.1, h2.2.1, bc, bs) K)) : Ex sc k pc ls (rest) (σ, n, bc, bs) K := x_callS (h := (σ, n, bc, bs)) (vs := []) (mc := 0) (ms := 0) g0 g1 g2 g3 g4 rfl (fun v hv => by cases hv) gl g8 (Nat.zero_le _) (Nat.zero_le _) p0
theorem xcI0 {sc : ax_S} {k pc q idx z : Nat} {ls : List (Option Value)} {rest : List Value} {σ : Nat → ax_C} {n bc bs : Nat} {K : ax_K} {o mc ms : Nat} (g0 : decode (g_m k).2.1 pc = .ok (.invokespecial idx, 3)) (g1 : pc + 3 = q) (g2 : ax_lI (g_m k).1.cls idx z) (g3 : ax_mok z 0) (g4 : ax_up z k) (gl : 1 ≤ (g_m z).2.2.1) (g8 : (rest.map fun v => v.category).sum ≤ 8) (gmc : mc ≤ bc) (gms : ms ≤ bs) (go : o < n) (gr : (g_m z).2.2.2 = none) (p0 : Ex sc z 0 (ax_en z [.ref o]) [] (σ, n, mc, ms) (fun v h2 => Ex sc k q ls (ax_ps v rest) (h2.1, h2.2.1, bc - mc, bs - ms) K)) : Ex sc k pc ls (.ref o :: rest) (σ, n, bc, bs) K := x_callI (h := (σ, n, bc, bs)) (vs := []) (mc := mc) (ms := ms) g0 g1 g2 g3 g4 rfl (ax_c1 (fun v hv => by cases hv)) gl g8 gmc gms go gr p0
theorem xcV1 {sc : ax_S} {k pc q idx z : Nat} {ls : List (Option Value)} {rest : List Value} {σ : Nat → ax_C} {n bc bs : Nat} {K : ax_K} {y0 : Value} {o ci : Nat} {fs : List Value} (g0 : decode (g_m k).2.1 pc = .ok (.invokevirtual idx, 3)) (g1 : pc + 3 = q) (g2 : ax_lV (g_m k).1.cls idx z ci) (g3 : ax_mok z 1) (g4 : ax_up z k) (gc : ∀ v ∈ ([y0] : List Value), v.category = 1) (gl : 2 ≤ (g_m z).2.2.1) (g8 : (rest.map fun v => v.category).sum ≤ 8) (go : o < n) (gf : σ o = .inr (ci, fs)) (p0 : Ex sc z 0 (ax_en z [.ref o, y0]) [] (σ, n, 0, 0) (fun v h2 => Ex sc k q ls (ax_ps v rest) (h2.1, h2.2.1, bc, bs) K)) : Ex sc k pc ls (y0 :: .ref o :: rest) (σ, n, bc, bs) K := x_callV (h := (σ, n, bc, bs)) (vs := [y0]) (mc := 0) (ms := 0) g0 g1 g2 g3 g4 rfl (ax_c1 gc) gl g8 (Nat.zero_le _) (Nat.zero_le _) go gf p0
theorem xcS1 {sc : ax_S} {k pc q idx z : Nat} {ls : List (Option Value)} {rest : List Value} {σ : Nat → ax_C} {n bc bs : Nat} {K : ax_K} {y0 : Value} (g0 : decode (g_m k).2.1 pc = .ok (.invokestatic idx, 3)) (g1 : pc + 3 = q) (g2 : ax_lS (g_m k).1.cls idx z) (g3 : ax_mok z 1) (g4 : ax_up z k) (gc : ∀ v ∈ ([y0] : List Value), v.category = 1) (gl : 1 ≤ (g_m z).2.2.1) (g8 : (rest.map fun v => v.category).sum ≤ 8) (p0 : Ex sc z 0 (ax_en z [y0]) [] (σ, n, 0, 0) (fun v h2 => Ex sc k q ls (ax_ps v rest) (h2.1, h2.2.1, bc, bs) K)) : Ex sc k pc ls (y0 :: rest) (σ, n, bc, bs) K := x_callS (h := (σ, n, bc, bs)) (vs := [y0]) (mc := 0) (ms := 0) g0 g1 g2 g3 g4 rfl (fun v hv => gc v hv) gl g8 (Nat.zero_le _) (Nat.zero_le _) p0
theorem xcI1 {sc : ax_S} {k pc q idx z : Nat} {ls : List (Option Value)} {rest : List Value} {σ : Nat → ax_C} {n bc bs : Nat} {K : ax_K} {y0 : Value} {o mc ms : Nat} (g0 : decode (g_m k).2.1 pc = .ok (.invokespecial idx, 3)) (g1 : pc + 3 = q) (g2 : ax_lI (g_m k).1.cls idx z) (g3 : ax_mok z 1) (g4 : ax_up z k) (gc : ∀ v ∈ ([y0] : List Value), v.category = 1) (gl : 2 ≤ (g_m z).2.2.1) (g8 : (rest.map fun v => v.category).sum ≤ 8) (gmc : mc ≤ bc) (gms : ms ≤ bs) (go : o < n) (gr : (g_m z).2.2.2 = none) (p0 : Ex sc z 0 (ax_en z [.ref o, y0]) [] (σ, n, mc, ms) (fun v h2 => Ex sc k q ls (ax_ps v rest) (h2.1, h2.2.1, bc - mc, bs - ms) K)) : Ex sc k pc ls (y0 :: .ref o :: rest) (σ, n, bc, bs) K := x_callI (h := (σ, n, bc, bs)) (vs := [y0]) (mc := mc) (ms := ms) g0 g1 g2 g3 g4 rfl (ax_c1 gc) gl g8 gmc gms go gr p0
theorem xcV2 {sc : ax_S} {k pc q idx z : Nat} {ls : List (Option Value)} {rest : List Value} {σ : Nat → ax_C} {n bc bs : Nat} {K : ax_K} {y0 y1 : Value} {o ci : Nat} {fs : List Value} (g0 : decode (g_m k).2.1 pc = .ok (.invokevirtual idx, 3)) (g1 : pc + 3 = q) (g2 : ax_lV (g_m k).1.cls idx z ci) (g3 : ax_mok z 2) (g4 : ax_up z k) (gc : ∀ v ∈ ([y0, y1] : List Value), v.category = 1) (gl : 3 ≤ (g_m z).2.2.1) (g8 : (rest.map fun v => v.category).sum ≤ 8) (go : o < n) (gf : σ o = .inr (ci, fs)) (p0 : Ex sc z 0 (ax_en z [.ref o, y0, y1]) [] (σ, n, 0, 0) (fun v h2 => Ex sc k q ls (ax_ps v rest) (h2.1, h2.2.1, bc, bs) K)) : Ex sc k pc ls (y1 :: y0 :: .ref o :: rest) (σ, n, bc, bs) K := x_callV (h := (σ, n, bc, bs)) (vs := [y0, y1]) (mc := 0) (ms := 0) g0 g1 g2 g3 g4 rfl (ax_c1 gc) gl g8 (Nat.zero_le _) (Nat.zero_le _) go gf p0
theorem xcS2 {sc : ax_S} {k pc q idx z : Nat} {ls : List (Option Value)} {rest : List Value} {σ : Nat → ax_C} {n bc bs : Nat} {K : ax_K} {y0 y1 : Value} (g0 : decode (g_m k).2.1 pc = .ok (.invokestatic idx, 3)) (g1 : pc + 3 = q) (g2 : ax_lS (g_m k).1.cls idx z) (g3 : ax_mok z 2) (g4 : ax_up z k) (gc : ∀ v ∈ ([y0, y1] : List Value), v.category = 1) (gl : 2 ≤ (g_m z).2.2.1) (g8 : (rest.map fun v => v.category).sum ≤ 8) (p0 : Ex sc z 0 (ax_en z [y0, y1]) [] (σ, n, 0, 0) (fun v h2 => Ex sc k q ls (ax_ps v rest) (h2.1, h2.2.1, bc, bs) K)) : Ex sc k pc ls (y1 :: y0 :: rest) (σ, n, bc, bs) K := x_callS (h := (σ, n, bc, bs)) (vs := [y0, y1]) (mc := 0) (ms := 0) g0 g1 g2 g3 g4 rfl (fun v hv => gc v hv) gl g8 (Nat.zero_le _) (Nat.zero_le _) p0
theorem xcI2 {sc : ax_S} {k pc q idx z : Nat} {ls : List (Option Value)} {rest : List Value} {σ : Nat → ax_C} {n bc bs : Nat} {K : ax_K} {y0 y1 : Value} {o mc ms : Nat} (g0 : decode (g_m k).2.1 pc = .ok (.invokespecial idx, 3)) (g1 : pc + 3 = q) (g2 : ax_lI (g_m k).1.cls idx z) (g3 : ax_mok z 2) (g4 : ax_up z k) (gc : ∀ v ∈ ([y0, y1] : List Value), v.category = 1) (gl : 3 ≤ (g_m z).2.2.1) (g8 : (rest.map fun v => v.category).sum ≤ 8) (gmc : mc ≤ bc) (gms : ms ≤ bs) (go : o < n) (gr : (g_m z).2.2.2 = none) (p0 : Ex sc z 0 (ax_en z [.ref o, y0, y1]) [] (σ, n, mc, ms) (fun v h2 => Ex sc k q ls (ax_ps v rest) (h2.1, h2.2.1, bc - mc, bs - ms) K)) : Ex sc k pc ls (y1 :: y0 :: .ref o :: rest) (σ, n, bc, bs) K := x_callI (h := (σ, n, bc, bs)) (vs := [y0, y1]) (mc := mc) (ms := ms) g0 g1 g2 g3 g4 rfl (ax_c1 gc) gl g8 gmc gms go gr p0
theorem xcV3 {sc : ax_S} {k pc q idx z : Nat} {ls : List (Option Value)} {rest : List Value} {σ : Nat → ax_C} {n bc bs : Nat} {K : ax_K} {y0 y1 y2 : Value} {o ci : Nat} {fs : List Value} (g0 : decode (g_m k).2.1 pc = .ok (.invokevirtual idx, 3)) (g1 : pc + 3 = q) (g2 : ax_lV (g_m k).1.cls idx z ci) (g3 : ax_mok z 3) (g4 : ax_up z k) (gc : ∀ v ∈ ([y0, y1, y2] : List Value), v.category = 1) (gl : 4 ≤ (g_m z).2.2.1) (g8 : (rest.map fun v => v.category).sum ≤ 8) (go : o < n) (gf : σ o = .inr (ci, fs)) (p0 : Ex sc z 0 (ax_en z [.ref o, y0, y1, y2]) [] (σ, n, 0, 0) (fun v h2 => Ex sc k q ls (ax_ps v rest) (h2.1, h2.2.1, bc, bs) K)) : Ex sc k pc ls (y2 :: y1 :: y0 :: .ref o :: rest) (σ, n, bc, bs) K := x_callV (h := (σ, n, bc, bs)) (vs := [y0, y1, y2]) (mc := 0) (ms := 0) g0 g1 g2 g3 g4 rfl (ax_c1 gc) gl g8 (Nat.zero_le _) (Nat.zero_le _) go gf p0
theorem xcS3 {sc : ax_S} {k pc q idx z : Nat} {ls : List (Option Value)} {rest : List Value} {σ : Nat → ax_C} {n bc bs : Nat} {K : ax_K} {y0 y1 y2 : Value} (g0 : decode (g_m k).2.1 pc = .ok (.invokestatic idx, 3)) (g1 : pc + 3 = q) (g2 : ax_lS (g_m k).1.cls idx z) (g3 : ax_mok z 3) (g4 : ax_up z k) (gc : ∀ v ∈ ([y0, y1, y2] : List Value), v.category = 1) (gl : 3 ≤ (g_m z).2.2.1) (g8 : (rest.map fun v => v.category).sum ≤ 8) (p0 : Ex sc z 0 (ax_en z [y0, y1, y2]) [] (σ, n, 0, 0) (fun v h2 => Ex sc k q ls (ax_ps v rest) (h2.1, h2.2.1, bc, bs) K)) : Ex sc k pc ls (y2 :: y1 :: y0 :: rest) (σ, n, bc, bs) K := x_callS (h := (σ, n, bc, bs)) (vs := [y0, y1, y2]) (mc := 0) (ms := 0) g0 g1 g2 g3 g4 rfl (fun v hv => gc v hv) gl g8 (Nat.zero_le _) (Nat.zero_le _) p0
theorem xcI3 {sc : ax_S} {k pc q idx z : Nat} {ls : List (Option Value)} {rest : List Value} {σ : Nat → ax_C} {n bc bs : Nat} {K : ax_K} {y0 y1 y2 : Value} {o mc ms : Nat} (g0 : decode (g_m k).2.1 pc = .ok (.invokespecial idx, 3)) (g1 : pc + 3 = q) (g2 : ax_lI (g_m k).1.cls idx z) (g3 : ax_mok z 3) (g4 : ax_up z k) (gc : ∀ v ∈ ([y0, y1, y2] : List Value), v.category = 1) (gl : 4 ≤ (g_m z).2.2.1) (g8 : (rest.map fun v => v.category).sum ≤ 8) (gmc : mc ≤ bc) (gms : ms ≤ bs) (go : o < n) (gr : (g_m z).2.2.2 = none) (p0 : Ex sc z 0 (ax_en z [.ref o, y0, y1, y2]) [] (σ, n, mc, ms) (fun v h2 => Ex sc k q ls (ax_ps v rest) (h2.1, h2.2.1, bc - mc, bs - ms) K)) : Ex sc k pc ls (y2 :: y1 :: y0 :: .ref o :: rest) (σ, n, bc, bs) K := x_callI (h := (σ, n, bc, bs)) (vs := [y0, y1, y2]) (mc := mc) (ms := ms) g0 g1 g2 g3 g4 rfl (ax_c1 gc) gl g8 gmc gms go gr p0
theorem xcV4 {sc : ax_S} {k pc q idx z : Nat} {ls : List (Option Value)} {rest : List Value} {σ : Nat → ax_C} {n bc bs : Nat} {K : ax_K} {y0 y1 y2 y3 : Value} {o ci : Nat} {fs : List Value} (g0 : decode (g_m k).2.1 pc = .ok (.invokevirtual idx, 3)) (g1 : pc + 3 = q) (g2 : ax_lV (g_m k).1.cls idx z ci) (g3 : ax_mok z 4) (g4 : ax_up z k) (gc : ∀ v ∈ ([y0, y1, y2, y3] : List Value), v.category = 1) (gl : 5 ≤ (g_m z).2.2.1) (g8 : (rest.map fun v => v.category).sum ≤ 8) (go : o < n) (gf : σ o = .inr (ci, fs)) (p0 : Ex sc z 0 (ax_en z [.ref o, y0, y1, y2, y3]) [] (σ, n, 0, 0) (fun v h2 => Ex sc k q ls (ax_ps v rest) (h2.1, h2.2.1, bc, bs) K)) : Ex sc k pc ls (y3 :: y2 :: y1 :: y0 :: .ref o :: rest) (σ, n, bc, bs) K := x_callV (h := (σ, n, bc, bs)) (vs := [y0, y1, y2, y3]) (mc := 0) (ms := 0) g0 g1 g2 g3 g4 rfl (ax_c1 gc) gl g8 (Nat.zero_le _) (Nat.zero_le _) go gf p0
theorem xcS4 {sc : ax_S} {k pc q idx z : Nat} {ls : List (Option Value)} {rest : List Value} {σ : Nat → ax_C} {n bc bs : Nat} {K : ax_K} {y0 y1 y2 y3 : Value} (g0 : decode (g_m k).2.1 pc = .ok (.invokestatic idx, 3)) (g1 : pc + 3 = q) (g2 : ax_lS (g_m k).1.cls idx z) (g3 : ax_mok z 4) (g4 : ax_up z k) (gc : ∀ v ∈ ([y0, y1, y2, y3] : List Value), v.category = 1) (gl : 4 ≤ (g_m z).2.2.1) (g8 : (rest.map fun v => v.category).sum ≤ 8) (p0 : Ex sc z 0 (ax_en z [y0, y1, y2, y3]) [] (σ, n, 0, 0) (fun v h2 => Ex sc k q ls (ax_ps v rest) (h2.1, h2.2.1, bc, bs) K)) : Ex sc k pc ls (y3 :: y2 :: y1 :: y0 :: rest) (σ, n, bc, bs) K := x_callS (h := (σ, n, bc, bs)) (vs := [y0, y1, y2, y3]) (mc := 0) (ms := 0) g0 g1 g2 g3 g4 rfl (fun v hv => gc v hv) gl g8 (Nat.zero_le _) (Nat.zero_le _) p0
theorem xcI4 {sc : ax_S} {k pc q idx z : Nat} {ls : List (Option Value)} {rest : List Value} {σ : Nat → ax_C} {n bc bs : Nat} {K : ax_K} {y0 y1 y2 y3 : Value} {o mc ms : Nat} (g0 : decode (g_m k).2.1 pc = .ok (.invokespecial idx, 3)) (g1 : pc + 3 = q) (g2 : ax_lI (g_m k).1.cls idx z) (g3 : ax_mok z 4) (g4 : ax_up z k) (gc : ∀ v ∈ ([y0, y1, y2, y3] : List Value), v.category = 1) (gl : 5 ≤ (g_m z).2.2.1) (g8 : (rest.map fun v => v.category).sum ≤ 8) (gmc : mc ≤ bc) (gms : ms ≤ bs) (go : o < n) (gr : (g_m z).2.2.2 = none) (p0 : Ex sc z 0 (ax_en z [.ref o, y0, y1, y2, y3]) [] (σ, n, mc, ms) (fun v h2 => Ex sc k q ls (ax_ps v rest) (h2.1, h2.2.1, bc - mc, bs - ms) K)) : Ex sc k pc ls (y3 :: y2 :: y1 :: y0 :: .ref o :: rest) (σ, n, bc, bs) K := x_callI (h := (σ, n, bc, bs)) (vs := [y0, y1, y2, y3]) (mc := mc) (ms := ms) g0 g1 g2 g3 g4 rfl (ax_c1 gc) gl g8 gmc gms go gr p0
theorem xcV5 {sc : ax_S} {k pc q idx z : Nat} {ls : List (Option Value)} {rest : List Value} {σ : Nat → ax_C} {n bc bs : Nat} {K : ax_K} {y0 y1 y2 y3 y4 : Value} {o ci : Nat} {fs : List Value} (g0 : decode (g_m k).2.1 pc = .ok (.invokevirtual idx, 3)) (g1 : pc + 3 = q) (g2 : ax_lV (g_m k).1.cls idx z ci) (g3 : ax_mok z 5) (g4 : ax_up z k) (gc : ∀ v ∈ ([y0, y1, y2, y3, y4] : List Value), v.category = 1) (gl : 6 ≤ (g_m z).2.2.1) (g8 : (rest.map fun v => v.category).sum ≤ 8) (go : o < n) (gf : σ o = .inr (ci, fs)) (p0 : Ex sc z 0 (ax_en z [.ref o, y0, y1, y2, y3, y4]) [] (σ, n, 0, 0) (fun v h2 => Ex sc k q ls (ax_ps v rest) (h2.1, h2.2.1, bc, bs) K)) : Ex sc k pc ls (y4 :: y3 :: y2 :: y1 :: y0 :: .ref o :: rest) (σ, n, bc, bs) K := x_callV (h := (σ, n, bc, bs)) (vs := [y0, y1, y2, y3, y4]) (mc := 0) (ms := 0) g0 g1 g2 g3 g4 rfl (ax_c1 gc) gl g8 (Nat.zero_le _) (Nat.zero_le _) go gf p0
theorem xcS5 {sc : ax_S} {k pc q idx z : Nat} {ls : List (Option Value)} {rest : List Value} {σ : Nat → ax_C} {n bc bs : Nat} {K : ax_K} {y0 y1 y2 y3 y4 : Value} (g0 : decode (g_m k).2.1 pc = .ok (.invokestatic idx, 3)) (g1 : pc + 3 = q) (g2 : ax_lS (g_m k).1.cls idx z) (g3 : ax_mok z 5) (g4 : ax_up z k) (gc : ∀ v ∈ ([y0, y1, y2, y3, y4] : List Value), v.category = 1) (gl : 5 ≤ (g_m z).2.2.1) (g8 : (rest.map fun v => v.category).sum ≤ 8) (p0 : Ex sc z 0 (ax_en z [y0, y1, y2, y3, y4]) [] (σ, n, 0, 0) (fun v h2 => Ex sc k q ls (ax_ps v rest) (h2.1, h2.2.1, bc, bs) K)) : Ex sc k pc ls (y4 :: y3 :: y2 :: y1 :: y0 :: rest) (σ, n, bc, bs) K := x_callS (h := (σ, n, bc, bs)) (vs := [y0, y1, y2, y3, y4]) (mc := 0) (ms := 0) g0 g1 g2 g3 g4 rfl (fun v hv => gc v hv) gl g8 (Nat.zero_le _) (Nat.zero_le _) p0
theorem xcI5 {sc : ax_S} {k pc q idx z : Nat} {ls : List (Option Value)} {rest : List Value} {σ : Nat → ax_C} {n bc bs : Nat} {K : ax_K} {y0 y1 y2 y3 y4 : Value} {o mc ms : Nat} (g0 : decode (g_m k).2.1 pc = .ok (.invokespecial idx, 3)) (g1 : pc + 3 = q) (g2 : ax_lI (g_m k).1.cls idx z) (g3 : ax_mok z 5) (g4 : ax_up z k) (gc : ∀ v ∈ ([y0, y1, y2, y3, y4] : List Value), v.category = 1) (gl : 6 ≤ (g_m z).2.2.1) (g8 : (rest.map fun v => v.category).sum ≤ 8) (gmc : mc ≤ bc) (gms : ms ≤ bs) (go : o < n) (gr : (g_m z).2.2.2 = none) (p0 : Ex sc z 0 (ax_en z [.ref o, y0, y1, y2, y3, y4]) [] (σ, n, mc, ms) (fun v h2 => Ex sc k q ls (ax_ps v rest) (h2.1, h2.2.1, bc - mc, bs - ms) K)) : Ex sc k pc ls (y4 :: y3 :: y2 :: y1 :: y0 :: .ref o :: rest) (σ, n, bc, bs) K := x_callI (h := (σ, n, bc, bs)) (vs := [y0, y1, y2, y3, y4]) (mc := mc) (ms := ms) g0 g1 g2 g3 g4 rfl (ax_c1 gc) gl g8 gmc gms go gr p0
theorem xcV6 {sc : ax_S} {k pc q idx z : Nat} {ls : List (Option Value)} {rest : List Value} {σ : Nat → ax_C} {n bc bs : Nat} {K : ax_K} {y0 y1 y2 y3 y4 y5 : Value} {o ci : Nat} {fs : List Value} (g0 : decode (g_m k).2.1 pc = .ok (.invokevirtual idx, 3)) (g1 : pc + 3 = q) (g2 : ax_lV (g_m k).1.cls idx z ci) (g3 : ax_mok z 6) (g4 : ax_up z k) (gc : ∀ v ∈ ([y0, y1, y2, y3, y4, y5] : List Value), v.category = 1) (gl : 7 ≤ (g_m z).2.2.1) (g8 : (rest.map fun v => v.category).sum ≤ 8) (go : o < n) (gf : σ o = .inr (ci, fs)) (p0 : Ex sc z 0 (ax_en z [.ref o, y0, y1, y2, y3, y4, y5]) [] (σ, n, 0, 0) (fun v h2 => Ex sc k q ls (ax_ps v rest) (h2.1, h2.2.1, bc, bs) K)) : Ex sc k pc ls (y5 :: y4 :: y3 :: y2 :: y1 :: y0 :: .ref o :: rest) (σ, n, bc, bs) K := x_callV (h := (σ, n, bc, bs)) (vs := [y0, y1, y2, y3, y4, y5]) (mc := 0) (ms := 0) g0 g1 g2 g3 g4 rfl (ax_c1 gc) gl g8 (Nat.zero_le _) (Nat.zero_le _) go gf p0
theorem xcS6 {sc : ax_S} {k pc q idx z : Nat} {ls : List (Option Value)} {rest : List Value} {σ : Nat → ax_C} {n bc bs : Nat} {K : ax_K} {y0 y1 y2 y3 y4 y5 : Value} (g0 : decode (g_m k).2.1 pc = .ok (.invokestatic idx, 3)) (g1 : pc + 3 = q) (g2 : ax_lS (g_m k).1.cls idx z) (g3 : ax_mok z 6) (g4 : ax_up z k) (gc : ∀ v ∈ ([y0, y1, y2, y3, y4, y5] : List Value), v.category = 1) (gl : 6 ≤ (g_m z).2.2.1) (g8 : (rest.map fun v => v.category).sum ≤ 8) (p0 : Ex sc z 0 (ax_en z [y0, y1, y2, y3, y4, y5]) [] (σ, n, 0, 0) (fun v h2 => Ex sc k q ls (ax_ps v rest) (h2.1, h2.2.1, bc, bs) K)) : Ex sc k pc ls (y5 :: y4 :: y3 :: y2 :: y1 :: y0 :: rest) (σ, n, bc, bs) K := x_callS (h := (σ, n, bc, bs)) (vs := [y0, y1, y2, y3, y4, y5]) (mc := 0) (ms := 0) g0 g1 g2 g3 g4 rfl (fun v hv => gc v hv) gl g8 (Nat.zero_le _) (Nat.zero_le _) p0
theorem xcI6 {sc : ax_S} {k pc q idx z : Nat} {ls : List (Option Value)} {rest : List Value} {σ : Nat → ax_C} {n bc bs : Nat} {K : ax_K} {y0 y1 y2 y3 y4 y5 : Value} {o mc ms : Nat} (g0 : decode (g_m k).2.1 pc = .ok (.invokespecial idx, 3)) (g1 : pc + 3 = q) (g2 : ax_lI (g_m k).1.cls idx z) (g3 : ax_mok z 6) (g4 : ax_up z k) (gc : ∀ v ∈ ([y0, y1, y2, y3, y4, y5] : List Value), v.category = 1) (gl : 7 ≤ (g_m z).2.2.1) (g8 : (rest.map fun v => v.category).sum ≤ 8) (gmc : mc ≤ bc) (gms : ms ≤ bs) (go : o < n) (gr : (g_m z).2.2.2 = none) (p0 : Ex sc z 0 (ax_en z [.ref o, y0, y1, y2, y3, y4, y5]) [] (σ, n, mc, ms) (fun v h2 => Ex sc k q ls (ax_ps v rest) (h2.1, h2.2.1, bc - mc, bs - ms) K)) : Ex sc k pc ls (y5 :: y4 :: y3 :: y2 :: y1 :: y0 :: .ref o :: rest) (σ, n, bc, bs) K := x_callI (h := (σ, n, bc, bs)) (vs := [y0, y1, y2, y3, y4, y5]) (mc := mc) (ms := ms) g0 g1 g2 g3 g4 rfl (ax_c1 gc) gl g8 gmc gms go gr p0
theorem xcV7 {sc : ax_S} {k pc q idx z : Nat} {ls : List (Option Value)} {rest : List Value} {σ : Nat → ax_C} {n bc bs : Nat} {K : ax_K} {y0 y1 y2 y3 y4 y5 y6 : Value} {o ci : Nat} {fs : List Value} (g0 : decode (g_m k).2.1 pc = .ok (.invokevirtual idx, 3)) (g1 : pc + 3 = q) (g2 : ax_lV (g_m k).1.cls idx z ci) (g3 : ax_mok z 7) (g4 : ax_up z k) (gc : ∀ v ∈ ([y0, y1, y2, y3, y4, y5, y6] : List Value), v.category = 1) (gl : 8 ≤ (g_m z).2.2.1) (g8 : (rest.map fun v => v.category).sum ≤ 8) (go : o < n) (gf : σ o = .inr (ci, fs)) (p0 : Ex sc z 0 (ax_en z [.ref o, y0, y1, y2, y3, y4, y5, y6]) [] (σ, n, 0, 0) (fun v h2 => Ex sc k q ls (ax_ps v rest) (h2.1, h2.2.1, bc, bs) K)) : Ex sc k pc ls (y6 :: y5 :: y4 :: y3 :: y2 :: y1 :: y0 :: .ref o :: rest) (σ, n, bc, bs) K := x_callV (h := (σ, n, bc, bs)) (vs := [y0, y1, y2, y3, y4, y5, y6]) (mc := 0) (ms := 0) g0 g1 g2 g3 g4 rfl (ax_c1 gc) gl g8 (Nat.zero_le _) (Nat.zero_le _) go gf p0
theorem xcS7 {sc : ax_S} {k pc q idx z : Nat} {ls : List (Option Value)} {rest : List Value} {σ : Nat → ax_C} {n bc bs : Nat} {K : ax_K} {y0 y1 y2 y3 y4 y5 y6 : Value} (g0 : decode (g_m k).2.1 pc = .ok (.invokestatic idx, 3)) (g1 : pc + 3 = q) (g2 : ax_lS (g_m k).1.cls idx z) (g3 : ax_mok z 7) (g4 : ax_up z k) (gc : ∀ v ∈ ([y0, y1, y2, y3, y4, y5, y6] : List Value), v.category = 1) (gl : 7 ≤ (g_m z).2.2.1) (g8 : (rest.map fun v => v.category).sum ≤ 8) (p0 : Ex sc z 0 (ax_en z [y0, y1, y2, y3, y4, y5, y6]) [] (σ, n, 0, 0) (fun v h2 => Ex sc k q ls (ax_ps v rest) (h2.1, h2.2.1, bc, bs) K)) : Ex sc k pc ls (y6 :: y5 :: y4 :: y3 :: y2 :: y1 :: y0 :: rest) (σ, n, bc, bs) K := x_callS (h := (σ, n, bc, bs)) (vs := [y0, y1, y2, y3, y4, y5, y6]) (mc := 0) (ms := 0) g0 g1 g2 g3 g4 rfl (fun v hv => gc v hv) gl g8 (Nat.zero_le _) (Nat.zero_le _) p0
theorem xcI7 {sc : ax_S} {k pc q idx z : Nat} {ls : List (Option Value)} {rest : List Value} {σ : Nat → ax_C} {n bc bs : Nat} {K : ax_K} {y0 y1 y2 y3 y4 y5 y6 : Value} {o mc ms : Nat} (g0 : decode (g_m k).2.1 pc = .ok (.invokespecial idx, 3)) (g1 : pc + 3 = q) (g2 : ax_lI (g_m k).1.cls idx z) (g3 : ax_mok z 7) (g4 : ax_up z k) (gc : ∀ v ∈ ([y0, y1, y2, y3, y4, y5, y6] : List Value), v.category = 1) (gl : 8 ≤ (g_m z).2.2.1) (g8 : (rest.map fun v => v.category).sum ≤ 8) (gmc : mc ≤ bc) (gms : ms ≤ bs) (go : o < n) (gr : (g_m z).2.2.2 = none) (p0 : Ex sc z 0 (ax_en z [.ref o, y0, y1, y2, y3, y4, y5, y6]) [] (σ, n, mc, ms) (fun v h2 => Ex sc k q ls (ax_ps v rest) (h2.1, h2.2.1, bc - mc, bs - ms) K)) : Ex sc k pc ls (y6 :: y5 :: y4 :: y3 :: y2 :: y1 :: y0 :: .ref o :: rest) (σ, n, bc, bs) K := x_callI (h := (σ, n, bc, bs)) (vs := [y0, y1, y2, y3, y4, y5, y6]) (mc := mc) (ms := ms) g0 g1 g2 g3 g4 rfl (ax_c1 gc) gl g8 gmc gms go gr p0
end
section
/-! numbers: an int is written zi e, e a whole number -/
def zi (z : Int) : Int32 := Int32.ofInt z
theorem zi_add (a b : Int) : zi a + zi b = zi (a + b) := (Int32.ofInt_add a b).symm
theorem zi_sub (a b : Int) : zi a - zi b = zi (a - b) := (Int32.ofInt_sub a b).symm
theorem zi_mul (a b : Int) : zi a * zi b = zi (a * b) := (Int32.ofInt_mul a b).symm
theorem zi_neg (a : Int) : -zi a = zi (-a) := (Int32.ofInt_neg a).symm
theorem zi_nI (n : Nat) : nI n = zi n := (Int32.ofInt_eq_ofNat (n := n)).symm
theorem zi_t {a : Int} (h1 : -2147483648 ≤ a) (h2 : a ≤ 2147483647) : (zi a).toInt = a := Int32.toInt_ofInt_of_le (by omega) (by omega)
theorem zi_of (x : Int32) : ∃ a : Int, -2147483648 ≤ a ∧ a ≤ 2147483647 ∧ x = zi a := by
  refine ⟨x.toInt, ?_, ?_, (Int32.ofInt_toInt x).symm⟩
  · have h := x.minValue_le_toInt
    have h5 : Int32.minValue.toInt = -2147483648 := by decide
    omega
  · have h := x.toInt_le
    have h5 : Int32.maxValue.toInt = 2147483647 := by decide
    omega
theorem zi_lt {a b : Int} (h1 : -2147483648 ≤ a) (h2 : a ≤ 2147483647) (h3 : -2147483648 ≤ b) (h4 : b ≤ 2147483647) : zi a < zi b ↔ a < b := by rw [Int32.lt_iff_toInt_lt, zi_t h1 h2, zi_t h3 h4]
theorem zi_le {a b : Int} (h1 : -2147483648 ≤ a) (h2 : a ≤ 2147483647) (h3 : -2147483648 ≤ b) (h4 : b ≤ 2147483647) : zi a ≤ zi b ↔ a ≤ b := by rw [Int32.le_iff_toInt_le, zi_t h1 h2, zi_t h3 h4]
theorem zi_eq {a b : Int} (h1 : -2147483648 ≤ a) (h2 : a ≤ 2147483647) (h3 : -2147483648 ≤ b) (h4 : b ≤ 2147483647) : zi a = zi b ↔ a = b := by rw [← Int32.toInt_inj, zi_t h1 h2, zi_t h3 h4]
theorem zi_0 : (0 : Int32) = zi 0 := rfl
theorem zi_lt0 {a : Int} (h1 : -2147483648 ≤ a) (h2 : a ≤ 2147483647) : zi a < 0 ↔ a < 0 := by rw [zi_0]; exact zi_lt h1 h2 (by decide) (by decide)
theorem zi_ge0 {a : Int} (h1 : -2147483648 ≤ a) (h2 : a ≤ 2147483647) : 0 ≤ zi a ↔ 0 ≤ a := by rw [zi_0]; exact zi_le (by decide) (by decide) h1 h2
theorem zi_gt0 {a : Int} (h1 : -2147483648 ≤ a) (h2 : a ≤ 2147483647) : 0 < zi a ↔ 0 < a := by rw [zi_0]; exact zi_lt (by decide) (by decide) h1 h2
theorem zi_le0 {a : Int} (h1 : -2147483648 ≤ a) (h2 : a ≤ 2147483647) : zi a ≤ 0 ↔ a ≤ 0 := by rw [zi_0]; exact zi_le h1 h2 (by decide) (by decide)
theorem zi_eq0 {a : Int} (h1 : -2147483648 ≤ a) (h2 : a ≤ 2147483647) : zi a = 0 ↔ a = 0 := by rw [zi_0]; exact zi_eq h1 h2 (by decide) (by decide)
theorem zi_div {a b : Int} (h1 : -2147483648 < a) (h2 : a ≤ 2147483647) (h3 : -2147483648 ≤ b) (h4 : b ≤ 2147483647) : zi a / zi b = zi (a.tdiv b) := by
  apply Int32.toInt_inj.mp
  have hne : zi a ≠ Int32.minValue := by
    intro h
    have := congrArg Int32.toInt h
    rw [zi_t (by omega) h2] at this
    have h5 : Int32.minValue.toInt = -2147483648 := by decide
    omega
  rw [Int32.toInt_div_of_ne_left _ _ hne, zi_t (by omega) h2, zi_t h3 h4]
  have hb : (a.tdiv b).natAbs ≤ a.natAbs := by
    rw [Int.natAbs_tdiv]
    exact Nat.div_le_self _ _
  rw [zi_t (by omega) (by omega)]
theorem zi_rem {a b : Int} (h1 : -2147483648 < a) (h2 : a ≤ 2147483647) (h3 : -2147483648 ≤ b) (h4 : b ≤ 2147483647) : zi a - zi a / zi b * zi b = zi (a.tmod b) := by
  rw [zi_div h1 h2 h3 h4, zi_mul, zi_sub]
  congr 1
  have := Int.tmod_add_tdiv_mul a b
  omega
theorem zi_c {a : Int} (h1 : 0 ≤ a) (h2 : a ≤ 2147483647) : (zi a).toNatClampNeg = a.toNat := by
  show (zi a).toInt.toNat = a.toNat
  rw [zi_t (by omega) h2]
theorem zi_in {a : Int} {n : Nat} (h1 : 0 ≤ a) (h2 : a < n) (h3 : n ≤ 2147483647) : vp_in (zi a) n := by
  rw [vp_in_iff, zi_t (by omega) (by omega)]
  exact ⟨h1, h2⟩
theorem zi_nar {a : Int} (h : a = 0 ∨ a = 1) : vp_nar .boolean (zi a) = zi a := by rcases h with rfl | rfl <;> rfl
theorem zi_narB {a : Int} (h : a = 0 ∨ a = 1) : narrow .boolean (.int (zi a)) = .int (zi a) := by rcases h with rfl | rfl <;> rfl
theorem zi_fitB {a : Int} (h : a = 0 ∨ a = 1) : fits .boolean (.int (zi a)) = true := by rcases h with rfl | rfl <;> rfl
section ZR
variable {sc : ax_S} {k pc q : Nat} {ls : List (Option Value)} {st : List Value} {h : ax_H} {K : ax_K}
theorem z_iadd {a b : Int} (g0 : decode (g_m k).2.1 pc = .ok (.iadd, 1)) (g1 : pc + 1 = q) (p0 : Ex sc k q ls (.int (zi (a + b)) :: st) h K) : Ex sc k pc ls (.int (zi b) :: .int (zi a) :: st) h K := x_iadd g0 g1 (by rw [zi_add]; exact p0)
theorem z_isub {a b : Int} (g0 : decode (g_m k).2.1 pc = .ok (.isub, 1)) (g1 : pc + 1 = q) (p0 : Ex sc k q ls (.int (zi (a - b)) :: st) h K) : Ex sc k pc ls (.int (zi b) :: .int (zi a) :: st) h K := x_isub g0 g1 (by rw [zi_sub]; exact p0)
theorem z_imul {a b : Int} (g0 : decode (g_m k).2.1 pc = .ok (.imul, 1)) (g1 : pc + 1 = q) (p0 : Ex sc k q ls (.int (zi (a * b)) :: st) h K) : Ex sc k pc ls (.int (zi b) :: .int (zi a) :: st) h K := x_imul g0 g1 (by rw [zi_mul]; exact p0)
theorem z_ineg {a : Int} (g0 : decode (g_m k).2.1 pc = .ok (.ineg, 1)) (g1 : pc + 1 = q) (p0 : Ex sc k q ls (.int (zi (-a)) :: st) h K) : Ex sc k pc ls (.int (zi a) :: st) h K := x_ineg g0 g1 (by rw [zi_neg]; exact p0)
theorem z_idiv {a b : Int} (g0 : decode (g_m k).2.1 pc = .ok (.idiv, 1)) (g1 : pc + 1 = q) (h1 : -2147483648 < a) (h2 : a ≤ 2147483647) (h3 : 0 < b) (h4 : b ≤ 2147483647) (p0 : Ex sc k q ls (.int (zi (a.tdiv b)) :: st) h K) : Ex sc k pc ls (.int (zi b) :: .int (zi a) :: st) h K := x_idiv g0 g1 (by rw [zi_eq0 (by omega) h4]; omega) (by rw [zi_div h1 h2 (by omega) h4]; exact p0)
theorem z_irem {a b : Int} (g0 : decode (g_m k).2.1 pc = .ok (.irem, 1)) (g1 : pc + 1 = q) (h1 : -2147483648 < a) (h2 : a ≤ 2147483647) (h3 : 0 < b) (h4 : b ≤ 2147483647) (p0 : Ex sc k q ls (.int (zi (a.tmod b)) :: st) h K) : Ex sc k pc ls (.int (zi b) :: .int (zi a) :: st) h K := x_irem g0 g1 (by rw [zi_eq0 (by omega) h4]; omega) (by rw [zi_rem h1 h2 (by omega) h4]; exact p0)
end ZR
theorem xincz_0 {sc : ax_S} {k pc q : Nat} {st : List Value} {h : ax_H} {K : ax_K} {tl : List (Option Value)} {a n : Int} (g0 : decode (g_m k).2.1 pc = .ok (.iinc 0 n, 3)) (g1 : pc + 3 = q) (p0 : Ex sc k q (some (.int (zi (a + n))) :: tl) st h K) : Ex sc k pc (some (.int (zi a)) :: tl) st h K := xinc_0 g0 g1 (zi_add a n) p0
theorem xincz_1 {sc : ax_S} {k pc q : Nat} {st : List Value} {h : ax_H} {K : ax_K} {tl : List (Option Value)} {a0 : Option Value} {a n : Int} (g0 : decode (g_m k).2.1 pc = .ok (.iinc 1 n, 3)) (g1 : pc + 3 = q) (p0 : Ex sc k q (a0 :: some (.int (zi (a + n))) :: tl) st h K) : Ex sc k pc (a0 :: some (.int (zi a)) :: tl) st h K := xinc_1 g0 g1 (zi_add a n) p0
theorem xincz_2 {sc : ax_S} {k pc q : Nat} {st : List Value} {h : ax_H} {K : ax_K} {tl : List (Option Value)} {a0 a1 : Option Value} {a n : Int} (g0 : decode (g_m k).2.1 pc = .ok (.iinc 2 n, 3)) (g1 : pc + 3 = q) (p0 : Ex sc k q (a0 :: a1 :: some (.int (zi (a + n))) :: tl) st h K) : Ex sc k pc (a0 :: a1 :: some (.int (zi a)) :: tl) st h K := xinc_2 g0 g1 (zi_add a n) p0
theorem xincz_3 {sc : ax_S} {k pc q : Nat} {st : List Value} {h : ax_H} {K : ax_K} {tl : List (Option Value)} {a0 a1 a2 : Option Value} {a n : Int} (g0 : decode (g_m k).2.1 pc = .ok (.iinc 3 n, 3)) (g1 : pc + 3 = q) (p0 : Ex sc k q (a0 :: a1 :: a2 :: some (.int (zi (a + n))) :: tl) st h K) : Ex sc k pc (a0 :: a1 :: a2 :: some (.int (zi a)) :: tl) st h K := xinc_3 g0 g1 (zi_add a n) p0
theorem xincz_4 {sc : ax_S} {k pc q : Nat} {st : List Value} {h : ax_H} {K : ax_K} {tl : List (Option Value)} {a0 a1 a2 a3 : Option Value} {a n : Int} (g0 : decode (g_m k).2.1 pc = .ok (.iinc 4 n, 3)) (g1 : pc + 3 = q) (p0 : Ex sc k q (a0 :: a1 :: a2 :: a3 :: some (.int (zi (a + n))) :: tl) st h K) : Ex sc k pc (a0 :: a1 :: a2 :: a3 :: some (.int (zi a)) :: tl) st h K := xinc_4 g0 g1 (zi_add a n) p0
theorem xincz_5 {sc : ax_S} {k pc q : Nat} {st : List Value} {h : ax_H} {K : ax_K} {tl : List (Option Value)} {a0 a1 a2 a3 a4 : Option Value} {a n : Int} (g0 : decode (g_m k).2.1 pc = .ok (.iinc 5 n, 3)) (g1 : pc + 3 = q) (p0 : Ex sc k q (a0 :: a1 :: a2 :: a3 :: a4 :: some (.int (zi (a + n))) :: tl) st h K) : Ex sc k pc (a0 :: a1 :: a2 :: a3 :: a4 :: some (.int (zi a)) :: tl) st h K := xinc_5 g0 g1 (zi_add a n) p0
theorem xincz_6 {sc : ax_S} {k pc q : Nat} {st : List Value} {h : ax_H} {K : ax_K} {tl : List (Option Value)} {a0 a1 a2 a3 a4 a5 : Option Value} {a n : Int} (g0 : decode (g_m k).2.1 pc = .ok (.iinc 6 n, 3)) (g1 : pc + 3 = q) (p0 : Ex sc k q (a0 :: a1 :: a2 :: a3 :: a4 :: a5 :: some (.int (zi (a + n))) :: tl) st h K) : Ex sc k pc (a0 :: a1 :: a2 :: a3 :: a4 :: a5 :: some (.int (zi a)) :: tl) st h K := xinc_6 g0 g1 (zi_add a n) p0
theorem xincz_7 {sc : ax_S} {k pc q : Nat} {st : List Value} {h : ax_H} {K : ax_K} {tl : List (Option Value)} {a0 a1 a2 a3 a4 a5 a6 : Option Value} {a n : Int} (g0 : decode (g_m k).2.1 pc = .ok (.iinc 7 n, 3)) (g1 : pc + 3 = q) (p0 : Ex sc k q (a0 :: a1 :: a2 :: a3 :: a4 :: a5 :: a6 :: some (.int (zi (a + n))) :: tl) st h K) : Ex sc k pc (a0 :: a1 :: a2 :: a3 :: a4 :: a5 :: a6 :: some (.int (zi a)) :: tl) st h K := xinc_7 g0 g1 (zi_add a n) p0
theorem xincz_8 {sc : ax_S} {k pc q : Nat} {st : List Value} {h : ax_H} {K : ax_K} {tl : List (Option Value)} {a0 a1 a2 a3 a4 a5 a6 a7 : Option Value} {a n : Int} (g0 : decode (g_m k).2.1 pc = .ok (.iinc 8 n, 3)) (g1 : pc + 3 = q) (p0 : Ex sc k q (a0 :: a1 :: a2 :: a3 :: a4 :: a5 :: a6 :: a7 :: some (.int (zi (a + n))) :: tl) st h K) : Ex sc k pc (a0 :: a1 :: a2 :: a3 :: a4 :: a5 :: a6 :: a7 :: some (.int (zi a)) :: tl) st h K := xinc_8 g0 g1 (zi_add a n) p0
theorem xincz_9 {sc : ax_S} {k pc q : Nat} {st : List Value} {h : ax_H} {K : ax_K} {tl : List (Option Value)} {a0 a1 a2 a3 a4 a5 a6 a7 a8 : Option Value} {a n : Int} (g0 : decode (g_m k).2.1 pc = .ok (.iinc 9 n, 3)) (g1 : pc + 3 = q) (p0 : Ex sc k q (a0 :: a1 :: a2 :: a3 :: a4 :: a5 :: a6 :: a7 :: a8 :: some (.int (zi (a + n))) :: tl) st h K) : Ex sc k pc (a0 :: a1 :: a2 :: a3 :: a4 :: a5 :: a6 :: a7 :: a8 :: some (.int (zi a)) :: tl) st h K := xinc_9 g0 g1 (zi_add a n) p0
theorem xincz_10 {sc : ax_S} {k pc q : Nat} {st : List Value} {h : ax_H} {K : ax_K} {tl : List (Option Value)} {a0 a1 a2 a3 a4 a5 a6 a7 a8 a9 : Option Value} {a n : Int} (g0 : decode (g_m k).2.1 pc = .ok (.iinc 10 n, 3)) (g1 : pc + 3 = q) (p0 : Ex sc k q (a0 :: a1 :: a2 :: a3 :: a4 :: a5 :: a6 :: a7 :: a8 :: a9 :: some (.int (zi (a + n))) :: tl) st h K) : Ex sc k pc (a0 :: a1 :: a2 :: a3 :: a4 :: a5 :: a6 :: a7 :: a8 :: a9 :: some (.int (zi a)) :: tl) st h K := xinc_10 g0 g1 (zi_add a n) p0
theorem xincz_11 {sc : ax_S} {k pc q : Nat} {st : List Value} {h : ax_H} {K : ax_K} {tl : List (Option Value)} {a0 a1 a2 a3 a4 a5 a6 a7 a8 a9 a10 : Option Value} {a n : Int} (g0 : decode (g_m k).2.1 pc = .ok (.iinc 11 n, 3)) (g1 : pc + 3 = q) (p0 : Ex sc k q (a0 :: a1 :: a2 :: a3 :: a4 :: a5 :: a6 :: a7 :: a8 :: a9 :: a10 :: some (.int (zi (a + n))) :: tl) st h K) : Ex sc k pc (a0 :: a1 :: a2 :: a3 :: a4 :: a5 :: a6 :: a7 :: a8 :: a9 :: a10 :: some (.int (zi a)) :: tl) st h K := xinc_11 g0 g1 (zi_add a n) p0
theorem xincz_12 {sc : ax_S} {k pc q : Nat} {st : List Value} {h : ax_H} {K : ax_K} {tl : List (Option Value)} {a0 a1 a2 a3 a4 a5 a6 a7 a8 a9 a10 a11 : Option Value} {a n : Int} (g0 : decode (g_m k).2.1 pc = .ok (.iinc 12 n, 3)) (g1 : pc + 3 = q) (p0 : Ex sc k q (a0 :: a1 :: a2 :: a3 :: a4 :: a5 :: a6 :: a7 :: a8 :: a9 :: a10 :: a11 :: some (.int (zi (a + n))) :: tl) st h K) : Ex sc k pc (a0 :: a1 :: a2 :: a3 :: a4 :: a5 :: a6 :: a7 :: a8 :: a9 :: a10 :: a11 :: some (.int (zi a)) :: tl) st h K := xinc_12 g0 g1 (zi_add a n) p0
theorem xincz_13 {sc : ax_S} {k pc q : Nat} {st : List Value} {h : ax_H} {K : ax_K} {tl : List (Option Value)} {a0 a1 a2 a3 a4 a5 a6 a7 a8 a9 a10 a11 a12 : Option Value} {a n : Int} (g0 : decode (g_m k).2.1 pc = .ok (.iinc 13 n, 3)) (g1 : pc + 3 = q) (p0 : Ex sc k q (a0 :: a1 :: a2 :: a3 :: a4 :: a5 :: a6 :: a7 :: a8 :: a9 :: a10 :: a11 :: a12 :: some (.int (zi (a + n))) :: tl) st h K) : Ex sc k pc (a0 :: a1 :: a2 :: a3 :: a4 :: a5 :: a6 :: a7 :: a8 :: a9 :: a10 :: a11 :: a12 :: some (.int (zi a)) :: tl) st h K := xinc_13 g0 g1 (zi_add a n) p0
theorem xincz_14 {sc : ax_S} {k pc q : Nat} {st : List Value} {h : ax_H} {K : ax_K} {tl : List (Option Value)} {a0 a1 a2 a3 a4 a5 a6 a7 a8 a9 a10 a11 a12 a13 : Option Value} {a n : Int} (g0 : decode (g_m k).2.1 pc = .ok (.iinc 14 n, 3)) (g1 : pc + 3 = q) (p0 : Ex sc k q (a0 :: a1 :: a2 :: a3 :: a4 :: a5 :: a6 :: a7 :: a8 :: a9 :: a10 :: a11 :: a12 :: a13 :: some (.int (zi (a + n))) :: tl) st h K) : Ex sc k pc (a0 :: a1 :: a2 :: a3 :: a4 :: a5 :: a6 :: a7 :: a8 :: a9 :: a10 :: a11 :: a12 :: a13 :: some (.int (zi a)) :: tl) st h K := xinc_14 g0 g1 (zi_add a n) p0
theorem xincz_15 {sc : ax_S} {k pc q : Nat} {st : List Value} {h : ax_H} {K : ax_K} {tl : List (Option Value)} {a0 a1 a2 a3 a4 a5 a6 a7 a8 a9 a10 a11 a12 a13 a14 : Option Value} {a n : Int} (g0 : decode (g_m k).2.1 pc = .ok (.iinc 15 n, 3)) (g1 : pc + 3 = q) (p0 : Ex sc k q (a0 :: a1 :: a2 :: a3 :: a4 :: a5 :: a6 :: a7 :: a8 :: a9 :: a10 :: a11 :: a12 :: a13 :: a14 :: some (.int (zi (a + n))) :: tl) st h K) : Ex sc k pc (a0 :: a1 :: a2 :: a3 :: a4 :: a5 :: a6 :: a7 :: a8 :: a9 :: a10 :: a11 :: a12 :: a13 :: a14 :: some (.int (zi a)) :: tl) st h K := xinc_15 g0 g1 (zi_add a n) p0
theorem xincz_16 {sc : ax_S} {k pc q : Nat} {st : List Value} {h : ax_H} {K : ax_K} {tl : List (Option Value)} {a0 a1 a2 a3 a4 a5 a6 a7 a8 a9 a10 a11 a12 a13 a14 a15 : Option Value} {a n : Int} (g0 : decode (g_m k).2.1 pc = .ok (.iinc 16 n, 3)) (g1 : pc + 3 = q) (p0 : Ex sc k q (a0 :: a1 :: a2 :: a3 :: a4 :: a5 :: a6 :: a7 :: a8 :: a9 :: a10 :: a11 :: a12 :: a13 :: a14 :: a15 :: some (.int (zi (a + n))) :: tl) st h K) : Ex sc k pc (a0 :: a1 :: a2 :: a3 :: a4 :: a5 :: a6 :: a7 :: a8 :: a9 :: a10 :: a11 :: a12 :: a13 :: a14 :: a15 :: some (.int (zi a)) :: tl) st h K := xinc_16 g0 g1 (zi_add a n) p0
theorem xincz_17 {sc : ax_S} {k pc q : Nat} {st : List Value} {h : ax_H} {K : ax_K} {tl : List (Option Value)} {a0 a1 a2 a3 a4 a5 a6 a7 a8 a9 a10 a11 a12 a13 a14 a15 a16 : Option Value} {a n : Int} (g0 : decode (g_m k).2.1 pc = .ok (.iinc 17 n, 3)) (g1 : pc + 3 = q) (p0 : Ex sc k q (a0 :: a1 :: a2 :: a3 :: a4 :: a5 :: a6 :: a7 :: a8 :: a9 :: a10 :: a11 :: a12 :: a13 :: a14 :: a15 :: a16 :: some (.int (zi (a + n))) :: tl) st h K) : Ex sc k pc (a0 :: a1 :: a2 :: a3 :: a4 :: a5 :: a6 :: a7 :: a8 :: a9 :: a10 :: a11 :: a12 :: a13 :: a14 :: a15 :: a16 :: some (.int (zi a)) :: tl) st h K := xinc_17 g0 g1 (zi_add a n) p0
theorem xincz_18 {sc : ax_S} {k pc q : Nat} {st : List Value} {h : ax_H} {K : ax_K} {tl : List (Option Value)} {a0 a1 a2 a3 a4 a5 a6 a7 a8 a9 a10 a11 a12 a13 a14 a15 a16 a17 : Option Value} {a n : Int} (g0 : decode (g_m k).2.1 pc = .ok (.iinc 18 n, 3)) (g1 : pc + 3 = q) (p0 : Ex sc k q (a0 :: a1 :: a2 :: a3 :: a4 :: a5 :: a6 :: a7 :: a8 :: a9 :: a10 :: a11 :: a12 :: a13 :: a14 :: a15 :: a16 :: a17 :: some (.int (zi (a + n))) :: tl) st h K) : Ex sc k pc (a0 :: a1 :: a2 :: a3 :: a4 :: a5 :: a6 :: a7 :: a8 :: a9 :: a10 :: a11 :: a12 :: a13 :: a14 :: a15 :: a16 :: a17 :: some (.int (zi a)) :: tl) st h K := xinc_18 g0 g1 (zi_add a n) p0
theorem xincz_19 {sc : ax_S} {k pc q : Nat} {st : List Value} {h : ax_H} {K : ax_K} {tl : List (Option Value)} {a0 a1 a2 a3 a4 a5 a6 a7 a8 a9 a10 a11 a12 a13 a14 a15 a16 a17 a18 : Option Value} {a n : Int} (g0 : decode (g_m k).2.1 pc = .ok (.iinc 19 n, 3)) (g1 : pc + 3 = q) (p0 : Ex sc k q (a0 :: a1 :: a2 :: a3 :: a4 :: a5 :: a6 :: a7 :: a8 :: a9 :: a10 :: a11 :: a12 :: a13 :: a14 :: a15 :: a16 :: a17 :: a18 :: some (.int (zi (a + n))) :: tl) st h K) : Ex sc k pc (a0 :: a1 :: a2 :: a3 :: a4 :: a5 :: a6 :: a7 :: a8 :: a9 :: a10 :: a11 :: a12 :: a13 :: a14 :: a15 :: a16 :: a17 :: a18 :: some (.int (zi a)) :: tl) st h K := xinc_19 g0 g1 (zi_add a n) p0
end
section
/-! the class's world: ints by register, arrays by register; Ranks r: size I (10 + r), keys F (10 + r) -/
def rkO (r : Nat) : Nat := 10 + 2 * r
def rkK (r : Nat) : Nat := 11 + 2 * r
def rkC : Nat → Nat
  | 0 => 61
  | 2 => 13
  | _ => 100
def vg (σ : Nat → ax_C) (I : Nat → Int) (F : Nat → Nat → Int) : Nat → ax_C := fun i => match i with
  | 0 => .inr (3, [.ref (1), .ref (5), .ref (rkO 3), .ref (rkO 4), .ref (rkO 5), .int (zi (I 6))])
  | 1 => .inr (2, [.int (zi (I 7)), .ref (2), .ref (3), .ref (4), .int (zi (I 0)), .int (zi (I 1))])
  | 2 => .inl (true, 100, fun j => zi (F 0 j))
  | 3 => .inl (true, 100, fun j => zi (F 1 j))
  | 4 => .inl (false, 101 * (I 7).toNat, fun j => zi (F 2 j))
  | 5 => .inr (0, [.ref (rkO 0), .int (zi (I 2)), .int (zi (I 3)), .int (zi (I 4)), .int (zi (I 5)), .ref (1), .int (zi (I 8)), .ref (6), .ref (7), .ref (8), .ref (9), .ref (rkO 1), .ref (rkO 2)])
  | 6 => .inl (false, 3600, fun j => zi (F 3 j))
  | 7 => .inl (false, 500, fun j => zi (F 4 j))
  | 8 => .inl (true, 100, fun j => zi (F 5 j))
  | 9 => .inl (false, 100, fun j => zi (F 6 j))
  | 10 => .inr (1, [.ref (rkK 0), .int (zi (I 10))])
  | 11 => .inl (false, rkC 0, fun j => zi (F 10 j))
  | 12 => .inr (1, [.ref (rkK 1), .int (zi (I 11))])
  | 13 => .inl (false, rkC 1, fun j => zi (F 11 j))
  | 14 => .inr (1, [.ref (rkK 2), .int (zi (I 12))])
  | 15 => .inl (false, rkC 2, fun j => zi (F 12 j))
  | 16 => .inr (1, [.ref (rkK 3), .int (zi (I 13))])
  | 17 => .inl (false, rkC 3, fun j => zi (F 13 j))
  | 18 => .inr (1, [.ref (rkK 4), .int (zi (I 14))])
  | 19 => .inl (false, rkC 4, fun j => zi (F 14 j))
  | 20 => .inr (1, [.ref (rkK 5), .int (zi (I 15))])
  | 21 => .inl (false, rkC 5, fun j => zi (F 15 j))
  | _ => σ i
theorem vg_rk {σ : Nat → ax_C} {I : Nat → Int} {F : Nat → Nat → Int} {r : Nat} (hr : r < 6) : vg σ I F (rkO r) = .inr (1, [.ref (rkK r), .int (zi (I (10 + r)))]) := by
  match r, hr with
  | 0, _ => rfl
  | 1, _ => rfl
  | 2, _ => rfl
  | 3, _ => rfl
  | 4, _ => rfl
  | 5, _ => rfl
theorem vg_rkK {σ : Nat → ax_C} {I : Nat → Int} {F : Nat → Nat → Int} {r : Nat} (hr : r < 6) : vg σ I F (rkK r) = .inl (false, rkC r, fun j => zi (F (10 + r) j)) := by
  match r, hr with
  | 0, _ => rfl
  | 1, _ => rfl
  | 2, _ => rfl
  | 3, _ => rfl
  | 4, _ => rfl
  | 5, _ => rfl
theorem upd_zi (f : Nat → Int) (i : Nat) (e : Int) : upd (fun j => zi (f j)) i (zi e) = fun j => zi (va_up f i e j) := by
  funext j
  unfold upd va_up
  split <;> rfl
theorem cpy_zi (f g : Nat → Int) (sp dp n : Nat) : va_cpy (fun j => zi (f j)) (fun j => zi (g j)) sp dp n = fun j => zi (va_cpy f g sp dp n j) := by
  funext j
  unfold va_cpy
  split <;> rfl
theorem rk_lt {r n : Nat} (hr : r < 6) (hn : 22 ≤ n) : rkO r < n ∧ rkK r < n := by unfold rkO rkK; omega
theorem vg_put_6 (σ : Nat → ax_C) (I : Nat → Int) (F : Nat → Nat → Int) (e : Int) : va_up (vg σ I F) 0 (.inr (3, [.ref (1), .ref (5), .ref (rkO 3), .ref (rkO 4), .ref (rkO 5), .int (zi e)])) = vg σ (va_up I 6 e) F := by
  funext i
  match i with
  | 0 => rfl
  | 1 => rfl
  | 2 => rfl
  | 3 => rfl
  | 4 => rfl
  | 5 => rfl
  | 6 => rfl
  | 7 => rfl
  | 8 => rfl
  | 9 => rfl
  | 10 => rfl
  | 11 => rfl
  | 12 => rfl
  | 13 => rfl
  | 14 => rfl
  | 15 => rfl
  | 16 => rfl
  | 17 => rfl
  | 18 => rfl
  | 19 => rfl
  | 20 => rfl
  | 21 => rfl
  | _ + 22 => rfl
theorem vg_put_0 (σ : Nat → ax_C) (I : Nat → Int) (F : Nat → Nat → Int) (e : Int) : va_up (vg σ I F) 1 (.inr (2, [.int (zi (I 7)), .ref (2), .ref (3), .ref (4), .int (zi e), .int (zi (I 1))])) = vg σ (va_up I 0 e) F := by
  funext i
  match i with
  | 0 => rfl
  | 1 => rfl
  | 2 => rfl
  | 3 => rfl
  | 4 => rfl
  | 5 => rfl
  | 6 => rfl
  | 7 => rfl
  | 8 => rfl
  | 9 => rfl
  | 10 => rfl
  | 11 => rfl
  | 12 => rfl
  | 13 => rfl
  | 14 => rfl
  | 15 => rfl
  | 16 => rfl
  | 17 => rfl
  | 18 => rfl
  | 19 => rfl
  | 20 => rfl
  | 21 => rfl
  | _ + 22 => rfl
theorem vg_put_1 (σ : Nat → ax_C) (I : Nat → Int) (F : Nat → Nat → Int) (e : Int) : va_up (vg σ I F) 1 (.inr (2, [.int (zi (I 7)), .ref (2), .ref (3), .ref (4), .int (zi (I 0)), .int (zi e)])) = vg σ (va_up I 1 e) F := by
  funext i
  match i with
  | 0 => rfl
  | 1 => rfl
  | 2 => rfl
  | 3 => rfl
  | 4 => rfl
  | 5 => rfl
  | 6 => rfl
  | 7 => rfl
  | 8 => rfl
  | 9 => rfl
  | 10 => rfl
  | 11 => rfl
  | 12 => rfl
  | 13 => rfl
  | 14 => rfl
  | 15 => rfl
  | 16 => rfl
  | 17 => rfl
  | 18 => rfl
  | 19 => rfl
  | 20 => rfl
  | 21 => rfl
  | _ + 22 => rfl
theorem vg_put_2 (σ : Nat → ax_C) (I : Nat → Int) (F : Nat → Nat → Int) (e : Int) : va_up (vg σ I F) 5 (.inr (0, [.ref (rkO 0), .int (zi e), .int (zi (I 3)), .int (zi (I 4)), .int (zi (I 5)), .ref (1), .int (zi (I 8)), .ref (6), .ref (7), .ref (8), .ref (9), .ref (rkO 1), .ref (rkO 2)])) = vg σ (va_up I 2 e) F := by
  funext i
  match i with
  | 0 => rfl
  | 1 => rfl
  | 2 => rfl
  | 3 => rfl
  | 4 => rfl
  | 5 => rfl
  | 6 => rfl
  | 7 => rfl
  | 8 => rfl
  | 9 => rfl
  | 10 => rfl
  | 11 => rfl
  | 12 => rfl
  | 13 => rfl
  | 14 => rfl
  | 15 => rfl
  | 16 => rfl
  | 17 => rfl
  | 18 => rfl
  | 19 => rfl
  | 20 => rfl
  | 21 => rfl
  | _ + 22 => rfl
theorem vg_put_3 (σ : Nat → ax_C) (I : Nat → Int) (F : Nat → Nat → Int) (e : Int) : va_up (vg σ I F) 5 (.inr (0, [.ref (rkO 0), .int (zi (I 2)), .int (zi e), .int (zi (I 4)), .int (zi (I 5)), .ref (1), .int (zi (I 8)), .ref (6), .ref (7), .ref (8), .ref (9), .ref (rkO 1), .ref (rkO 2)])) = vg σ (va_up I 3 e) F := by
  funext i
  match i with
  | 0 => rfl
  | 1 => rfl
  | 2 => rfl
  | 3 => rfl
  | 4 => rfl
  | 5 => rfl
  | 6 => rfl
  | 7 => rfl
  | 8 => rfl
  | 9 => rfl
  | 10 => rfl
  | 11 => rfl
  | 12 => rfl
  | 13 => rfl
  | 14 => rfl
  | 15 => rfl
  | 16 => rfl
  | 17 => rfl
  | 18 => rfl
  | 19 => rfl
  | 20 => rfl
  | 21 => rfl
  | _ + 22 => rfl
theorem vg_put_4 (σ : Nat → ax_C) (I : Nat → Int) (F : Nat → Nat → Int) (e : Int) : va_up (vg σ I F) 5 (.inr (0, [.ref (rkO 0), .int (zi (I 2)), .int (zi (I 3)), .int (zi e), .int (zi (I 5)), .ref (1), .int (zi (I 8)), .ref (6), .ref (7), .ref (8), .ref (9), .ref (rkO 1), .ref (rkO 2)])) = vg σ (va_up I 4 e) F := by
  funext i
  match i with
  | 0 => rfl
  | 1 => rfl
  | 2 => rfl
  | 3 => rfl
  | 4 => rfl
  | 5 => rfl
  | 6 => rfl
  | 7 => rfl
  | 8 => rfl
  | 9 => rfl
  | 10 => rfl
  | 11 => rfl
  | 12 => rfl
  | 13 => rfl
  | 14 => rfl
  | 15 => rfl
  | 16 => rfl
  | 17 => rfl
  | 18 => rfl
  | 19 => rfl
  | 20 => rfl
  | 21 => rfl
  | _ + 22 => rfl
theorem vg_put_5 (σ : Nat → ax_C) (I : Nat → Int) (F : Nat → Nat → Int) (e : Int) : va_up (vg σ I F) 5 (.inr (0, [.ref (rkO 0), .int (zi (I 2)), .int (zi (I 3)), .int (zi (I 4)), .int (zi e), .ref (1), .int (zi (I 8)), .ref (6), .ref (7), .ref (8), .ref (9), .ref (rkO 1), .ref (rkO 2)])) = vg σ (va_up I 5 e) F := by
  funext i
  match i with
  | 0 => rfl
  | 1 => rfl
  | 2 => rfl
  | 3 => rfl
  | 4 => rfl
  | 5 => rfl
  | 6 => rfl
  | 7 => rfl
  | 8 => rfl
  | 9 => rfl
  | 10 => rfl
  | 11 => rfl
  | 12 => rfl
  | 13 => rfl
  | 14 => rfl
  | 15 => rfl
  | 16 => rfl
  | 17 => rfl
  | 18 => rfl
  | 19 => rfl
  | 20 => rfl
  | 21 => rfl
  | _ + 22 => rfl
theorem vg_put_rk (σ : Nat → ax_C) (I : Nat → Int) (F : Nat → Nat → Int) (e : Int) {r : Nat} (hr : r < 6) : va_up (vg σ I F) (rkO r) (.inr (1, [.ref (rkK r), .int (zi e)])) = vg σ (va_up I (10 + r) e) F := by
  match r, hr with
  | 0, _ =>
    funext i
    match i with
    | 0 => rfl
    | 1 => rfl
    | 2 => rfl
    | 3 => rfl
    | 4 => rfl
    | 5 => rfl
    | 6 => rfl
    | 7 => rfl
    | 8 => rfl
    | 9 => rfl
    | 10 => rfl
    | 11 => rfl
    | 12 => rfl
    | 13 => rfl
    | 14 => rfl
    | 15 => rfl
    | 16 => rfl
    | 17 => rfl
    | 18 => rfl
    | 19 => rfl
    | 20 => rfl
    | 21 => rfl
    | _ + 22 => rfl
  | 1, _ =>
    funext i
    match i with
    | 0 => rfl
    | 1 => rfl
    | 2 => rfl
    | 3 => rfl
    | 4 => rfl
    | 5 => rfl
    | 6 => rfl
    | 7 => rfl
    | 8 => rfl
    | 9 => rfl
    | 10 => rfl
    | 11 => rfl
    | 12 => rfl
    | 13 => rfl
    | 14 => rfl
    | 15 => rfl
    | 16 => rfl
    | 17 => rfl
    | 18 => rfl
    | 19 => rfl
    | 20 => rfl
    | 21 => rfl
    | _ + 22 => rfl
  | 2, _ =>
    funext i
    match i with
    | 0 => rfl
    | 1 => rfl
    | 2 => rfl
    | 3 => rfl
    | 4 => rfl
    | 5 => rfl
    | 6 => rfl
    | 7 => rfl
    | 8 => rfl
    | 9 => rfl
    | 10 => rfl
    | 11 => rfl
    | 12 => rfl
    | 13 => rfl
    | 14 => rfl
    | 15 => rfl
    | 16 => rfl
    | 17 => rfl
    | 18 => rfl
    | 19 => rfl
    | 20 => rfl
    | 21 => rfl
    | _ + 22 => rfl
  | 3, _ =>
    funext i
    match i with
    | 0 => rfl
    | 1 => rfl
    | 2 => rfl
    | 3 => rfl
    | 4 => rfl
    | 5 => rfl
    | 6 => rfl
    | 7 => rfl
    | 8 => rfl
    | 9 => rfl
    | 10 => rfl
    | 11 => rfl
    | 12 => rfl
    | 13 => rfl
    | 14 => rfl
    | 15 => rfl
    | 16 => rfl
    | 17 => rfl
    | 18 => rfl
    | 19 => rfl
    | 20 => rfl
    | 21 => rfl
    | _ + 22 => rfl
  | 4, _ =>
    funext i
    match i with
    | 0 => rfl
    | 1 => rfl
    | 2 => rfl
    | 3 => rfl
    | 4 => rfl
    | 5 => rfl
    | 6 => rfl
    | 7 => rfl
    | 8 => rfl
    | 9 => rfl
    | 10 => rfl
    | 11 => rfl
    | 12 => rfl
    | 13 => rfl
    | 14 => rfl
    | 15 => rfl
    | 16 => rfl
    | 17 => rfl
    | 18 => rfl
    | 19 => rfl
    | 20 => rfl
    | 21 => rfl
    | _ + 22 => rfl
  | 5, _ =>
    funext i
    match i with
    | 0 => rfl
    | 1 => rfl
    | 2 => rfl
    | 3 => rfl
    | 4 => rfl
    | 5 => rfl
    | 6 => rfl
    | 7 => rfl
    | 8 => rfl
    | 9 => rfl
    | 10 => rfl
    | 11 => rfl
    | 12 => rfl
    | 13 => rfl
    | 14 => rfl
    | 15 => rfl
    | 16 => rfl
    | 17 => rfl
    | 18 => rfl
    | 19 => rfl
    | 20 => rfl
    | 21 => rfl
    | _ + 22 => rfl
theorem vg_arr_removed (σ : Nat → ax_C) (I : Nat → Int) (F : Nat → Nat → Int) (f : Nat → Int) : va_up (vg σ I F) 2 (.inl (true, 100, fun j => zi (f j))) = vg σ I (va_up F 0 f) := by
  funext i
  match i with
  | 0 => rfl
  | 1 => rfl
  | 2 => rfl
  | 3 => rfl
  | 4 => rfl
  | 5 => rfl
  | 6 => rfl
  | 7 => rfl
  | 8 => rfl
  | 9 => rfl
  | 10 => rfl
  | 11 => rfl
  | 12 => rfl
  | 13 => rfl
  | 14 => rfl
  | 15 => rfl
  | 16 => rfl
  | 17 => rfl
  | 18 => rfl
  | 19 => rfl
  | 20 => rfl
  | 21 => rfl
  | _ + 22 => rfl
theorem vg_arr_barred (σ : Nat → ax_C) (I : Nat → Int) (F : Nat → Nat → Int) (f : Nat → Int) : va_up (vg σ I F) 3 (.inl (true, 100, fun j => zi (f j))) = vg σ I (va_up F 1 f) := by
  funext i
  match i with
  | 0 => rfl
  | 1 => rfl
  | 2 => rfl
  | 3 => rfl
  | 4 => rfl
  | 5 => rfl
  | 6 => rfl
  | 7 => rfl
  | 8 => rfl
  | 9 => rfl
  | 10 => rfl
  | 11 => rfl
  | 12 => rfl
  | 13 => rfl
  | 14 => rfl
  | 15 => rfl
  | 16 => rfl
  | 17 => rfl
  | 18 => rfl
  | 19 => rfl
  | 20 => rfl
  | 21 => rfl
  | _ + 22 => rfl
theorem vg_arr_values (σ : Nat → ax_C) (I : Nat → Int) (F : Nat → Nat → Int) (f : Nat → Int) : va_up (vg σ I F) 4 (.inl (false, 101 * (I 7).toNat, fun j => zi (f j))) = vg σ I (va_up F 2 f) := by
  funext i
  match i with
  | 0 => rfl
  | 1 => rfl
  | 2 => rfl
  | 3 => rfl
  | 4 => rfl
  | 5 => rfl
  | 6 => rfl
  | 7 => rfl
  | 8 => rfl
  | 9 => rfl
  | 10 => rfl
  | 11 => rfl
  | 12 => rfl
  | 13 => rfl
  | 14 => rfl
  | 15 => rfl
  | 16 => rfl
  | 17 => rfl
  | 18 => rfl
  | 19 => rfl
  | 20 => rfl
  | 21 => rfl
  | _ + 22 => rfl
theorem vg_arr_links (σ : Nat → ax_C) (I : Nat → Int) (F : Nat → Nat → Int) (f : Nat → Int) : va_up (vg σ I F) 6 (.inl (false, 3600, fun j => zi (f j))) = vg σ I (va_up F 3 f) := by
  funext i
  match i with
  | 0 => rfl
  | 1 => rfl
  | 2 => rfl
  | 3 => rfl
  | 4 => rfl
  | 5 => rfl
  | 6 => rfl
  | 7 => rfl
  | 8 => rfl
  | 9 => rfl
  | 10 => rfl
  | 11 => rfl
  | 12 => rfl
  | 13 => rfl
  | 14 => rfl
  | 15 => rfl
  | 16 => rfl
  | 17 => rfl
  | 18 => rfl
  | 19 => rfl
  | 20 => rfl
  | 21 => rfl
  | _ + 22 => rfl
theorem vg_arr_rowSizes (σ : Nat → ax_C) (I : Nat → Int) (F : Nat → Nat → Int) (f : Nat → Int) : va_up (vg σ I F) 7 (.inl (false, 500, fun j => zi (f j))) = vg σ I (va_up F 4 f) := by
  funext i
  match i with
  | 0 => rfl
  | 1 => rfl
  | 2 => rfl
  | 3 => rfl
  | 4 => rfl
  | 5 => rfl
  | 6 => rfl
  | 7 => rfl
  | 8 => rfl
  | 9 => rfl
  | 10 => rfl
  | 11 => rfl
  | 12 => rfl
  | 13 => rfl
  | 14 => rfl
  | 15 => rfl
  | 16 => rfl
  | 17 => rfl
  | 18 => rfl
  | 19 => rfl
  | 20 => rfl
  | 21 => rfl
  | _ + 22 => rfl
theorem vg_arr_met (σ : Nat → ax_C) (I : Nat → Int) (F : Nat → Nat → Int) (f : Nat → Int) : va_up (vg σ I F) 8 (.inl (true, 100, fun j => zi (f j))) = vg σ I (va_up F 5 f) := by
  funext i
  match i with
  | 0 => rfl
  | 1 => rfl
  | 2 => rfl
  | 3 => rfl
  | 4 => rfl
  | 5 => rfl
  | 6 => rfl
  | 7 => rfl
  | 8 => rfl
  | 9 => rfl
  | 10 => rfl
  | 11 => rfl
  | 12 => rfl
  | 13 => rfl
  | 14 => rfl
  | 15 => rfl
  | 16 => rfl
  | 17 => rfl
  | 18 => rfl
  | 19 => rfl
  | 20 => rfl
  | 21 => rfl
  | _ + 22 => rfl
theorem vg_arr_trail (σ : Nat → ax_C) (I : Nat → Int) (F : Nat → Nat → Int) (f : Nat → Int) : va_up (vg σ I F) 9 (.inl (false, 100, fun j => zi (f j))) = vg σ I (va_up F 6 f) := by
  funext i
  match i with
  | 0 => rfl
  | 1 => rfl
  | 2 => rfl
  | 3 => rfl
  | 4 => rfl
  | 5 => rfl
  | 6 => rfl
  | 7 => rfl
  | 8 => rfl
  | 9 => rfl
  | 10 => rfl
  | 11 => rfl
  | 12 => rfl
  | 13 => rfl
  | 14 => rfl
  | 15 => rfl
  | 16 => rfl
  | 17 => rfl
  | 18 => rfl
  | 19 => rfl
  | 20 => rfl
  | 21 => rfl
  | _ + 22 => rfl
theorem vg_arr_rk (σ : Nat → ax_C) (I : Nat → Int) (F : Nat → Nat → Int) (f : Nat → Int) {r : Nat} (hr : r < 6) : va_up (vg σ I F) (rkK r) (.inl (false, rkC r, fun j => zi (f j))) = vg σ I (va_up F (10 + r) f) := by
  match r, hr with
  | 0, _ =>
    funext i
    match i with
    | 0 => rfl
    | 1 => rfl
    | 2 => rfl
    | 3 => rfl
    | 4 => rfl
    | 5 => rfl
    | 6 => rfl
    | 7 => rfl
    | 8 => rfl
    | 9 => rfl
    | 10 => rfl
    | 11 => rfl
    | 12 => rfl
    | 13 => rfl
    | 14 => rfl
    | 15 => rfl
    | 16 => rfl
    | 17 => rfl
    | 18 => rfl
    | 19 => rfl
    | 20 => rfl
    | 21 => rfl
    | _ + 22 => rfl
  | 1, _ =>
    funext i
    match i with
    | 0 => rfl
    | 1 => rfl
    | 2 => rfl
    | 3 => rfl
    | 4 => rfl
    | 5 => rfl
    | 6 => rfl
    | 7 => rfl
    | 8 => rfl
    | 9 => rfl
    | 10 => rfl
    | 11 => rfl
    | 12 => rfl
    | 13 => rfl
    | 14 => rfl
    | 15 => rfl
    | 16 => rfl
    | 17 => rfl
    | 18 => rfl
    | 19 => rfl
    | 20 => rfl
    | 21 => rfl
    | _ + 22 => rfl
  | 2, _ =>
    funext i
    match i with
    | 0 => rfl
    | 1 => rfl
    | 2 => rfl
    | 3 => rfl
    | 4 => rfl
    | 5 => rfl
    | 6 => rfl
    | 7 => rfl
    | 8 => rfl
    | 9 => rfl
    | 10 => rfl
    | 11 => rfl
    | 12 => rfl
    | 13 => rfl
    | 14 => rfl
    | 15 => rfl
    | 16 => rfl
    | 17 => rfl
    | 18 => rfl
    | 19 => rfl
    | 20 => rfl
    | 21 => rfl
    | _ + 22 => rfl
  | 3, _ =>
    funext i
    match i with
    | 0 => rfl
    | 1 => rfl
    | 2 => rfl
    | 3 => rfl
    | 4 => rfl
    | 5 => rfl
    | 6 => rfl
    | 7 => rfl
    | 8 => rfl
    | 9 => rfl
    | 10 => rfl
    | 11 => rfl
    | 12 => rfl
    | 13 => rfl
    | 14 => rfl
    | 15 => rfl
    | 16 => rfl
    | 17 => rfl
    | 18 => rfl
    | 19 => rfl
    | 20 => rfl
    | 21 => rfl
    | _ + 22 => rfl
  | 4, _ =>
    funext i
    match i with
    | 0 => rfl
    | 1 => rfl
    | 2 => rfl
    | 3 => rfl
    | 4 => rfl
    | 5 => rfl
    | 6 => rfl
    | 7 => rfl
    | 8 => rfl
    | 9 => rfl
    | 10 => rfl
    | 11 => rfl
    | 12 => rfl
    | 13 => rfl
    | 14 => rfl
    | 15 => rfl
    | 16 => rfl
    | 17 => rfl
    | 18 => rfl
    | 19 => rfl
    | 20 => rfl
    | 21 => rfl
    | _ + 22 => rfl
  | 5, _ =>
    funext i
    match i with
    | 0 => rfl
    | 1 => rfl
    | 2 => rfl
    | 3 => rfl
    | 4 => rfl
    | 5 => rfl
    | 6 => rfl
    | 7 => rfl
    | 8 => rfl
    | 9 => rfl
    | 10 => rfl
    | 11 => rfl
    | 12 => rfl
    | 13 => rfl
    | 14 => rfl
    | 15 => rfl
    | 16 => rfl
    | 17 => rfl
    | 18 => rfl
    | 19 => rfl
    | 20 => rfl
    | 21 => rfl
    | _ + 22 => rfl
theorem xg_VG_vectors {sc : ax_S} {k pc q idx : Nat} {ls : List (Option Value)} {st : List Value} {σ : Nat → ax_C} {I : Nat → Int} {F : Nat → Nat → Int} {n bc bs : Nat} {K : ax_K} (hn : 22 ≤ n) (g0 : decode (g_m k).2.1 pc = .ok (.getfield idx, 3)) (g1 : pc + 3 = q) (g2 : ax_fld (g_m k).1.cls idx 3 0) (p0 : Ex sc k q ls (.ref (1) :: st) (vg σ I F, n, bc, bs) K) : Ex sc k pc ls (.ref 0 :: st) (vg σ I F, n, bc, bs) K := x_get (h := (vg σ I F, n, bc, bs)) (o := 0) g0 g1 g2 (show 0 < n by omega) rfl rfl p0
theorem xg_VG_graph {sc : ax_S} {k pc q idx : Nat} {ls : List (Option Value)} {st : List Value} {σ : Nat → ax_C} {I : Nat → Int} {F : Nat → Nat → Int} {n bc bs : Nat} {K : ax_K} (hn : 22 ≤ n) (g0 : decode (g_m k).2.1 pc = .ok (.getfield idx, 3)) (g1 : pc + 3 = q) (g2 : ax_fld (g_m k).1.cls idx 3 1) (p0 : Ex sc k q ls (.ref (5) :: st) (vg σ I F, n, bc, bs) K) : Ex sc k pc ls (.ref 0 :: st) (vg σ I F, n, bc, bs) K := x_get (h := (vg σ I F, n, bc, bs)) (o := 0) g0 g1 g2 (show 0 < n by omega) rfl rfl p0
theorem xg_VG_last {sc : ax_S} {k pc q idx : Nat} {ls : List (Option Value)} {st : List Value} {σ : Nat → ax_C} {I : Nat → Int} {F : Nat → Nat → Int} {n bc bs : Nat} {K : ax_K} (hn : 22 ≤ n) (g0 : decode (g_m k).2.1 pc = .ok (.getfield idx, 3)) (g1 : pc + 3 = q) (g2 : ax_fld (g_m k).1.cls idx 3 2) (p0 : Ex sc k q ls (.ref (rkO 3) :: st) (vg σ I F, n, bc, bs) K) : Ex sc k pc ls (.ref 0 :: st) (vg σ I F, n, bc, bs) K := x_get (h := (vg σ I F, n, bc, bs)) (o := 0) g0 g1 g2 (show 0 < n by omega) rfl rfl p0
theorem xg_VG_scratch {sc : ax_S} {k pc q idx : Nat} {ls : List (Option Value)} {st : List Value} {σ : Nat → ax_C} {I : Nat → Int} {F : Nat → Nat → Int} {n bc bs : Nat} {K : ax_K} (hn : 22 ≤ n) (g0 : decode (g_m k).2.1 pc = .ok (.getfield idx, 3)) (g1 : pc + 3 = q) (g2 : ax_fld (g_m k).1.cls idx 3 3) (p0 : Ex sc k q ls (.ref (rkO 4) :: st) (vg σ I F, n, bc, bs) K) : Ex sc k pc ls (.ref 0 :: st) (vg σ I F, n, bc, bs) K := x_get (h := (vg σ I F, n, bc, bs)) (o := 0) g0 g1 g2 (show 0 < n by omega) rfl rfl p0
theorem xg_VG_looked {sc : ax_S} {k pc q idx : Nat} {ls : List (Option Value)} {st : List Value} {σ : Nat → ax_C} {I : Nat → Int} {F : Nat → Nat → Int} {n bc bs : Nat} {K : ax_K} (hn : 22 ≤ n) (g0 : decode (g_m k).2.1 pc = .ok (.getfield idx, 3)) (g1 : pc + 3 = q) (g2 : ax_fld (g_m k).1.cls idx 3 4) (p0 : Ex sc k q ls (.ref (rkO 5) :: st) (vg σ I F, n, bc, bs) K) : Ex sc k pc ls (.ref 0 :: st) (vg σ I F, n, bc, bs) K := x_get (h := (vg σ I F, n, bc, bs)) (o := 0) g0 g1 g2 (show 0 < n by omega) rfl rfl p0
theorem xg_VG_latestSteps {sc : ax_S} {k pc q idx : Nat} {ls : List (Option Value)} {st : List Value} {σ : Nat → ax_C} {I : Nat → Int} {F : Nat → Nat → Int} {n bc bs : Nat} {K : ax_K} (hn : 22 ≤ n) (g0 : decode (g_m k).2.1 pc = .ok (.getfield idx, 3)) (g1 : pc + 3 = q) (g2 : ax_fld (g_m k).1.cls idx 3 5) (p0 : Ex sc k q ls (.int (zi (I 6)) :: st) (vg σ I F, n, bc, bs) K) : Ex sc k pc ls (.ref 0 :: st) (vg σ I F, n, bc, bs) K := x_get (h := (vg σ I F, n, bc, bs)) (o := 0) g0 g1 g2 (show 0 < n by omega) rfl rfl p0
theorem xp_VG_latestSteps {sc : ax_S} {k pc q idx : Nat} {ls : List (Option Value)} {st : List Value} {σ : Nat → ax_C} {I : Nat → Int} {F : Nat → Nat → Int} {n bc bs : Nat} {K : ax_K} {e : Int} (hn : 22 ≤ n) (g0 : decode (g_m k).2.1 pc = .ok (.putfield idx, 3)) (g1 : pc + 3 = q) (g2 : ax_fldW (g_m k).1.cls idx 3 5 .int false) (p0 : Ex sc k q ls st (vg σ (va_up I 6 e) F, n, bc, bs) K) : Ex sc k pc ls (.int (zi e) :: .ref 0 :: st) (vg σ I F, n, bc, bs) K := by
  refine x_put (h := (vg σ I F, n, bc, bs)) (o := 0) (ci := 3) (j := 5) (ty := .int) g0 g1 g2 (show 0 < n by omega) rfl (Nat.le_of_ble_eq_true rfl) rfl rfl ?_
  rw [← vg_put_6] at p0
  exact p0
theorem xg_V_parts {sc : ax_S} {k pc q idx : Nat} {ls : List (Option Value)} {st : List Value} {σ : Nat → ax_C} {I : Nat → Int} {F : Nat → Nat → Int} {n bc bs : Nat} {K : ax_K} (hn : 22 ≤ n) (g0 : decode (g_m k).2.1 pc = .ok (.getfield idx, 3)) (g1 : pc + 3 = q) (g2 : ax_fld (g_m k).1.cls idx 2 0) (p0 : Ex sc k q ls (.int (zi (I 7)) :: st) (vg σ I F, n, bc, bs) K) : Ex sc k pc ls (.ref 1 :: st) (vg σ I F, n, bc, bs) K := x_get (h := (vg σ I F, n, bc, bs)) (o := 1) g0 g1 g2 (show 1 < n by omega) rfl rfl p0
theorem xg_V_removed {sc : ax_S} {k pc q idx : Nat} {ls : List (Option Value)} {st : List Value} {σ : Nat → ax_C} {I : Nat → Int} {F : Nat → Nat → Int} {n bc bs : Nat} {K : ax_K} (hn : 22 ≤ n) (g0 : decode (g_m k).2.1 pc = .ok (.getfield idx, 3)) (g1 : pc + 3 = q) (g2 : ax_fld (g_m k).1.cls idx 2 1) (p0 : Ex sc k q ls (.ref (2) :: st) (vg σ I F, n, bc, bs) K) : Ex sc k pc ls (.ref 1 :: st) (vg σ I F, n, bc, bs) K := x_get (h := (vg σ I F, n, bc, bs)) (o := 1) g0 g1 g2 (show 1 < n by omega) rfl rfl p0
theorem xg_V_barred {sc : ax_S} {k pc q idx : Nat} {ls : List (Option Value)} {st : List Value} {σ : Nat → ax_C} {I : Nat → Int} {F : Nat → Nat → Int} {n bc bs : Nat} {K : ax_K} (hn : 22 ≤ n) (g0 : decode (g_m k).2.1 pc = .ok (.getfield idx, 3)) (g1 : pc + 3 = q) (g2 : ax_fld (g_m k).1.cls idx 2 2) (p0 : Ex sc k q ls (.ref (3) :: st) (vg σ I F, n, bc, bs) K) : Ex sc k pc ls (.ref 1 :: st) (vg σ I F, n, bc, bs) K := x_get (h := (vg σ I F, n, bc, bs)) (o := 1) g0 g1 g2 (show 1 < n by omega) rfl rfl p0
theorem xg_V_values {sc : ax_S} {k pc q idx : Nat} {ls : List (Option Value)} {st : List Value} {σ : Nat → ax_C} {I : Nat → Int} {F : Nat → Nat → Int} {n bc bs : Nat} {K : ax_K} (hn : 22 ≤ n) (g0 : decode (g_m k).2.1 pc = .ok (.getfield idx, 3)) (g1 : pc + 3 = q) (g2 : ax_fld (g_m k).1.cls idx 2 3) (p0 : Ex sc k q ls (.ref (4) :: st) (vg σ I F, n, bc, bs) K) : Ex sc k pc ls (.ref 1 :: st) (vg σ I F, n, bc, bs) K := x_get (h := (vg σ I F, n, bc, bs)) (o := 1) g0 g1 g2 (show 1 < n by omega) rfl rfl p0
theorem xg_V_total {sc : ax_S} {k pc q idx : Nat} {ls : List (Option Value)} {st : List Value} {σ : Nat → ax_C} {I : Nat → Int} {F : Nat → Nat → Int} {n bc bs : Nat} {K : ax_K} (hn : 22 ≤ n) (g0 : decode (g_m k).2.1 pc = .ok (.getfield idx, 3)) (g1 : pc + 3 = q) (g2 : ax_fld (g_m k).1.cls idx 2 4) (p0 : Ex sc k q ls (.int (zi (I 0)) :: st) (vg σ I F, n, bc, bs) K) : Ex sc k pc ls (.ref 1 :: st) (vg σ I F, n, bc, bs) K := x_get (h := (vg σ I F, n, bc, bs)) (o := 1) g0 g1 g2 (show 1 < n by omega) rfl rfl p0
theorem xp_V_total {sc : ax_S} {k pc q idx : Nat} {ls : List (Option Value)} {st : List Value} {σ : Nat → ax_C} {I : Nat → Int} {F : Nat → Nat → Int} {n bc bs : Nat} {K : ax_K} {e : Int} (hn : 22 ≤ n) (g0 : decode (g_m k).2.1 pc = .ok (.putfield idx, 3)) (g1 : pc + 3 = q) (g2 : ax_fldW (g_m k).1.cls idx 2 4 .int false) (p0 : Ex sc k q ls st (vg σ (va_up I 0 e) F, n, bc, bs) K) : Ex sc k pc ls (.int (zi e) :: .ref 1 :: st) (vg σ I F, n, bc, bs) K := by
  refine x_put (h := (vg σ I F, n, bc, bs)) (o := 1) (ci := 2) (j := 4) (ty := .int) g0 g1 g2 (show 1 < n by omega) rfl (Nat.le_of_ble_eq_true rfl) rfl rfl ?_
  rw [← vg_put_0] at p0
  exact p0
theorem xg_V_measure {sc : ax_S} {k pc q idx : Nat} {ls : List (Option Value)} {st : List Value} {σ : Nat → ax_C} {I : Nat → Int} {F : Nat → Nat → Int} {n bc bs : Nat} {K : ax_K} (hn : 22 ≤ n) (g0 : decode (g_m k).2.1 pc = .ok (.getfield idx, 3)) (g1 : pc + 3 = q) (g2 : ax_fld (g_m k).1.cls idx 2 5) (p0 : Ex sc k q ls (.int (zi (I 1)) :: st) (vg σ I F, n, bc, bs) K) : Ex sc k pc ls (.ref 1 :: st) (vg σ I F, n, bc, bs) K := x_get (h := (vg σ I F, n, bc, bs)) (o := 1) g0 g1 g2 (show 1 < n by omega) rfl rfl p0
theorem xp_V_measure {sc : ax_S} {k pc q idx : Nat} {ls : List (Option Value)} {st : List Value} {σ : Nat → ax_C} {I : Nat → Int} {F : Nat → Nat → Int} {n bc bs : Nat} {K : ax_K} {e : Int} (hn : 22 ≤ n) (g0 : decode (g_m k).2.1 pc = .ok (.putfield idx, 3)) (g1 : pc + 3 = q) (g2 : ax_fldW (g_m k).1.cls idx 2 5 .int false) (p0 : Ex sc k q ls st (vg σ (va_up I 1 e) F, n, bc, bs) K) : Ex sc k pc ls (.int (zi e) :: .ref 1 :: st) (vg σ I F, n, bc, bs) K := by
  refine x_put (h := (vg σ I F, n, bc, bs)) (o := 1) (ci := 2) (j := 5) (ty := .int) g0 g1 g2 (show 1 < n by omega) rfl (Nat.le_of_ble_eq_true rfl) rfl rfl ?_
  rw [← vg_put_1] at p0
  exact p0
theorem xg_G_found {sc : ax_S} {k pc q idx : Nat} {ls : List (Option Value)} {st : List Value} {σ : Nat → ax_C} {I : Nat → Int} {F : Nat → Nat → Int} {n bc bs : Nat} {K : ax_K} (hn : 22 ≤ n) (g0 : decode (g_m k).2.1 pc = .ok (.getfield idx, 3)) (g1 : pc + 3 = q) (g2 : ax_fld (g_m k).1.cls idx 0 0) (p0 : Ex sc k q ls (.ref (rkO 0) :: st) (vg σ I F, n, bc, bs) K) : Ex sc k pc ls (.ref 5 :: st) (vg σ I F, n, bc, bs) K := x_get (h := (vg σ I F, n, bc, bs)) (o := 5) g0 g1 g2 (show 5 < n by omega) rfl rfl p0
theorem xg_G_entry {sc : ax_S} {k pc q idx : Nat} {ls : List (Option Value)} {st : List Value} {σ : Nat → ax_C} {I : Nat → Int} {F : Nat → Nat → Int} {n bc bs : Nat} {K : ax_K} (hn : 22 ≤ n) (g0 : decode (g_m k).2.1 pc = .ok (.getfield idx, 3)) (g1 : pc + 3 = q) (g2 : ax_fld (g_m k).1.cls idx 0 1) (p0 : Ex sc k q ls (.int (zi (I 2)) :: st) (vg σ I F, n, bc, bs) K) : Ex sc k pc ls (.ref 5 :: st) (vg σ I F, n, bc, bs) K := x_get (h := (vg σ I F, n, bc, bs)) (o := 5) g0 g1 g2 (show 5 < n by omega) rfl rfl p0
theorem xp_G_entry {sc : ax_S} {k pc q idx : Nat} {ls : List (Option Value)} {st : List Value} {σ : Nat → ax_C} {I : Nat → Int} {F : Nat → Nat → Int} {n bc bs : Nat} {K : ax_K} {e : Int} (hn : 22 ≤ n) (g0 : decode (g_m k).2.1 pc = .ok (.putfield idx, 3)) (g1 : pc + 3 = q) (g2 : ax_fldW (g_m k).1.cls idx 0 1 .int false) (p0 : Ex sc k q ls st (vg σ (va_up I 2 e) F, n, bc, bs) K) : Ex sc k pc ls (.int (zi e) :: .ref 5 :: st) (vg σ I F, n, bc, bs) K := by
  refine x_put (h := (vg σ I F, n, bc, bs)) (o := 5) (ci := 0) (j := 1) (ty := .int) g0 g1 g2 (show 5 < n by omega) rfl (Nat.le_of_ble_eq_true rfl) rfl rfl ?_
  rw [← vg_put_2] at p0
  exact p0
theorem xg_G_width {sc : ax_S} {k pc q idx : Nat} {ls : List (Option Value)} {st : List Value} {σ : Nat → ax_C} {I : Nat → Int} {F : Nat → Nat → Int} {n bc bs : Nat} {K : ax_K} (hn : 22 ≤ n) (g0 : decode (g_m k).2.1 pc = .ok (.getfield idx, 3)) (g1 : pc + 3 = q) (g2 : ax_fld (g_m k).1.cls idx 0 2) (p0 : Ex sc k q ls (.int (zi (I 3)) :: st) (vg σ I F, n, bc, bs) K) : Ex sc k pc ls (.ref 5 :: st) (vg σ I F, n, bc, bs) K := x_get (h := (vg σ I F, n, bc, bs)) (o := 5) g0 g1 g2 (show 5 < n by omega) rfl rfl p0
theorem xp_G_width {sc : ax_S} {k pc q idx : Nat} {ls : List (Option Value)} {st : List Value} {σ : Nat → ax_C} {I : Nat → Int} {F : Nat → Nat → Int} {n bc bs : Nat} {K : ax_K} {e : Int} (hn : 22 ≤ n) (g0 : decode (g_m k).2.1 pc = .ok (.putfield idx, 3)) (g1 : pc + 3 = q) (g2 : ax_fldW (g_m k).1.cls idx 0 2 .int false) (p0 : Ex sc k q ls st (vg σ (va_up I 3 e) F, n, bc, bs) K) : Ex sc k pc ls (.int (zi e) :: .ref 5 :: st) (vg σ I F, n, bc, bs) K := by
  refine x_put (h := (vg σ I F, n, bc, bs)) (o := 5) (ci := 0) (j := 2) (ty := .int) g0 g1 g2 (show 5 < n by omega) rfl (Nat.le_of_ble_eq_true rfl) rfl rfl ?_
  rw [← vg_put_3] at p0
  exact p0
theorem xg_G_careful {sc : ax_S} {k pc q idx : Nat} {ls : List (Option Value)} {st : List Value} {σ : Nat → ax_C} {I : Nat → Int} {F : Nat → Nat → Int} {n bc bs : Nat} {K : ax_K} (hn : 22 ≤ n) (g0 : decode (g_m k).2.1 pc = .ok (.getfield idx, 3)) (g1 : pc + 3 = q) (g2 : ax_fld (g_m k).1.cls idx 0 3) (p0 : Ex sc k q ls (.int (zi (I 4)) :: st) (vg σ I F, n, bc, bs) K) : Ex sc k pc ls (.ref 5 :: st) (vg σ I F, n, bc, bs) K := x_get (h := (vg σ I F, n, bc, bs)) (o := 5) g0 g1 g2 (show 5 < n by omega) rfl rfl p0
theorem xp_G_careful {sc : ax_S} {k pc q idx : Nat} {ls : List (Option Value)} {st : List Value} {σ : Nat → ax_C} {I : Nat → Int} {F : Nat → Nat → Int} {n bc bs : Nat} {K : ax_K} {e : Int} (hn : 22 ≤ n) (hb : e = 0 ∨ e = 1) (g0 : decode (g_m k).2.1 pc = .ok (.putfield idx, 3)) (g1 : pc + 3 = q) (g2 : ax_fldW (g_m k).1.cls idx 0 3 .boolean false) (p0 : Ex sc k q ls st (vg σ (va_up I 4 e) F, n, bc, bs) K) : Ex sc k pc ls (.int (zi e) :: .ref 5 :: st) (vg σ I F, n, bc, bs) K := by
  refine x_put (h := (vg σ I F, n, bc, bs)) (o := 5) (ci := 0) (j := 3) (ty := .boolean) g0 g1 g2 (show 5 < n by omega) rfl (Nat.le_of_ble_eq_true rfl) (zi_narB hb) (zi_fitB hb) ?_
  rw [← vg_put_4] at p0
  exact p0
theorem xg_G_walked {sc : ax_S} {k pc q idx : Nat} {ls : List (Option Value)} {st : List Value} {σ : Nat → ax_C} {I : Nat → Int} {F : Nat → Nat → Int} {n bc bs : Nat} {K : ax_K} (hn : 22 ≤ n) (g0 : decode (g_m k).2.1 pc = .ok (.getfield idx, 3)) (g1 : pc + 3 = q) (g2 : ax_fld (g_m k).1.cls idx 0 4) (p0 : Ex sc k q ls (.int (zi (I 5)) :: st) (vg σ I F, n, bc, bs) K) : Ex sc k pc ls (.ref 5 :: st) (vg σ I F, n, bc, bs) K := x_get (h := (vg σ I F, n, bc, bs)) (o := 5) g0 g1 g2 (show 5 < n by omega) rfl rfl p0
theorem xp_G_walked {sc : ax_S} {k pc q idx : Nat} {ls : List (Option Value)} {st : List Value} {σ : Nat → ax_C} {I : Nat → Int} {F : Nat → Nat → Int} {n bc bs : Nat} {K : ax_K} {e : Int} (hn : 22 ≤ n) (g0 : decode (g_m k).2.1 pc = .ok (.putfield idx, 3)) (g1 : pc + 3 = q) (g2 : ax_fldW (g_m k).1.cls idx 0 4 .int false) (p0 : Ex sc k q ls st (vg σ (va_up I 5 e) F, n, bc, bs) K) : Ex sc k pc ls (.int (zi e) :: .ref 5 :: st) (vg σ I F, n, bc, bs) K := by
  refine x_put (h := (vg σ I F, n, bc, bs)) (o := 5) (ci := 0) (j := 4) (ty := .int) g0 g1 g2 (show 5 < n by omega) rfl (Nat.le_of_ble_eq_true rfl) rfl rfl ?_
  rw [← vg_put_5] at p0
  exact p0
theorem xg_G_vectors {sc : ax_S} {k pc q idx : Nat} {ls : List (Option Value)} {st : List Value} {σ : Nat → ax_C} {I : Nat → Int} {F : Nat → Nat → Int} {n bc bs : Nat} {K : ax_K} (hn : 22 ≤ n) (g0 : decode (g_m k).2.1 pc = .ok (.getfield idx, 3)) (g1 : pc + 3 = q) (g2 : ax_fld (g_m k).1.cls idx 0 5) (p0 : Ex sc k q ls (.ref (1) :: st) (vg σ I F, n, bc, bs) K) : Ex sc k pc ls (.ref 5 :: st) (vg σ I F, n, bc, bs) K := x_get (h := (vg σ I F, n, bc, bs)) (o := 5) g0 g1 g2 (show 5 < n by omega) rfl rfl p0
theorem xg_G_seed {sc : ax_S} {k pc q idx : Nat} {ls : List (Option Value)} {st : List Value} {σ : Nat → ax_C} {I : Nat → Int} {F : Nat → Nat → Int} {n bc bs : Nat} {K : ax_K} (hn : 22 ≤ n) (g0 : decode (g_m k).2.1 pc = .ok (.getfield idx, 3)) (g1 : pc + 3 = q) (g2 : ax_fld (g_m k).1.cls idx 0 6) (p0 : Ex sc k q ls (.int (zi (I 8)) :: st) (vg σ I F, n, bc, bs) K) : Ex sc k pc ls (.ref 5 :: st) (vg σ I F, n, bc, bs) K := x_get (h := (vg σ I F, n, bc, bs)) (o := 5) g0 g1 g2 (show 5 < n by omega) rfl rfl p0
theorem xg_G_links {sc : ax_S} {k pc q idx : Nat} {ls : List (Option Value)} {st : List Value} {σ : Nat → ax_C} {I : Nat → Int} {F : Nat → Nat → Int} {n bc bs : Nat} {K : ax_K} (hn : 22 ≤ n) (g0 : decode (g_m k).2.1 pc = .ok (.getfield idx, 3)) (g1 : pc + 3 = q) (g2 : ax_fld (g_m k).1.cls idx 0 7) (p0 : Ex sc k q ls (.ref (6) :: st) (vg σ I F, n, bc, bs) K) : Ex sc k pc ls (.ref 5 :: st) (vg σ I F, n, bc, bs) K := x_get (h := (vg σ I F, n, bc, bs)) (o := 5) g0 g1 g2 (show 5 < n by omega) rfl rfl p0
theorem xg_G_rowSizes {sc : ax_S} {k pc q idx : Nat} {ls : List (Option Value)} {st : List Value} {σ : Nat → ax_C} {I : Nat → Int} {F : Nat → Nat → Int} {n bc bs : Nat} {K : ax_K} (hn : 22 ≤ n) (g0 : decode (g_m k).2.1 pc = .ok (.getfield idx, 3)) (g1 : pc + 3 = q) (g2 : ax_fld (g_m k).1.cls idx 0 8) (p0 : Ex sc k q ls (.ref (7) :: st) (vg σ I F, n, bc, bs) K) : Ex sc k pc ls (.ref 5 :: st) (vg σ I F, n, bc, bs) K := x_get (h := (vg σ I F, n, bc, bs)) (o := 5) g0 g1 g2 (show 5 < n by omega) rfl rfl p0
theorem xg_G_met {sc : ax_S} {k pc q idx : Nat} {ls : List (Option Value)} {st : List Value} {σ : Nat → ax_C} {I : Nat → Int} {F : Nat → Nat → Int} {n bc bs : Nat} {K : ax_K} (hn : 22 ≤ n) (g0 : decode (g_m k).2.1 pc = .ok (.getfield idx, 3)) (g1 : pc + 3 = q) (g2 : ax_fld (g_m k).1.cls idx 0 9) (p0 : Ex sc k q ls (.ref (8) :: st) (vg σ I F, n, bc, bs) K) : Ex sc k pc ls (.ref 5 :: st) (vg σ I F, n, bc, bs) K := x_get (h := (vg σ I F, n, bc, bs)) (o := 5) g0 g1 g2 (show 5 < n by omega) rfl rfl p0
theorem xg_G_trail {sc : ax_S} {k pc q idx : Nat} {ls : List (Option Value)} {st : List Value} {σ : Nat → ax_C} {I : Nat → Int} {F : Nat → Nat → Int} {n bc bs : Nat} {K : ax_K} (hn : 22 ≤ n) (g0 : decode (g_m k).2.1 pc = .ok (.getfield idx, 3)) (g1 : pc + 3 = q) (g2 : ax_fld (g_m k).1.cls idx 0 10) (p0 : Ex sc k q ls (.ref (9) :: st) (vg σ I F, n, bc, bs) K) : Ex sc k pc ls (.ref 5 :: st) (vg σ I F, n, bc, bs) K := x_get (h := (vg σ I F, n, bc, bs)) (o := 5) g0 g1 g2 (show 5 < n by omega) rfl rfl p0
theorem xg_G_open {sc : ax_S} {k pc q idx : Nat} {ls : List (Option Value)} {st : List Value} {σ : Nat → ax_C} {I : Nat → Int} {F : Nat → Nat → Int} {n bc bs : Nat} {K : ax_K} (hn : 22 ≤ n) (g0 : decode (g_m k).2.1 pc = .ok (.getfield idx, 3)) (g1 : pc + 3 = q) (g2 : ax_fld (g_m k).1.cls idx 0 11) (p0 : Ex sc k q ls (.ref (rkO 1) :: st) (vg σ I F, n, bc, bs) K) : Ex sc k pc ls (.ref 5 :: st) (vg σ I F, n, bc, bs) K := x_get (h := (vg σ I F, n, bc, bs)) (o := 5) g0 g1 g2 (show 5 < n by omega) rfl rfl p0
theorem xg_G_pool {sc : ax_S} {k pc q idx : Nat} {ls : List (Option Value)} {st : List Value} {σ : Nat → ax_C} {I : Nat → Int} {F : Nat → Nat → Int} {n bc bs : Nat} {K : ax_K} (hn : 22 ≤ n) (g0 : decode (g_m k).2.1 pc = .ok (.getfield idx, 3)) (g1 : pc + 3 = q) (g2 : ax_fld (g_m k).1.cls idx 0 12) (p0 : Ex sc k q ls (.ref (rkO 2) :: st) (vg σ I F, n, bc, bs) K) : Ex sc k pc ls (.ref 5 :: st) (vg σ I F, n, bc, bs) K := x_get (h := (vg σ I F, n, bc, bs)) (o := 5) g0 g1 g2 (show 5 < n by omega) rfl rfl p0
theorem xg_R_size {sc : ax_S} {k pc q idx : Nat} {ls : List (Option Value)} {st : List Value} {σ : Nat → ax_C} {I : Nat → Int} {F : Nat → Nat → Int} {n bc bs : Nat} {K : ax_K} {r : Nat} (hr : r < 6) (hn : 22 ≤ n) (g0 : decode (g_m k).2.1 pc = .ok (.getfield idx, 3)) (g1 : pc + 3 = q) (g2 : ax_fld (g_m k).1.cls idx 1 1) (p0 : Ex sc k q ls (.int (zi (I (10 + r))) :: st) (vg σ I F, n, bc, bs) K) : Ex sc k pc ls (.ref (rkO r) :: st) (vg σ I F, n, bc, bs) K := x_get (h := (vg σ I F, n, bc, bs)) (o := rkO r) g0 g1 g2 (rk_lt hr hn).1 (vg_rk hr) rfl p0
theorem xg_R_keys {sc : ax_S} {k pc q idx : Nat} {ls : List (Option Value)} {st : List Value} {σ : Nat → ax_C} {I : Nat → Int} {F : Nat → Nat → Int} {n bc bs : Nat} {K : ax_K} {r : Nat} (hr : r < 6) (hn : 22 ≤ n) (g0 : decode (g_m k).2.1 pc = .ok (.getfield idx, 3)) (g1 : pc + 3 = q) (g2 : ax_fld (g_m k).1.cls idx 1 0) (p0 : Ex sc k q ls (.ref (rkK r) :: st) (vg σ I F, n, bc, bs) K) : Ex sc k pc ls (.ref (rkO r) :: st) (vg σ I F, n, bc, bs) K := x_get (h := (vg σ I F, n, bc, bs)) (o := rkO r) g0 g1 g2 (rk_lt hr hn).1 (vg_rk hr) rfl p0
theorem xp_R_size {sc : ax_S} {k pc q idx : Nat} {ls : List (Option Value)} {st : List Value} {σ : Nat → ax_C} {I : Nat → Int} {F : Nat → Nat → Int} {n bc bs : Nat} {K : ax_K} {r : Nat} {e : Int} (hr : r < 6) (hn : 22 ≤ n) (g0 : decode (g_m k).2.1 pc = .ok (.putfield idx, 3)) (g1 : pc + 3 = q) (g2 : ax_fldW (g_m k).1.cls idx 1 1 .int false) (p0 : Ex sc k q ls st (vg σ (va_up I (10 + r) e) F, n, bc, bs) K) : Ex sc k pc ls (.int (zi e) :: .ref (rkO r) :: st) (vg σ I F, n, bc, bs) K := by
  refine x_put (h := (vg σ I F, n, bc, bs)) (o := rkO r) (ci := 1) (j := 1) (ty := .int) g0 g1 g2 (rk_lt hr hn).1 (vg_rk hr) (Nat.le_of_ble_eq_true rfl) rfl rfl ?_
  rw [← vg_put_rk σ I F e hr] at p0
  exact p0
theorem xl_removed {sc : ax_S} {k pc q : Nat} {ls : List (Option Value)} {st : List Value} {σ : Nat → ax_C} {I : Nat → Int} {F : Nat → Nat → Int} {n bc bs : Nat} {K : ax_K} {a : Int} (hn : 22 ≤ n) (g0 : decode (g_m k).2.1 pc = .ok (.baload, 1)) (g1 : pc + 1 = q) (h1 : 0 ≤ a) (h2 : a < (100 : Nat)) (p0 : Ex sc k q ls (.int (zi (F 0 a.toNat)) :: st) (vg σ I F, n, bc, bs) K) : Ex sc k pc ls (.int (zi a) :: .ref 2 :: st) (vg σ I F, n, bc, bs) K := by
  refine x_zald (h := (vg σ I F, n, bc, bs)) (o := 2) (n := 100) (f := fun j => zi (F 0 j)) g0 g1 (show 2 < n by omega) rfl (zi_in h1 h2 (by omega)) ?_
  show Ex sc k q ls (.int (zi (F 0 (zi a).toNatClampNeg)) :: st) (vg σ I F, n, bc, bs) K
  rw [zi_c h1 (by omega)]
  exact p0
theorem xs_removed {sc : ax_S} {k pc q : Nat} {ls : List (Option Value)} {st : List Value} {σ : Nat → ax_C} {I : Nat → Int} {F : Nat → Nat → Int} {n bc bs : Nat} {K : ax_K} {a e : Int} (hn : 22 ≤ n) (hb : e = 0 ∨ e = 1) (g0 : decode (g_m k).2.1 pc = .ok (.bastore, 1)) (g1 : pc + 1 = q) (h1 : 0 ≤ a) (h2 : a < (100 : Nat)) (p0 : Ex sc k q ls st (vg σ I (va_up F (0) (va_up (F (0)) a.toNat e)), n, bc, bs) K) : Ex sc k pc ls (.int (zi e) :: .int (zi a) :: .ref 2 :: st) (vg σ I F, n, bc, bs) K := by
  refine x_zast (h := (vg σ I F, n, bc, bs)) (o := 2) (n := 100) (f := fun j => zi (F 0 j)) g0 g1 (show 2 < n by omega) rfl (zi_in h1 h2 (by omega)) ?_
  rw [zi_nar hb, zi_c h1 (by omega), upd_zi]
  rw [← vg_arr_removed] at p0
  exact p0
theorem xn_removed {sc : ax_S} {k pc q : Nat} {ls : List (Option Value)} {st : List Value} {σ : Nat → ax_C} {I : Nat → Int} {F : Nat → Nat → Int} {n bc bs : Nat} {K : ax_K} (hn : 22 ≤ n) (g0 : decode (g_m k).2.1 pc = .ok (.arraylength, 1)) (g1 : pc + 1 = q) (p0 : Ex sc k q ls (.int (zi (100 : Nat)) :: st) (vg σ I F, n, bc, bs) K) : Ex sc k pc ls (.ref 2 :: st) (vg σ I F, n, bc, bs) K := x_alen (h := (vg σ I F, n, bc, bs)) (o := 2) (n := 100) g0 g1 (show 2 < n by omega) rfl (by rw [zi_nI]; exact p0)
theorem xl_barred {sc : ax_S} {k pc q : Nat} {ls : List (Option Value)} {st : List Value} {σ : Nat → ax_C} {I : Nat → Int} {F : Nat → Nat → Int} {n bc bs : Nat} {K : ax_K} {a : Int} (hn : 22 ≤ n) (g0 : decode (g_m k).2.1 pc = .ok (.baload, 1)) (g1 : pc + 1 = q) (h1 : 0 ≤ a) (h2 : a < (100 : Nat)) (p0 : Ex sc k q ls (.int (zi (F 1 a.toNat)) :: st) (vg σ I F, n, bc, bs) K) : Ex sc k pc ls (.int (zi a) :: .ref 3 :: st) (vg σ I F, n, bc, bs) K := by
  refine x_zald (h := (vg σ I F, n, bc, bs)) (o := 3) (n := 100) (f := fun j => zi (F 1 j)) g0 g1 (show 3 < n by omega) rfl (zi_in h1 h2 (by omega)) ?_
  show Ex sc k q ls (.int (zi (F 1 (zi a).toNatClampNeg)) :: st) (vg σ I F, n, bc, bs) K
  rw [zi_c h1 (by omega)]
  exact p0
theorem xs_barred {sc : ax_S} {k pc q : Nat} {ls : List (Option Value)} {st : List Value} {σ : Nat → ax_C} {I : Nat → Int} {F : Nat → Nat → Int} {n bc bs : Nat} {K : ax_K} {a e : Int} (hn : 22 ≤ n) (hb : e = 0 ∨ e = 1) (g0 : decode (g_m k).2.1 pc = .ok (.bastore, 1)) (g1 : pc + 1 = q) (h1 : 0 ≤ a) (h2 : a < (100 : Nat)) (p0 : Ex sc k q ls st (vg σ I (va_up F (1) (va_up (F (1)) a.toNat e)), n, bc, bs) K) : Ex sc k pc ls (.int (zi e) :: .int (zi a) :: .ref 3 :: st) (vg σ I F, n, bc, bs) K := by
  refine x_zast (h := (vg σ I F, n, bc, bs)) (o := 3) (n := 100) (f := fun j => zi (F 1 j)) g0 g1 (show 3 < n by omega) rfl (zi_in h1 h2 (by omega)) ?_
  rw [zi_nar hb, zi_c h1 (by omega), upd_zi]
  rw [← vg_arr_barred] at p0
  exact p0
theorem xn_barred {sc : ax_S} {k pc q : Nat} {ls : List (Option Value)} {st : List Value} {σ : Nat → ax_C} {I : Nat → Int} {F : Nat → Nat → Int} {n bc bs : Nat} {K : ax_K} (hn : 22 ≤ n) (g0 : decode (g_m k).2.1 pc = .ok (.arraylength, 1)) (g1 : pc + 1 = q) (p0 : Ex sc k q ls (.int (zi (100 : Nat)) :: st) (vg σ I F, n, bc, bs) K) : Ex sc k pc ls (.ref 3 :: st) (vg σ I F, n, bc, bs) K := x_alen (h := (vg σ I F, n, bc, bs)) (o := 3) (n := 100) g0 g1 (show 3 < n by omega) rfl (by rw [zi_nI]; exact p0)
theorem xl_values {sc : ax_S} {k pc q : Nat} {ls : List (Option Value)} {st : List Value} {σ : Nat → ax_C} {I : Nat → Int} {F : Nat → Nat → Int} {n bc bs : Nat} {K : ax_K} {a : Int} (hn : 22 ≤ n) (g0 : decode (g_m k).2.1 pc = .ok (.iaload, 1)) (g1 : pc + 1 = q) (h1 : 0 ≤ a) (h2 : a < (101 * (I 7).toNat : Nat)) (hp : (I 7).toNat ≤ 8) (p0 : Ex sc k q ls (.int (zi (F 2 a.toNat)) :: st) (vg σ I F, n, bc, bs) K) : Ex sc k pc ls (.int (zi a) :: .ref 4 :: st) (vg σ I F, n, bc, bs) K := by
  refine x_iald (h := (vg σ I F, n, bc, bs)) (o := 4) (n := 101 * (I 7).toNat) (f := fun j => zi (F 2 j)) g0 g1 (show 4 < n by omega) rfl (zi_in h1 h2 (by omega)) ?_
  show Ex sc k q ls (.int (zi (F 2 (zi a).toNatClampNeg)) :: st) (vg σ I F, n, bc, bs) K
  rw [zi_c h1 (by omega)]
  exact p0
theorem xs_values {sc : ax_S} {k pc q : Nat} {ls : List (Option Value)} {st : List Value} {σ : Nat → ax_C} {I : Nat → Int} {F : Nat → Nat → Int} {n bc bs : Nat} {K : ax_K} {a e : Int} (hn : 22 ≤ n) (g0 : decode (g_m k).2.1 pc = .ok (.iastore, 1)) (g1 : pc + 1 = q) (h1 : 0 ≤ a) (h2 : a < (101 * (I 7).toNat : Nat)) (hp : (I 7).toNat ≤ 8) (p0 : Ex sc k q ls st (vg σ I (va_up F (2) (va_up (F (2)) a.toNat e)), n, bc, bs) K) : Ex sc k pc ls (.int (zi e) :: .int (zi a) :: .ref 4 :: st) (vg σ I F, n, bc, bs) K := by
  refine x_iast (h := (vg σ I F, n, bc, bs)) (o := 4) (n := 101 * (I 7).toNat) (f := fun j => zi (F 2 j)) g0 g1 (show 4 < n by omega) rfl (zi_in h1 h2 (by omega)) ?_
  rw [zi_c h1 (by omega), upd_zi]
  rw [← vg_arr_values] at p0
  exact p0
theorem xn_values {sc : ax_S} {k pc q : Nat} {ls : List (Option Value)} {st : List Value} {σ : Nat → ax_C} {I : Nat → Int} {F : Nat → Nat → Int} {n bc bs : Nat} {K : ax_K} (hn : 22 ≤ n) (g0 : decode (g_m k).2.1 pc = .ok (.arraylength, 1)) (g1 : pc + 1 = q) (p0 : Ex sc k q ls (.int (zi (101 * (I 7).toNat : Nat)) :: st) (vg σ I F, n, bc, bs) K) : Ex sc k pc ls (.ref 4 :: st) (vg σ I F, n, bc, bs) K := x_alen (h := (vg σ I F, n, bc, bs)) (o := 4) (n := 101 * (I 7).toNat) g0 g1 (show 4 < n by omega) rfl (by rw [zi_nI]; exact p0)
theorem xl_links {sc : ax_S} {k pc q : Nat} {ls : List (Option Value)} {st : List Value} {σ : Nat → ax_C} {I : Nat → Int} {F : Nat → Nat → Int} {n bc bs : Nat} {K : ax_K} {a : Int} (hn : 22 ≤ n) (g0 : decode (g_m k).2.1 pc = .ok (.iaload, 1)) (g1 : pc + 1 = q) (h1 : 0 ≤ a) (h2 : a < (3600 : Nat)) (p0 : Ex sc k q ls (.int (zi (F 3 a.toNat)) :: st) (vg σ I F, n, bc, bs) K) : Ex sc k pc ls (.int (zi a) :: .ref 6 :: st) (vg σ I F, n, bc, bs) K := by
  refine x_iald (h := (vg σ I F, n, bc, bs)) (o := 6) (n := 3600) (f := fun j => zi (F 3 j)) g0 g1 (show 6 < n by omega) rfl (zi_in h1 h2 (by omega)) ?_
  show Ex sc k q ls (.int (zi (F 3 (zi a).toNatClampNeg)) :: st) (vg σ I F, n, bc, bs) K
  rw [zi_c h1 (by omega)]
  exact p0
theorem xs_links {sc : ax_S} {k pc q : Nat} {ls : List (Option Value)} {st : List Value} {σ : Nat → ax_C} {I : Nat → Int} {F : Nat → Nat → Int} {n bc bs : Nat} {K : ax_K} {a e : Int} (hn : 22 ≤ n) (g0 : decode (g_m k).2.1 pc = .ok (.iastore, 1)) (g1 : pc + 1 = q) (h1 : 0 ≤ a) (h2 : a < (3600 : Nat)) (p0 : Ex sc k q ls st (vg σ I (va_up F (3) (va_up (F (3)) a.toNat e)), n, bc, bs) K) : Ex sc k pc ls (.int (zi e) :: .int (zi a) :: .ref 6 :: st) (vg σ I F, n, bc, bs) K := by
  refine x_iast (h := (vg σ I F, n, bc, bs)) (o := 6) (n := 3600) (f := fun j => zi (F 3 j)) g0 g1 (show 6 < n by omega) rfl (zi_in h1 h2 (by omega)) ?_
  rw [zi_c h1 (by omega), upd_zi]
  rw [← vg_arr_links] at p0
  exact p0
theorem xn_links {sc : ax_S} {k pc q : Nat} {ls : List (Option Value)} {st : List Value} {σ : Nat → ax_C} {I : Nat → Int} {F : Nat → Nat → Int} {n bc bs : Nat} {K : ax_K} (hn : 22 ≤ n) (g0 : decode (g_m k).2.1 pc = .ok (.arraylength, 1)) (g1 : pc + 1 = q) (p0 : Ex sc k q ls (.int (zi (3600 : Nat)) :: st) (vg σ I F, n, bc, bs) K) : Ex sc k pc ls (.ref 6 :: st) (vg σ I F, n, bc, bs) K := x_alen (h := (vg σ I F, n, bc, bs)) (o := 6) (n := 3600) g0 g1 (show 6 < n by omega) rfl (by rw [zi_nI]; exact p0)
theorem xl_rowSizes {sc : ax_S} {k pc q : Nat} {ls : List (Option Value)} {st : List Value} {σ : Nat → ax_C} {I : Nat → Int} {F : Nat → Nat → Int} {n bc bs : Nat} {K : ax_K} {a : Int} (hn : 22 ≤ n) (g0 : decode (g_m k).2.1 pc = .ok (.iaload, 1)) (g1 : pc + 1 = q) (h1 : 0 ≤ a) (h2 : a < (500 : Nat)) (p0 : Ex sc k q ls (.int (zi (F 4 a.toNat)) :: st) (vg σ I F, n, bc, bs) K) : Ex sc k pc ls (.int (zi a) :: .ref 7 :: st) (vg σ I F, n, bc, bs) K := by
  refine x_iald (h := (vg σ I F, n, bc, bs)) (o := 7) (n := 500) (f := fun j => zi (F 4 j)) g0 g1 (show 7 < n by omega) rfl (zi_in h1 h2 (by omega)) ?_
  show Ex sc k q ls (.int (zi (F 4 (zi a).toNatClampNeg)) :: st) (vg σ I F, n, bc, bs) K
  rw [zi_c h1 (by omega)]
  exact p0
theorem xs_rowSizes {sc : ax_S} {k pc q : Nat} {ls : List (Option Value)} {st : List Value} {σ : Nat → ax_C} {I : Nat → Int} {F : Nat → Nat → Int} {n bc bs : Nat} {K : ax_K} {a e : Int} (hn : 22 ≤ n) (g0 : decode (g_m k).2.1 pc = .ok (.iastore, 1)) (g1 : pc + 1 = q) (h1 : 0 ≤ a) (h2 : a < (500 : Nat)) (p0 : Ex sc k q ls st (vg σ I (va_up F (4) (va_up (F (4)) a.toNat e)), n, bc, bs) K) : Ex sc k pc ls (.int (zi e) :: .int (zi a) :: .ref 7 :: st) (vg σ I F, n, bc, bs) K := by
  refine x_iast (h := (vg σ I F, n, bc, bs)) (o := 7) (n := 500) (f := fun j => zi (F 4 j)) g0 g1 (show 7 < n by omega) rfl (zi_in h1 h2 (by omega)) ?_
  rw [zi_c h1 (by omega), upd_zi]
  rw [← vg_arr_rowSizes] at p0
  exact p0
theorem xn_rowSizes {sc : ax_S} {k pc q : Nat} {ls : List (Option Value)} {st : List Value} {σ : Nat → ax_C} {I : Nat → Int} {F : Nat → Nat → Int} {n bc bs : Nat} {K : ax_K} (hn : 22 ≤ n) (g0 : decode (g_m k).2.1 pc = .ok (.arraylength, 1)) (g1 : pc + 1 = q) (p0 : Ex sc k q ls (.int (zi (500 : Nat)) :: st) (vg σ I F, n, bc, bs) K) : Ex sc k pc ls (.ref 7 :: st) (vg σ I F, n, bc, bs) K := x_alen (h := (vg σ I F, n, bc, bs)) (o := 7) (n := 500) g0 g1 (show 7 < n by omega) rfl (by rw [zi_nI]; exact p0)
theorem xl_met {sc : ax_S} {k pc q : Nat} {ls : List (Option Value)} {st : List Value} {σ : Nat → ax_C} {I : Nat → Int} {F : Nat → Nat → Int} {n bc bs : Nat} {K : ax_K} {a : Int} (hn : 22 ≤ n) (g0 : decode (g_m k).2.1 pc = .ok (.baload, 1)) (g1 : pc + 1 = q) (h1 : 0 ≤ a) (h2 : a < (100 : Nat)) (p0 : Ex sc k q ls (.int (zi (F 5 a.toNat)) :: st) (vg σ I F, n, bc, bs) K) : Ex sc k pc ls (.int (zi a) :: .ref 8 :: st) (vg σ I F, n, bc, bs) K := by
  refine x_zald (h := (vg σ I F, n, bc, bs)) (o := 8) (n := 100) (f := fun j => zi (F 5 j)) g0 g1 (show 8 < n by omega) rfl (zi_in h1 h2 (by omega)) ?_
  show Ex sc k q ls (.int (zi (F 5 (zi a).toNatClampNeg)) :: st) (vg σ I F, n, bc, bs) K
  rw [zi_c h1 (by omega)]
  exact p0
theorem xs_met {sc : ax_S} {k pc q : Nat} {ls : List (Option Value)} {st : List Value} {σ : Nat → ax_C} {I : Nat → Int} {F : Nat → Nat → Int} {n bc bs : Nat} {K : ax_K} {a e : Int} (hn : 22 ≤ n) (hb : e = 0 ∨ e = 1) (g0 : decode (g_m k).2.1 pc = .ok (.bastore, 1)) (g1 : pc + 1 = q) (h1 : 0 ≤ a) (h2 : a < (100 : Nat)) (p0 : Ex sc k q ls st (vg σ I (va_up F (5) (va_up (F (5)) a.toNat e)), n, bc, bs) K) : Ex sc k pc ls (.int (zi e) :: .int (zi a) :: .ref 8 :: st) (vg σ I F, n, bc, bs) K := by
  refine x_zast (h := (vg σ I F, n, bc, bs)) (o := 8) (n := 100) (f := fun j => zi (F 5 j)) g0 g1 (show 8 < n by omega) rfl (zi_in h1 h2 (by omega)) ?_
  rw [zi_nar hb, zi_c h1 (by omega), upd_zi]
  rw [← vg_arr_met] at p0
  exact p0
theorem xn_met {sc : ax_S} {k pc q : Nat} {ls : List (Option Value)} {st : List Value} {σ : Nat → ax_C} {I : Nat → Int} {F : Nat → Nat → Int} {n bc bs : Nat} {K : ax_K} (hn : 22 ≤ n) (g0 : decode (g_m k).2.1 pc = .ok (.arraylength, 1)) (g1 : pc + 1 = q) (p0 : Ex sc k q ls (.int (zi (100 : Nat)) :: st) (vg σ I F, n, bc, bs) K) : Ex sc k pc ls (.ref 8 :: st) (vg σ I F, n, bc, bs) K := x_alen (h := (vg σ I F, n, bc, bs)) (o := 8) (n := 100) g0 g1 (show 8 < n by omega) rfl (by rw [zi_nI]; exact p0)
theorem xl_trail {sc : ax_S} {k pc q : Nat} {ls : List (Option Value)} {st : List Value} {σ : Nat → ax_C} {I : Nat → Int} {F : Nat → Nat → Int} {n bc bs : Nat} {K : ax_K} {a : Int} (hn : 22 ≤ n) (g0 : decode (g_m k).2.1 pc = .ok (.iaload, 1)) (g1 : pc + 1 = q) (h1 : 0 ≤ a) (h2 : a < (100 : Nat)) (p0 : Ex sc k q ls (.int (zi (F 6 a.toNat)) :: st) (vg σ I F, n, bc, bs) K) : Ex sc k pc ls (.int (zi a) :: .ref 9 :: st) (vg σ I F, n, bc, bs) K := by
  refine x_iald (h := (vg σ I F, n, bc, bs)) (o := 9) (n := 100) (f := fun j => zi (F 6 j)) g0 g1 (show 9 < n by omega) rfl (zi_in h1 h2 (by omega)) ?_
  show Ex sc k q ls (.int (zi (F 6 (zi a).toNatClampNeg)) :: st) (vg σ I F, n, bc, bs) K
  rw [zi_c h1 (by omega)]
  exact p0
theorem xs_trail {sc : ax_S} {k pc q : Nat} {ls : List (Option Value)} {st : List Value} {σ : Nat → ax_C} {I : Nat → Int} {F : Nat → Nat → Int} {n bc bs : Nat} {K : ax_K} {a e : Int} (hn : 22 ≤ n) (g0 : decode (g_m k).2.1 pc = .ok (.iastore, 1)) (g1 : pc + 1 = q) (h1 : 0 ≤ a) (h2 : a < (100 : Nat)) (p0 : Ex sc k q ls st (vg σ I (va_up F (6) (va_up (F (6)) a.toNat e)), n, bc, bs) K) : Ex sc k pc ls (.int (zi e) :: .int (zi a) :: .ref 9 :: st) (vg σ I F, n, bc, bs) K := by
  refine x_iast (h := (vg σ I F, n, bc, bs)) (o := 9) (n := 100) (f := fun j => zi (F 6 j)) g0 g1 (show 9 < n by omega) rfl (zi_in h1 h2 (by omega)) ?_
  rw [zi_c h1 (by omega), upd_zi]
  rw [← vg_arr_trail] at p0
  exact p0
theorem xn_trail {sc : ax_S} {k pc q : Nat} {ls : List (Option Value)} {st : List Value} {σ : Nat → ax_C} {I : Nat → Int} {F : Nat → Nat → Int} {n bc bs : Nat} {K : ax_K} (hn : 22 ≤ n) (g0 : decode (g_m k).2.1 pc = .ok (.arraylength, 1)) (g1 : pc + 1 = q) (p0 : Ex sc k q ls (.int (zi (100 : Nat)) :: st) (vg σ I F, n, bc, bs) K) : Ex sc k pc ls (.ref 9 :: st) (vg σ I F, n, bc, bs) K := x_alen (h := (vg σ I F, n, bc, bs)) (o := 9) (n := 100) g0 g1 (show 9 < n by omega) rfl (by rw [zi_nI]; exact p0)
theorem rkC_le (r : Nat) : rkC r ≤ 100 := by unfold rkC; split <;> decide
theorem xl_R {sc : ax_S} {k pc q : Nat} {ls : List (Option Value)} {st : List Value} {σ : Nat → ax_C} {I : Nat → Int} {F : Nat → Nat → Int} {n bc bs : Nat} {K : ax_K} {r : Nat} (hr : r < 6) {a : Int} (hn : 22 ≤ n) (g0 : decode (g_m k).2.1 pc = .ok (.iaload, 1)) (g1 : pc + 1 = q) (h1 : 0 ≤ a) (h2 : a < (rkC r : Nat)) (p0 : Ex sc k q ls (.int (zi (F (10 + r) a.toNat)) :: st) (vg σ I F, n, bc, bs) K) : Ex sc k pc ls (.int (zi a) :: .ref (rkK r) :: st) (vg σ I F, n, bc, bs) K := by
  refine x_iald (h := (vg σ I F, n, bc, bs)) (o := (rkK r)) (n := rkC r) (f := fun j => zi (F (10 + r) j)) g0 g1 (rk_lt hr hn).2 (vg_rkK hr) (zi_in h1 h2 (by exact Nat.le_trans (rkC_le r) (by decide))) ?_
  show Ex sc k q ls (.int (zi (F (10 + r) (zi a).toNatClampNeg)) :: st) (vg σ I F, n, bc, bs) K
  rw [zi_c h1 (by have := rkC_le r; omega)]
  exact p0
theorem xs_R {sc : ax_S} {k pc q : Nat} {ls : List (Option Value)} {st : List Value} {σ : Nat → ax_C} {I : Nat → Int} {F : Nat → Nat → Int} {n bc bs : Nat} {K : ax_K} {r : Nat} (hr : r < 6) {a e : Int} (hn : 22 ≤ n) (g0 : decode (g_m k).2.1 pc = .ok (.iastore, 1)) (g1 : pc + 1 = q) (h1 : 0 ≤ a) (h2 : a < (rkC r : Nat)) (p0 : Ex sc k q ls st (vg σ I (va_up F ((10 + r)) (va_up (F ((10 + r))) a.toNat e)), n, bc, bs) K) : Ex sc k pc ls (.int (zi e) :: .int (zi a) :: .ref (rkK r) :: st) (vg σ I F, n, bc, bs) K := by
  refine x_iast (h := (vg σ I F, n, bc, bs)) (o := (rkK r)) (n := rkC r) (f := fun j => zi (F (10 + r) j)) g0 g1 (rk_lt hr hn).2 (vg_rkK hr) (zi_in h1 h2 (by exact Nat.le_trans (rkC_le r) (by decide))) ?_
  rw [zi_c h1 (by have := rkC_le r; omega), upd_zi]
  rw [← vg_arr_rk σ I F _ hr] at p0
  exact p0
theorem xn_R {sc : ax_S} {k pc q : Nat} {ls : List (Option Value)} {st : List Value} {σ : Nat → ax_C} {I : Nat → Int} {F : Nat → Nat → Int} {n bc bs : Nat} {K : ax_K} {r : Nat} (hr : r < 6) (hn : 22 ≤ n) (g0 : decode (g_m k).2.1 pc = .ok (.arraylength, 1)) (g1 : pc + 1 = q) (p0 : Ex sc k q ls (.int (zi (rkC r : Nat)) :: st) (vg σ I F, n, bc, bs) K) : Ex sc k pc ls (.ref (rkK r) :: st) (vg σ I F, n, bc, bs) K := x_alen (h := (vg σ I F, n, bc, bs)) (o := (rkK r)) (n := rkC r) g0 g1 (rk_lt hr hn).2 (vg_rkK hr) (by rw [zi_nI]; exact p0)
end
section
/-! the reference's world -/
def maO (a : Nat) : Nat := 23 + a
def mg (σ : Nat → ax_C) (J : Nat → Int) (G : Nat → Nat → Int) : Nat → ax_C := fun i => match i with
  | 22 => .inr (4, [.int (zi (J 0)), .int (zi (J 1)), .int (zi (J 2)), .int (zi (J 3)), .int (zi (J 4)), .int (zi (J 5)), .ref (maO 0), .int (zi (J 7)), .ref (maO 1), .ref (maO 2), .ref (maO 3), .int (zi (J 11)), .int (zi (J 12)), .int (zi (J 13)), .ref (maO 4), .ref (maO 5), .int (zi (J 16)), .ref (maO 6), .ref (maO 7), .ref (maO 8), .ref (maO 9), .int (zi (J 21)), .ref (maO 10), .ref (maO 11), .ref (maO 12), .ref (maO 13), .int (zi (J 26)), .ref (maO 14)])
  | 23 => .inl (false, 808, fun j => zi (G 0 j))
  | 24 => .inl (true, 100, fun j => zi (G 1 j))
  | 25 => .inl (true, 100, fun j => zi (G 2 j))
  | 26 => .inl (false, 100, fun j => zi (G 3 j))
  | 27 => .inl (false, 100, fun j => zi (G 4 j))
  | 28 => .inl (true, 50000, fun j => zi (G 5 j))
  | 29 => .inl (false, 10100, fun j => zi (G 6 j))
  | 30 => .inl (true, 100, fun j => zi (G 7 j))
  | 31 => .inl (true, 100, fun j => zi (G 8 j))
  | 32 => .inl (true, 100, fun j => zi (G 9 j))
  | 33 => .inl (true, 100, fun j => zi (G 10 j))
  | 34 => .inl (true, 100, fun j => zi (G 11 j))
  | 35 => .inl (true, 100, fun j => zi (G 12 j))
  | 36 => .inl (false, 100, fun j => zi (G 13 j))
  | 37 => .inl (true, 100, fun j => zi (G 14 j))
  | i => σ i
theorem mg_off {σ : Nat → ax_C} {J : Nat → Int} {G : Nat → Nat → Int} {i : Nat} (h : i < 22 ∨ 38 ≤ i) : mg σ J G i = σ i := by
  unfold mg
  split <;> first | rfl | omega
theorem mg_put_0 (σ : Nat → ax_C) (J : Nat → Int) (G : Nat → Nat → Int) (e : Int) : va_up (mg σ J G) 22 (.inr (4, [.int (zi e), .int (zi (J 1)), .int (zi (J 2)), .int (zi (J 3)), .int (zi (J 4)), .int (zi (J 5)), .ref (maO 0), .int (zi (J 7)), .ref (maO 1), .ref (maO 2), .ref (maO 3), .int (zi (J 11)), .int (zi (J 12)), .int (zi (J 13)), .ref (maO 4), .ref (maO 5), .int (zi (J 16)), .ref (maO 6), .ref (maO 7), .ref (maO 8), .ref (maO 9), .int (zi (J 21)), .ref (maO 10), .ref (maO 11), .ref (maO 12), .ref (maO 13), .int (zi (J 26)), .ref (maO 14)])) = mg σ (va_up J 0 e) G := by
  funext i
  by_cases h : i < 22 ∨ 38 ≤ i
  · rw [mg_off h, show va_up (mg σ J G) 22 (.inr (4, [.int (zi e), .int (zi (J 1)), .int (zi (J 2)), .int (zi (J 3)), .int (zi (J 4)), .int (zi (J 5)), .ref (maO 0), .int (zi (J 7)), .ref (maO 1), .ref (maO 2), .ref (maO 3), .int (zi (J 11)), .int (zi (J 12)), .int (zi (J 13)), .ref (maO 4), .ref (maO 5), .int (zi (J 16)), .ref (maO 6), .ref (maO 7), .ref (maO 8), .ref (maO 9), .int (zi (J 21)), .ref (maO 10), .ref (maO 11), .ref (maO 12), .ref (maO 13), .int (zi (J 26)), .ref (maO 14)])) i = mg σ J G i from if_neg (by omega), mg_off h]
  · obtain rfl | rfl | rfl | rfl | rfl | rfl | rfl | rfl | rfl | rfl | rfl | rfl | rfl | rfl | rfl | rfl : i = 22 ∨ i = 23 ∨ i = 24 ∨ i = 25 ∨ i = 26 ∨ i = 27 ∨ i = 28 ∨ i = 29 ∨ i = 30 ∨ i = 31 ∨ i = 32 ∨ i = 33 ∨ i = 34 ∨ i = 35 ∨ i = 36 ∨ i = 37 := by omega
    all_goals rfl
theorem mg_put_1 (σ : Nat → ax_C) (J : Nat → Int) (G : Nat → Nat → Int) (e : Int) : va_up (mg σ J G) 22 (.inr (4, [.int (zi (J 0)), .int (zi e), .int (zi (J 2)), .int (zi (J 3)), .int (zi (J 4)), .int (zi (J 5)), .ref (maO 0), .int (zi (J 7)), .ref (maO 1), .ref (maO 2), .ref (maO 3), .int (zi (J 11)), .int (zi (J 12)), .int (zi (J 13)), .ref (maO 4), .ref (maO 5), .int (zi (J 16)), .ref (maO 6), .ref (maO 7), .ref (maO 8), .ref (maO 9), .int (zi (J 21)), .ref (maO 10), .ref (maO 11), .ref (maO 12), .ref (maO 13), .int (zi (J 26)), .ref (maO 14)])) = mg σ (va_up J 1 e) G := by
  funext i
  by_cases h : i < 22 ∨ 38 ≤ i
  · rw [mg_off h, show va_up (mg σ J G) 22 (.inr (4, [.int (zi (J 0)), .int (zi e), .int (zi (J 2)), .int (zi (J 3)), .int (zi (J 4)), .int (zi (J 5)), .ref (maO 0), .int (zi (J 7)), .ref (maO 1), .ref (maO 2), .ref (maO 3), .int (zi (J 11)), .int (zi (J 12)), .int (zi (J 13)), .ref (maO 4), .ref (maO 5), .int (zi (J 16)), .ref (maO 6), .ref (maO 7), .ref (maO 8), .ref (maO 9), .int (zi (J 21)), .ref (maO 10), .ref (maO 11), .ref (maO 12), .ref (maO 13), .int (zi (J 26)), .ref (maO 14)])) i = mg σ J G i from if_neg (by omega), mg_off h]
  · obtain rfl | rfl | rfl | rfl | rfl | rfl | rfl | rfl | rfl | rfl | rfl | rfl | rfl | rfl | rfl | rfl : i = 22 ∨ i = 23 ∨ i = 24 ∨ i = 25 ∨ i = 26 ∨ i = 27 ∨ i = 28 ∨ i = 29 ∨ i = 30 ∨ i = 31 ∨ i = 32 ∨ i = 33 ∨ i = 34 ∨ i = 35 ∨ i = 36 ∨ i = 37 := by omega
    all_goals rfl
theorem mg_put_2 (σ : Nat → ax_C) (J : Nat → Int) (G : Nat → Nat → Int) (e : Int) : va_up (mg σ J G) 22 (.inr (4, [.int (zi (J 0)), .int (zi (J 1)), .int (zi e), .int (zi (J 3)), .int (zi (J 4)), .int (zi (J 5)), .ref (maO 0), .int (zi (J 7)), .ref (maO 1), .ref (maO 2), .ref (maO 3), .int (zi (J 11)), .int (zi (J 12)), .int (zi (J 13)), .ref (maO 4), .ref (maO 5), .int (zi (J 16)), .ref (maO 6), .ref (maO 7), .ref (maO 8), .ref (maO 9), .int (zi (J 21)), .ref (maO 10), .ref (maO 11), .ref (maO 12), .ref (maO 13), .int (zi (J 26)), .ref (maO 14)])) = mg σ (va_up J 2 e) G := by
  funext i
  by_cases h : i < 22 ∨ 38 ≤ i
  · rw [mg_off h, show va_up (mg σ J G) 22 (.inr (4, [.int (zi (J 0)), .int (zi (J 1)), .int (zi e), .int (zi (J 3)), .int (zi (J 4)), .int (zi (J 5)), .ref (maO 0), .int (zi (J 7)), .ref (maO 1), .ref (maO 2), .ref (maO 3), .int (zi (J 11)), .int (zi (J 12)), .int (zi (J 13)), .ref (maO 4), .ref (maO 5), .int (zi (J 16)), .ref (maO 6), .ref (maO 7), .ref (maO 8), .ref (maO 9), .int (zi (J 21)), .ref (maO 10), .ref (maO 11), .ref (maO 12), .ref (maO 13), .int (zi (J 26)), .ref (maO 14)])) i = mg σ J G i from if_neg (by omega), mg_off h]
  · obtain rfl | rfl | rfl | rfl | rfl | rfl | rfl | rfl | rfl | rfl | rfl | rfl | rfl | rfl | rfl | rfl : i = 22 ∨ i = 23 ∨ i = 24 ∨ i = 25 ∨ i = 26 ∨ i = 27 ∨ i = 28 ∨ i = 29 ∨ i = 30 ∨ i = 31 ∨ i = 32 ∨ i = 33 ∨ i = 34 ∨ i = 35 ∨ i = 36 ∨ i = 37 := by omega
    all_goals rfl
theorem mg_put_3 (σ : Nat → ax_C) (J : Nat → Int) (G : Nat → Nat → Int) (e : Int) : va_up (mg σ J G) 22 (.inr (4, [.int (zi (J 0)), .int (zi (J 1)), .int (zi (J 2)), .int (zi e), .int (zi (J 4)), .int (zi (J 5)), .ref (maO 0), .int (zi (J 7)), .ref (maO 1), .ref (maO 2), .ref (maO 3), .int (zi (J 11)), .int (zi (J 12)), .int (zi (J 13)), .ref (maO 4), .ref (maO 5), .int (zi (J 16)), .ref (maO 6), .ref (maO 7), .ref (maO 8), .ref (maO 9), .int (zi (J 21)), .ref (maO 10), .ref (maO 11), .ref (maO 12), .ref (maO 13), .int (zi (J 26)), .ref (maO 14)])) = mg σ (va_up J 3 e) G := by
  funext i
  by_cases h : i < 22 ∨ 38 ≤ i
  · rw [mg_off h, show va_up (mg σ J G) 22 (.inr (4, [.int (zi (J 0)), .int (zi (J 1)), .int (zi (J 2)), .int (zi e), .int (zi (J 4)), .int (zi (J 5)), .ref (maO 0), .int (zi (J 7)), .ref (maO 1), .ref (maO 2), .ref (maO 3), .int (zi (J 11)), .int (zi (J 12)), .int (zi (J 13)), .ref (maO 4), .ref (maO 5), .int (zi (J 16)), .ref (maO 6), .ref (maO 7), .ref (maO 8), .ref (maO 9), .int (zi (J 21)), .ref (maO 10), .ref (maO 11), .ref (maO 12), .ref (maO 13), .int (zi (J 26)), .ref (maO 14)])) i = mg σ J G i from if_neg (by omega), mg_off h]
  · obtain rfl | rfl | rfl | rfl | rfl | rfl | rfl | rfl | rfl | rfl | rfl | rfl | rfl | rfl | rfl | rfl : i = 22 ∨ i = 23 ∨ i = 24 ∨ i = 25 ∨ i = 26 ∨ i = 27 ∨ i = 28 ∨ i = 29 ∨ i = 30 ∨ i = 31 ∨ i = 32 ∨ i = 33 ∨ i = 34 ∨ i = 35 ∨ i = 36 ∨ i = 37 := by omega
    all_goals rfl
theorem mg_put_4 (σ : Nat → ax_C) (J : Nat → Int) (G : Nat → Nat → Int) (e : Int) : va_up (mg σ J G) 22 (.inr (4, [.int (zi (J 0)), .int (zi (J 1)), .int (zi (J 2)), .int (zi (J 3)), .int (zi e), .int (zi (J 5)), .ref (maO 0), .int (zi (J 7)), .ref (maO 1), .ref (maO 2), .ref (maO 3), .int (zi (J 11)), .int (zi (J 12)), .int (zi (J 13)), .ref (maO 4), .ref (maO 5), .int (zi (J 16)), .ref (maO 6), .ref (maO 7), .ref (maO 8), .ref (maO 9), .int (zi (J 21)), .ref (maO 10), .ref (maO 11), .ref (maO 12), .ref (maO 13), .int (zi (J 26)), .ref (maO 14)])) = mg σ (va_up J 4 e) G := by
  funext i
  by_cases h : i < 22 ∨ 38 ≤ i
  · rw [mg_off h, show va_up (mg σ J G) 22 (.inr (4, [.int (zi (J 0)), .int (zi (J 1)), .int (zi (J 2)), .int (zi (J 3)), .int (zi e), .int (zi (J 5)), .ref (maO 0), .int (zi (J 7)), .ref (maO 1), .ref (maO 2), .ref (maO 3), .int (zi (J 11)), .int (zi (J 12)), .int (zi (J 13)), .ref (maO 4), .ref (maO 5), .int (zi (J 16)), .ref (maO 6), .ref (maO 7), .ref (maO 8), .ref (maO 9), .int (zi (J 21)), .ref (maO 10), .ref (maO 11), .ref (maO 12), .ref (maO 13), .int (zi (J 26)), .ref (maO 14)])) i = mg σ J G i from if_neg (by omega), mg_off h]
  · obtain rfl | rfl | rfl | rfl | rfl | rfl | rfl | rfl | rfl | rfl | rfl | rfl | rfl | rfl | rfl | rfl : i = 22 ∨ i = 23 ∨ i = 24 ∨ i = 25 ∨ i = 26 ∨ i = 27 ∨ i = 28 ∨ i = 29 ∨ i = 30 ∨ i = 31 ∨ i = 32 ∨ i = 33 ∨ i = 34 ∨ i = 35 ∨ i = 36 ∨ i = 37 := by omega
    all_goals rfl
theorem mg_put_5 (σ : Nat → ax_C) (J : Nat → Int) (G : Nat → Nat → Int) (e : Int) : va_up (mg σ J G) 22 (.inr (4, [.int (zi (J 0)), .int (zi (J 1)), .int (zi (J 2)), .int (zi (J 3)), .int (zi (J 4)), .int (zi e), .ref (maO 0), .int (zi (J 7)), .ref (maO 1), .ref (maO 2), .ref (maO 3), .int (zi (J 11)), .int (zi (J 12)), .int (zi (J 13)), .ref (maO 4), .ref (maO 5), .int (zi (J 16)), .ref (maO 6), .ref (maO 7), .ref (maO 8), .ref (maO 9), .int (zi (J 21)), .ref (maO 10), .ref (maO 11), .ref (maO 12), .ref (maO 13), .int (zi (J 26)), .ref (maO 14)])) = mg σ (va_up J 5 e) G := by
  funext i
  by_cases h : i < 22 ∨ 38 ≤ i
  · rw [mg_off h, show va_up (mg σ J G) 22 (.inr (4, [.int (zi (J 0)), .int (zi (J 1)), .int (zi (J 2)), .int (zi (J 3)), .int (zi (J 4)), .int (zi e), .ref (maO 0), .int (zi (J 7)), .ref (maO 1), .ref (maO 2), .ref (maO 3), .int (zi (J 11)), .int (zi (J 12)), .int (zi (J 13)), .ref (maO 4), .ref (maO 5), .int (zi (J 16)), .ref (maO 6), .ref (maO 7), .ref (maO 8), .ref (maO 9), .int (zi (J 21)), .ref (maO 10), .ref (maO 11), .ref (maO 12), .ref (maO 13), .int (zi (J 26)), .ref (maO 14)])) i = mg σ J G i from if_neg (by omega), mg_off h]
  · obtain rfl | rfl | rfl | rfl | rfl | rfl | rfl | rfl | rfl | rfl | rfl | rfl | rfl | rfl | rfl | rfl : i = 22 ∨ i = 23 ∨ i = 24 ∨ i = 25 ∨ i = 26 ∨ i = 27 ∨ i = 28 ∨ i = 29 ∨ i = 30 ∨ i = 31 ∨ i = 32 ∨ i = 33 ∨ i = 34 ∨ i = 35 ∨ i = 36 ∨ i = 37 := by omega
    all_goals rfl
theorem mg_put_7 (σ : Nat → ax_C) (J : Nat → Int) (G : Nat → Nat → Int) (e : Int) : va_up (mg σ J G) 22 (.inr (4, [.int (zi (J 0)), .int (zi (J 1)), .int (zi (J 2)), .int (zi (J 3)), .int (zi (J 4)), .int (zi (J 5)), .ref (maO 0), .int (zi e), .ref (maO 1), .ref (maO 2), .ref (maO 3), .int (zi (J 11)), .int (zi (J 12)), .int (zi (J 13)), .ref (maO 4), .ref (maO 5), .int (zi (J 16)), .ref (maO 6), .ref (maO 7), .ref (maO 8), .ref (maO 9), .int (zi (J 21)), .ref (maO 10), .ref (maO 11), .ref (maO 12), .ref (maO 13), .int (zi (J 26)), .ref (maO 14)])) = mg σ (va_up J 7 e) G := by
  funext i
  by_cases h : i < 22 ∨ 38 ≤ i
  · rw [mg_off h, show va_up (mg σ J G) 22 (.inr (4, [.int (zi (J 0)), .int (zi (J 1)), .int (zi (J 2)), .int (zi (J 3)), .int (zi (J 4)), .int (zi (J 5)), .ref (maO 0), .int (zi e), .ref (maO 1), .ref (maO 2), .ref (maO 3), .int (zi (J 11)), .int (zi (J 12)), .int (zi (J 13)), .ref (maO 4), .ref (maO 5), .int (zi (J 16)), .ref (maO 6), .ref (maO 7), .ref (maO 8), .ref (maO 9), .int (zi (J 21)), .ref (maO 10), .ref (maO 11), .ref (maO 12), .ref (maO 13), .int (zi (J 26)), .ref (maO 14)])) i = mg σ J G i from if_neg (by omega), mg_off h]
  · obtain rfl | rfl | rfl | rfl | rfl | rfl | rfl | rfl | rfl | rfl | rfl | rfl | rfl | rfl | rfl | rfl : i = 22 ∨ i = 23 ∨ i = 24 ∨ i = 25 ∨ i = 26 ∨ i = 27 ∨ i = 28 ∨ i = 29 ∨ i = 30 ∨ i = 31 ∨ i = 32 ∨ i = 33 ∨ i = 34 ∨ i = 35 ∨ i = 36 ∨ i = 37 := by omega
    all_goals rfl
theorem mg_put_11 (σ : Nat → ax_C) (J : Nat → Int) (G : Nat → Nat → Int) (e : Int) : va_up (mg σ J G) 22 (.inr (4, [.int (zi (J 0)), .int (zi (J 1)), .int (zi (J 2)), .int (zi (J 3)), .int (zi (J 4)), .int (zi (J 5)), .ref (maO 0), .int (zi (J 7)), .ref (maO 1), .ref (maO 2), .ref (maO 3), .int (zi e), .int (zi (J 12)), .int (zi (J 13)), .ref (maO 4), .ref (maO 5), .int (zi (J 16)), .ref (maO 6), .ref (maO 7), .ref (maO 8), .ref (maO 9), .int (zi (J 21)), .ref (maO 10), .ref (maO 11), .ref (maO 12), .ref (maO 13), .int (zi (J 26)), .ref (maO 14)])) = mg σ (va_up J 11 e) G := by
  funext i
  by_cases h : i < 22 ∨ 38 ≤ i
  · rw [mg_off h, show va_up (mg σ J G) 22 (.inr (4, [.int (zi (J 0)), .int (zi (J 1)), .int (zi (J 2)), .int (zi (J 3)), .int (zi (J 4)), .int (zi (J 5)), .ref (maO 0), .int (zi (J 7)), .ref (maO 1), .ref (maO 2), .ref (maO 3), .int (zi e), .int (zi (J 12)), .int (zi (J 13)), .ref (maO 4), .ref (maO 5), .int (zi (J 16)), .ref (maO 6), .ref (maO 7), .ref (maO 8), .ref (maO 9), .int (zi (J 21)), .ref (maO 10), .ref (maO 11), .ref (maO 12), .ref (maO 13), .int (zi (J 26)), .ref (maO 14)])) i = mg σ J G i from if_neg (by omega), mg_off h]
  · obtain rfl | rfl | rfl | rfl | rfl | rfl | rfl | rfl | rfl | rfl | rfl | rfl | rfl | rfl | rfl | rfl : i = 22 ∨ i = 23 ∨ i = 24 ∨ i = 25 ∨ i = 26 ∨ i = 27 ∨ i = 28 ∨ i = 29 ∨ i = 30 ∨ i = 31 ∨ i = 32 ∨ i = 33 ∨ i = 34 ∨ i = 35 ∨ i = 36 ∨ i = 37 := by omega
    all_goals rfl
theorem mg_put_12 (σ : Nat → ax_C) (J : Nat → Int) (G : Nat → Nat → Int) (e : Int) : va_up (mg σ J G) 22 (.inr (4, [.int (zi (J 0)), .int (zi (J 1)), .int (zi (J 2)), .int (zi (J 3)), .int (zi (J 4)), .int (zi (J 5)), .ref (maO 0), .int (zi (J 7)), .ref (maO 1), .ref (maO 2), .ref (maO 3), .int (zi (J 11)), .int (zi e), .int (zi (J 13)), .ref (maO 4), .ref (maO 5), .int (zi (J 16)), .ref (maO 6), .ref (maO 7), .ref (maO 8), .ref (maO 9), .int (zi (J 21)), .ref (maO 10), .ref (maO 11), .ref (maO 12), .ref (maO 13), .int (zi (J 26)), .ref (maO 14)])) = mg σ (va_up J 12 e) G := by
  funext i
  by_cases h : i < 22 ∨ 38 ≤ i
  · rw [mg_off h, show va_up (mg σ J G) 22 (.inr (4, [.int (zi (J 0)), .int (zi (J 1)), .int (zi (J 2)), .int (zi (J 3)), .int (zi (J 4)), .int (zi (J 5)), .ref (maO 0), .int (zi (J 7)), .ref (maO 1), .ref (maO 2), .ref (maO 3), .int (zi (J 11)), .int (zi e), .int (zi (J 13)), .ref (maO 4), .ref (maO 5), .int (zi (J 16)), .ref (maO 6), .ref (maO 7), .ref (maO 8), .ref (maO 9), .int (zi (J 21)), .ref (maO 10), .ref (maO 11), .ref (maO 12), .ref (maO 13), .int (zi (J 26)), .ref (maO 14)])) i = mg σ J G i from if_neg (by omega), mg_off h]
  · obtain rfl | rfl | rfl | rfl | rfl | rfl | rfl | rfl | rfl | rfl | rfl | rfl | rfl | rfl | rfl | rfl : i = 22 ∨ i = 23 ∨ i = 24 ∨ i = 25 ∨ i = 26 ∨ i = 27 ∨ i = 28 ∨ i = 29 ∨ i = 30 ∨ i = 31 ∨ i = 32 ∨ i = 33 ∨ i = 34 ∨ i = 35 ∨ i = 36 ∨ i = 37 := by omega
    all_goals rfl
theorem mg_put_13 (σ : Nat → ax_C) (J : Nat → Int) (G : Nat → Nat → Int) (e : Int) : va_up (mg σ J G) 22 (.inr (4, [.int (zi (J 0)), .int (zi (J 1)), .int (zi (J 2)), .int (zi (J 3)), .int (zi (J 4)), .int (zi (J 5)), .ref (maO 0), .int (zi (J 7)), .ref (maO 1), .ref (maO 2), .ref (maO 3), .int (zi (J 11)), .int (zi (J 12)), .int (zi e), .ref (maO 4), .ref (maO 5), .int (zi (J 16)), .ref (maO 6), .ref (maO 7), .ref (maO 8), .ref (maO 9), .int (zi (J 21)), .ref (maO 10), .ref (maO 11), .ref (maO 12), .ref (maO 13), .int (zi (J 26)), .ref (maO 14)])) = mg σ (va_up J 13 e) G := by
  funext i
  by_cases h : i < 22 ∨ 38 ≤ i
  · rw [mg_off h, show va_up (mg σ J G) 22 (.inr (4, [.int (zi (J 0)), .int (zi (J 1)), .int (zi (J 2)), .int (zi (J 3)), .int (zi (J 4)), .int (zi (J 5)), .ref (maO 0), .int (zi (J 7)), .ref (maO 1), .ref (maO 2), .ref (maO 3), .int (zi (J 11)), .int (zi (J 12)), .int (zi e), .ref (maO 4), .ref (maO 5), .int (zi (J 16)), .ref (maO 6), .ref (maO 7), .ref (maO 8), .ref (maO 9), .int (zi (J 21)), .ref (maO 10), .ref (maO 11), .ref (maO 12), .ref (maO 13), .int (zi (J 26)), .ref (maO 14)])) i = mg σ J G i from if_neg (by omega), mg_off h]
  · obtain rfl | rfl | rfl | rfl | rfl | rfl | rfl | rfl | rfl | rfl | rfl | rfl | rfl | rfl | rfl | rfl : i = 22 ∨ i = 23 ∨ i = 24 ∨ i = 25 ∨ i = 26 ∨ i = 27 ∨ i = 28 ∨ i = 29 ∨ i = 30 ∨ i = 31 ∨ i = 32 ∨ i = 33 ∨ i = 34 ∨ i = 35 ∨ i = 36 ∨ i = 37 := by omega
    all_goals rfl
theorem mg_put_16 (σ : Nat → ax_C) (J : Nat → Int) (G : Nat → Nat → Int) (e : Int) : va_up (mg σ J G) 22 (.inr (4, [.int (zi (J 0)), .int (zi (J 1)), .int (zi (J 2)), .int (zi (J 3)), .int (zi (J 4)), .int (zi (J 5)), .ref (maO 0), .int (zi (J 7)), .ref (maO 1), .ref (maO 2), .ref (maO 3), .int (zi (J 11)), .int (zi (J 12)), .int (zi (J 13)), .ref (maO 4), .ref (maO 5), .int (zi e), .ref (maO 6), .ref (maO 7), .ref (maO 8), .ref (maO 9), .int (zi (J 21)), .ref (maO 10), .ref (maO 11), .ref (maO 12), .ref (maO 13), .int (zi (J 26)), .ref (maO 14)])) = mg σ (va_up J 16 e) G := by
  funext i
  by_cases h : i < 22 ∨ 38 ≤ i
  · rw [mg_off h, show va_up (mg σ J G) 22 (.inr (4, [.int (zi (J 0)), .int (zi (J 1)), .int (zi (J 2)), .int (zi (J 3)), .int (zi (J 4)), .int (zi (J 5)), .ref (maO 0), .int (zi (J 7)), .ref (maO 1), .ref (maO 2), .ref (maO 3), .int (zi (J 11)), .int (zi (J 12)), .int (zi (J 13)), .ref (maO 4), .ref (maO 5), .int (zi e), .ref (maO 6), .ref (maO 7), .ref (maO 8), .ref (maO 9), .int (zi (J 21)), .ref (maO 10), .ref (maO 11), .ref (maO 12), .ref (maO 13), .int (zi (J 26)), .ref (maO 14)])) i = mg σ J G i from if_neg (by omega), mg_off h]
  · obtain rfl | rfl | rfl | rfl | rfl | rfl | rfl | rfl | rfl | rfl | rfl | rfl | rfl | rfl | rfl | rfl : i = 22 ∨ i = 23 ∨ i = 24 ∨ i = 25 ∨ i = 26 ∨ i = 27 ∨ i = 28 ∨ i = 29 ∨ i = 30 ∨ i = 31 ∨ i = 32 ∨ i = 33 ∨ i = 34 ∨ i = 35 ∨ i = 36 ∨ i = 37 := by omega
    all_goals rfl
theorem mg_put_21 (σ : Nat → ax_C) (J : Nat → Int) (G : Nat → Nat → Int) (e : Int) : va_up (mg σ J G) 22 (.inr (4, [.int (zi (J 0)), .int (zi (J 1)), .int (zi (J 2)), .int (zi (J 3)), .int (zi (J 4)), .int (zi (J 5)), .ref (maO 0), .int (zi (J 7)), .ref (maO 1), .ref (maO 2), .ref (maO 3), .int (zi (J 11)), .int (zi (J 12)), .int (zi (J 13)), .ref (maO 4), .ref (maO 5), .int (zi (J 16)), .ref (maO 6), .ref (maO 7), .ref (maO 8), .ref (maO 9), .int (zi e), .ref (maO 10), .ref (maO 11), .ref (maO 12), .ref (maO 13), .int (zi (J 26)), .ref (maO 14)])) = mg σ (va_up J 21 e) G := by
  funext i
  by_cases h : i < 22 ∨ 38 ≤ i
  · rw [mg_off h, show va_up (mg σ J G) 22 (.inr (4, [.int (zi (J 0)), .int (zi (J 1)), .int (zi (J 2)), .int (zi (J 3)), .int (zi (J 4)), .int (zi (J 5)), .ref (maO 0), .int (zi (J 7)), .ref (maO 1), .ref (maO 2), .ref (maO 3), .int (zi (J 11)), .int (zi (J 12)), .int (zi (J 13)), .ref (maO 4), .ref (maO 5), .int (zi (J 16)), .ref (maO 6), .ref (maO 7), .ref (maO 8), .ref (maO 9), .int (zi e), .ref (maO 10), .ref (maO 11), .ref (maO 12), .ref (maO 13), .int (zi (J 26)), .ref (maO 14)])) i = mg σ J G i from if_neg (by omega), mg_off h]
  · obtain rfl | rfl | rfl | rfl | rfl | rfl | rfl | rfl | rfl | rfl | rfl | rfl | rfl | rfl | rfl | rfl : i = 22 ∨ i = 23 ∨ i = 24 ∨ i = 25 ∨ i = 26 ∨ i = 27 ∨ i = 28 ∨ i = 29 ∨ i = 30 ∨ i = 31 ∨ i = 32 ∨ i = 33 ∨ i = 34 ∨ i = 35 ∨ i = 36 ∨ i = 37 := by omega
    all_goals rfl
theorem mg_put_26 (σ : Nat → ax_C) (J : Nat → Int) (G : Nat → Nat → Int) (e : Int) : va_up (mg σ J G) 22 (.inr (4, [.int (zi (J 0)), .int (zi (J 1)), .int (zi (J 2)), .int (zi (J 3)), .int (zi (J 4)), .int (zi (J 5)), .ref (maO 0), .int (zi (J 7)), .ref (maO 1), .ref (maO 2), .ref (maO 3), .int (zi (J 11)), .int (zi (J 12)), .int (zi (J 13)), .ref (maO 4), .ref (maO 5), .int (zi (J 16)), .ref (maO 6), .ref (maO 7), .ref (maO 8), .ref (maO 9), .int (zi (J 21)), .ref (maO 10), .ref (maO 11), .ref (maO 12), .ref (maO 13), .int (zi e), .ref (maO 14)])) = mg σ (va_up J 26 e) G := by
  funext i
  by_cases h : i < 22 ∨ 38 ≤ i
  · rw [mg_off h, show va_up (mg σ J G) 22 (.inr (4, [.int (zi (J 0)), .int (zi (J 1)), .int (zi (J 2)), .int (zi (J 3)), .int (zi (J 4)), .int (zi (J 5)), .ref (maO 0), .int (zi (J 7)), .ref (maO 1), .ref (maO 2), .ref (maO 3), .int (zi (J 11)), .int (zi (J 12)), .int (zi (J 13)), .ref (maO 4), .ref (maO 5), .int (zi (J 16)), .ref (maO 6), .ref (maO 7), .ref (maO 8), .ref (maO 9), .int (zi (J 21)), .ref (maO 10), .ref (maO 11), .ref (maO 12), .ref (maO 13), .int (zi e), .ref (maO 14)])) i = mg σ J G i from if_neg (by omega), mg_off h]
  · obtain rfl | rfl | rfl | rfl | rfl | rfl | rfl | rfl | rfl | rfl | rfl | rfl | rfl | rfl | rfl | rfl : i = 22 ∨ i = 23 ∨ i = 24 ∨ i = 25 ∨ i = 26 ∨ i = 27 ∨ i = 28 ∨ i = 29 ∨ i = 30 ∨ i = 31 ∨ i = 32 ∨ i = 33 ∨ i = 34 ∨ i = 35 ∨ i = 36 ∨ i = 37 := by omega
    all_goals rfl
theorem mg_arr_all (σ : Nat → ax_C) (J : Nat → Int) (G : Nat → Nat → Int) (f : Nat → Int) : va_up (mg σ J G) (maO 0) (.inl (false, 808, fun j => zi (f j))) = mg σ J (va_up G 0 f) := by
  funext i
  by_cases h : i < 22 ∨ 38 ≤ i
  · rw [mg_off h, show va_up (mg σ J G) (maO 0) (.inl (false, 808, fun j => zi (f j))) i = mg σ J G i from if_neg (by unfold maO; omega), mg_off h]
  · obtain rfl | rfl | rfl | rfl | rfl | rfl | rfl | rfl | rfl | rfl | rfl | rfl | rfl | rfl | rfl | rfl : i = 22 ∨ i = 23 ∨ i = 24 ∨ i = 25 ∨ i = 26 ∨ i = 27 ∨ i = 28 ∨ i = 29 ∨ i = 30 ∨ i = 31 ∨ i = 32 ∨ i = 33 ∨ i = 34 ∨ i = 35 ∨ i = 36 ∨ i = 37 := by omega
    all_goals rfl
theorem mg_arr_barred (σ : Nat → ax_C) (J : Nat → Int) (G : Nat → Nat → Int) (f : Nat → Int) : va_up (mg σ J G) (maO 1) (.inl (true, 100, fun j => zi (f j))) = mg σ J (va_up G 1 f) := by
  funext i
  by_cases h : i < 22 ∨ 38 ≤ i
  · rw [mg_off h, show va_up (mg σ J G) (maO 1) (.inl (true, 100, fun j => zi (f j))) i = mg σ J G i from if_neg (by unfold maO; omega), mg_off h]
  · obtain rfl | rfl | rfl | rfl | rfl | rfl | rfl | rfl | rfl | rfl | rfl | rfl | rfl | rfl | rfl | rfl : i = 22 ∨ i = 23 ∨ i = 24 ∨ i = 25 ∨ i = 26 ∨ i = 27 ∨ i = 28 ∨ i = 29 ∨ i = 30 ∨ i = 31 ∨ i = 32 ∨ i = 33 ∨ i = 34 ∨ i = 35 ∨ i = 36 ∨ i = 37 := by omega
    all_goals rfl
theorem mg_arr_removed (σ : Nat → ax_C) (J : Nat → Int) (G : Nat → Nat → Int) (f : Nat → Int) : va_up (mg σ J G) (maO 2) (.inl (true, 100, fun j => zi (f j))) = mg σ J (va_up G 2 f) := by
  funext i
  by_cases h : i < 22 ∨ 38 ≤ i
  · rw [mg_off h, show va_up (mg σ J G) (maO 2) (.inl (true, 100, fun j => zi (f j))) i = mg σ J G i from if_neg (by unfold maO; omega), mg_off h]
  · obtain rfl | rfl | rfl | rfl | rfl | rfl | rfl | rfl | rfl | rfl | rfl | rfl | rfl | rfl | rfl | rfl : i = 22 ∨ i = 23 ∨ i = 24 ∨ i = 25 ∨ i = 26 ∨ i = 27 ∨ i = 28 ∨ i = 29 ∨ i = 30 ∨ i = 31 ∨ i = 32 ∨ i = 33 ∨ i = 34 ∨ i = 35 ∨ i = 36 ∨ i = 37 := by omega
    all_goals rfl
theorem mg_arr_told (σ : Nat → ax_C) (J : Nat → Int) (G : Nat → Nat → Int) (f : Nat → Int) : va_up (mg σ J G) (maO 3) (.inl (false, 100, fun j => zi (f j))) = mg σ J (va_up G 3 f) := by
  funext i
  by_cases h : i < 22 ∨ 38 ≤ i
  · rw [mg_off h, show va_up (mg σ J G) (maO 3) (.inl (false, 100, fun j => zi (f j))) i = mg σ J G i from if_neg (by unfold maO; omega), mg_off h]
  · obtain rfl | rfl | rfl | rfl | rfl | rfl | rfl | rfl | rfl | rfl | rfl | rfl | rfl | rfl | rfl | rfl : i = 22 ∨ i = 23 ∨ i = 24 ∨ i = 25 ∨ i = 26 ∨ i = 27 ∨ i = 28 ∨ i = 29 ∨ i = 30 ∨ i = 31 ∨ i = 32 ∨ i = 33 ∨ i = 34 ∨ i = 35 ∨ i = 36 ∨ i = 37 := by omega
    all_goals rfl
theorem mg_arr_levels (σ : Nat → ax_C) (J : Nat → Int) (G : Nat → Nat → Int) (f : Nat → Int) : va_up (mg σ J G) (maO 4) (.inl (false, 100, fun j => zi (f j))) = mg σ J (va_up G 4 f) := by
  funext i
  by_cases h : i < 22 ∨ 38 ≤ i
  · rw [mg_off h, show va_up (mg σ J G) (maO 4) (.inl (false, 100, fun j => zi (f j))) i = mg σ J G i from if_neg (by unfold maO; omega), mg_off h]
  · obtain rfl | rfl | rfl | rfl | rfl | rfl | rfl | rfl | rfl | rfl | rfl | rfl | rfl | rfl | rfl | rfl : i = 22 ∨ i = 23 ∨ i = 24 ∨ i = 25 ∨ i = 26 ∨ i = 27 ∨ i = 28 ∨ i = 29 ∨ i = 30 ∨ i = 31 ∨ i = 32 ∨ i = 33 ∨ i = 34 ∨ i = 35 ∨ i = 36 ∨ i = 37 := by omega
    all_goals rfl
theorem mg_arr_near (σ : Nat → ax_C) (J : Nat → Int) (G : Nat → Nat → Int) (f : Nat → Int) : va_up (mg σ J G) (maO 5) (.inl (true, 50000, fun j => zi (f j))) = mg σ J (va_up G 5 f) := by
  funext i
  by_cases h : i < 22 ∨ 38 ≤ i
  · rw [mg_off h, show va_up (mg σ J G) (maO 5) (.inl (true, 50000, fun j => zi (f j))) i = mg σ J G i from if_neg (by unfold maO; omega), mg_off h]
  · obtain rfl | rfl | rfl | rfl | rfl | rfl | rfl | rfl | rfl | rfl | rfl | rfl | rfl | rfl | rfl | rfl : i = 22 ∨ i = 23 ∨ i = 24 ∨ i = 25 ∨ i = 26 ∨ i = 27 ∨ i = 28 ∨ i = 29 ∨ i = 30 ∨ i = 31 ∨ i = 32 ∨ i = 33 ∨ i = 34 ∨ i = 35 ∨ i = 36 ∨ i = 37 := by omega
    all_goals rfl
theorem mg_arr_fars (σ : Nat → ax_C) (J : Nat → Int) (G : Nat → Nat → Int) (f : Nat → Int) : va_up (mg σ J G) (maO 6) (.inl (false, 10100, fun j => zi (f j))) = mg σ J (va_up G 6 f) := by
  funext i
  by_cases h : i < 22 ∨ 38 ≤ i
  · rw [mg_off h, show va_up (mg σ J G) (maO 6) (.inl (false, 10100, fun j => zi (f j))) i = mg σ J G i from if_neg (by unfold maO; omega), mg_off h]
  · obtain rfl | rfl | rfl | rfl | rfl | rfl | rfl | rfl | rfl | rfl | rfl | rfl | rfl | rfl | rfl | rfl : i = 22 ∨ i = 23 ∨ i = 24 ∨ i = 25 ∨ i = 26 ∨ i = 27 ∨ i = 28 ∨ i = 29 ∨ i = 30 ∨ i = 31 ∨ i = 32 ∨ i = 33 ∨ i = 34 ∨ i = 35 ∨ i = 36 ∨ i = 37 := by omega
    all_goals rfl
theorem mg_arr_met (σ : Nat → ax_C) (J : Nat → Int) (G : Nat → Nat → Int) (f : Nat → Int) : va_up (mg σ J G) (maO 7) (.inl (true, 100, fun j => zi (f j))) = mg σ J (va_up G 7 f) := by
  funext i
  by_cases h : i < 22 ∨ 38 ≤ i
  · rw [mg_off h, show va_up (mg σ J G) (maO 7) (.inl (true, 100, fun j => zi (f j))) i = mg σ J G i from if_neg (by unfold maO; omega), mg_off h]
  · obtain rfl | rfl | rfl | rfl | rfl | rfl | rfl | rfl | rfl | rfl | rfl | rfl | rfl | rfl | rfl | rfl : i = 22 ∨ i = 23 ∨ i = 24 ∨ i = 25 ∨ i = 26 ∨ i = 27 ∨ i = 28 ∨ i = 29 ∨ i = 30 ∨ i = 31 ∨ i = 32 ∨ i = 33 ∨ i = 34 ∨ i = 35 ∨ i = 36 ∨ i = 37 := by omega
    all_goals rfl
theorem mg_arr_open (σ : Nat → ax_C) (J : Nat → Int) (G : Nat → Nat → Int) (f : Nat → Int) : va_up (mg σ J G) (maO 8) (.inl (true, 100, fun j => zi (f j))) = mg σ J (va_up G 8 f) := by
  funext i
  by_cases h : i < 22 ∨ 38 ≤ i
  · rw [mg_off h, show va_up (mg σ J G) (maO 8) (.inl (true, 100, fun j => zi (f j))) i = mg σ J G i from if_neg (by unfold maO; omega), mg_off h]
  · obtain rfl | rfl | rfl | rfl | rfl | rfl | rfl | rfl | rfl | rfl | rfl | rfl | rfl | rfl | rfl | rfl : i = 22 ∨ i = 23 ∨ i = 24 ∨ i = 25 ∨ i = 26 ∨ i = 27 ∨ i = 28 ∨ i = 29 ∨ i = 30 ∨ i = 31 ∨ i = 32 ∨ i = 33 ∨ i = 34 ∨ i = 35 ∨ i = 36 ∨ i = 37 := by omega
    all_goals rfl
theorem mg_arr_found (σ : Nat → ax_C) (J : Nat → Int) (G : Nat → Nat → Int) (f : Nat → Int) : va_up (mg σ J G) (maO 9) (.inl (true, 100, fun j => zi (f j))) = mg σ J (va_up G 9 f) := by
  funext i
  by_cases h : i < 22 ∨ 38 ≤ i
  · rw [mg_off h, show va_up (mg σ J G) (maO 9) (.inl (true, 100, fun j => zi (f j))) i = mg σ J G i from if_neg (by unfold maO; omega), mg_off h]
  · obtain rfl | rfl | rfl | rfl | rfl | rfl | rfl | rfl | rfl | rfl | rfl | rfl | rfl | rfl | rfl | rfl : i = 22 ∨ i = 23 ∨ i = 24 ∨ i = 25 ∨ i = 26 ∨ i = 27 ∨ i = 28 ∨ i = 29 ∨ i = 30 ∨ i = 31 ∨ i = 32 ∨ i = 33 ∨ i = 34 ∨ i = 35 ∨ i = 36 ∨ i = 37 := by omega
    all_goals rfl
theorem mg_arr_pool (σ : Nat → ax_C) (J : Nat → Int) (G : Nat → Nat → Int) (f : Nat → Int) : va_up (mg σ J G) (maO 10) (.inl (true, 100, fun j => zi (f j))) = mg σ J (va_up G 10 f) := by
  funext i
  by_cases h : i < 22 ∨ 38 ≤ i
  · rw [mg_off h, show va_up (mg σ J G) (maO 10) (.inl (true, 100, fun j => zi (f j))) i = mg σ J G i from if_neg (by unfold maO; omega), mg_off h]
  · obtain rfl | rfl | rfl | rfl | rfl | rfl | rfl | rfl | rfl | rfl | rfl | rfl | rfl | rfl | rfl | rfl : i = 22 ∨ i = 23 ∨ i = 24 ∨ i = 25 ∨ i = 26 ∨ i = 27 ∨ i = 28 ∨ i = 29 ∨ i = 30 ∨ i = 31 ∨ i = 32 ∨ i = 33 ∨ i = 34 ∨ i = 35 ∨ i = 36 ∨ i = 37 := by omega
    all_goals rfl
theorem mg_arr_chosen (σ : Nat → ax_C) (J : Nat → Int) (G : Nat → Nat → Int) (f : Nat → Int) : va_up (mg σ J G) (maO 11) (.inl (true, 100, fun j => zi (f j))) = mg σ J (va_up G 11 f) := by
  funext i
  by_cases h : i < 22 ∨ 38 ≤ i
  · rw [mg_off h, show va_up (mg σ J G) (maO 11) (.inl (true, 100, fun j => zi (f j))) i = mg σ J G i from if_neg (by unfold maO; omega), mg_off h]
  · obtain rfl | rfl | rfl | rfl | rfl | rfl | rfl | rfl | rfl | rfl | rfl | rfl | rfl | rfl | rfl | rfl : i = 22 ∨ i = 23 ∨ i = 24 ∨ i = 25 ∨ i = 26 ∨ i = 27 ∨ i = 28 ∨ i = 29 ∨ i = 30 ∨ i = 31 ∨ i = 32 ∨ i = 33 ∨ i = 34 ∨ i = 35 ∨ i = 36 ∨ i = 37 := by omega
    all_goals rfl
theorem mg_arr_those (σ : Nat → ax_C) (J : Nat → Int) (G : Nat → Nat → Int) (f : Nat → Int) : va_up (mg σ J G) (maO 12) (.inl (true, 100, fun j => zi (f j))) = mg σ J (va_up G 12 f) := by
  funext i
  by_cases h : i < 22 ∨ 38 ≤ i
  · rw [mg_off h, show va_up (mg σ J G) (maO 12) (.inl (true, 100, fun j => zi (f j))) i = mg σ J G i from if_neg (by unfold maO; omega), mg_off h]
  · obtain rfl | rfl | rfl | rfl | rfl | rfl | rfl | rfl | rfl | rfl | rfl | rfl | rfl | rfl | rfl | rfl : i = 22 ∨ i = 23 ∨ i = 24 ∨ i = 25 ∨ i = 26 ∨ i = 27 ∨ i = 28 ∨ i = 29 ∨ i = 30 ∨ i = 31 ∨ i = 32 ∨ i = 33 ∨ i = 34 ∨ i = 35 ∨ i = 36 ∨ i = 37 := by omega
    all_goals rfl
theorem mg_arr_row (σ : Nat → ax_C) (J : Nat → Int) (G : Nat → Nat → Int) (f : Nat → Int) : va_up (mg σ J G) (maO 13) (.inl (false, 100, fun j => zi (f j))) = mg σ J (va_up G 13 f) := by
  funext i
  by_cases h : i < 22 ∨ 38 ≤ i
  · rw [mg_off h, show va_up (mg σ J G) (maO 13) (.inl (false, 100, fun j => zi (f j))) i = mg σ J G i from if_neg (by unfold maO; omega), mg_off h]
  · obtain rfl | rfl | rfl | rfl | rfl | rfl | rfl | rfl | rfl | rfl | rfl | rfl | rfl | rfl | rfl | rfl : i = 22 ∨ i = 23 ∨ i = 24 ∨ i = 25 ∨ i = 26 ∨ i = 27 ∨ i = 28 ∨ i = 29 ∨ i = 30 ∨ i = 31 ∨ i = 32 ∨ i = 33 ∨ i = 34 ∨ i = 35 ∨ i = 36 ∨ i = 37 := by omega
    all_goals rfl
theorem mg_arr_byGraph (σ : Nat → ax_C) (J : Nat → Int) (G : Nat → Nat → Int) (f : Nat → Int) : va_up (mg σ J G) (maO 14) (.inl (true, 100, fun j => zi (f j))) = mg σ J (va_up G 14 f) := by
  funext i
  by_cases h : i < 22 ∨ 38 ≤ i
  · rw [mg_off h, show va_up (mg σ J G) (maO 14) (.inl (true, 100, fun j => zi (f j))) i = mg σ J G i from if_neg (by unfold maO; omega), mg_off h]
  · obtain rfl | rfl | rfl | rfl | rfl | rfl | rfl | rfl | rfl | rfl | rfl | rfl | rfl | rfl | rfl | rfl : i = 22 ∨ i = 23 ∨ i = 24 ∨ i = 25 ∨ i = 26 ∨ i = 27 ∨ i = 28 ∨ i = 29 ∨ i = 30 ∨ i = 31 ∨ i = 32 ∨ i = 33 ∨ i = 34 ∨ i = 35 ∨ i = 36 ∨ i = 37 := by omega
    all_goals rfl
theorem yg_thrown {sc : ax_S} {k pc q idx : Nat} {ls : List (Option Value)} {st : List Value} {σ : Nat → ax_C} {J : Nat → Int} {G : Nat → Nat → Int} {n bc bs : Nat} {K : ax_K} (hn : 38 ≤ n) (g0 : decode (g_m k).2.1 pc = .ok (.getfield idx, 3)) (g1 : pc + 3 = q) (g2 : ax_fld (g_m k).1.cls idx 4 0) (p0 : Ex sc k q ls (.int (zi (J 0)) :: st) (mg σ J G, n, bc, bs) K) : Ex sc k pc ls (.ref 22 :: st) (mg σ J G, n, bc, bs) K := x_get (h := (mg σ J G, n, bc, bs)) (o := 22) g0 g1 g2 (show 22 < n by omega) rfl rfl p0
theorem yp_thrown {sc : ax_S} {k pc q idx : Nat} {ls : List (Option Value)} {st : List Value} {σ : Nat → ax_C} {J : Nat → Int} {G : Nat → Nat → Int} {n bc bs : Nat} {K : ax_K} {e : Int} (hn : 38 ≤ n) (g0 : decode (g_m k).2.1 pc = .ok (.putfield idx, 3)) (g1 : pc + 3 = q) (g2 : ax_fldW (g_m k).1.cls idx 4 0 .int false) (p0 : Ex sc k q ls st (mg σ (va_up J 0 e) G, n, bc, bs) K) : Ex sc k pc ls (.int (zi e) :: .ref 22 :: st) (mg σ J G, n, bc, bs) K := by
  refine x_put (h := (mg σ J G, n, bc, bs)) (o := 22) (ci := 4) (j := 0) (ty := .int) g0 g1 g2 (show 22 < n by omega) rfl (Nat.le_of_ble_eq_true rfl) rfl rfl ?_
  rw [← mg_put_0] at p0
  exact p0
theorem yg_parts {sc : ax_S} {k pc q idx : Nat} {ls : List (Option Value)} {st : List Value} {σ : Nat → ax_C} {J : Nat → Int} {G : Nat → Nat → Int} {n bc bs : Nat} {K : ax_K} (hn : 38 ≤ n) (g0 : decode (g_m k).2.1 pc = .ok (.getfield idx, 3)) (g1 : pc + 3 = q) (g2 : ax_fld (g_m k).1.cls idx 4 1) (p0 : Ex sc k q ls (.int (zi (J 1)) :: st) (mg σ J G, n, bc, bs) K) : Ex sc k pc ls (.ref 22 :: st) (mg σ J G, n, bc, bs) K := x_get (h := (mg σ J G, n, bc, bs)) (o := 22) g0 g1 g2 (show 22 < n by omega) rfl rfl p0
theorem yg_seed {sc : ax_S} {k pc q idx : Nat} {ls : List (Option Value)} {st : List Value} {σ : Nat → ax_C} {J : Nat → Int} {G : Nat → Nat → Int} {n bc bs : Nat} {K : ax_K} (hn : 38 ≤ n) (g0 : decode (g_m k).2.1 pc = .ok (.getfield idx, 3)) (g1 : pc + 3 = q) (g2 : ax_fld (g_m k).1.cls idx 4 2) (p0 : Ex sc k q ls (.int (zi (J 2)) :: st) (mg σ J G, n, bc, bs) K) : Ex sc k pc ls (.ref 22 :: st) (mg σ J G, n, bc, bs) K := x_get (h := (mg σ J G, n, bc, bs)) (o := 22) g0 g1 g2 (show 22 < n by omega) rfl rfl p0
theorem yg_measure {sc : ax_S} {k pc q idx : Nat} {ls : List (Option Value)} {st : List Value} {σ : Nat → ax_C} {J : Nat → Int} {G : Nat → Nat → Int} {n bc bs : Nat} {K : ax_K} (hn : 38 ≤ n) (g0 : decode (g_m k).2.1 pc = .ok (.getfield idx, 3)) (g1 : pc + 3 = q) (g2 : ax_fld (g_m k).1.cls idx 4 3) (p0 : Ex sc k q ls (.int (zi (J 3)) :: st) (mg σ J G, n, bc, bs) K) : Ex sc k pc ls (.ref 22 :: st) (mg σ J G, n, bc, bs) K := x_get (h := (mg σ J G, n, bc, bs)) (o := 22) g0 g1 g2 (show 22 < n by omega) rfl rfl p0
theorem yp_measure {sc : ax_S} {k pc q idx : Nat} {ls : List (Option Value)} {st : List Value} {σ : Nat → ax_C} {J : Nat → Int} {G : Nat → Nat → Int} {n bc bs : Nat} {K : ax_K} {e : Int} (hn : 38 ≤ n) (g0 : decode (g_m k).2.1 pc = .ok (.putfield idx, 3)) (g1 : pc + 3 = q) (g2 : ax_fldW (g_m k).1.cls idx 4 3 .int false) (p0 : Ex sc k q ls st (mg σ (va_up J 3 e) G, n, bc, bs) K) : Ex sc k pc ls (.int (zi e) :: .ref 22 :: st) (mg σ J G, n, bc, bs) K := by
  refine x_put (h := (mg σ J G, n, bc, bs)) (o := 22) (ci := 4) (j := 3) (ty := .int) g0 g1 g2 (show 22 < n by omega) rfl (Nat.le_of_ble_eq_true rfl) rfl rfl ?_
  rw [← mg_put_3] at p0
  exact p0
theorem yg_width {sc : ax_S} {k pc q idx : Nat} {ls : List (Option Value)} {st : List Value} {σ : Nat → ax_C} {J : Nat → Int} {G : Nat → Nat → Int} {n bc bs : Nat} {K : ax_K} (hn : 38 ≤ n) (g0 : decode (g_m k).2.1 pc = .ok (.getfield idx, 3)) (g1 : pc + 3 = q) (g2 : ax_fld (g_m k).1.cls idx 4 4) (p0 : Ex sc k q ls (.int (zi (J 4)) :: st) (mg σ J G, n, bc, bs) K) : Ex sc k pc ls (.ref 22 :: st) (mg σ J G, n, bc, bs) K := x_get (h := (mg σ J G, n, bc, bs)) (o := 22) g0 g1 g2 (show 22 < n by omega) rfl rfl p0
theorem yp_width {sc : ax_S} {k pc q idx : Nat} {ls : List (Option Value)} {st : List Value} {σ : Nat → ax_C} {J : Nat → Int} {G : Nat → Nat → Int} {n bc bs : Nat} {K : ax_K} {e : Int} (hn : 38 ≤ n) (g0 : decode (g_m k).2.1 pc = .ok (.putfield idx, 3)) (g1 : pc + 3 = q) (g2 : ax_fldW (g_m k).1.cls idx 4 4 .int false) (p0 : Ex sc k q ls st (mg σ (va_up J 4 e) G, n, bc, bs) K) : Ex sc k pc ls (.int (zi e) :: .ref 22 :: st) (mg σ J G, n, bc, bs) K := by
  refine x_put (h := (mg σ J G, n, bc, bs)) (o := 22) (ci := 4) (j := 4) (ty := .int) g0 g1 g2 (show 22 < n by omega) rfl (Nat.le_of_ble_eq_true rfl) rfl rfl ?_
  rw [← mg_put_4] at p0
  exact p0
theorem yg_careful {sc : ax_S} {k pc q idx : Nat} {ls : List (Option Value)} {st : List Value} {σ : Nat → ax_C} {J : Nat → Int} {G : Nat → Nat → Int} {n bc bs : Nat} {K : ax_K} (hn : 38 ≤ n) (g0 : decode (g_m k).2.1 pc = .ok (.getfield idx, 3)) (g1 : pc + 3 = q) (g2 : ax_fld (g_m k).1.cls idx 4 5) (p0 : Ex sc k q ls (.int (zi (J 5)) :: st) (mg σ J G, n, bc, bs) K) : Ex sc k pc ls (.ref 22 :: st) (mg σ J G, n, bc, bs) K := x_get (h := (mg σ J G, n, bc, bs)) (o := 22) g0 g1 g2 (show 22 < n by omega) rfl rfl p0
theorem yp_careful {sc : ax_S} {k pc q idx : Nat} {ls : List (Option Value)} {st : List Value} {σ : Nat → ax_C} {J : Nat → Int} {G : Nat → Nat → Int} {n bc bs : Nat} {K : ax_K} {e : Int} (hn : 38 ≤ n) (g0 : decode (g_m k).2.1 pc = .ok (.putfield idx, 3)) (g1 : pc + 3 = q) (g2 : ax_fldW (g_m k).1.cls idx 4 5 .int false) (p0 : Ex sc k q ls st (mg σ (va_up J 5 e) G, n, bc, bs) K) : Ex sc k pc ls (.int (zi e) :: .ref 22 :: st) (mg σ J G, n, bc, bs) K := by
  refine x_put (h := (mg σ J G, n, bc, bs)) (o := 22) (ci := 4) (j := 5) (ty := .int) g0 g1 g2 (show 22 < n by omega) rfl (Nat.le_of_ble_eq_true rfl) rfl rfl ?_
  rw [← mg_put_5] at p0
  exact p0
theorem yg_all {sc : ax_S} {k pc q idx : Nat} {ls : List (Option Value)} {st : List Value} {σ : Nat → ax_C} {J : Nat → Int} {G : Nat → Nat → Int} {n bc bs : Nat} {K : ax_K} (hn : 38 ≤ n) (g0 : decode (g_m k).2.1 pc = .ok (.getfield idx, 3)) (g1 : pc + 3 = q) (g2 : ax_fld (g_m k).1.cls idx 4 6) (p0 : Ex sc k q ls (.ref (maO 0) :: st) (mg σ J G, n, bc, bs) K) : Ex sc k pc ls (.ref 22 :: st) (mg σ J G, n, bc, bs) K := x_get (h := (mg σ J G, n, bc, bs)) (o := 22) g0 g1 g2 (show 22 < n by omega) rfl rfl p0
theorem yg_count {sc : ax_S} {k pc q idx : Nat} {ls : List (Option Value)} {st : List Value} {σ : Nat → ax_C} {J : Nat → Int} {G : Nat → Nat → Int} {n bc bs : Nat} {K : ax_K} (hn : 38 ≤ n) (g0 : decode (g_m k).2.1 pc = .ok (.getfield idx, 3)) (g1 : pc + 3 = q) (g2 : ax_fld (g_m k).1.cls idx 4 7) (p0 : Ex sc k q ls (.int (zi (J 7)) :: st) (mg σ J G, n, bc, bs) K) : Ex sc k pc ls (.ref 22 :: st) (mg σ J G, n, bc, bs) K := x_get (h := (mg σ J G, n, bc, bs)) (o := 22) g0 g1 g2 (show 22 < n by omega) rfl rfl p0
theorem yp_count {sc : ax_S} {k pc q idx : Nat} {ls : List (Option Value)} {st : List Value} {σ : Nat → ax_C} {J : Nat → Int} {G : Nat → Nat → Int} {n bc bs : Nat} {K : ax_K} {e : Int} (hn : 38 ≤ n) (g0 : decode (g_m k).2.1 pc = .ok (.putfield idx, 3)) (g1 : pc + 3 = q) (g2 : ax_fldW (g_m k).1.cls idx 4 7 .int false) (p0 : Ex sc k q ls st (mg σ (va_up J 7 e) G, n, bc, bs) K) : Ex sc k pc ls (.int (zi e) :: .ref 22 :: st) (mg σ J G, n, bc, bs) K := by
  refine x_put (h := (mg σ J G, n, bc, bs)) (o := 22) (ci := 4) (j := 7) (ty := .int) g0 g1 g2 (show 22 < n by omega) rfl (Nat.le_of_ble_eq_true rfl) rfl rfl ?_
  rw [← mg_put_7] at p0
  exact p0
theorem yg_barred {sc : ax_S} {k pc q idx : Nat} {ls : List (Option Value)} {st : List Value} {σ : Nat → ax_C} {J : Nat → Int} {G : Nat → Nat → Int} {n bc bs : Nat} {K : ax_K} (hn : 38 ≤ n) (g0 : decode (g_m k).2.1 pc = .ok (.getfield idx, 3)) (g1 : pc + 3 = q) (g2 : ax_fld (g_m k).1.cls idx 4 8) (p0 : Ex sc k q ls (.ref (maO 1) :: st) (mg σ J G, n, bc, bs) K) : Ex sc k pc ls (.ref 22 :: st) (mg σ J G, n, bc, bs) K := x_get (h := (mg σ J G, n, bc, bs)) (o := 22) g0 g1 g2 (show 22 < n by omega) rfl rfl p0
theorem yg_removed {sc : ax_S} {k pc q idx : Nat} {ls : List (Option Value)} {st : List Value} {σ : Nat → ax_C} {J : Nat → Int} {G : Nat → Nat → Int} {n bc bs : Nat} {K : ax_K} (hn : 38 ≤ n) (g0 : decode (g_m k).2.1 pc = .ok (.getfield idx, 3)) (g1 : pc + 3 = q) (g2 : ax_fld (g_m k).1.cls idx 4 9) (p0 : Ex sc k q ls (.ref (maO 2) :: st) (mg σ J G, n, bc, bs) K) : Ex sc k pc ls (.ref 22 :: st) (mg σ J G, n, bc, bs) K := x_get (h := (mg σ J G, n, bc, bs)) (o := 22) g0 g1 g2 (show 22 < n by omega) rfl rfl p0
theorem yg_told {sc : ax_S} {k pc q idx : Nat} {ls : List (Option Value)} {st : List Value} {σ : Nat → ax_C} {J : Nat → Int} {G : Nat → Nat → Int} {n bc bs : Nat} {K : ax_K} (hn : 38 ≤ n) (g0 : decode (g_m k).2.1 pc = .ok (.getfield idx, 3)) (g1 : pc + 3 = q) (g2 : ax_fld (g_m k).1.cls idx 4 10) (p0 : Ex sc k q ls (.ref (maO 3) :: st) (mg σ J G, n, bc, bs) K) : Ex sc k pc ls (.ref 22 :: st) (mg σ J G, n, bc, bs) K := x_get (h := (mg σ J G, n, bc, bs)) (o := 22) g0 g1 g2 (show 22 < n by omega) rfl rfl p0
theorem yg_toldCount {sc : ax_S} {k pc q idx : Nat} {ls : List (Option Value)} {st : List Value} {σ : Nat → ax_C} {J : Nat → Int} {G : Nat → Nat → Int} {n bc bs : Nat} {K : ax_K} (hn : 38 ≤ n) (g0 : decode (g_m k).2.1 pc = .ok (.getfield idx, 3)) (g1 : pc + 3 = q) (g2 : ax_fld (g_m k).1.cls idx 4 11) (p0 : Ex sc k q ls (.int (zi (J 11)) :: st) (mg σ J G, n, bc, bs) K) : Ex sc k pc ls (.ref 22 :: st) (mg σ J G, n, bc, bs) K := x_get (h := (mg σ J G, n, bc, bs)) (o := 22) g0 g1 g2 (show 22 < n by omega) rfl rfl p0
theorem yp_toldCount {sc : ax_S} {k pc q idx : Nat} {ls : List (Option Value)} {st : List Value} {σ : Nat → ax_C} {J : Nat → Int} {G : Nat → Nat → Int} {n bc bs : Nat} {K : ax_K} {e : Int} (hn : 38 ≤ n) (g0 : decode (g_m k).2.1 pc = .ok (.putfield idx, 3)) (g1 : pc + 3 = q) (g2 : ax_fldW (g_m k).1.cls idx 4 11 .int false) (p0 : Ex sc k q ls st (mg σ (va_up J 11 e) G, n, bc, bs) K) : Ex sc k pc ls (.int (zi e) :: .ref 22 :: st) (mg σ J G, n, bc, bs) K := by
  refine x_put (h := (mg σ J G, n, bc, bs)) (o := 22) (ci := 4) (j := 11) (ty := .int) g0 g1 g2 (show 22 < n by omega) rfl (Nat.le_of_ble_eq_true rfl) rfl rfl ?_
  rw [← mg_put_11] at p0
  exact p0
theorem yg_stepCount {sc : ax_S} {k pc q idx : Nat} {ls : List (Option Value)} {st : List Value} {σ : Nat → ax_C} {J : Nat → Int} {G : Nat → Nat → Int} {n bc bs : Nat} {K : ax_K} (hn : 38 ≤ n) (g0 : decode (g_m k).2.1 pc = .ok (.getfield idx, 3)) (g1 : pc + 3 = q) (g2 : ax_fld (g_m k).1.cls idx 4 12) (p0 : Ex sc k q ls (.int (zi (J 12)) :: st) (mg σ J G, n, bc, bs) K) : Ex sc k pc ls (.ref 22 :: st) (mg σ J G, n, bc, bs) K := x_get (h := (mg σ J G, n, bc, bs)) (o := 22) g0 g1 g2 (show 22 < n by omega) rfl rfl p0
theorem yp_stepCount {sc : ax_S} {k pc q idx : Nat} {ls : List (Option Value)} {st : List Value} {σ : Nat → ax_C} {J : Nat → Int} {G : Nat → Nat → Int} {n bc bs : Nat} {K : ax_K} {e : Int} (hn : 38 ≤ n) (g0 : decode (g_m k).2.1 pc = .ok (.putfield idx, 3)) (g1 : pc + 3 = q) (g2 : ax_fldW (g_m k).1.cls idx 4 12 .int false) (p0 : Ex sc k q ls st (mg σ (va_up J 12 e) G, n, bc, bs) K) : Ex sc k pc ls (.int (zi e) :: .ref 22 :: st) (mg σ J G, n, bc, bs) K := by
  refine x_put (h := (mg σ J G, n, bc, bs)) (o := 22) (ci := 4) (j := 12) (ty := .int) g0 g1 g2 (show 22 < n by omega) rfl (Nat.le_of_ble_eq_true rfl) rfl rfl ?_
  rw [← mg_put_12] at p0
  exact p0
theorem yg_stale {sc : ax_S} {k pc q idx : Nat} {ls : List (Option Value)} {st : List Value} {σ : Nat → ax_C} {J : Nat → Int} {G : Nat → Nat → Int} {n bc bs : Nat} {K : ax_K} (hn : 38 ≤ n) (g0 : decode (g_m k).2.1 pc = .ok (.getfield idx, 3)) (g1 : pc + 3 = q) (g2 : ax_fld (g_m k).1.cls idx 4 13) (p0 : Ex sc k q ls (.int (zi (J 13)) :: st) (mg σ J G, n, bc, bs) K) : Ex sc k pc ls (.ref 22 :: st) (mg σ J G, n, bc, bs) K := x_get (h := (mg σ J G, n, bc, bs)) (o := 22) g0 g1 g2 (show 22 < n by omega) rfl rfl p0
theorem yp_stale {sc : ax_S} {k pc q idx : Nat} {ls : List (Option Value)} {st : List Value} {σ : Nat → ax_C} {J : Nat → Int} {G : Nat → Nat → Int} {n bc bs : Nat} {K : ax_K} {e : Int} (hn : 38 ≤ n) (hb : e = 0 ∨ e = 1) (g0 : decode (g_m k).2.1 pc = .ok (.putfield idx, 3)) (g1 : pc + 3 = q) (g2 : ax_fldW (g_m k).1.cls idx 4 13 .boolean false) (p0 : Ex sc k q ls st (mg σ (va_up J 13 e) G, n, bc, bs) K) : Ex sc k pc ls (.int (zi e) :: .ref 22 :: st) (mg σ J G, n, bc, bs) K := by
  refine x_put (h := (mg σ J G, n, bc, bs)) (o := 22) (ci := 4) (j := 13) (ty := .boolean) g0 g1 g2 (show 22 < n by omega) rfl (Nat.le_of_ble_eq_true rfl) (zi_narB hb) (zi_fitB hb) ?_
  rw [← mg_put_13] at p0
  exact p0
theorem yg_levels {sc : ax_S} {k pc q idx : Nat} {ls : List (Option Value)} {st : List Value} {σ : Nat → ax_C} {J : Nat → Int} {G : Nat → Nat → Int} {n bc bs : Nat} {K : ax_K} (hn : 38 ≤ n) (g0 : decode (g_m k).2.1 pc = .ok (.getfield idx, 3)) (g1 : pc + 3 = q) (g2 : ax_fld (g_m k).1.cls idx 4 14) (p0 : Ex sc k q ls (.ref (maO 4) :: st) (mg σ J G, n, bc, bs) K) : Ex sc k pc ls (.ref 22 :: st) (mg σ J G, n, bc, bs) K := x_get (h := (mg σ J G, n, bc, bs)) (o := 22) g0 g1 g2 (show 22 < n by omega) rfl rfl p0
theorem yg_near {sc : ax_S} {k pc q idx : Nat} {ls : List (Option Value)} {st : List Value} {σ : Nat → ax_C} {J : Nat → Int} {G : Nat → Nat → Int} {n bc bs : Nat} {K : ax_K} (hn : 38 ≤ n) (g0 : decode (g_m k).2.1 pc = .ok (.getfield idx, 3)) (g1 : pc + 3 = q) (g2 : ax_fld (g_m k).1.cls idx 4 15) (p0 : Ex sc k q ls (.ref (maO 5) :: st) (mg σ J G, n, bc, bs) K) : Ex sc k pc ls (.ref 22 :: st) (mg σ J G, n, bc, bs) K := x_get (h := (mg σ J G, n, bc, bs)) (o := 22) g0 g1 g2 (show 22 < n by omega) rfl rfl p0
theorem yg_entryOf {sc : ax_S} {k pc q idx : Nat} {ls : List (Option Value)} {st : List Value} {σ : Nat → ax_C} {J : Nat → Int} {G : Nat → Nat → Int} {n bc bs : Nat} {K : ax_K} (hn : 38 ≤ n) (g0 : decode (g_m k).2.1 pc = .ok (.getfield idx, 3)) (g1 : pc + 3 = q) (g2 : ax_fld (g_m k).1.cls idx 4 16) (p0 : Ex sc k q ls (.int (zi (J 16)) :: st) (mg σ J G, n, bc, bs) K) : Ex sc k pc ls (.ref 22 :: st) (mg σ J G, n, bc, bs) K := x_get (h := (mg σ J G, n, bc, bs)) (o := 22) g0 g1 g2 (show 22 < n by omega) rfl rfl p0
theorem yp_entryOf {sc : ax_S} {k pc q idx : Nat} {ls : List (Option Value)} {st : List Value} {σ : Nat → ax_C} {J : Nat → Int} {G : Nat → Nat → Int} {n bc bs : Nat} {K : ax_K} {e : Int} (hn : 38 ≤ n) (g0 : decode (g_m k).2.1 pc = .ok (.putfield idx, 3)) (g1 : pc + 3 = q) (g2 : ax_fldW (g_m k).1.cls idx 4 16 .int false) (p0 : Ex sc k q ls st (mg σ (va_up J 16 e) G, n, bc, bs) K) : Ex sc k pc ls (.int (zi e) :: .ref 22 :: st) (mg σ J G, n, bc, bs) K := by
  refine x_put (h := (mg σ J G, n, bc, bs)) (o := 22) (ci := 4) (j := 16) (ty := .int) g0 g1 g2 (show 22 < n by omega) rfl (Nat.le_of_ble_eq_true rfl) rfl rfl ?_
  rw [← mg_put_16] at p0
  exact p0
theorem yg_fars {sc : ax_S} {k pc q idx : Nat} {ls : List (Option Value)} {st : List Value} {σ : Nat → ax_C} {J : Nat → Int} {G : Nat → Nat → Int} {n bc bs : Nat} {K : ax_K} (hn : 38 ≤ n) (g0 : decode (g_m k).2.1 pc = .ok (.getfield idx, 3)) (g1 : pc + 3 = q) (g2 : ax_fld (g_m k).1.cls idx 4 17) (p0 : Ex sc k q ls (.ref (maO 6) :: st) (mg σ J G, n, bc, bs) K) : Ex sc k pc ls (.ref 22 :: st) (mg σ J G, n, bc, bs) K := x_get (h := (mg σ J G, n, bc, bs)) (o := 22) g0 g1 g2 (show 22 < n by omega) rfl rfl p0
theorem yg_met {sc : ax_S} {k pc q idx : Nat} {ls : List (Option Value)} {st : List Value} {σ : Nat → ax_C} {J : Nat → Int} {G : Nat → Nat → Int} {n bc bs : Nat} {K : ax_K} (hn : 38 ≤ n) (g0 : decode (g_m k).2.1 pc = .ok (.getfield idx, 3)) (g1 : pc + 3 = q) (g2 : ax_fld (g_m k).1.cls idx 4 18) (p0 : Ex sc k q ls (.ref (maO 7) :: st) (mg σ J G, n, bc, bs) K) : Ex sc k pc ls (.ref 22 :: st) (mg σ J G, n, bc, bs) K := x_get (h := (mg σ J G, n, bc, bs)) (o := 22) g0 g1 g2 (show 22 < n by omega) rfl rfl p0
theorem yg_open {sc : ax_S} {k pc q idx : Nat} {ls : List (Option Value)} {st : List Value} {σ : Nat → ax_C} {J : Nat → Int} {G : Nat → Nat → Int} {n bc bs : Nat} {K : ax_K} (hn : 38 ≤ n) (g0 : decode (g_m k).2.1 pc = .ok (.getfield idx, 3)) (g1 : pc + 3 = q) (g2 : ax_fld (g_m k).1.cls idx 4 19) (p0 : Ex sc k q ls (.ref (maO 8) :: st) (mg σ J G, n, bc, bs) K) : Ex sc k pc ls (.ref 22 :: st) (mg σ J G, n, bc, bs) K := x_get (h := (mg σ J G, n, bc, bs)) (o := 22) g0 g1 g2 (show 22 < n by omega) rfl rfl p0
theorem yg_found {sc : ax_S} {k pc q idx : Nat} {ls : List (Option Value)} {st : List Value} {σ : Nat → ax_C} {J : Nat → Int} {G : Nat → Nat → Int} {n bc bs : Nat} {K : ax_K} (hn : 38 ≤ n) (g0 : decode (g_m k).2.1 pc = .ok (.getfield idx, 3)) (g1 : pc + 3 = q) (g2 : ax_fld (g_m k).1.cls idx 4 20) (p0 : Ex sc k q ls (.ref (maO 9) :: st) (mg σ J G, n, bc, bs) K) : Ex sc k pc ls (.ref 22 :: st) (mg σ J G, n, bc, bs) K := x_get (h := (mg σ J G, n, bc, bs)) (o := 22) g0 g1 g2 (show 22 < n by omega) rfl rfl p0
theorem yg_foundCount {sc : ax_S} {k pc q idx : Nat} {ls : List (Option Value)} {st : List Value} {σ : Nat → ax_C} {J : Nat → Int} {G : Nat → Nat → Int} {n bc bs : Nat} {K : ax_K} (hn : 38 ≤ n) (g0 : decode (g_m k).2.1 pc = .ok (.getfield idx, 3)) (g1 : pc + 3 = q) (g2 : ax_fld (g_m k).1.cls idx 4 21) (p0 : Ex sc k q ls (.int (zi (J 21)) :: st) (mg σ J G, n, bc, bs) K) : Ex sc k pc ls (.ref 22 :: st) (mg σ J G, n, bc, bs) K := x_get (h := (mg σ J G, n, bc, bs)) (o := 22) g0 g1 g2 (show 22 < n by omega) rfl rfl p0
theorem yp_foundCount {sc : ax_S} {k pc q idx : Nat} {ls : List (Option Value)} {st : List Value} {σ : Nat → ax_C} {J : Nat → Int} {G : Nat → Nat → Int} {n bc bs : Nat} {K : ax_K} {e : Int} (hn : 38 ≤ n) (g0 : decode (g_m k).2.1 pc = .ok (.putfield idx, 3)) (g1 : pc + 3 = q) (g2 : ax_fldW (g_m k).1.cls idx 4 21 .int false) (p0 : Ex sc k q ls st (mg σ (va_up J 21 e) G, n, bc, bs) K) : Ex sc k pc ls (.int (zi e) :: .ref 22 :: st) (mg σ J G, n, bc, bs) K := by
  refine x_put (h := (mg σ J G, n, bc, bs)) (o := 22) (ci := 4) (j := 21) (ty := .int) g0 g1 g2 (show 22 < n by omega) rfl (Nat.le_of_ble_eq_true rfl) rfl rfl ?_
  rw [← mg_put_21] at p0
  exact p0
theorem yg_pool {sc : ax_S} {k pc q idx : Nat} {ls : List (Option Value)} {st : List Value} {σ : Nat → ax_C} {J : Nat → Int} {G : Nat → Nat → Int} {n bc bs : Nat} {K : ax_K} (hn : 38 ≤ n) (g0 : decode (g_m k).2.1 pc = .ok (.getfield idx, 3)) (g1 : pc + 3 = q) (g2 : ax_fld (g_m k).1.cls idx 4 22) (p0 : Ex sc k q ls (.ref (maO 10) :: st) (mg σ J G, n, bc, bs) K) : Ex sc k pc ls (.ref 22 :: st) (mg σ J G, n, bc, bs) K := x_get (h := (mg σ J G, n, bc, bs)) (o := 22) g0 g1 g2 (show 22 < n by omega) rfl rfl p0
theorem yg_chosen {sc : ax_S} {k pc q idx : Nat} {ls : List (Option Value)} {st : List Value} {σ : Nat → ax_C} {J : Nat → Int} {G : Nat → Nat → Int} {n bc bs : Nat} {K : ax_K} (hn : 38 ≤ n) (g0 : decode (g_m k).2.1 pc = .ok (.getfield idx, 3)) (g1 : pc + 3 = q) (g2 : ax_fld (g_m k).1.cls idx 4 23) (p0 : Ex sc k q ls (.ref (maO 11) :: st) (mg σ J G, n, bc, bs) K) : Ex sc k pc ls (.ref 22 :: st) (mg σ J G, n, bc, bs) K := x_get (h := (mg σ J G, n, bc, bs)) (o := 22) g0 g1 g2 (show 22 < n by omega) rfl rfl p0
theorem yg_those {sc : ax_S} {k pc q idx : Nat} {ls : List (Option Value)} {st : List Value} {σ : Nat → ax_C} {J : Nat → Int} {G : Nat → Nat → Int} {n bc bs : Nat} {K : ax_K} (hn : 38 ≤ n) (g0 : decode (g_m k).2.1 pc = .ok (.getfield idx, 3)) (g1 : pc + 3 = q) (g2 : ax_fld (g_m k).1.cls idx 4 24) (p0 : Ex sc k q ls (.ref (maO 12) :: st) (mg σ J G, n, bc, bs) K) : Ex sc k pc ls (.ref 22 :: st) (mg σ J G, n, bc, bs) K := x_get (h := (mg σ J G, n, bc, bs)) (o := 22) g0 g1 g2 (show 22 < n by omega) rfl rfl p0
theorem yg_row {sc : ax_S} {k pc q idx : Nat} {ls : List (Option Value)} {st : List Value} {σ : Nat → ax_C} {J : Nat → Int} {G : Nat → Nat → Int} {n bc bs : Nat} {K : ax_K} (hn : 38 ≤ n) (g0 : decode (g_m k).2.1 pc = .ok (.getfield idx, 3)) (g1 : pc + 3 = q) (g2 : ax_fld (g_m k).1.cls idx 4 25) (p0 : Ex sc k q ls (.ref (maO 13) :: st) (mg σ J G, n, bc, bs) K) : Ex sc k pc ls (.ref 22 :: st) (mg σ J G, n, bc, bs) K := x_get (h := (mg σ J G, n, bc, bs)) (o := 22) g0 g1 g2 (show 22 < n by omega) rfl rfl p0
theorem yg_rowCount {sc : ax_S} {k pc q idx : Nat} {ls : List (Option Value)} {st : List Value} {σ : Nat → ax_C} {J : Nat → Int} {G : Nat → Nat → Int} {n bc bs : Nat} {K : ax_K} (hn : 38 ≤ n) (g0 : decode (g_m k).2.1 pc = .ok (.getfield idx, 3)) (g1 : pc + 3 = q) (g2 : ax_fld (g_m k).1.cls idx 4 26) (p0 : Ex sc k q ls (.int (zi (J 26)) :: st) (mg σ J G, n, bc, bs) K) : Ex sc k pc ls (.ref 22 :: st) (mg σ J G, n, bc, bs) K := x_get (h := (mg σ J G, n, bc, bs)) (o := 22) g0 g1 g2 (show 22 < n by omega) rfl rfl p0
theorem yp_rowCount {sc : ax_S} {k pc q idx : Nat} {ls : List (Option Value)} {st : List Value} {σ : Nat → ax_C} {J : Nat → Int} {G : Nat → Nat → Int} {n bc bs : Nat} {K : ax_K} {e : Int} (hn : 38 ≤ n) (g0 : decode (g_m k).2.1 pc = .ok (.putfield idx, 3)) (g1 : pc + 3 = q) (g2 : ax_fldW (g_m k).1.cls idx 4 26 .int false) (p0 : Ex sc k q ls st (mg σ (va_up J 26 e) G, n, bc, bs) K) : Ex sc k pc ls (.int (zi e) :: .ref 22 :: st) (mg σ J G, n, bc, bs) K := by
  refine x_put (h := (mg σ J G, n, bc, bs)) (o := 22) (ci := 4) (j := 26) (ty := .int) g0 g1 g2 (show 22 < n by omega) rfl (Nat.le_of_ble_eq_true rfl) rfl rfl ?_
  rw [← mg_put_26] at p0
  exact p0
theorem yg_byGraph {sc : ax_S} {k pc q idx : Nat} {ls : List (Option Value)} {st : List Value} {σ : Nat → ax_C} {J : Nat → Int} {G : Nat → Nat → Int} {n bc bs : Nat} {K : ax_K} (hn : 38 ≤ n) (g0 : decode (g_m k).2.1 pc = .ok (.getfield idx, 3)) (g1 : pc + 3 = q) (g2 : ax_fld (g_m k).1.cls idx 4 27) (p0 : Ex sc k q ls (.ref (maO 14) :: st) (mg σ J G, n, bc, bs) K) : Ex sc k pc ls (.ref 22 :: st) (mg σ J G, n, bc, bs) K := x_get (h := (mg σ J G, n, bc, bs)) (o := 22) g0 g1 g2 (show 22 < n by omega) rfl rfl p0
theorem yl_all {sc : ax_S} {k pc q : Nat} {ls : List (Option Value)} {st : List Value} {σ : Nat → ax_C} {J : Nat → Int} {G : Nat → Nat → Int} {n bc bs : Nat} {K : ax_K} {a : Int} (hn : 38 ≤ n) (g0 : decode (g_m k).2.1 pc = .ok (.iaload, 1)) (g1 : pc + 1 = q) (h1 : 0 ≤ a) (h2 : a < 808) (p0 : Ex sc k q ls (.int (zi (G 0 a.toNat)) :: st) (mg σ J G, n, bc, bs) K) : Ex sc k pc ls (.int (zi a) :: .ref (maO 0) :: st) (mg σ J G, n, bc, bs) K := by
  refine x_iald (h := (mg σ J G, n, bc, bs)) (o := maO 0) (n := 808) (f := fun j => zi (G 0 j)) g0 g1 (show maO 0 < n by unfold maO; omega) rfl (zi_in h1 (by omega) (by omega)) ?_
  show Ex sc k q ls (.int (zi (G 0 (zi a).toNatClampNeg)) :: st) (mg σ J G, n, bc, bs) K
  rw [zi_c h1 (by omega)]
  exact p0
theorem ys_all {sc : ax_S} {k pc q : Nat} {ls : List (Option Value)} {st : List Value} {σ : Nat → ax_C} {J : Nat → Int} {G : Nat → Nat → Int} {n bc bs : Nat} {K : ax_K} {a e : Int} (hn : 38 ≤ n) (g0 : decode (g_m k).2.1 pc = .ok (.iastore, 1)) (g1 : pc + 1 = q) (h1 : 0 ≤ a) (h2 : a < 808) (p0 : Ex sc k q ls st (mg σ J (va_up G 0 (va_up (G 0) a.toNat e)), n, bc, bs) K) : Ex sc k pc ls (.int (zi e) :: .int (zi a) :: .ref (maO 0) :: st) (mg σ J G, n, bc, bs) K := by
  refine x_iast (h := (mg σ J G, n, bc, bs)) (o := maO 0) (n := 808) (f := fun j => zi (G 0 j)) g0 g1 (show maO 0 < n by unfold maO; omega) rfl (zi_in h1 (by omega) (by omega)) ?_
  rw [zi_c h1 (by omega), upd_zi]
  rw [← mg_arr_all] at p0
  exact p0
theorem yl_barred {sc : ax_S} {k pc q : Nat} {ls : List (Option Value)} {st : List Value} {σ : Nat → ax_C} {J : Nat → Int} {G : Nat → Nat → Int} {n bc bs : Nat} {K : ax_K} {a : Int} (hn : 38 ≤ n) (g0 : decode (g_m k).2.1 pc = .ok (.baload, 1)) (g1 : pc + 1 = q) (h1 : 0 ≤ a) (h2 : a < 100) (p0 : Ex sc k q ls (.int (zi (G 1 a.toNat)) :: st) (mg σ J G, n, bc, bs) K) : Ex sc k pc ls (.int (zi a) :: .ref (maO 1) :: st) (mg σ J G, n, bc, bs) K := by
  refine x_zald (h := (mg σ J G, n, bc, bs)) (o := maO 1) (n := 100) (f := fun j => zi (G 1 j)) g0 g1 (show maO 1 < n by unfold maO; omega) rfl (zi_in h1 (by omega) (by omega)) ?_
  show Ex sc k q ls (.int (zi (G 1 (zi a).toNatClampNeg)) :: st) (mg σ J G, n, bc, bs) K
  rw [zi_c h1 (by omega)]
  exact p0
theorem ys_barred {sc : ax_S} {k pc q : Nat} {ls : List (Option Value)} {st : List Value} {σ : Nat → ax_C} {J : Nat → Int} {G : Nat → Nat → Int} {n bc bs : Nat} {K : ax_K} {a e : Int} (hn : 38 ≤ n) (hb : e = 0 ∨ e = 1) (g0 : decode (g_m k).2.1 pc = .ok (.bastore, 1)) (g1 : pc + 1 = q) (h1 : 0 ≤ a) (h2 : a < 100) (p0 : Ex sc k q ls st (mg σ J (va_up G 1 (va_up (G 1) a.toNat e)), n, bc, bs) K) : Ex sc k pc ls (.int (zi e) :: .int (zi a) :: .ref (maO 1) :: st) (mg σ J G, n, bc, bs) K := by
  refine x_zast (h := (mg σ J G, n, bc, bs)) (o := maO 1) (n := 100) (f := fun j => zi (G 1 j)) g0 g1 (show maO 1 < n by unfold maO; omega) rfl (zi_in h1 (by omega) (by omega)) ?_
  rw [zi_nar hb, zi_c h1 (by omega), upd_zi]
  rw [← mg_arr_barred] at p0
  exact p0
theorem yl_removed {sc : ax_S} {k pc q : Nat} {ls : List (Option Value)} {st : List Value} {σ : Nat → ax_C} {J : Nat → Int} {G : Nat → Nat → Int} {n bc bs : Nat} {K : ax_K} {a : Int} (hn : 38 ≤ n) (g0 : decode (g_m k).2.1 pc = .ok (.baload, 1)) (g1 : pc + 1 = q) (h1 : 0 ≤ a) (h2 : a < 100) (p0 : Ex sc k q ls (.int (zi (G 2 a.toNat)) :: st) (mg σ J G, n, bc, bs) K) : Ex sc k pc ls (.int (zi a) :: .ref (maO 2) :: st) (mg σ J G, n, bc, bs) K := by
  refine x_zald (h := (mg σ J G, n, bc, bs)) (o := maO 2) (n := 100) (f := fun j => zi (G 2 j)) g0 g1 (show maO 2 < n by unfold maO; omega) rfl (zi_in h1 (by omega) (by omega)) ?_
  show Ex sc k q ls (.int (zi (G 2 (zi a).toNatClampNeg)) :: st) (mg σ J G, n, bc, bs) K
  rw [zi_c h1 (by omega)]
  exact p0
theorem ys_removed {sc : ax_S} {k pc q : Nat} {ls : List (Option Value)} {st : List Value} {σ : Nat → ax_C} {J : Nat → Int} {G : Nat → Nat → Int} {n bc bs : Nat} {K : ax_K} {a e : Int} (hn : 38 ≤ n) (hb : e = 0 ∨ e = 1) (g0 : decode (g_m k).2.1 pc = .ok (.bastore, 1)) (g1 : pc + 1 = q) (h1 : 0 ≤ a) (h2 : a < 100) (p0 : Ex sc k q ls st (mg σ J (va_up G 2 (va_up (G 2) a.toNat e)), n, bc, bs) K) : Ex sc k pc ls (.int (zi e) :: .int (zi a) :: .ref (maO 2) :: st) (mg σ J G, n, bc, bs) K := by
  refine x_zast (h := (mg σ J G, n, bc, bs)) (o := maO 2) (n := 100) (f := fun j => zi (G 2 j)) g0 g1 (show maO 2 < n by unfold maO; omega) rfl (zi_in h1 (by omega) (by omega)) ?_
  rw [zi_nar hb, zi_c h1 (by omega), upd_zi]
  rw [← mg_arr_removed] at p0
  exact p0
theorem yl_told {sc : ax_S} {k pc q : Nat} {ls : List (Option Value)} {st : List Value} {σ : Nat → ax_C} {J : Nat → Int} {G : Nat → Nat → Int} {n bc bs : Nat} {K : ax_K} {a : Int} (hn : 38 ≤ n) (g0 : decode (g_m k).2.1 pc = .ok (.iaload, 1)) (g1 : pc + 1 = q) (h1 : 0 ≤ a) (h2 : a < 100) (p0 : Ex sc k q ls (.int (zi (G 3 a.toNat)) :: st) (mg σ J G, n, bc, bs) K) : Ex sc k pc ls (.int (zi a) :: .ref (maO 3) :: st) (mg σ J G, n, bc, bs) K := by
  refine x_iald (h := (mg σ J G, n, bc, bs)) (o := maO 3) (n := 100) (f := fun j => zi (G 3 j)) g0 g1 (show maO 3 < n by unfold maO; omega) rfl (zi_in h1 (by omega) (by omega)) ?_
  show Ex sc k q ls (.int (zi (G 3 (zi a).toNatClampNeg)) :: st) (mg σ J G, n, bc, bs) K
  rw [zi_c h1 (by omega)]
  exact p0
theorem ys_told {sc : ax_S} {k pc q : Nat} {ls : List (Option Value)} {st : List Value} {σ : Nat → ax_C} {J : Nat → Int} {G : Nat → Nat → Int} {n bc bs : Nat} {K : ax_K} {a e : Int} (hn : 38 ≤ n) (g0 : decode (g_m k).2.1 pc = .ok (.iastore, 1)) (g1 : pc + 1 = q) (h1 : 0 ≤ a) (h2 : a < 100) (p0 : Ex sc k q ls st (mg σ J (va_up G 3 (va_up (G 3) a.toNat e)), n, bc, bs) K) : Ex sc k pc ls (.int (zi e) :: .int (zi a) :: .ref (maO 3) :: st) (mg σ J G, n, bc, bs) K := by
  refine x_iast (h := (mg σ J G, n, bc, bs)) (o := maO 3) (n := 100) (f := fun j => zi (G 3 j)) g0 g1 (show maO 3 < n by unfold maO; omega) rfl (zi_in h1 (by omega) (by omega)) ?_
  rw [zi_c h1 (by omega), upd_zi]
  rw [← mg_arr_told] at p0
  exact p0
theorem yl_levels {sc : ax_S} {k pc q : Nat} {ls : List (Option Value)} {st : List Value} {σ : Nat → ax_C} {J : Nat → Int} {G : Nat → Nat → Int} {n bc bs : Nat} {K : ax_K} {a : Int} (hn : 38 ≤ n) (g0 : decode (g_m k).2.1 pc = .ok (.iaload, 1)) (g1 : pc + 1 = q) (h1 : 0 ≤ a) (h2 : a < 100) (p0 : Ex sc k q ls (.int (zi (G 4 a.toNat)) :: st) (mg σ J G, n, bc, bs) K) : Ex sc k pc ls (.int (zi a) :: .ref (maO 4) :: st) (mg σ J G, n, bc, bs) K := by
  refine x_iald (h := (mg σ J G, n, bc, bs)) (o := maO 4) (n := 100) (f := fun j => zi (G 4 j)) g0 g1 (show maO 4 < n by unfold maO; omega) rfl (zi_in h1 (by omega) (by omega)) ?_
  show Ex sc k q ls (.int (zi (G 4 (zi a).toNatClampNeg)) :: st) (mg σ J G, n, bc, bs) K
  rw [zi_c h1 (by omega)]
  exact p0
theorem ys_levels {sc : ax_S} {k pc q : Nat} {ls : List (Option Value)} {st : List Value} {σ : Nat → ax_C} {J : Nat → Int} {G : Nat → Nat → Int} {n bc bs : Nat} {K : ax_K} {a e : Int} (hn : 38 ≤ n) (g0 : decode (g_m k).2.1 pc = .ok (.iastore, 1)) (g1 : pc + 1 = q) (h1 : 0 ≤ a) (h2 : a < 100) (p0 : Ex sc k q ls st (mg σ J (va_up G 4 (va_up (G 4) a.toNat e)), n, bc, bs) K) : Ex sc k pc ls (.int (zi e) :: .int (zi a) :: .ref (maO 4) :: st) (mg σ J G, n, bc, bs) K := by
  refine x_iast (h := (mg σ J G, n, bc, bs)) (o := maO 4) (n := 100) (f := fun j => zi (G 4 j)) g0 g1 (show maO 4 < n by unfold maO; omega) rfl (zi_in h1 (by omega) (by omega)) ?_
  rw [zi_c h1 (by omega), upd_zi]
  rw [← mg_arr_levels] at p0
  exact p0
theorem yl_near {sc : ax_S} {k pc q : Nat} {ls : List (Option Value)} {st : List Value} {σ : Nat → ax_C} {J : Nat → Int} {G : Nat → Nat → Int} {n bc bs : Nat} {K : ax_K} {a : Int} (hn : 38 ≤ n) (g0 : decode (g_m k).2.1 pc = .ok (.baload, 1)) (g1 : pc + 1 = q) (h1 : 0 ≤ a) (h2 : a < 50000) (p0 : Ex sc k q ls (.int (zi (G 5 a.toNat)) :: st) (mg σ J G, n, bc, bs) K) : Ex sc k pc ls (.int (zi a) :: .ref (maO 5) :: st) (mg σ J G, n, bc, bs) K := by
  refine x_zald (h := (mg σ J G, n, bc, bs)) (o := maO 5) (n := 50000) (f := fun j => zi (G 5 j)) g0 g1 (show maO 5 < n by unfold maO; omega) rfl (zi_in h1 (by omega) (by omega)) ?_
  show Ex sc k q ls (.int (zi (G 5 (zi a).toNatClampNeg)) :: st) (mg σ J G, n, bc, bs) K
  rw [zi_c h1 (by omega)]
  exact p0
theorem ys_near {sc : ax_S} {k pc q : Nat} {ls : List (Option Value)} {st : List Value} {σ : Nat → ax_C} {J : Nat → Int} {G : Nat → Nat → Int} {n bc bs : Nat} {K : ax_K} {a e : Int} (hn : 38 ≤ n) (hb : e = 0 ∨ e = 1) (g0 : decode (g_m k).2.1 pc = .ok (.bastore, 1)) (g1 : pc + 1 = q) (h1 : 0 ≤ a) (h2 : a < 50000) (p0 : Ex sc k q ls st (mg σ J (va_up G 5 (va_up (G 5) a.toNat e)), n, bc, bs) K) : Ex sc k pc ls (.int (zi e) :: .int (zi a) :: .ref (maO 5) :: st) (mg σ J G, n, bc, bs) K := by
  refine x_zast (h := (mg σ J G, n, bc, bs)) (o := maO 5) (n := 50000) (f := fun j => zi (G 5 j)) g0 g1 (show maO 5 < n by unfold maO; omega) rfl (zi_in h1 (by omega) (by omega)) ?_
  rw [zi_nar hb, zi_c h1 (by omega), upd_zi]
  rw [← mg_arr_near] at p0
  exact p0
theorem yl_fars {sc : ax_S} {k pc q : Nat} {ls : List (Option Value)} {st : List Value} {σ : Nat → ax_C} {J : Nat → Int} {G : Nat → Nat → Int} {n bc bs : Nat} {K : ax_K} {a : Int} (hn : 38 ≤ n) (g0 : decode (g_m k).2.1 pc = .ok (.iaload, 1)) (g1 : pc + 1 = q) (h1 : 0 ≤ a) (h2 : a < 10100) (p0 : Ex sc k q ls (.int (zi (G 6 a.toNat)) :: st) (mg σ J G, n, bc, bs) K) : Ex sc k pc ls (.int (zi a) :: .ref (maO 6) :: st) (mg σ J G, n, bc, bs) K := by
  refine x_iald (h := (mg σ J G, n, bc, bs)) (o := maO 6) (n := 10100) (f := fun j => zi (G 6 j)) g0 g1 (show maO 6 < n by unfold maO; omega) rfl (zi_in h1 (by omega) (by omega)) ?_
  show Ex sc k q ls (.int (zi (G 6 (zi a).toNatClampNeg)) :: st) (mg σ J G, n, bc, bs) K
  rw [zi_c h1 (by omega)]
  exact p0
theorem ys_fars {sc : ax_S} {k pc q : Nat} {ls : List (Option Value)} {st : List Value} {σ : Nat → ax_C} {J : Nat → Int} {G : Nat → Nat → Int} {n bc bs : Nat} {K : ax_K} {a e : Int} (hn : 38 ≤ n) (g0 : decode (g_m k).2.1 pc = .ok (.iastore, 1)) (g1 : pc + 1 = q) (h1 : 0 ≤ a) (h2 : a < 10100) (p0 : Ex sc k q ls st (mg σ J (va_up G 6 (va_up (G 6) a.toNat e)), n, bc, bs) K) : Ex sc k pc ls (.int (zi e) :: .int (zi a) :: .ref (maO 6) :: st) (mg σ J G, n, bc, bs) K := by
  refine x_iast (h := (mg σ J G, n, bc, bs)) (o := maO 6) (n := 10100) (f := fun j => zi (G 6 j)) g0 g1 (show maO 6 < n by unfold maO; omega) rfl (zi_in h1 (by omega) (by omega)) ?_
  rw [zi_c h1 (by omega), upd_zi]
  rw [← mg_arr_fars] at p0
  exact p0
theorem yl_met {sc : ax_S} {k pc q : Nat} {ls : List (Option Value)} {st : List Value} {σ : Nat → ax_C} {J : Nat → Int} {G : Nat → Nat → Int} {n bc bs : Nat} {K : ax_K} {a : Int} (hn : 38 ≤ n) (g0 : decode (g_m k).2.1 pc = .ok (.baload, 1)) (g1 : pc + 1 = q) (h1 : 0 ≤ a) (h2 : a < 100) (p0 : Ex sc k q ls (.int (zi (G 7 a.toNat)) :: st) (mg σ J G, n, bc, bs) K) : Ex sc k pc ls (.int (zi a) :: .ref (maO 7) :: st) (mg σ J G, n, bc, bs) K := by
  refine x_zald (h := (mg σ J G, n, bc, bs)) (o := maO 7) (n := 100) (f := fun j => zi (G 7 j)) g0 g1 (show maO 7 < n by unfold maO; omega) rfl (zi_in h1 (by omega) (by omega)) ?_
  show Ex sc k q ls (.int (zi (G 7 (zi a).toNatClampNeg)) :: st) (mg σ J G, n, bc, bs) K
  rw [zi_c h1 (by omega)]
  exact p0
theorem ys_met {sc : ax_S} {k pc q : Nat} {ls : List (Option Value)} {st : List Value} {σ : Nat → ax_C} {J : Nat → Int} {G : Nat → Nat → Int} {n bc bs : Nat} {K : ax_K} {a e : Int} (hn : 38 ≤ n) (hb : e = 0 ∨ e = 1) (g0 : decode (g_m k).2.1 pc = .ok (.bastore, 1)) (g1 : pc + 1 = q) (h1 : 0 ≤ a) (h2 : a < 100) (p0 : Ex sc k q ls st (mg σ J (va_up G 7 (va_up (G 7) a.toNat e)), n, bc, bs) K) : Ex sc k pc ls (.int (zi e) :: .int (zi a) :: .ref (maO 7) :: st) (mg σ J G, n, bc, bs) K := by
  refine x_zast (h := (mg σ J G, n, bc, bs)) (o := maO 7) (n := 100) (f := fun j => zi (G 7 j)) g0 g1 (show maO 7 < n by unfold maO; omega) rfl (zi_in h1 (by omega) (by omega)) ?_
  rw [zi_nar hb, zi_c h1 (by omega), upd_zi]
  rw [← mg_arr_met] at p0
  exact p0
theorem yl_open {sc : ax_S} {k pc q : Nat} {ls : List (Option Value)} {st : List Value} {σ : Nat → ax_C} {J : Nat → Int} {G : Nat → Nat → Int} {n bc bs : Nat} {K : ax_K} {a : Int} (hn : 38 ≤ n) (g0 : decode (g_m k).2.1 pc = .ok (.baload, 1)) (g1 : pc + 1 = q) (h1 : 0 ≤ a) (h2 : a < 100) (p0 : Ex sc k q ls (.int (zi (G 8 a.toNat)) :: st) (mg σ J G, n, bc, bs) K) : Ex sc k pc ls (.int (zi a) :: .ref (maO 8) :: st) (mg σ J G, n, bc, bs) K := by
  refine x_zald (h := (mg σ J G, n, bc, bs)) (o := maO 8) (n := 100) (f := fun j => zi (G 8 j)) g0 g1 (show maO 8 < n by unfold maO; omega) rfl (zi_in h1 (by omega) (by omega)) ?_
  show Ex sc k q ls (.int (zi (G 8 (zi a).toNatClampNeg)) :: st) (mg σ J G, n, bc, bs) K
  rw [zi_c h1 (by omega)]
  exact p0
theorem ys_open {sc : ax_S} {k pc q : Nat} {ls : List (Option Value)} {st : List Value} {σ : Nat → ax_C} {J : Nat → Int} {G : Nat → Nat → Int} {n bc bs : Nat} {K : ax_K} {a e : Int} (hn : 38 ≤ n) (hb : e = 0 ∨ e = 1) (g0 : decode (g_m k).2.1 pc = .ok (.bastore, 1)) (g1 : pc + 1 = q) (h1 : 0 ≤ a) (h2 : a < 100) (p0 : Ex sc k q ls st (mg σ J (va_up G 8 (va_up (G 8) a.toNat e)), n, bc, bs) K) : Ex sc k pc ls (.int (zi e) :: .int (zi a) :: .ref (maO 8) :: st) (mg σ J G, n, bc, bs) K := by
  refine x_zast (h := (mg σ J G, n, bc, bs)) (o := maO 8) (n := 100) (f := fun j => zi (G 8 j)) g0 g1 (show maO 8 < n by unfold maO; omega) rfl (zi_in h1 (by omega) (by omega)) ?_
  rw [zi_nar hb, zi_c h1 (by omega), upd_zi]
  rw [← mg_arr_open] at p0
  exact p0
theorem yl_found {sc : ax_S} {k pc q : Nat} {ls : List (Option Value)} {st : List Value} {σ : Nat → ax_C} {J : Nat → Int} {G : Nat → Nat → Int} {n bc bs : Nat} {K : ax_K} {a : Int} (hn : 38 ≤ n) (g0 : decode (g_m k).2.1 pc = .ok (.baload, 1)) (g1 : pc + 1 = q) (h1 : 0 ≤ a) (h2 : a < 100) (p0 : Ex sc k q ls (.int (zi (G 9 a.toNat)) :: st) (mg σ J G, n, bc, bs) K) : Ex sc k pc ls (.int (zi a) :: .ref (maO 9) :: st) (mg σ J G, n, bc, bs) K := by
  refine x_zald (h := (mg σ J G, n, bc, bs)) (o := maO 9) (n := 100) (f := fun j => zi (G 9 j)) g0 g1 (show maO 9 < n by unfold maO; omega) rfl (zi_in h1 (by omega) (by omega)) ?_
  show Ex sc k q ls (.int (zi (G 9 (zi a).toNatClampNeg)) :: st) (mg σ J G, n, bc, bs) K
  rw [zi_c h1 (by omega)]
  exact p0
theorem ys_found {sc : ax_S} {k pc q : Nat} {ls : List (Option Value)} {st : List Value} {σ : Nat → ax_C} {J : Nat → Int} {G : Nat → Nat → Int} {n bc bs : Nat} {K : ax_K} {a e : Int} (hn : 38 ≤ n) (hb : e = 0 ∨ e = 1) (g0 : decode (g_m k).2.1 pc = .ok (.bastore, 1)) (g1 : pc + 1 = q) (h1 : 0 ≤ a) (h2 : a < 100) (p0 : Ex sc k q ls st (mg σ J (va_up G 9 (va_up (G 9) a.toNat e)), n, bc, bs) K) : Ex sc k pc ls (.int (zi e) :: .int (zi a) :: .ref (maO 9) :: st) (mg σ J G, n, bc, bs) K := by
  refine x_zast (h := (mg σ J G, n, bc, bs)) (o := maO 9) (n := 100) (f := fun j => zi (G 9 j)) g0 g1 (show maO 9 < n by unfold maO; omega) rfl (zi_in h1 (by omega) (by omega)) ?_
  rw [zi_nar hb, zi_c h1 (by omega), upd_zi]
  rw [← mg_arr_found] at p0
  exact p0
theorem yl_pool {sc : ax_S} {k pc q : Nat} {ls : List (Option Value)} {st : List Value} {σ : Nat → ax_C} {J : Nat → Int} {G : Nat → Nat → Int} {n bc bs : Nat} {K : ax_K} {a : Int} (hn : 38 ≤ n) (g0 : decode (g_m k).2.1 pc = .ok (.baload, 1)) (g1 : pc + 1 = q) (h1 : 0 ≤ a) (h2 : a < 100) (p0 : Ex sc k q ls (.int (zi (G 10 a.toNat)) :: st) (mg σ J G, n, bc, bs) K) : Ex sc k pc ls (.int (zi a) :: .ref (maO 10) :: st) (mg σ J G, n, bc, bs) K := by
  refine x_zald (h := (mg σ J G, n, bc, bs)) (o := maO 10) (n := 100) (f := fun j => zi (G 10 j)) g0 g1 (show maO 10 < n by unfold maO; omega) rfl (zi_in h1 (by omega) (by omega)) ?_
  show Ex sc k q ls (.int (zi (G 10 (zi a).toNatClampNeg)) :: st) (mg σ J G, n, bc, bs) K
  rw [zi_c h1 (by omega)]
  exact p0
theorem ys_pool {sc : ax_S} {k pc q : Nat} {ls : List (Option Value)} {st : List Value} {σ : Nat → ax_C} {J : Nat → Int} {G : Nat → Nat → Int} {n bc bs : Nat} {K : ax_K} {a e : Int} (hn : 38 ≤ n) (hb : e = 0 ∨ e = 1) (g0 : decode (g_m k).2.1 pc = .ok (.bastore, 1)) (g1 : pc + 1 = q) (h1 : 0 ≤ a) (h2 : a < 100) (p0 : Ex sc k q ls st (mg σ J (va_up G 10 (va_up (G 10) a.toNat e)), n, bc, bs) K) : Ex sc k pc ls (.int (zi e) :: .int (zi a) :: .ref (maO 10) :: st) (mg σ J G, n, bc, bs) K := by
  refine x_zast (h := (mg σ J G, n, bc, bs)) (o := maO 10) (n := 100) (f := fun j => zi (G 10 j)) g0 g1 (show maO 10 < n by unfold maO; omega) rfl (zi_in h1 (by omega) (by omega)) ?_
  rw [zi_nar hb, zi_c h1 (by omega), upd_zi]
  rw [← mg_arr_pool] at p0
  exact p0
theorem yl_chosen {sc : ax_S} {k pc q : Nat} {ls : List (Option Value)} {st : List Value} {σ : Nat → ax_C} {J : Nat → Int} {G : Nat → Nat → Int} {n bc bs : Nat} {K : ax_K} {a : Int} (hn : 38 ≤ n) (g0 : decode (g_m k).2.1 pc = .ok (.baload, 1)) (g1 : pc + 1 = q) (h1 : 0 ≤ a) (h2 : a < 100) (p0 : Ex sc k q ls (.int (zi (G 11 a.toNat)) :: st) (mg σ J G, n, bc, bs) K) : Ex sc k pc ls (.int (zi a) :: .ref (maO 11) :: st) (mg σ J G, n, bc, bs) K := by
  refine x_zald (h := (mg σ J G, n, bc, bs)) (o := maO 11) (n := 100) (f := fun j => zi (G 11 j)) g0 g1 (show maO 11 < n by unfold maO; omega) rfl (zi_in h1 (by omega) (by omega)) ?_
  show Ex sc k q ls (.int (zi (G 11 (zi a).toNatClampNeg)) :: st) (mg σ J G, n, bc, bs) K
  rw [zi_c h1 (by omega)]
  exact p0
theorem ys_chosen {sc : ax_S} {k pc q : Nat} {ls : List (Option Value)} {st : List Value} {σ : Nat → ax_C} {J : Nat → Int} {G : Nat → Nat → Int} {n bc bs : Nat} {K : ax_K} {a e : Int} (hn : 38 ≤ n) (hb : e = 0 ∨ e = 1) (g0 : decode (g_m k).2.1 pc = .ok (.bastore, 1)) (g1 : pc + 1 = q) (h1 : 0 ≤ a) (h2 : a < 100) (p0 : Ex sc k q ls st (mg σ J (va_up G 11 (va_up (G 11) a.toNat e)), n, bc, bs) K) : Ex sc k pc ls (.int (zi e) :: .int (zi a) :: .ref (maO 11) :: st) (mg σ J G, n, bc, bs) K := by
  refine x_zast (h := (mg σ J G, n, bc, bs)) (o := maO 11) (n := 100) (f := fun j => zi (G 11 j)) g0 g1 (show maO 11 < n by unfold maO; omega) rfl (zi_in h1 (by omega) (by omega)) ?_
  rw [zi_nar hb, zi_c h1 (by omega), upd_zi]
  rw [← mg_arr_chosen] at p0
  exact p0
theorem yl_those {sc : ax_S} {k pc q : Nat} {ls : List (Option Value)} {st : List Value} {σ : Nat → ax_C} {J : Nat → Int} {G : Nat → Nat → Int} {n bc bs : Nat} {K : ax_K} {a : Int} (hn : 38 ≤ n) (g0 : decode (g_m k).2.1 pc = .ok (.baload, 1)) (g1 : pc + 1 = q) (h1 : 0 ≤ a) (h2 : a < 100) (p0 : Ex sc k q ls (.int (zi (G 12 a.toNat)) :: st) (mg σ J G, n, bc, bs) K) : Ex sc k pc ls (.int (zi a) :: .ref (maO 12) :: st) (mg σ J G, n, bc, bs) K := by
  refine x_zald (h := (mg σ J G, n, bc, bs)) (o := maO 12) (n := 100) (f := fun j => zi (G 12 j)) g0 g1 (show maO 12 < n by unfold maO; omega) rfl (zi_in h1 (by omega) (by omega)) ?_
  show Ex sc k q ls (.int (zi (G 12 (zi a).toNatClampNeg)) :: st) (mg σ J G, n, bc, bs) K
  rw [zi_c h1 (by omega)]
  exact p0
theorem ys_those {sc : ax_S} {k pc q : Nat} {ls : List (Option Value)} {st : List Value} {σ : Nat → ax_C} {J : Nat → Int} {G : Nat → Nat → Int} {n bc bs : Nat} {K : ax_K} {a e : Int} (hn : 38 ≤ n) (hb : e = 0 ∨ e = 1) (g0 : decode (g_m k).2.1 pc = .ok (.bastore, 1)) (g1 : pc + 1 = q) (h1 : 0 ≤ a) (h2 : a < 100) (p0 : Ex sc k q ls st (mg σ J (va_up G 12 (va_up (G 12) a.toNat e)), n, bc, bs) K) : Ex sc k pc ls (.int (zi e) :: .int (zi a) :: .ref (maO 12) :: st) (mg σ J G, n, bc, bs) K := by
  refine x_zast (h := (mg σ J G, n, bc, bs)) (o := maO 12) (n := 100) (f := fun j => zi (G 12 j)) g0 g1 (show maO 12 < n by unfold maO; omega) rfl (zi_in h1 (by omega) (by omega)) ?_
  rw [zi_nar hb, zi_c h1 (by omega), upd_zi]
  rw [← mg_arr_those] at p0
  exact p0
theorem yl_row {sc : ax_S} {k pc q : Nat} {ls : List (Option Value)} {st : List Value} {σ : Nat → ax_C} {J : Nat → Int} {G : Nat → Nat → Int} {n bc bs : Nat} {K : ax_K} {a : Int} (hn : 38 ≤ n) (g0 : decode (g_m k).2.1 pc = .ok (.iaload, 1)) (g1 : pc + 1 = q) (h1 : 0 ≤ a) (h2 : a < 100) (p0 : Ex sc k q ls (.int (zi (G 13 a.toNat)) :: st) (mg σ J G, n, bc, bs) K) : Ex sc k pc ls (.int (zi a) :: .ref (maO 13) :: st) (mg σ J G, n, bc, bs) K := by
  refine x_iald (h := (mg σ J G, n, bc, bs)) (o := maO 13) (n := 100) (f := fun j => zi (G 13 j)) g0 g1 (show maO 13 < n by unfold maO; omega) rfl (zi_in h1 (by omega) (by omega)) ?_
  show Ex sc k q ls (.int (zi (G 13 (zi a).toNatClampNeg)) :: st) (mg σ J G, n, bc, bs) K
  rw [zi_c h1 (by omega)]
  exact p0
theorem ys_row {sc : ax_S} {k pc q : Nat} {ls : List (Option Value)} {st : List Value} {σ : Nat → ax_C} {J : Nat → Int} {G : Nat → Nat → Int} {n bc bs : Nat} {K : ax_K} {a e : Int} (hn : 38 ≤ n) (g0 : decode (g_m k).2.1 pc = .ok (.iastore, 1)) (g1 : pc + 1 = q) (h1 : 0 ≤ a) (h2 : a < 100) (p0 : Ex sc k q ls st (mg σ J (va_up G 13 (va_up (G 13) a.toNat e)), n, bc, bs) K) : Ex sc k pc ls (.int (zi e) :: .int (zi a) :: .ref (maO 13) :: st) (mg σ J G, n, bc, bs) K := by
  refine x_iast (h := (mg σ J G, n, bc, bs)) (o := maO 13) (n := 100) (f := fun j => zi (G 13 j)) g0 g1 (show maO 13 < n by unfold maO; omega) rfl (zi_in h1 (by omega) (by omega)) ?_
  rw [zi_c h1 (by omega), upd_zi]
  rw [← mg_arr_row] at p0
  exact p0
theorem yl_byGraph {sc : ax_S} {k pc q : Nat} {ls : List (Option Value)} {st : List Value} {σ : Nat → ax_C} {J : Nat → Int} {G : Nat → Nat → Int} {n bc bs : Nat} {K : ax_K} {a : Int} (hn : 38 ≤ n) (g0 : decode (g_m k).2.1 pc = .ok (.baload, 1)) (g1 : pc + 1 = q) (h1 : 0 ≤ a) (h2 : a < 100) (p0 : Ex sc k q ls (.int (zi (G 14 a.toNat)) :: st) (mg σ J G, n, bc, bs) K) : Ex sc k pc ls (.int (zi a) :: .ref (maO 14) :: st) (mg σ J G, n, bc, bs) K := by
  refine x_zald (h := (mg σ J G, n, bc, bs)) (o := maO 14) (n := 100) (f := fun j => zi (G 14 j)) g0 g1 (show maO 14 < n by unfold maO; omega) rfl (zi_in h1 (by omega) (by omega)) ?_
  show Ex sc k q ls (.int (zi (G 14 (zi a).toNatClampNeg)) :: st) (mg σ J G, n, bc, bs) K
  rw [zi_c h1 (by omega)]
  exact p0
theorem ys_byGraph {sc : ax_S} {k pc q : Nat} {ls : List (Option Value)} {st : List Value} {σ : Nat → ax_C} {J : Nat → Int} {G : Nat → Nat → Int} {n bc bs : Nat} {K : ax_K} {a e : Int} (hn : 38 ≤ n) (hb : e = 0 ∨ e = 1) (g0 : decode (g_m k).2.1 pc = .ok (.bastore, 1)) (g1 : pc + 1 = q) (h1 : 0 ≤ a) (h2 : a < 100) (p0 : Ex sc k q ls st (mg σ J (va_up G 14 (va_up (G 14) a.toNat e)), n, bc, bs) K) : Ex sc k pc ls (.int (zi e) :: .int (zi a) :: .ref (maO 14) :: st) (mg σ J G, n, bc, bs) K := by
  refine x_zast (h := (mg σ J G, n, bc, bs)) (o := maO 14) (n := 100) (f := fun j => zi (G 14 j)) g0 g1 (show maO 14 < n by unfold maO; omega) rfl (zi_in h1 (by omega) (by omega)) ?_
  rw [zi_nar hb, zi_c h1 (by omega), upd_zi]
  rw [← mg_arr_byGraph] at p0
  exact p0
def mBool (a : Nat) : Prop := a = 8 ∨ a = 9 ∨ a = 10 ∨ a = 12
theorem mg_bool {σ : Nat → ax_C} {J : Nat → Int} {G : Nat → Nat → Int} {a : Nat} (h : mBool a) : mg σ J G (maO a) = .inl (true, 100, fun j => zi (G a j)) := by
  rcases h with rfl | rfl | rfl | rfl <;> rfl
theorem yl_b {sc : ax_S} {k pc q : Nat} {ls : List (Option Value)} {st : List Value} {σ : Nat → ax_C} {J : Nat → Int} {G : Nat → Nat → Int} {n bc bs : Nat} {K : ax_K} {r : Nat} {a : Int} (hr : mBool r) (hn : 38 ≤ n) (g0 : decode (g_m k).2.1 pc = .ok (.baload, 1)) (g1 : pc + 1 = q) (h1 : 0 ≤ a) (h2 : a < 100) (p0 : Ex sc k q ls (.int (zi (G r a.toNat)) :: st) (mg σ J G, n, bc, bs) K) : Ex sc k pc ls (.int (zi a) :: .ref (maO r) :: st) (mg σ J G, n, bc, bs) K := by
  refine x_zald (h := (mg σ J G, n, bc, bs)) (o := maO r) (n := 100) (f := fun j => zi (G r j)) g0 g1 (show maO r < n by unfold maO; rcases hr with rfl | rfl | rfl | rfl <;> omega) (mg_bool hr) (zi_in h1 (by omega) (by omega)) ?_
  show Ex sc k q ls (.int (zi (G r (zi a).toNatClampNeg)) :: st) (mg σ J G, n, bc, bs) K
  rw [zi_c h1 (by omega)]
  exact p0
theorem vg_off {σ : Nat → ax_C} {I : Nat → Int} {F : Nat → Nat → Int} {i : Nat} (h : 22 ≤ i) : vg σ I F i = σ i := by
  obtain ⟨d, rfl⟩ : ∃ d, i = d + 22 := ⟨i - 22, by omega⟩
  rfl
theorem vg_on {σ σ2 : Nat → ax_C} {I : Nat → Int} {F : Nat → Nat → Int} {i : Nat} (h : i < 22) : vg σ I F i = vg σ2 I F i := by
  obtain rfl | rfl | rfl | rfl | rfl | rfl | rfl | rfl | rfl | rfl | rfl | rfl | rfl | rfl | rfl | rfl | rfl | rfl | rfl | rfl | rfl | rfl : i = 0 ∨ i = 1 ∨ i = 2 ∨ i = 3 ∨ i = 4 ∨ i = 5 ∨ i = 6 ∨ i = 7 ∨ i = 8 ∨ i = 9 ∨ i = 10 ∨ i = 11 ∨ i = 12 ∨ i = 13 ∨ i = 14 ∨ i = 15 ∨ i = 16 ∨ i = 17 ∨ i = 18 ∨ i = 19 ∨ i = 20 ∨ i = 21 := by omega
  all_goals rfl
theorem mg_on {σ σ2 : Nat → ax_C} {J : Nat → Int} {G : Nat → Nat → Int} {i : Nat} (h1 : 22 ≤ i) (h2 : i < 38) : mg σ J G i = mg σ2 J G i := by
  obtain rfl | rfl | rfl | rfl | rfl | rfl | rfl | rfl | rfl | rfl | rfl | rfl | rfl | rfl | rfl | rfl : i = 22 ∨ i = 23 ∨ i = 24 ∨ i = 25 ∨ i = 26 ∨ i = 27 ∨ i = 28 ∨ i = 29 ∨ i = 30 ∨ i = 31 ∨ i = 32 ∨ i = 33 ∨ i = 34 ∨ i = 35 ∨ i = 36 ∨ i = 37 := by omega
  all_goals rfl
theorem vg_mg (σ : Nat → ax_C) (I : Nat → Int) (F : Nat → Nat → Int) (J : Nat → Int) (G : Nat → Nat → Int) : vg (mg σ J G) I F = mg (vg σ I F) J G := by
  funext i
  by_cases h1 : i < 22
  · rw [mg_off (Or.inl h1), vg_on h1]
  · rw [vg_off (by omega)]
    by_cases h2 : i < 38
    · exact mg_on (by omega) h2
    · rw [mg_off (Or.inr (by omega)), mg_off (Or.inr (by omega)), vg_off (by omega)]
end
section
/-! rules in whole numbers: min, max; arrays copied; small facts of va_up -/
theorem va_us {α : Type} (f : Nat → α) (k : Nat) (v : α) : va_up f k v k = v := if_pos rfl
theorem va_un {α : Type} (f : Nat → α) (k : Nat) (v : α) {j : Nat} (h : j ≠ k) : va_up f k v j = f j := if_neg h
theorem z_mmin {sc : ax_S} {k pc q idx : Nat} {ls : List (Option Value)} {st : List Value} {h : ax_H} {K : ax_K} {a b : Int} (h1 : -2147483648 ≤ a ∧ a ≤ 2147483647) (h2 : -2147483648 ≤ b ∧ b ≤ 2147483647) (g0 : decode (g_m k).2.1 pc = .ok (.invokestatic idx, 3)) (g1 : pc + 3 = q) (g2 : (Cond.methodLink (g_m k).1.cls idx Lib.Math.min.name) ∈ gw) (g6 : 1 ≤ g_fr k ∧ 30 ≤ g_lo k) (g7 : (st.map fun v => v.category).sum ≤ 8) (p0 : Ex sc k q ls (.int (zi (if b < a then b else a)) :: st) h K) : Ex sc k pc ls (.int (zi b) :: .int (zi a) :: st) h K := by
  refine x_mmin g0 g1 g2 wm_min_s wm_i wm_min_c g6 g7 ?_
  have e : (if zi b < zi a then zi b else zi a) = zi (if b < a then b else a) := by
    by_cases hc : b < a
    · rw [if_pos hc, if_pos ((zi_lt h2.1 h2.2 h1.1 h1.2).mpr hc)]
    · rw [if_neg hc, if_neg (fun z => hc ((zi_lt h2.1 h2.2 h1.1 h1.2).mp z))]
  rw [e]
  exact p0
theorem z_mmax {sc : ax_S} {k pc q idx : Nat} {ls : List (Option Value)} {st : List Value} {h : ax_H} {K : ax_K} {a b : Int} (h1 : -2147483648 ≤ a ∧ a ≤ 2147483647) (h2 : -2147483648 ≤ b ∧ b ≤ 2147483647) (g0 : decode (g_m k).2.1 pc = .ok (.invokestatic idx, 3)) (g1 : pc + 3 = q) (g2 : (Cond.methodLink (g_m k).1.cls idx Lib.Math.max.name) ∈ gw) (g6 : 1 ≤ g_fr k ∧ 30 ≤ g_lo k) (g7 : (st.map fun v => v.category).sum ≤ 8) (p0 : Ex sc k q ls (.int (zi (if a < b then b else a)) :: st) h K) : Ex sc k pc ls (.int (zi b) :: .int (zi a) :: st) h K := by
  refine x_mmax g0 g1 g2 wm_max_s wm_i wm_max_c g6 g7 ?_
  have e : (if zi a < zi b then zi b else zi a) = zi (if a < b then b else a) := by
    by_cases hc : a < b
    · rw [if_pos hc, if_pos ((zi_lt h1.1 h1.2 h2.1 h2.2).mpr hc)]
    · rw [if_neg hc, if_neg (fun z => hc ((zi_lt h1.1 h1.2 h2.1 h2.2).mp z))]
  rw [e]
  exact p0
/-- arraycopy within the keys of Ranks r -/
theorem z_cpyR {sc : ax_S} {k pc q idx : Nat} {ls : List (Option Value)} {st : List Value} {σ : Nat → ax_C} {I : Nat → Int} {F : Nat → Nat → Int} {n bc bs : Nat} {K : ax_K} {r : Nat} {a b m : Int} (hr : r < 6) (hn : 22 ≤ n) (g0 : decode (g_m k).2.1 pc = .ok (.invokestatic idx, 3)) (g1 : pc + 3 = q) (g2 : (Cond.methodLink (g_m k).1.cls idx arraycopyName) ∈ gw) (g6 : 1 ≤ g_fr k ∧ 8 + (nativeFrameWords "java/lang/System" "arraycopy" 5 + 11) ≤ g_lo k) (g7 : (st.map fun v => v.category).sum ≤ 8)
    (h1 : 0 ≤ a) (h2 : 0 ≤ b) (h3 : 0 ≤ m) (h4 : a + m ≤ (rkC r : Nat)) (h5 : b + m ≤ (rkC r : Nat)) (p0 : Ex sc k q ls st (vg σ I (va_up F (10 + r) (va_cpy (F (10 + r)) (F (10 + r)) a.toNat b.toNat m.toNat)), n, bc, bs) K) :
    Ex sc k pc ls (.int (zi m) :: .int (zi b) :: .ref (rkK r) :: .int (zi a) :: .ref (rkK r) :: st) (vg σ I F, n, bc, bs) K := by
  have hc := rkC_le r
  have hlt := (rk_lt hr hn).2
  refine x_acopy (h := (vg σ I F, n, bc, bs)) (o0 := rkK r) (o1 := rkK r) g0 g1 g2 ws_n ws_s ws_i g6 g7 hlt hlt (vg_rkK hr) (vg_rkK hr) (by rw [zi_lt0] <;> omega) (by rw [zi_lt0] <;> omega) (by rw [zi_lt0] <;> omega) (by rw [zi_c h1 (by omega), zi_c h3 (by omega)]; omega) (by rw [zi_c h2 (by omega), zi_c h3 (by omega)]; omega) ?_
  rw [zi_c h1 (by omega), zi_c h2 (by omega), zi_c h3 (by omega), cpy_zi]
  rw [← vg_arr_rk σ I F _ hr] at p0
  exact p0
/-- arraycopy within the values -/
theorem z_cpyV {sc : ax_S} {k pc q idx : Nat} {ls : List (Option Value)} {st : List Value} {σ : Nat → ax_C} {I : Nat → Int} {F : Nat → Nat → Int} {n bc bs : Nat} {K : ax_K} {a b m : Int} (hn : 22 ≤ n) (hp : (I 7).toNat ≤ 8) (g0 : decode (g_m k).2.1 pc = .ok (.invokestatic idx, 3)) (g1 : pc + 3 = q) (g2 : (Cond.methodLink (g_m k).1.cls idx arraycopyName) ∈ gw) (g6 : 1 ≤ g_fr k ∧ 8 + (nativeFrameWords "java/lang/System" "arraycopy" 5 + 11) ≤ g_lo k) (g7 : (st.map fun v => v.category).sum ≤ 8)
    (h1 : 0 ≤ a) (h2 : 0 ≤ b) (h3 : 0 ≤ m) (h4 : a + m ≤ (101 * (I 7).toNat : Nat)) (h5 : b + m ≤ (101 * (I 7).toNat : Nat)) (p0 : Ex sc k q ls st (vg σ I (va_up F 2 (va_cpy (F 2) (F 2) a.toNat b.toNat m.toNat)), n, bc, bs) K) :
    Ex sc k pc ls (.int (zi m) :: .int (zi b) :: .ref 4 :: .int (zi a) :: .ref 4 :: st) (vg σ I F, n, bc, bs) K := by
  have hlt : 4 < n := by omega
  refine x_acopy (h := (vg σ I F, n, bc, bs)) (o0 := 4) (o1 := 4) (n0 := 101 * (I 7).toNat) (n1 := 101 * (I 7).toNat) (f := fun j => zi (F 2 j)) (g := fun j => zi (F 2 j)) g0 g1 g2 ws_n ws_s ws_i g6 g7 hlt hlt rfl rfl (by rw [zi_lt0] <;> omega) (by rw [zi_lt0] <;> omega) (by rw [zi_lt0] <;> omega) (by rw [zi_c h1 (by omega), zi_c h3 (by omega)]; omega) (by rw [zi_c h2 (by omega), zi_c h3 (by omega)]; omega) ?_
  rw [zi_c h1 (by omega), zi_c h2 (by omega), zi_c h3 (by omega), cpy_zi]
  rw [← vg_arr_values] at p0
  exact p0
end
section
/-! lists of keys, in order -/
def ins (k : Nat) : List Nat → List Nat
  | [] => [k]
  | x :: xs => if x ≤ k then x :: ins k xs else k :: x :: xs
theorem ins_len (k : Nat) : ∀ L : List Nat, (ins k L).length = L.length + 1
  | [] => rfl
  | x :: xs => by
    unfold ins
    split
    · simp [ins_len k xs]
    · simp
theorem ins_mem {k y : Nat} : ∀ {L : List Nat}, y ∈ ins k L ↔ y = k ∨ y ∈ L
  | [] => by simp [ins]
  | x :: xs => by
    unfold ins
    split
    · rw [List.mem_cons, ins_mem, List.mem_cons]
      constructor
      · rintro (h | h | h)
        · exact Or.inr (Or.inl h)
        · exact Or.inl h
        · exact Or.inr (Or.inr h)
      · rintro (h | h | h)
        · exact Or.inr (Or.inl h)
        · exact Or.inl h
        · exact Or.inr (Or.inr h)
    · simp
abbrev Srt (L : List Nat) : Prop := L.Pairwise (· ≤ ·)
theorem ins_srt {k : Nat} : ∀ {L : List Nat}, Srt L → Srt (ins k L)
  | [], _ => by simp [ins, Srt]
  | x :: xs, h => by
    have hx := List.pairwise_cons.mp h
    unfold ins
    split
    next hk =>
      refine List.pairwise_cons.mpr ⟨fun y hy => ?_, ins_srt hx.2⟩
      rcases ins_mem.mp hy with rfl | hy
      · exact hk
      · exact hx.1 y hy
    next hk =>
      refine List.pairwise_cons.mpr ⟨fun y hy => ?_, h⟩
      rcases List.mem_cons.mp hy with rfl | hy
      · omega
      · have := hx.1 y hy
        omega
theorem ins_at {k : Nat} : ∀ {L : List Nat} {p : Nat}, p ≤ L.length → (∀ j, j < p → L.getD j 0 ≤ k) → (∀ j, p ≤ j → j < L.length → k < L.getD j 0) → ins k L = L.take p ++ k :: L.drop p
  | [], p, hp, _, _ => by
    have : p = 0 := by simpa using hp
    subst this
    rfl
  | x :: xs, 0, _, _, h2 => by
    have := h2 0 (Nat.le_refl _) (by simp)
    have hx : ¬ x ≤ k := by
      have h3 : k < x := this
      omega
    unfold ins
    rw [if_neg hx]
    rfl
  | x :: xs, p + 1, hp, h1, h2 => by
    have hx : x ≤ k := h1 0 (by omega)
    unfold ins
    rw [if_pos hx, ins_at (p := p) (by simpa using hp) (fun j hj => h1 (j + 1) (by omega)) (fun j hj hl => h2 (j + 1) (by omega) (by simpa using hl))]
    rfl
theorem srt_get {L : List Nat} (h : Srt L) {i j : Nat} (hij : i ≤ j) (hj : j < L.length) : L.getD i 0 ≤ L.getD j 0 := by
  rcases Nat.lt_or_eq_of_le hij with hlt | rfl
  · have h1 : i < L.length := by omega
    have := List.pairwise_iff_getElem.mp h i j h1 hj hlt
    simpa [List.getD_eq_getElem?_getD, List.getElem?_eq_getElem h1, List.getElem?_eq_getElem hj] using this
  · exact Nat.le_refl _
theorem srt_take {L : List Nat} (h : Srt L) (n : Nat) : Srt (L.take n) := h.sublist (List.take_sublist n L)
theorem srt_tail {L : List Nat} (h : Srt L) : Srt L.tail := h.sublist (List.tail_sublist L)
theorem gd_mem {L : List Nat} {j : Nat} (h : j < L.length) : L.getD j 0 ∈ L := by
  rw [List.getD_eq_getElem?_getD, List.getElem?_eq_getElem h]
  exact List.getElem_mem h
theorem gd_ins {L : List Nat} {p key : Nat} (hp : p ≤ L.length) (j : Nat) : (L.take p ++ key :: L.drop p).getD j 0 = if j < p then L.getD j 0 else if j = p then key else L.getD (j - 1) 0 := by
  have hl : (L.take p).length = p := by rw [List.length_take]; omega
  simp only [List.getD_eq_getElem?_getD]
  by_cases h1 : j < p
  · rw [if_pos h1, List.getElem?_append_left (by omega), List.getElem?_take_of_lt h1]
  · rw [if_neg h1, List.getElem?_append_right (by omega), hl]
    by_cases h2 : j = p
    · subst h2
      simp
    · rw [if_neg h2]
      obtain ⟨d, rfl⟩ : ∃ d, j = p + 1 + d := ⟨j - p - 1, by omega⟩
      have e1 : p + 1 + d - p = d + 1 := by omega
      have e2 : p + 1 + d - 1 = p + d := by omega
      rw [e1, e2, List.getElem?_cons_succ, List.getElem?_drop]
theorem gd_set {L : List Nat} {j v x : Nat} (hx : x < L.length) : (L.set j v).getD x 0 = if x = j then v else L.getD x 0 := by
  rw [List.getD_eq_getElem?_getD, List.getElem?_set]
  by_cases e : j = x
  · subst e
    rw [if_pos rfl, if_pos hx, if_pos rfl]
    rfl
  · rw [if_neg e, if_neg (fun z => e z.symm), List.getD_eq_getElem?_getD]
theorem gd_tail {L : List Nat} {x : Nat} : L.tail.getD x 0 = L.getD (x + 1) 0 := by
  cases L <;> simp
theorem gd_take {L : List Nat} {m x : Nat} (h : x < m) : (L.take m).getD x 0 = L.getD x 0 := by
  rw [List.getD_eq_getElem?_getD, List.getD_eq_getElem?_getD, List.getElem?_take_of_lt h]
end
section
/-! Ranks: its methods -/
def RK (r : Nat) (I : Nat → Int) (F : Nat → Nat → Int) (L : List Nat) : Prop := I (10 + r) = L.length ∧ L.length ≤ rkC r ∧ (∀ j, j < L.length → F (10 + r) j = (L.getD j 0 : Nat)) ∧ ∀ x ∈ L, x < 40000000
def rkNum (L : List Nat) (i : Int) : Int := if 0 ≤ i ∧ i < L.length then ((L.getD i.toNat 0 % 100 : Nat) : Int) else -1
def rkFar (L : List Nat) (i : Int) : Int := if 0 ≤ i ∧ i < L.length then ((L.getD i.toNat 0 / 100 : Nat) : Int) else -1
def rkLB (L : List Nat) (key : Nat) : Int := if 0 < L.length ∧ L.getD (L.length - 1) 0 < key then 1 else 0
def rkHas (L : List Nat) (x : Nat) : Int := if ∃ y ∈ L, y % 100 = x then 1 else 0
theorem RK.get {r : Nat} {I : Nat → Int} {F : Nat → Nat → Int} {L : List Nat} (h : RK r I F L) {i : Int} (h1 : 0 ≤ i) (h2 : i < L.length) : F (10 + r) i.toNat = (L.getD i.toNat 0 : Nat) ∧ L.getD i.toNat 0 < 40000000 := by
  have hi : i.toNat < L.length := by omega
  exact ⟨h.2.2.1 _ hi, h.2.2.2 _ (gd_mem hi)⟩
/-- off register 10 + r nothing has changed -/
def OffI (r : Nat) (I I' : Nat → Int) : Prop := ∀ j, j ≠ 10 + r → I' j = I j
def OffF (r : Nat) (F F' : Nat → Nat → Int) : Prop := ∀ j, j ≠ 10 + r → F' j = F j
theorem OffI.up {r : Nat} {I : Nat → Int} {e : Int} : OffI r I (va_up I (10 + r) e) := fun _ h => va_un _ _ _ h
theorem OffF.up {r : Nat} {F : Nat → Nat → Int} {f : Nat → Int} : OffF r F (va_up F (10 + r) f) := fun _ h => va_un _ _ _ h
theorem OffF.rf {r : Nat} {F : Nat → Nat → Int} : OffF r F F := fun _ _ => rfl
theorem OffI.rf {r : Nat} {I : Nat → Int} : OffI r I I := fun _ _ => rfl
theorem RK.off {r r' : Nat} {I I' : Nat → Int} {F F' : Nat → Nat → Int} {L : List Nat} (h : RK r I F L) (hI : OffI r' I I') (hF : OffF r' F F') (hr : r ≠ r') : RK r I' F' L := by
  refine ⟨by rw [hI _ (by omega)]; exact h.1, h.2.1, fun j hj => by rw [hF _ (by omega)]; exact h.2.2.1 j hj, h.2.2.2⟩

theorem c_empty {sc : ax_S} {σ : Nat → ax_C} {I : Nat → Int} {F : Nat → Nat → Int} {n bc bs : Nat} {K : ax_K} (hn : 22 ≤ n) {r : Nat} (hr : r < 6) (k : ∀ I', RK r I' F [] → OffI r I I' → K none (vg σ I' F, n, bc, bs)) : Ex sc 14 0 (ax_en 14 [.ref (rkO r)]) [] (vg σ I F, n, bc, bs) K := by
  have k := k _ ⟨va_us I (10 + r) 0, Nat.zero_le _, fun j hj => absurd hj (Nat.not_lt_zero _), fun x hx => by cases hx⟩ OffI.up
  show Ex sc 14 0 [some (.ref (rkO r))] [] (vg σ I F, n, bc, bs) K
  refine xald_0 (q := 1) d_14_0 rfl ?_
  refine x_iconst (q := 2) (v := zi (0)) d_14_1 rfl rfl ?_
  refine xp_R_size hr hn (q := 5) d_14_2 rfl fw_R_21 ?_
  refine x_vret d_14_5 rfl ?_
  exact k
set_option maxHeartbeats 1000000 in
theorem c_numberAt {sc : ax_S} {σ : Nat → ax_C} {I : Nat → Int} {F : Nat → Nat → Int} {n bc bs : Nat} {K : ax_K} (hn : 22 ≤ n) {r : Nat} (hr : r < 6) {L : List Nat} (hL : RK r I F L) {i : Int} (hi : -2147483648 ≤ i ∧ i ≤ 2147483647) (k : K (some (.int (zi (rkNum L i)))) (vg σ I F, n, bc, bs)) : Ex sc 20 0 (ax_en 20 [.ref (rkO r), .int (zi i)]) [] (vg σ I F, n, bc, bs) K := by
  show Ex sc 20 0 [some (.ref (rkO r)), some (.int (zi i))] [] (vg σ I F, n, bc, bs) K
  have hI := hL.1
  have hC := hL.2.1
  have hC2 := rkC_le r
  refine xild_1 (q := 1) d_20_0 rfl ?_
  refine x_if_lt (q := 4) (t := 24) d_20_1 (by decide) rfl (fun c1 => ?_) (fun c1 => ?_)
  · rw [zi_lt0 (by omega) (by omega)] at c1
    refine x_iconst (q := 25) (v := zi (-1)) d_20_24 rfl rfl ?_
    refine x_iret d_20_25 rfl rfl ?_
    first
      | (have e1 : rkNum L i = -1 := by unfold rkNum; rw [if_neg]; omega
         rw [e1] at k; exact k)
      | (have e1 : rkNum L i = ((L.getD i.toNat 0 % 100 : Nat) : Int) := by unfold rkNum; rw [if_pos]; omega
         rw [e1] at k
         have e2 : ((L.getD i.toNat 0 : Nat) : Int).tmod 100 = ((L.getD i.toNat 0 % 100 : Nat) : Int) := rfl
         rw [e2]; exact k)
  · rw [zi_lt0 (by omega) (by omega)] at c1
    refine xild_1 (q := 5) d_20_4 rfl ?_
    refine xald_0 (q := 6) d_20_5 rfl ?_
    refine xg_R_size hr hn (q := 9) d_20_6 rfl fl_R_21 ?_
    refine x_icmp_ge (q := 12) (t := 24) d_20_9 (by decide) rfl (fun c9 => ?_) (fun c9 => ?_)
    · rw [zi_le (by omega) (by omega) (by omega) (by omega)] at c9
      refine x_iconst (q := 25) (v := zi (-1)) d_20_24 rfl rfl ?_
      refine x_iret d_20_25 rfl rfl ?_
      first
        | (have e1 : rkNum L i = -1 := by unfold rkNum; rw [if_neg]; omega
           rw [e1] at k; exact k)
        | (have e1 : rkNum L i = ((L.getD i.toNat 0 % 100 : Nat) : Int) := by unfold rkNum; rw [if_pos]; omega
           rw [e1] at k
           have e2 : ((L.getD i.toNat 0 : Nat) : Int).tmod 100 = ((L.getD i.toNat 0 % 100 : Nat) : Int) := rfl
           rw [e2]; exact k)
    · rw [zi_le (by omega) (by omega) (by omega) (by omega)] at c9
      refine xald_0 (q := 13) d_20_12 rfl ?_
      refine xg_R_keys hr hn (q := 16) d_20_13 rfl fl_R_15 ?_
      refine xild_1 (q := 17) d_20_16 rfl ?_
      refine xl_R hr (q := 18) hn d_20_17 rfl (by omega) (by omega) ?_
      have hg := hL.get (i := i) (by omega) (by omega)
      rw [hg.1]
      refine x_bipush (q := 20) (v := zi (100)) d_20_18 rfl (by decide) ?_
      refine z_irem (q := 21) d_20_20 rfl (by omega) (by omega) (by omega) (by omega) ?_
      refine x_goto (t := 25) d_20_21 (by decide) ?_
      refine x_iret d_20_25 rfl rfl ?_
      first
        | (have e1 : rkNum L i = -1 := by unfold rkNum; rw [if_neg]; omega
           rw [e1] at k; exact k)
        | (have e1 : rkNum L i = ((L.getD i.toNat 0 % 100 : Nat) : Int) := by unfold rkNum; rw [if_pos]; omega
           rw [e1] at k
           have e2 : ((L.getD i.toNat 0 : Nat) : Int).tmod 100 = ((L.getD i.toNat 0 % 100 : Nat) : Int) := rfl
           rw [e2]; exact k)
set_option maxHeartbeats 1000000 in
theorem c_farAt {sc : ax_S} {σ : Nat → ax_C} {I : Nat → Int} {F : Nat → Nat → Int} {n bc bs : Nat} {K : ax_K} (hn : 22 ≤ n) {r : Nat} (hr : r < 6) {L : List Nat} (hL : RK r I F L) {i : Int} (hi : -2147483648 ≤ i ∧ i ≤ 2147483647) (k : K (some (.int (zi (rkFar L i)))) (vg σ I F, n, bc, bs)) : Ex sc 21 0 (ax_en 21 [.ref (rkO r), .int (zi i)]) [] (vg σ I F, n, bc, bs) K := by
  show Ex sc 21 0 [some (.ref (rkO r)), some (.int (zi i))] [] (vg σ I F, n, bc, bs) K
  have hI := hL.1
  have hC := hL.2.1
  have hC2 := rkC_le r
  refine xild_1 (q := 1) d_21_0 rfl ?_
  refine x_if_lt (q := 4) (t := 24) d_21_1 (by decide) rfl (fun c1 => ?_) (fun c1 => ?_)
  · rw [zi_lt0 (by omega) (by omega)] at c1
    refine x_iconst (q := 25) (v := zi (-1)) d_21_24 rfl rfl ?_
    refine x_iret d_21_25 rfl rfl ?_
    first
      | (have e1 : rkFar L i = -1 := by unfold rkFar; rw [if_neg]; omega
         rw [e1] at k; exact k)
      | (have e1 : rkFar L i = ((L.getD i.toNat 0 / 100 : Nat) : Int) := by unfold rkFar; rw [if_pos]; omega
         rw [e1] at k
         have e2 : ((L.getD i.toNat 0 : Nat) : Int).tdiv 100 = ((L.getD i.toNat 0 / 100 : Nat) : Int) := rfl
         rw [e2]; exact k)
  · rw [zi_lt0 (by omega) (by omega)] at c1
    refine xild_1 (q := 5) d_21_4 rfl ?_
    refine xald_0 (q := 6) d_21_5 rfl ?_
    refine xg_R_size hr hn (q := 9) d_21_6 rfl fl_R_21 ?_
    refine x_icmp_ge (q := 12) (t := 24) d_21_9 (by decide) rfl (fun c9 => ?_) (fun c9 => ?_)
    · rw [zi_le (by omega) (by omega) (by omega) (by omega)] at c9
      refine x_iconst (q := 25) (v := zi (-1)) d_21_24 rfl rfl ?_
      refine x_iret d_21_25 rfl rfl ?_
      first
        | (have e1 : rkFar L i = -1 := by unfold rkFar; rw [if_neg]; omega
           rw [e1] at k; exact k)
        | (have e1 : rkFar L i = ((L.getD i.toNat 0 / 100 : Nat) : Int) := by unfold rkFar; rw [if_pos]; omega
           rw [e1] at k
           have e2 : ((L.getD i.toNat 0 : Nat) : Int).tdiv 100 = ((L.getD i.toNat 0 / 100 : Nat) : Int) := rfl
           rw [e2]; exact k)
    · rw [zi_le (by omega) (by omega) (by omega) (by omega)] at c9
      refine xald_0 (q := 13) d_21_12 rfl ?_
      refine xg_R_keys hr hn (q := 16) d_21_13 rfl fl_R_15 ?_
      refine xild_1 (q := 17) d_21_16 rfl ?_
      refine xl_R hr (q := 18) hn d_21_17 rfl (by omega) (by omega) ?_
      have hg := hL.get (i := i) (by omega) (by omega)
      rw [hg.1]
      refine x_bipush (q := 20) (v := zi (100)) d_21_18 rfl (by decide) ?_
      refine z_idiv (q := 21) d_21_20 rfl (by omega) (by omega) (by omega) (by omega) ?_
      refine x_goto (t := 25) d_21_21 (by decide) ?_
      refine x_iret d_21_25 rfl rfl ?_
      first
        | (have e1 : rkFar L i = -1 := by unfold rkFar; rw [if_neg]; omega
           rw [e1] at k; exact k)
        | (have e1 : rkFar L i = ((L.getD i.toNat 0 / 100 : Nat) : Int) := by unfold rkFar; rw [if_pos]; omega
           rw [e1] at k
           have e2 : ((L.getD i.toNat 0 : Nat) : Int).tdiv 100 = ((L.getD i.toNat 0 / 100 : Nat) : Int) := rfl
           rw [e2]; exact k)
set_option maxHeartbeats 1000000 in
theorem c_lastIsBefore {sc : ax_S} {σ : Nat → ax_C} {I : Nat → Int} {F : Nat → Nat → Int} {n bc bs : Nat} {K : ax_K} (hn : 22 ≤ n) {r : Nat} (hr : r < 6) {L : List Nat} (hL : RK r I F L) {num far : Nat} (hk : far * 100 + num < 40000000) (k : K (some (.int (zi (rkLB L (far * 100 + num))))) (vg σ I F, n, bc, bs)) : Ex sc 17 0 (ax_en 17 [.ref (rkO r), .int (zi num), .int (zi far)]) [] (vg σ I F, n, bc, bs) K := by
  show Ex sc 17 0 [some (.ref (rkO r)), some (.int (zi num)), some (.int (zi far))] [] (vg σ I F, n, bc, bs) K
  have hI := hL.1
  have hC := hL.2.1
  have hC2 := rkC_le r
  refine xald_0 (q := 1) d_17_0 rfl ?_
  refine xg_R_size hr hn (q := 4) d_17_1 rfl fl_R_21 ?_
  refine x_if_le (q := 7) (t := 31) d_17_4 (by decide) rfl (fun c4 => ?_) (fun c4 => ?_)
  · rw [zi_le0 (by omega) (by omega)] at c4
    refine x_iconst (q := 32) (v := zi (0)) d_17_31 rfl rfl ?_
    refine x_iret d_17_32 rfl rfl ?_
    first
      | (have e1 : rkLB L (far * 100 + num) = 0 := by unfold rkLB; rw [if_neg]; omega
         rw [e1] at k; exact k)
      | (have e1 : rkLB L (far * 100 + num) = 1 := by unfold rkLB; rw [if_pos]; omega
         rw [e1] at k; exact k)
  · rw [zi_le0 (by omega) (by omega)] at c4
    refine xald_0 (q := 8) d_17_7 rfl ?_
    refine xg_R_keys hr hn (q := 11) d_17_8 rfl fl_R_15 ?_
    refine xald_0 (q := 12) d_17_11 rfl ?_
    refine xg_R_size hr hn (q := 15) d_17_12 rfl fl_R_21 ?_
    refine x_iconst (q := 16) (v := zi (1)) d_17_15 rfl rfl ?_
    refine z_isub (q := 17) d_17_16 rfl ?_
    refine xl_R hr (q := 18) hn d_17_17 rfl (by omega) (by omega) ?_
    have hg := hL.get (i := I (10 + r) - 1) (by omega) (by omega)
    rw [hg.1]
    have et : (I (10 + r) - 1).toNat = L.length - 1 := by omega
    rw [et] at hg ⊢
    refine xild_2 (q := 19) d_17_18 rfl ?_
    refine x_bipush (q := 21) (v := zi (100)) d_17_19 rfl (by decide) ?_
    refine z_imul (q := 22) d_17_21 rfl ?_
    refine xild_1 (q := 23) d_17_22 rfl ?_
    refine z_iadd (q := 24) d_17_23 rfl ?_
    refine x_icmp_ge (q := 27) (t := 31) d_17_24 (by decide) rfl (fun c24 => ?_) (fun c24 => ?_)
    · rw [zi_le (by omega) (by omega) (by omega) (by omega)] at c24
      refine x_iconst (q := 32) (v := zi (0)) d_17_31 rfl rfl ?_
      refine x_iret d_17_32 rfl rfl ?_
      first
        | (have e1 : rkLB L (far * 100 + num) = 0 := by unfold rkLB; rw [if_neg]; omega
           rw [e1] at k; exact k)
        | (have e1 : rkLB L (far * 100 + num) = 1 := by unfold rkLB; rw [if_pos]; omega
           rw [e1] at k; exact k)
    · rw [zi_le (by omega) (by omega) (by omega) (by omega)] at c24
      refine x_iconst (q := 28) (v := zi (1)) d_17_27 rfl rfl ?_
      refine x_goto (t := 32) d_17_28 (by decide) ?_
      refine x_iret d_17_32 rfl rfl ?_
      first
        | (have e1 : rkLB L (far * 100 + num) = 0 := by unfold rkLB; rw [if_neg]; omega
           rw [e1] at k; exact k)
        | (have e1 : rkLB L (far * 100 + num) = 1 := by unfold rkLB; rw [if_pos]; omega
           rw [e1] at k; exact k)
set_option maxHeartbeats 1000000 in
theorem lq_holds {sc : ax_S} {σ : Nat → ax_C} {I : Nat → Int} {F : Nat → Nat → Int} {n bc bs : Nat} {K : ax_K} (hn : 22 ≤ n) {r : Nat} (hr : r < 6) {L : List Nat} (hL : RK r I F L) {x : Nat} (hx : x < 100) (k : K (some (.int (zi (rkHas L x)))) (vg σ I F, n, bc, bs)) : ∀ (d j : Nat), j + d = L.length → (∀ i, i < j → ¬ L.getD i 0 % 100 = x) → Ex sc 49 2 [some (.ref (rkO r)), some (.int (zi x)), some (.int (zi j))] [] (vg σ I F, n, bc, bs) K := by
  have hI := hL.1
  have hC := hL.2.1
  have hC2 := rkC_le r
  intro d
  induction d with
  | zero =>
    intro j hj hno
    have e1 : rkHas L x = 0 := by
      unfold rkHas
      rw [if_neg]
      rintro ⟨y, hy, hyx⟩
      obtain ⟨i, hi, rfl⟩ := List.getElem_of_mem hy
      have := hno i (by omega)
      rw [List.getD_eq_getElem?_getD, List.getElem?_eq_getElem hi] at this
      exact this hyx
    rw [e1] at k
    refine xild_2 (q := 3) d_49_2 rfl ?_
    refine xald_0 (q := 4) d_49_3 rfl ?_
    refine xg_R_size hr hn (q := 7) d_49_4 rfl fl_R_21 ?_
    refine x_icmp_ge (q := 10) (t := 31) d_49_7 (by decide) rfl (fun c7 => ?_) (fun c7 => ?_)
    · rw [zi_le (by omega) (by omega) (by omega) (by omega)] at c7
      refine x_iconst (q := 32) (v := zi (0)) d_49_31 rfl rfl ?_
      refine x_iret d_49_32 rfl rfl ?_
      exact k
    · rw [zi_le (by omega) (by omega) (by omega) (by omega)] at c7
      exact absurd c7 (by omega)
  | succ d ih =>
    intro j hj hno
    refine xild_2 (q := 3) d_49_2 rfl ?_
    refine xald_0 (q := 4) d_49_3 rfl ?_
    refine xg_R_size hr hn (q := 7) d_49_4 rfl fl_R_21 ?_
    refine x_icmp_ge (q := 10) (t := 31) d_49_7 (by decide) rfl (fun c7 => ?_) (fun c7 => ?_)
    · rw [zi_le (by omega) (by omega) (by omega) (by omega)] at c7
      exact absurd c7 (by omega)
    · rw [zi_le (by omega) (by omega) (by omega) (by omega)] at c7
      refine xald_0 (q := 11) d_49_10 rfl ?_
      refine xg_R_keys hr hn (q := 14) d_49_11 rfl fl_R_15 ?_
      refine xild_2 (q := 15) d_49_14 rfl ?_
      refine xl_R hr (q := 16) hn d_49_15 rfl (by omega) (by omega) ?_
      have hg := hL.get (i := (j : Int)) (by omega) (by omega)
      rw [hg.1]
      have et : ((j : Int)).toNat = j := by omega
      rw [et] at hg ⊢
      refine x_bipush (q := 18) (v := zi (100)) d_49_16 rfl (by decide) ?_
      refine z_irem (q := 19) d_49_18 rfl (by omega) (by omega) (by omega) (by omega) ?_
      have e2 : ((L.getD j 0 : Nat) : Int).tmod 100 = ((L.getD j 0 % 100 : Nat) : Int) := rfl
      rw [e2]
      refine xild_1 (q := 20) d_49_19 rfl ?_
      refine x_icmp_ne (q := 23) (t := 25) d_49_20 (by decide) rfl (fun c20 => ?_) (fun c20 => ?_)
      · rw [zi_eq (by omega) (by omega) (by omega) (by omega)] at c20
        refine xincz_2 (q := 28) d_49_25 rfl ?_
        refine x_goto (t := 2) d_49_28 (by decide) ?_
        exact ih (j + 1) (by omega) (fun i hi => by rcases Nat.lt_or_ge i j with h | h; exact hno i h; rw [show i = j by omega]; omega)
      · rw [zi_eq (by omega) (by omega) (by omega) (by omega)] at c20
        have e1 : rkHas L x = 1 := by
          unfold rkHas
          rw [if_pos]
          exact ⟨L.getD j 0, gd_mem (by omega), by omega⟩
        rw [e1] at k
        refine x_iconst (q := 24) (v := zi (1)) d_49_23 rfl rfl ?_
        refine x_iret d_49_24 rfl rfl ?_
        exact k
set_option maxHeartbeats 1000000 in
theorem c_holds {sc : ax_S} {σ : Nat → ax_C} {I : Nat → Int} {F : Nat → Nat → Int} {n bc bs : Nat} {K : ax_K} (hn : 22 ≤ n) {r : Nat} (hr : r < 6) {L : List Nat} (hL : RK r I F L) {x : Nat} (hx : x < 100) (k : K (some (.int (zi (rkHas L x)))) (vg σ I F, n, bc, bs)) : Ex sc 49 0 (ax_en 49 [.ref (rkO r), .int (zi x)]) [] (vg σ I F, n, bc, bs) K := by
  show Ex sc 49 0 [some (.ref (rkO r)), some (.int (zi x)), none] [] (vg σ I F, n, bc, bs) K
  refine x_iconst (q := 1) (v := zi (0)) d_49_0 rfl rfl ?_
  refine xist_2 (q := 2) d_49_1 rfl ?_
  exact lq_holds hn hr hL hx k L.length 0 (by omega) (fun i hi => absurd hi (Nat.not_lt_zero _))
set_option maxHeartbeats 1000000 in
theorem c_cutTo {sc : ax_S} {σ : Nat → ax_C} {I : Nat → Int} {F : Nat → Nat → Int} {n bc bs : Nat} {K : ax_K} (hn : 22 ≤ n) {r : Nat} (hr : r < 6) {L : List Nat} (hL : RK r I F L) {m : Nat} (hm : m ≤ 2147483647) (k : ∀ I', RK r I' F (L.take m) → OffI r I I' → K none (vg σ I' F, n, bc, bs)) : Ex sc 19 0 (ax_en 19 [.ref (rkO r), .int (zi m)]) [] (vg σ I F, n, bc, bs) K := by
  have hI := hL.1
  have hC := hL.2.1
  have hC2 := rkC_le r
  have hlt : (L.take m).length = if m < L.length then m else L.length := by rw [List.length_take]; split <;> omega
  have k := k (va_up I (10 + r) (if 0 < (if (m : Int) < I (10 + r) then (m : Int) else I (10 + r)) then (if (m : Int) < I (10 + r) then (m : Int) else I (10 + r)) else 0)) ⟨by rw [va_us, hlt, hI]; (repeat' split) <;> omega, by rw [hlt]; split <;> omega, fun j hj => by
    have hj1 : j < L.length := by rw [hlt] at hj; split at hj <;> omega
    have hj2 : j < m := by rw [hlt] at hj; split at hj <;> omega
    rw [hL.2.2.1 j hj1, List.getD_eq_getElem?_getD, List.getD_eq_getElem?_getD, List.getElem?_take_of_lt hj2], fun x hx => hL.2.2.2 x (List.mem_of_mem_take hx)⟩ OffI.up
  show Ex sc 19 0 [some (.ref (rkO r)), some (.int (zi m))] [] (vg σ I F, n, bc, bs) K
  refine xald_0 (q := 1) d_19_0 rfl ?_
  refine x_iconst (q := 2) (v := zi (0)) d_19_1 rfl rfl ?_
  refine xald_0 (q := 3) d_19_2 rfl ?_
  refine xg_R_size hr hn (q := 6) d_19_3 rfl fl_R_21 ?_
  refine xild_1 (q := 7) d_19_6 rfl ?_
  refine z_mmin (by constructor <;> omega) (by constructor <;> (try split) <;> omega) (q := 10) d_19_7 rfl li_R_31 (by decide +kernel) (by simp [Value.category]) ?_
  refine z_mmax (by constructor <;> omega) (by constructor <;> (try split) <;> omega) (q := 13) d_19_10 rfl li_R_9 (by decide +kernel) (by simp [Value.category]) ?_
  refine xp_R_size hr hn (q := 16) d_19_13 rfl fw_R_21 ?_
  refine x_vret d_19_16 rfl ?_
  exact k
set_option maxHeartbeats 1000000 in
theorem c_moveUp {sc : ax_S} {σ : Nat → ax_C} {I : Nat → Int} {F : Nat → Nat → Int} {n bc bs : Nat} {K : ax_K} (hn : 22 ≤ n) {r : Nat} (hr : r < 6) {L : List Nat} (hL : RK r I F L) {i j : Nat} (hij : j ≤ i) (hi : i < L.length) (k : ∀ F', RK r I F' (L.set j (L.getD i 0)) → OffF r F F' → K none (vg σ I F', n, bc, bs)) : Ex sc 29 0 (ax_en 29 [.ref (rkO r), .int (zi i), .int (zi j)]) [] (vg σ I F, n, bc, bs) K := by
  have hI := hL.1
  have hC := hL.2.1
  have hC2 := rkC_le r
  have hg := hL.get (i := (i : Int)) (by omega) (by omega)
  have et : ((i : Int)).toNat = i := by omega
  rw [et] at hg
  have k := k (va_up F (10 + r) (va_up (F (10 + r)) j (L.getD i 0 : Nat))) ⟨by rw [List.length_set]; exact hI, by rw [List.length_set]; exact hC, fun x hx => by
    rw [List.length_set] at hx
    rw [va_us, gd_set hx]
    by_cases e : x = j
    · rw [e, va_us, if_pos rfl]
    · rw [va_un _ _ _ e, if_neg e, hL.2.2.1 x hx], fun x hx => by
    rcases List.mem_or_eq_of_mem_set hx with hx | hx
    · exact hL.2.2.2 x hx
    · rw [hx]; exact hg.2⟩ OffF.up
  show Ex sc 29 0 [some (.ref (rkO r)), some (.int (zi i)), some (.int (zi j))] [] (vg σ I F, n, bc, bs) K
  refine xild_2 (q := 1) d_29_0 rfl ?_
  refine x_if_lt (q := 4) (t := 29) d_29_1 (by decide) rfl (fun c1 => ?_) (fun c1 => ?_)
  · rw [zi_lt0 (by omega) (by omega)] at c1
    first | exact absurd c1 (by omega) | exact absurd c6 (by omega) | exact absurd c14 (by omega) | (refine x_vret d_29_29 rfl ?_; rw [show ((j : Int)).toNat = j by omega]; exact k)
  · rw [zi_lt0 (by omega) (by omega)] at c1
    refine xild_2 (q := 5) d_29_4 rfl ?_
    refine xild_1 (q := 6) d_29_5 rfl ?_
    refine x_icmp_gt (q := 9) (t := 29) d_29_6 (by decide) rfl (fun c6 => ?_) (fun c6 => ?_)
    · rw [zi_lt (by omega) (by omega) (by omega) (by omega)] at c6
      first | exact absurd c1 (by omega) | exact absurd c6 (by omega) | exact absurd c14 (by omega) | (refine x_vret d_29_29 rfl ?_; rw [show ((j : Int)).toNat = j by omega]; exact k)
    · rw [zi_lt (by omega) (by omega) (by omega) (by omega)] at c6
      refine xild_1 (q := 10) d_29_9 rfl ?_
      refine xald_0 (q := 11) d_29_10 rfl ?_
      refine xg_R_size hr hn (q := 14) d_29_11 rfl fl_R_21 ?_
      refine x_icmp_ge (q := 17) (t := 29) d_29_14 (by decide) rfl (fun c14 => ?_) (fun c14 => ?_)
      · rw [zi_le (by omega) (by omega) (by omega) (by omega)] at c14
        first | exact absurd c1 (by omega) | exact absurd c6 (by omega) | exact absurd c14 (by omega) | (refine x_vret d_29_29 rfl ?_; rw [show ((j : Int)).toNat = j by omega]; exact k)
      · rw [zi_le (by omega) (by omega) (by omega) (by omega)] at c14
        refine xald_0 (q := 18) d_29_17 rfl ?_
        refine xg_R_keys hr hn (q := 21) d_29_18 rfl fl_R_15 ?_
        refine xild_2 (q := 22) d_29_21 rfl ?_
        refine xald_0 (q := 23) d_29_22 rfl ?_
        refine xg_R_keys hr hn (q := 26) d_29_23 rfl fl_R_15 ?_
        refine xild_1 (q := 27) d_29_26 rfl ?_
        refine xl_R hr (q := 28) hn d_29_27 rfl (by omega) (by omega) ?_
        rw [et, hg.1]
        refine xs_R hr (q := 29) hn d_29_28 rfl (by omega) (by omega) ?_
        first | exact absurd c1 (by omega) | exact absurd c6 (by omega) | exact absurd c14 (by omega) | (refine x_vret d_29_29 rfl ?_; rw [show ((j : Int)).toNat = j by omega]; exact k)
set_option maxHeartbeats 1000000 in
theorem lq_put {sc : ax_S} {σ : Nat → ax_C} {I : Nat → Int} {F0 : Nat → Nat → Int} {n bc bs : Nat} {K : ax_K} (hn : 22 ≤ n) {r : Nat} (hr : r < 6) {L : List Nat} (hI : I (10 + r) = L.length) (hC : L.length < rkC r) (hbd : ∀ x ∈ L, x < 40000000) {num far : Nat} (hk : far * 100 + num < 40000000) (hs : Srt L) (k : ∀ I' F', RK r I' F' (ins (far * 100 + num) L) → OffI r I I' → OffF r F0 F' → K none (vg σ I' F', n, bc, bs)) :
    ∀ (p : Nat) (F : Nat → Nat → Int), OffF r F0 F → p ≤ L.length → (∀ j, j < p → F (10 + r) j = (L.getD j 0 : Nat)) → (∀ j, p ≤ j → j < L.length → F (10 + r) (j + 1) = (L.getD j 0 : Nat)) → (∀ j, p ≤ j → j < L.length → far * 100 + num < L.getD j 0) → Ex sc 18 26 [some (.ref (rkO r)), some (.int (zi num)), some (.int (zi far)), some (.int (zi (far * 100 + num))), some (.int (zi p))] [] (vg σ I F, n, bc, bs) K := by
  have hC2 := rkC_le r
  have fin : ∀ (p : Nat) (F : Nat → Nat → Int), OffF r F0 F → p ≤ L.length → (∀ j, j < p → F (10 + r) j = (L.getD j 0 : Nat)) → (∀ j, p ≤ j → j < L.length → F (10 + r) (j + 1) = (L.getD j 0 : Nat)) → (∀ j, p ≤ j → j < L.length → far * 100 + num < L.getD j 0) → (∀ j, j < p → L.getD j 0 ≤ far * 100 + num) → Ex sc 18 66 [some (.ref (rkO r)), some (.int (zi num)), some (.int (zi far)), some (.int (zi (far * 100 + num))), some (.int (zi p))] [] (vg σ I F, n, bc, bs) K := by
    intro p F hF hp h1 h2 h3 h4
    have e0 := ins_at hp h4 h3
    have k := k (va_up I (10 + r) (I (10 + r) + 1)) (va_up F (10 + r) (va_up (F (10 + r)) p ((far * 100 + num : Nat) : Int))) ⟨by rw [va_us, ins_len, hI]; omega, by rw [ins_len]; omega, fun j hj => by
      rw [ins_len] at hj
      rw [va_us, e0, gd_ins hp]
      by_cases c1 : j < p
      · rw [if_pos c1, va_un _ _ _ (by omega), h1 j c1]
      · rw [if_neg c1]
        by_cases c2 : j = p
        · rw [if_pos c2, c2, va_us]
        · rw [if_neg c2, va_un _ _ _ c2]
          have := h2 (j - 1) (by omega) (by omega)
          rw [show j - 1 + 1 = j by omega] at this
          exact this, fun x hx => by
      rcases ins_mem.mp hx with rfl | hx
      · exact hk
      · exact hbd x hx⟩ OffI.up (fun j hj => by rw [va_un _ _ _ hj]; exact hF j hj)
    refine xald_0 (q := 67) d_18_66 rfl ?_
    refine xg_R_keys hr hn (q := 70) d_18_67 rfl fl_R_15 ?_
    refine xild_4 (q := 72) d_18_70 rfl ?_
    refine xild_3 (q := 73) d_18_72 rfl ?_
    refine xs_R hr (q := 74) hn d_18_73 rfl (by omega) (by omega) ?_
    refine xald_0 (q := 75) d_18_74 rfl ?_
    refine x_dup (q := 76) d_18_75 rfl rfl ?_
    refine xg_R_size hr hn (q := 79) d_18_76 rfl fl_R_21 ?_
    refine x_iconst (q := 80) (v := zi (1)) d_18_79 rfl rfl ?_
    refine z_iadd (q := 81) d_18_80 rfl ?_
    refine xp_R_size hr hn (q := 84) d_18_81 rfl fw_R_21 ?_
    refine x_vret d_18_84 rfl ?_
    rw [show ((p : Int)).toNat = p by omega]
    exact k
  intro p
  induction p with
  | zero =>
    intro F hF hp h1 h2 h3
    refine xild_4 (q := 28) d_18_26 rfl ?_
    refine x_if_le (q := 31) (t := 66) d_18_28 (by decide) rfl (fun c28 => ?_) (fun c28 => ?_)
    · rw [zi_le0 (by omega) (by omega)] at c28
      exact fin 0 F hF hp h1 h2 h3 (fun j hj => absurd hj (Nat.not_lt_zero _))
    · rw [zi_le0 (by omega) (by omega)] at c28
      exact absurd c28 (by omega)
  | succ p ih =>
    intro F hF hp h1 h2 h3
    have hg : F (10 + r) p = (L.getD p 0 : Nat) := h1 p (by omega)
    have hg2 : L.getD p 0 < 40000000 := hbd _ (gd_mem (by omega))
    have et : (((p + 1 : Nat) : Int) - 1).toNat = p := by omega
    have et2 : (((p + 1 : Nat) : Int)).toNat = p + 1 := by omega
    refine xild_4 (q := 28) d_18_26 rfl ?_
    refine x_if_le (q := 31) (t := 66) d_18_28 (by decide) rfl (fun c28 => ?_) (fun c28 => ?_)
    · rw [zi_le0 (by omega) (by omega)] at c28
      first
        | exact absurd c28 (by omega)
        | exact fin (p + 1) F hF hp h1 h2 h3 (fun j hj => Nat.le_trans (srt_get hs (show j ≤ p by omega) (by omega)) (by omega))
    · rw [zi_le0 (by omega) (by omega)] at c28
      refine xald_0 (q := 32) d_18_31 rfl ?_
      refine xg_R_keys hr hn (q := 35) d_18_32 rfl fl_R_15 ?_
      refine xild_4 (q := 37) d_18_35 rfl ?_
      refine x_iconst (q := 38) (v := zi (1)) d_18_37 rfl rfl ?_
      refine z_isub (q := 39) d_18_38 rfl ?_
      refine xl_R hr (q := 40) hn d_18_39 rfl (by omega) (by omega) ?_
      rw [et, hg]
      refine xild_3 (q := 41) d_18_40 rfl ?_
      refine x_icmp_le (q := 44) (t := 66) d_18_41 (by decide) rfl (fun c41 => ?_) (fun c41 => ?_)
      · rw [zi_le (by omega) (by omega) (by omega) (by omega)] at c41
        first
          | exact absurd c28 (by omega)
          | exact fin (p + 1) F hF hp h1 h2 h3 (fun j hj => Nat.le_trans (srt_get hs (show j ≤ p by omega) (by omega)) (by omega))
      · rw [zi_le (by omega) (by omega) (by omega) (by omega)] at c41
        refine xald_0 (q := 45) d_18_44 rfl ?_
        refine xg_R_keys hr hn (q := 48) d_18_45 rfl fl_R_15 ?_
        refine xild_4 (q := 50) d_18_48 rfl ?_
        refine xald_0 (q := 51) d_18_50 rfl ?_
        refine xg_R_keys hr hn (q := 54) d_18_51 rfl fl_R_15 ?_
        refine xild_4 (q := 56) d_18_54 rfl ?_
        refine x_iconst (q := 57) (v := zi (1)) d_18_56 rfl rfl ?_
        refine z_isub (q := 58) d_18_57 rfl ?_
        refine xl_R hr (q := 59) hn d_18_58 rfl (by omega) (by omega) ?_
        rw [et, hg]
        refine xs_R hr (q := 60) hn d_18_59 rfl (by omega) (by omega) ?_
        rw [et2]
        refine xincz_4 (q := 63) d_18_60 rfl ?_
        refine x_goto (t := 26) d_18_63 (by decide) ?_
        rw [show ((p + 1 : Nat) : Int) + -1 = (p : Nat) by omega]
        refine ih _ (fun j hj => by rw [va_un _ _ _ hj]; exact hF j hj) (by omega) (fun j hj => ?_) (fun j hj hl => ?_) (fun j hj hl => ?_)
        · rw [va_us, va_un _ _ _ (by omega)]; exact h1 j (by omega)
        · rw [va_us]
          by_cases e : j = p
          · rw [e, va_us]
          · rw [va_un _ _ _ (by omega)]; exact h2 j (by omega) hl
        · by_cases e : j = p
          · rw [e]; omega
          · exact h3 j (by omega) hl
set_option maxHeartbeats 1000000 in
theorem c_put {sc : ax_S} {σ : Nat → ax_C} {I : Nat → Int} {F : Nat → Nat → Int} {n bc bs : Nat} {K : ax_K} (hn : 22 ≤ n) {r : Nat} (hr : r < 6) {L : List Nat} (hL : RK r I F L) (hC : L.length < rkC r) {num far : Nat} (hk : far * 100 + num < 40000000) (hs : Srt L) (k : ∀ I' F', RK r I' F' (ins (far * 100 + num) L) → OffI r I I' → OffF r F F' → K none (vg σ I' F', n, bc, bs)) : Ex sc 18 0 (ax_en 18 [.ref (rkO r), .int (zi num), .int (zi far)]) [] (vg σ I F, n, bc, bs) K := by
  have hI := hL.1
  have hC2 := rkC_le r
  show Ex sc 18 0 [some (.ref (rkO r)), some (.int (zi num)), some (.int (zi far)), none, none] [] (vg σ I F, n, bc, bs) K
  refine xald_0 (q := 1) d_18_0 rfl ?_
  refine xg_R_size hr hn (q := 4) d_18_1 rfl fl_R_21 ?_
  refine xald_0 (q := 5) d_18_4 rfl ?_
  refine xg_R_keys hr hn (q := 8) d_18_5 rfl fl_R_15 ?_
  refine xn_R hr (q := 9) hn d_18_8 rfl ?_
  refine x_icmp_lt (q := 12) (t := 13) d_18_9 (by decide) rfl (fun c9 => ?_) (fun c9 => ?_)
  · rw [zi_lt (by omega) (by omega) (by omega) (by omega)] at c9
    refine xild_2 (q := 14) d_18_13 rfl ?_
    refine x_bipush (q := 16) (v := zi (100)) d_18_14 rfl (by decide) ?_
    refine z_imul (q := 17) d_18_16 rfl ?_
    refine xild_1 (q := 18) d_18_17 rfl ?_
    refine z_iadd (q := 19) d_18_18 rfl ?_
    refine xist_3 (q := 20) d_18_19 rfl ?_
    refine xald_0 (q := 21) d_18_20 rfl ?_
    refine xg_R_size hr hn (q := 24) d_18_21 rfl fl_R_21 ?_
    refine xist_4 (q := 26) d_18_24 rfl ?_
    rw [hI]
    exact lq_put hn hr hI hC hL.2.2.2 hk hs k L.length F OffF.rf (Nat.le_refl _) (fun j hj => hL.2.2.1 j hj) (fun j h1 h2 => absurd h2 (by omega)) (fun j h1 h2 => absurd h2 (by omega))
  · rw [zi_lt (by omega) (by omega) (by omega) (by omega)] at c9
    exact absurd c9 (by omega)
set_option maxHeartbeats 1000000 in
theorem c_dropFirst {sc : ax_S} {σ : Nat → ax_C} {I : Nat → Int} {F : Nat → Nat → Int} {n bc bs : Nat} {K : ax_K} (hn : 22 ≤ n) {r : Nat} (hr : r < 6) {L : List Nat} (hL : RK r I F L) (h0 : 0 < L.length) (k : ∀ I' F', RK r I' F' L.tail → OffI r I I' → OffF r F F' → K none (vg σ I' F', n, bc, bs)) : Ex sc 22 0 (ax_en 22 [.ref (rkO r)]) [] (vg σ I F, n, bc, bs) K := by
  have hI := hL.1
  have hC := hL.2.1
  have hC2 := rkC_le r
  have k := k (va_up I (10 + r) (I (10 + r) - 1)) (va_up F (10 + r) (va_cpy (F (10 + r)) (F (10 + r)) 1 0 (L.length - 1))) ⟨by rw [va_us, List.length_tail, hI]; omega, by rw [List.length_tail]; omega, fun j hj => by
    rw [List.length_tail] at hj
    rw [va_us, gd_tail, pk_cpy_in (Nat.zero_le _) (by omega), show 1 + (j - 0) = j + 1 by omega]
    exact hL.2.2.1 (j + 1) (by omega), fun x hx => hL.2.2.2 x (List.mem_of_mem_tail hx)⟩ OffI.up OffF.up
  show Ex sc 22 0 [some (.ref (rkO r))] [] (vg σ I F, n, bc, bs) K
  refine xald_0 (q := 1) d_22_0 rfl ?_
  refine xg_R_size hr hn (q := 4) d_22_1 rfl fl_R_21 ?_
  refine x_if_le (q := 7) (t := 34) d_22_4 (by decide) rfl (fun c4 => ?_) (fun c4 => ?_)
  · rw [zi_le0 (by omega) (by omega)] at c4
    first | exact absurd c4 (by omega) | (refine x_vret d_22_34 rfl ?_; rw [va_us, show (I (10 + r) - 1).toNat = L.length - 1 by omega]; exact k)
  · rw [zi_le0 (by omega) (by omega)] at c4
    refine xald_0 (q := 8) d_22_7 rfl ?_
    refine x_dup (q := 9) d_22_8 rfl rfl ?_
    refine xg_R_size hr hn (q := 12) d_22_9 rfl fl_R_21 ?_
    refine x_iconst (q := 13) (v := zi (1)) d_22_12 rfl rfl ?_
    refine z_isub (q := 14) d_22_13 rfl ?_
    refine xp_R_size hr hn (q := 17) d_22_14 rfl fw_R_21 ?_
    refine xald_0 (q := 18) d_22_17 rfl ?_
    refine xg_R_keys hr hn (q := 21) d_22_18 rfl fl_R_15 ?_
    refine x_iconst (q := 22) (v := zi (1)) d_22_21 rfl rfl ?_
    refine xald_0 (q := 23) d_22_22 rfl ?_
    refine xg_R_keys hr hn (q := 26) d_22_23 rfl fl_R_15 ?_
    refine x_iconst (q := 27) (v := zi (0)) d_22_26 rfl rfl ?_
    refine xald_0 (q := 28) d_22_27 rfl ?_
    refine xg_R_size hr hn (q := 31) d_22_28 rfl fl_R_21 ?_
    refine z_cpyR hr hn (q := 34) d_22_31 rfl li_R_25 (by decide +kernel) (by simp [Value.category]) (by omega) (by omega) (by rw [va_us]; omega) (by rw [va_us]; omega) (by rw [va_us]; omega) ?_
    first | exact absurd c4 (by omega) | (refine x_vret d_22_34 rfl ?_; rw [va_us, show (I (10 + r) - 1).toNat = L.length - 1 by omega]; exact k)
end
section
/-! FAR, in whole numbers -/
def shI (v q : Int) : Int := (v * q).tdiv 100
def tmI (m : Nat) (x y : Int) : Int := if m = 0 then (x - y) * (x - y) else if m = 1 then x * y else if x - y < 0 then -(x - y) else x - y
def smI (m : Nat) (q : Int) (f g : Nat → Int) : Nat → Int
  | 0 => 0
  | k + 1 => smI m q f g k + tmI m (shI (f k) q) (shI (g k) q)
def farI (m P : Nat) (q : Int) (f g : Nat → Int) : Int := if m = 1 then 100 * q * P - smI m q f g P else smI m q f g P
theorem mul_b {x y a b : Int} (h1 : -a ≤ x ∧ x ≤ a) (h2 : -b ≤ y ∧ y ≤ b) : -(a * b) ≤ x * y ∧ x * y ≤ a * b := by
  have ha : 0 ≤ a := by omega
  have hb : 0 ≤ b := by omega
  have h3 : (x * y).natAbs ≤ (a * b).natAbs := by
    rw [Int.natAbs_mul, Int.natAbs_mul]
    exact Nat.mul_le_mul (by omega) (by omega)
  have h4 : 0 ≤ a * b := Int.mul_nonneg ha hb
  omega
theorem sh_b {v : Int} {q : Nat} (h : -100 ≤ v ∧ v ≤ 100) : -(q : Int) ≤ shI v q ∧ shI v q ≤ q := by
  have h1 := mul_b (y := (q : Int)) (a := 100) (b := (q : Int)) h ⟨by omega, by omega⟩
  have h2 : (shI v q).natAbs = (v * q).natAbs / 100 := by
    unfold shI
    rw [Int.natAbs_tdiv]
    rfl
  omega
theorem sq_nn (x : Int) : 0 ≤ x * x := by
  rcases Int.le_total 0 x with h | h
  · exact Int.mul_nonneg h h
  · have := Int.mul_nonneg (Int.neg_nonneg_of_nonpos h) (Int.neg_nonneg_of_nonpos h)
    rwa [Int.neg_mul_neg] at this
theorem tm_b {m : Nat} {x y : Int} {q : Nat} (hq : q ≤ 100) (hx : -(q : Int) ≤ x ∧ x ≤ q) (hy : -(q : Int) ≤ y ∧ y ≤ q) : (m ≠ 1 → 0 ≤ tmI m x y) ∧ (m = 1 → tmI m x y ≤ 100 * q) ∧ -10000 ≤ tmI m x y ∧ tmI m x y ≤ 40000 := by
  have h1 := mul_b hx hy
  have h2 := mul_b (x := x - y) (y := x - y) (a := 200) (b := 200) ⟨by omega, by omega⟩ ⟨by omega, by omega⟩
  have h3 := sq_nn (x - y)
  have h4 : (q : Int) * q ≤ 100 * q := Int.mul_le_mul_of_nonneg_right (by omega) (by omega)
  unfold tmI
  split
  · refine ⟨fun _ => h3, fun h => by omega, by omega, by omega⟩
  · split
    · refine ⟨fun h => absurd (by assumption) h, fun _ => by omega, by omega, by omega⟩
    · split
      · refine ⟨fun _ => by omega, fun h => absurd h (by assumption), by omega, by omega⟩
      · refine ⟨fun _ => by omega, fun h => absurd h (by assumption), by omega, by omega⟩
theorem sm_b {m : Nat} {q : Nat} {f g : Nat → Int} (hq : q ≤ 100) (P : Nat) (hf : ∀ k, k < P → -100 ≤ f k ∧ f k ≤ 100) (hg : ∀ k, k < P → -100 ≤ g k ∧ g k ≤ 100) : (m ≠ 1 → 0 ≤ smI m q f g P) ∧ (m = 1 → smI m q f g P ≤ 100 * q * P) ∧ -(10000 * (P : Int)) ≤ smI m q f g P ∧ smI m q f g P ≤ 40000 * P := by
  induction P with
  | zero => refine ⟨fun _ => Int.le_refl _, fun _ => by simp [smI], by simp [smI], by simp [smI]⟩
  | succ P ih =>
    obtain ⟨a1, a2, a3, a4⟩ := ih (fun k hk => hf k (by omega)) (fun k hk => hg k (by omega))
    obtain ⟨b1, b2, b3, b4⟩ := tm_b (m := m) hq (sh_b (hf P (by omega))) (sh_b (hg P (by omega)))
    have e : smI m q f g (P + 1) = smI m q f g P + tmI m (shI (f P) q) (shI (g P) q) := rfl
    have e2 : 100 * (q : Int) * ((P + 1 : Nat) : Int) = 100 * q * P + 100 * q := by
      rw [Int.natCast_add, Int.mul_add]
      simp
    rw [e, e2]
    refine ⟨fun h => ?_, fun h => ?_, ?_, ?_⟩
    · have := a1 h
      have := b1 h
      omega
    · have := a2 h
      have := b2 h
      omega
    · omega
    · omega
theorem far_b {m : Nat} {q P : Nat} {f g : Nat → Int} (hq : q ≤ 100) (hP : P ≤ 8) (hf : ∀ k, k < P → -100 ≤ f k ∧ f k ≤ 100) (hg : ∀ k, k < P → -100 ≤ g k ∧ g k ≤ 100) : 0 ≤ farI m P q f g ∧ farI m P q f g ≤ 320000 := by
  obtain ⟨a1, a2, a3, a4⟩ := sm_b (m := m) hq P hf hg
  have h1 : 100 * (q : Int) * P ≤ 100 * 100 * 8 := by
    have := mul_b (x := 100 * (q : Int)) (y := (P : Int)) (a := 10000) (b := 8) ⟨by omega, by omega⟩ ⟨by omega, by omega⟩
    omega
  unfold farI
  split
  next h =>
    have := a2 h
    omega
  next h =>
    have := a1 h
    omega
theorem tm_sym (m : Nat) (x y : Int) : tmI m x y = tmI m y x := by
  unfold tmI
  split
  · rw [← Int.neg_mul_neg]
    congr 1 <;> omega
  · split
    · exact Int.mul_comm x y
    · split <;> split <;> omega
theorem sm_sym (m : Nat) (q : Int) (f g : Nat → Int) : ∀ P, smI m q f g P = smI m q g f P
  | 0 => rfl
  | P + 1 => by
    show smI m q f g P + tmI m (shI (f P) q) (shI (g P) q) = smI m q g f P + tmI m (shI (g P) q) (shI (f P) q)
    rw [sm_sym m q f g P, tm_sym]
theorem far_sym (m P : Nat) (q : Int) (f g : Nat → Int) : farI m P q f g = farI m P q g f := by
  unfold farI
  rw [sm_sym]
end
section
/-! Vectors: its methods -/
/-- the vectors: P parts, N of them, measure M -/
def VW (I : Nat → Int) (F : Nat → Nat → Int) (P N M : Nat) : Prop := I 7 = P ∧ 1 ≤ P ∧ P ≤ 8 ∧ I 0 = N ∧ N ≤ 100 ∧ I 1 = M ∧ M ≤ 2 ∧ (∀ j, j < 101 * P → -100 ≤ F 2 j ∧ F 2 j ≤ 100) ∧ (∀ j, j < 100 → F 0 j = 0 ∨ F 0 j = 1) ∧ (∀ j, j < 100 → F 1 j = 0 ∨ F 1 j = 1)
/-- vector i's parts -/
def vec (F : Nat → Nat → Int) (P i : Nat) : Nat → Int := fun k => F 2 (i * P + k)
theorem VW.in {I : Nat → Int} {F : Nat → Nat → Int} {P N M : Nat} (h : VW I F P N M) {i : Nat} (hi : i ≤ 100) : ∀ k, k < P → -100 ≤ vec F P i k ∧ vec F P i k ≤ 100 := by
  intro k hk
  refine h.2.2.2.2.2.2.2.1 _ ?_
  have := Nat.mul_le_mul_right P hi
  omega
def farV (F : Nat → Nat → Int) (P M : Nat) (q a b : Nat) : Int := farI M P q (vec F P a) (vec F P b)
theorem VW.far {I : Nat → Int} {F : Nat → Nat → Int} {P N M : Nat} (h : VW I F P N M) {q a b : Nat} (hq : q ≤ 100) (ha : a ≤ 100) (hb : b ≤ 100) : 0 ≤ farV F P M q a b ∧ farV F P M q a b ≤ 320000 := far_b hq h.2.2.1 (h.in ha) (h.in hb)
def hasI (N : Nat) (i : Int) : Int := if 0 ≤ i ∧ i < N then 1 else 0

set_option maxHeartbeats 1000000 in
theorem c_has {sc : ax_S} {σ : Nat → ax_C} {I : Nat → Int} {F : Nat → Nat → Int} {n bc bs : Nat} {K : ax_K} (hn : 22 ≤ n) {P N M : Nat} (hV : VW I F P N M) {i : Int} (hi : -2147483648 ≤ i ∧ i ≤ 2147483647) (k : K (some (.int (zi (hasI N i)))) (vg σ I F, n, bc, bs)) : Ex sc 33 0 (ax_en 33 [.ref 1, .int (zi i)]) [] (vg σ I F, n, bc, bs) K := by
  obtain ⟨hP, hP1, hP2, hN, hN2, hM, hM2, hv, hrm, hbr⟩ := id hV
  show Ex sc 33 0 [some (.ref 1), some (.int (zi i))] [] (vg σ I F, n, bc, bs) K
  refine xild_1 (q := 1) d_33_0 rfl ?_
  refine x_if_lt (q := 4) (t := 16) d_33_1 (by decide) rfl (fun c1 => ?_) (fun c1 => ?_)
  · rw [zi_lt0 (by omega) (by omega)] at c1
    refine x_iconst (q := 17) (v := zi (0)) d_33_16 rfl rfl ?_
    refine x_iret d_33_17 rfl rfl ?_
    first
      | (have e1 : hasI N i = 1 := (by unfold hasI; rw [if_pos]; omega); rw [e1] at k; exact k)
      | (have e1 : hasI N i = 0 := (by unfold hasI; rw [if_neg]; omega); rw [e1] at k; exact k)
  · rw [zi_lt0 (by omega) (by omega)] at c1
    refine xild_1 (q := 5) d_33_4 rfl ?_
    refine xald_0 (q := 6) d_33_5 rfl ?_
    refine xg_V_total hn (q := 9) d_33_6 rfl fl_V_26 ?_
    refine x_icmp_ge (q := 12) (t := 16) d_33_9 (by decide) rfl (fun c9 => ?_) (fun c9 => ?_)
    · rw [zi_le (by omega) (by omega) (by omega) (by omega)] at c9
      refine x_iconst (q := 17) (v := zi (0)) d_33_16 rfl rfl ?_
      refine x_iret d_33_17 rfl rfl ?_
      first
        | (have e1 : hasI N i = 1 := (by unfold hasI; rw [if_pos]; omega); rw [e1] at k; exact k)
        | (have e1 : hasI N i = 0 := (by unfold hasI; rw [if_neg]; omega); rw [e1] at k; exact k)
    · rw [zi_le (by omega) (by omega) (by omega) (by omega)] at c9
      refine x_iconst (q := 13) (v := zi (1)) d_33_12 rfl rfl ?_
      refine x_goto (t := 17) d_33_13 (by decide) ?_
      refine x_iret d_33_17 rfl rfl ?_
      first
        | (have e1 : hasI N i = 1 := (by unfold hasI; rw [if_pos]; omega); rw [e1] at k; exact k)
        | (have e1 : hasI N i = 0 := (by unfold hasI; rw [if_neg]; omega); rw [e1] at k; exact k)
def freeI (F : Nat → Nat → Int) (N : Nat) (i : Int) : Int := if 0 ≤ i ∧ i < N ∧ F 0 i.toNat = 0 ∧ F 1 i.toNat = 0 then 1 else 0
set_option maxHeartbeats 1000000 in
theorem c_isFree {sc : ax_S} {σ : Nat → ax_C} {I : Nat → Int} {F : Nat → Nat → Int} {n bc bs : Nat} {K : ax_K} (hn : 22 ≤ n) {P N M : Nat} (hV : VW I F P N M) {i : Int} (hi : -2147483648 ≤ i ∧ i ≤ 2147483647) (k : K (some (.int (zi (freeI F N i)))) (vg σ I F, n, bc, bs)) : Ex sc 42 0 (ax_en 42 [.ref 1, .int (zi i)]) [] (vg σ I F, n, bc, bs) K := by
  obtain ⟨hP, hP1, hP2, hN, hN2, hM, hM2, hv, hrm, hbr⟩ := id hV
  show Ex sc 42 0 [some (.ref 1), some (.int (zi i))] [] (vg σ I F, n, bc, bs) K
  refine xald_0 (q := 1) d_42_0 rfl ?_
  refine xild_1 (q := 2) d_42_1 rfl ?_
  refine xcV1 (q := 5) d_42_2 rfl lk_V_32 mo_33 ⟨by decide +kernel, by decide +kernel⟩ (by simp [Value.category]) (by decide +kernel) (by simp [Value.category]) (by omega) rfl ?_
  refine c_has hn hV hi ?_
  dsimp only [ax_ps]
  have hh : hasI N i = 0 ∨ hasI N i = 1 := by unfold hasI; split <;> omega
  have hh2 : hasI N i = 1 → 0 ≤ i ∧ i < N := by unfold hasI; split <;> omega
  have hh3 : ¬ hasI N i = 1 → ¬ (0 ≤ i ∧ i < N) := by unfold hasI; split <;> omega
  refine x_if_eq (q := 8) (t := 30) d_42_5 (by decide) rfl (fun c5 => ?_) (fun c5 => ?_)
  · rw [zi_eq0 (by omega) (by omega)] at c5
    refine x_iconst (q := 31) (v := zi (0)) d_42_30 rfl rfl ?_
    refine x_iret d_42_31 rfl rfl ?_
    first
      | (have e1 : freeI F N i = 1 := (by unfold freeI; rw [if_pos]; omega); rw [e1] at k; exact k)
      | (have e1 : freeI F N i = 0 := (by unfold freeI; rw [if_neg]; omega); rw [e1] at k; exact k)
      | (have hh5 := hh3 (by omega); have e1 : freeI F N i = 0 := (by unfold freeI; rw [if_neg]; omega); rw [e1] at k; exact k)
  · rw [zi_eq0 (by omega) (by omega)] at c5
    have hh4 := hh2 (by omega)
    have hr0 := hrm i.toNat (by omega)
    have hb0 := hbr i.toNat (by omega)
    refine xald_0 (q := 9) d_42_8 rfl ?_
    refine xg_V_removed hn (q := 12) d_42_9 rfl fl_V_15 ?_
    refine xild_1 (q := 13) d_42_12 rfl ?_
    refine xl_removed (q := 14) hn d_42_13 rfl (by omega) (by omega) ?_
    refine x_if_ne (q := 17) (t := 30) d_42_14 (by decide) rfl (fun c14 => ?_) (fun c14 => ?_)
    · rw [zi_eq0 (by omega) (by omega)] at c14
      refine x_iconst (q := 31) (v := zi (0)) d_42_30 rfl rfl ?_
      refine x_iret d_42_31 rfl rfl ?_
      first
        | (have e1 : freeI F N i = 1 := (by unfold freeI; rw [if_pos]; omega); rw [e1] at k; exact k)
        | (have e1 : freeI F N i = 0 := (by unfold freeI; rw [if_neg]; omega); rw [e1] at k; exact k)
        | (have hh5 := hh3 (by omega); have e1 : freeI F N i = 0 := (by unfold freeI; rw [if_neg]; omega); rw [e1] at k; exact k)
    · rw [zi_eq0 (by omega) (by omega)] at c14
      refine xald_0 (q := 18) d_42_17 rfl ?_
      refine xg_V_barred hn (q := 21) d_42_18 rfl fl_V_19 ?_
      refine xild_1 (q := 22) d_42_21 rfl ?_
      refine xl_barred (q := 23) hn d_42_22 rfl (by omega) (by omega) ?_
      refine x_if_ne (q := 26) (t := 30) d_42_23 (by decide) rfl (fun c23 => ?_) (fun c23 => ?_)
      · rw [zi_eq0 (by omega) (by omega)] at c23
        refine x_iconst (q := 31) (v := zi (0)) d_42_30 rfl rfl ?_
        refine x_iret d_42_31 rfl rfl ?_
        first
          | (have e1 : freeI F N i = 1 := (by unfold freeI; rw [if_pos]; omega); rw [e1] at k; exact k)
          | (have e1 : freeI F N i = 0 := (by unfold freeI; rw [if_neg]; omega); rw [e1] at k; exact k)
          | (have hh5 := hh3 (by omega); have e1 : freeI F N i = 0 := (by unfold freeI; rw [if_neg]; omega); rw [e1] at k; exact k)
      · rw [zi_eq0 (by omega) (by omega)] at c23
        refine x_iconst (q := 27) (v := zi (1)) d_42_26 rfl rfl ?_
        refine x_goto (t := 31) d_42_27 (by decide) ?_
        refine x_iret d_42_31 rfl rfl ?_
        first
          | (have e1 : freeI F N i = 1 := (by unfold freeI; rw [if_pos]; omega); rw [e1] at k; exact k)
          | (have e1 : freeI F N i = 0 := (by unfold freeI; rw [if_neg]; omega); rw [e1] at k; exact k)
          | (have hh5 := hh3 (by omega); have e1 : freeI F N i = 0 := (by unfold freeI; rw [if_neg]; omega); rw [e1] at k; exact k)
set_option maxHeartbeats 1000000 in
theorem lq_apart {sc : ax_S} {σ : Nat → ax_C} {I : Nat → Int} {F : Nat → Nat → Int} {n bc bs : Nat} {K : ax_K} (hn : 22 ≤ n) {P N M : Nat} (hV : VW I F P N M) {a b q : Nat} (ha : a ≤ 100) (hb : b ≤ 100) (hq : 1 ≤ q ∧ q ≤ 100) (k : K (some (.int (zi (farV F P M q a b)))) (vg σ I F, n, bc, bs)) : ∀ (d j : Nat) (t6 t7 t8 : Option Value), j + d = P → Ex sc 16 6 [some (.ref 1), some (.int (zi a)), some (.int (zi b)), some (.int (zi q)), some (.int (zi (smI M q (vec F P a) (vec F P b) j))), some (.int (zi j)), t6, t7, t8] [] (vg σ I F, n, bc, bs) K := by
  obtain ⟨hP, hP1, hP2, hN, hN2, hM, hM2, hv, hrm, hbr⟩ := id hV
  have hpt : (I 7).toNat ≤ 8 := by omega
  have hma := Nat.mul_le_mul_right P ha
  have hmb := Nat.mul_le_mul_right P hb
  intro d
  induction d with
  | zero =>
    intro j t6 t7 t8 hj
    obtain ⟨s1, s2, s3, s4⟩ := sm_b (m := M) hq.2 P (hV.in ha) (hV.in hb)
    have hjP : j = P := by omega
    subst hjP
    refine xild_5 (q := 8) d_16_6 rfl ?_
    refine xald_0 (q := 9) d_16_8 rfl ?_
    refine xg_V_parts hn (q := 12) d_16_9 rfl fl_V_9 ?_
    refine x_icmp_ge (q := 15) (t := 129) d_16_12 (by decide) rfl (fun c12 => ?_) (fun c12 => ?_)
    · rw [zi_le (by omega) (by omega) (by omega) (by omega)] at c12
      refine xald_0 (q := 130) d_16_129 rfl ?_
      refine xg_V_measure hn (q := 133) d_16_130 rfl fl_V_29 ?_
      refine x_iconst (q := 134) (v := zi (1)) d_16_133 rfl rfl ?_
      refine x_icmp_ne (q := 137) (t := 152) d_16_134 (by decide) rfl (fun c134 => ?_) (fun c134 => ?_)
      · rw [zi_eq (by omega) (by omega) (by omega) (by omega)] at c134
        refine xild_4 (q := 154) d_16_152 rfl ?_
        refine x_iret d_16_154 rfl rfl ?_
        first
          | (have e1 : farV F j M q a b = 100 * (q : Int) * (j : Int) - smI M q (vec F j a) (vec F j b) j := by unfold farV farI; rw [if_pos (by omega)]
             rw [e1] at k; exact k)
          | (have e1 : farV F j M q a b = smI M q (vec F j a) (vec F j b) j := by unfold farV farI; rw [if_neg (by omega)]
             rw [e1] at k; exact k)
      · rw [zi_eq (by omega) (by omega) (by omega) (by omega)] at c134
        refine x_bipush (q := 139) (v := zi (100)) d_16_137 rfl (by decide) ?_
        refine xild_3 (q := 140) d_16_139 rfl ?_
        refine z_imul (q := 141) d_16_140 rfl ?_
        refine xald_0 (q := 142) d_16_141 rfl ?_
        refine xg_V_parts hn (q := 145) d_16_142 rfl fl_V_9 ?_
        refine z_imul (q := 146) d_16_145 rfl ?_
        rw [hP]
        refine xild_4 (q := 148) d_16_146 rfl ?_
        refine z_isub (q := 149) d_16_148 rfl ?_
        refine x_goto (t := 154) d_16_149 (by decide) ?_
        refine x_iret d_16_154 rfl rfl ?_
        first
          | (have e1 : farV F j M q a b = 100 * (q : Int) * (j : Int) - smI M q (vec F j a) (vec F j b) j := by unfold farV farI; rw [if_pos (by omega)]
             rw [e1] at k; exact k)
          | (have e1 : farV F j M q a b = smI M q (vec F j a) (vec F j b) j := by unfold farV farI; rw [if_neg (by omega)]
             rw [e1] at k; exact k)
    · rw [zi_le (by omega) (by omega) (by omega) (by omega)] at c12
      exact absurd c12 (by omega)
  | succ d ih =>
    intro j t6 t7 t8 hj
    have hfa := hV.in ha j (by omega)
    have hfb := hV.in hb j (by omega)
    have hsa := sh_b (q := q) hfa
    have hsb := sh_b (q := q) hfb
    have hba := mul_b (a := 100) (b := 100) hfa (y := (q : Int)) ⟨by omega, by omega⟩
    have hbb := mul_b (a := 100) (b := 100) hfb (y := (q : Int)) ⟨by omega, by omega⟩
    obtain ⟨s1, s2, s3, s4⟩ := sm_b (m := M) hq.2 j (fun k hk => hV.in ha k (by omega)) (fun k hk => hV.in hb k (by omega))
    refine xild_5 (q := 8) d_16_6 rfl ?_
    refine xald_0 (q := 9) d_16_8 rfl ?_
    refine xg_V_parts hn (q := 12) d_16_9 rfl fl_V_9 ?_
    refine x_icmp_ge (q := 15) (t := 129) d_16_12 (by decide) rfl (fun c12 => ?_) (fun c12 => ?_)
    · rw [zi_le (by omega) (by omega) (by omega) (by omega)] at c12
      exact absurd c12 (by omega)
    · rw [zi_le (by omega) (by omega) (by omega) (by omega)] at c12
      refine xald_0 (q := 16) d_16_15 rfl ?_
      refine xg_V_values hn (q := 19) d_16_16 rfl fl_V_22 ?_
      refine xild_1 (q := 20) d_16_19 rfl ?_
      refine xald_0 (q := 21) d_16_20 rfl ?_
      refine xg_V_parts hn (q := 24) d_16_21 rfl fl_V_9 ?_
      refine z_imul (q := 25) d_16_24 rfl ?_
      rw [hP, ← Int.natCast_mul]
      refine xild_5 (q := 27) d_16_25 rfl ?_
      refine z_iadd (q := 28) d_16_27 rfl ?_
      refine xl_values (q := 29) hn d_16_28 rfl (by omega) (by rw [hP]; omega) hpt ?_
      rw [show (((a * P : Nat) : Int) + (j : Int)).toNat = a * P + j by omega, show F 2 (a * P + j) = vec F P a j from rfl]
      refine xild_3 (q := 30) d_16_29 rfl ?_
      refine z_imul (q := 31) d_16_30 rfl ?_
      refine x_bipush (q := 33) (v := zi (100)) d_16_31 rfl (by decide) ?_
      refine z_idiv (q := 34) d_16_33 rfl (by omega) (by omega) (by omega) (by omega) ?_
      rw [show (vec F P a j * (q : Int)).tdiv 100 = shI (vec F P a j) q from rfl]
      generalize hx : shI (vec F P a j) q = x at hsa ⊢
      refine xist_6 (q := 36) d_16_34 rfl ?_
      refine xald_0 (q := 37) d_16_36 rfl ?_
      refine xg_V_values hn (q := 40) d_16_37 rfl fl_V_22 ?_
      refine xild_2 (q := 41) d_16_40 rfl ?_
      refine xald_0 (q := 42) d_16_41 rfl ?_
      refine xg_V_parts hn (q := 45) d_16_42 rfl fl_V_9 ?_
      refine z_imul (q := 46) d_16_45 rfl ?_
      rw [hP, ← Int.natCast_mul]
      refine xild_5 (q := 48) d_16_46 rfl ?_
      refine z_iadd (q := 49) d_16_48 rfl ?_
      refine xl_values (q := 50) hn d_16_49 rfl (by omega) (by rw [hP]; omega) hpt ?_
      rw [show (((b * P : Nat) : Int) + (j : Int)).toNat = b * P + j by omega, show F 2 (b * P + j) = vec F P b j from rfl]
      refine xild_3 (q := 51) d_16_50 rfl ?_
      refine z_imul (q := 52) d_16_51 rfl ?_
      refine x_bipush (q := 54) (v := zi (100)) d_16_52 rfl (by decide) ?_
      refine z_idiv (q := 55) d_16_54 rfl (by omega) (by omega) (by omega) (by omega) ?_
      rw [show (vec F P b j * (q : Int)).tdiv 100 = shI (vec F P b j) q from rfl]
      generalize hy : shI (vec F P b j) q = y at hsb ⊢
      refine xist_7 (q := 57) d_16_55 rfl ?_
      refine xild_6 (q := 59) d_16_57 rfl ?_
      refine xild_7 (q := 61) d_16_59 rfl ?_
      refine z_isub (q := 62) d_16_61 rfl ?_
      refine xist_8 (q := 64) d_16_62 rfl ?_
      refine xald_0 (q := 65) d_16_64 rfl ?_
      refine xg_V_measure hn (q := 68) d_16_65 rfl fl_V_29 ?_
      refine x_if_ne (q := 71) (t := 84) d_16_68 (by decide) rfl (fun c68 => ?_) (fun c68 => ?_)
      · rw [zi_eq0 (by omega) (by omega)] at c68
        refine xald_0 (q := 85) d_16_84 rfl ?_
        refine xg_V_measure hn (q := 88) d_16_85 rfl fl_V_29 ?_
        refine x_iconst (q := 89) (v := zi (1)) d_16_88 rfl rfl ?_
        refine x_icmp_ne (q := 92) (t := 105) d_16_89 (by decide) rfl (fun c89 => ?_) (fun c89 => ?_)
        · rw [zi_eq (by omega) (by omega) (by omega) (by omega)] at c89
          refine xild_4 (q := 107) d_16_105 rfl ?_
          refine xild_8 (q := 109) d_16_107 rfl ?_
          refine x_if_ge (q := 112) (t := 118) d_16_109 (by decide) rfl (fun c109 => ?_) (fun c109 => ?_)
          · rw [zi_ge0 (by omega) (by omega)] at c109
            refine xild_8 (q := 120) d_16_118 rfl ?_
            refine z_iadd (q := 121) d_16_120 rfl ?_
            refine xist_4 (q := 123) d_16_121 rfl ?_
            refine xincz_5 (q := 126) d_16_123 rfl ?_
            refine x_goto (t := 6) d_16_126 (by decide) ?_
            have hS : smI M q (vec F P a) (vec F P b) (j + 1) = smI M q (vec F P a) (vec F P b) j + tmI M x y := by rw [← hx, ← hy]; rfl
            rw [show (j : Int) + 1 = ((j + 1 : Nat) : Int) by omega]
            first
              | (rw [show smI M q (vec F P a) (vec F P b) j + (x - y) * (x - y) = smI M q (vec F P a) (vec F P b) (j + 1) by rw [hS]; unfold tmI; rw [if_pos (by omega)]]; exact ih (j + 1) _ _ _ (by omega))
              | (rw [show smI M q (vec F P a) (vec F P b) j + x * y = smI M q (vec F P a) (vec F P b) (j + 1) by rw [hS]; unfold tmI; rw [if_neg (by omega), if_pos (by omega)]]; exact ih (j + 1) _ _ _ (by omega))
              | (rw [show smI M q (vec F P a) (vec F P b) j + -(x - y) = smI M q (vec F P a) (vec F P b) (j + 1) by rw [hS]; unfold tmI; rw [if_neg (by omega), if_neg (by omega), if_pos (by omega)]]; exact ih (j + 1) _ _ _ (by omega))
              | (rw [show smI M q (vec F P a) (vec F P b) j + (x - y) = smI M q (vec F P a) (vec F P b) (j + 1) by rw [hS]; unfold tmI; rw [if_neg (by omega), if_neg (by omega), if_neg (by omega)]]; exact ih (j + 1) _ _ _ (by omega))
          · rw [zi_ge0 (by omega) (by omega)] at c109
            refine xild_8 (q := 114) d_16_112 rfl ?_
            refine z_ineg (q := 115) d_16_114 rfl ?_
            refine x_goto (t := 120) d_16_115 (by decide) ?_
            refine z_iadd (q := 121) d_16_120 rfl ?_
            refine xist_4 (q := 123) d_16_121 rfl ?_
            refine xincz_5 (q := 126) d_16_123 rfl ?_
            refine x_goto (t := 6) d_16_126 (by decide) ?_
            have hS : smI M q (vec F P a) (vec F P b) (j + 1) = smI M q (vec F P a) (vec F P b) j + tmI M x y := by rw [← hx, ← hy]; rfl
            rw [show (j : Int) + 1 = ((j + 1 : Nat) : Int) by omega]
            first
              | (rw [show smI M q (vec F P a) (vec F P b) j + (x - y) * (x - y) = smI M q (vec F P a) (vec F P b) (j + 1) by rw [hS]; unfold tmI; rw [if_pos (by omega)]]; exact ih (j + 1) _ _ _ (by omega))
              | (rw [show smI M q (vec F P a) (vec F P b) j + x * y = smI M q (vec F P a) (vec F P b) (j + 1) by rw [hS]; unfold tmI; rw [if_neg (by omega), if_pos (by omega)]]; exact ih (j + 1) _ _ _ (by omega))
              | (rw [show smI M q (vec F P a) (vec F P b) j + -(x - y) = smI M q (vec F P a) (vec F P b) (j + 1) by rw [hS]; unfold tmI; rw [if_neg (by omega), if_neg (by omega), if_pos (by omega)]]; exact ih (j + 1) _ _ _ (by omega))
              | (rw [show smI M q (vec F P a) (vec F P b) j + (x - y) = smI M q (vec F P a) (vec F P b) (j + 1) by rw [hS]; unfold tmI; rw [if_neg (by omega), if_neg (by omega), if_neg (by omega)]]; exact ih (j + 1) _ _ _ (by omega))
        · rw [zi_eq (by omega) (by omega) (by omega) (by omega)] at c89
          refine xild_4 (q := 94) d_16_92 rfl ?_
          refine xild_6 (q := 96) d_16_94 rfl ?_
          refine xild_7 (q := 98) d_16_96 rfl ?_
          refine z_imul (q := 99) d_16_98 rfl ?_
          refine z_iadd (q := 100) d_16_99 rfl ?_
          refine xist_4 (q := 102) d_16_100 rfl ?_
          refine x_goto (t := 123) d_16_102 (by decide) ?_
          refine xincz_5 (q := 126) d_16_123 rfl ?_
          refine x_goto (t := 6) d_16_126 (by decide) ?_
          have hS : smI M q (vec F P a) (vec F P b) (j + 1) = smI M q (vec F P a) (vec F P b) j + tmI M x y := by rw [← hx, ← hy]; rfl
          rw [show (j : Int) + 1 = ((j + 1 : Nat) : Int) by omega]
          first
            | (rw [show smI M q (vec F P a) (vec F P b) j + (x - y) * (x - y) = smI M q (vec F P a) (vec F P b) (j + 1) by rw [hS]; unfold tmI; rw [if_pos (by omega)]]; exact ih (j + 1) _ _ _ (by omega))
            | (rw [show smI M q (vec F P a) (vec F P b) j + x * y = smI M q (vec F P a) (vec F P b) (j + 1) by rw [hS]; unfold tmI; rw [if_neg (by omega), if_pos (by omega)]]; exact ih (j + 1) _ _ _ (by omega))
            | (rw [show smI M q (vec F P a) (vec F P b) j + -(x - y) = smI M q (vec F P a) (vec F P b) (j + 1) by rw [hS]; unfold tmI; rw [if_neg (by omega), if_neg (by omega), if_pos (by omega)]]; exact ih (j + 1) _ _ _ (by omega))
            | (rw [show smI M q (vec F P a) (vec F P b) j + (x - y) = smI M q (vec F P a) (vec F P b) (j + 1) by rw [hS]; unfold tmI; rw [if_neg (by omega), if_neg (by omega), if_neg (by omega)]]; exact ih (j + 1) _ _ _ (by omega))
      · rw [zi_eq0 (by omega) (by omega)] at c68
        refine xild_4 (q := 73) d_16_71 rfl ?_
        refine xild_8 (q := 75) d_16_73 rfl ?_
        refine xild_8 (q := 77) d_16_75 rfl ?_
        refine z_imul (q := 78) d_16_77 rfl ?_
        refine z_iadd (q := 79) d_16_78 rfl ?_
        refine xist_4 (q := 81) d_16_79 rfl ?_
        refine x_goto (t := 123) d_16_81 (by decide) ?_
        refine xincz_5 (q := 126) d_16_123 rfl ?_
        refine x_goto (t := 6) d_16_126 (by decide) ?_
        have hS : smI M q (vec F P a) (vec F P b) (j + 1) = smI M q (vec F P a) (vec F P b) j + tmI M x y := by rw [← hx, ← hy]; rfl
        rw [show (j : Int) + 1 = ((j + 1 : Nat) : Int) by omega]
        first
          | (rw [show smI M q (vec F P a) (vec F P b) j + (x - y) * (x - y) = smI M q (vec F P a) (vec F P b) (j + 1) by rw [hS]; unfold tmI; rw [if_pos (by omega)]]; exact ih (j + 1) _ _ _ (by omega))
          | (rw [show smI M q (vec F P a) (vec F P b) j + x * y = smI M q (vec F P a) (vec F P b) (j + 1) by rw [hS]; unfold tmI; rw [if_neg (by omega), if_pos (by omega)]]; exact ih (j + 1) _ _ _ (by omega))
          | (rw [show smI M q (vec F P a) (vec F P b) j + -(x - y) = smI M q (vec F P a) (vec F P b) (j + 1) by rw [hS]; unfold tmI; rw [if_neg (by omega), if_neg (by omega), if_pos (by omega)]]; exact ih (j + 1) _ _ _ (by omega))
          | (rw [show smI M q (vec F P a) (vec F P b) j + (x - y) = smI M q (vec F P a) (vec F P b) (j + 1) by rw [hS]; unfold tmI; rw [if_neg (by omega), if_neg (by omega), if_neg (by omega)]]; exact ih (j + 1) _ _ _ (by omega))
set_option maxHeartbeats 1000000 in
theorem c_apart {sc : ax_S} {σ : Nat → ax_C} {I : Nat → Int} {F : Nat → Nat → Int} {n bc bs : Nat} {K : ax_K} (hn : 22 ≤ n) {P N M : Nat} (hV : VW I F P N M) {a b q : Nat} (ha : a ≤ 100) (hb : b ≤ 100) (hq : 1 ≤ q ∧ q ≤ 100) (k : K (some (.int (zi (farV F P M q a b)))) (vg σ I F, n, bc, bs)) : Ex sc 16 0 (ax_en 16 [.ref 1, .int (zi a), .int (zi b), .int (zi q)]) [] (vg σ I F, n, bc, bs) K := by
  show Ex sc 16 0 [some (.ref 1), some (.int (zi a)), some (.int (zi b)), some (.int (zi q)), none, none, none, none, none] [] (vg σ I F, n, bc, bs) K
  refine x_iconst (q := 1) (v := zi (0)) d_16_0 rfl rfl ?_
  refine xist_4 (q := 3) d_16_1 rfl ?_
  refine x_iconst (q := 4) (v := zi (0)) d_16_3 rfl rfl ?_
  refine xist_5 (q := 6) d_16_4 rfl ?_
  exact lq_apart hn hV ha hb hq k P 0 _ _ _ (by omega)
set_option maxHeartbeats 1000000 in
theorem c_changeHand {sc : ax_S} {σ : Nat → ax_C} {I : Nat → Int} {F : Nat → Nat → Int} {n bc bs : Nat} {K : ax_K} (hn : 22 ≤ n) {P N M : Nat} (hV : VW I F P N M) {i : Nat} (hi : i < P) {v : Int} (hv2 : -100 ≤ v ∧ v ≤ 100) (k : K (some (.int (zi (vec F P 100 i)))) (vg σ I (va_up F 2 (va_up (F 2) (100 * P + i) v)), n, bc, bs)) : Ex sc 5 0 (ax_en 5 [.ref 1, .int (zi i), .int (zi v)]) [] (vg σ I F, n, bc, bs) K := by
  obtain ⟨hP, hP1, hP2, hN, hN2, hM, hM2, hv, hrm, hbr⟩ := id hV
  have hpt : (I 7).toNat ≤ 8 := by omega
  have et : (100 * (P : Int) + (i : Int)).toNat = 100 * P + i := by omega
  show Ex sc 5 0 [some (.ref 1), some (.int (zi i)), some (.int (zi v)), none, none] [] (vg σ I F, n, bc, bs) K
  refine x_bipush (q := 2) (v := zi (100)) d_5_0 rfl (by decide) ?_
  refine xald_0 (q := 3) d_5_2 rfl ?_
  refine xg_V_parts hn (q := 6) d_5_3 rfl fl_V_9 ?_
  refine z_imul (q := 7) d_5_6 rfl ?_
  rw [hP]
  refine xild_1 (q := 8) d_5_7 rfl ?_
  refine z_iadd (q := 9) d_5_8 rfl ?_
  refine xist_3 (q := 10) d_5_9 rfl ?_
  refine xald_0 (q := 11) d_5_10 rfl ?_
  refine xg_V_values hn (q := 14) d_5_11 rfl fl_V_22 ?_
  refine xild_3 (q := 15) d_5_14 rfl ?_
  refine xl_values (q := 16) hn d_5_15 rfl (by omega) (by rw [hP]; omega) hpt ?_
  rw [et]
  refine xist_4 (q := 18) d_5_16 rfl ?_
  refine xald_0 (q := 19) d_5_18 rfl ?_
  refine xg_V_values hn (q := 22) d_5_19 rfl fl_V_22 ?_
  refine xild_3 (q := 23) d_5_22 rfl ?_
  refine xild_2 (q := 24) d_5_23 rfl ?_
  refine xs_values (q := 25) hn d_5_24 rfl (by omega) (by rw [hP]; omega) hpt ?_
  rw [et]
  refine xild_4 (q := 27) d_5_25 rfl ?_
  refine x_iret d_5_27 rfl rfl ?_
  exact k
/-- the values with vector a copied to b -/
def cpyF (F : Nat → Nat → Int) (P a b : Nat) : Nat → Nat → Int := va_up F 2 (va_cpy (F 2) (F 2) (a * P) (b * P) P)
set_option maxHeartbeats 1000000 in
theorem c_copy {sc : ax_S} {σ : Nat → ax_C} {I : Nat → Int} {F : Nat → Nat → Int} {n bc bs : Nat} {K : ax_K} (hn : 22 ≤ n) {P N M : Nat} (hV : VW I F P N M) {a b : Nat} (ha : a ≤ 100) (hb : b ≤ 100) (k : K none (vg σ I (cpyF F P a b), n, bc, bs)) : Ex sc 8 0 (ax_en 8 [.ref 1, .int (zi a), .int (zi b)]) [] (vg σ I F, n, bc, bs) K := by
  obtain ⟨hP, hP1, hP2, hN, hN2, hM, hM2, hv, hrm, hbr⟩ := id hV
  have hpt : (I 7).toNat ≤ 8 := by omega
  have hma := Nat.mul_le_mul_right P ha
  have hmb := Nat.mul_le_mul_right P hb
  show Ex sc 8 0 [some (.ref 1), some (.int (zi a)), some (.int (zi b))] [] (vg σ I F, n, bc, bs) K
  refine xald_0 (q := 1) d_8_0 rfl ?_
  refine xg_V_values hn (q := 4) d_8_1 rfl fl_V_22 ?_
  refine xild_1 (q := 5) d_8_4 rfl ?_
  refine xald_0 (q := 6) d_8_5 rfl ?_
  refine xg_V_parts hn (q := 9) d_8_6 rfl fl_V_9 ?_
  refine z_imul (q := 10) d_8_9 rfl ?_
  refine xald_0 (q := 11) d_8_10 rfl ?_
  refine xg_V_values hn (q := 14) d_8_11 rfl fl_V_22 ?_
  refine xild_2 (q := 15) d_8_14 rfl ?_
  refine xald_0 (q := 16) d_8_15 rfl ?_
  refine xg_V_parts hn (q := 19) d_8_16 rfl fl_V_9 ?_
  refine z_imul (q := 20) d_8_19 rfl ?_
  refine xald_0 (q := 21) d_8_20 rfl ?_
  refine xg_V_parts hn (q := 24) d_8_21 rfl fl_V_9 ?_
  rw [hP, ← Int.natCast_mul, ← Int.natCast_mul]
  refine z_cpyV hn hpt (q := 27) d_8_24 rfl li_V_40 (by decide +kernel) (by simp [Value.category]) (by omega) (by omega) (by omega) (by rw [hP]; omega) (by rw [hP]; omega) ?_
  rw [show (((a * P : Nat) : Int)).toNat = a * P by omega, show (((b * P : Nat) : Int)).toNat = b * P by omega, show ((P : Int)).toNat = P by omega]
  refine x_vret d_8_27 rfl ?_
  exact k
/-- the hand's vector appended as number N -/
def appF (F : Nat → Nat → Int) (P N : Nat) : Nat → Nat → Int := va_up (va_up (cpyF F P 100 N) 0 (va_up (F 0) N 0)) 1 (va_up (F 1) N 0)
theorem cpy_0 (F : Nat → Nat → Int) (P a b : Nat) {j : Nat} (h : j ≠ 2) : cpyF F P a b j = F j := va_un _ _ _ h
set_option maxHeartbeats 1000000 in
theorem c_append {sc : ax_S} {σ : Nat → ax_C} {I : Nat → Int} {F : Nat → Nat → Int} {n bc bs : Nat} {K : ax_K} (hn : 22 ≤ n) {P N M : Nat} (hV : VW I F P N M) (hlt : N < 100) (k : K (some (.int (zi N))) (vg σ (va_up I 0 (N + 1)) (appF F P N), n, bc, bs)) : Ex sc 7 0 (ax_en 7 [.ref 1]) [] (vg σ I F, n, bc, bs) K := by
  obtain ⟨hP, hP1, hP2, hN, hN2, hM, hM2, hv, hrm, hbr⟩ := id hV
  show Ex sc 7 0 [some (.ref 1), none] [] (vg σ I F, n, bc, bs) K
  refine xald_0 (q := 1) d_7_0 rfl ?_
  refine xg_V_total hn (q := 4) d_7_1 rfl fl_V_26 ?_
  refine xist_1 (q := 5) d_7_4 rfl ?_
  refine xald_0 (q := 6) d_7_5 rfl ?_
  refine x_bipush (q := 8) (v := zi (100)) d_7_6 rfl (by decide) ?_
  refine xild_1 (q := 9) d_7_8 rfl ?_
  rw [hN]
  refine xcV2 (q := 12) d_7_9 rfl lk_V_36 mo_8 ⟨by decide +kernel, by decide +kernel⟩ (by simp [Value.category]) (by decide +kernel) (by simp [Value.category]) (by omega) rfl ?_
  refine c_copy hn hV (a := 100) (b := N) (by omega) (by omega) ?_
  dsimp only [ax_ps]
  refine xald_0 (q := 13) d_7_12 rfl ?_
  refine xg_V_removed hn (q := 16) d_7_13 rfl fl_V_15 ?_
  refine xild_1 (q := 17) d_7_16 rfl ?_
  refine x_iconst (q := 18) (v := zi (0)) d_7_17 rfl rfl ?_
  refine xs_removed (e := 0) (q := 19) hn (Or.inl rfl) d_7_18 rfl (by omega) (by omega) ?_
  refine xald_0 (q := 20) d_7_19 rfl ?_
  refine xg_V_barred hn (q := 23) d_7_20 rfl fl_V_19 ?_
  refine xild_1 (q := 24) d_7_23 rfl ?_
  refine x_iconst (q := 25) (v := zi (0)) d_7_24 rfl rfl ?_
  refine xs_barred (e := 0) (q := 26) hn (Or.inl rfl) d_7_25 rfl (by omega) (by omega) ?_
  refine xald_0 (q := 27) d_7_26 rfl ?_
  refine x_dup (q := 28) d_7_27 rfl rfl ?_
  refine xg_V_total hn (q := 31) d_7_28 rfl fl_V_26 ?_
  refine x_iconst (q := 32) (v := zi (1)) d_7_31 rfl rfl ?_
  refine z_iadd (q := 33) d_7_32 rfl ?_
  refine xp_V_total hn (q := 36) d_7_33 rfl fw_V_26 ?_
  refine xild_1 (q := 37) d_7_36 rfl ?_
  refine x_iret d_7_37 rfl rfl ?_
  rw [hN, show ((N : Int)).toNat = N by omega, cpy_0 _ _ _ _ (by decide), va_un _ 0 _ (by decide), cpy_0 _ _ _ _ (by decide)]
  exact k
/-- how many of the first n places bear p -/
def cntI (p : Nat → Int) : Nat → Int
  | 0 => 0
  | n + 1 => cntI p n + (if p n = 1 then 1 else 0)
theorem cntI_b (p : Nat → Int) : ∀ n : Nat, 0 ≤ cntI p n ∧ cntI p n ≤ n
  | 0 => ⟨Int.le_refl _, Int.le_refl _⟩
  | n + 1 => by
    have := cntI_b p n
    show 0 ≤ cntI p n + _ ∧ cntI p n + _ ≤ _
    split <;> omega
set_option maxHeartbeats 1000000 in
theorem lq_marked_removed {sc : ax_S} {σ : Nat → ax_C} {I : Nat → Int} {F : Nat → Nat → Int} {n bc bs : Nat} {K : ax_K} (hn : 22 ≤ n) {P N M : Nat} (hV : VW I F P N M) (k : K (some (.int (zi (cntI (F 0) N)))) (vg σ I F, n, bc, bs)) : ∀ (d j : Nat), j + d = N → Ex sc 61 4 [some (.ref 1), some (.ref 2), some (.int (zi (cntI (F 0) j))), some (.int (zi j))] [] (vg σ I F, n, bc, bs) K := by
  obtain ⟨hP, hP1, hP2, hN, hN2, hM, hM2, hv, hrm, hbr⟩ := id hV
  intro d
  induction d with
  | zero =>
    intro j hj
    have hjN : j = N := by omega
    subst hjN
    refine xild_3 (q := 5) d_61_4 rfl ?_
    refine xald_0 (q := 6) d_61_5 rfl ?_
    refine xg_V_total hn (q := 9) d_61_6 rfl fl_V_26 ?_
    refine x_icmp_ge (q := 12) (t := 38) d_61_9 (by decide) rfl (fun c9 => ?_) (fun c9 => ?_)
    · rw [zi_le (by omega) (by omega) (by omega) (by omega)] at c9
      refine xild_2 (q := 39) d_61_38 rfl ?_
      refine x_iret d_61_39 rfl rfl ?_
      exact k
    · rw [zi_le (by omega) (by omega) (by omega) (by omega)] at c9
      exact absurd c9 (by omega)
  | succ d ih =>
    intro j hj
    have h0 := hrm j (by omega)
    have hc := cntI_b (F 0) j
    refine xild_3 (q := 5) d_61_4 rfl ?_
    refine xald_0 (q := 6) d_61_5 rfl ?_
    refine xg_V_total hn (q := 9) d_61_6 rfl fl_V_26 ?_
    refine x_icmp_ge (q := 12) (t := 38) d_61_9 (by decide) rfl (fun c9 => ?_) (fun c9 => ?_)
    · rw [zi_le (by omega) (by omega) (by omega) (by omega)] at c9
      first | exact absurd c9 (by omega) | exact absurd c15 (by omega)
    · rw [zi_le (by omega) (by omega) (by omega) (by omega)] at c9
      refine xild_3 (q := 13) d_61_12 rfl ?_
      refine xald_1 (q := 14) d_61_13 rfl ?_
      refine xn_removed (q := 15) hn d_61_14 rfl ?_
      refine x_icmp_ge (q := 18) (t := 38) d_61_15 (by decide) rfl (fun c15 => ?_) (fun c15 => ?_)
      · rw [zi_le (by omega) (by omega) (by omega) (by omega)] at c15
        first | exact absurd c9 (by omega) | exact absurd c15 (by omega)
      · rw [zi_le (by omega) (by omega) (by omega) (by omega)] at c15
        refine xild_2 (q := 19) d_61_18 rfl ?_
        refine xald_1 (q := 20) d_61_19 rfl ?_
        refine xild_3 (q := 21) d_61_20 rfl ?_
        refine xl_removed (q := 22) hn d_61_21 rfl (by omega) (by omega) ?_
        rw [show ((j : Int)).toNat = j by omega]
        refine x_if_eq (q := 25) (t := 29) d_61_22 (by decide) rfl (fun c22 => ?_) (fun c22 => ?_)
        · rw [zi_eq0 (by omega) (by omega)] at c22
          refine x_iconst (q := 30) (v := zi (0)) d_61_29 rfl rfl ?_
          refine z_iadd (q := 31) d_61_30 rfl ?_
          refine xist_2 (q := 32) d_61_31 rfl ?_
          refine xincz_3 (q := 35) d_61_32 rfl ?_
          refine x_goto (t := 4) d_61_35 (by decide) ?_
          rw [show (j : Int) + 1 = ((j + 1 : Nat) : Int) by omega]
          have e1 : cntI (F 0) (j + 1) = cntI (F 0) j + (if F 0 j = 1 then 1 else 0) := rfl
          first
            | (rw [if_pos (by omega)] at e1; rw [← e1]; exact ih (j + 1) (by omega))
            | (rw [if_neg (by omega)] at e1; rw [← e1]; exact ih (j + 1) (by omega))
        · rw [zi_eq0 (by omega) (by omega)] at c22
          refine x_iconst (q := 26) (v := zi (1)) d_61_25 rfl rfl ?_
          refine x_goto (t := 30) d_61_26 (by decide) ?_
          refine z_iadd (q := 31) d_61_30 rfl ?_
          refine xist_2 (q := 32) d_61_31 rfl ?_
          refine xincz_3 (q := 35) d_61_32 rfl ?_
          refine x_goto (t := 4) d_61_35 (by decide) ?_
          rw [show (j : Int) + 1 = ((j + 1 : Nat) : Int) by omega]
          have e1 : cntI (F 0) (j + 1) = cntI (F 0) j + (if F 0 j = 1 then 1 else 0) := rfl
          first
            | (rw [if_pos (by omega)] at e1; rw [← e1]; exact ih (j + 1) (by omega))
            | (rw [if_neg (by omega)] at e1; rw [← e1]; exact ih (j + 1) (by omega))
set_option maxHeartbeats 1000000 in
theorem c_marked_removed {sc : ax_S} {σ : Nat → ax_C} {I : Nat → Int} {F : Nat → Nat → Int} {n bc bs : Nat} {K : ax_K} (hn : 22 ≤ n) {P N M : Nat} (hV : VW I F P N M) (k : K (some (.int (zi (cntI (F 0) N)))) (vg σ I F, n, bc, bs)) : Ex sc 61 0 (ax_en 61 [.ref 1, .ref 2]) [] (vg σ I F, n, bc, bs) K := by
  show Ex sc 61 0 [some (.ref 1), some (.ref 2), none, none] [] (vg σ I F, n, bc, bs) K
  refine x_iconst (q := 1) (v := zi (0)) d_61_0 rfl rfl ?_
  refine xist_2 (q := 2) d_61_1 rfl ?_
  refine x_iconst (q := 3) (v := zi (0)) d_61_2 rfl rfl ?_
  refine xist_3 (q := 4) d_61_3 rfl ?_
  exact lq_marked_removed hn hV k N 0 (by omega)
set_option maxHeartbeats 1000000 in
theorem lq_marked_barred {sc : ax_S} {σ : Nat → ax_C} {I : Nat → Int} {F : Nat → Nat → Int} {n bc bs : Nat} {K : ax_K} (hn : 22 ≤ n) {P N M : Nat} (hV : VW I F P N M) (k : K (some (.int (zi (cntI (F 1) N)))) (vg σ I F, n, bc, bs)) : ∀ (d j : Nat), j + d = N → Ex sc 61 4 [some (.ref 1), some (.ref 3), some (.int (zi (cntI (F 1) j))), some (.int (zi j))] [] (vg σ I F, n, bc, bs) K := by
  obtain ⟨hP, hP1, hP2, hN, hN2, hM, hM2, hv, hrm, hbr⟩ := id hV
  intro d
  induction d with
  | zero =>
    intro j hj
    have hjN : j = N := by omega
    subst hjN
    refine xild_3 (q := 5) d_61_4 rfl ?_
    refine xald_0 (q := 6) d_61_5 rfl ?_
    refine xg_V_total hn (q := 9) d_61_6 rfl fl_V_26 ?_
    refine x_icmp_ge (q := 12) (t := 38) d_61_9 (by decide) rfl (fun c9 => ?_) (fun c9 => ?_)
    · rw [zi_le (by omega) (by omega) (by omega) (by omega)] at c9
      refine xild_2 (q := 39) d_61_38 rfl ?_
      refine x_iret d_61_39 rfl rfl ?_
      exact k
    · rw [zi_le (by omega) (by omega) (by omega) (by omega)] at c9
      exact absurd c9 (by omega)
  | succ d ih =>
    intro j hj
    have h0 := hbr j (by omega)
    have hc := cntI_b (F 1) j
    refine xild_3 (q := 5) d_61_4 rfl ?_
    refine xald_0 (q := 6) d_61_5 rfl ?_
    refine xg_V_total hn (q := 9) d_61_6 rfl fl_V_26 ?_
    refine x_icmp_ge (q := 12) (t := 38) d_61_9 (by decide) rfl (fun c9 => ?_) (fun c9 => ?_)
    · rw [zi_le (by omega) (by omega) (by omega) (by omega)] at c9
      first | exact absurd c9 (by omega) | exact absurd c15 (by omega)
    · rw [zi_le (by omega) (by omega) (by omega) (by omega)] at c9
      refine xild_3 (q := 13) d_61_12 rfl ?_
      refine xald_1 (q := 14) d_61_13 rfl ?_
      refine xn_barred (q := 15) hn d_61_14 rfl ?_
      refine x_icmp_ge (q := 18) (t := 38) d_61_15 (by decide) rfl (fun c15 => ?_) (fun c15 => ?_)
      · rw [zi_le (by omega) (by omega) (by omega) (by omega)] at c15
        first | exact absurd c9 (by omega) | exact absurd c15 (by omega)
      · rw [zi_le (by omega) (by omega) (by omega) (by omega)] at c15
        refine xild_2 (q := 19) d_61_18 rfl ?_
        refine xald_1 (q := 20) d_61_19 rfl ?_
        refine xild_3 (q := 21) d_61_20 rfl ?_
        refine xl_barred (q := 22) hn d_61_21 rfl (by omega) (by omega) ?_
        rw [show ((j : Int)).toNat = j by omega]
        refine x_if_eq (q := 25) (t := 29) d_61_22 (by decide) rfl (fun c22 => ?_) (fun c22 => ?_)
        · rw [zi_eq0 (by omega) (by omega)] at c22
          refine x_iconst (q := 30) (v := zi (0)) d_61_29 rfl rfl ?_
          refine z_iadd (q := 31) d_61_30 rfl ?_
          refine xist_2 (q := 32) d_61_31 rfl ?_
          refine xincz_3 (q := 35) d_61_32 rfl ?_
          refine x_goto (t := 4) d_61_35 (by decide) ?_
          rw [show (j : Int) + 1 = ((j + 1 : Nat) : Int) by omega]
          have e1 : cntI (F 1) (j + 1) = cntI (F 1) j + (if F 1 j = 1 then 1 else 0) := rfl
          first
            | (rw [if_pos (by omega)] at e1; rw [← e1]; exact ih (j + 1) (by omega))
            | (rw [if_neg (by omega)] at e1; rw [← e1]; exact ih (j + 1) (by omega))
        · rw [zi_eq0 (by omega) (by omega)] at c22
          refine x_iconst (q := 26) (v := zi (1)) d_61_25 rfl rfl ?_
          refine x_goto (t := 30) d_61_26 (by decide) ?_
          refine z_iadd (q := 31) d_61_30 rfl ?_
          refine xist_2 (q := 32) d_61_31 rfl ?_
          refine xincz_3 (q := 35) d_61_32 rfl ?_
          refine x_goto (t := 4) d_61_35 (by decide) ?_
          rw [show (j : Int) + 1 = ((j + 1 : Nat) : Int) by omega]
          have e1 : cntI (F 1) (j + 1) = cntI (F 1) j + (if F 1 j = 1 then 1 else 0) := rfl
          first
            | (rw [if_pos (by omega)] at e1; rw [← e1]; exact ih (j + 1) (by omega))
            | (rw [if_neg (by omega)] at e1; rw [← e1]; exact ih (j + 1) (by omega))
set_option maxHeartbeats 1000000 in
theorem c_marked_barred {sc : ax_S} {σ : Nat → ax_C} {I : Nat → Int} {F : Nat → Nat → Int} {n bc bs : Nat} {K : ax_K} (hn : 22 ≤ n) {P N M : Nat} (hV : VW I F P N M) (k : K (some (.int (zi (cntI (F 1) N)))) (vg σ I F, n, bc, bs)) : Ex sc 61 0 (ax_en 61 [.ref 1, .ref 3]) [] (vg σ I F, n, bc, bs) K := by
  show Ex sc 61 0 [some (.ref 1), some (.ref 3), none, none] [] (vg σ I F, n, bc, bs) K
  refine x_iconst (q := 1) (v := zi (0)) d_61_0 rfl rfl ?_
  refine xist_2 (q := 2) d_61_1 rfl ?_
  refine x_iconst (q := 3) (v := zi (0)) d_61_2 rfl rfl ?_
  refine xist_3 (q := 4) d_61_3 rfl ?_
  exact lq_marked_barred hn hV k N 0 (by omega)
set_option maxHeartbeats 1000000 in
theorem lq_freeOnes {sc : ax_S} {σ : Nat → ax_C} {I : Nat → Int} {F : Nat → Nat → Int} {n bc bs : Nat} {K : ax_K} (hn : 22 ≤ n) {P N M : Nat} (hV : VW I F P N M) (k : K (some (.int (zi (cntI (fun i => freeI F N i) N)))) (vg σ I F, n, bc, bs)) : ∀ (d j : Nat), j + d = N → Ex sc 62 4 [some (.ref 1), some (.int (zi (cntI (fun i => freeI F N i) j))), some (.int (zi j))] [] (vg σ I F, n, bc, bs) K := by
  obtain ⟨hP, hP1, hP2, hN, hN2, hM, hM2, hv, hrm, hbr⟩ := id hV
  intro d
  induction d with
  | zero =>
    intro j hj
    have hjN : j = N := by omega
    subst hjN
    refine xild_2 (q := 5) d_62_4 rfl ?_
    refine xald_0 (q := 6) d_62_5 rfl ?_
    refine xg_V_total hn (q := 9) d_62_6 rfl fl_V_26 ?_
    refine x_icmp_ge (q := 12) (t := 34) d_62_9 (by decide) rfl (fun c9 => ?_) (fun c9 => ?_)
    · rw [zi_le (by omega) (by omega) (by omega) (by omega)] at c9
      refine xild_1 (q := 35) d_62_34 rfl ?_
      refine x_iret d_62_35 rfl rfl ?_
      exact k
    · rw [zi_le (by omega) (by omega) (by omega) (by omega)] at c9
      exact absurd c9 (by omega)
  | succ d ih =>
    intro j hj
    have hc := cntI_b (fun i => freeI F N i) j
    refine xild_2 (q := 5) d_62_4 rfl ?_
    refine xald_0 (q := 6) d_62_5 rfl ?_
    refine xg_V_total hn (q := 9) d_62_6 rfl fl_V_26 ?_
    refine x_icmp_ge (q := 12) (t := 34) d_62_9 (by decide) rfl (fun c9 => ?_) (fun c9 => ?_)
    · rw [zi_le (by omega) (by omega) (by omega) (by omega)] at c9
      exact absurd c9 (by omega)
    · rw [zi_le (by omega) (by omega) (by omega) (by omega)] at c9
      refine xild_1 (q := 13) d_62_12 rfl ?_
      refine xald_0 (q := 14) d_62_13 rfl ?_
      refine xild_2 (q := 15) d_62_14 rfl ?_
      refine xcV1 (q := 18) d_62_15 rfl lk_V_46 mo_42 ⟨by decide +kernel, by decide +kernel⟩ (by simp [Value.category]) (by decide +kernel) (by simp [Value.category]) (by omega) rfl ?_
      refine c_isFree hn hV (i := (j : Int)) (by omega) ?_
      dsimp only [ax_ps]
      have h0 : freeI F N j = 0 ∨ freeI F N j = 1 := by unfold freeI; split <;> omega
      refine x_if_eq (q := 21) (t := 25) d_62_18 (by decide) rfl (fun c18 => ?_) (fun c18 => ?_)
      · rw [zi_eq0 (by omega) (by omega)] at c18
        refine x_iconst (q := 26) (v := zi (0)) d_62_25 rfl rfl ?_
        refine z_iadd (q := 27) d_62_26 rfl ?_
        refine xist_1 (q := 28) d_62_27 rfl ?_
        refine xincz_2 (q := 31) d_62_28 rfl ?_
        refine x_goto (t := 4) d_62_31 (by decide) ?_
        rw [show (j : Int) + 1 = ((j + 1 : Nat) : Int) by omega]
        have e1 : cntI (fun i => freeI F N i) (j + 1) = cntI (fun i => freeI F N i) j + (if freeI F N j = 1 then 1 else 0) := rfl
        first
          | (rw [if_pos (by omega)] at e1; rw [← e1]; exact ih (j + 1) (by omega))
          | (rw [if_neg (by omega)] at e1; rw [← e1]; exact ih (j + 1) (by omega))
      · rw [zi_eq0 (by omega) (by omega)] at c18
        refine x_iconst (q := 22) (v := zi (1)) d_62_21 rfl rfl ?_
        refine x_goto (t := 26) d_62_22 (by decide) ?_
        refine z_iadd (q := 27) d_62_26 rfl ?_
        refine xist_1 (q := 28) d_62_27 rfl ?_
        refine xincz_2 (q := 31) d_62_28 rfl ?_
        refine x_goto (t := 4) d_62_31 (by decide) ?_
        rw [show (j : Int) + 1 = ((j + 1 : Nat) : Int) by omega]
        have e1 : cntI (fun i => freeI F N i) (j + 1) = cntI (fun i => freeI F N i) j + (if freeI F N j = 1 then 1 else 0) := rfl
        first
          | (rw [if_pos (by omega)] at e1; rw [← e1]; exact ih (j + 1) (by omega))
          | (rw [if_neg (by omega)] at e1; rw [← e1]; exact ih (j + 1) (by omega))
set_option maxHeartbeats 1000000 in
theorem c_freeOnes {sc : ax_S} {σ : Nat → ax_C} {I : Nat → Int} {F : Nat → Nat → Int} {n bc bs : Nat} {K : ax_K} (hn : 22 ≤ n) {P N M : Nat} (hV : VW I F P N M) (k : K (some (.int (zi (cntI (fun i => freeI F N i) N)))) (vg σ I F, n, bc, bs)) : Ex sc 62 0 (ax_en 62 [.ref 1]) [] (vg σ I F, n, bc, bs) K := by
  show Ex sc 62 0 [some (.ref 1), none, none] [] (vg σ I F, n, bc, bs) K
  refine x_iconst (q := 1) (v := zi (0)) d_62_0 rfl rfl ?_
  refine xist_1 (q := 2) d_62_1 rfl ?_
  refine x_iconst (q := 3) (v := zi (0)) d_62_2 rfl rfl ?_
  refine xist_2 (q := 4) d_62_3 rfl ?_
  exact lq_freeOnes hn hV k N 0 (by omega)
end
