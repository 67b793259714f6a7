/-! Names: classes, fields, methods; the words that all contracts rest on: those of the tables that a call keeps. -/
def jw_all : List Cond := lw_tbl.filter goodWord
theorem jw_good : ∀ w ∈ jw_all, (w.onTables && w.keeps) = true ∨ ∃ ty, w = .arrayClass ty := fun w h => good_of_word (List.mem_filter.mp h).2
theorem jw_tb {w : Cond} {i : Nat} (h : tables_1[i]? = some w) (hg : goodWord w = true) : w ∈ jw_all := List.mem_filter.mpr ⟨List.mem_append_right _ (List.mem_of_getElem? h), hg⟩
theorem jw_pv {q : MethodName × Nat} {i : Nat} (h : lw_privs[i]? = some q) : Cond.selects q.1.cls q.1 q.1 ∈ jw_all := List.mem_filter.mpr ⟨List.mem_append_left _ (List.mem_map.mpr ⟨q, List.mem_of_getElem? h, rfl⟩), rfl⟩
def R_J : String := "JointHistory"
def F_J : u_T := fun k => match k with
  | 0 => ("JointHistory", "answers", "[LJointHistory$Answer;", true)
  | 1 => ("JointHistory", "navigables", "[LJointHistory$Navigable;", true)
  | 2 => ("JointHistory", "documents", "[LJointHistory$Document;", true)
  | 3 => ("JointHistory", "rows", "[LJointHistory$Entry;", true)
  | 4 => ("JointHistory", "usedSteps", "[I", true)
  | 5 => ("JointHistory", "presentStep", "I", false)
  | 6 => ("JointHistory", "pops", "I", false)
  | 7 => ("JointHistory", "hashes", "I", false)
  | _ => ("JointHistory", "opaques", "I", false)
def t_J : Nat → FieldType := fun k => match k with
  | 0 => .array (.object "JointHistory$Answer")
  | 1 => .array (.object "JointHistory$Navigable")
  | 2 => .array (.object "JointHistory$Document")
  | 3 => .array (.object "JointHistory$Entry")
  | 4 => .array (.int)
  | 5 => .int
  | 6 => .int
  | 7 => .int
  | _ => .int
theorem n_J : ∀ a, a < 9 → ∀ b, b < 9 → a ≠ b → (F_J a).2.1 ≠ (F_J b).2.1 := by decide +kernel
theorem t_J_ok : ∀ k, k < 9 → parseFieldDescriptor (F_J k).2.2.1 = some (t_J k) := by decide +kernel
set_option maxRecDepth 20000 in
theorem jn_J0 : u_lay R_J F_J 0 ∈ jw_all := jw_tb (i := 176) rfl rfl
set_option maxRecDepth 20000 in
theorem jn_J1 : u_lay R_J F_J 1 ∈ jw_all := jw_tb (i := 178) rfl rfl
set_option maxRecDepth 20000 in
theorem jn_J2 : u_lay R_J F_J 2 ∈ jw_all := jw_tb (i := 180) rfl rfl
set_option maxRecDepth 20000 in
theorem jn_J3 : u_lay R_J F_J 3 ∈ jw_all := jw_tb (i := 182) rfl rfl
set_option maxRecDepth 20000 in
theorem jn_J4 : u_lay R_J F_J 4 ∈ jw_all := jw_tb (i := 184) rfl rfl
set_option maxRecDepth 20000 in
theorem jn_J5 : u_lay R_J F_J 5 ∈ jw_all := jw_tb (i := 186) rfl rfl
set_option maxRecDepth 20000 in
theorem jn_J6 : u_lay R_J F_J 6 ∈ jw_all := jw_tb (i := 188) rfl rfl
set_option maxRecDepth 20000 in
theorem jn_J7 : u_lay R_J F_J 7 ∈ jw_all := jw_tb (i := 190) rfl rfl
set_option maxRecDepth 20000 in
theorem jn_J8 : u_lay R_J F_J 8 ∈ jw_all := jw_tb (i := 192) rfl rfl
theorem jn_J : ∀ w ∈ u_ws R_J F_J 9, w ∈ jw_all := by
  intro w hw
  obtain ⟨k, hk, rfl⟩ := List.mem_map.mp hw
  have hk := List.mem_range.mp hk
  match k, hk with
  | 0, _ => exact jn_J0
  | 1, _ => exact jn_J1
  | 2, _ => exact jn_J2
  | 3, _ => exact jn_J3
  | 4, _ => exact jn_J4
  | 5, _ => exact jn_J5
  | 6, _ => exact jn_J6
  | 7, _ => exact jn_J7
  | 8, _ => exact jn_J8
  | k + 9, h => omega
def R_A : String := "JointHistory$Answer"
def F_A : u_T := fun k => match k with
  | 0 => ("JointHistory$Answer", "kind", "LJointHistory$Kind;", false)
  | 1 => ("JointHistory$Answer", "first", "I", false)
  | 2 => ("JointHistory$Answer", "second", "I", false)
  | 3 => ("JointHistory$Answer", "strict", "Z", false)
  | _ => ("JointHistory$Answer", "target", "I", false)
def t_A : Nat → FieldType := fun k => match k with
  | 0 => .object "JointHistory$Kind"
  | 1 => .int
  | 2 => .int
  | 3 => .boolean
  | _ => .int
theorem n_A : ∀ a, a < 5 → ∀ b, b < 5 → a ≠ b → (F_A a).2.1 ≠ (F_A b).2.1 := by decide +kernel
theorem t_A_ok : ∀ k, k < 5 → parseFieldDescriptor (F_A k).2.2.1 = some (t_A k) := by decide +kernel
set_option maxRecDepth 20000 in
theorem jn_A0 : u_lay R_A F_A 0 ∈ jw_all := jw_tb (i := 40) rfl rfl
set_option maxRecDepth 20000 in
theorem jn_A1 : u_lay R_A F_A 1 ∈ jw_all := jw_tb (i := 42) rfl rfl
set_option maxRecDepth 20000 in
theorem jn_A2 : u_lay R_A F_A 2 ∈ jw_all := jw_tb (i := 44) rfl rfl
set_option maxRecDepth 20000 in
theorem jn_A3 : u_lay R_A F_A 3 ∈ jw_all := jw_tb (i := 46) rfl rfl
set_option maxRecDepth 20000 in
theorem jn_A4 : u_lay R_A F_A 4 ∈ jw_all := jw_tb (i := 48) rfl rfl
theorem jn_A : ∀ w ∈ u_ws R_A F_A 5, w ∈ jw_all := by
  intro w hw
  obtain ⟨k, hk, rfl⟩ := List.mem_map.mp hw
  have hk := List.mem_range.mp hk
  match k, hk with
  | 0, _ => exact jn_A0
  | 1, _ => exact jn_A1
  | 2, _ => exact jn_A2
  | 3, _ => exact jn_A3
  | 4, _ => exact jn_A4
  | k + 5, h => omega
def R_N : String := "JointHistory$Navigable"
def F_N : u_T := fun k => match k with
  | 0 => ("JointHistory$Navigable", "number", "I", true)
  | 1 => ("JointHistory$Navigable", "there", "Z", false)
  | 2 => ("JointHistory$Navigable", "level", "I", false)
  | _ => ("JointHistory$Navigable", "above", "LJointHistory$Document;", false)
def t_N : Nat → FieldType := fun k => match k with
  | 0 => .int
  | 1 => .boolean
  | 2 => .int
  | _ => .object "JointHistory$Document"
theorem n_N : ∀ a, a < 4 → ∀ b, b < 4 → a ≠ b → (F_N a).2.1 ≠ (F_N b).2.1 := by decide +kernel
theorem t_N_ok : ∀ k, k < 4 → parseFieldDescriptor (F_N k).2.2.1 = some (t_N k) := by decide +kernel
set_option maxRecDepth 20000 in
theorem jn_N0 : u_lay R_N F_N 0 ∈ jw_all := jw_tb (i := 62) rfl rfl
set_option maxRecDepth 20000 in
theorem jn_N1 : u_lay R_N F_N 1 ∈ jw_all := jw_tb (i := 64) rfl rfl
set_option maxRecDepth 20000 in
theorem jn_N2 : u_lay R_N F_N 2 ∈ jw_all := jw_tb (i := 66) rfl rfl
set_option maxRecDepth 20000 in
theorem jn_N3 : u_lay R_N F_N 3 ∈ jw_all := jw_tb (i := 68) rfl rfl
theorem jn_N : ∀ w ∈ u_ws R_N F_N 4, w ∈ jw_all := by
  intro w hw
  obtain ⟨k, hk, rfl⟩ := List.mem_map.mp hw
  have hk := List.mem_range.mp hk
  match k, hk with
  | 0, _ => exact jn_N0
  | 1, _ => exact jn_N1
  | 2, _ => exact jn_N2
  | 3, _ => exact jn_N3
  | k + 4, h => omega
def R_D : String := "JointHistory$Document"
def F_D : u_T := fun k => match k with
  | 0 => ("JointHistory$Document", "there", "Z", false)
  | 1 => ("JointHistory$Document", "owner", "LJointHistory$Navigable;", false)
  | 2 => ("JointHistory$Document", "origin", "I", false)
  | 3 => ("JointHistory$Document", "sandboxed", "Z", false)
  | 4 => ("JointHistory$Document", "first", "LJointHistory$Navigable;", false)
  | _ => ("JointHistory$Document", "second", "LJointHistory$Navigable;", false)
def t_D : Nat → FieldType := fun k => match k with
  | 0 => .boolean
  | 1 => .object "JointHistory$Navigable"
  | 2 => .int
  | 3 => .boolean
  | 4 => .object "JointHistory$Navigable"
  | _ => .object "JointHistory$Navigable"
theorem n_D : ∀ a, a < 6 → ∀ b, b < 6 → a ≠ b → (F_D a).2.1 ≠ (F_D b).2.1 := by decide +kernel
theorem t_D_ok : ∀ k, k < 6 → parseFieldDescriptor (F_D k).2.2.1 = some (t_D k) := by decide +kernel
set_option maxRecDepth 20000 in
theorem jn_D0 : u_lay R_D F_D 0 ∈ jw_all := jw_tb (i := 82) rfl rfl
set_option maxRecDepth 20000 in
theorem jn_D1 : u_lay R_D F_D 1 ∈ jw_all := jw_tb (i := 84) rfl rfl
set_option maxRecDepth 20000 in
theorem jn_D2 : u_lay R_D F_D 2 ∈ jw_all := jw_tb (i := 86) rfl rfl
set_option maxRecDepth 20000 in
theorem jn_D3 : u_lay R_D F_D 3 ∈ jw_all := jw_tb (i := 88) rfl rfl
set_option maxRecDepth 20000 in
theorem jn_D4 : u_lay R_D F_D 4 ∈ jw_all := jw_tb (i := 90) rfl rfl
set_option maxRecDepth 20000 in
theorem jn_D5 : u_lay R_D F_D 5 ∈ jw_all := jw_tb (i := 92) rfl rfl
theorem jn_D : ∀ w ∈ u_ws R_D F_D 6, w ∈ jw_all := by
  intro w hw
  obtain ⟨k, hk, rfl⟩ := List.mem_map.mp hw
  have hk := List.mem_range.mp hk
  match k, hk with
  | 0, _ => exact jn_D0
  | 1, _ => exact jn_D1
  | 2, _ => exact jn_D2
  | 3, _ => exact jn_D3
  | 4, _ => exact jn_D4
  | 5, _ => exact jn_D5
  | k + 6, h => omega
def R_E : String := "JointHistory$Entry"
def F_E : u_T := fun k => match k with
  | 0 => ("JointHistory$Entry", "there", "Z", false)
  | 1 => ("JointHistory$Entry", "owner", "LJointHistory$Navigable;", false)
  | 2 => ("JointHistory$Entry", "step", "I", false)
  | 3 => ("JointHistory$Entry", "url", "I", false)
  | 4 => ("JointHistory$Entry", "state", "I", false)
  | _ => ("JointHistory$Entry", "document", "LJointHistory$Document;", false)
def t_E : Nat → FieldType := fun k => match k with
  | 0 => .boolean
  | 1 => .object "JointHistory$Navigable"
  | 2 => .int
  | 3 => .int
  | 4 => .int
  | _ => .object "JointHistory$Document"
theorem n_E : ∀ a, a < 6 → ∀ b, b < 6 → a ≠ b → (F_E a).2.1 ≠ (F_E b).2.1 := by decide +kernel
theorem t_E_ok : ∀ k, k < 6 → parseFieldDescriptor (F_E k).2.2.1 = some (t_E k) := by decide +kernel
set_option maxRecDepth 20000 in
theorem jn_E0 : u_lay R_E F_E 0 ∈ jw_all := jw_tb (i := 106) rfl rfl
set_option maxRecDepth 20000 in
theorem jn_E1 : u_lay R_E F_E 1 ∈ jw_all := jw_tb (i := 108) rfl rfl
set_option maxRecDepth 20000 in
theorem jn_E2 : u_lay R_E F_E 2 ∈ jw_all := jw_tb (i := 110) rfl rfl
set_option maxRecDepth 20000 in
theorem jn_E3 : u_lay R_E F_E 3 ∈ jw_all := jw_tb (i := 112) rfl rfl
set_option maxRecDepth 20000 in
theorem jn_E4 : u_lay R_E F_E 4 ∈ jw_all := jw_tb (i := 114) rfl rfl
set_option maxRecDepth 20000 in
theorem jn_E5 : u_lay R_E F_E 5 ∈ jw_all := jw_tb (i := 116) rfl rfl
theorem jn_E : ∀ w ∈ u_ws R_E F_E 6, w ∈ jw_all := by
  intro w hw
  obtain ⟨k, hk, rfl⟩ := List.mem_map.mp hw
  have hk := List.mem_range.mp hk
  match k, hk with
  | 0, _ => exact jn_E0
  | 1, _ => exact jn_E1
  | 2, _ => exact jn_E2
  | 3, _ => exact jn_E3
  | 4, _ => exact jn_E4
  | 5, _ => exact jn_E5
  | k + 6, h => omega
def R_M : String := "JointHistoryModel"
def F_M : u_T := fun k => match k with
  | 0 => ("JointHistoryModel", "answer", "[I", true)
  | 1 => ("JointHistoryModel", "firstOf", "[I", true)
  | 2 => ("JointHistoryModel", "secondOf", "[I", true)
  | 3 => ("JointHistoryModel", "strictOf", "[Z", true)
  | 4 => ("JointHistoryModel", "owner", "[I", true)
  | 5 => ("JointHistoryModel", "stepOf", "[I", true)
  | 6 => ("JointHistoryModel", "urlOf", "[I", true)
  | 7 => ("JointHistoryModel", "stateOf", "[I", true)
  | 8 => ("JointHistoryModel", "paper", "[I", true)
  | 9 => ("JointHistoryModel", "entry", "[Z", true)
  | 10 => ("JointHistoryModel", "there", "[Z", true)
  | 11 => ("JointHistoryModel", "originOf", "[I", true)
  | 12 => ("JointHistoryModel", "sandboxed", "[Z", true)
  | 13 => ("JointHistoryModel", "left", "[I", true)
  | 14 => ("JointHistoryModel", "right", "[I", true)
  | 15 => ("JointHistoryModel", "exists", "[Z", true)
  | 16 => ("JointHistoryModel", "above", "[I", true)
  | 17 => ("JointHistoryModel", "shown", "[Z", true)
  | 18 => ("JointHistoryModel", "then", "[I", true)
  | 19 => ("JointHistoryModel", "keepPaper", "[Z", true)
  | 20 => ("JointHistoryModel", "keepNav", "[Z", true)
  | 21 => ("JointHistoryModel", "now", "I", false)
  | 22 => ("JointHistoryModel", "opaque", "I", false)
  | 23 => ("JointHistoryModel", "pops", "I", false)
  | 24 => ("JointHistoryModel", "hashes", "I", false)
  | _ => ("JointHistoryModel", "landed", "I", false)
def t_M : Nat → FieldType := fun k => match k with
  | 0 => .array (.int)
  | 1 => .array (.int)
  | 2 => .array (.int)
  | 3 => .array (.boolean)
  | 4 => .array (.int)
  | 5 => .array (.int)
  | 6 => .array (.int)
  | 7 => .array (.int)
  | 8 => .array (.int)
  | 9 => .array (.boolean)
  | 10 => .array (.boolean)
  | 11 => .array (.int)
  | 12 => .array (.boolean)
  | 13 => .array (.int)
  | 14 => .array (.int)
  | 15 => .array (.boolean)
  | 16 => .array (.int)
  | 17 => .array (.boolean)
  | 18 => .array (.int)
  | 19 => .array (.boolean)
  | 20 => .array (.boolean)
  | 21 => .int
  | 22 => .int
  | 23 => .int
  | 24 => .int
  | _ => .int
theorem n_M : ∀ a, a < 26 → ∀ b, b < 26 → a ≠ b → (F_M a).2.1 ≠ (F_M b).2.1 := by decide +kernel
theorem t_M_ok : ∀ k, k < 26 → parseFieldDescriptor (F_M k).2.2.1 = some (t_M k) := by decide +kernel
set_option maxRecDepth 20000 in
theorem jn_M0 : u_lay R_M F_M 0 ∈ jw_all := jw_tb (i := 416) rfl rfl
set_option maxRecDepth 20000 in
theorem jn_M1 : u_lay R_M F_M 1 ∈ jw_all := jw_tb (i := 418) rfl rfl
set_option maxRecDepth 20000 in
theorem jn_M2 : u_lay R_M F_M 2 ∈ jw_all := jw_tb (i := 420) rfl rfl
set_option maxRecDepth 20000 in
theorem jn_M3 : u_lay R_M F_M 3 ∈ jw_all := jw_tb (i := 422) rfl rfl
set_option maxRecDepth 20000 in
theorem jn_M4 : u_lay R_M F_M 4 ∈ jw_all := jw_tb (i := 424) rfl rfl
set_option maxRecDepth 20000 in
theorem jn_M5 : u_lay R_M F_M 5 ∈ jw_all := jw_tb (i := 426) rfl rfl
set_option maxRecDepth 20000 in
theorem jn_M6 : u_lay R_M F_M 6 ∈ jw_all := jw_tb (i := 428) rfl rfl
set_option maxRecDepth 20000 in
theorem jn_M7 : u_lay R_M F_M 7 ∈ jw_all := jw_tb (i := 430) rfl rfl
set_option maxRecDepth 20000 in
theorem jn_M8 : u_lay R_M F_M 8 ∈ jw_all := jw_tb (i := 432) rfl rfl
set_option maxRecDepth 20000 in
theorem jn_M9 : u_lay R_M F_M 9 ∈ jw_all := jw_tb (i := 434) rfl rfl
set_option maxRecDepth 20000 in
theorem jn_M10 : u_lay R_M F_M 10 ∈ jw_all := jw_tb (i := 436) rfl rfl
set_option maxRecDepth 20000 in
theorem jn_M11 : u_lay R_M F_M 11 ∈ jw_all := jw_tb (i := 438) rfl rfl
set_option maxRecDepth 20000 in
theorem jn_M12 : u_lay R_M F_M 12 ∈ jw_all := jw_tb (i := 440) rfl rfl
set_option maxRecDepth 20000 in
theorem jn_M13 : u_lay R_M F_M 13 ∈ jw_all := jw_tb (i := 442) rfl rfl
set_option maxRecDepth 20000 in
theorem jn_M14 : u_lay R_M F_M 14 ∈ jw_all := jw_tb (i := 444) rfl rfl
set_option maxRecDepth 20000 in
theorem jn_M15 : u_lay R_M F_M 15 ∈ jw_all := jw_tb (i := 446) rfl rfl
set_option maxRecDepth 20000 in
theorem jn_M16 : u_lay R_M F_M 16 ∈ jw_all := jw_tb (i := 448) rfl rfl
set_option maxRecDepth 20000 in
theorem jn_M17 : u_lay R_M F_M 17 ∈ jw_all := jw_tb (i := 450) rfl rfl
set_option maxRecDepth 20000 in
theorem jn_M18 : u_lay R_M F_M 18 ∈ jw_all := jw_tb (i := 452) rfl rfl
set_option maxRecDepth 20000 in
theorem jn_M19 : u_lay R_M F_M 19 ∈ jw_all := jw_tb (i := 454) rfl rfl
set_option maxRecDepth 20000 in
theorem jn_M20 : u_lay R_M F_M 20 ∈ jw_all := jw_tb (i := 456) rfl rfl
set_option maxRecDepth 20000 in
theorem jn_M21 : u_lay R_M F_M 21 ∈ jw_all := jw_tb (i := 458) rfl rfl
set_option maxRecDepth 20000 in
theorem jn_M22 : u_lay R_M F_M 22 ∈ jw_all := jw_tb (i := 460) rfl rfl
set_option maxRecDepth 20000 in
theorem jn_M23 : u_lay R_M F_M 23 ∈ jw_all := jw_tb (i := 462) rfl rfl
set_option maxRecDepth 20000 in
theorem jn_M24 : u_lay R_M F_M 24 ∈ jw_all := jw_tb (i := 464) rfl rfl
set_option maxRecDepth 20000 in
theorem jn_M25 : u_lay R_M F_M 25 ∈ jw_all := jw_tb (i := 466) rfl rfl
theorem jn_M : ∀ w ∈ u_ws R_M F_M 26, w ∈ jw_all := by
  intro w hw
  obtain ⟨k, hk, rfl⟩ := List.mem_map.mp hw
  have hk := List.mem_range.mp hk
  match k, hk with
  | 0, _ => exact jn_M0
  | 1, _ => exact jn_M1
  | 2, _ => exact jn_M2
  | 3, _ => exact jn_M3
  | 4, _ => exact jn_M4
  | 5, _ => exact jn_M5
  | 6, _ => exact jn_M6
  | 7, _ => exact jn_M7
  | 8, _ => exact jn_M8
  | 9, _ => exact jn_M9
  | 10, _ => exact jn_M10
  | 11, _ => exact jn_M11
  | 12, _ => exact jn_M12
  | 13, _ => exact jn_M13
  | 14, _ => exact jn_M14
  | 15, _ => exact jn_M15
  | 16, _ => exact jn_M16
  | 17, _ => exact jn_M17
  | 18, _ => exact jn_M18
  | 19, _ => exact jn_M19
  | 20, _ => exact jn_M20
  | 21, _ => exact jn_M21
  | 22, _ => exact jn_M22
  | 23, _ => exact jn_M23
  | 24, _ => exact jn_M24
  | 25, _ => exact jn_M25
  | k + 26, h => omega
abbrev classes : List vw_C := [(R_J, F_J, 9), (R_A, F_A, 5), (R_N, F_N, 4), (R_D, F_D, 6), (R_E, F_E, 6), (R_M, F_M, 26)]
abbrev b_J_init : ByteArray := prog_1_method_1_code
def y_J_init : MethodName := ⟨"JointHistory", "<init>", "()V"⟩
abbrev b_A_init : ByteArray := prog_2_method_1_code
def y_A_init : MethodName := ⟨"JointHistory$Answer", "<init>", "()V"⟩
abbrev b_N_init : ByteArray := prog_6_method_1_code
def y_N_init : MethodName := ⟨"JointHistory$Navigable", "<init>", "(I)V"⟩
abbrev b_D_init : ByteArray := prog_3_method_1_code
def y_D_init : MethodName := ⟨"JointHistory$Document", "<init>", "()V"⟩
abbrev b_E_init : ByteArray := prog_4_method_1_code
def y_E_init : MethodName := ⟨"JointHistory$Entry", "<init>", "()V"⟩
abbrev b_J_load : ByteArray := prog_1_method_36_code
def y_J_load : MethodName := ⟨"JointHistory", "load", "(LJointHistory$Navigable;II)LJointHistory$Document;"⟩
abbrev b_J_freeDocument : ByteArray := prog_1_method_41_code
def y_J_freeDocument : MethodName := ⟨"JointHistory", "freeDocument", "(LJointHistory$Navigable;)LJointHistory$Document;"⟩
abbrev b_J_giveOpaqueOrigin : ByteArray := prog_1_method_37_code
def y_J_giveOpaqueOrigin : MethodName := ⟨"JointHistory", "giveOpaqueOrigin", "()I"⟩
abbrev b_J_pageOf : ByteArray := prog_1_method_23_code
def y_J_pageOf : MethodName := ⟨"JointHistory", "pageOf", "(I)I"⟩
abbrev b_J_hostOf : ByteArray := prog_1_method_22_code
def y_J_hostOf : MethodName := ⟨"JointHistory", "hostOf", "(I)I"⟩
abbrev b_J_makeFrames : ByteArray := prog_1_method_38_code
def y_J_makeFrames : MethodName := ⟨"JointHistory", "makeFrames", "(LJointHistory$Document;LJointHistory$Answer;I)V"⟩
abbrev b_J_makeFrame : ByteArray := prog_1_method_39_code
def y_J_makeFrame : MethodName := ⟨"JointHistory", "makeFrame", "(LJointHistory$Document;II)LJointHistory$Navigable;"⟩
abbrev b_J_freeNavigable : ByteArray := prog_1_method_40_code
def y_J_freeNavigable : MethodName := ⟨"JointHistory", "freeNavigable", "()LJointHistory$Navigable;"⟩
abbrev b_J_followDetours : ByteArray := prog_1_method_34_code
def y_J_followDetours : MethodName := ⟨"JointHistory", "followDetours", "(I)I"⟩
abbrev b_J_isDetour : ByteArray := prog_1_method_35_code
def y_J_isDetour : MethodName := ⟨"JointHistory", "isDetour", "(I)Z"⟩
abbrev b_J_fragmentOf : ByteArray := prog_1_method_24_code
def y_J_fragmentOf : MethodName := ⟨"JointHistory", "fragmentOf", "(I)I"⟩
abbrev b_J_addEntry : ByteArray := prog_1_method_42_code
def y_J_addEntry : MethodName := ⟨"JointHistory", "addEntry", "(LJointHistory$Navigable;IIILJointHistory$Document;)V"⟩
abbrev b_J_content : ByteArray := prog_1_method_2_code
def y_J_content : MethodName := ⟨"JointHistory", "content", "(IIIZ)Z"⟩
abbrev b_J_isPage : ByteArray := prog_1_method_18_code
def y_J_isPage : MethodName := ⟨"JointHistory", "isPage", "(I)Z"⟩
abbrev b_J_isFrameChoice : ByteArray := prog_1_method_21_code
def y_J_isFrameChoice : MethodName := ⟨"JointHistory", "isFrameChoice", "(I)Z"⟩
abbrev b_J_isUrlOrBlank : ByteArray := prog_1_method_20_code
def y_J_isUrlOrBlank : MethodName := ⟨"JointHistory", "isUrlOrBlank", "(I)Z"⟩
abbrev b_J_isUrl : ByteArray := prog_1_method_19_code
def y_J_isUrl : MethodName := ⟨"JointHistory", "isUrl", "(I)Z"⟩
abbrev b_J_detour : ByteArray := prog_1_method_3_code
def y_J_detour : MethodName := ⟨"JointHistory", "detour", "(II)Z"⟩
abbrev b_J_fault : ByteArray := prog_1_method_4_code
def y_J_fault : MethodName := ⟨"JointHistory", "fault", "(I)Z"⟩
abbrev b_J_navigate : ByteArray := prog_1_method_5_code
def y_J_navigate : MethodName := ⟨"JointHistory", "navigate", "(IIZ)I"⟩
abbrev b_J_shownEntry : ByteArray := prog_1_method_32_code
def y_J_shownEntry : MethodName := ⟨"JointHistory", "shownEntry", "(II)LJointHistory$Entry;"⟩
abbrev b_J_entryAt : ByteArray := prog_1_method_33_code
def y_J_entryAt : MethodName := ⟨"JointHistory", "entryAt", "(LJointHistory$Navigable;I)LJointHistory$Entry;"⟩
abbrev b_J_isFull : ByteArray := prog_1_method_28_code
def y_J_isFull : MethodName := ⟨"JointHistory", "isFull", "(Z)Z"⟩
abbrev b_J_entriesUpTo : ByteArray := prog_1_method_29_code
def y_J_entriesUpTo : MethodName := ⟨"JointHistory", "entriesUpTo", "(I)I"⟩
abbrev b_J_dropLaterEntries : ByteArray := prog_1_method_44_code
def y_J_dropLaterEntries : MethodName := ⟨"JointHistory", "dropLaterEntries", "()V"⟩
abbrev b_J_dropWhatIsGone : ByteArray := prog_1_method_46_code
def y_J_dropWhatIsGone : MethodName := ⟨"JointHistory", "dropWhatIsGone", "()V"⟩
abbrev b_J_keepOnlyHeldDocuments : ByteArray := prog_1_method_47_code
def y_J_keepOnlyHeldDocuments : MethodName := ⟨"JointHistory", "keepOnlyHeldDocuments", "()V"⟩
abbrev b_J_dropFramesOfGoneDocuments : ByteArray := prog_1_method_48_code
def y_J_dropFramesOfGoneDocuments : MethodName := ⟨"JointHistory", "dropFramesOfGoneDocuments", "()V"⟩
abbrev b_J_dropEntriesOfGoneNavigables : ByteArray := prog_1_method_49_code
def y_J_dropEntriesOfGoneNavigables : MethodName := ⟨"JointHistory", "dropEntriesOfGoneNavigables", "()V"⟩
abbrev b_J_isFragmentMove : ByteArray := prog_1_method_26_code
def y_J_isFragmentMove : MethodName := ⟨"JointHistory", "isFragmentMove", "(II)Z"⟩
abbrev b_J_putEntry : ByteArray := prog_1_method_43_code
def y_J_putEntry : MethodName := ⟨"JointHistory", "putEntry", "(LJointHistory$Entry;IILJointHistory$Document;Z)V"⟩
abbrev b_J_settlePresentStep : ByteArray := prog_1_method_50_code
def y_J_settlePresentStep : MethodName := ⟨"JointHistory", "settlePresentStep", "()V"⟩
abbrev b_J_rewrite : ByteArray := prog_1_method_6_code
def y_J_rewrite : MethodName := ⟨"JointHistory", "rewrite", "(IIIZ)I"⟩
abbrev b_J_mayRewrite : ByteArray := prog_1_method_27_code
def y_J_mayRewrite : MethodName := ⟨"JointHistory", "mayRewrite", "(II)Z"⟩
abbrev b_J_go : ByteArray := prog_1_method_7_code
def y_J_go : MethodName := ⟨"JointHistory", "go", "(I)I"⟩
abbrev b_J_collectUsedSteps : ByteArray := prog_1_method_51_code
def y_J_collectUsedSteps : MethodName := ⟨"JointHistory", "collectUsedSteps", "()I"⟩
abbrev b_J_insertStep : ByteArray := prog_1_method_52_code
def y_J_insertStep : MethodName := ⟨"JointHistory", "insertStep", "(II)I"⟩
abbrev b_J_placeOfPresent : ByteArray := prog_1_method_53_code
def y_J_placeOfPresent : MethodName := ⟨"JointHistory", "placeOfPresent", "(I)I"⟩
abbrev b_J_countMove : ByteArray := prog_1_method_54_code
def y_J_countMove : MethodName := ⟨"JointHistory", "countMove", "(LJointHistory$Entry;LJointHistory$Entry;)V"⟩
abbrev b_J_detach : ByteArray := prog_1_method_8_code
def y_J_detach : MethodName := ⟨"JointHistory", "detach", "(I)I"⟩
abbrev b_J_takeOut : ByteArray := prog_1_method_45_code
def y_J_takeOut : MethodName := ⟨"JointHistory", "takeOut", "(LJointHistory$Navigable;)V"⟩
abbrev b_J_url : ByteArray := prog_1_method_9_code
def y_J_url : MethodName := ⟨"JointHistory", "url", "(I)I"⟩
abbrev b_J_state : ByteArray := prog_1_method_10_code
def y_J_state : MethodName := ⟨"JointHistory", "state", "(I)J"⟩
abbrev b_J_step : ByteArray := prog_1_method_11_code
def y_J_step : MethodName := ⟨"JointHistory", "step", "(I)I"⟩
abbrev b_J_origin : ByteArray := prog_1_method_12_code
def y_J_origin : MethodName := ⟨"JointHistory", "origin", "(I)I"⟩
abbrev b_J_frame : ByteArray := prog_1_method_13_code
def y_J_frame : MethodName := ⟨"JointHistory", "frame", "(II)I"⟩
abbrev b_J_numberOf : ByteArray := prog_1_method_25_code
def y_J_numberOf : MethodName := ⟨"JointHistory", "numberOf", "(LJointHistory$Navigable;)I"⟩
abbrev b_J_entries : ByteArray := prog_1_method_14_code
def y_J_entries : MethodName := ⟨"JointHistory", "entries", "(I)I"⟩
abbrev b_J_present : ByteArray := prog_1_method_15_code
def y_J_present : MethodName := ⟨"JointHistory", "present", "()I"⟩
abbrev b_J_length : ByteArray := prog_1_method_16_code
def y_J_length : MethodName := ⟨"JointHistory", "length", "()I"⟩
abbrev b_J_count : ByteArray := prog_1_method_17_code
def y_J_count : MethodName := ⟨"JointHistory", "count", "(I)I"⟩
abbrev b_J_shownNavigables : ByteArray := prog_1_method_31_code
def y_J_shownNavigables : MethodName := ⟨"JointHistory", "shownNavigables", "()I"⟩
abbrev b_J_allNavigables : ByteArray := prog_1_method_30_code
def y_J_allNavigables : MethodName := ⟨"JointHistory", "allNavigables", "()I"⟩
abbrev b_M_init : ByteArray := prog_8_method_1_code
def y_M_init : MethodName := ⟨"JointHistoryModel", "<init>", "()V"⟩
abbrev b_M_make : ByteArray := prog_8_method_7_code
def y_M_make : MethodName := ⟨"JointHistoryModel", "make", "(II)I"⟩
abbrev b_M_freshOrigin : ByteArray := prog_8_method_6_code
def y_M_freshOrigin : MethodName := ⟨"JointHistoryModel", "freshOrigin", "()I"⟩
abbrev b_M_write : ByteArray := prog_8_method_8_code
def y_M_write : MethodName := ⟨"JointHistoryModel", "write", "(IIII)I"⟩
abbrev b_M_mark : ByteArray := prog_8_method_17_code
def y_M_mark : MethodName := ⟨"JointHistoryModel", "mark", "()V"⟩
abbrev b_M_keep : ByteArray := prog_8_method_16_code
def y_M_keep : MethodName := ⟨"JointHistoryModel", "keep", "(I)V"⟩
abbrev b_M_presentOf : ByteArray := prog_8_method_19_code
def y_M_presentOf : MethodName := ⟨"JointHistoryModel", "presentOf", "(I)I"⟩
abbrev b_M_show : ByteArray := prog_8_method_18_code
def y_M_show : MethodName := ⟨"JointHistoryModel", "show", "(I)V"⟩
abbrev b_M_content : ByteArray := prog_8_method_3_code
def y_M_content : MethodName := ⟨"JointHistoryModel", "content", "(IIIZ)Z"⟩
abbrev b_M_between : ByteArray := prog_8_method_2_code
def y_M_between : MethodName := ⟨"JointHistoryModel", "between", "(III)Z"⟩
abbrev b_M_detour : ByteArray := prog_8_method_4_code
def y_M_detour : MethodName := ⟨"JointHistoryModel", "detour", "(II)Z"⟩
abbrev b_M_fault : ByteArray := prog_8_method_5_code
def y_M_fault : MethodName := ⟨"JointHistoryModel", "fault", "(I)Z"⟩
abbrev b_M_navigate : ByteArray := prog_8_method_27_code
def y_M_navigate : MethodName := ⟨"JointHistoryModel", "navigate", "(IIZ)I"⟩
abbrev b_M_isShown : ByteArray := prog_8_method_20_code
def y_M_isShown : MethodName := ⟨"JointHistoryModel", "isShown", "(I)Z"⟩
abbrev b_M_full : ByteArray := prog_8_method_23_code
def y_M_full : MethodName := ⟨"JointHistoryModel", "full", "(Z)Z"⟩
abbrev b_M_fragment : ByteArray := prog_8_method_26_code
def y_M_fragment : MethodName := ⟨"JointHistoryModel", "fragment", "(I)I"⟩
abbrev b_M_enter : ByteArray := prog_8_method_25_code
def y_M_enter : MethodName := ⟨"JointHistoryModel", "enter", "(IIIZI)V"⟩
abbrev b_M_cutOff : ByteArray := prog_8_method_24_code
def y_M_cutOff : MethodName := ⟨"JointHistoryModel", "cutOff", "()V"⟩
abbrev b_M_load : ByteArray := prog_8_method_15_code
def y_M_load : MethodName := ⟨"JointHistoryModel", "load", "(III)I"⟩
abbrev b_M_deep : ByteArray := prog_8_method_14_code
def y_M_deep : MethodName := ⟨"JointHistoryModel", "deep", "(I)I"⟩
abbrev b_M_loadWindow : ByteArray := prog_8_method_13_code
def y_M_loadWindow : MethodName := ⟨"JointHistoryModel", "loadWindow", "(II)I"⟩
abbrev b_M_wanted : ByteArray := prog_8_method_11_code
def y_M_wanted : MethodName := ⟨"JointHistoryModel", "wanted", "(III)I"⟩
abbrev b_M_frameFor : ByteArray := prog_8_method_9_code
def y_M_frameFor : MethodName := ⟨"JointHistoryModel", "frameFor", "(III)I"⟩
abbrev b_M_paperOf : ByteArray := prog_8_method_10_code
def y_M_paperOf : MethodName := ⟨"JointHistoryModel", "paperOf", "(I)I"⟩
abbrev b_M_loadMiddle : ByteArray := prog_8_method_12_code
def y_M_loadMiddle : MethodName := ⟨"JointHistoryModel", "loadMiddle", "(III)I"⟩
abbrev b_M_settle : ByteArray := prog_8_method_22_code
def y_M_settle : MethodName := ⟨"JointHistoryModel", "settle", "()V"⟩
abbrev b_M_used : ByteArray := prog_8_method_21_code
def y_M_used : MethodName := ⟨"JointHistoryModel", "used", "(I)Z"⟩
abbrev b_M_rewrite : ByteArray := prog_8_method_28_code
def y_M_rewrite : MethodName := ⟨"JointHistoryModel", "rewrite", "(IIIZ)I"⟩
abbrev b_M_go : ByteArray := prog_8_method_30_code
def y_M_go : MethodName := ⟨"JointHistoryModel", "go", "(I)I"⟩
abbrev b_M_stepAt : ByteArray := prog_8_method_29_code
def y_M_stepAt : MethodName := ⟨"JointHistoryModel", "stepAt", "(J)I"⟩
abbrev b_M_detach : ByteArray := prog_8_method_31_code
def y_M_detach : MethodName := ⟨"JointHistoryModel", "detach", "(I)I"⟩
abbrev b_M_url : ByteArray := prog_8_method_32_code
def y_M_url : MethodName := ⟨"JointHistoryModel", "url", "(I)I"⟩
abbrev b_M_state : ByteArray := prog_8_method_33_code
def y_M_state : MethodName := ⟨"JointHistoryModel", "state", "(I)J"⟩
abbrev b_M_step : ByteArray := prog_8_method_34_code
def y_M_step : MethodName := ⟨"JointHistoryModel", "step", "(I)I"⟩
abbrev b_M_origin : ByteArray := prog_8_method_35_code
def y_M_origin : MethodName := ⟨"JointHistoryModel", "origin", "(I)I"⟩
abbrev b_M_frame : ByteArray := prog_8_method_36_code
def y_M_frame : MethodName := ⟨"JointHistoryModel", "frame", "(II)I"⟩
abbrev b_M_entries : ByteArray := prog_8_method_37_code
def y_M_entries : MethodName := ⟨"JointHistoryModel", "entries", "(I)I"⟩
abbrev b_M_present : ByteArray := prog_8_method_38_code
def y_M_present : MethodName := ⟨"JointHistoryModel", "present", "()I"⟩
abbrev b_M_length : ByteArray := prog_8_method_39_code
def y_M_length : MethodName := ⟨"JointHistoryModel", "length", "()I"⟩
abbrev b_M_count : ByteArray := prog_8_method_40_code
def y_M_count : MethodName := ⟨"JointHistoryModel", "count", "(I)I"⟩
