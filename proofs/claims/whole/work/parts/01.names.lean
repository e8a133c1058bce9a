/-! ===== names, fields, words: written by program ===== -/
abbrev R_K : String := "PagedKernel"
abbrev R_MEM : String := "PagedKernel$Memory"
abbrev R_T : String := "PagedKernel$Task"
abbrev R_P : String := "PagedKernel$Pipe"
abbrev R_ROW : String := "PagedKernel$Row"
abbrev R_X : String := "PagedKernel$Machine"
abbrev R_MOD : String := "PagedKernelModel"
abbrev R_LAW : String := "PagedKernelLaw"
abbrev R_Task : String := R_T
abbrev R_Pipe : String := R_P
def F_K : u_T := fun k => match k with
  | 0 => ("PagedKernel", "memory", "LPagedKernel$Memory;", true)
  | 1 => ("PagedKernel", "tasks", "[LPagedKernel$Task;", true)
  | 2 => ("PagedKernel", "pipes", "[LPagedKernel$Pipe;", true)
  | 3 => ("PagedKernel", "row", "LPagedKernel$Row;", true)
  | 4 => ("PagedKernel", "quantum", "I", true)
  | 5 => ("PagedKernel", "program", "[I", true)
  | 6 => ("PagedKernel", "printed", "[I", true)
  | 7 => ("PagedKernel", "programLength", "I", false)
  | 8 => ("PagedKernel", "printedLength", "I", false)
  | 9 => ("PagedKernel", "booted", "Z", false)
  | 10 => ("PagedKernel", "turn", "I", false)
  | 11 => ("PagedKernel", "stepsLeft", "I", false)
  | _ => ("PagedKernel", "yielded", "Z", false)
def ft_K : Nat → FieldType := fun k => match k with
  | 0 => .object "PagedKernel$Memory"
  | 1 => .array (.object "PagedKernel$Task")
  | 2 => .array (.object "PagedKernel$Pipe")
  | 3 => .object "PagedKernel$Row"
  | 4 => .int
  | 5 => .array .int
  | 6 => .array .int
  | 7 => .int
  | 8 => .int
  | 9 => .boolean
  | 10 => .int
  | 11 => .int
  | _ => .boolean
def F_MEM : u_T := fun k => match k with
  | 0 => ("PagedKernel$Memory", "words", "[I", true)
  | 1 => ("PagedKernel$Memory", "used", "[Z", true)
  | _ => ("PagedKernel$Memory", "unused", "I", false)
def ft_MEM : Nat → FieldType := fun k => match k with
  | 0 => .array .int
  | 1 => .array .boolean
  | _ => .int
def F_T : u_T := fun k => match k with
  | 0 => ("PagedKernel$Task", "number", "I", true)
  | 1 => ("PagedKernel$Task", "registers", "[I", true)
  | 2 => ("PagedKernel$Task", "frames", "[I", true)
  | 3 => ("PagedKernel$Task", "descriptors", "[I", true)
  | 4 => ("PagedKernel$Task", "pageCount", "I", false)
  | 5 => ("PagedKernel$Task", "state", "I", false)
  | 6 => ("PagedKernel$Task", "counter", "I", false)
  | 7 => ("PagedKernel$Task", "parent", "I", false)
  | _ => ("PagedKernel$Task", "exit", "I", false)
def ft_T : Nat → FieldType := fun k => match k with
  | 0 => .int
  | 1 => .array .int
  | 2 => .array .int
  | 3 => .array .int
  | 4 => .int
  | 5 => .int
  | 6 => .int
  | 7 => .int
  | _ => .int
def F_P : u_T := fun k => match k with
  | 0 => ("PagedKernel$Pipe", "bytes", "[I", true)
  | 1 => ("PagedKernel$Pipe", "first", "I", false)
  | _ => ("PagedKernel$Pipe", "count", "I", false)
def ft_P : Nat → FieldType := fun k => match k with
  | 0 => .array .int
  | 1 => .int
  | _ => .int
def F_ROW : u_T := fun k => match k with
  | 0 => ("PagedKernel$Row", "numbers", "[I", true)
  | _ => ("PagedKernel$Row", "size", "I", false)
def ft_ROW : Nat → FieldType := fun k => match k with
  | 0 => .array .int
  | _ => .int
def F_MOD : u_T := fun k => match k with
  | 0 => ("PagedKernelModel", "frames", "I", false)
  | 1 => ("PagedKernelModel", "quantum", "I", false)
  | 2 => ("PagedKernelModel", "memory", "[I", true)
  | 3 => ("PagedKernelModel", "holder", "[I", true)
  | 4 => ("PagedKernelModel", "loaded", "I", false)
  | 5 => ("PagedKernelModel", "program", "[I", true)
  | 6 => ("PagedKernelModel", "booted", "Z", false)
  | 7 => ("PagedKernelModel", "state", "[I", true)
  | 8 => ("PagedKernelModel", "exit", "[I", true)
  | 9 => ("PagedKernelModel", "parent", "[I", true)
  | 10 => ("PagedKernelModel", "at", "[I", true)
  | 11 => ("PagedKernelModel", "size", "[I", true)
  | 12 => ("PagedKernelModel", "x", "[I", true)
  | 13 => ("PagedKernelModel", "page", "[I", true)
  | 14 => ("PagedKernelModel", "ends", "[I", true)
  | 15 => ("PagedKernelModel", "many", "I", false)
  | 16 => ("PagedKernelModel", "row", "[I", true)
  | 17 => ("PagedKernelModel", "turn", "I", false)
  | 18 => ("PagedKernelModel", "used", "I", false)
  | 19 => ("PagedKernelModel", "yields", "Z", false)
  | 20 => ("PagedKernelModel", "bytes", "[I", true)
  | 21 => ("PagedKernelModel", "count", "[I", true)
  | 22 => ("PagedKernelModel", "shown", "I", false)
  | 23 => ("PagedKernelModel", "screen", "[I", true)
  | 24 => ("PagedKernelModel", "me", "I", false)
  | 25 => ("PagedKernelModel", "w", "I", false)
  | 26 => ("PagedKernelModel", "next", "I", false)
  | _ => ("PagedKernelModel", "goes", "Z", false)
def ft_MOD : Nat → FieldType := fun k => match k with
  | 0 => .int
  | 1 => .int
  | 2 => .array .int
  | 3 => .array .int
  | 4 => .int
  | 5 => .array .int
  | 6 => .boolean
  | 7 => .array .int
  | 8 => .array .int
  | 9 => .array .int
  | 10 => .array .int
  | 11 => .array .int
  | 12 => .array .int
  | 13 => .array .int
  | 14 => .array .int
  | 15 => .int
  | 16 => .array .int
  | 17 => .int
  | 18 => .int
  | 19 => .boolean
  | 20 => .array .int
  | 21 => .array .int
  | 22 => .int
  | 23 => .array .int
  | 24 => .int
  | 25 => .int
  | 26 => .int
  | _ => .boolean
def cls : List vw_C := [(R_K, F_K, 13), (R_MEM, F_MEM, 3), (R_T, F_T, 9), (R_P, F_P, 3), (R_ROW, F_ROW, 2), (R_MOD, F_MOD, 28)]
def tyT : Nat → Nat → FieldType := fun ci => match ci with
  | 0 => ft_K
  | 1 => ft_MEM
  | 2 => ft_T
  | 3 => ft_P
  | 4 => ft_ROW
  | _ => ft_MOD
/-- the words that go along into every callee -/
def gw : List Cond := lw_tbl.filter goodWord
theorem gw_at (i : Nat) {w : Cond} (h : lw_tbl[i]? = some w) (hg : goodWord w = true) : w ∈ gw := List.mem_filter.mpr ⟨List.mem_of_getElem? h, hg⟩
theorem ci_K : ∀ w ∈ u_ws R_K F_K 13, w ∈ gw := by decide +kernel
theorem ci_MEM : ∀ w ∈ u_ws R_MEM F_MEM 3, w ∈ gw := by decide +kernel
theorem ci_T : ∀ w ∈ u_ws R_T F_T 9, w ∈ gw := by decide +kernel
theorem ci_P : ∀ w ∈ u_ws R_P F_P 3, w ∈ gw := by decide +kernel
theorem ci_ROW : ∀ w ∈ u_ws R_ROW F_ROW 2, w ∈ gw := by decide +kernel
theorem ci_MOD : ∀ w ∈ u_ws R_MOD F_MOD 28, w ∈ gw := by decide +kernel
theorem cls_in : ∀ (ci : Nat) (q : vw_C), cls[ci]? = some q → ∀ w ∈ u_ws q.1 q.2.1 q.2.2, w ∈ gw := by
  intro ci q hq
  match ci, hq with
  | 0, hq => cases hq; exact ci_K
  | 1, hq => cases hq; exact ci_MEM
  | 2, hq => cases hq; exact ci_T
  | 3, hq => cases hq; exact ci_P
  | 4, hq => cases hq; exact ci_ROW
  | 5, hq => cases hq; exact ci_MOD
  | k + 6, hq => simp [cls] at hq
theorem cls_ty : ∀ (ci : Nat) (q : vw_C), cls[ci]? = some q → ∀ k, k < q.2.2 → parseFieldDescriptor (q.2.1 k).2.2.1 = some (tyT ci k) := by
  intro ci q hq
  match ci, hq with
  | 0, hq => cases hq; decide +kernel
  | 1, hq => cases hq; decide +kernel
  | 2, hq => cases hq; decide +kernel
  | 3, hq => cases hq; decide +kernel
  | 4, hq => cases hq; decide +kernel
  | 5, hq => cases hq; decide +kernel
  | k + 6, hq => simp [cls] at hq
theorem cls_nm : ∀ (ci : Nat) (q : vw_C), cls[ci]? = some q → ∀ a, a < q.2.2 → ∀ b, b < q.2.2 → a ≠ b → (q.2.1 a).2.1 ≠ (q.2.1 b).2.1 := by
  intro ci q hq
  match ci, hq with
  | 0, hq => cases hq; decide +kernel
  | 1, hq => cases hq; decide +kernel
  | 2, hq => cases hq; decide +kernel
  | 3, hq => cases hq; decide +kernel
  | 4, hq => cases hq; decide +kernel
  | 5, hq => cases hq; decide +kernel
  | k + 6, hq => simp [cls] at hq
theorem cls_df : ∀ (ci : Nat) (q : vw_C), cls[ci]? = some q → ∀ k, k < q.2.2 → defaultValue (tyT ci k) = if refKind (tyT ci k) = true then .null else .int 0 := by
  intro ci q hq
  match ci, hq with
  | 0, hq => cases hq; decide +kernel
  | 1, hq => cases hq; decide +kernel
  | 2, hq => cases hq; decide +kernel
  | 3, hq => cases hq; decide +kernel
  | 4, hq => cases hq; decide +kernel
  | 5, hq => cases hq; decide +kernel
  | k + 6, hq => simp [cls] at hq
