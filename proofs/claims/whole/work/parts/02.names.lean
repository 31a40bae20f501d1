/-! Names: classes, fields, cells, words (written by program out of the claim's tables). -/
def zCn (ci : Nat) : String := match ci with
  | 0 => "ConstantFlow"
  | 1 => "ConstantFlow$Text"
  | 2 => "ConstantFlow$Reader"
  | 3 => "ConstantFlow$Facts"
  | 4 => "ConstantFlow$View"
  | 5 => "ConstantFlow$Machine"
  | 6 => "ConstantFlow$Program"
  | _ => "ConstantFlowModel"
def zT0 : u_T := fun k => match k with
  | 0 => ("ConstantFlow", "tape", "LConstantFlow$Text;", true)
  | 1 => ("ConstantFlow", "rewritten", "LConstantFlow$Text;", true)
  | 2 => ("ConstantFlow", "reader", "LConstantFlow$Reader;", true)
  | 3 => ("ConstantFlow", "facts", "LConstantFlow$Facts;", true)
  | 4 => ("ConstantFlow", "machine", "LConstantFlow$Machine;", true)
  | 5 => ("ConstantFlow", "program", "LConstantFlow$Program;", false)
  | _ => ("ConstantFlow", "spare", "LConstantFlow$Program;", false)
def zy0 : Nat → FieldType := fun k => match k with
  | 0 => .object "ConstantFlow$Text"
  | 1 => .object "ConstantFlow$Text"
  | 2 => .object "ConstantFlow$Reader"
  | 3 => .object "ConstantFlow$Facts"
  | 4 => .object "ConstantFlow$Machine"
  | 5 => .object "ConstantFlow$Program"
  | _ => .object "ConstantFlow$Program"
def zT1 : u_T := fun k => match k with
  | 0 => ("ConstantFlow$Text", "bytes", "[B", true)
  | _ => ("ConstantFlow$Text", "length", "I", false)
def zy1 : Nat → FieldType := fun k => match k with
  | 0 => .array .byte
  | _ => .int
def zT2 : u_T := fun k => match k with
  | 0 => ("ConstantFlow$Reader", "tape", "LConstantFlow$Text;", true)
  | 1 => ("ConstantFlow$Reader", "goalPlaces", "[I", true)
  | 2 => ("ConstantFlow$Reader", "program", "LConstantFlow$Program;", false)
  | 3 => ("ConstantFlow$Reader", "at", "I", false)
  | 4 => ("ConstantFlow$Reader", "lastNumber", "I", false)
  | 5 => ("ConstantFlow$Reader", "fault", "I", false)
  | _ => ("ConstantFlow$Reader", "faultPlace", "I", false)
def zy2 : Nat → FieldType := fun k => match k with
  | 0 => .object "ConstantFlow$Text"
  | 1 => .array .int
  | 2 => .object "ConstantFlow$Program"
  | 3 => .int
  | 4 => .int
  | 5 => .int
  | _ => .int
def zT3 : u_T := fun k => match k with
  | 0 => ("ConstantFlow$Facts", "come", "[Z", true)
  | 1 => ("ConstantFlow$Facts", "stale", "[Z", true)
  | 2 => ("ConstantFlow$Facts", "beginnings", "[LConstantFlow$View;", true)
  | 3 => ("ConstantFlow$Facts", "ends", "[LConstantFlow$View;", true)
  | 4 => ("ConstantFlow$Facts", "allZero", "LConstantFlow$View;", true)
  | 5 => ("ConstantFlow$Facts", "walking", "LConstantFlow$View;", true)
  | 6 => ("ConstantFlow$Facts", "newNumber", "[I", true)
  | _ => ("ConstantFlow$Facts", "tally", "[I", true)
def zy3 : Nat → FieldType := fun k => match k with
  | 0 => .array .boolean
  | 1 => .array .boolean
  | 2 => .array (.object "ConstantFlow$View")
  | 3 => .array (.object "ConstantFlow$View")
  | 4 => .object "ConstantFlow$View"
  | 5 => .object "ConstantFlow$View"
  | 6 => .array .int
  | _ => .array .int
def zT4 : u_T := fun k => match k with
  | 0 => ("ConstantFlow$View", "any", "[Z", true)
  | _ => ("ConstantFlow$View", "numbers", "[I", true)
def zy4 : Nat → FieldType := fun k => match k with
  | 0 => .array .boolean
  | _ => .array .int
def zT5 : u_T := fun k => match k with
  | 0 => ("ConstantFlow$Machine", "inputs", "[I", true)
  | 1 => ("ConstantFlow$Machine", "inputCount", "I", false)
  | 2 => ("ConstantFlow$Machine", "values", "[I", true)
  | _ => ("ConstantFlow$Machine", "met", "I", false)
def zy5 : Nat → FieldType := fun k => match k with
  | 0 => .array .int
  | 1 => .int
  | 2 => .array .int
  | _ => .int
def zT6 : u_T := fun k => match k with
  | 0 => ("ConstantFlow$Program", "blocks", "I", false)
  | 1 => ("ConstantFlow$Program", "statements", "I", false)
  | 2 => ("ConstantFlow$Program", "first", "[I", true)
  | 3 => ("ConstantFlow$Program", "assigned", "[I", true)
  | 4 => ("ConstantFlow$Program", "operators", "[I", true)
  | 5 => ("ConstantFlow$Program", "isVariable", "[Z", true)
  | 6 => ("ConstantFlow$Program", "operands", "[I", true)
  | 7 => ("ConstantFlow$Program", "endKind", "[I", true)
  | _ => ("ConstantFlow$Program", "goals", "[I", true)
def zy6 : Nat → FieldType := fun k => match k with
  | 0 => .int
  | 1 => .int
  | 2 => .array .int
  | 3 => .array .int
  | 4 => .array .int
  | 5 => .array .boolean
  | 6 => .array .int
  | 7 => .array .int
  | _ => .array .int
def zT7 : u_T := fun k => match k with
  | 0 => ("ConstantFlowModel", "thrown", "I", false)
  | 1 => ("ConstantFlowModel", "tape", "[I", true)
  | 2 => ("ConstantFlowModel", "size", "I", false)
  | 3 => ("ConstantFlowModel", "fault", "I", false)
  | 4 => ("ConstantFlowModel", "place", "I", false)
  | 5 => ("ConstantFlowModel", "at", "I", false)
  | 6 => ("ConstantFlowModel", "blocks", "I", false)
  | 7 => ("ConstantFlowModel", "statements", "I", false)
  | 8 => ("ConstantFlowModel", "rows", "[I", true)
  | 9 => ("ConstantFlowModel", "ends", "[I", true)
  | 10 => ("ConstantFlowModel", "begins", "[I", true)
  | 11 => ("ConstantFlowModel", "newBlocks", "I", false)
  | 12 => ("ConstantFlowModel", "newStatements", "I", false)
  | 13 => ("ConstantFlowModel", "newRows", "[I", true)
  | 14 => ("ConstantFlowModel", "newEnds", "[I", true)
  | 15 => ("ConstantFlowModel", "newBegins", "[I", true)
  | 16 => ("ConstantFlowModel", "targetPlaces", "[I", true)
  | 17 => ("ConstantFlowModel", "operandKind", "I", false)
  | 18 => ("ConstantFlowModel", "operandValue", "I", false)
  | 19 => ("ConstantFlowModel", "known", "Z", false)
  | 20 => ("ConstantFlowModel", "come", "[Z", true)
  | 21 => ("ConstantFlowModel", "sorts", "[I", true)
  | 22 => ("ConstantFlowModel", "numbers", "[I", true)
  | 23 => ("ConstantFlowModel", "nowSorts", "[I", true)
  | 24 => ("ConstantFlowModel", "nowNumbers", "[I", true)
  | 25 => ("ConstantFlowModel", "madeSort", "I", false)
  | 26 => ("ConstantFlowModel", "made", "I", false)
  | 27 => ("ConstantFlowModel", "written", "[I", true)
  | 28 => ("ConstantFlowModel", "writtenSize", "I", false)
  | 29 => ("ConstantFlowModel", "inputs", "[I", true)
  | 30 => ("ConstantFlowModel", "inputCount", "I", false)
  | 31 => ("ConstantFlowModel", "values", "[I", true)
  | _ => ("ConstantFlowModel", "asked", "I", false)
def zy7 : Nat → FieldType := fun k => match k with
  | 0 => .int
  | 1 => .array .int
  | 2 => .int
  | 3 => .int
  | 4 => .int
  | 5 => .int
  | 6 => .int
  | 7 => .int
  | 8 => .array .int
  | 9 => .array .int
  | 10 => .array .int
  | 11 => .int
  | 12 => .int
  | 13 => .array .int
  | 14 => .array .int
  | 15 => .array .int
  | 16 => .array .int
  | 17 => .int
  | 18 => .int
  | 19 => .boolean
  | 20 => .array .boolean
  | 21 => .array .int
  | 22 => .array .int
  | 23 => .array .int
  | 24 => .array .int
  | 25 => .int
  | 26 => .int
  | 27 => .array .int
  | 28 => .int
  | 29 => .array .int
  | 30 => .int
  | 31 => .array .int
  | _ => .int
def zFT (ci : Nat) : u_T := match ci with
  | 0 => zT0
  | 1 => zT1
  | 2 => zT2
  | 3 => zT3
  | 4 => zT4
  | 5 => zT5
  | 6 => zT6
  | _ => zT7
def zty (ci : Nat) : Nat → FieldType := match ci with
  | 0 => zy0
  | 1 => zy1
  | 2 => zy2
  | 3 => zy3
  | 4 => zy4
  | 5 => zy5
  | 6 => zy6
  | _ => zy7
def znf (ci : Nat) : Nat := match ci with
  | 0 => 7
  | 1 => 2
  | 2 => 7
  | 3 => 8
  | 4 => 2
  | 5 => 4
  | 6 => 9
  | _ => 33
def zsty (t j : Nat) : Nat := if t = 13 then 1 else if t = 14 then 2 else match t with
  | 0 => if [0, 1, 2, 3, 4, 5, 6].contains j then 1 else 0
  | 1 => if [0].contains j then 1 else 0
  | 2 => if [0, 1, 2].contains j then 1 else 0
  | 3 => if [0, 1, 2, 3, 4, 5, 6, 7].contains j then 1 else 0
  | 4 => if [0, 1].contains j then 1 else 0
  | 5 => if [0, 2].contains j then 1 else 0
  | 6 => if [2, 3, 4, 5, 6, 7, 8].contains j then 1 else 0
  | 7 => if [1, 8, 9, 10, 13, 14, 15, 16, 20, 21, 22, 23, 24, 27, 29, 31].contains j then 1 else 0
  | _ => 0
/-- the cells in the order in which they are made: kind (a class's number; 10 int[], 11 boolean[], 12 byte[], 13 View[], 14 long[]) and length -/
def zkd (k : Nat) : Nat × Nat := if k < 20 then ([(0, 0), (1, 0), (12, 700), (1, 0), (12, 1448), (2, 0), (10, 48), (3, 0), (11, 24), (11, 24), (13, 24), (13, 24), (4, 0), (11, 8), (10, 8), (4, 0), (11, 8), (10, 8), (10, 24), (10, 7)] : List (Nat × Nat)).getD k (99, 0) else if k < 164 then ([(4, 0), (11, 8), (10, 8)] : List (Nat × Nat)).getD ((k - 20) % 3) (99, 0) else ([(5, 0), (10, 32), (10, 8), (6, 0), (10, 25), (10, 80), (10, 80), (11, 184), (10, 184), (10, 24), (10, 48), (6, 0), (10, 25), (10, 80), (10, 80), (11, 184), (10, 184), (10, 24), (10, 48), (7, 0), (10, 700), (10, 560), (10, 120), (10, 25), (10, 560), (10, 120), (10, 25), (10, 48), (11, 24), (10, 192), (10, 192), (10, 8), (10, 8), (10, 1700), (10, 32), (10, 8), (14, 1)] : List (Nat × Nat)).getD (k - 164) (99, 0)
abbrev zcl : List vw_C := [("ConstantFlow", zT0, 7), ("ConstantFlow$Text", zT1, 2), ("ConstantFlow$Reader", zT2, 7), ("ConstantFlow$Facts", zT3, 8), ("ConstantFlow$View", zT4, 2), ("ConstantFlow$Machine", zT5, 4), ("ConstantFlow$Program", zT6, 9), ("ConstantFlowModel", zT7, 33)]
abbrev ztys (cA : Nat → ClassId) : List (ClassId × FieldType) := [(cA 10, .int), (cA 11, .boolean), (cA 12, .byte), (cA 13, .object "ConstantFlow$View"), (cA 14, .long)]
theorem zcl_at : ∀ ci, ci < 8 → zcl[ci]? = some (zCn ci, zFT ci, znf ci)
  | 0, _ => rfl
  | 1, _ => rfl
  | 2, _ => rfl
  | 3, _ => rfl
  | 4, _ => rfl
  | 5, _ => rfl
  | 6, _ => rfl
  | 7, _ => rfl
  | _ + 8, h => absurd h (by omega)
theorem znm0 : ∀ a, a < 7 → ∀ b, b < 7 → a ≠ b → (zT0 a).2.1 ≠ (zT0 b).2.1 := by decide +kernel
theorem zpar0 : ∀ k, k < 7 → parseFieldDescriptor (zT0 k).2.2.1 = some (zy0 k) := by decide +kernel
theorem zto0 : ∀ k, k < 7 → (zT0 k).1 = "ConstantFlow" := by decide +kernel
theorem zdef0 : ∀ k, k < 7 → defaultValue (zy0 k) = if zsty 0 k = 1 then .null else .int 0 := by decide +kernel
theorem zst20 : ∀ k, k < 7 → zsty 0 k = 0 ∨ zsty 0 k = 1 := by decide +kernel
theorem znm1 : ∀ a, a < 2 → ∀ b, b < 2 → a ≠ b → (zT1 a).2.1 ≠ (zT1 b).2.1 := by decide +kernel
theorem zpar1 : ∀ k, k < 2 → parseFieldDescriptor (zT1 k).2.2.1 = some (zy1 k) := by decide +kernel
theorem zto1 : ∀ k, k < 2 → (zT1 k).1 = "ConstantFlow$Text" := by decide +kernel
theorem zdef1 : ∀ k, k < 2 → defaultValue (zy1 k) = if zsty 1 k = 1 then .null else .int 0 := by decide +kernel
theorem zst21 : ∀ k, k < 2 → zsty 1 k = 0 ∨ zsty 1 k = 1 := by decide +kernel
theorem znm2 : ∀ a, a < 7 → ∀ b, b < 7 → a ≠ b → (zT2 a).2.1 ≠ (zT2 b).2.1 := by decide +kernel
theorem zpar2 : ∀ k, k < 7 → parseFieldDescriptor (zT2 k).2.2.1 = some (zy2 k) := by decide +kernel
theorem zto2 : ∀ k, k < 7 → (zT2 k).1 = "ConstantFlow$Reader" := by decide +kernel
theorem zdef2 : ∀ k, k < 7 → defaultValue (zy2 k) = if zsty 2 k = 1 then .null else .int 0 := by decide +kernel
theorem zst22 : ∀ k, k < 7 → zsty 2 k = 0 ∨ zsty 2 k = 1 := by decide +kernel
theorem znm3 : ∀ a, a < 8 → ∀ b, b < 8 → a ≠ b → (zT3 a).2.1 ≠ (zT3 b).2.1 := by decide +kernel
theorem zpar3 : ∀ k, k < 8 → parseFieldDescriptor (zT3 k).2.2.1 = some (zy3 k) := by decide +kernel
theorem zto3 : ∀ k, k < 8 → (zT3 k).1 = "ConstantFlow$Facts" := by decide +kernel
theorem zdef3 : ∀ k, k < 8 → defaultValue (zy3 k) = if zsty 3 k = 1 then .null else .int 0 := by decide +kernel
theorem zst23 : ∀ k, k < 8 → zsty 3 k = 0 ∨ zsty 3 k = 1 := by decide +kernel
theorem znm4 : ∀ a, a < 2 → ∀ b, b < 2 → a ≠ b → (zT4 a).2.1 ≠ (zT4 b).2.1 := by decide +kernel
theorem zpar4 : ∀ k, k < 2 → parseFieldDescriptor (zT4 k).2.2.1 = some (zy4 k) := by decide +kernel
theorem zto4 : ∀ k, k < 2 → (zT4 k).1 = "ConstantFlow$View" := by decide +kernel
theorem zdef4 : ∀ k, k < 2 → defaultValue (zy4 k) = if zsty 4 k = 1 then .null else .int 0 := by decide +kernel
theorem zst24 : ∀ k, k < 2 → zsty 4 k = 0 ∨ zsty 4 k = 1 := by decide +kernel
theorem znm5 : ∀ a, a < 4 → ∀ b, b < 4 → a ≠ b → (zT5 a).2.1 ≠ (zT5 b).2.1 := by decide +kernel
theorem zpar5 : ∀ k, k < 4 → parseFieldDescriptor (zT5 k).2.2.1 = some (zy5 k) := by decide +kernel
theorem zto5 : ∀ k, k < 4 → (zT5 k).1 = "ConstantFlow$Machine" := by decide +kernel
theorem zdef5 : ∀ k, k < 4 → defaultValue (zy5 k) = if zsty 5 k = 1 then .null else .int 0 := by decide +kernel
theorem zst25 : ∀ k, k < 4 → zsty 5 k = 0 ∨ zsty 5 k = 1 := by decide +kernel
theorem znm6 : ∀ a, a < 9 → ∀ b, b < 9 → a ≠ b → (zT6 a).2.1 ≠ (zT6 b).2.1 := by decide +kernel
theorem zpar6 : ∀ k, k < 9 → parseFieldDescriptor (zT6 k).2.2.1 = some (zy6 k) := by decide +kernel
theorem zto6 : ∀ k, k < 9 → (zT6 k).1 = "ConstantFlow$Program" := by decide +kernel
theorem zdef6 : ∀ k, k < 9 → defaultValue (zy6 k) = if zsty 6 k = 1 then .null else .int 0 := by decide +kernel
theorem zst26 : ∀ k, k < 9 → zsty 6 k = 0 ∨ zsty 6 k = 1 := by decide +kernel
theorem znm7 : ∀ a, a < 33 → ∀ b, b < 33 → a ≠ b → (zT7 a).2.1 ≠ (zT7 b).2.1 := by decide +kernel
theorem zpar7 : ∀ k, k < 33 → parseFieldDescriptor (zT7 k).2.2.1 = some (zy7 k) := by decide +kernel
theorem zto7 : ∀ k, k < 33 → (zT7 k).1 = "ConstantFlowModel" := by decide +kernel
theorem zdef7 : ∀ k, k < 33 → defaultValue (zy7 k) = if zsty 7 k = 1 then .null else .int 0 := by decide +kernel
theorem zst27 : ∀ k, k < 33 → zsty 7 k = 0 ∨ zsty 7 k = 1 := by decide +kernel
theorem znm : ∀ ci, ci < 8 → ∀ a, a < znf ci → ∀ b, b < znf ci → a ≠ b → (zFT ci a).2.1 ≠ (zFT ci b).2.1
  | 0, _ => znm0
  | 1, _ => znm1
  | 2, _ => znm2
  | 3, _ => znm3
  | 4, _ => znm4
  | 5, _ => znm5
  | 6, _ => znm6
  | 7, _ => znm7
  | _ + 8, h => absurd h (by omega)
theorem zpar : ∀ ci, ci < 8 → ∀ k, k < znf ci → parseFieldDescriptor (zFT ci k).2.2.1 = some (zty ci k)
  | 0, _ => zpar0
  | 1, _ => zpar1
  | 2, _ => zpar2
  | 3, _ => zpar3
  | 4, _ => zpar4
  | 5, _ => zpar5
  | 6, _ => zpar6
  | 7, _ => zpar7
  | _ + 8, h => absurd h (by omega)
theorem zto : ∀ ci, ci < 8 → ∀ k, k < znf ci → (zFT ci k).1 = zCn ci
  | 0, _ => zto0
  | 1, _ => zto1
  | 2, _ => zto2
  | 3, _ => zto3
  | 4, _ => zto4
  | 5, _ => zto5
  | 6, _ => zto6
  | 7, _ => zto7
  | _ + 8, h => absurd h (by omega)
theorem zdef : ∀ ci, ci < 8 → ∀ k, k < znf ci → defaultValue (zty ci k) = if zsty ci k = 1 then .null else .int 0
  | 0, _ => zdef0
  | 1, _ => zdef1
  | 2, _ => zdef2
  | 3, _ => zdef3
  | 4, _ => zdef4
  | 5, _ => zdef5
  | 6, _ => zdef6
  | 7, _ => zdef7
  | _ + 8, h => absurd h (by omega)
theorem zst2 : ∀ ci, ci < 8 → ∀ k, k < znf ci → zsty ci k = 0 ∨ zsty ci k = 1
  | 0, _ => zst20
  | 1, _ => zst21
  | 2, _ => zst22
  | 3, _ => zst23
  | 4, _ => zst24
  | 5, _ => zst25
  | 6, _ => zst26
  | 7, _ => zst27
  | _ + 8, h => absurd h (by omega)
def zWD : List Cond := lw_tbl.filter goodWord
theorem zgood : ∀ w ∈ zWD, (w.onTables && w.keeps) = true ∨ ∃ ty, w = .arrayClass ty := fun w h => good_of_word (List.mem_filter.mp h).2
def zisN : Cond → Bool
  | .fieldLinkNest _ _ _ _ _ _ => true
  | .methodLinkNest _ _ _ _ => true
  | .arrayOver (.object _) => true
  | _ => false
def zNW : List Cond := tables_1.filter zisN
theorem zNW_kind : ∀ w ∈ zNW, (∃ a i b n d h, w = .fieldLinkNest a i b n d h) ∨ (∃ a i x h, w = .methodLinkNest a i x h) ∨ (∃ C, w = .arrayOver (.object C)) := by
  intro w hw
  have h := (List.mem_filter.mp hw).2
  unfold zisN at h
  split at h
  · exact Or.inl ⟨_, _, _, _, _, _, rfl⟩
  · exact Or.inr (Or.inl ⟨_, _, _, _, rfl⟩)
  · exact Or.inr (Or.inr ⟨_, rfl⟩)
  · cases h
theorem zNW_same {u U : State} (hv : u.vm = U.vm) : ∀ w ∈ zNW, va_Nw w u → va_Nw w U := by
  intro w hw h
  rcases zNW_kind w hw with ⟨a, i, b, n, d, q, rfl⟩ | ⟨a, i, x, q, rfl⟩ | ⟨C, rfl⟩
  · exact va_Nw.same rfl hv h
  · exact va_Nw.same rfl hv h
  · exact va_AO.moved (by rw [hv]; exact Vm.Alike.refl U.vm) h
theorem zt1 {w : Cond} (h : w ∈ tables_1_1) : w ∈ tables_1 := List.mem_append_left _ h
theorem zt2 {w : Cond} (h : w ∈ tables_1_2) : w ∈ tables_1 := List.mem_append_right _ (List.mem_append_left _ h)
theorem zt3 {w : Cond} (h : w ∈ tables_1_3) : w ∈ tables_1 := List.mem_append_right _ (List.mem_append_right _ (List.mem_append_left _ h))
theorem zt4 {w : Cond} (h : w ∈ tables_1_4) : w ∈ tables_1 := List.mem_append_right _ (List.mem_append_right _ (List.mem_append_right _ (List.mem_append_left _ h)))
theorem zt5 {w : Cond} (h : w ∈ tables_1_5) : w ∈ tables_1 := List.mem_append_right _ (List.mem_append_right _ (List.mem_append_right _ (List.mem_append_right _ (h))))
theorem zp1 {q : MethodName × Nat} (h : q ∈ lw_privs_1) : q ∈ lw_privs := List.mem_append_left _ h
theorem zp2 {q : MethodName × Nat} (h : q ∈ lw_privs_2) : q ∈ lw_privs := List.mem_append_right _ (List.mem_append_left _ h)
theorem zp3 {q : MethodName × Nat} (h : q ∈ lw_privs_3) : q ∈ lw_privs := List.mem_append_right _ (List.mem_append_right _ (List.mem_append_left _ h))
theorem zp4 {q : MethodName × Nat} (h : q ∈ lw_privs_4) : q ∈ lw_privs := List.mem_append_right _ (List.mem_append_right _ (List.mem_append_right _ (h)))
theorem zw_in {w : Cond} (h : w ∈ tables_1) (g : goodWord w = true) : w ∈ zWD := List.mem_filter.mpr ⟨List.mem_append_right _ h, g⟩
theorem zn_in {w : Cond} (h : w ∈ tables_1) (g : zisN w = true) : w ∈ zNW := List.mem_filter.mpr ⟨h, g⟩
theorem zp_in {q : MethodName × Nat} (h : q ∈ lw_privs) : Cond.selects q.1.cls q.1 q.1 ∈ zWD := List.mem_filter.mpr ⟨List.mem_append_left _ (List.mem_map.mpr ⟨q, h, rfl⟩), rfl⟩
def y_C_input : MethodName := ⟨"ConstantFlow", "input", "(I)I"⟩
theorem hyS_C_input : y_C_input.cls ≠ "java/lang/invoke/MethodHandle" ∧ y_C_input.cls ≠ "java/lang/invoke/VarHandle" ∧ (parseMethodDescriptor y_C_input.desc).map (fun d => d.parameters.length) = some 1 := by decide +kernel
theorem hyV_C_input : y_C_input.cls = zCn 0 ∧ y_C_input.cls ≠ "java/lang/invoke/MethodHandle" ∧ y_C_input.cls ≠ "java/lang/invoke/VarHandle" ∧ (parseMethodDescriptor y_C_input.desc).map (fun d => d.parameters.length) = some 1 := by decide +kernel
def y_C_clear : MethodName := ⟨"ConstantFlow", "clear", "()I"⟩
theorem hyS_C_clear : y_C_clear.cls ≠ "java/lang/invoke/MethodHandle" ∧ y_C_clear.cls ≠ "java/lang/invoke/VarHandle" ∧ (parseMethodDescriptor y_C_clear.desc).map (fun d => d.parameters.length) = some 0 := by decide +kernel
theorem hyV_C_clear : y_C_clear.cls = zCn 0 ∧ y_C_clear.cls ≠ "java/lang/invoke/MethodHandle" ∧ y_C_clear.cls ≠ "java/lang/invoke/VarHandle" ∧ (parseMethodDescriptor y_C_clear.desc).map (fun d => d.parameters.length) = some 0 := by decide +kernel
def y_C_asked : MethodName := ⟨"ConstantFlow", "asked", "()I"⟩
theorem hyS_C_asked : y_C_asked.cls ≠ "java/lang/invoke/MethodHandle" ∧ y_C_asked.cls ≠ "java/lang/invoke/VarHandle" ∧ (parseMethodDescriptor y_C_asked.desc).map (fun d => d.parameters.length) = some 0 := by decide +kernel
theorem hyV_C_asked : y_C_asked.cls = zCn 0 ∧ y_C_asked.cls ≠ "java/lang/invoke/MethodHandle" ∧ y_C_asked.cls ≠ "java/lang/invoke/VarHandle" ∧ (parseMethodDescriptor y_C_asked.desc).map (fun d => d.parameters.length) = some 0 := by decide +kernel
def y_C_isBlock : MethodName := ⟨"ConstantFlow", "isBlock", "(I)Z"⟩
theorem hyS_C_isBlock : y_C_isBlock.cls ≠ "java/lang/invoke/MethodHandle" ∧ y_C_isBlock.cls ≠ "java/lang/invoke/VarHandle" ∧ (parseMethodDescriptor y_C_isBlock.desc).map (fun d => d.parameters.length) = some 1 := by decide +kernel
theorem hyV_C_isBlock : y_C_isBlock.cls = zCn 0 ∧ y_C_isBlock.cls ≠ "java/lang/invoke/MethodHandle" ∧ y_C_isBlock.cls ≠ "java/lang/invoke/VarHandle" ∧ (parseMethodDescriptor y_C_isBlock.desc).map (fun d => d.parameters.length) = some 1 := by decide +kernel
def y_C_isVariable : MethodName := ⟨"ConstantFlow", "isVariable", "(I)Z"⟩
theorem hyS_C_isVariable : y_C_isVariable.cls ≠ "java/lang/invoke/MethodHandle" ∧ y_C_isVariable.cls ≠ "java/lang/invoke/VarHandle" ∧ (parseMethodDescriptor y_C_isVariable.desc).map (fun d => d.parameters.length) = some 1 := by decide +kernel
def y_C_isLetter : MethodName := ⟨"ConstantFlow", "isLetter", "(I)Z"⟩
theorem hyS_C_isLetter : y_C_isLetter.cls ≠ "java/lang/invoke/MethodHandle" ∧ y_C_isLetter.cls ≠ "java/lang/invoke/VarHandle" ∧ (parseMethodDescriptor y_C_isLetter.desc).map (fun d => d.parameters.length) = some 1 := by decide +kernel
def y_C_isFigure : MethodName := ⟨"ConstantFlow", "isFigure", "(I)Z"⟩
theorem hyS_C_isFigure : y_C_isFigure.cls ≠ "java/lang/invoke/MethodHandle" ∧ y_C_isFigure.cls ≠ "java/lang/invoke/VarHandle" ∧ (parseMethodDescriptor y_C_isFigure.desc).map (fun d => d.parameters.length) = some 1 := by decide +kernel
def y_C_isOperator : MethodName := ⟨"ConstantFlow", "isOperator", "(I)Z"⟩
theorem hyS_C_isOperator : y_C_isOperator.cls ≠ "java/lang/invoke/MethodHandle" ∧ y_C_isOperator.cls ≠ "java/lang/invoke/VarHandle" ∧ (parseMethodDescriptor y_C_isOperator.desc).map (fun d => d.parameters.length) = some 1 := by decide +kernel
def y_C_reckon : MethodName := ⟨"ConstantFlow", "reckon", "(III)I"⟩
theorem hyS_C_reckon : y_C_reckon.cls ≠ "java/lang/invoke/MethodHandle" ∧ y_C_reckon.cls ≠ "java/lang/invoke/VarHandle" ∧ (parseMethodDescriptor y_C_reckon.desc).map (fun d => d.parameters.length) = some 3 := by decide +kernel
def y_C_wipe : MethodName := ⟨"ConstantFlow", "wipe", "()I"⟩
theorem hyS_C_wipe : y_C_wipe.cls ≠ "java/lang/invoke/MethodHandle" ∧ y_C_wipe.cls ≠ "java/lang/invoke/VarHandle" ∧ (parseMethodDescriptor y_C_wipe.desc).map (fun d => d.parameters.length) = some 0 := by decide +kernel
theorem hyV_C_wipe : y_C_wipe.cls = zCn 0 ∧ y_C_wipe.cls ≠ "java/lang/invoke/MethodHandle" ∧ y_C_wipe.cls ≠ "java/lang/invoke/VarHandle" ∧ (parseMethodDescriptor y_C_wipe.desc).map (fun d => d.parameters.length) = some 0 := by decide +kernel
def y_C_fault : MethodName := ⟨"ConstantFlow", "fault", "()I"⟩
theorem hyS_C_fault : y_C_fault.cls ≠ "java/lang/invoke/MethodHandle" ∧ y_C_fault.cls ≠ "java/lang/invoke/VarHandle" ∧ (parseMethodDescriptor y_C_fault.desc).map (fun d => d.parameters.length) = some 0 := by decide +kernel
theorem hyV_C_fault : y_C_fault.cls = zCn 0 ∧ y_C_fault.cls ≠ "java/lang/invoke/MethodHandle" ∧ y_C_fault.cls ≠ "java/lang/invoke/VarHandle" ∧ (parseMethodDescriptor y_C_fault.desc).map (fun d => d.parameters.length) = some 0 := by decide +kernel
def y_C_place : MethodName := ⟨"ConstantFlow", "place", "()I"⟩
theorem hyS_C_place : y_C_place.cls ≠ "java/lang/invoke/MethodHandle" ∧ y_C_place.cls ≠ "java/lang/invoke/VarHandle" ∧ (parseMethodDescriptor y_C_place.desc).map (fun d => d.parameters.length) = some 0 := by decide +kernel
theorem hyV_C_place : y_C_place.cls = zCn 0 ∧ y_C_place.cls ≠ "java/lang/invoke/MethodHandle" ∧ y_C_place.cls ≠ "java/lang/invoke/VarHandle" ∧ (parseMethodDescriptor y_C_place.desc).map (fun d => d.parameters.length) = some 0 := by decide +kernel
def y_F_view : MethodName := ⟨"ConstantFlow$Facts", "view", "(IZ)LConstantFlow$View;"⟩
theorem hyS_F_view : y_F_view.cls ≠ "java/lang/invoke/MethodHandle" ∧ y_F_view.cls ≠ "java/lang/invoke/VarHandle" ∧ (parseMethodDescriptor y_F_view.desc).map (fun d => d.parameters.length) = some 2 := by decide +kernel
theorem hyV_F_view : y_F_view.cls = zCn 3 ∧ y_F_view.cls ≠ "java/lang/invoke/MethodHandle" ∧ y_F_view.cls ≠ "java/lang/invoke/VarHandle" ∧ (parseMethodDescriptor y_F_view.desc).map (fun d => d.parameters.length) = some 2 := by decide +kernel
def y_X_nextInput : MethodName := ⟨"ConstantFlow$Machine", "nextInput", "()I"⟩
theorem hyS_X_nextInput : y_X_nextInput.cls ≠ "java/lang/invoke/MethodHandle" ∧ y_X_nextInput.cls ≠ "java/lang/invoke/VarHandle" ∧ (parseMethodDescriptor y_X_nextInput.desc).map (fun d => d.parameters.length) = some 0 := by decide +kernel
theorem hyV_X_nextInput : y_X_nextInput.cls = zCn 5 ∧ y_X_nextInput.cls ≠ "java/lang/invoke/MethodHandle" ∧ y_X_nextInput.cls ≠ "java/lang/invoke/VarHandle" ∧ (parseMethodDescriptor y_X_nextInput.desc).map (fun d => d.parameters.length) = some 0 := by decide +kernel
def y_X_operand : MethodName := ⟨"ConstantFlow$Machine", "operand", "(LConstantFlow$Program;I)I"⟩
theorem hyS_X_operand : y_X_operand.cls ≠ "java/lang/invoke/MethodHandle" ∧ y_X_operand.cls ≠ "java/lang/invoke/VarHandle" ∧ (parseMethodDescriptor y_X_operand.desc).map (fun d => d.parameters.length) = some 2 := by decide +kernel
theorem hyV_X_operand : y_X_operand.cls = zCn 5 ∧ y_X_operand.cls ≠ "java/lang/invoke/MethodHandle" ∧ y_X_operand.cls ≠ "java/lang/invoke/VarHandle" ∧ (parseMethodDescriptor y_X_operand.desc).map (fun d => d.parameters.length) = some 2 := by decide +kernel
def y_G_left : MethodName := ⟨"ConstantFlow$Program", "left", "(I)I"⟩
theorem hyS_G_left : y_G_left.cls ≠ "java/lang/invoke/MethodHandle" ∧ y_G_left.cls ≠ "java/lang/invoke/VarHandle" ∧ (parseMethodDescriptor y_G_left.desc).map (fun d => d.parameters.length) = some 1 := by decide +kernel
def y_G_right : MethodName := ⟨"ConstantFlow$Program", "right", "(I)I"⟩
theorem hyS_G_right : y_G_right.cls ≠ "java/lang/invoke/MethodHandle" ∧ y_G_right.cls ≠ "java/lang/invoke/VarHandle" ∧ (parseMethodDescriptor y_G_right.desc).map (fun d => d.parameters.length) = some 1 := by decide +kernel
def y_G_ofEnd : MethodName := ⟨"ConstantFlow$Program", "ofEnd", "(I)I"⟩
theorem hyS_G_ofEnd : y_G_ofEnd.cls ≠ "java/lang/invoke/MethodHandle" ∧ y_G_ofEnd.cls ≠ "java/lang/invoke/VarHandle" ∧ (parseMethodDescriptor y_G_ofEnd.desc).map (fun d => d.parameters.length) = some 1 := by decide +kernel
def y_G_goalSlot : MethodName := ⟨"ConstantFlow$Program", "goalSlot", "(II)I"⟩
theorem hyS_G_goalSlot : y_G_goalSlot.cls ≠ "java/lang/invoke/MethodHandle" ∧ y_G_goalSlot.cls ≠ "java/lang/invoke/VarHandle" ∧ (parseMethodDescriptor y_G_goalSlot.desc).map (fun d => d.parameters.length) = some 2 := by decide +kernel
def y_G_empty : MethodName := ⟨"ConstantFlow$Program", "empty", "()V"⟩
theorem hyS_G_empty : y_G_empty.cls ≠ "java/lang/invoke/MethodHandle" ∧ y_G_empty.cls ≠ "java/lang/invoke/VarHandle" ∧ (parseMethodDescriptor y_G_empty.desc).map (fun d => d.parameters.length) = some 0 := by decide +kernel
theorem hyV_G_empty : y_G_empty.cls = zCn 6 ∧ y_G_empty.cls ≠ "java/lang/invoke/MethodHandle" ∧ y_G_empty.cls ≠ "java/lang/invoke/VarHandle" ∧ (parseMethodDescriptor y_G_empty.desc).map (fun d => d.parameters.length) = some 0 := by decide +kernel
def y_G_setOperand : MethodName := ⟨"ConstantFlow$Program", "setOperand", "(IZI)V"⟩
theorem hyS_G_setOperand : y_G_setOperand.cls ≠ "java/lang/invoke/MethodHandle" ∧ y_G_setOperand.cls ≠ "java/lang/invoke/VarHandle" ∧ (parseMethodDescriptor y_G_setOperand.desc).map (fun d => d.parameters.length) = some 3 := by decide +kernel
theorem hyV_G_setOperand : y_G_setOperand.cls = zCn 6 ∧ y_G_setOperand.cls ≠ "java/lang/invoke/MethodHandle" ∧ y_G_setOperand.cls ≠ "java/lang/invoke/VarHandle" ∧ (parseMethodDescriptor y_G_setOperand.desc).map (fun d => d.parameters.length) = some 3 := by decide +kernel
def y_G_closeBlock : MethodName := ⟨"ConstantFlow$Program", "closeBlock", "(I)V"⟩
theorem hyS_G_closeBlock : y_G_closeBlock.cls ≠ "java/lang/invoke/MethodHandle" ∧ y_G_closeBlock.cls ≠ "java/lang/invoke/VarHandle" ∧ (parseMethodDescriptor y_G_closeBlock.desc).map (fun d => d.parameters.length) = some 1 := by decide +kernel
theorem hyV_G_closeBlock : y_G_closeBlock.cls = zCn 6 ∧ y_G_closeBlock.cls ≠ "java/lang/invoke/MethodHandle" ∧ y_G_closeBlock.cls ≠ "java/lang/invoke/VarHandle" ∧ (parseMethodDescriptor y_G_closeBlock.desc).map (fun d => d.parameters.length) = some 1 := by decide +kernel
def y_R_refuse : MethodName := ⟨"ConstantFlow$Reader", "refuse", "(II)Z"⟩
theorem hyS_R_refuse : y_R_refuse.cls ≠ "java/lang/invoke/MethodHandle" ∧ y_R_refuse.cls ≠ "java/lang/invoke/VarHandle" ∧ (parseMethodDescriptor y_R_refuse.desc).map (fun d => d.parameters.length) = some 2 := by decide +kernel
theorem hyV_R_refuse : y_R_refuse.cls = zCn 2 ∧ y_R_refuse.cls ≠ "java/lang/invoke/MethodHandle" ∧ y_R_refuse.cls ≠ "java/lang/invoke/VarHandle" ∧ (parseMethodDescriptor y_R_refuse.desc).map (fun d => d.parameters.length) = some 2 := by decide +kernel
def y_T_byteAt : MethodName := ⟨"ConstantFlow$Text", "byteAt", "(J)I"⟩
theorem hyS_T_byteAt : y_T_byteAt.cls ≠ "java/lang/invoke/MethodHandle" ∧ y_T_byteAt.cls ≠ "java/lang/invoke/VarHandle" ∧ (parseMethodDescriptor y_T_byteAt.desc).map (fun d => d.parameters.length) = some 1 := by decide +kernel
theorem hyV_T_byteAt : y_T_byteAt.cls = zCn 1 ∧ y_T_byteAt.cls ≠ "java/lang/invoke/MethodHandle" ∧ y_T_byteAt.cls ≠ "java/lang/invoke/VarHandle" ∧ (parseMethodDescriptor y_T_byteAt.desc).map (fun d => d.parameters.length) = some 1 := by decide +kernel
def y_T_append : MethodName := ⟨"ConstantFlow$Text", "append", "(I)V"⟩
theorem hyS_T_append : y_T_append.cls ≠ "java/lang/invoke/MethodHandle" ∧ y_T_append.cls ≠ "java/lang/invoke/VarHandle" ∧ (parseMethodDescriptor y_T_append.desc).map (fun d => d.parameters.length) = some 1 := by decide +kernel
theorem hyV_T_append : y_T_append.cls = zCn 1 ∧ y_T_append.cls ≠ "java/lang/invoke/MethodHandle" ∧ y_T_append.cls ≠ "java/lang/invoke/VarHandle" ∧ (parseMethodDescriptor y_T_append.desc).map (fun d => d.parameters.length) = some 1 := by decide +kernel
def y_V_become : MethodName := ⟨"ConstantFlow$View", "become", "(LConstantFlow$View;)V"⟩
theorem hyS_V_become : y_V_become.cls ≠ "java/lang/invoke/MethodHandle" ∧ y_V_become.cls ≠ "java/lang/invoke/VarHandle" ∧ (parseMethodDescriptor y_V_become.desc).map (fun d => d.parameters.length) = some 1 := by decide +kernel
theorem hyV_V_become : y_V_become.cls = zCn 4 ∧ y_V_become.cls ≠ "java/lang/invoke/MethodHandle" ∧ y_V_become.cls ≠ "java/lang/invoke/VarHandle" ∧ (parseMethodDescriptor y_V_become.desc).map (fun d => d.parameters.length) = some 1 := by decide +kernel
def y_V_join : MethodName := ⟨"ConstantFlow$View", "join", "(LConstantFlow$View;)Z"⟩
theorem hyS_V_join : y_V_join.cls ≠ "java/lang/invoke/MethodHandle" ∧ y_V_join.cls ≠ "java/lang/invoke/VarHandle" ∧ (parseMethodDescriptor y_V_join.desc).map (fun d => d.parameters.length) = some 1 := by decide +kernel
theorem hyV_V_join : y_V_join.cls = zCn 4 ∧ y_V_join.cls ≠ "java/lang/invoke/MethodHandle" ∧ y_V_join.cls ≠ "java/lang/invoke/VarHandle" ∧ (parseMethodDescriptor y_V_join.desc).map (fun d => d.parameters.length) = some 1 := by decide +kernel
def y_V_knows : MethodName := ⟨"ConstantFlow$View", "knows", "(LConstantFlow$Program;I)Z"⟩
theorem hyS_V_knows : y_V_knows.cls ≠ "java/lang/invoke/MethodHandle" ∧ y_V_knows.cls ≠ "java/lang/invoke/VarHandle" ∧ (parseMethodDescriptor y_V_knows.desc).map (fun d => d.parameters.length) = some 2 := by decide +kernel
theorem hyV_V_knows : y_V_knows.cls = zCn 4 ∧ y_V_knows.cls ≠ "java/lang/invoke/MethodHandle" ∧ y_V_knows.cls ≠ "java/lang/invoke/VarHandle" ∧ (parseMethodDescriptor y_V_knows.desc).map (fun d => d.parameters.length) = some 2 := by decide +kernel
def y_V_numberOf : MethodName := ⟨"ConstantFlow$View", "numberOf", "(LConstantFlow$Program;I)I"⟩
theorem hyS_V_numberOf : y_V_numberOf.cls ≠ "java/lang/invoke/MethodHandle" ∧ y_V_numberOf.cls ≠ "java/lang/invoke/VarHandle" ∧ (parseMethodDescriptor y_V_numberOf.desc).map (fun d => d.parameters.length) = some 2 := by decide +kernel
theorem hyV_V_numberOf : y_V_numberOf.cls = zCn 4 ∧ y_V_numberOf.cls ≠ "java/lang/invoke/MethodHandle" ∧ y_V_numberOf.cls ≠ "java/lang/invoke/VarHandle" ∧ (parseMethodDescriptor y_V_numberOf.desc).map (fun d => d.parameters.length) = some 2 := by decide +kernel
def y_M_operator : MethodName := ⟨"ConstantFlowModel", "operator", "(I)I"⟩
theorem hyS_M_operator : y_M_operator.cls ≠ "java/lang/invoke/MethodHandle" ∧ y_M_operator.cls ≠ "java/lang/invoke/VarHandle" ∧ (parseMethodDescriptor y_M_operator.desc).map (fun d => d.parameters.length) = some 1 := by decide +kernel
def y_M_sign : MethodName := ⟨"ConstantFlowModel", "sign", "(I)I"⟩
theorem hyS_M_sign : y_M_sign.cls ≠ "java/lang/invoke/MethodHandle" ∧ y_M_sign.cls ≠ "java/lang/invoke/VarHandle" ∧ (parseMethodDescriptor y_M_sign.desc).map (fun d => d.parameters.length) = some 1 := by decide +kernel
def y_M_fault : MethodName := ⟨"ConstantFlowModel", "fault", "()I"⟩
theorem hyS_M_fault : y_M_fault.cls ≠ "java/lang/invoke/MethodHandle" ∧ y_M_fault.cls ≠ "java/lang/invoke/VarHandle" ∧ (parseMethodDescriptor y_M_fault.desc).map (fun d => d.parameters.length) = some 0 := by decide +kernel
theorem hyV_M_fault : y_M_fault.cls = zCn 7 ∧ y_M_fault.cls ≠ "java/lang/invoke/MethodHandle" ∧ y_M_fault.cls ≠ "java/lang/invoke/VarHandle" ∧ (parseMethodDescriptor y_M_fault.desc).map (fun d => d.parameters.length) = some 0 := by decide +kernel
def y_M_place : MethodName := ⟨"ConstantFlowModel", "place", "()I"⟩
theorem hyS_M_place : y_M_place.cls ≠ "java/lang/invoke/MethodHandle" ∧ y_M_place.cls ≠ "java/lang/invoke/VarHandle" ∧ (parseMethodDescriptor y_M_place.desc).map (fun d => d.parameters.length) = some 0 := by decide +kernel
theorem hyV_M_place : y_M_place.cls = zCn 7 ∧ y_M_place.cls ≠ "java/lang/invoke/MethodHandle" ∧ y_M_place.cls ≠ "java/lang/invoke/VarHandle" ∧ (parseMethodDescriptor y_M_place.desc).map (fun d => d.parameters.length) = some 0 := by decide +kernel
def y_M_reckoned : MethodName := ⟨"ConstantFlowModel", "reckoned", "(III)I"⟩
theorem hyS_M_reckoned : y_M_reckoned.cls ≠ "java/lang/invoke/MethodHandle" ∧ y_M_reckoned.cls ≠ "java/lang/invoke/VarHandle" ∧ (parseMethodDescriptor y_M_reckoned.desc).map (fun d => d.parameters.length) = some 3 := by decide +kernel
def y_M_sortOf : MethodName := ⟨"ConstantFlowModel", "sortOf", "(II)I"⟩
theorem hyS_M_sortOf : y_M_sortOf.cls ≠ "java/lang/invoke/MethodHandle" ∧ y_M_sortOf.cls ≠ "java/lang/invoke/VarHandle" ∧ (parseMethodDescriptor y_M_sortOf.desc).map (fun d => d.parameters.length) = some 2 := by decide +kernel
theorem hyV_M_sortOf : y_M_sortOf.cls = zCn 7 ∧ y_M_sortOf.cls ≠ "java/lang/invoke/MethodHandle" ∧ y_M_sortOf.cls ≠ "java/lang/invoke/VarHandle" ∧ (parseMethodDescriptor y_M_sortOf.desc).map (fun d => d.parameters.length) = some 2 := by decide +kernel
def y_M_numberOf : MethodName := ⟨"ConstantFlowModel", "numberOf", "(II)I"⟩
theorem hyS_M_numberOf : y_M_numberOf.cls ≠ "java/lang/invoke/MethodHandle" ∧ y_M_numberOf.cls ≠ "java/lang/invoke/VarHandle" ∧ (parseMethodDescriptor y_M_numberOf.desc).map (fun d => d.parameters.length) = some 2 := by decide +kernel
theorem hyV_M_numberOf : y_M_numberOf.cls = zCn 7 ∧ y_M_numberOf.cls ≠ "java/lang/invoke/MethodHandle" ∧ y_M_numberOf.cls ≠ "java/lang/invoke/VarHandle" ∧ (parseMethodDescriptor y_M_numberOf.desc).map (fun d => d.parameters.length) = some 2 := by decide +kernel
def y_M_beginBlock : MethodName := ⟨"ConstantFlowModel", "beginBlock", "(I)V"⟩
theorem hyS_M_beginBlock : y_M_beginBlock.cls ≠ "java/lang/invoke/MethodHandle" ∧ y_M_beginBlock.cls ≠ "java/lang/invoke/VarHandle" ∧ (parseMethodDescriptor y_M_beginBlock.desc).map (fun d => d.parameters.length) = some 1 := by decide +kernel
theorem hyV_M_beginBlock : y_M_beginBlock.cls = zCn 7 ∧ y_M_beginBlock.cls ≠ "java/lang/invoke/MethodHandle" ∧ y_M_beginBlock.cls ≠ "java/lang/invoke/VarHandle" ∧ (parseMethodDescriptor y_M_beginBlock.desc).map (fun d => d.parameters.length) = some 1 := by decide +kernel
def y_M_join : MethodName := ⟨"ConstantFlowModel", "join", "(I)Z"⟩
theorem hyS_M_join : y_M_join.cls ≠ "java/lang/invoke/MethodHandle" ∧ y_M_join.cls ≠ "java/lang/invoke/VarHandle" ∧ (parseMethodDescriptor y_M_join.desc).map (fun d => d.parameters.length) = some 1 := by decide +kernel
theorem hyV_M_join : y_M_join.cls = zCn 7 ∧ y_M_join.cls ≠ "java/lang/invoke/MethodHandle" ∧ y_M_join.cls ≠ "java/lang/invoke/VarHandle" ∧ (parseMethodDescriptor y_M_join.desc).map (fun d => d.parameters.length) = some 1 := by decide +kernel
def y_M_thrown : MethodName := ⟨"ConstantFlowModel", "thrown", "()I"⟩
theorem hyS_M_thrown : y_M_thrown.cls ≠ "java/lang/invoke/MethodHandle" ∧ y_M_thrown.cls ≠ "java/lang/invoke/VarHandle" ∧ (parseMethodDescriptor y_M_thrown.desc).map (fun d => d.parameters.length) = some 0 := by decide +kernel
theorem hyV_M_thrown : y_M_thrown.cls = zCn 7 ∧ y_M_thrown.cls ≠ "java/lang/invoke/MethodHandle" ∧ y_M_thrown.cls ≠ "java/lang/invoke/VarHandle" ∧ (parseMethodDescriptor y_M_thrown.desc).map (fun d => d.parameters.length) = some 0 := by decide +kernel
def y_M_noBlock : MethodName := ⟨"ConstantFlowModel", "noBlock", "(I)Z"⟩
theorem hyS_M_noBlock : y_M_noBlock.cls ≠ "java/lang/invoke/MethodHandle" ∧ y_M_noBlock.cls ≠ "java/lang/invoke/VarHandle" ∧ (parseMethodDescriptor y_M_noBlock.desc).map (fun d => d.parameters.length) = some 1 := by decide +kernel
theorem hyV_M_noBlock : y_M_noBlock.cls = zCn 7 ∧ y_M_noBlock.cls ≠ "java/lang/invoke/MethodHandle" ∧ y_M_noBlock.cls ≠ "java/lang/invoke/VarHandle" ∧ (parseMethodDescriptor y_M_noBlock.desc).map (fun d => d.parameters.length) = some 1 := by decide +kernel
def y_M_put : MethodName := ⟨"ConstantFlowModel", "put", "(I)V"⟩
theorem hyS_M_put : y_M_put.cls ≠ "java/lang/invoke/MethodHandle" ∧ y_M_put.cls ≠ "java/lang/invoke/VarHandle" ∧ (parseMethodDescriptor y_M_put.desc).map (fun d => d.parameters.length) = some 1 := by decide +kernel
theorem hyV_M_put : y_M_put.cls = zCn 7 ∧ y_M_put.cls ≠ "java/lang/invoke/MethodHandle" ∧ y_M_put.cls ≠ "java/lang/invoke/VarHandle" ∧ (parseMethodDescriptor y_M_put.desc).map (fun d => d.parameters.length) = some 1 := by decide +kernel
def y_M_feed : MethodName := ⟨"ConstantFlowModel", "feed", "(IJ)I"⟩
theorem hyS_M_feed : y_M_feed.cls ≠ "java/lang/invoke/MethodHandle" ∧ y_M_feed.cls ≠ "java/lang/invoke/VarHandle" ∧ (parseMethodDescriptor y_M_feed.desc).map (fun d => d.parameters.length) = some 2 := by decide +kernel
theorem hyV_M_feed : y_M_feed.cls = zCn 7 ∧ y_M_feed.cls ≠ "java/lang/invoke/MethodHandle" ∧ y_M_feed.cls ≠ "java/lang/invoke/VarHandle" ∧ (parseMethodDescriptor y_M_feed.desc).map (fun d => d.parameters.length) = some 2 := by decide +kernel
def y_M_newNumber : MethodName := ⟨"ConstantFlowModel", "newNumber", "(I)I"⟩
theorem hyS_M_newNumber : y_M_newNumber.cls ≠ "java/lang/invoke/MethodHandle" ∧ y_M_newNumber.cls ≠ "java/lang/invoke/VarHandle" ∧ (parseMethodDescriptor y_M_newNumber.desc).map (fun d => d.parameters.length) = some 1 := by decide +kernel
theorem hyV_M_newNumber : y_M_newNumber.cls = zCn 7 ∧ y_M_newNumber.cls ≠ "java/lang/invoke/MethodHandle" ∧ y_M_newNumber.cls ≠ "java/lang/invoke/VarHandle" ∧ (parseMethodDescriptor y_M_newNumber.desc).map (fun d => d.parameters.length) = some 1 := by decide +kernel
def y_M_written : MethodName := ⟨"ConstantFlowModel", "written", "(I)J"⟩
theorem hyS_M_written : y_M_written.cls ≠ "java/lang/invoke/MethodHandle" ∧ y_M_written.cls ≠ "java/lang/invoke/VarHandle" ∧ (parseMethodDescriptor y_M_written.desc).map (fun d => d.parameters.length) = some 1 := by decide +kernel
theorem hyV_M_written : y_M_written.cls = zCn 7 ∧ y_M_written.cls ≠ "java/lang/invoke/MethodHandle" ∧ y_M_written.cls ≠ "java/lang/invoke/VarHandle" ∧ (parseMethodDescriptor y_M_written.desc).map (fun d => d.parameters.length) = some 1 := by decide +kernel
def y_M_take : MethodName := ⟨"ConstantFlowModel", "take", "()I"⟩
theorem hyS_M_take : y_M_take.cls ≠ "java/lang/invoke/MethodHandle" ∧ y_M_take.cls ≠ "java/lang/invoke/VarHandle" ∧ (parseMethodDescriptor y_M_take.desc).map (fun d => d.parameters.length) = some 0 := by decide +kernel
theorem hyV_M_take : y_M_take.cls = zCn 7 ∧ y_M_take.cls ≠ "java/lang/invoke/MethodHandle" ∧ y_M_take.cls ≠ "java/lang/invoke/VarHandle" ∧ (parseMethodDescriptor y_M_take.desc).map (fun d => d.parameters.length) = some 0 := by decide +kernel
def y_M_input : MethodName := ⟨"ConstantFlowModel", "input", "(I)I"⟩
theorem hyS_M_input : y_M_input.cls ≠ "java/lang/invoke/MethodHandle" ∧ y_M_input.cls ≠ "java/lang/invoke/VarHandle" ∧ (parseMethodDescriptor y_M_input.desc).map (fun d => d.parameters.length) = some 1 := by decide +kernel
theorem hyV_M_input : y_M_input.cls = zCn 7 ∧ y_M_input.cls ≠ "java/lang/invoke/MethodHandle" ∧ y_M_input.cls ≠ "java/lang/invoke/VarHandle" ∧ (parseMethodDescriptor y_M_input.desc).map (fun d => d.parameters.length) = some 1 := by decide +kernel
def y_M_clear : MethodName := ⟨"ConstantFlowModel", "clear", "()I"⟩
theorem hyS_M_clear : y_M_clear.cls ≠ "java/lang/invoke/MethodHandle" ∧ y_M_clear.cls ≠ "java/lang/invoke/VarHandle" ∧ (parseMethodDescriptor y_M_clear.desc).map (fun d => d.parameters.length) = some 0 := by decide +kernel
theorem hyV_M_clear : y_M_clear.cls = zCn 7 ∧ y_M_clear.cls ≠ "java/lang/invoke/MethodHandle" ∧ y_M_clear.cls ≠ "java/lang/invoke/VarHandle" ∧ (parseMethodDescriptor y_M_clear.desc).map (fun d => d.parameters.length) = some 0 := by decide +kernel
def y_M_wipe : MethodName := ⟨"ConstantFlowModel", "wipe", "()I"⟩
theorem hyS_M_wipe : y_M_wipe.cls ≠ "java/lang/invoke/MethodHandle" ∧ y_M_wipe.cls ≠ "java/lang/invoke/VarHandle" ∧ (parseMethodDescriptor y_M_wipe.desc).map (fun d => d.parameters.length) = some 0 := by decide +kernel
theorem hyV_M_wipe : y_M_wipe.cls = zCn 7 ∧ y_M_wipe.cls ≠ "java/lang/invoke/MethodHandle" ∧ y_M_wipe.cls ≠ "java/lang/invoke/VarHandle" ∧ (parseMethodDescriptor y_M_wipe.desc).map (fun d => d.parameters.length) = some 0 := by decide +kernel
def y_M_valueOf : MethodName := ⟨"ConstantFlowModel", "valueOf", "(II)I"⟩
theorem hyS_M_valueOf : y_M_valueOf.cls ≠ "java/lang/invoke/MethodHandle" ∧ y_M_valueOf.cls ≠ "java/lang/invoke/VarHandle" ∧ (parseMethodDescriptor y_M_valueOf.desc).map (fun d => d.parameters.length) = some 2 := by decide +kernel
theorem hyV_M_valueOf : y_M_valueOf.cls = zCn 7 ∧ y_M_valueOf.cls ≠ "java/lang/invoke/MethodHandle" ∧ y_M_valueOf.cls ≠ "java/lang/invoke/VarHandle" ∧ (parseMethodDescriptor y_M_valueOf.desc).map (fun d => d.parameters.length) = some 2 := by decide +kernel
def y_M_value : MethodName := ⟨"ConstantFlowModel", "value", "(I)I"⟩
theorem hyS_M_value : y_M_value.cls ≠ "java/lang/invoke/MethodHandle" ∧ y_M_value.cls ≠ "java/lang/invoke/VarHandle" ∧ (parseMethodDescriptor y_M_value.desc).map (fun d => d.parameters.length) = some 1 := by decide +kernel
theorem hyV_M_value : y_M_value.cls = zCn 7 ∧ y_M_value.cls ≠ "java/lang/invoke/MethodHandle" ∧ y_M_value.cls ≠ "java/lang/invoke/VarHandle" ∧ (parseMethodDescriptor y_M_value.desc).map (fun d => d.parameters.length) = some 1 := by decide +kernel
def y_M_asked : MethodName := ⟨"ConstantFlowModel", "asked", "()I"⟩
theorem hyS_M_asked : y_M_asked.cls ≠ "java/lang/invoke/MethodHandle" ∧ y_M_asked.cls ≠ "java/lang/invoke/VarHandle" ∧ (parseMethodDescriptor y_M_asked.desc).map (fun d => d.parameters.length) = some 0 := by decide +kernel
theorem hyV_M_asked : y_M_asked.cls = zCn 7 ∧ y_M_asked.cls ≠ "java/lang/invoke/MethodHandle" ∧ y_M_asked.cls ≠ "java/lang/invoke/VarHandle" ∧ (parseMethodDescriptor y_M_asked.desc).map (fun d => d.parameters.length) = some 0 := by decide +kernel
def y_M_fail : MethodName := ⟨"ConstantFlowModel", "fail", "(II)V"⟩
theorem hyS_M_fail : y_M_fail.cls ≠ "java/lang/invoke/MethodHandle" ∧ y_M_fail.cls ≠ "java/lang/invoke/VarHandle" ∧ (parseMethodDescriptor y_M_fail.desc).map (fun d => d.parameters.length) = some 2 := by decide +kernel
theorem hyV_M_fail : y_M_fail.cls = zCn 7 ∧ y_M_fail.cls ≠ "java/lang/invoke/MethodHandle" ∧ y_M_fail.cls ≠ "java/lang/invoke/VarHandle" ∧ (parseMethodDescriptor y_M_fail.desc).map (fun d => d.parameters.length) = some 2 := by decide +kernel
def y_M_byteAt : MethodName := ⟨"ConstantFlowModel", "byteAt", "(I)I"⟩
theorem hyS_M_byteAt : y_M_byteAt.cls ≠ "java/lang/invoke/MethodHandle" ∧ y_M_byteAt.cls ≠ "java/lang/invoke/VarHandle" ∧ (parseMethodDescriptor y_M_byteAt.desc).map (fun d => d.parameters.length) = some 1 := by decide +kernel
theorem hyV_M_byteAt : y_M_byteAt.cls = zCn 7 ∧ y_M_byteAt.cls ≠ "java/lang/invoke/MethodHandle" ∧ y_M_byteAt.cls ≠ "java/lang/invoke/VarHandle" ∧ (parseMethodDescriptor y_M_byteAt.desc).map (fun d => d.parameters.length) = some 1 := by decide +kernel
def y_M_skip : MethodName := ⟨"ConstantFlowModel", "skip", "()V"⟩
theorem hyS_M_skip : y_M_skip.cls ≠ "java/lang/invoke/MethodHandle" ∧ y_M_skip.cls ≠ "java/lang/invoke/VarHandle" ∧ (parseMethodDescriptor y_M_skip.desc).map (fun d => d.parameters.length) = some 0 := by decide +kernel
theorem hyV_M_skip : y_M_skip.cls = zCn 7 ∧ y_M_skip.cls ≠ "java/lang/invoke/MethodHandle" ∧ y_M_skip.cls ≠ "java/lang/invoke/VarHandle" ∧ (parseMethodDescriptor y_M_skip.desc).map (fun d => d.parameters.length) = some 0 := by decide +kernel
def y_M_isVariable : MethodName := ⟨"ConstantFlowModel", "isVariable", "(I)Z"⟩
theorem hyS_M_isVariable : y_M_isVariable.cls ≠ "java/lang/invoke/MethodHandle" ∧ y_M_isVariable.cls ≠ "java/lang/invoke/VarHandle" ∧ (parseMethodDescriptor y_M_isVariable.desc).map (fun d => d.parameters.length) = some 1 := by decide +kernel
def y_M_isFigure : MethodName := ⟨"ConstantFlowModel", "isFigure", "(I)Z"⟩
theorem hyS_M_isFigure : y_M_isFigure.cls ≠ "java/lang/invoke/MethodHandle" ∧ y_M_isFigure.cls ≠ "java/lang/invoke/VarHandle" ∧ (parseMethodDescriptor y_M_isFigure.desc).map (fun d => d.parameters.length) = some 1 := by decide +kernel
def y_C_written : MethodName := ⟨"ConstantFlow", "written", "(I)J"⟩
theorem hyS_C_written : y_C_written.cls ≠ "java/lang/invoke/MethodHandle" ∧ y_C_written.cls ≠ "java/lang/invoke/VarHandle" ∧ (parseMethodDescriptor y_C_written.desc).map (fun d => d.parameters.length) = some 1 := by decide +kernel
theorem hyV_C_written : y_C_written.cls = zCn 0 ∧ y_C_written.cls ≠ "java/lang/invoke/MethodHandle" ∧ y_C_written.cls ≠ "java/lang/invoke/VarHandle" ∧ (parseMethodDescriptor y_C_written.desc).map (fun d => d.parameters.length) = some 1 := by decide +kernel
def y_C_take : MethodName := ⟨"ConstantFlow", "take", "()I"⟩
theorem hyS_C_take : y_C_take.cls ≠ "java/lang/invoke/MethodHandle" ∧ y_C_take.cls ≠ "java/lang/invoke/VarHandle" ∧ (parseMethodDescriptor y_C_take.desc).map (fun d => d.parameters.length) = some 0 := by decide +kernel
theorem hyV_C_take : y_C_take.cls = zCn 0 ∧ y_C_take.cls ≠ "java/lang/invoke/MethodHandle" ∧ y_C_take.cls ≠ "java/lang/invoke/VarHandle" ∧ (parseMethodDescriptor y_C_take.desc).map (fun d => d.parameters.length) = some 0 := by decide +kernel
def y_F_comeTo : MethodName := ⟨"ConstantFlow$Facts", "comeTo", "(ILConstantFlow$View;)V"⟩
theorem hyS_F_comeTo : y_F_comeTo.cls ≠ "java/lang/invoke/MethodHandle" ∧ y_F_comeTo.cls ≠ "java/lang/invoke/VarHandle" ∧ (parseMethodDescriptor y_F_comeTo.desc).map (fun d => d.parameters.length) = some 2 := by decide +kernel
theorem hyV_F_comeTo : y_F_comeTo.cls = zCn 3 ∧ y_F_comeTo.cls ≠ "java/lang/invoke/MethodHandle" ∧ y_F_comeTo.cls ≠ "java/lang/invoke/VarHandle" ∧ (parseMethodDescriptor y_F_comeTo.desc).map (fun d => d.parameters.length) = some 2 := by decide +kernel
def y_F_forks : MethodName := ⟨"ConstantFlow$Facts", "forks", "(LConstantFlow$Program;I)Z"⟩
theorem hyS_F_forks : y_F_forks.cls ≠ "java/lang/invoke/MethodHandle" ∧ y_F_forks.cls ≠ "java/lang/invoke/VarHandle" ∧ (parseMethodDescriptor y_F_forks.desc).map (fun d => d.parameters.length) = some 2 := by decide +kernel
theorem hyV_F_forks : y_F_forks.cls = zCn 3 ∧ y_F_forks.cls ≠ "java/lang/invoke/MethodHandle" ∧ y_F_forks.cls ≠ "java/lang/invoke/VarHandle" ∧ (parseMethodDescriptor y_F_forks.desc).map (fun d => d.parameters.length) = some 2 := by decide +kernel
def y_X_init : MethodName := ⟨"ConstantFlow$Machine", "<init>", "()V"⟩
theorem hyS_X_init : y_X_init.cls ≠ "java/lang/invoke/MethodHandle" ∧ y_X_init.cls ≠ "java/lang/invoke/VarHandle" ∧ (parseMethodDescriptor y_X_init.desc).map (fun d => d.parameters.length) = some 0 := by decide +kernel
theorem hyV_X_init : y_X_init.cls = zCn 5 ∧ y_X_init.cls ≠ "java/lang/invoke/MethodHandle" ∧ y_X_init.cls ≠ "java/lang/invoke/VarHandle" ∧ (parseMethodDescriptor y_X_init.desc).map (fun d => d.parameters.length) = some 0 := by decide +kernel
def y_X_valueOf : MethodName := ⟨"ConstantFlow$Machine", "valueOf", "(LConstantFlow$Program;I)I"⟩
theorem hyS_X_valueOf : y_X_valueOf.cls ≠ "java/lang/invoke/MethodHandle" ∧ y_X_valueOf.cls ≠ "java/lang/invoke/VarHandle" ∧ (parseMethodDescriptor y_X_valueOf.desc).map (fun d => d.parameters.length) = some 2 := by decide +kernel
theorem hyV_X_valueOf : y_X_valueOf.cls = zCn 5 ∧ y_X_valueOf.cls ≠ "java/lang/invoke/MethodHandle" ∧ y_X_valueOf.cls ≠ "java/lang/invoke/VarHandle" ∧ (parseMethodDescriptor y_X_valueOf.desc).map (fun d => d.parameters.length) = some 2 := by decide +kernel
def y_G_init : MethodName := ⟨"ConstantFlow$Program", "<init>", "()V"⟩
theorem hyS_G_init : y_G_init.cls ≠ "java/lang/invoke/MethodHandle" ∧ y_G_init.cls ≠ "java/lang/invoke/VarHandle" ∧ (parseMethodDescriptor y_G_init.desc).map (fun d => d.parameters.length) = some 0 := by decide +kernel
theorem hyV_G_init : y_G_init.cls = zCn 6 ∧ y_G_init.cls ≠ "java/lang/invoke/MethodHandle" ∧ y_G_init.cls ≠ "java/lang/invoke/VarHandle" ∧ (parseMethodDescriptor y_G_init.desc).map (fun d => d.parameters.length) = some 0 := by decide +kernel
def y_G_goal : MethodName := ⟨"ConstantFlow$Program", "goal", "(II)I"⟩
theorem hyS_G_goal : y_G_goal.cls ≠ "java/lang/invoke/MethodHandle" ∧ y_G_goal.cls ≠ "java/lang/invoke/VarHandle" ∧ (parseMethodDescriptor y_G_goal.desc).map (fun d => d.parameters.length) = some 2 := by decide +kernel
theorem hyV_G_goal : y_G_goal.cls = zCn 6 ∧ y_G_goal.cls ≠ "java/lang/invoke/MethodHandle" ∧ y_G_goal.cls ≠ "java/lang/invoke/VarHandle" ∧ (parseMethodDescriptor y_G_goal.desc).map (fun d => d.parameters.length) = some 2 := by decide +kernel
def y_R_passNumber : MethodName := ⟨"ConstantFlow$Reader", "passNumber", "(Z)Z"⟩
theorem hyS_R_passNumber : y_R_passNumber.cls ≠ "java/lang/invoke/MethodHandle" ∧ y_R_passNumber.cls ≠ "java/lang/invoke/VarHandle" ∧ (parseMethodDescriptor y_R_passNumber.desc).map (fun d => d.parameters.length) = some 1 := by decide +kernel
theorem hyV_R_passNumber : y_R_passNumber.cls = zCn 2 ∧ y_R_passNumber.cls ≠ "java/lang/invoke/MethodHandle" ∧ y_R_passNumber.cls ≠ "java/lang/invoke/VarHandle" ∧ (parseMethodDescriptor y_R_passNumber.desc).map (fun d => d.parameters.length) = some 1 := by decide +kernel
def y_R_init : MethodName := ⟨"ConstantFlow$Reader", "<init>", "(LConstantFlow$Text;)V"⟩
theorem hyS_R_init : y_R_init.cls ≠ "java/lang/invoke/MethodHandle" ∧ y_R_init.cls ≠ "java/lang/invoke/VarHandle" ∧ (parseMethodDescriptor y_R_init.desc).map (fun d => d.parameters.length) = some 1 := by decide +kernel
theorem hyV_R_init : y_R_init.cls = zCn 2 ∧ y_R_init.cls ≠ "java/lang/invoke/MethodHandle" ∧ y_R_init.cls ≠ "java/lang/invoke/VarHandle" ∧ (parseMethodDescriptor y_R_init.desc).map (fun d => d.parameters.length) = some 1 := by decide +kernel
def y_R_next : MethodName := ⟨"ConstantFlow$Reader", "next", "()I"⟩
theorem hyS_R_next : y_R_next.cls ≠ "java/lang/invoke/MethodHandle" ∧ y_R_next.cls ≠ "java/lang/invoke/VarHandle" ∧ (parseMethodDescriptor y_R_next.desc).map (fun d => d.parameters.length) = some 0 := by decide +kernel
theorem hyV_R_next : y_R_next.cls = zCn 2 ∧ y_R_next.cls ≠ "java/lang/invoke/MethodHandle" ∧ y_R_next.cls ≠ "java/lang/invoke/VarHandle" ∧ (parseMethodDescriptor y_R_next.desc).map (fun d => d.parameters.length) = some 0 := by decide +kernel
def y_T_init : MethodName := ⟨"ConstantFlow$Text", "<init>", "(I)V"⟩
theorem hyS_T_init : y_T_init.cls ≠ "java/lang/invoke/MethodHandle" ∧ y_T_init.cls ≠ "java/lang/invoke/VarHandle" ∧ (parseMethodDescriptor y_T_init.desc).map (fun d => d.parameters.length) = some 1 := by decide +kernel
theorem hyV_T_init : y_T_init.cls = zCn 1 ∧ y_T_init.cls ≠ "java/lang/invoke/MethodHandle" ∧ y_T_init.cls ≠ "java/lang/invoke/VarHandle" ∧ (parseMethodDescriptor y_T_init.desc).map (fun d => d.parameters.length) = some 1 := by decide +kernel
def y_T_appendNumber : MethodName := ⟨"ConstantFlow$Text", "appendNumber", "(I)V"⟩
theorem hyS_T_appendNumber : y_T_appendNumber.cls ≠ "java/lang/invoke/MethodHandle" ∧ y_T_appendNumber.cls ≠ "java/lang/invoke/VarHandle" ∧ (parseMethodDescriptor y_T_appendNumber.desc).map (fun d => d.parameters.length) = some 1 := by decide +kernel
theorem hyV_T_appendNumber : y_T_appendNumber.cls = zCn 1 ∧ y_T_appendNumber.cls ≠ "java/lang/invoke/MethodHandle" ∧ y_T_appendNumber.cls ≠ "java/lang/invoke/VarHandle" ∧ (parseMethodDescriptor y_T_appendNumber.desc).map (fun d => d.parameters.length) = some 1 := by decide +kernel
def y_V_init : MethodName := ⟨"ConstantFlow$View", "<init>", "()V"⟩
theorem hyS_V_init : y_V_init.cls ≠ "java/lang/invoke/MethodHandle" ∧ y_V_init.cls ≠ "java/lang/invoke/VarHandle" ∧ (parseMethodDescriptor y_V_init.desc).map (fun d => d.parameters.length) = some 0 := by decide +kernel
theorem hyV_V_init : y_V_init.cls = zCn 4 ∧ y_V_init.cls ≠ "java/lang/invoke/MethodHandle" ∧ y_V_init.cls ≠ "java/lang/invoke/VarHandle" ∧ (parseMethodDescriptor y_V_init.desc).map (fun d => d.parameters.length) = some 0 := by decide +kernel
def y_V_settles : MethodName := ⟨"ConstantFlow$View", "settles", "(LConstantFlow$Program;I)Z"⟩
theorem hyS_V_settles : y_V_settles.cls ≠ "java/lang/invoke/MethodHandle" ∧ y_V_settles.cls ≠ "java/lang/invoke/VarHandle" ∧ (parseMethodDescriptor y_V_settles.desc).map (fun d => d.parameters.length) = some 2 := by decide +kernel
theorem hyV_V_settles : y_V_settles.cls = zCn 4 ∧ y_V_settles.cls ≠ "java/lang/invoke/MethodHandle" ∧ y_V_settles.cls ≠ "java/lang/invoke/VarHandle" ∧ (parseMethodDescriptor y_V_settles.desc).map (fun d => d.parameters.length) = some 2 := by decide +kernel
def y_V_settled : MethodName := ⟨"ConstantFlow$View", "settled", "(LConstantFlow$Program;I)I"⟩
theorem hyS_V_settled : y_V_settled.cls ≠ "java/lang/invoke/MethodHandle" ∧ y_V_settled.cls ≠ "java/lang/invoke/VarHandle" ∧ (parseMethodDescriptor y_V_settled.desc).map (fun d => d.parameters.length) = some 2 := by decide +kernel
theorem hyV_V_settled : y_V_settled.cls = zCn 4 ∧ y_V_settled.cls ≠ "java/lang/invoke/MethodHandle" ∧ y_V_settled.cls ≠ "java/lang/invoke/VarHandle" ∧ (parseMethodDescriptor y_V_settled.desc).map (fun d => d.parameters.length) = some 2 := by decide +kernel
def y_M_want : MethodName := ⟨"ConstantFlowModel", "want", "(I)V"⟩
theorem hyS_M_want : y_M_want.cls ≠ "java/lang/invoke/MethodHandle" ∧ y_M_want.cls ≠ "java/lang/invoke/VarHandle" ∧ (parseMethodDescriptor y_M_want.desc).map (fun d => d.parameters.length) = some 1 := by decide +kernel
theorem hyV_M_want : y_M_want.cls = zCn 7 ∧ y_M_want.cls ≠ "java/lang/invoke/MethodHandle" ∧ y_M_want.cls ≠ "java/lang/invoke/VarHandle" ∧ (parseMethodDescriptor y_M_want.desc).map (fun d => d.parameters.length) = some 1 := by decide +kernel
def y_M_number0 : MethodName := ⟨"ConstantFlowModel", "number0", "(Z)I"⟩
theorem hyS_M_number0 : y_M_number0.cls ≠ "java/lang/invoke/MethodHandle" ∧ y_M_number0.cls ≠ "java/lang/invoke/VarHandle" ∧ (parseMethodDescriptor y_M_number0.desc).map (fun d => d.parameters.length) = some 1 := by decide +kernel
theorem hyV_M_number0 : y_M_number0.cls = zCn 7 ∧ y_M_number0.cls ≠ "java/lang/invoke/MethodHandle" ∧ y_M_number0.cls ≠ "java/lang/invoke/VarHandle" ∧ (parseMethodDescriptor y_M_number0.desc).map (fun d => d.parameters.length) = some 1 := by decide +kernel
def y_M_checkTargets : MethodName := ⟨"ConstantFlowModel", "checkTargets", "()V"⟩
theorem hyS_M_checkTargets : y_M_checkTargets.cls ≠ "java/lang/invoke/MethodHandle" ∧ y_M_checkTargets.cls ≠ "java/lang/invoke/VarHandle" ∧ (parseMethodDescriptor y_M_checkTargets.desc).map (fun d => d.parameters.length) = some 0 := by decide +kernel
theorem hyV_M_checkTargets : y_M_checkTargets.cls = zCn 7 ∧ y_M_checkTargets.cls ≠ "java/lang/invoke/MethodHandle" ∧ y_M_checkTargets.cls ≠ "java/lang/invoke/VarHandle" ∧ (parseMethodDescriptor y_M_checkTargets.desc).map (fun d => d.parameters.length) = some 0 := by decide +kernel
def y_M_init : MethodName := ⟨"ConstantFlowModel", "<init>", "()V"⟩
theorem hyS_M_init : y_M_init.cls ≠ "java/lang/invoke/MethodHandle" ∧ y_M_init.cls ≠ "java/lang/invoke/VarHandle" ∧ (parseMethodDescriptor y_M_init.desc).map (fun d => d.parameters.length) = some 0 := by decide +kernel
theorem hyV_M_init : y_M_init.cls = zCn 7 ∧ y_M_init.cls ≠ "java/lang/invoke/MethodHandle" ∧ y_M_init.cls ≠ "java/lang/invoke/VarHandle" ∧ (parseMethodDescriptor y_M_init.desc).map (fun d => d.parameters.length) = some 0 := by decide +kernel
def y_M_make : MethodName := ⟨"ConstantFlowModel", "make", "(I)V"⟩
theorem hyS_M_make : y_M_make.cls ≠ "java/lang/invoke/MethodHandle" ∧ y_M_make.cls ≠ "java/lang/invoke/VarHandle" ∧ (parseMethodDescriptor y_M_make.desc).map (fun d => d.parameters.length) = some 1 := by decide +kernel
theorem hyV_M_make : y_M_make.cls = zCn 7 ∧ y_M_make.cls ≠ "java/lang/invoke/MethodHandle" ∧ y_M_make.cls ≠ "java/lang/invoke/VarHandle" ∧ (parseMethodDescriptor y_M_make.desc).map (fun d => d.parameters.length) = some 1 := by decide +kernel
def y_M_goes : MethodName := ⟨"ConstantFlowModel", "goes", "(I)I"⟩
theorem hyS_M_goes : y_M_goes.cls ≠ "java/lang/invoke/MethodHandle" ∧ y_M_goes.cls ≠ "java/lang/invoke/VarHandle" ∧ (parseMethodDescriptor y_M_goes.desc).map (fun d => d.parameters.length) = some 1 := by decide +kernel
theorem hyV_M_goes : y_M_goes.cls = zCn 7 ∧ y_M_goes.cls ≠ "java/lang/invoke/MethodHandle" ∧ y_M_goes.cls ≠ "java/lang/invoke/VarHandle" ∧ (parseMethodDescriptor y_M_goes.desc).map (fun d => d.parameters.length) = some 1 := by decide +kernel
def y_M_putNumber : MethodName := ⟨"ConstantFlowModel", "putNumber", "(I)V"⟩
theorem hyS_M_putNumber : y_M_putNumber.cls ≠ "java/lang/invoke/MethodHandle" ∧ y_M_putNumber.cls ≠ "java/lang/invoke/VarHandle" ∧ (parseMethodDescriptor y_M_putNumber.desc).map (fun d => d.parameters.length) = some 1 := by decide +kernel
theorem hyV_M_putNumber : y_M_putNumber.cls = zCn 7 ∧ y_M_putNumber.cls ≠ "java/lang/invoke/MethodHandle" ∧ y_M_putNumber.cls ≠ "java/lang/invoke/VarHandle" ∧ (parseMethodDescriptor y_M_putNumber.desc).map (fun d => d.parameters.length) = some 1 := by decide +kernel
def y_M_done : MethodName := ⟨"ConstantFlowModel", "done", "(I)V"⟩
theorem hyS_M_done : y_M_done.cls ≠ "java/lang/invoke/MethodHandle" ∧ y_M_done.cls ≠ "java/lang/invoke/VarHandle" ∧ (parseMethodDescriptor y_M_done.desc).map (fun d => d.parameters.length) = some 1 := by decide +kernel
theorem hyV_M_done : y_M_done.cls = zCn 7 ∧ y_M_done.cls ≠ "java/lang/invoke/MethodHandle" ∧ y_M_done.cls ≠ "java/lang/invoke/VarHandle" ∧ (parseMethodDescriptor y_M_done.desc).map (fun d => d.parameters.length) = some 1 := by decide +kernel
def y_F_rewriteOperand : MethodName := ⟨"ConstantFlow$Facts", "rewriteOperand", "(LConstantFlow$Program;ILConstantFlow$Text;)V"⟩
theorem hyS_F_rewriteOperand : y_F_rewriteOperand.cls ≠ "java/lang/invoke/MethodHandle" ∧ y_F_rewriteOperand.cls ≠ "java/lang/invoke/VarHandle" ∧ (parseMethodDescriptor y_F_rewriteOperand.desc).map (fun d => d.parameters.length) = some 3 := by decide +kernel
theorem hyV_F_rewriteOperand : y_F_rewriteOperand.cls = zCn 3 ∧ y_F_rewriteOperand.cls ≠ "java/lang/invoke/MethodHandle" ∧ y_F_rewriteOperand.cls ≠ "java/lang/invoke/VarHandle" ∧ (parseMethodDescriptor y_F_rewriteOperand.desc).map (fun d => d.parameters.length) = some 3 := by decide +kernel
def y_F_init : MethodName := ⟨"ConstantFlow$Facts", "<init>", "()V"⟩
theorem hyS_F_init : y_F_init.cls ≠ "java/lang/invoke/MethodHandle" ∧ y_F_init.cls ≠ "java/lang/invoke/VarHandle" ∧ (parseMethodDescriptor y_F_init.desc).map (fun d => d.parameters.length) = some 0 := by decide +kernel
theorem hyV_F_init : y_F_init.cls = zCn 3 ∧ y_F_init.cls ≠ "java/lang/invoke/MethodHandle" ∧ y_F_init.cls ≠ "java/lang/invoke/VarHandle" ∧ (parseMethodDescriptor y_F_init.desc).map (fun d => d.parameters.length) = some 0 := by decide +kernel
def y_G_goalFor : MethodName := ⟨"ConstantFlow$Program", "goalFor", "(II)I"⟩
theorem hyS_G_goalFor : y_G_goalFor.cls ≠ "java/lang/invoke/MethodHandle" ∧ y_G_goalFor.cls ≠ "java/lang/invoke/VarHandle" ∧ (parseMethodDescriptor y_G_goalFor.desc).map (fun d => d.parameters.length) = some 2 := by decide +kernel
theorem hyV_G_goalFor : y_G_goalFor.cls = zCn 6 ∧ y_G_goalFor.cls ≠ "java/lang/invoke/MethodHandle" ∧ y_G_goalFor.cls ≠ "java/lang/invoke/VarHandle" ∧ (parseMethodDescriptor y_G_goalFor.desc).map (fun d => d.parameters.length) = some 2 := by decide +kernel
def y_R_fillGoal : MethodName := ⟨"ConstantFlow$Reader", "fillGoal", "(I)Z"⟩
theorem hyS_R_fillGoal : y_R_fillGoal.cls ≠ "java/lang/invoke/MethodHandle" ∧ y_R_fillGoal.cls ≠ "java/lang/invoke/VarHandle" ∧ (parseMethodDescriptor y_R_fillGoal.desc).map (fun d => d.parameters.length) = some 1 := by decide +kernel
theorem hyV_R_fillGoal : y_R_fillGoal.cls = zCn 2 ∧ y_R_fillGoal.cls ≠ "java/lang/invoke/MethodHandle" ∧ y_R_fillGoal.cls ≠ "java/lang/invoke/VarHandle" ∧ (parseMethodDescriptor y_R_fillGoal.desc).map (fun d => d.parameters.length) = some 1 := by decide +kernel
def y_R_allGoalsThere : MethodName := ⟨"ConstantFlow$Reader", "allGoalsThere", "()Z"⟩
theorem hyS_R_allGoalsThere : y_R_allGoalsThere.cls ≠ "java/lang/invoke/MethodHandle" ∧ y_R_allGoalsThere.cls ≠ "java/lang/invoke/VarHandle" ∧ (parseMethodDescriptor y_R_allGoalsThere.desc).map (fun d => d.parameters.length) = some 0 := by decide +kernel
theorem hyV_R_allGoalsThere : y_R_allGoalsThere.cls = zCn 2 ∧ y_R_allGoalsThere.cls ≠ "java/lang/invoke/MethodHandle" ∧ y_R_allGoalsThere.cls ≠ "java/lang/invoke/VarHandle" ∧ (parseMethodDescriptor y_R_allGoalsThere.desc).map (fun d => d.parameters.length) = some 0 := by decide +kernel
def y_R_pass : MethodName := ⟨"ConstantFlow$Reader", "pass", "(I)Z"⟩
theorem hyS_R_pass : y_R_pass.cls ≠ "java/lang/invoke/MethodHandle" ∧ y_R_pass.cls ≠ "java/lang/invoke/VarHandle" ∧ (parseMethodDescriptor y_R_pass.desc).map (fun d => d.parameters.length) = some 1 := by decide +kernel
theorem hyV_R_pass : y_R_pass.cls = zCn 2 ∧ y_R_pass.cls ≠ "java/lang/invoke/MethodHandle" ∧ y_R_pass.cls ≠ "java/lang/invoke/VarHandle" ∧ (parseMethodDescriptor y_R_pass.desc).map (fun d => d.parameters.length) = some 1 := by decide +kernel
def y_R_fillOperand : MethodName := ⟨"ConstantFlow$Reader", "fillOperand", "(I)Z"⟩
theorem hyS_R_fillOperand : y_R_fillOperand.cls ≠ "java/lang/invoke/MethodHandle" ∧ y_R_fillOperand.cls ≠ "java/lang/invoke/VarHandle" ∧ (parseMethodDescriptor y_R_fillOperand.desc).map (fun d => d.parameters.length) = some 1 := by decide +kernel
theorem hyV_R_fillOperand : y_R_fillOperand.cls = zCn 2 ∧ y_R_fillOperand.cls ≠ "java/lang/invoke/MethodHandle" ∧ y_R_fillOperand.cls ≠ "java/lang/invoke/VarHandle" ∧ (parseMethodDescriptor y_R_fillOperand.desc).map (fun d => d.parameters.length) = some 1 := by decide +kernel
def y_V_assign : MethodName := ⟨"ConstantFlow$View", "assign", "(LConstantFlow$Program;I)V"⟩
theorem hyS_V_assign : y_V_assign.cls ≠ "java/lang/invoke/MethodHandle" ∧ y_V_assign.cls ≠ "java/lang/invoke/VarHandle" ∧ (parseMethodDescriptor y_V_assign.desc).map (fun d => d.parameters.length) = some 2 := by decide +kernel
theorem hyV_V_assign : y_V_assign.cls = zCn 4 ∧ y_V_assign.cls ≠ "java/lang/invoke/MethodHandle" ∧ y_V_assign.cls ≠ "java/lang/invoke/VarHandle" ∧ (parseMethodDescriptor y_V_assign.desc).map (fun d => d.parameters.length) = some 2 := by decide +kernel
def y_M_operand : MethodName := ⟨"ConstantFlowModel", "operand", "()V"⟩
theorem hyS_M_operand : y_M_operand.cls ≠ "java/lang/invoke/MethodHandle" ∧ y_M_operand.cls ≠ "java/lang/invoke/VarHandle" ∧ (parseMethodDescriptor y_M_operand.desc).map (fun d => d.parameters.length) = some 0 := by decide +kernel
theorem hyV_M_operand : y_M_operand.cls = zCn 7 ∧ y_M_operand.cls ≠ "java/lang/invoke/MethodHandle" ∧ y_M_operand.cls ≠ "java/lang/invoke/VarHandle" ∧ (parseMethodDescriptor y_M_operand.desc).map (fun d => d.parameters.length) = some 0 := by decide +kernel
def y_M_blockNumber : MethodName := ⟨"ConstantFlowModel", "blockNumber", "(I)I"⟩
theorem hyS_M_blockNumber : y_M_blockNumber.cls ≠ "java/lang/invoke/MethodHandle" ∧ y_M_blockNumber.cls ≠ "java/lang/invoke/VarHandle" ∧ (parseMethodDescriptor y_M_blockNumber.desc).map (fun d => d.parameters.length) = some 1 := by decide +kernel
theorem hyV_M_blockNumber : y_M_blockNumber.cls = zCn 7 ∧ y_M_blockNumber.cls ≠ "java/lang/invoke/MethodHandle" ∧ y_M_blockNumber.cls ≠ "java/lang/invoke/VarHandle" ∧ (parseMethodDescriptor y_M_blockNumber.desc).map (fun d => d.parameters.length) = some 1 := by decide +kernel
def y_M_follow : MethodName := ⟨"ConstantFlowModel", "follow", "(I)V"⟩
theorem hyS_M_follow : y_M_follow.cls ≠ "java/lang/invoke/MethodHandle" ∧ y_M_follow.cls ≠ "java/lang/invoke/VarHandle" ∧ (parseMethodDescriptor y_M_follow.desc).map (fun d => d.parameters.length) = some 1 := by decide +kernel
theorem hyV_M_follow : y_M_follow.cls = zCn 7 ∧ y_M_follow.cls ≠ "java/lang/invoke/MethodHandle" ∧ y_M_follow.cls ≠ "java/lang/invoke/VarHandle" ∧ (parseMethodDescriptor y_M_follow.desc).map (fun d => d.parameters.length) = some 1 := by decide +kernel
def y_M_lead : MethodName := ⟨"ConstantFlowModel", "lead", "(I)Z"⟩
theorem hyS_M_lead : y_M_lead.cls ≠ "java/lang/invoke/MethodHandle" ∧ y_M_lead.cls ≠ "java/lang/invoke/VarHandle" ∧ (parseMethodDescriptor y_M_lead.desc).map (fun d => d.parameters.length) = some 1 := by decide +kernel
theorem hyV_M_lead : y_M_lead.cls = zCn 7 ∧ y_M_lead.cls ≠ "java/lang/invoke/MethodHandle" ∧ y_M_lead.cls ≠ "java/lang/invoke/VarHandle" ∧ (parseMethodDescriptor y_M_lead.desc).map (fun d => d.parameters.length) = some 1 := by decide +kernel
def y_M_putOperand : MethodName := ⟨"ConstantFlowModel", "putOperand", "(II)V"⟩
theorem hyS_M_putOperand : y_M_putOperand.cls ≠ "java/lang/invoke/MethodHandle" ∧ y_M_putOperand.cls ≠ "java/lang/invoke/VarHandle" ∧ (parseMethodDescriptor y_M_putOperand.desc).map (fun d => d.parameters.length) = some 2 := by decide +kernel
theorem hyV_M_putOperand : y_M_putOperand.cls = zCn 7 ∧ y_M_putOperand.cls ≠ "java/lang/invoke/MethodHandle" ∧ y_M_putOperand.cls ≠ "java/lang/invoke/VarHandle" ∧ (parseMethodDescriptor y_M_putOperand.desc).map (fun d => d.parameters.length) = some 2 := by decide +kernel
def y_M_putEnd : MethodName := ⟨"ConstantFlowModel", "putEnd", "(I)V"⟩
theorem hyS_M_putEnd : y_M_putEnd.cls ≠ "java/lang/invoke/MethodHandle" ∧ y_M_putEnd.cls ≠ "java/lang/invoke/VarHandle" ∧ (parseMethodDescriptor y_M_putEnd.desc).map (fun d => d.parameters.length) = some 1 := by decide +kernel
theorem hyV_M_putEnd : y_M_putEnd.cls = zCn 7 ∧ y_M_putEnd.cls ≠ "java/lang/invoke/MethodHandle" ∧ y_M_putEnd.cls ≠ "java/lang/invoke/VarHandle" ∧ (parseMethodDescriptor y_M_putEnd.desc).map (fun d => d.parameters.length) = some 1 := by decide +kernel
def y_M_run : MethodName := ⟨"ConstantFlowModel", "run", "(I)I"⟩
theorem hyS_M_run : y_M_run.cls ≠ "java/lang/invoke/MethodHandle" ∧ y_M_run.cls ≠ "java/lang/invoke/VarHandle" ∧ (parseMethodDescriptor y_M_run.desc).map (fun d => d.parameters.length) = some 1 := by decide +kernel
theorem hyV_M_run : y_M_run.cls = zCn 7 ∧ y_M_run.cls ≠ "java/lang/invoke/MethodHandle" ∧ y_M_run.cls ≠ "java/lang/invoke/VarHandle" ∧ (parseMethodDescriptor y_M_run.desc).map (fun d => d.parameters.length) = some 1 := by decide +kernel
def y_F_countBlock : MethodName := ⟨"ConstantFlow$Facts", "countBlock", "(LConstantFlow$Program;I)V"⟩
theorem hyS_F_countBlock : y_F_countBlock.cls ≠ "java/lang/invoke/MethodHandle" ∧ y_F_countBlock.cls ≠ "java/lang/invoke/VarHandle" ∧ (parseMethodDescriptor y_F_countBlock.desc).map (fun d => d.parameters.length) = some 2 := by decide +kernel
theorem hyV_F_countBlock : y_F_countBlock.cls = zCn 3 ∧ y_F_countBlock.cls ≠ "java/lang/invoke/MethodHandle" ∧ y_F_countBlock.cls ≠ "java/lang/invoke/VarHandle" ∧ (parseMethodDescriptor y_F_countBlock.desc).map (fun d => d.parameters.length) = some 2 := by decide +kernel
def y_F_rewriteValue : MethodName := ⟨"ConstantFlow$Facts", "rewriteValue", "(LConstantFlow$Program;ILConstantFlow$Text;)V"⟩
theorem hyS_F_rewriteValue : y_F_rewriteValue.cls ≠ "java/lang/invoke/MethodHandle" ∧ y_F_rewriteValue.cls ≠ "java/lang/invoke/VarHandle" ∧ (parseMethodDescriptor y_F_rewriteValue.desc).map (fun d => d.parameters.length) = some 3 := by decide +kernel
theorem hyV_F_rewriteValue : y_F_rewriteValue.cls = zCn 3 ∧ y_F_rewriteValue.cls ≠ "java/lang/invoke/MethodHandle" ∧ y_F_rewriteValue.cls ≠ "java/lang/invoke/VarHandle" ∧ (parseMethodDescriptor y_F_rewriteValue.desc).map (fun d => d.parameters.length) = some 3 := by decide +kernel
def y_F_onlyGoal : MethodName := ⟨"ConstantFlow$Facts", "onlyGoal", "(LConstantFlow$Program;I)I"⟩
theorem hyS_F_onlyGoal : y_F_onlyGoal.cls ≠ "java/lang/invoke/MethodHandle" ∧ y_F_onlyGoal.cls ≠ "java/lang/invoke/VarHandle" ∧ (parseMethodDescriptor y_F_onlyGoal.desc).map (fun d => d.parameters.length) = some 2 := by decide +kernel
theorem hyV_F_onlyGoal : y_F_onlyGoal.cls = zCn 3 ∧ y_F_onlyGoal.cls ≠ "java/lang/invoke/MethodHandle" ∧ y_F_onlyGoal.cls ≠ "java/lang/invoke/VarHandle" ∧ (parseMethodDescriptor y_F_onlyGoal.desc).map (fun d => d.parameters.length) = some 2 := by decide +kernel
def y_X_execute : MethodName := ⟨"ConstantFlow$Machine", "execute", "(LConstantFlow$Program;I)I"⟩
theorem hyS_X_execute : y_X_execute.cls ≠ "java/lang/invoke/MethodHandle" ∧ y_X_execute.cls ≠ "java/lang/invoke/VarHandle" ∧ (parseMethodDescriptor y_X_execute.desc).map (fun d => d.parameters.length) = some 2 := by decide +kernel
theorem hyV_X_execute : y_X_execute.cls = zCn 5 ∧ y_X_execute.cls ≠ "java/lang/invoke/MethodHandle" ∧ y_X_execute.cls ≠ "java/lang/invoke/VarHandle" ∧ (parseMethodDescriptor y_X_execute.desc).map (fun d => d.parameters.length) = some 2 := by decide +kernel
def y_R_fillStatement : MethodName := ⟨"ConstantFlow$Reader", "fillStatement", "(I)Z"⟩
theorem hyS_R_fillStatement : y_R_fillStatement.cls ≠ "java/lang/invoke/MethodHandle" ∧ y_R_fillStatement.cls ≠ "java/lang/invoke/VarHandle" ∧ (parseMethodDescriptor y_R_fillStatement.desc).map (fun d => d.parameters.length) = some 1 := by decide +kernel
theorem hyV_R_fillStatement : y_R_fillStatement.cls = zCn 2 ∧ y_R_fillStatement.cls ≠ "java/lang/invoke/MethodHandle" ∧ y_R_fillStatement.cls ≠ "java/lang/invoke/VarHandle" ∧ (parseMethodDescriptor y_R_fillStatement.desc).map (fun d => d.parameters.length) = some 1 := by decide +kernel
def y_R_fillEnd : MethodName := ⟨"ConstantFlow$Reader", "fillEnd", "()Z"⟩
theorem hyS_R_fillEnd : y_R_fillEnd.cls ≠ "java/lang/invoke/MethodHandle" ∧ y_R_fillEnd.cls ≠ "java/lang/invoke/VarHandle" ∧ (parseMethodDescriptor y_R_fillEnd.desc).map (fun d => d.parameters.length) = some 0 := by decide +kernel
theorem hyV_R_fillEnd : y_R_fillEnd.cls = zCn 2 ∧ y_R_fillEnd.cls ≠ "java/lang/invoke/MethodHandle" ∧ y_R_fillEnd.cls ≠ "java/lang/invoke/VarHandle" ∧ (parseMethodDescriptor y_R_fillEnd.desc).map (fun d => d.parameters.length) = some 0 := by decide +kernel
def y_M_statement : MethodName := ⟨"ConstantFlowModel", "statement", "(I)V"⟩
theorem hyS_M_statement : y_M_statement.cls ≠ "java/lang/invoke/MethodHandle" ∧ y_M_statement.cls ≠ "java/lang/invoke/VarHandle" ∧ (parseMethodDescriptor y_M_statement.desc).map (fun d => d.parameters.length) = some 1 := by decide +kernel
theorem hyV_M_statement : y_M_statement.cls = zCn 7 ∧ y_M_statement.cls ≠ "java/lang/invoke/MethodHandle" ∧ y_M_statement.cls ≠ "java/lang/invoke/VarHandle" ∧ (parseMethodDescriptor y_M_statement.desc).map (fun d => d.parameters.length) = some 1 := by decide +kernel
def y_M_choice : MethodName := ⟨"ConstantFlowModel", "choice", "()V"⟩
theorem hyS_M_choice : y_M_choice.cls ≠ "java/lang/invoke/MethodHandle" ∧ y_M_choice.cls ≠ "java/lang/invoke/VarHandle" ∧ (parseMethodDescriptor y_M_choice.desc).map (fun d => d.parameters.length) = some 0 := by decide +kernel
theorem hyV_M_choice : y_M_choice.cls = zCn 7 ∧ y_M_choice.cls ≠ "java/lang/invoke/MethodHandle" ∧ y_M_choice.cls ≠ "java/lang/invoke/VarHandle" ∧ (parseMethodDescriptor y_M_choice.desc).map (fun d => d.parameters.length) = some 0 := by decide +kernel
def y_M_know : MethodName := ⟨"ConstantFlowModel", "know", "()V"⟩
theorem hyS_M_know : y_M_know.cls ≠ "java/lang/invoke/MethodHandle" ∧ y_M_know.cls ≠ "java/lang/invoke/VarHandle" ∧ (parseMethodDescriptor y_M_know.desc).map (fun d => d.parameters.length) = some 0 := by decide +kernel
theorem hyV_M_know : y_M_know.cls = zCn 7 ∧ y_M_know.cls ≠ "java/lang/invoke/MethodHandle" ∧ y_M_know.cls ≠ "java/lang/invoke/VarHandle" ∧ (parseMethodDescriptor y_M_know.desc).map (fun d => d.parameters.length) = some 0 := by decide +kernel
def y_M_putStatement : MethodName := ⟨"ConstantFlowModel", "putStatement", "(I)V"⟩
theorem hyS_M_putStatement : y_M_putStatement.cls ≠ "java/lang/invoke/MethodHandle" ∧ y_M_putStatement.cls ≠ "java/lang/invoke/VarHandle" ∧ (parseMethodDescriptor y_M_putStatement.desc).map (fun d => d.parameters.length) = some 1 := by decide +kernel
theorem hyV_M_putStatement : y_M_putStatement.cls = zCn 7 ∧ y_M_putStatement.cls ≠ "java/lang/invoke/MethodHandle" ∧ y_M_putStatement.cls ≠ "java/lang/invoke/VarHandle" ∧ (parseMethodDescriptor y_M_putStatement.desc).map (fun d => d.parameters.length) = some 1 := by decide +kernel
def y_F_rewriteEnd : MethodName := ⟨"ConstantFlow$Facts", "rewriteEnd", "(LConstantFlow$Program;ILConstantFlow$Text;)V"⟩
theorem hyS_F_rewriteEnd : y_F_rewriteEnd.cls ≠ "java/lang/invoke/MethodHandle" ∧ y_F_rewriteEnd.cls ≠ "java/lang/invoke/VarHandle" ∧ (parseMethodDescriptor y_F_rewriteEnd.desc).map (fun d => d.parameters.length) = some 3 := by decide +kernel
theorem hyV_F_rewriteEnd : y_F_rewriteEnd.cls = zCn 3 ∧ y_F_rewriteEnd.cls ≠ "java/lang/invoke/MethodHandle" ∧ y_F_rewriteEnd.cls ≠ "java/lang/invoke/VarHandle" ∧ (parseMethodDescriptor y_F_rewriteEnd.desc).map (fun d => d.parameters.length) = some 3 := by decide +kernel
def y_F_flowThrough : MethodName := ⟨"ConstantFlow$Facts", "flowThrough", "(LConstantFlow$Program;I)V"⟩
theorem hyS_F_flowThrough : y_F_flowThrough.cls ≠ "java/lang/invoke/MethodHandle" ∧ y_F_flowThrough.cls ≠ "java/lang/invoke/VarHandle" ∧ (parseMethodDescriptor y_F_flowThrough.desc).map (fun d => d.parameters.length) = some 2 := by decide +kernel
theorem hyV_F_flowThrough : y_F_flowThrough.cls = zCn 3 ∧ y_F_flowThrough.cls ≠ "java/lang/invoke/MethodHandle" ∧ y_F_flowThrough.cls ≠ "java/lang/invoke/VarHandle" ∧ (parseMethodDescriptor y_F_flowThrough.desc).map (fun d => d.parameters.length) = some 2 := by decide +kernel
def y_F_count : MethodName := ⟨"ConstantFlow$Facts", "count", "(LConstantFlow$Program;)V"⟩
theorem hyS_F_count : y_F_count.cls ≠ "java/lang/invoke/MethodHandle" ∧ y_F_count.cls ≠ "java/lang/invoke/VarHandle" ∧ (parseMethodDescriptor y_F_count.desc).map (fun d => d.parameters.length) = some 1 := by decide +kernel
theorem hyV_F_count : y_F_count.cls = zCn 3 ∧ y_F_count.cls ≠ "java/lang/invoke/MethodHandle" ∧ y_F_count.cls ≠ "java/lang/invoke/VarHandle" ∧ (parseMethodDescriptor y_F_count.desc).map (fun d => d.parameters.length) = some 1 := by decide +kernel
def y_R_fillStatements : MethodName := ⟨"ConstantFlow$Reader", "fillStatements", "()Z"⟩
theorem hyS_R_fillStatements : y_R_fillStatements.cls ≠ "java/lang/invoke/MethodHandle" ∧ y_R_fillStatements.cls ≠ "java/lang/invoke/VarHandle" ∧ (parseMethodDescriptor y_R_fillStatements.desc).map (fun d => d.parameters.length) = some 0 := by decide +kernel
theorem hyV_R_fillStatements : y_R_fillStatements.cls = zCn 2 ∧ y_R_fillStatements.cls ≠ "java/lang/invoke/MethodHandle" ∧ y_R_fillStatements.cls ≠ "java/lang/invoke/VarHandle" ∧ (parseMethodDescriptor y_R_fillStatements.desc).map (fun d => d.parameters.length) = some 0 := by decide +kernel
def y_M_block : MethodName := ⟨"ConstantFlowModel", "block", "()V"⟩
theorem hyS_M_block : y_M_block.cls ≠ "java/lang/invoke/MethodHandle" ∧ y_M_block.cls ≠ "java/lang/invoke/VarHandle" ∧ (parseMethodDescriptor y_M_block.desc).map (fun d => d.parameters.length) = some 0 := by decide +kernel
theorem hyV_M_block : y_M_block.cls = zCn 7 ∧ y_M_block.cls ≠ "java/lang/invoke/MethodHandle" ∧ y_M_block.cls ≠ "java/lang/invoke/VarHandle" ∧ (parseMethodDescriptor y_M_block.desc).map (fun d => d.parameters.length) = some 0 := by decide +kernel
def y_M_comes : MethodName := ⟨"ConstantFlowModel", "comes", "(I)Z"⟩
theorem hyS_M_comes : y_M_comes.cls ≠ "java/lang/invoke/MethodHandle" ∧ y_M_comes.cls ≠ "java/lang/invoke/VarHandle" ∧ (parseMethodDescriptor y_M_comes.desc).map (fun d => d.parameters.length) = some 1 := by decide +kernel
theorem hyV_M_comes : y_M_comes.cls = zCn 7 ∧ y_M_comes.cls ≠ "java/lang/invoke/MethodHandle" ∧ y_M_comes.cls ≠ "java/lang/invoke/VarHandle" ∧ (parseMethodDescriptor y_M_comes.desc).map (fun d => d.parameters.length) = some 1 := by decide +kernel
def y_M_goTo : MethodName := ⟨"ConstantFlowModel", "goTo", "(IZ)V"⟩
theorem hyS_M_goTo : y_M_goTo.cls ≠ "java/lang/invoke/MethodHandle" ∧ y_M_goTo.cls ≠ "java/lang/invoke/VarHandle" ∧ (parseMethodDescriptor y_M_goTo.desc).map (fun d => d.parameters.length) = some 2 := by decide +kernel
theorem hyV_M_goTo : y_M_goTo.cls = zCn 7 ∧ y_M_goTo.cls ≠ "java/lang/invoke/MethodHandle" ∧ y_M_goTo.cls ≠ "java/lang/invoke/VarHandle" ∧ (parseMethodDescriptor y_M_goTo.desc).map (fun d => d.parameters.length) = some 2 := by decide +kernel
def y_M_told : MethodName := ⟨"ConstantFlowModel", "told", "(I)I"⟩
theorem hyS_M_told : y_M_told.cls ≠ "java/lang/invoke/MethodHandle" ∧ y_M_told.cls ≠ "java/lang/invoke/VarHandle" ∧ (parseMethodDescriptor y_M_told.desc).map (fun d => d.parameters.length) = some 1 := by decide +kernel
theorem hyV_M_told : y_M_told.cls = zCn 7 ∧ y_M_told.cls ≠ "java/lang/invoke/MethodHandle" ∧ y_M_told.cls ≠ "java/lang/invoke/VarHandle" ∧ (parseMethodDescriptor y_M_told.desc).map (fun d => d.parameters.length) = some 1 := by decide +kernel
def y_M_write : MethodName := ⟨"ConstantFlowModel", "write", "()I"⟩
theorem hyS_M_write : y_M_write.cls ≠ "java/lang/invoke/MethodHandle" ∧ y_M_write.cls ≠ "java/lang/invoke/VarHandle" ∧ (parseMethodDescriptor y_M_write.desc).map (fun d => d.parameters.length) = some 0 := by decide +kernel
theorem hyV_M_write : y_M_write.cls = zCn 7 ∧ y_M_write.cls ≠ "java/lang/invoke/MethodHandle" ∧ y_M_write.cls ≠ "java/lang/invoke/VarHandle" ∧ (parseMethodDescriptor y_M_write.desc).map (fun d => d.parameters.length) = some 0 := by decide +kernel
def y_C_told : MethodName := ⟨"ConstantFlow", "told", "(I)I"⟩
theorem hyS_C_told : y_C_told.cls ≠ "java/lang/invoke/MethodHandle" ∧ y_C_told.cls ≠ "java/lang/invoke/VarHandle" ∧ (parseMethodDescriptor y_C_told.desc).map (fun d => d.parameters.length) = some 1 := by decide +kernel
theorem hyV_C_told : y_C_told.cls = zCn 0 ∧ y_C_told.cls ≠ "java/lang/invoke/MethodHandle" ∧ y_C_told.cls ≠ "java/lang/invoke/VarHandle" ∧ (parseMethodDescriptor y_C_told.desc).map (fun d => d.parameters.length) = some 1 := by decide +kernel
def y_C_run : MethodName := ⟨"ConstantFlow", "run", "(I)I"⟩
theorem hyS_C_run : y_C_run.cls ≠ "java/lang/invoke/MethodHandle" ∧ y_C_run.cls ≠ "java/lang/invoke/VarHandle" ∧ (parseMethodDescriptor y_C_run.desc).map (fun d => d.parameters.length) = some 1 := by decide +kernel
theorem hyV_C_run : y_C_run.cls = zCn 0 ∧ y_C_run.cls ≠ "java/lang/invoke/MethodHandle" ∧ y_C_run.cls ≠ "java/lang/invoke/VarHandle" ∧ (parseMethodDescriptor y_C_run.desc).map (fun d => d.parameters.length) = some 1 := by decide +kernel
def y_C_value : MethodName := ⟨"ConstantFlow", "value", "(I)I"⟩
theorem hyS_C_value : y_C_value.cls ≠ "java/lang/invoke/MethodHandle" ∧ y_C_value.cls ≠ "java/lang/invoke/VarHandle" ∧ (parseMethodDescriptor y_C_value.desc).map (fun d => d.parameters.length) = some 1 := by decide +kernel
theorem hyV_C_value : y_C_value.cls = zCn 0 ∧ y_C_value.cls ≠ "java/lang/invoke/MethodHandle" ∧ y_C_value.cls ≠ "java/lang/invoke/VarHandle" ∧ (parseMethodDescriptor y_C_value.desc).map (fun d => d.parameters.length) = some 1 := by decide +kernel
def y_C_feed : MethodName := ⟨"ConstantFlow", "feed", "(IJ)I"⟩
theorem hyS_C_feed : y_C_feed.cls ≠ "java/lang/invoke/MethodHandle" ∧ y_C_feed.cls ≠ "java/lang/invoke/VarHandle" ∧ (parseMethodDescriptor y_C_feed.desc).map (fun d => d.parameters.length) = some 2 := by decide +kernel
theorem hyV_C_feed : y_C_feed.cls = zCn 0 ∧ y_C_feed.cls ≠ "java/lang/invoke/MethodHandle" ∧ y_C_feed.cls ≠ "java/lang/invoke/VarHandle" ∧ (parseMethodDescriptor y_C_feed.desc).map (fun d => d.parameters.length) = some 2 := by decide +kernel
def y_C_comes : MethodName := ⟨"ConstantFlow", "comes", "(I)Z"⟩
theorem hyS_C_comes : y_C_comes.cls ≠ "java/lang/invoke/MethodHandle" ∧ y_C_comes.cls ≠ "java/lang/invoke/VarHandle" ∧ (parseMethodDescriptor y_C_comes.desc).map (fun d => d.parameters.length) = some 1 := by decide +kernel
theorem hyV_C_comes : y_C_comes.cls = zCn 0 ∧ y_C_comes.cls ≠ "java/lang/invoke/MethodHandle" ∧ y_C_comes.cls ≠ "java/lang/invoke/VarHandle" ∧ (parseMethodDescriptor y_C_comes.desc).map (fun d => d.parameters.length) = some 1 := by decide +kernel
def y_C_known : MethodName := ⟨"ConstantFlow", "known", "(IIZ)I"⟩
theorem hyS_C_known : y_C_known.cls ≠ "java/lang/invoke/MethodHandle" ∧ y_C_known.cls ≠ "java/lang/invoke/VarHandle" ∧ (parseMethodDescriptor y_C_known.desc).map (fun d => d.parameters.length) = some 3 := by decide +kernel
theorem hyV_C_known : y_C_known.cls = zCn 0 ∧ y_C_known.cls ≠ "java/lang/invoke/MethodHandle" ∧ y_C_known.cls ≠ "java/lang/invoke/VarHandle" ∧ (parseMethodDescriptor y_C_known.desc).map (fun d => d.parameters.length) = some 3 := by decide +kernel
def y_C_number : MethodName := ⟨"ConstantFlow", "number", "(IIZ)I"⟩
theorem hyS_C_number : y_C_number.cls ≠ "java/lang/invoke/MethodHandle" ∧ y_C_number.cls ≠ "java/lang/invoke/VarHandle" ∧ (parseMethodDescriptor y_C_number.desc).map (fun d => d.parameters.length) = some 3 := by decide +kernel
theorem hyV_C_number : y_C_number.cls = zCn 0 ∧ y_C_number.cls ≠ "java/lang/invoke/MethodHandle" ∧ y_C_number.cls ≠ "java/lang/invoke/VarHandle" ∧ (parseMethodDescriptor y_C_number.desc).map (fun d => d.parameters.length) = some 3 := by decide +kernel
def y_F_rewriteBlock : MethodName := ⟨"ConstantFlow$Facts", "rewriteBlock", "(LConstantFlow$Program;ILConstantFlow$Text;)V"⟩
theorem hyS_F_rewriteBlock : y_F_rewriteBlock.cls ≠ "java/lang/invoke/MethodHandle" ∧ y_F_rewriteBlock.cls ≠ "java/lang/invoke/VarHandle" ∧ (parseMethodDescriptor y_F_rewriteBlock.desc).map (fun d => d.parameters.length) = some 3 := by decide +kernel
theorem hyV_F_rewriteBlock : y_F_rewriteBlock.cls = zCn 3 ∧ y_F_rewriteBlock.cls ≠ "java/lang/invoke/MethodHandle" ∧ y_F_rewriteBlock.cls ≠ "java/lang/invoke/VarHandle" ∧ (parseMethodDescriptor y_F_rewriteBlock.desc).map (fun d => d.parameters.length) = some 3 := by decide +kernel
def y_F_flowOnce : MethodName := ⟨"ConstantFlow$Facts", "flowOnce", "(LConstantFlow$Program;)Z"⟩
theorem hyS_F_flowOnce : y_F_flowOnce.cls ≠ "java/lang/invoke/MethodHandle" ∧ y_F_flowOnce.cls ≠ "java/lang/invoke/VarHandle" ∧ (parseMethodDescriptor y_F_flowOnce.desc).map (fun d => d.parameters.length) = some 1 := by decide +kernel
theorem hyV_F_flowOnce : y_F_flowOnce.cls = zCn 3 ∧ y_F_flowOnce.cls ≠ "java/lang/invoke/MethodHandle" ∧ y_F_flowOnce.cls ≠ "java/lang/invoke/VarHandle" ∧ (parseMethodDescriptor y_F_flowOnce.desc).map (fun d => d.parameters.length) = some 1 := by decide +kernel
def y_R_fill : MethodName := ⟨"ConstantFlow$Reader", "fill", "(LConstantFlow$Program;)Z"⟩
theorem hyS_R_fill : y_R_fill.cls ≠ "java/lang/invoke/MethodHandle" ∧ y_R_fill.cls ≠ "java/lang/invoke/VarHandle" ∧ (parseMethodDescriptor y_R_fill.desc).map (fun d => d.parameters.length) = some 1 := by decide +kernel
theorem hyV_R_fill : y_R_fill.cls = zCn 2 ∧ y_R_fill.cls ≠ "java/lang/invoke/MethodHandle" ∧ y_R_fill.cls ≠ "java/lang/invoke/VarHandle" ∧ (parseMethodDescriptor y_R_fill.desc).map (fun d => d.parameters.length) = some 1 := by decide +kernel
def y_M_read : MethodName := ⟨"ConstantFlowModel", "read", "()I"⟩
theorem hyS_M_read : y_M_read.cls ≠ "java/lang/invoke/MethodHandle" ∧ y_M_read.cls ≠ "java/lang/invoke/VarHandle" ∧ (parseMethodDescriptor y_M_read.desc).map (fun d => d.parameters.length) = some 0 := by decide +kernel
theorem hyV_M_read : y_M_read.cls = zCn 7 ∧ y_M_read.cls ≠ "java/lang/invoke/MethodHandle" ∧ y_M_read.cls ≠ "java/lang/invoke/VarHandle" ∧ (parseMethodDescriptor y_M_read.desc).map (fun d => d.parameters.length) = some 0 := by decide +kernel
def y_M_known : MethodName := ⟨"ConstantFlowModel", "known", "(IIZ)I"⟩
theorem hyS_M_known : y_M_known.cls ≠ "java/lang/invoke/MethodHandle" ∧ y_M_known.cls ≠ "java/lang/invoke/VarHandle" ∧ (parseMethodDescriptor y_M_known.desc).map (fun d => d.parameters.length) = some 3 := by decide +kernel
theorem hyV_M_known : y_M_known.cls = zCn 7 ∧ y_M_known.cls ≠ "java/lang/invoke/MethodHandle" ∧ y_M_known.cls ≠ "java/lang/invoke/VarHandle" ∧ (parseMethodDescriptor y_M_known.desc).map (fun d => d.parameters.length) = some 3 := by decide +kernel
def y_M_number : MethodName := ⟨"ConstantFlowModel", "number", "(IIZ)I"⟩
theorem hyS_M_number : y_M_number.cls ≠ "java/lang/invoke/MethodHandle" ∧ y_M_number.cls ≠ "java/lang/invoke/VarHandle" ∧ (parseMethodDescriptor y_M_number.desc).map (fun d => d.parameters.length) = some 3 := by decide +kernel
theorem hyV_M_number : y_M_number.cls = zCn 7 ∧ y_M_number.cls ≠ "java/lang/invoke/MethodHandle" ∧ y_M_number.cls ≠ "java/lang/invoke/VarHandle" ∧ (parseMethodDescriptor y_M_number.desc).map (fun d => d.parameters.length) = some 3 := by decide +kernel
def y_F_rewrite : MethodName := ⟨"ConstantFlow$Facts", "rewrite", "(LConstantFlow$Program;LConstantFlow$Text;)V"⟩
theorem hyS_F_rewrite : y_F_rewrite.cls ≠ "java/lang/invoke/MethodHandle" ∧ y_F_rewrite.cls ≠ "java/lang/invoke/VarHandle" ∧ (parseMethodDescriptor y_F_rewrite.desc).map (fun d => d.parameters.length) = some 2 := by decide +kernel
theorem hyV_F_rewrite : y_F_rewrite.cls = zCn 3 ∧ y_F_rewrite.cls ≠ "java/lang/invoke/MethodHandle" ∧ y_F_rewrite.cls ≠ "java/lang/invoke/VarHandle" ∧ (parseMethodDescriptor y_F_rewrite.desc).map (fun d => d.parameters.length) = some 2 := by decide +kernel
def y_F_find : MethodName := ⟨"ConstantFlow$Facts", "find", "(LConstantFlow$Program;)V"⟩
theorem hyS_F_find : y_F_find.cls ≠ "java/lang/invoke/MethodHandle" ∧ y_F_find.cls ≠ "java/lang/invoke/VarHandle" ∧ (parseMethodDescriptor y_F_find.desc).map (fun d => d.parameters.length) = some 1 := by decide +kernel
theorem hyV_F_find : y_F_find.cls = zCn 3 ∧ y_F_find.cls ≠ "java/lang/invoke/MethodHandle" ∧ y_F_find.cls ≠ "java/lang/invoke/VarHandle" ∧ (parseMethodDescriptor y_F_find.desc).map (fun d => d.parameters.length) = some 1 := by decide +kernel
def y_C_write : MethodName := ⟨"ConstantFlow", "write", "()I"⟩
theorem hyS_C_write : y_C_write.cls ≠ "java/lang/invoke/MethodHandle" ∧ y_C_write.cls ≠ "java/lang/invoke/VarHandle" ∧ (parseMethodDescriptor y_C_write.desc).map (fun d => d.parameters.length) = some 0 := by decide +kernel
theorem hyV_C_write : y_C_write.cls = zCn 0 ∧ y_C_write.cls ≠ "java/lang/invoke/MethodHandle" ∧ y_C_write.cls ≠ "java/lang/invoke/VarHandle" ∧ (parseMethodDescriptor y_C_write.desc).map (fun d => d.parameters.length) = some 0 := by decide +kernel
def y_C_init : MethodName := ⟨"ConstantFlow", "<init>", "()V"⟩
theorem hyS_C_init : y_C_init.cls ≠ "java/lang/invoke/MethodHandle" ∧ y_C_init.cls ≠ "java/lang/invoke/VarHandle" ∧ (parseMethodDescriptor y_C_init.desc).map (fun d => d.parameters.length) = some 0 := by decide +kernel
theorem hyV_C_init : y_C_init.cls = zCn 0 ∧ y_C_init.cls ≠ "java/lang/invoke/MethodHandle" ∧ y_C_init.cls ≠ "java/lang/invoke/VarHandle" ∧ (parseMethodDescriptor y_C_init.desc).map (fun d => d.parameters.length) = some 0 := by decide +kernel
def y_C_read : MethodName := ⟨"ConstantFlow", "read", "()I"⟩
theorem hyS_C_read : y_C_read.cls ≠ "java/lang/invoke/MethodHandle" ∧ y_C_read.cls ≠ "java/lang/invoke/VarHandle" ∧ (parseMethodDescriptor y_C_read.desc).map (fun d => d.parameters.length) = some 0 := by decide +kernel
theorem hyV_C_read : y_C_read.cls = zCn 0 ∧ y_C_read.cls ≠ "java/lang/invoke/MethodHandle" ∧ y_C_read.cls ≠ "java/lang/invoke/VarHandle" ∧ (parseMethodDescriptor y_C_read.desc).map (fun d => d.parameters.length) = some 0 := by decide +kernel
theorem mp_1_0 : Cond.selects "ConstantFlow$Facts" y_F_comeTo y_F_comeTo ∈ zWD := zp_in (zp1 (List.mem_of_getElem? (i := 0) rfl))
theorem mp_1_1 : Cond.selects "ConstantFlow$Facts" y_F_flowOnce y_F_flowOnce ∈ zWD := zp_in (zp1 (List.mem_of_getElem? (i := 1) rfl))
theorem mp_1_10 : Cond.selects "ConstantFlow$Reader" y_R_fillStatement y_R_fillStatement ∈ zWD := zp_in (zp1 (List.mem_of_getElem? (i := 10) rfl))
theorem mp_1_11 : Cond.selects "ConstantFlow$Reader" y_R_pass y_R_pass ∈ zWD := zp_in (zp1 (List.mem_of_getElem? (i := 11) rfl))
theorem mp_1_12 : Cond.selects "ConstantFlow$Reader" y_R_fillOperand y_R_fillOperand ∈ zWD := zp_in (zp1 (List.mem_of_getElem? (i := 12) rfl))
theorem mp_1_13 : Cond.selects "ConstantFlow$Reader" y_R_passNumber y_R_passNumber ∈ zWD := zp_in (zp1 (List.mem_of_getElem? (i := 13) rfl))
theorem mp_1_14 : Cond.selects "ConstantFlow$Reader" y_R_fillEnd y_R_fillEnd ∈ zWD := zp_in (zp1 (List.mem_of_getElem? (i := 14) rfl))
theorem mp_1_15 : Cond.selects "ConstantFlow$Reader" y_R_fillGoal y_R_fillGoal ∈ zWD := zp_in (zp1 (List.mem_of_getElem? (i := 15) rfl))
theorem mp_1_2 : Cond.selects "ConstantFlow$Facts" y_F_flowThrough y_F_flowThrough ∈ zWD := zp_in (zp1 (List.mem_of_getElem? (i := 2) rfl))
theorem mp_1_3 : Cond.selects "ConstantFlow$Facts" y_F_forks y_F_forks ∈ zWD := zp_in (zp1 (List.mem_of_getElem? (i := 3) rfl))
theorem mp_1_4 : Cond.selects "ConstantFlow$Facts" y_F_onlyGoal y_F_onlyGoal ∈ zWD := zp_in (zp1 (List.mem_of_getElem? (i := 4) rfl))
theorem mp_1_5 : Cond.selects "ConstantFlow$Facts" y_F_count y_F_count ∈ zWD := zp_in (zp1 (List.mem_of_getElem? (i := 5) rfl))
theorem mp_1_6 : Cond.selects "ConstantFlow$Facts" y_F_countBlock y_F_countBlock ∈ zWD := zp_in (zp1 (List.mem_of_getElem? (i := 6) rfl))
theorem mp_1_7 : Cond.selects "ConstantFlow$Reader" y_R_fillStatements y_R_fillStatements ∈ zWD := zp_in (zp1 (List.mem_of_getElem? (i := 7) rfl))
theorem mp_1_8 : Cond.selects "ConstantFlow$Reader" y_R_next y_R_next ∈ zWD := zp_in (zp1 (List.mem_of_getElem? (i := 8) rfl))
theorem mp_1_9 : Cond.selects "ConstantFlow$Reader" y_R_refuse y_R_refuse ∈ zWD := zp_in (zp1 (List.mem_of_getElem? (i := 9) rfl))
theorem mp_2_0 : Cond.selects "ConstantFlow$Reader" y_R_allGoalsThere y_R_allGoalsThere ∈ zWD := zp_in (zp2 (List.mem_of_getElem? (i := 0) rfl))
theorem mp_2_1 : Cond.selects "ConstantFlow$Facts" y_F_rewriteBlock y_F_rewriteBlock ∈ zWD := zp_in (zp2 (List.mem_of_getElem? (i := 1) rfl))
theorem mp_2_10 : Cond.selects "ConstantFlowModel" y_M_block y_M_block ∈ zWD := zp_in (zp2 (List.mem_of_getElem? (i := 10) rfl))
theorem mp_2_11 : Cond.selects "ConstantFlowModel" y_M_skip y_M_skip ∈ zWD := zp_in (zp2 (List.mem_of_getElem? (i := 11) rfl))
theorem mp_2_12 : Cond.selects "ConstantFlowModel" y_M_byteAt y_M_byteAt ∈ zWD := zp_in (zp2 (List.mem_of_getElem? (i := 12) rfl))
theorem mp_2_13 : Cond.selects "ConstantFlowModel" y_M_blockNumber y_M_blockNumber ∈ zWD := zp_in (zp2 (List.mem_of_getElem? (i := 13) rfl))
theorem mp_2_14 : Cond.selects "ConstantFlowModel" y_M_number0 y_M_number0 ∈ zWD := zp_in (zp2 (List.mem_of_getElem? (i := 14) rfl))
theorem mp_2_15 : Cond.selects "ConstantFlowModel" y_M_fail y_M_fail ∈ zWD := zp_in (zp2 (List.mem_of_getElem? (i := 15) rfl))
theorem mp_2_2 : Cond.selects "ConstantFlow$Facts" y_F_rewriteValue y_F_rewriteValue ∈ zWD := zp_in (zp2 (List.mem_of_getElem? (i := 2) rfl))
theorem mp_2_3 : Cond.selects "ConstantFlow$Facts" y_F_rewriteOperand y_F_rewriteOperand ∈ zWD := zp_in (zp2 (List.mem_of_getElem? (i := 3) rfl))
theorem mp_2_4 : Cond.selects "ConstantFlow$Facts" y_F_rewriteEnd y_F_rewriteEnd ∈ zWD := zp_in (zp2 (List.mem_of_getElem? (i := 4) rfl))
theorem mp_2_7 : Cond.selects "ConstantFlow$Machine" y_X_valueOf y_X_valueOf ∈ zWD := zp_in (zp2 (List.mem_of_getElem? (i := 7) rfl))
theorem mp_2_8 : Cond.selects "ConstantFlow$Machine" y_X_nextInput y_X_nextInput ∈ zWD := zp_in (zp2 (List.mem_of_getElem? (i := 8) rfl))
theorem mp_2_9 : Cond.selects "ConstantFlow$Machine" y_X_operand y_X_operand ∈ zWD := zp_in (zp2 (List.mem_of_getElem? (i := 9) rfl))
theorem mp_3_0 : Cond.selects "ConstantFlowModel" y_M_operand y_M_operand ∈ zWD := zp_in (zp3 (List.mem_of_getElem? (i := 0) rfl))
theorem mp_3_1 : Cond.selects "ConstantFlowModel" y_M_statement y_M_statement ∈ zWD := zp_in (zp3 (List.mem_of_getElem? (i := 1) rfl))
theorem mp_3_10 : Cond.selects "ConstantFlowModel" y_M_numberOf y_M_numberOf ∈ zWD := zp_in (zp3 (List.mem_of_getElem? (i := 10) rfl))
theorem mp_3_11 : Cond.selects "ConstantFlowModel" y_M_sortOf y_M_sortOf ∈ zWD := zp_in (zp3 (List.mem_of_getElem? (i := 11) rfl))
theorem mp_3_12 : Cond.selects "ConstantFlowModel" y_M_lead y_M_lead ∈ zWD := zp_in (zp3 (List.mem_of_getElem? (i := 12) rfl))
theorem mp_3_13 : Cond.selects "ConstantFlowModel" y_M_join y_M_join ∈ zWD := zp_in (zp3 (List.mem_of_getElem? (i := 13) rfl))
theorem mp_3_14 : Cond.selects "ConstantFlowModel" y_M_goes y_M_goes ∈ zWD := zp_in (zp3 (List.mem_of_getElem? (i := 14) rfl))
theorem mp_3_15 : Cond.selects "ConstantFlowModel" y_M_goTo y_M_goTo ∈ zWD := zp_in (zp3 (List.mem_of_getElem? (i := 15) rfl))
theorem mp_3_2 : Cond.selects "ConstantFlowModel" y_M_want y_M_want ∈ zWD := zp_in (zp3 (List.mem_of_getElem? (i := 2) rfl))
theorem mp_3_3 : Cond.selects "ConstantFlowModel" y_M_choice y_M_choice ∈ zWD := zp_in (zp3 (List.mem_of_getElem? (i := 3) rfl))
theorem mp_3_4 : Cond.selects "ConstantFlowModel" y_M_checkTargets y_M_checkTargets ∈ zWD := zp_in (zp3 (List.mem_of_getElem? (i := 4) rfl))
theorem mp_3_5 : Cond.selects "ConstantFlowModel" y_M_noBlock y_M_noBlock ∈ zWD := zp_in (zp3 (List.mem_of_getElem? (i := 5) rfl))
theorem mp_3_6 : Cond.selects "ConstantFlowModel" y_M_know y_M_know ∈ zWD := zp_in (zp3 (List.mem_of_getElem? (i := 6) rfl))
theorem mp_3_7 : Cond.selects "ConstantFlowModel" y_M_beginBlock y_M_beginBlock ∈ zWD := zp_in (zp3 (List.mem_of_getElem? (i := 7) rfl))
theorem mp_3_8 : Cond.selects "ConstantFlowModel" y_M_follow y_M_follow ∈ zWD := zp_in (zp3 (List.mem_of_getElem? (i := 8) rfl))
theorem mp_3_9 : Cond.selects "ConstantFlowModel" y_M_make y_M_make ∈ zWD := zp_in (zp3 (List.mem_of_getElem? (i := 9) rfl))
theorem mp_4_0 : Cond.selects "ConstantFlowModel" y_M_putStatement y_M_putStatement ∈ zWD := zp_in (zp4 (List.mem_of_getElem? (i := 0) rfl))
theorem mp_4_1 : Cond.selects "ConstantFlowModel" y_M_put y_M_put ∈ zWD := zp_in (zp4 (List.mem_of_getElem? (i := 1) rfl))
theorem mp_4_2 : Cond.selects "ConstantFlowModel" y_M_putNumber y_M_putNumber ∈ zWD := zp_in (zp4 (List.mem_of_getElem? (i := 2) rfl))
theorem mp_4_3 : Cond.selects "ConstantFlowModel" y_M_putOperand y_M_putOperand ∈ zWD := zp_in (zp4 (List.mem_of_getElem? (i := 3) rfl))
theorem mp_4_4 : Cond.selects "ConstantFlowModel" y_M_putEnd y_M_putEnd ∈ zWD := zp_in (zp4 (List.mem_of_getElem? (i := 4) rfl))
theorem mp_4_5 : Cond.selects "ConstantFlowModel" y_M_newNumber y_M_newNumber ∈ zWD := zp_in (zp4 (List.mem_of_getElem? (i := 5) rfl))
theorem mp_4_6 : Cond.selects "ConstantFlowModel" y_M_done y_M_done ∈ zWD := zp_in (zp4 (List.mem_of_getElem? (i := 6) rfl))
theorem mp_4_7 : Cond.selects "ConstantFlowModel" y_M_valueOf y_M_valueOf ∈ zWD := zp_in (zp4 (List.mem_of_getElem? (i := 7) rfl))
theorem mw_1_1 : Cond.initialized "ConstantFlow" ∈ zWD := zw_in (zt1 (List.mem_of_getElem? (i := 1) rfl)) rfl
theorem mw_1_100 : Cond.fieldLink "ConstantFlow$Facts" 28 "ConstantFlow$Facts" "allZero" "LConstantFlow$View;" ∈ zWD := zw_in (zt1 (List.mem_of_getElem? (i := 100) rfl)) rfl
theorem mw_1_101 : Cond.fieldLink "ConstantFlow$Facts" 32 "ConstantFlow$Facts" "walking" "LConstantFlow$View;" ∈ zWD := zw_in (zt1 (List.mem_of_getElem? (i := 101) rfl)) rfl
theorem mw_1_102 : Cond.fieldLink "ConstantFlow$Facts" 35 "ConstantFlow$Facts" "newNumber" "[I" ∈ zWD := zw_in (zt1 (List.mem_of_getElem? (i := 102) rfl)) rfl
theorem mw_1_103 : Cond.fieldLink "ConstantFlow$Facts" 39 "ConstantFlow$Facts" "tally" "[I" ∈ zWD := zw_in (zt1 (List.mem_of_getElem? (i := 103) rfl)) rfl
theorem mw_1_105 : Cond.laysFinal "ConstantFlow$Facts" "ConstantFlow$Facts" "come" "[Z" ∈ zWD := zw_in (zt1 (List.mem_of_getElem? (i := 105) rfl)) rfl
theorem mw_1_107 : Cond.laysFinal "ConstantFlow$Facts" "ConstantFlow$Facts" "stale" "[Z" ∈ zWD := zw_in (zt1 (List.mem_of_getElem? (i := 107) rfl)) rfl
theorem mw_1_109 : Cond.laysFinal "ConstantFlow$Facts" "ConstantFlow$Facts" "beginnings" "[LConstantFlow$View;" ∈ zWD := zw_in (zt1 (List.mem_of_getElem? (i := 109) rfl)) rfl
theorem mw_1_111 : Cond.laysFinal "ConstantFlow$Facts" "ConstantFlow$Facts" "ends" "[LConstantFlow$View;" ∈ zWD := zw_in (zt1 (List.mem_of_getElem? (i := 111) rfl)) rfl
theorem mw_1_113 : Cond.laysFinal "ConstantFlow$Facts" "ConstantFlow$Facts" "allZero" "LConstantFlow$View;" ∈ zWD := zw_in (zt1 (List.mem_of_getElem? (i := 113) rfl)) rfl
theorem mw_1_115 : Cond.laysFinal "ConstantFlow$Facts" "ConstantFlow$Facts" "walking" "LConstantFlow$View;" ∈ zWD := zw_in (zt1 (List.mem_of_getElem? (i := 115) rfl)) rfl
theorem mw_1_117 : Cond.laysFinal "ConstantFlow$Facts" "ConstantFlow$Facts" "newNumber" "[I" ∈ zWD := zw_in (zt1 (List.mem_of_getElem? (i := 117) rfl)) rfl
theorem mw_1_119 : Cond.laysFinal "ConstantFlow$Facts" "ConstantFlow$Facts" "tally" "[I" ∈ zWD := zw_in (zt1 (List.mem_of_getElem? (i := 119) rfl)) rfl
theorem mw_1_122 : Cond.classLink "ConstantFlow" 37 "ConstantFlow$Machine" ∈ zWD := zw_in (zt1 (List.mem_of_getElem? (i := 122) rfl)) rfl
theorem mw_1_123 : Cond.instantiable "ConstantFlow$Machine" 4 ∈ zWD := zw_in (zt1 (List.mem_of_getElem? (i := 123) rfl)) rfl
theorem mw_1_124 : Cond.methodLinkNest "ConstantFlow" 39 y_X_init "ConstantFlow" ∈ zNW := zn_in (zt1 (List.mem_of_getElem? (i := 124) rfl)) rfl
theorem mw_1_125 : Cond.instanceMethod y_X_init ∈ zWD := zw_in (zt1 (List.mem_of_getElem? (i := 125) rfl)) rfl
theorem mw_1_126 : Cond.code y_X_init prog_3_method_1_code 1 none ∈ zWD := zw_in (zt1 (List.mem_of_getElem? (i := 126) rfl)) rfl
theorem mw_1_127 : Cond.methodLink "ConstantFlow$Machine" 3 objectInit ∈ zWD := zw_in (zt1 (List.mem_of_getElem? (i := 127) rfl)) rfl
theorem mw_1_128 : Cond.fieldLink "ConstantFlow$Machine" 9 "ConstantFlow$Machine" "inputs" "[I" ∈ zWD := zw_in (zt1 (List.mem_of_getElem? (i := 128) rfl)) rfl
theorem mw_1_129 : Cond.fieldLinkNest "ConstantFlow" 137 "ConstantFlow$Machine" "inputs" "[I" "ConstantFlow" ∈ zNW := zn_in (zt1 (List.mem_of_getElem? (i := 129) rfl)) rfl
theorem mw_1_13 : Cond.initialized "java/lang/Math" ∈ zWD := zw_in (zt1 (List.mem_of_getElem? (i := 13) rfl)) rfl
theorem mw_1_130 : Cond.fieldLink "ConstantFlow$Machine" 65 "ConstantFlow$Machine" "inputCount" "I" ∈ zWD := zw_in (zt1 (List.mem_of_getElem? (i := 130) rfl)) rfl
theorem mw_1_131 : Cond.fieldLinkNest "ConstantFlow" 134 "ConstantFlow$Machine" "inputCount" "I" "ConstantFlow" ∈ zNW := zn_in (zt1 (List.mem_of_getElem? (i := 131) rfl)) rfl
theorem mw_1_132 : Cond.fieldLink "ConstantFlow$Machine" 15 "ConstantFlow$Machine" "values" "[I" ∈ zWD := zw_in (zt1 (List.mem_of_getElem? (i := 132) rfl)) rfl
theorem mw_1_134 : Cond.fieldLink "ConstantFlow$Machine" 18 "ConstantFlow$Machine" "met" "I" ∈ zWD := zw_in (zt1 (List.mem_of_getElem? (i := 134) rfl)) rfl
theorem mw_1_135 : Cond.fieldLinkNest "ConstantFlow" 151 "ConstantFlow$Machine" "met" "I" "ConstantFlow" ∈ zNW := zn_in (zt1 (List.mem_of_getElem? (i := 135) rfl)) rfl
theorem mw_1_136 : Cond.laysFinal "ConstantFlow$Machine" "ConstantFlow$Machine" "inputs" "[I" ∈ zWD := zw_in (zt1 (List.mem_of_getElem? (i := 136) rfl)) rfl
theorem mw_1_138 : Cond.lays "ConstantFlow$Machine" "ConstantFlow$Machine" "inputCount" "I" ∈ zWD := zw_in (zt1 (List.mem_of_getElem? (i := 138) rfl)) rfl
theorem mw_1_140 : Cond.laysFinal "ConstantFlow$Machine" "ConstantFlow$Machine" "values" "[I" ∈ zWD := zw_in (zt1 (List.mem_of_getElem? (i := 140) rfl)) rfl
theorem mw_1_142 : Cond.lays "ConstantFlow$Machine" "ConstantFlow$Machine" "met" "I" ∈ zWD := zw_in (zt1 (List.mem_of_getElem? (i := 142) rfl)) rfl
theorem mw_1_145 : Cond.classLink "ConstantFlow" 44 "ConstantFlow$Program" ∈ zWD := zw_in (zt1 (List.mem_of_getElem? (i := 145) rfl)) rfl
theorem mw_1_146 : Cond.instantiable "ConstantFlow$Program" 9 ∈ zWD := zw_in (zt1 (List.mem_of_getElem? (i := 146) rfl)) rfl
theorem mw_1_147 : Cond.methodLink "ConstantFlow" 46 y_G_init ∈ zWD := zw_in (zt1 (List.mem_of_getElem? (i := 147) rfl)) rfl
theorem mw_1_148 : Cond.instanceMethod y_G_init ∈ zWD := zw_in (zt1 (List.mem_of_getElem? (i := 148) rfl)) rfl
theorem mw_1_149 : Cond.code y_G_init prog_4_method_1_code 1 none ∈ zWD := zw_in (zt1 (List.mem_of_getElem? (i := 149) rfl)) rfl
theorem mw_1_150 : Cond.methodLink "ConstantFlow$Program" 3 objectInit ∈ zWD := zw_in (zt1 (List.mem_of_getElem? (i := 150) rfl)) rfl
theorem mw_1_151 : Cond.fieldLink "ConstantFlow$Program" 34 "ConstantFlow$Program" "blocks" "I" ∈ zWD := zw_in (zt1 (List.mem_of_getElem? (i := 151) rfl)) rfl
theorem mw_1_152 : Cond.fieldLinkNest "ConstantFlow$Facts" 54 "ConstantFlow$Program" "blocks" "I" "ConstantFlow" ∈ zNW := zn_in (zt1 (List.mem_of_getElem? (i := 152) rfl)) rfl
theorem mw_1_153 : Cond.fieldLinkNest "ConstantFlow" 76 "ConstantFlow$Program" "blocks" "I" "ConstantFlow" ∈ zNW := zn_in (zt1 (List.mem_of_getElem? (i := 153) rfl)) rfl
theorem mw_1_154 : Cond.fieldLinkNest "ConstantFlow$Reader" 108 "ConstantFlow$Program" "blocks" "I" "ConstantFlow" ∈ zNW := zn_in (zt1 (List.mem_of_getElem? (i := 154) rfl)) rfl
theorem mw_1_155 : Cond.fieldLink "ConstantFlow$Program" 38 "ConstantFlow$Program" "statements" "I" ∈ zWD := zw_in (zt1 (List.mem_of_getElem? (i := 155) rfl)) rfl
theorem mw_1_156 : Cond.fieldLinkNest "ConstantFlow$Reader" 69 "ConstantFlow$Program" "statements" "I" "ConstantFlow" ∈ zNW := zn_in (zt1 (List.mem_of_getElem? (i := 156) rfl)) rfl
theorem mw_1_157 : Cond.fieldLinkNest "ConstantFlow$Facts" 106 "ConstantFlow$Program" "statements" "I" "ConstantFlow" ∈ zNW := zn_in (zt1 (List.mem_of_getElem? (i := 157) rfl)) rfl
theorem mw_1_158 : Cond.fieldLink "ConstantFlow$Program" 9 "ConstantFlow$Program" "first" "[I" ∈ zWD := zw_in (zt1 (List.mem_of_getElem? (i := 158) rfl)) rfl
theorem mw_1_159 : Cond.fieldLinkNest "ConstantFlow$Machine" 22 "ConstantFlow$Program" "first" "[I" "ConstantFlow" ∈ zNW := zn_in (zt1 (List.mem_of_getElem? (i := 159) rfl)) rfl
theorem mw_1_160 : Cond.fieldLinkNest "ConstantFlow$Facts" 68 "ConstantFlow$Program" "first" "[I" "ConstantFlow" ∈ zNW := zn_in (zt1 (List.mem_of_getElem? (i := 160) rfl)) rfl
theorem mw_1_161 : Cond.fieldLink "ConstantFlow$Program" 15 "ConstantFlow$Program" "assigned" "[I" ∈ zWD := zw_in (zt1 (List.mem_of_getElem? (i := 161) rfl)) rfl
theorem mw_1_162 : Cond.fieldLinkNest "ConstantFlow$Machine" 27 "ConstantFlow$Program" "assigned" "[I" "ConstantFlow" ∈ zNW := zn_in (zt1 (List.mem_of_getElem? (i := 162) rfl)) rfl
theorem mw_1_163 : Cond.fieldLinkNest "ConstantFlow$Reader" 75 "ConstantFlow$Program" "assigned" "[I" "ConstantFlow" ∈ zNW := zn_in (zt1 (List.mem_of_getElem? (i := 163) rfl)) rfl
theorem mw_1_164 : Cond.fieldLinkNest "ConstantFlow$View" 49 "ConstantFlow$Program" "assigned" "[I" "ConstantFlow" ∈ zNW := zn_in (zt1 (List.mem_of_getElem? (i := 164) rfl)) rfl
theorem mw_1_165 : Cond.fieldLinkNest "ConstantFlow$Facts" 124 "ConstantFlow$Program" "assigned" "[I" "ConstantFlow" ∈ zNW := zn_in (zt1 (List.mem_of_getElem? (i := 165) rfl)) rfl
theorem mw_1_166 : Cond.fieldLink "ConstantFlow$Program" 18 "ConstantFlow$Program" "operators" "[I" ∈ zWD := zw_in (zt1 (List.mem_of_getElem? (i := 166) rfl)) rfl
theorem mw_1_167 : Cond.fieldLinkNest "ConstantFlow$Machine" 48 "ConstantFlow$Program" "operators" "[I" "ConstantFlow" ∈ zNW := zn_in (zt1 (List.mem_of_getElem? (i := 167) rfl)) rfl
theorem mw_1_168 : Cond.fieldLinkNest "ConstantFlow$View" 27 "ConstantFlow$Program" "operators" "[I" "ConstantFlow" ∈ zNW := zn_in (zt1 (List.mem_of_getElem? (i := 168) rfl)) rfl
theorem mw_1_169 : Cond.fieldLinkNest "ConstantFlow$Reader" 78 "ConstantFlow$Program" "operators" "[I" "ConstantFlow" ∈ zNW := zn_in (zt1 (List.mem_of_getElem? (i := 169) rfl)) rfl
theorem mw_1_170 : Cond.fieldLinkNest "ConstantFlow$Facts" 137 "ConstantFlow$Program" "operators" "[I" "ConstantFlow" ∈ zNW := zn_in (zt1 (List.mem_of_getElem? (i := 170) rfl)) rfl
theorem mw_1_171 : Cond.fieldLink "ConstantFlow$Program" 21 "ConstantFlow$Program" "isVariable" "[Z" ∈ zWD := zw_in (zt1 (List.mem_of_getElem? (i := 171) rfl)) rfl
theorem mw_1_172 : Cond.fieldLinkNest "ConstantFlow$View" 19 "ConstantFlow$Program" "isVariable" "[Z" "ConstantFlow" ∈ zNW := zn_in (zt1 (List.mem_of_getElem? (i := 172) rfl)) rfl
theorem mw_1_173 : Cond.fieldLinkNest "ConstantFlow$Machine" 71 "ConstantFlow$Program" "isVariable" "[Z" "ConstantFlow" ∈ zNW := zn_in (zt1 (List.mem_of_getElem? (i := 173) rfl)) rfl
theorem mw_1_174 : Cond.fieldLink "ConstantFlow$Program" 25 "ConstantFlow$Program" "operands" "[I" ∈ zWD := zw_in (zt1 (List.mem_of_getElem? (i := 174) rfl)) rfl
theorem mw_1_175 : Cond.fieldLinkNest "ConstantFlow$View" 24 "ConstantFlow$Program" "operands" "[I" "ConstantFlow" ∈ zNW := zn_in (zt1 (List.mem_of_getElem? (i := 175) rfl)) rfl
theorem mw_1_176 : Cond.fieldLinkNest "ConstantFlow$Machine" 68 "ConstantFlow$Program" "operands" "[I" "ConstantFlow" ∈ zNW := zn_in (zt1 (List.mem_of_getElem? (i := 176) rfl)) rfl
theorem mw_1_177 : Cond.fieldLinkNest "ConstantFlow$Facts" 155 "ConstantFlow$Program" "operands" "[I" "ConstantFlow" ∈ zNW := zn_in (zt1 (List.mem_of_getElem? (i := 177) rfl)) rfl
theorem mw_1_178 : Cond.fieldLink "ConstantFlow$Program" 28 "ConstantFlow$Program" "endKind" "[I" ∈ zWD := zw_in (zt1 (List.mem_of_getElem? (i := 178) rfl)) rfl
theorem mw_1_179 : Cond.fieldLinkNest "ConstantFlow$Machine" 34 "ConstantFlow$Program" "endKind" "[I" "ConstantFlow" ∈ zNW := zn_in (zt1 (List.mem_of_getElem? (i := 179) rfl)) rfl
theorem mw_1_180 : Cond.fieldLinkNest "ConstantFlow$Facts" 74 "ConstantFlow$Program" "endKind" "[I" "ConstantFlow" ∈ zNW := zn_in (zt1 (List.mem_of_getElem? (i := 180) rfl)) rfl
theorem mw_1_181 : Cond.fieldLinkNest "ConstantFlow$Reader" 143 "ConstantFlow$Program" "endKind" "[I" "ConstantFlow" ∈ zNW := zn_in (zt1 (List.mem_of_getElem? (i := 181) rfl)) rfl
theorem mw_1_182 : Cond.fieldLink "ConstantFlow$Program" 31 "ConstantFlow$Program" "goals" "[I" ∈ zWD := zw_in (zt1 (List.mem_of_getElem? (i := 182) rfl)) rfl
theorem mw_1_183 : Cond.fieldLinkNest "ConstantFlow$Reader" 125 "ConstantFlow$Program" "goals" "[I" "ConstantFlow" ∈ zNW := zn_in (zt1 (List.mem_of_getElem? (i := 183) rfl)) rfl
theorem mw_1_184 : Cond.lays "ConstantFlow$Program" "ConstantFlow$Program" "blocks" "I" ∈ zWD := zw_in (zt1 (List.mem_of_getElem? (i := 184) rfl)) rfl
theorem mw_1_186 : Cond.lays "ConstantFlow$Program" "ConstantFlow$Program" "statements" "I" ∈ zWD := zw_in (zt1 (List.mem_of_getElem? (i := 186) rfl)) rfl
theorem mw_1_188 : Cond.laysFinal "ConstantFlow$Program" "ConstantFlow$Program" "first" "[I" ∈ zWD := zw_in (zt1 (List.mem_of_getElem? (i := 188) rfl)) rfl
theorem mw_1_190 : Cond.laysFinal "ConstantFlow$Program" "ConstantFlow$Program" "assigned" "[I" ∈ zWD := zw_in (zt1 (List.mem_of_getElem? (i := 190) rfl)) rfl
theorem mw_1_192 : Cond.laysFinal "ConstantFlow$Program" "ConstantFlow$Program" "operators" "[I" ∈ zWD := zw_in (zt1 (List.mem_of_getElem? (i := 192) rfl)) rfl
theorem mw_1_194 : Cond.laysFinal "ConstantFlow$Program" "ConstantFlow$Program" "isVariable" "[Z" ∈ zWD := zw_in (zt1 (List.mem_of_getElem? (i := 194) rfl)) rfl
theorem mw_1_196 : Cond.laysFinal "ConstantFlow$Program" "ConstantFlow$Program" "operands" "[I" ∈ zWD := zw_in (zt1 (List.mem_of_getElem? (i := 196) rfl)) rfl
theorem mw_1_198 : Cond.laysFinal "ConstantFlow$Program" "ConstantFlow$Program" "endKind" "[I" ∈ zWD := zw_in (zt1 (List.mem_of_getElem? (i := 198) rfl)) rfl
theorem mw_1_2 : Cond.initialized "ConstantFlow$Text" ∈ zWD := zw_in (zt1 (List.mem_of_getElem? (i := 2) rfl)) rfl
theorem mw_1_200 : Cond.laysFinal "ConstantFlow$Program" "ConstantFlow$Program" "goals" "[I" ∈ zWD := zw_in (zt1 (List.mem_of_getElem? (i := 200) rfl)) rfl
theorem mw_1_203 : Cond.methodLink "ConstantFlow" 54 y_F_find ∈ zWD := zw_in (zt1 (List.mem_of_getElem? (i := 203) rfl)) rfl
theorem mw_1_204 : Cond.instanceMethod y_F_find ∈ zWD := zw_in (zt1 (List.mem_of_getElem? (i := 204) rfl)) rfl
theorem mw_1_205 : Cond.selects "ConstantFlow$Facts" y_F_find y_F_find ∈ zWD := zw_in (zt1 (List.mem_of_getElem? (i := 205) rfl)) rfl
theorem mw_1_206 : Cond.code y_F_find prog_2_method_3_code 4 none ∈ zWD := zw_in (zt1 (List.mem_of_getElem? (i := 206) rfl)) rfl
theorem mw_1_207 : Cond.methodLink "ConstantFlow$Facts" 42 y_F_comeTo ∈ zWD := zw_in (zt1 (List.mem_of_getElem? (i := 207) rfl)) rfl
theorem mw_1_209 : Cond.instanceMethod y_F_comeTo ∈ zWD := zw_in (zt1 (List.mem_of_getElem? (i := 209) rfl)) rfl
theorem mw_1_21 : Cond.methodLink "ConstantFlow" 3 objectInit ∈ zWD := zw_in (zt1 (List.mem_of_getElem? (i := 21) rfl)) rfl
theorem mw_1_210 : Cond.code y_F_comeTo prog_2_method_6_code 3 none ∈ zWD := zw_in (zt1 (List.mem_of_getElem? (i := 210) rfl)) rfl
theorem mw_1_211 : Cond.methodLink "ConstantFlow$Facts" 64 y_V_become ∈ zWD := zw_in (zt1 (List.mem_of_getElem? (i := 211) rfl)) rfl
theorem mw_1_212 : Cond.instanceMethod y_V_become ∈ zWD := zw_in (zt1 (List.mem_of_getElem? (i := 212) rfl)) rfl
theorem mw_1_213 : Cond.selects "ConstantFlow$View" y_V_become y_V_become ∈ zWD := zw_in (zt1 (List.mem_of_getElem? (i := 213) rfl)) rfl
theorem mw_1_214 : Cond.code y_V_become prog_7_method_2_code 3 none ∈ zWD := zw_in (zt1 (List.mem_of_getElem? (i := 214) rfl)) rfl
theorem mw_1_215 : Cond.methodLink "ConstantFlow$Facts" 89 y_V_join ∈ zWD := zw_in (zt1 (List.mem_of_getElem? (i := 215) rfl)) rfl
theorem mw_1_216 : Cond.instanceMethod y_V_join ∈ zWD := zw_in (zt1 (List.mem_of_getElem? (i := 216) rfl)) rfl
theorem mw_1_217 : Cond.selects "ConstantFlow$View" y_V_join y_V_join ∈ zWD := zw_in (zt1 (List.mem_of_getElem? (i := 217) rfl)) rfl
theorem mw_1_218 : Cond.code y_V_join prog_7_method_3_code 4 (some .boolean) ∈ zWD := zw_in (zt1 (List.mem_of_getElem? (i := 218) rfl)) rfl
theorem mw_1_219 : Cond.methodLink "ConstantFlow$Facts" 46 y_F_flowOnce ∈ zWD := zw_in (zt1 (List.mem_of_getElem? (i := 219) rfl)) rfl
theorem mw_1_22 : Cond.instanceMethod objectInit ∈ zWD := zw_in (zt1 (List.mem_of_getElem? (i := 22) rfl)) rfl
theorem mw_1_221 : Cond.instanceMethod y_F_flowOnce ∈ zWD := zw_in (zt1 (List.mem_of_getElem? (i := 221) rfl)) rfl
theorem mw_1_222 : Cond.code y_F_flowOnce prog_2_method_4_code 4 (some .boolean) ∈ zWD := zw_in (zt1 (List.mem_of_getElem? (i := 222) rfl)) rfl
theorem mw_1_223 : Cond.methodLink "ConstantFlow$Facts" 60 y_F_flowThrough ∈ zWD := zw_in (zt1 (List.mem_of_getElem? (i := 223) rfl)) rfl
theorem mw_1_225 : Cond.instanceMethod y_F_flowThrough ∈ zWD := zw_in (zt1 (List.mem_of_getElem? (i := 225) rfl)) rfl
theorem mw_1_226 : Cond.code y_F_flowThrough prog_2_method_5_code 5 none ∈ zWD := zw_in (zt1 (List.mem_of_getElem? (i := 226) rfl)) rfl
theorem mw_1_227 : Cond.methodLink "ConstantFlow$Facts" 71 y_V_assign ∈ zWD := zw_in (zt1 (List.mem_of_getElem? (i := 227) rfl)) rfl
theorem mw_1_228 : Cond.instanceMethod y_V_assign ∈ zWD := zw_in (zt1 (List.mem_of_getElem? (i := 228) rfl)) rfl
theorem mw_1_229 : Cond.selects "ConstantFlow$View" y_V_assign y_V_assign ∈ zWD := zw_in (zt1 (List.mem_of_getElem? (i := 229) rfl)) rfl
theorem mw_1_23 : Cond.code objectInit ⟨#[0xb1]⟩ 1 none ∈ zWD := zw_in (zt1 (List.mem_of_getElem? (i := 23) rfl)) rfl
theorem mw_1_230 : Cond.code y_V_assign prog_7_method_8_code 5 none ∈ zWD := zw_in (zt1 (List.mem_of_getElem? (i := 230) rfl)) rfl
theorem mw_1_231 : Cond.methodLink "ConstantFlow$View" 52 y_V_settles ∈ zWD := zw_in (zt1 (List.mem_of_getElem? (i := 231) rfl)) rfl
theorem mw_1_232 : Cond.instanceMethod y_V_settles ∈ zWD := zw_in (zt1 (List.mem_of_getElem? (i := 232) rfl)) rfl
theorem mw_1_233 : Cond.selects "ConstantFlow$View" y_V_settles y_V_settles ∈ zWD := zw_in (zt1 (List.mem_of_getElem? (i := 233) rfl)) rfl
theorem mw_1_234 : Cond.code y_V_settles prog_7_method_6_code 8 (some .boolean) ∈ zWD := zw_in (zt1 (List.mem_of_getElem? (i := 234) rfl)) rfl
theorem mw_1_235 : Cond.methodLink "ConstantFlow$View" 30 y_G_left ∈ zWD := zw_in (zt1 (List.mem_of_getElem? (i := 235) rfl)) rfl
theorem mw_1_236 : Cond.static y_G_left ∈ zWD := zw_in (zt1 (List.mem_of_getElem? (i := 236) rfl)) rfl
theorem mw_1_237 : Cond.code y_G_left prog_4_method_2_code 1 (some .int) ∈ zWD := zw_in (zt1 (List.mem_of_getElem? (i := 237) rfl)) rfl
theorem mw_1_238 : Cond.methodLink "ConstantFlow$View" 34 y_G_right ∈ zWD := zw_in (zt1 (List.mem_of_getElem? (i := 238) rfl)) rfl
theorem mw_1_239 : Cond.static y_G_right ∈ zWD := zw_in (zt1 (List.mem_of_getElem? (i := 239) rfl)) rfl
theorem mw_1_24 : Cond.classLink "ConstantFlow" 9 "ConstantFlow$Text" ∈ zWD := zw_in (zt1 (List.mem_of_getElem? (i := 24) rfl)) rfl
theorem mw_1_25 : Cond.instantiable "ConstantFlow$Text" 2 ∈ zWD := zw_in (zt1 (List.mem_of_getElem? (i := 25) rfl)) rfl
theorem mw_1_26 : Cond.methodLink "ConstantFlow" 11 y_T_init ∈ zWD := zw_in (zt1 (List.mem_of_getElem? (i := 26) rfl)) rfl
theorem mw_1_27 : Cond.instanceMethod y_T_init ∈ zWD := zw_in (zt1 (List.mem_of_getElem? (i := 27) rfl)) rfl
theorem mw_1_28 : Cond.code y_T_init prog_6_method_1_code 2 none ∈ zWD := zw_in (zt1 (List.mem_of_getElem? (i := 28) rfl)) rfl
theorem mw_1_29 : Cond.methodLink "ConstantFlow$Text" 3 objectInit ∈ zWD := zw_in (zt1 (List.mem_of_getElem? (i := 29) rfl)) rfl
theorem mw_1_3 : Cond.initialized "ConstantFlow$Reader" ∈ zWD := zw_in (zt1 (List.mem_of_getElem? (i := 3) rfl)) rfl
theorem mw_1_30 : Cond.fieldLink "ConstantFlow$Text" 9 "ConstantFlow$Text" "bytes" "[B" ∈ zWD := zw_in (zt1 (List.mem_of_getElem? (i := 30) rfl)) rfl
theorem mw_1_31 : Cond.fieldLink "ConstantFlow$Text" 15 "ConstantFlow$Text" "length" "I" ∈ zWD := zw_in (zt1 (List.mem_of_getElem? (i := 31) rfl)) rfl
theorem mw_1_32 : Cond.fieldLinkNest "ConstantFlow" 65 "ConstantFlow$Text" "length" "I" "ConstantFlow" ∈ zNW := zn_in (zt1 (List.mem_of_getElem? (i := 32) rfl)) rfl
theorem mw_1_33 : Cond.fieldLinkNest "ConstantFlow$Reader" 56 "ConstantFlow$Text" "length" "I" "ConstantFlow" ∈ zNW := zn_in (zt1 (List.mem_of_getElem? (i := 33) rfl)) rfl
theorem mw_1_34 : Cond.fieldLinkNest "ConstantFlow$Facts" 115 "ConstantFlow$Text" "length" "I" "ConstantFlow" ∈ zNW := zn_in (zt1 (List.mem_of_getElem? (i := 34) rfl)) rfl
theorem mw_1_35 : Cond.laysFinal "ConstantFlow$Text" "ConstantFlow$Text" "bytes" "[B" ∈ zWD := zw_in (zt1 (List.mem_of_getElem? (i := 35) rfl)) rfl
theorem mw_1_37 : Cond.lays "ConstantFlow$Text" "ConstantFlow$Text" "length" "I" ∈ zWD := zw_in (zt1 (List.mem_of_getElem? (i := 37) rfl)) rfl
theorem mw_1_4 : Cond.initialized "ConstantFlow$Facts" ∈ zWD := zw_in (zt1 (List.mem_of_getElem? (i := 4) rfl)) rfl
theorem mw_1_40 : Cond.arrayClass .byte ∈ zWD := zw_in (zt1 (List.mem_of_getElem? (i := 40) rfl)) rfl
theorem mw_1_41 : Cond.classLink "ConstantFlow" 21 "ConstantFlow$Reader" ∈ zWD := zw_in (zt1 (List.mem_of_getElem? (i := 41) rfl)) rfl
theorem mw_1_42 : Cond.instantiable "ConstantFlow$Reader" 7 ∈ zWD := zw_in (zt1 (List.mem_of_getElem? (i := 42) rfl)) rfl
theorem mw_1_43 : Cond.methodLink "ConstantFlow" 23 y_R_init ∈ zWD := zw_in (zt1 (List.mem_of_getElem? (i := 43) rfl)) rfl
theorem mw_1_44 : Cond.instanceMethod y_R_init ∈ zWD := zw_in (zt1 (List.mem_of_getElem? (i := 44) rfl)) rfl
theorem mw_1_45 : Cond.code y_R_init prog_5_method_1_code 2 none ∈ zWD := zw_in (zt1 (List.mem_of_getElem? (i := 45) rfl)) rfl
theorem mw_1_46 : Cond.methodLink "ConstantFlow$Reader" 3 objectInit ∈ zWD := zw_in (zt1 (List.mem_of_getElem? (i := 46) rfl)) rfl
theorem mw_1_47 : Cond.fieldLink "ConstantFlow$Reader" 19 "ConstantFlow$Reader" "tape" "LConstantFlow$Text;" ∈ zWD := zw_in (zt1 (List.mem_of_getElem? (i := 47) rfl)) rfl
theorem mw_1_48 : Cond.fieldLink "ConstantFlow$Reader" 9 "ConstantFlow$Reader" "goalPlaces" "[I" ∈ zWD := zw_in (zt1 (List.mem_of_getElem? (i := 48) rfl)) rfl
theorem mw_1_49 : Cond.fieldLink "ConstantFlow$Reader" 23 "ConstantFlow$Reader" "program" "LConstantFlow$Program;" ∈ zWD := zw_in (zt1 (List.mem_of_getElem? (i := 49) rfl)) rfl
theorem mw_1_5 : Cond.initialized "ConstantFlow$View" ∈ zWD := zw_in (zt1 (List.mem_of_getElem? (i := 5) rfl)) rfl
theorem mw_1_50 : Cond.fieldLink "ConstantFlow$Reader" 32 "ConstantFlow$Reader" "at" "I" ∈ zWD := zw_in (zt1 (List.mem_of_getElem? (i := 50) rfl)) rfl
theorem mw_1_51 : Cond.fieldLink "ConstantFlow$Reader" 105 "ConstantFlow$Reader" "lastNumber" "I" ∈ zWD := zw_in (zt1 (List.mem_of_getElem? (i := 51) rfl)) rfl
theorem mw_1_52 : Cond.fieldLink "ConstantFlow$Reader" 35 "ConstantFlow$Reader" "fault" "I" ∈ zWD := zw_in (zt1 (List.mem_of_getElem? (i := 52) rfl)) rfl
theorem mw_1_53 : Cond.fieldLinkNest "ConstantFlow" 79 "ConstantFlow$Reader" "fault" "I" "ConstantFlow" ∈ zNW := zn_in (zt1 (List.mem_of_getElem? (i := 53) rfl)) rfl
theorem mw_1_54 : Cond.fieldLink "ConstantFlow$Reader" 15 "ConstantFlow$Reader" "faultPlace" "I" ∈ zWD := zw_in (zt1 (List.mem_of_getElem? (i := 54) rfl)) rfl
theorem mw_1_55 : Cond.fieldLinkNest "ConstantFlow" 82 "ConstantFlow$Reader" "faultPlace" "I" "ConstantFlow" ∈ zNW := zn_in (zt1 (List.mem_of_getElem? (i := 55) rfl)) rfl
theorem mw_1_56 : Cond.laysFinal "ConstantFlow$Reader" "ConstantFlow$Reader" "tape" "LConstantFlow$Text;" ∈ zWD := zw_in (zt1 (List.mem_of_getElem? (i := 56) rfl)) rfl
theorem mw_1_58 : Cond.laysFinal "ConstantFlow$Reader" "ConstantFlow$Reader" "goalPlaces" "[I" ∈ zWD := zw_in (zt1 (List.mem_of_getElem? (i := 58) rfl)) rfl
theorem mw_1_6 : Cond.initialized "ConstantFlow$Machine" ∈ zWD := zw_in (zt1 (List.mem_of_getElem? (i := 6) rfl)) rfl
theorem mw_1_60 : Cond.lays "ConstantFlow$Reader" "ConstantFlow$Reader" "program" "LConstantFlow$Program;" ∈ zWD := zw_in (zt1 (List.mem_of_getElem? (i := 60) rfl)) rfl
theorem mw_1_62 : Cond.lays "ConstantFlow$Reader" "ConstantFlow$Reader" "at" "I" ∈ zWD := zw_in (zt1 (List.mem_of_getElem? (i := 62) rfl)) rfl
theorem mw_1_64 : Cond.lays "ConstantFlow$Reader" "ConstantFlow$Reader" "lastNumber" "I" ∈ zWD := zw_in (zt1 (List.mem_of_getElem? (i := 64) rfl)) rfl
theorem mw_1_66 : Cond.lays "ConstantFlow$Reader" "ConstantFlow$Reader" "fault" "I" ∈ zWD := zw_in (zt1 (List.mem_of_getElem? (i := 66) rfl)) rfl
theorem mw_1_68 : Cond.lays "ConstantFlow$Reader" "ConstantFlow$Reader" "faultPlace" "I" ∈ zWD := zw_in (zt1 (List.mem_of_getElem? (i := 68) rfl)) rfl
theorem mw_1_7 : Cond.initialized "ConstantFlow$Program" ∈ zWD := zw_in (zt1 (List.mem_of_getElem? (i := 7) rfl)) rfl
theorem mw_1_71 : Cond.arrayClass .int ∈ zWD := zw_in (zt1 (List.mem_of_getElem? (i := 71) rfl)) rfl
theorem mw_1_72 : Cond.classLink "ConstantFlow" 30 "ConstantFlow$Facts" ∈ zWD := zw_in (zt1 (List.mem_of_getElem? (i := 72) rfl)) rfl
theorem mw_1_73 : Cond.instantiable "ConstantFlow$Facts" 8 ∈ zWD := zw_in (zt1 (List.mem_of_getElem? (i := 73) rfl)) rfl
theorem mw_1_74 : Cond.methodLink "ConstantFlow" 32 y_F_init ∈ zWD := zw_in (zt1 (List.mem_of_getElem? (i := 74) rfl)) rfl
theorem mw_1_75 : Cond.instanceMethod y_F_init ∈ zWD := zw_in (zt1 (List.mem_of_getElem? (i := 75) rfl)) rfl
theorem mw_1_76 : Cond.code y_F_init prog_2_method_1_code 2 none ∈ zWD := zw_in (zt1 (List.mem_of_getElem? (i := 76) rfl)) rfl
theorem mw_1_77 : Cond.methodLink "ConstantFlow$Facts" 3 objectInit ∈ zWD := zw_in (zt1 (List.mem_of_getElem? (i := 77) rfl)) rfl
theorem mw_1_78 : Cond.classLink "ConstantFlow$Facts" 18 "ConstantFlow$View" ∈ zWD := zw_in (zt1 (List.mem_of_getElem? (i := 78) rfl)) rfl
theorem mw_1_79 : Cond.arrayOver (.object "ConstantFlow$View") ∈ zNW := zn_in (zt1 (List.mem_of_getElem? (i := 79) rfl)) rfl
theorem mw_1_8 : Cond.initialized "ConstantFlowModel" ∈ zWD := zw_in (zt1 (List.mem_of_getElem? (i := 8) rfl)) rfl
theorem mw_1_80 : Cond.instantiable "ConstantFlow$View" 2 ∈ zWD := zw_in (zt1 (List.mem_of_getElem? (i := 80) rfl)) rfl
theorem mw_1_81 : Cond.methodLinkNest "ConstantFlow$Facts" 27 y_V_init "ConstantFlow" ∈ zNW := zn_in (zt1 (List.mem_of_getElem? (i := 81) rfl)) rfl
theorem mw_1_82 : Cond.instanceMethod y_V_init ∈ zWD := zw_in (zt1 (List.mem_of_getElem? (i := 82) rfl)) rfl
theorem mw_1_83 : Cond.code y_V_init prog_7_method_1_code 1 none ∈ zWD := zw_in (zt1 (List.mem_of_getElem? (i := 83) rfl)) rfl
theorem mw_1_84 : Cond.methodLink "ConstantFlow$View" 3 objectInit ∈ zWD := zw_in (zt1 (List.mem_of_getElem? (i := 84) rfl)) rfl
theorem mw_1_85 : Cond.fieldLink "ConstantFlow$View" 9 "ConstantFlow$View" "any" "[Z" ∈ zWD := zw_in (zt1 (List.mem_of_getElem? (i := 85) rfl)) rfl
theorem mw_1_87 : Cond.fieldLink "ConstantFlow$View" 15 "ConstantFlow$View" "numbers" "[I" ∈ zWD := zw_in (zt1 (List.mem_of_getElem? (i := 87) rfl)) rfl
theorem mw_1_89 : Cond.laysFinal "ConstantFlow$View" "ConstantFlow$View" "any" "[Z" ∈ zWD := zw_in (zt1 (List.mem_of_getElem? (i := 89) rfl)) rfl
theorem mw_1_91 : Cond.laysFinal "ConstantFlow$View" "ConstantFlow$View" "numbers" "[I" ∈ zWD := zw_in (zt1 (List.mem_of_getElem? (i := 91) rfl)) rfl
theorem mw_1_94 : Cond.arrayClass .boolean ∈ zWD := zw_in (zt1 (List.mem_of_getElem? (i := 94) rfl)) rfl
theorem mw_1_95 : Cond.fieldLink "ConstantFlow$Facts" 9 "ConstantFlow$Facts" "come" "[Z" ∈ zWD := zw_in (zt1 (List.mem_of_getElem? (i := 95) rfl)) rfl
theorem mw_1_97 : Cond.fieldLink "ConstantFlow$Facts" 15 "ConstantFlow$Facts" "stale" "[Z" ∈ zWD := zw_in (zt1 (List.mem_of_getElem? (i := 97) rfl)) rfl
theorem mw_1_98 : Cond.fieldLink "ConstantFlow$Facts" 20 "ConstantFlow$Facts" "beginnings" "[LConstantFlow$View;" ∈ zWD := zw_in (zt1 (List.mem_of_getElem? (i := 98) rfl)) rfl
theorem mw_1_99 : Cond.fieldLink "ConstantFlow$Facts" 24 "ConstantFlow$Facts" "ends" "[LConstantFlow$View;" ∈ zWD := zw_in (zt1 (List.mem_of_getElem? (i := 99) rfl)) rfl
theorem mw_2_0 : Cond.code y_G_right prog_4_method_3_code 1 (some .int) ∈ zWD := zw_in (zt2 (List.mem_of_getElem? (i := 0) rfl)) rfl
theorem mw_2_1 : Cond.methodLink "ConstantFlow$View" 37 y_V_knows ∈ zWD := zw_in (zt2 (List.mem_of_getElem? (i := 1) rfl)) rfl
theorem mw_2_10 : Cond.instanceMethod y_V_settled ∈ zWD := zw_in (zt2 (List.mem_of_getElem? (i := 10) rfl)) rfl
theorem mw_2_100 : Cond.methodLinkNest "ConstantFlow$Reader" 65 y_C_isLetter "ConstantFlow" ∈ zNW := zn_in (zt2 (List.mem_of_getElem? (i := 100) rfl)) rfl
theorem mw_2_101 : Cond.static y_C_isLetter ∈ zWD := zw_in (zt2 (List.mem_of_getElem? (i := 101) rfl)) rfl
theorem mw_2_102 : Cond.code y_C_isLetter prog_1_method_21_code 1 (some .boolean) ∈ zWD := zw_in (zt2 (List.mem_of_getElem? (i := 102) rfl)) rfl
theorem mw_2_103 : Cond.methodLink "ConstantFlow$Reader" 52 y_R_refuse ∈ zWD := zw_in (zt2 (List.mem_of_getElem? (i := 103) rfl)) rfl
theorem mw_2_105 : Cond.instanceMethod y_R_refuse ∈ zWD := zw_in (zt2 (List.mem_of_getElem? (i := 105) rfl)) rfl
theorem mw_2_106 : Cond.code y_R_refuse prog_5_method_3_code 3 (some .boolean) ∈ zWD := zw_in (zt2 (List.mem_of_getElem? (i := 106) rfl)) rfl
theorem mw_2_107 : Cond.methodLink "ConstantFlow$Reader" 72 y_R_fillStatement ∈ zWD := zw_in (zt2 (List.mem_of_getElem? (i := 107) rfl)) rfl
theorem mw_2_109 : Cond.instanceMethod y_R_fillStatement ∈ zWD := zw_in (zt2 (List.mem_of_getElem? (i := 109) rfl)) rfl
theorem mw_2_11 : Cond.selects "ConstantFlow$View" y_V_settled y_V_settled ∈ zWD := zw_in (zt2 (List.mem_of_getElem? (i := 11) rfl)) rfl
theorem mw_2_110 : Cond.code y_R_fillStatement prog_5_method_7_code 4 (some .boolean) ∈ zWD := zw_in (zt2 (List.mem_of_getElem? (i := 110) rfl)) rfl
theorem mw_2_111 : Cond.methodLink "ConstantFlow$Reader" 81 y_R_pass ∈ zWD := zw_in (zt2 (List.mem_of_getElem? (i := 111) rfl)) rfl
theorem mw_2_113 : Cond.instanceMethod y_R_pass ∈ zWD := zw_in (zt2 (List.mem_of_getElem? (i := 113) rfl)) rfl
theorem mw_2_114 : Cond.code y_R_pass prog_5_method_5_code 2 (some .boolean) ∈ zWD := zw_in (zt2 (List.mem_of_getElem? (i := 114) rfl)) rfl
theorem mw_2_115 : Cond.methodLink "ConstantFlow$Reader" 84 y_G_left ∈ zWD := zw_in (zt2 (List.mem_of_getElem? (i := 115) rfl)) rfl
theorem mw_2_116 : Cond.methodLink "ConstantFlow$Reader" 88 y_R_fillOperand ∈ zWD := zw_in (zt2 (List.mem_of_getElem? (i := 116) rfl)) rfl
theorem mw_2_118 : Cond.instanceMethod y_R_fillOperand ∈ zWD := zw_in (zt2 (List.mem_of_getElem? (i := 118) rfl)) rfl
theorem mw_2_119 : Cond.code y_R_fillOperand prog_5_method_8_code 3 (some .boolean) ∈ zWD := zw_in (zt2 (List.mem_of_getElem? (i := 119) rfl)) rfl
theorem mw_2_12 : Cond.code y_V_settled prog_7_method_7_code 5 (some .int) ∈ zWD := zw_in (zt2 (List.mem_of_getElem? (i := 12) rfl)) rfl
theorem mw_2_120 : Cond.methodLink "ConstantFlow$Reader" 97 y_G_setOperand ∈ zWD := zw_in (zt2 (List.mem_of_getElem? (i := 120) rfl)) rfl
theorem mw_2_121 : Cond.instanceMethod y_G_setOperand ∈ zWD := zw_in (zt2 (List.mem_of_getElem? (i := 121) rfl)) rfl
theorem mw_2_122 : Cond.selects "ConstantFlow$Program" y_G_setOperand y_G_setOperand ∈ zWD := zw_in (zt2 (List.mem_of_getElem? (i := 122) rfl)) rfl
theorem mw_2_123 : Cond.code y_G_setOperand prog_4_method_7_code 4 none ∈ zWD := zw_in (zt2 (List.mem_of_getElem? (i := 123) rfl)) rfl
theorem mw_2_124 : Cond.methodLink "ConstantFlow$Reader" 101 y_R_passNumber ∈ zWD := zw_in (zt2 (List.mem_of_getElem? (i := 124) rfl)) rfl
theorem mw_2_126 : Cond.instanceMethod y_R_passNumber ∈ zWD := zw_in (zt2 (List.mem_of_getElem? (i := 126) rfl)) rfl
theorem mw_2_127 : Cond.code y_R_passNumber prog_5_method_11_code 8 (some .boolean) ∈ zWD := zw_in (zt2 (List.mem_of_getElem? (i := 127) rfl)) rfl
theorem mw_2_128 : Cond.methodLinkNest "ConstantFlow$Reader" 128 y_C_isFigure "ConstantFlow" ∈ zNW := zn_in (zt2 (List.mem_of_getElem? (i := 128) rfl)) rfl
theorem mw_2_129 : Cond.static y_C_isFigure ∈ zWD := zw_in (zt2 (List.mem_of_getElem? (i := 129) rfl)) rfl
theorem mw_2_13 : Cond.methodLinkNest "ConstantFlow$View" 45 y_C_reckon "ConstantFlow" ∈ zNW := zn_in (zt2 (List.mem_of_getElem? (i := 13) rfl)) rfl
theorem mw_2_130 : Cond.code y_C_isFigure prog_1_method_22_code 1 (some .boolean) ∈ zWD := zw_in (zt2 (List.mem_of_getElem? (i := 130) rfl)) rfl
theorem mw_2_131 : Cond.constantLong "ConstantFlow$Reader" 131 10 ∈ zWD := zw_in (zt2 (List.mem_of_getElem? (i := 131) rfl)) rfl
theorem mw_2_132 : Cond.constantLong "ConstantFlow$Reader" 133 48 ∈ zWD := zw_in (zt2 (List.mem_of_getElem? (i := 132) rfl)) rfl
theorem mw_2_133 : Cond.constantLong "ConstantFlow$Reader" 135 1099511627776 ∈ zWD := zw_in (zt2 (List.mem_of_getElem? (i := 133) rfl)) rfl
theorem mw_2_134 : Cond.methodLink "ConstantFlow$Reader" 137 Lib.MathLoose.min_long.x ∈ zWD := zw_in (zt2 (List.mem_of_getElem? (i := 134) rfl)) rfl
theorem mw_2_135 : Cond.static Lib.MathLoose.min_long.x ∈ zWD := zw_in (zt2 (List.mem_of_getElem? (i := 135) rfl)) rfl
theorem mw_2_136 : Cond.code Lib.MathLoose.min_long.x Lib.MathLoose.min_long.code 4 (some .long) ∈ zWD := zw_in (zt2 (List.mem_of_getElem? (i := 136) rfl)) rfl
theorem mw_2_137 : Cond.methodLinkNest "ConstantFlow$Reader" 91 y_C_isOperator "ConstantFlow" ∈ zNW := zn_in (zt2 (List.mem_of_getElem? (i := 137) rfl)) rfl
theorem mw_2_138 : Cond.static y_C_isOperator ∈ zWD := zw_in (zt2 (List.mem_of_getElem? (i := 138) rfl)) rfl
theorem mw_2_139 : Cond.code y_C_isOperator prog_1_method_23_code 1 (some .boolean) ∈ zWD := zw_in (zt2 (List.mem_of_getElem? (i := 139) rfl)) rfl
theorem mw_2_14 : Cond.static y_C_reckon ∈ zWD := zw_in (zt2 (List.mem_of_getElem? (i := 14) rfl)) rfl
theorem mw_2_140 : Cond.methodLink "ConstantFlow$Reader" 94 y_G_right ∈ zWD := zw_in (zt2 (List.mem_of_getElem? (i := 140) rfl)) rfl
theorem mw_2_141 : Cond.methodLink "ConstantFlow$Reader" 42 y_R_fillEnd ∈ zWD := zw_in (zt2 (List.mem_of_getElem? (i := 141) rfl)) rfl
theorem mw_2_143 : Cond.instanceMethod y_R_fillEnd ∈ zWD := zw_in (zt2 (List.mem_of_getElem? (i := 143) rfl)) rfl
theorem mw_2_144 : Cond.code y_R_fillEnd prog_5_method_9_code 3 (some .boolean) ∈ zWD := zw_in (zt2 (List.mem_of_getElem? (i := 144) rfl)) rfl
theorem mw_2_145 : Cond.methodLink "ConstantFlow$Reader" 111 y_G_ofEnd ∈ zWD := zw_in (zt2 (List.mem_of_getElem? (i := 145) rfl)) rfl
theorem mw_2_146 : Cond.methodLink "ConstantFlow$Reader" 114 y_R_fillGoal ∈ zWD := zw_in (zt2 (List.mem_of_getElem? (i := 146) rfl)) rfl
theorem mw_2_148 : Cond.instanceMethod y_R_fillGoal ∈ zWD := zw_in (zt2 (List.mem_of_getElem? (i := 148) rfl)) rfl
theorem mw_2_149 : Cond.code y_R_fillGoal prog_5_method_10_code 3 (some .boolean) ∈ zWD := zw_in (zt2 (List.mem_of_getElem? (i := 149) rfl)) rfl
theorem mw_2_15 : Cond.code y_C_reckon prog_1_method_24_code 3 (some .int) ∈ zWD := zw_in (zt2 (List.mem_of_getElem? (i := 15) rfl)) rfl
theorem mw_2_150 : Cond.methodLink "ConstantFlow$Reader" 121 y_G_goalSlot ∈ zWD := zw_in (zt2 (List.mem_of_getElem? (i := 150) rfl)) rfl
theorem mw_2_151 : Cond.methodLink "ConstantFlow$Reader" 117 y_G_closeBlock ∈ zWD := zw_in (zt2 (List.mem_of_getElem? (i := 151) rfl)) rfl
theorem mw_2_152 : Cond.instanceMethod y_G_closeBlock ∈ zWD := zw_in (zt2 (List.mem_of_getElem? (i := 152) rfl)) rfl
theorem mw_2_153 : Cond.selects "ConstantFlow$Program" y_G_closeBlock y_G_closeBlock ∈ zWD := zw_in (zt2 (List.mem_of_getElem? (i := 153) rfl)) rfl
theorem mw_2_154 : Cond.code y_G_closeBlock prog_4_method_8_code 2 none ∈ zWD := zw_in (zt2 (List.mem_of_getElem? (i := 154) rfl)) rfl
theorem mw_2_155 : Cond.methodLink "ConstantFlow$Reader" 49 y_R_allGoalsThere ∈ zWD := zw_in (zt2 (List.mem_of_getElem? (i := 155) rfl)) rfl
theorem mw_2_157 : Cond.instanceMethod y_R_allGoalsThere ∈ zWD := zw_in (zt2 (List.mem_of_getElem? (i := 157) rfl)) rfl
theorem mw_2_158 : Cond.code y_R_allGoalsThere prog_5_method_12_code 3 (some .boolean) ∈ zWD := zw_in (zt2 (List.mem_of_getElem? (i := 158) rfl)) rfl
theorem mw_2_159 : Cond.methodLink "ConstantFlow$Reader" 146 y_G_goal ∈ zWD := zw_in (zt2 (List.mem_of_getElem? (i := 159) rfl)) rfl
theorem mw_2_16 : Cond.methodLink "ConstantFlow$Facts" 77 y_F_forks ∈ zWD := zw_in (zt2 (List.mem_of_getElem? (i := 16) rfl)) rfl
theorem mw_2_172 : Cond.methodLink "ConstantFlow" 126 y_F_rewrite ∈ zWD := zw_in (zt2 (List.mem_of_getElem? (i := 172) rfl)) rfl
theorem mw_2_173 : Cond.instanceMethod y_F_rewrite ∈ zWD := zw_in (zt2 (List.mem_of_getElem? (i := 173) rfl)) rfl
theorem mw_2_174 : Cond.selects "ConstantFlow$Facts" y_F_rewrite y_F_rewrite ∈ zWD := zw_in (zt2 (List.mem_of_getElem? (i := 174) rfl)) rfl
theorem mw_2_175 : Cond.code y_F_rewrite prog_2_method_11_code 5 none ∈ zWD := zw_in (zt2 (List.mem_of_getElem? (i := 175) rfl)) rfl
theorem mw_2_176 : Cond.methodLink "ConstantFlow$Facts" 120 y_F_rewriteBlock ∈ zWD := zw_in (zt2 (List.mem_of_getElem? (i := 176) rfl)) rfl
theorem mw_2_178 : Cond.instanceMethod y_F_rewriteBlock ∈ zWD := zw_in (zt2 (List.mem_of_getElem? (i := 178) rfl)) rfl
theorem mw_2_179 : Cond.code y_F_rewriteBlock prog_2_method_12_code 5 none ∈ zWD := zw_in (zt2 (List.mem_of_getElem? (i := 179) rfl)) rfl
theorem mw_2_18 : Cond.instanceMethod y_F_forks ∈ zWD := zw_in (zt2 (List.mem_of_getElem? (i := 18) rfl)) rfl
theorem mw_2_180 : Cond.methodLink "ConstantFlow$Facts" 127 y_T_append ∈ zWD := zw_in (zt2 (List.mem_of_getElem? (i := 180) rfl)) rfl
theorem mw_2_181 : Cond.instanceMethod y_T_append ∈ zWD := zw_in (zt2 (List.mem_of_getElem? (i := 181) rfl)) rfl
theorem mw_2_182 : Cond.selects "ConstantFlow$Text" y_T_append y_T_append ∈ zWD := zw_in (zt2 (List.mem_of_getElem? (i := 182) rfl)) rfl
theorem mw_2_183 : Cond.code y_T_append prog_6_method_3_code 2 none ∈ zWD := zw_in (zt2 (List.mem_of_getElem? (i := 183) rfl)) rfl
theorem mw_2_184 : Cond.methodLink "ConstantFlow$Facts" 131 y_F_rewriteValue ∈ zWD := zw_in (zt2 (List.mem_of_getElem? (i := 184) rfl)) rfl
theorem mw_2_186 : Cond.instanceMethod y_F_rewriteValue ∈ zWD := zw_in (zt2 (List.mem_of_getElem? (i := 186) rfl)) rfl
theorem mw_2_187 : Cond.code y_F_rewriteValue prog_2_method_13_code 5 none ∈ zWD := zw_in (zt2 (List.mem_of_getElem? (i := 187) rfl)) rfl
theorem mw_2_188 : Cond.methodLink "ConstantFlow$Facts" 140 y_V_settled ∈ zWD := zw_in (zt2 (List.mem_of_getElem? (i := 188) rfl)) rfl
theorem mw_2_189 : Cond.methodLink "ConstantFlow$Facts" 143 y_T_appendNumber ∈ zWD := zw_in (zt2 (List.mem_of_getElem? (i := 189) rfl)) rfl
theorem mw_2_19 : Cond.code y_F_forks prog_2_method_7_code 3 (some .boolean) ∈ zWD := zw_in (zt2 (List.mem_of_getElem? (i := 19) rfl)) rfl
theorem mw_2_190 : Cond.instanceMethod y_T_appendNumber ∈ zWD := zw_in (zt2 (List.mem_of_getElem? (i := 190) rfl)) rfl
theorem mw_2_191 : Cond.selects "ConstantFlow$Text" y_T_appendNumber y_T_appendNumber ∈ zWD := zw_in (zt2 (List.mem_of_getElem? (i := 191) rfl)) rfl
theorem mw_2_192 : Cond.code y_T_appendNumber prog_6_method_4_code 6 none ∈ zWD := zw_in (zt2 (List.mem_of_getElem? (i := 192) rfl)) rfl
theorem mw_2_193 : Cond.methodLink "ConstantFlow$Text" 19 Lib.MathLoose.abs_long.x ∈ zWD := zw_in (zt2 (List.mem_of_getElem? (i := 193) rfl)) rfl
theorem mw_2_194 : Cond.static Lib.MathLoose.abs_long.x ∈ zWD := zw_in (zt2 (List.mem_of_getElem? (i := 194) rfl)) rfl
theorem mw_2_195 : Cond.code Lib.MathLoose.abs_long.x Lib.MathLoose.abs_long.code 2 (some .long) ∈ zWD := zw_in (zt2 (List.mem_of_getElem? (i := 195) rfl)) rfl
theorem mw_2_196 : Cond.methodLink "ConstantFlow$Text" 25 y_T_append ∈ zWD := zw_in (zt2 (List.mem_of_getElem? (i := 196) rfl)) rfl
theorem mw_2_197 : Cond.constantLong "ConstantFlow$Text" 29 1000000000 ∈ zWD := zw_in (zt2 (List.mem_of_getElem? (i := 197) rfl)) rfl
theorem mw_2_198 : Cond.constantLong "ConstantFlow$Text" 31 48 ∈ zWD := zw_in (zt2 (List.mem_of_getElem? (i := 198) rfl)) rfl
theorem mw_2_199 : Cond.constantLong "ConstantFlow$Text" 33 10 ∈ zWD := zw_in (zt2 (List.mem_of_getElem? (i := 199) rfl)) rfl
theorem mw_2_2 : Cond.instanceMethod y_V_knows ∈ zWD := zw_in (zt2 (List.mem_of_getElem? (i := 2) rfl)) rfl
theorem mw_2_20 : Cond.methodLink "ConstantFlow$Facts" 93 y_G_ofEnd ∈ zWD := zw_in (zt2 (List.mem_of_getElem? (i := 20) rfl)) rfl
theorem mw_2_200 : Cond.methodLink "ConstantFlow$Facts" 146 y_G_left ∈ zWD := zw_in (zt2 (List.mem_of_getElem? (i := 200) rfl)) rfl
theorem mw_2_201 : Cond.methodLink "ConstantFlow$Facts" 149 y_F_rewriteOperand ∈ zWD := zw_in (zt2 (List.mem_of_getElem? (i := 201) rfl)) rfl
theorem mw_2_203 : Cond.instanceMethod y_F_rewriteOperand ∈ zWD := zw_in (zt2 (List.mem_of_getElem? (i := 203) rfl)) rfl
theorem mw_2_204 : Cond.code y_F_rewriteOperand prog_2_method_14_code 4 none ∈ zWD := zw_in (zt2 (List.mem_of_getElem? (i := 204) rfl)) rfl
theorem mw_2_205 : Cond.methodLink "ConstantFlow$Facts" 152 y_G_right ∈ zWD := zw_in (zt2 (List.mem_of_getElem? (i := 205) rfl)) rfl
theorem mw_2_206 : Cond.methodLink "ConstantFlow$Facts" 134 y_F_rewriteEnd ∈ zWD := zw_in (zt2 (List.mem_of_getElem? (i := 206) rfl)) rfl
theorem mw_2_208 : Cond.instanceMethod y_F_rewriteEnd ∈ zWD := zw_in (zt2 (List.mem_of_getElem? (i := 208) rfl)) rfl
theorem mw_2_209 : Cond.code y_F_rewriteEnd prog_2_method_15_code 4 none ∈ zWD := zw_in (zt2 (List.mem_of_getElem? (i := 209) rfl)) rfl
theorem mw_2_21 : Cond.static y_G_ofEnd ∈ zWD := zw_in (zt2 (List.mem_of_getElem? (i := 21) rfl)) rfl
theorem mw_2_214 : Cond.methodLink "ConstantFlow" 130 y_T_byteAt ∈ zWD := zw_in (zt2 (List.mem_of_getElem? (i := 214) rfl)) rfl
theorem mw_2_219 : Cond.methodLink "ConstantFlow" 69 y_T_append ∈ zWD := zw_in (zt2 (List.mem_of_getElem? (i := 219) rfl)) rfl
theorem mw_2_22 : Cond.code y_G_ofEnd prog_4_method_4_code 1 (some .int) ∈ zWD := zw_in (zt2 (List.mem_of_getElem? (i := 22) rfl)) rfl
theorem mw_2_23 : Cond.methodLink "ConstantFlow$Facts" 97 y_V_knows ∈ zWD := zw_in (zt2 (List.mem_of_getElem? (i := 23) rfl)) rfl
theorem mw_2_24 : Cond.methodLink "ConstantFlow$Facts" 81 y_G_goal ∈ zWD := zw_in (zt2 (List.mem_of_getElem? (i := 24) rfl)) rfl
theorem mw_2_25 : Cond.instanceMethod y_G_goal ∈ zWD := zw_in (zt2 (List.mem_of_getElem? (i := 25) rfl)) rfl
theorem mw_2_26 : Cond.selects "ConstantFlow$Program" y_G_goal y_G_goal ∈ zWD := zw_in (zt2 (List.mem_of_getElem? (i := 26) rfl)) rfl
theorem mw_2_27 : Cond.code y_G_goal prog_4_method_9_code 3 (some .int) ∈ zWD := zw_in (zt2 (List.mem_of_getElem? (i := 27) rfl)) rfl
theorem mw_2_28 : Cond.methodLink "ConstantFlow$Program" 41 y_G_goalSlot ∈ zWD := zw_in (zt2 (List.mem_of_getElem? (i := 28) rfl)) rfl
theorem mw_2_29 : Cond.static y_G_goalSlot ∈ zWD := zw_in (zt2 (List.mem_of_getElem? (i := 29) rfl)) rfl
theorem mw_2_3 : Cond.selects "ConstantFlow$View" y_V_knows y_V_knows ∈ zWD := zw_in (zt2 (List.mem_of_getElem? (i := 3) rfl)) rfl
theorem mw_2_30 : Cond.code y_G_goalSlot prog_4_method_5_code 2 (some .int) ∈ zWD := zw_in (zt2 (List.mem_of_getElem? (i := 30) rfl)) rfl
theorem mw_2_31 : Cond.methodLink "ConstantFlow$Facts" 85 y_F_onlyGoal ∈ zWD := zw_in (zt2 (List.mem_of_getElem? (i := 31) rfl)) rfl
theorem mw_2_33 : Cond.instanceMethod y_F_onlyGoal ∈ zWD := zw_in (zt2 (List.mem_of_getElem? (i := 33) rfl)) rfl
theorem mw_2_34 : Cond.code y_F_onlyGoal prog_2_method_8_code 3 (some .int) ∈ zWD := zw_in (zt2 (List.mem_of_getElem? (i := 34) rfl)) rfl
theorem mw_2_35 : Cond.methodLink "ConstantFlow$Facts" 100 y_V_numberOf ∈ zWD := zw_in (zt2 (List.mem_of_getElem? (i := 35) rfl)) rfl
theorem mw_2_36 : Cond.methodLink "ConstantFlow$Facts" 103 y_G_goalFor ∈ zWD := zw_in (zt2 (List.mem_of_getElem? (i := 36) rfl)) rfl
theorem mw_2_37 : Cond.instanceMethod y_G_goalFor ∈ zWD := zw_in (zt2 (List.mem_of_getElem? (i := 37) rfl)) rfl
theorem mw_2_38 : Cond.selects "ConstantFlow$Program" y_G_goalFor y_G_goalFor ∈ zWD := zw_in (zt2 (List.mem_of_getElem? (i := 38) rfl)) rfl
theorem mw_2_39 : Cond.code y_G_goalFor prog_4_method_10_code 4 (some .int) ∈ zWD := zw_in (zt2 (List.mem_of_getElem? (i := 39) rfl)) rfl
theorem mw_2_4 : Cond.code y_V_knows prog_7_method_4_code 3 (some .boolean) ∈ zWD := zw_in (zt2 (List.mem_of_getElem? (i := 4) rfl)) rfl
theorem mw_2_40 : Cond.methodLink "ConstantFlow$Program" 45 y_G_goal ∈ zWD := zw_in (zt2 (List.mem_of_getElem? (i := 40) rfl)) rfl
theorem mw_2_41 : Cond.methodLink "ConstantFlow$Facts" 50 y_F_count ∈ zWD := zw_in (zt2 (List.mem_of_getElem? (i := 41) rfl)) rfl
theorem mw_2_43 : Cond.instanceMethod y_F_count ∈ zWD := zw_in (zt2 (List.mem_of_getElem? (i := 43) rfl)) rfl
theorem mw_2_44 : Cond.code y_F_count prog_2_method_9_code 3 none ∈ zWD := zw_in (zt2 (List.mem_of_getElem? (i := 44) rfl)) rfl
theorem mw_2_45 : Cond.methodLink "ConstantFlow$Facts" 109 y_F_countBlock ∈ zWD := zw_in (zt2 (List.mem_of_getElem? (i := 45) rfl)) rfl
theorem mw_2_47 : Cond.instanceMethod y_F_countBlock ∈ zWD := zw_in (zt2 (List.mem_of_getElem? (i := 47) rfl)) rfl
theorem mw_2_48 : Cond.code y_F_countBlock prog_2_method_10_code 4 none ∈ zWD := zw_in (zt2 (List.mem_of_getElem? (i := 48) rfl)) rfl
theorem mw_2_49 : Cond.methodLink "ConstantFlow$Facts" 112 y_V_settles ∈ zWD := zw_in (zt2 (List.mem_of_getElem? (i := 49) rfl)) rfl
theorem mw_2_5 : Cond.methodLink "ConstantFlow$View" 41 y_V_numberOf ∈ zWD := zw_in (zt2 (List.mem_of_getElem? (i := 5) rfl)) rfl
theorem mw_2_50 : Cond.fieldLink "ConstantFlow" 14 "ConstantFlow" "tape" "LConstantFlow$Text;" ∈ zWD := zw_in (zt2 (List.mem_of_getElem? (i := 50) rfl)) rfl
theorem mw_2_51 : Cond.fieldLink "ConstantFlow" 18 "ConstantFlow" "rewritten" "LConstantFlow$Text;" ∈ zWD := zw_in (zt2 (List.mem_of_getElem? (i := 51) rfl)) rfl
theorem mw_2_52 : Cond.fieldLink "ConstantFlow" 26 "ConstantFlow" "reader" "LConstantFlow$Reader;" ∈ zWD := zw_in (zt2 (List.mem_of_getElem? (i := 52) rfl)) rfl
theorem mw_2_53 : Cond.fieldLink "ConstantFlow" 33 "ConstantFlow" "facts" "LConstantFlow$Facts;" ∈ zWD := zw_in (zt2 (List.mem_of_getElem? (i := 53) rfl)) rfl
theorem mw_2_54 : Cond.fieldLink "ConstantFlow" 40 "ConstantFlow" "machine" "LConstantFlow$Machine;" ∈ zWD := zw_in (zt2 (List.mem_of_getElem? (i := 54) rfl)) rfl
theorem mw_2_55 : Cond.fieldLink "ConstantFlow" 47 "ConstantFlow" "program" "LConstantFlow$Program;" ∈ zWD := zw_in (zt2 (List.mem_of_getElem? (i := 55) rfl)) rfl
theorem mw_2_56 : Cond.fieldLink "ConstantFlow" 51 "ConstantFlow" "spare" "LConstantFlow$Program;" ∈ zWD := zw_in (zt2 (List.mem_of_getElem? (i := 56) rfl)) rfl
theorem mw_2_57 : Cond.laysFinal "ConstantFlow" "ConstantFlow" "tape" "LConstantFlow$Text;" ∈ zWD := zw_in (zt2 (List.mem_of_getElem? (i := 57) rfl)) rfl
theorem mw_2_59 : Cond.laysFinal "ConstantFlow" "ConstantFlow" "rewritten" "LConstantFlow$Text;" ∈ zWD := zw_in (zt2 (List.mem_of_getElem? (i := 59) rfl)) rfl
theorem mw_2_6 : Cond.instanceMethod y_V_numberOf ∈ zWD := zw_in (zt2 (List.mem_of_getElem? (i := 6) rfl)) rfl
theorem mw_2_61 : Cond.laysFinal "ConstantFlow" "ConstantFlow" "reader" "LConstantFlow$Reader;" ∈ zWD := zw_in (zt2 (List.mem_of_getElem? (i := 61) rfl)) rfl
theorem mw_2_63 : Cond.laysFinal "ConstantFlow" "ConstantFlow" "facts" "LConstantFlow$Facts;" ∈ zWD := zw_in (zt2 (List.mem_of_getElem? (i := 63) rfl)) rfl
theorem mw_2_65 : Cond.laysFinal "ConstantFlow" "ConstantFlow" "machine" "LConstantFlow$Machine;" ∈ zWD := zw_in (zt2 (List.mem_of_getElem? (i := 65) rfl)) rfl
theorem mw_2_67 : Cond.lays "ConstantFlow" "ConstantFlow" "program" "LConstantFlow$Program;" ∈ zWD := zw_in (zt2 (List.mem_of_getElem? (i := 67) rfl)) rfl
theorem mw_2_69 : Cond.lays "ConstantFlow" "ConstantFlow" "spare" "LConstantFlow$Program;" ∈ zWD := zw_in (zt2 (List.mem_of_getElem? (i := 69) rfl)) rfl
theorem mw_2_7 : Cond.selects "ConstantFlow$View" y_V_numberOf y_V_numberOf ∈ zWD := zw_in (zt2 (List.mem_of_getElem? (i := 7) rfl)) rfl
theorem mw_2_8 : Cond.code y_V_numberOf prog_7_method_5_code 4 (some .int) ∈ zWD := zw_in (zt2 (List.mem_of_getElem? (i := 8) rfl)) rfl
theorem mw_2_80 : Cond.methodLink "ConstantFlow" 72 y_R_fill ∈ zWD := zw_in (zt2 (List.mem_of_getElem? (i := 80) rfl)) rfl
theorem mw_2_81 : Cond.instanceMethod y_R_fill ∈ zWD := zw_in (zt2 (List.mem_of_getElem? (i := 81) rfl)) rfl
theorem mw_2_82 : Cond.selects "ConstantFlow$Reader" y_R_fill y_R_fill ∈ zWD := zw_in (zt2 (List.mem_of_getElem? (i := 82) rfl)) rfl
theorem mw_2_83 : Cond.code y_R_fill prog_5_method_2_code 3 (some .boolean) ∈ zWD := zw_in (zt2 (List.mem_of_getElem? (i := 83) rfl)) rfl
theorem mw_2_84 : Cond.methodLink "ConstantFlow$Reader" 27 y_G_empty ∈ zWD := zw_in (zt2 (List.mem_of_getElem? (i := 84) rfl)) rfl
theorem mw_2_85 : Cond.instanceMethod y_G_empty ∈ zWD := zw_in (zt2 (List.mem_of_getElem? (i := 85) rfl)) rfl
theorem mw_2_86 : Cond.selects "ConstantFlow$Program" y_G_empty y_G_empty ∈ zWD := zw_in (zt2 (List.mem_of_getElem? (i := 86) rfl)) rfl
theorem mw_2_87 : Cond.code y_G_empty prog_4_method_6_code 1 none ∈ zWD := zw_in (zt2 (List.mem_of_getElem? (i := 87) rfl)) rfl
theorem mw_2_88 : Cond.methodLink "ConstantFlow$Reader" 38 y_R_fillStatements ∈ zWD := zw_in (zt2 (List.mem_of_getElem? (i := 88) rfl)) rfl
theorem mw_2_9 : Cond.methodLink "ConstantFlow$View" 55 y_V_settled ∈ zWD := zw_in (zt2 (List.mem_of_getElem? (i := 9) rfl)) rfl
theorem mw_2_90 : Cond.instanceMethod y_R_fillStatements ∈ zWD := zw_in (zt2 (List.mem_of_getElem? (i := 90) rfl)) rfl
theorem mw_2_91 : Cond.code y_R_fillStatements prog_5_method_6_code 4 (some .boolean) ∈ zWD := zw_in (zt2 (List.mem_of_getElem? (i := 91) rfl)) rfl
theorem mw_2_92 : Cond.methodLink "ConstantFlow$Reader" 45 y_R_next ∈ zWD := zw_in (zt2 (List.mem_of_getElem? (i := 92) rfl)) rfl
theorem mw_2_94 : Cond.instanceMethod y_R_next ∈ zWD := zw_in (zt2 (List.mem_of_getElem? (i := 94) rfl)) rfl
theorem mw_2_95 : Cond.code y_R_next prog_5_method_4_code 1 (some .int) ∈ zWD := zw_in (zt2 (List.mem_of_getElem? (i := 95) rfl)) rfl
theorem mw_2_96 : Cond.methodLink "ConstantFlow$Reader" 61 y_T_byteAt ∈ zWD := zw_in (zt2 (List.mem_of_getElem? (i := 96) rfl)) rfl
theorem mw_2_97 : Cond.instanceMethod y_T_byteAt ∈ zWD := zw_in (zt2 (List.mem_of_getElem? (i := 97) rfl)) rfl
theorem mw_2_98 : Cond.selects "ConstantFlow$Text" y_T_byteAt y_T_byteAt ∈ zWD := zw_in (zt2 (List.mem_of_getElem? (i := 98) rfl)) rfl
theorem mw_2_99 : Cond.code y_T_byteAt prog_6_method_2_code 3 (some .int) ∈ zWD := zw_in (zt2 (List.mem_of_getElem? (i := 99) rfl)) rfl
theorem mw_3_154 : Cond.methodLink "ConstantFlow$Machine" 30 y_X_valueOf ∈ zWD := zw_in (zt3 (List.mem_of_getElem? (i := 154) rfl)) rfl
theorem mw_3_156 : Cond.instanceMethod y_X_valueOf ∈ zWD := zw_in (zt3 (List.mem_of_getElem? (i := 156) rfl)) rfl
theorem mw_3_157 : Cond.code y_X_valueOf prog_3_method_3_code 6 (some .int) ∈ zWD := zw_in (zt3 (List.mem_of_getElem? (i := 157) rfl)) rfl
theorem mw_3_158 : Cond.methodLink "ConstantFlow$Machine" 51 y_X_nextInput ∈ zWD := zw_in (zt3 (List.mem_of_getElem? (i := 158) rfl)) rfl
theorem mw_3_160 : Cond.instanceMethod y_X_nextInput ∈ zWD := zw_in (zt3 (List.mem_of_getElem? (i := 160) rfl)) rfl
theorem mw_3_161 : Cond.code y_X_nextInput prog_3_method_4_code 2 (some .int) ∈ zWD := zw_in (zt3 (List.mem_of_getElem? (i := 161) rfl)) rfl
theorem mw_3_162 : Cond.methodLink "ConstantFlow$Machine" 55 y_G_left ∈ zWD := zw_in (zt3 (List.mem_of_getElem? (i := 162) rfl)) rfl
theorem mw_3_163 : Cond.methodLink "ConstantFlow$Machine" 41 y_X_operand ∈ zWD := zw_in (zt3 (List.mem_of_getElem? (i := 163) rfl)) rfl
theorem mw_3_165 : Cond.instanceMethod y_X_operand ∈ zWD := zw_in (zt3 (List.mem_of_getElem? (i := 165) rfl)) rfl
theorem mw_3_166 : Cond.code y_X_operand prog_3_method_5_code 4 (some .int) ∈ zWD := zw_in (zt3 (List.mem_of_getElem? (i := 166) rfl)) rfl
theorem mw_3_167 : Cond.methodLink "ConstantFlow$Machine" 58 y_G_right ∈ zWD := zw_in (zt3 (List.mem_of_getElem? (i := 167) rfl)) rfl
theorem mw_3_168 : Cond.methodLinkNest "ConstantFlow$Machine" 61 y_C_reckon "ConstantFlow" ∈ zNW := zn_in (zt3 (List.mem_of_getElem? (i := 168) rfl)) rfl
theorem mw_3_169 : Cond.methodLink "ConstantFlow$Machine" 37 y_G_ofEnd ∈ zWD := zw_in (zt3 (List.mem_of_getElem? (i := 169) rfl)) rfl
theorem mw_3_170 : Cond.methodLink "ConstantFlow$Machine" 44 y_G_goalFor ∈ zWD := zw_in (zt3 (List.mem_of_getElem? (i := 170) rfl)) rfl
theorem mw_3_184 : Cond.methodLink "ConstantFlowModel" 1 objectInit ∈ zWD := zw_in (zt3 (List.mem_of_getElem? (i := 184) rfl)) rfl
theorem mw_3_185 : Cond.fieldLink "ConstantFlowModel" 66 "ConstantFlowModel" "thrown" "I" ∈ zWD := zw_in (zt3 (List.mem_of_getElem? (i := 185) rfl)) rfl
theorem mw_3_186 : Cond.fieldLink "ConstantFlowModel" 7 "ConstantFlowModel" "tape" "[I" ∈ zWD := zw_in (zt3 (List.mem_of_getElem? (i := 186) rfl)) rfl
theorem mw_3_187 : Cond.fieldLink "ConstantFlowModel" 69 "ConstantFlowModel" "size" "I" ∈ zWD := zw_in (zt3 (List.mem_of_getElem? (i := 187) rfl)) rfl
theorem mw_3_188 : Cond.fieldLink "ConstantFlowModel" 74 "ConstantFlowModel" "fault" "I" ∈ zWD := zw_in (zt3 (List.mem_of_getElem? (i := 188) rfl)) rfl
theorem mw_3_189 : Cond.fieldLink "ConstantFlowModel" 13 "ConstantFlowModel" "place" "I" ∈ zWD := zw_in (zt3 (List.mem_of_getElem? (i := 189) rfl)) rfl
theorem mw_3_190 : Cond.fieldLink "ConstantFlowModel" 77 "ConstantFlowModel" "at" "I" ∈ zWD := zw_in (zt3 (List.mem_of_getElem? (i := 190) rfl)) rfl
theorem mw_3_191 : Cond.fieldLink "ConstantFlowModel" 17 "ConstantFlowModel" "blocks" "I" ∈ zWD := zw_in (zt3 (List.mem_of_getElem? (i := 191) rfl)) rfl
theorem mw_3_192 : Cond.fieldLink "ConstantFlowModel" 149 "ConstantFlowModel" "statements" "I" ∈ zWD := zw_in (zt3 (List.mem_of_getElem? (i := 192) rfl)) rfl
theorem mw_3_193 : Cond.fieldLink "ConstantFlowModel" 20 "ConstantFlowModel" "rows" "[I" ∈ zWD := zw_in (zt3 (List.mem_of_getElem? (i := 193) rfl)) rfl
theorem mw_3_194 : Cond.fieldLink "ConstantFlowModel" 23 "ConstantFlowModel" "ends" "[I" ∈ zWD := zw_in (zt3 (List.mem_of_getElem? (i := 194) rfl)) rfl
theorem mw_3_195 : Cond.fieldLink "ConstantFlowModel" 26 "ConstantFlowModel" "begins" "[I" ∈ zWD := zw_in (zt3 (List.mem_of_getElem? (i := 195) rfl)) rfl
theorem mw_3_196 : Cond.fieldLink "ConstantFlowModel" 118 "ConstantFlowModel" "newBlocks" "I" ∈ zWD := zw_in (zt3 (List.mem_of_getElem? (i := 196) rfl)) rfl
theorem mw_3_197 : Cond.fieldLink "ConstantFlowModel" 121 "ConstantFlowModel" "newStatements" "I" ∈ zWD := zw_in (zt3 (List.mem_of_getElem? (i := 197) rfl)) rfl
theorem mw_3_198 : Cond.fieldLink "ConstantFlowModel" 29 "ConstantFlowModel" "newRows" "[I" ∈ zWD := zw_in (zt3 (List.mem_of_getElem? (i := 198) rfl)) rfl
theorem mw_3_199 : Cond.fieldLink "ConstantFlowModel" 32 "ConstantFlowModel" "newEnds" "[I" ∈ zWD := zw_in (zt3 (List.mem_of_getElem? (i := 199) rfl)) rfl
theorem mw_3_200 : Cond.fieldLink "ConstantFlowModel" 35 "ConstantFlowModel" "newBegins" "[I" ∈ zWD := zw_in (zt3 (List.mem_of_getElem? (i := 200) rfl)) rfl
theorem mw_3_201 : Cond.fieldLink "ConstantFlowModel" 38 "ConstantFlowModel" "targetPlaces" "[I" ∈ zWD := zw_in (zt3 (List.mem_of_getElem? (i := 201) rfl)) rfl
theorem mw_3_202 : Cond.fieldLink "ConstantFlowModel" 108 "ConstantFlowModel" "operandKind" "I" ∈ zWD := zw_in (zt3 (List.mem_of_getElem? (i := 202) rfl)) rfl
theorem mw_3_203 : Cond.fieldLink "ConstantFlowModel" 111 "ConstantFlowModel" "operandValue" "I" ∈ zWD := zw_in (zt3 (List.mem_of_getElem? (i := 203) rfl)) rfl
theorem mw_3_204 : Cond.fieldLink "ConstantFlowModel" 152 "ConstantFlowModel" "known" "Z" ∈ zWD := zw_in (zt3 (List.mem_of_getElem? (i := 204) rfl)) rfl
theorem mw_3_205 : Cond.fieldLink "ConstantFlowModel" 41 "ConstantFlowModel" "come" "[Z" ∈ zWD := zw_in (zt3 (List.mem_of_getElem? (i := 205) rfl)) rfl
theorem mw_3_206 : Cond.fieldLink "ConstantFlowModel" 45 "ConstantFlowModel" "sorts" "[I" ∈ zWD := zw_in (zt3 (List.mem_of_getElem? (i := 206) rfl)) rfl
theorem mw_3_207 : Cond.fieldLink "ConstantFlowModel" 48 "ConstantFlowModel" "numbers" "[I" ∈ zWD := zw_in (zt3 (List.mem_of_getElem? (i := 207) rfl)) rfl
theorem mw_3_208 : Cond.fieldLink "ConstantFlowModel" 51 "ConstantFlowModel" "nowSorts" "[I" ∈ zWD := zw_in (zt3 (List.mem_of_getElem? (i := 208) rfl)) rfl
theorem mw_3_209 : Cond.fieldLink "ConstantFlowModel" 54 "ConstantFlowModel" "nowNumbers" "[I" ∈ zWD := zw_in (zt3 (List.mem_of_getElem? (i := 209) rfl)) rfl
theorem mw_3_210 : Cond.fieldLink "ConstantFlowModel" 156 "ConstantFlowModel" "madeSort" "I" ∈ zWD := zw_in (zt3 (List.mem_of_getElem? (i := 210) rfl)) rfl
theorem mw_3_211 : Cond.fieldLink "ConstantFlowModel" 159 "ConstantFlowModel" "made" "I" ∈ zWD := zw_in (zt3 (List.mem_of_getElem? (i := 211) rfl)) rfl
theorem mw_3_212 : Cond.fieldLink "ConstantFlowModel" 57 "ConstantFlowModel" "written" "[I" ∈ zWD := zw_in (zt3 (List.mem_of_getElem? (i := 212) rfl)) rfl
theorem mw_3_213 : Cond.fieldLink "ConstantFlowModel" 201 "ConstantFlowModel" "writtenSize" "I" ∈ zWD := zw_in (zt3 (List.mem_of_getElem? (i := 213) rfl)) rfl
theorem mw_3_214 : Cond.fieldLink "ConstantFlowModel" 60 "ConstantFlowModel" "inputs" "[I" ∈ zWD := zw_in (zt3 (List.mem_of_getElem? (i := 214) rfl)) rfl
theorem mw_3_215 : Cond.fieldLink "ConstantFlowModel" 225 "ConstantFlowModel" "inputCount" "I" ∈ zWD := zw_in (zt3 (List.mem_of_getElem? (i := 215) rfl)) rfl
theorem mw_3_216 : Cond.fieldLink "ConstantFlowModel" 63 "ConstantFlowModel" "values" "[I" ∈ zWD := zw_in (zt3 (List.mem_of_getElem? (i := 216) rfl)) rfl
theorem mw_3_217 : Cond.fieldLink "ConstantFlowModel" 228 "ConstantFlowModel" "asked" "I" ∈ zWD := zw_in (zt3 (List.mem_of_getElem? (i := 217) rfl)) rfl
theorem mw_3_218 : Cond.lays "ConstantFlowModel" "ConstantFlowModel" "thrown" "I" ∈ zWD := zw_in (zt3 (List.mem_of_getElem? (i := 218) rfl)) rfl
theorem mw_3_220 : Cond.laysFinal "ConstantFlowModel" "ConstantFlowModel" "tape" "[I" ∈ zWD := zw_in (zt3 (List.mem_of_getElem? (i := 220) rfl)) rfl
theorem mw_3_222 : Cond.lays "ConstantFlowModel" "ConstantFlowModel" "size" "I" ∈ zWD := zw_in (zt3 (List.mem_of_getElem? (i := 222) rfl)) rfl
theorem mw_3_224 : Cond.lays "ConstantFlowModel" "ConstantFlowModel" "fault" "I" ∈ zWD := zw_in (zt3 (List.mem_of_getElem? (i := 224) rfl)) rfl
theorem mw_3_226 : Cond.lays "ConstantFlowModel" "ConstantFlowModel" "place" "I" ∈ zWD := zw_in (zt3 (List.mem_of_getElem? (i := 226) rfl)) rfl
theorem mw_3_228 : Cond.lays "ConstantFlowModel" "ConstantFlowModel" "at" "I" ∈ zWD := zw_in (zt3 (List.mem_of_getElem? (i := 228) rfl)) rfl
theorem mw_3_230 : Cond.lays "ConstantFlowModel" "ConstantFlowModel" "blocks" "I" ∈ zWD := zw_in (zt3 (List.mem_of_getElem? (i := 230) rfl)) rfl
theorem mw_3_232 : Cond.lays "ConstantFlowModel" "ConstantFlowModel" "statements" "I" ∈ zWD := zw_in (zt3 (List.mem_of_getElem? (i := 232) rfl)) rfl
theorem mw_3_234 : Cond.laysFinal "ConstantFlowModel" "ConstantFlowModel" "rows" "[I" ∈ zWD := zw_in (zt3 (List.mem_of_getElem? (i := 234) rfl)) rfl
theorem mw_3_236 : Cond.laysFinal "ConstantFlowModel" "ConstantFlowModel" "ends" "[I" ∈ zWD := zw_in (zt3 (List.mem_of_getElem? (i := 236) rfl)) rfl
theorem mw_3_238 : Cond.laysFinal "ConstantFlowModel" "ConstantFlowModel" "begins" "[I" ∈ zWD := zw_in (zt3 (List.mem_of_getElem? (i := 238) rfl)) rfl
theorem mw_4_0 : Cond.lays "ConstantFlowModel" "ConstantFlowModel" "newBlocks" "I" ∈ zWD := zw_in (zt4 (List.mem_of_getElem? (i := 0) rfl)) rfl
theorem mw_4_10 : Cond.laysFinal "ConstantFlowModel" "ConstantFlowModel" "targetPlaces" "[I" ∈ zWD := zw_in (zt4 (List.mem_of_getElem? (i := 10) rfl)) rfl
theorem mw_4_100 : Cond.code y_M_isVariable prog_9_method_8_code 1 (some .boolean) ∈ zWD := zw_in (zt4 (List.mem_of_getElem? (i := 100) rfl)) rfl
theorem mw_4_101 : Cond.methodLink "ConstantFlowModel" 137 y_M_statement ∈ zWD := zw_in (zt4 (List.mem_of_getElem? (i := 101) rfl)) rfl
theorem mw_4_103 : Cond.instanceMethod y_M_statement ∈ zWD := zw_in (zt4 (List.mem_of_getElem? (i := 103) rfl)) rfl
theorem mw_4_104 : Cond.code y_M_statement prog_9_method_16_code 4 none ∈ zWD := zw_in (zt4 (List.mem_of_getElem? (i := 104) rfl)) rfl
theorem mw_4_105 : Cond.methodLink "ConstantFlowModel" 127 y_M_operator ∈ zWD := zw_in (zt4 (List.mem_of_getElem? (i := 105) rfl)) rfl
theorem mw_4_106 : Cond.static y_M_operator ∈ zWD := zw_in (zt4 (List.mem_of_getElem? (i := 106) rfl)) rfl
theorem mw_4_107 : Cond.code y_M_operator prog_9_method_14_code 1 (some .int) ∈ zWD := zw_in (zt4 (List.mem_of_getElem? (i := 107) rfl)) rfl
theorem mw_4_108 : Cond.methodLink "ConstantFlowModel" 130 y_M_want ∈ zWD := zw_in (zt4 (List.mem_of_getElem? (i := 108) rfl)) rfl
theorem mw_4_110 : Cond.instanceMethod y_M_want ∈ zWD := zw_in (zt4 (List.mem_of_getElem? (i := 110) rfl)) rfl
theorem mw_4_111 : Cond.code y_M_want prog_9_method_10_code 2 none ∈ zWD := zw_in (zt4 (List.mem_of_getElem? (i := 111) rfl)) rfl
theorem mw_4_112 : Cond.methodLink "ConstantFlowModel" 140 y_M_choice ∈ zWD := zw_in (zt4 (List.mem_of_getElem? (i := 112) rfl)) rfl
theorem mw_4_114 : Cond.instanceMethod y_M_choice ∈ zWD := zw_in (zt4 (List.mem_of_getElem? (i := 114) rfl)) rfl
theorem mw_4_115 : Cond.code y_M_choice prog_9_method_17_code 2 none ∈ zWD := zw_in (zt4 (List.mem_of_getElem? (i := 115) rfl)) rfl
theorem mw_4_116 : Cond.methodLink "ConstantFlowModel" 146 y_M_checkTargets ∈ zWD := zw_in (zt4 (List.mem_of_getElem? (i := 116) rfl)) rfl
theorem mw_4_118 : Cond.instanceMethod y_M_checkTargets ∈ zWD := zw_in (zt4 (List.mem_of_getElem? (i := 118) rfl)) rfl
theorem mw_4_119 : Cond.code y_M_checkTargets prog_9_method_19_code 3 none ∈ zWD := zw_in (zt4 (List.mem_of_getElem? (i := 119) rfl)) rfl
theorem mw_4_12 : Cond.lays "ConstantFlowModel" "ConstantFlowModel" "operandKind" "I" ∈ zWD := zw_in (zt4 (List.mem_of_getElem? (i := 12) rfl)) rfl
theorem mw_4_132 : Cond.methodLink "ConstantFlowModel" 191 y_M_noBlock ∈ zWD := zw_in (zt4 (List.mem_of_getElem? (i := 132) rfl)) rfl
theorem mw_4_134 : Cond.instanceMethod y_M_noBlock ∈ zWD := zw_in (zt4 (List.mem_of_getElem? (i := 134) rfl)) rfl
theorem mw_4_135 : Cond.code y_M_noBlock prog_9_method_33_code 2 (some .boolean) ∈ zWD := zw_in (zt4 (List.mem_of_getElem? (i := 135) rfl)) rfl
theorem mw_4_136 : Cond.methodLink "ConstantFlowModel" 194 y_M_know ∈ zWD := zw_in (zt4 (List.mem_of_getElem? (i := 136) rfl)) rfl
theorem mw_4_138 : Cond.instanceMethod y_M_know ∈ zWD := zw_in (zt4 (List.mem_of_getElem? (i := 138) rfl)) rfl
theorem mw_4_139 : Cond.code y_M_know prog_9_method_32_code 4 none ∈ zWD := zw_in (zt4 (List.mem_of_getElem? (i := 139) rfl)) rfl
theorem mw_4_14 : Cond.lays "ConstantFlowModel" "ConstantFlowModel" "operandValue" "I" ∈ zWD := zw_in (zt4 (List.mem_of_getElem? (i := 14) rfl)) rfl
theorem mw_4_140 : Cond.methodLink "ConstantFlowModel" 182 y_M_beginBlock ∈ zWD := zw_in (zt4 (List.mem_of_getElem? (i := 140) rfl)) rfl
theorem mw_4_142 : Cond.instanceMethod y_M_beginBlock ∈ zWD := zw_in (zt4 (List.mem_of_getElem? (i := 142) rfl)) rfl
theorem mw_4_143 : Cond.code y_M_beginBlock prog_9_method_28_code 3 none ∈ zWD := zw_in (zt4 (List.mem_of_getElem? (i := 143) rfl)) rfl
theorem mw_4_144 : Cond.methodLink "ConstantFlowModel" 185 y_M_follow ∈ zWD := zw_in (zt4 (List.mem_of_getElem? (i := 144) rfl)) rfl
theorem mw_4_146 : Cond.instanceMethod y_M_follow ∈ zWD := zw_in (zt4 (List.mem_of_getElem? (i := 146) rfl)) rfl
theorem mw_4_147 : Cond.code y_M_follow prog_9_method_27_code 2 none ∈ zWD := zw_in (zt4 (List.mem_of_getElem? (i := 147) rfl)) rfl
theorem mw_4_148 : Cond.methodLink "ConstantFlowModel" 173 y_M_make ∈ zWD := zw_in (zt4 (List.mem_of_getElem? (i := 148) rfl)) rfl
theorem mw_4_150 : Cond.instanceMethod y_M_make ∈ zWD := zw_in (zt4 (List.mem_of_getElem? (i := 150) rfl)) rfl
theorem mw_4_151 : Cond.code y_M_make prog_9_method_26_code 9 none ∈ zWD := zw_in (zt4 (List.mem_of_getElem? (i := 151) rfl)) rfl
theorem mw_4_152 : Cond.methodLink "ConstantFlowModel" 162 y_M_numberOf ∈ zWD := zw_in (zt4 (List.mem_of_getElem? (i := 152) rfl)) rfl
theorem mw_4_154 : Cond.instanceMethod y_M_numberOf ∈ zWD := zw_in (zt4 (List.mem_of_getElem? (i := 154) rfl)) rfl
theorem mw_4_155 : Cond.code y_M_numberOf prog_9_method_25_code 3 (some .int) ∈ zWD := zw_in (zt4 (List.mem_of_getElem? (i := 155) rfl)) rfl
theorem mw_4_156 : Cond.methodLink "ConstantFlowModel" 166 y_M_sortOf ∈ zWD := zw_in (zt4 (List.mem_of_getElem? (i := 156) rfl)) rfl
theorem mw_4_158 : Cond.instanceMethod y_M_sortOf ∈ zWD := zw_in (zt4 (List.mem_of_getElem? (i := 158) rfl)) rfl
theorem mw_4_159 : Cond.code y_M_sortOf prog_9_method_24_code 3 (some .int) ∈ zWD := zw_in (zt4 (List.mem_of_getElem? (i := 159) rfl)) rfl
theorem mw_4_16 : Cond.lays "ConstantFlowModel" "ConstantFlowModel" "known" "Z" ∈ zWD := zw_in (zt4 (List.mem_of_getElem? (i := 16) rfl)) rfl
theorem mw_4_160 : Cond.methodLink "ConstantFlowModel" 169 y_M_reckoned ∈ zWD := zw_in (zt4 (List.mem_of_getElem? (i := 160) rfl)) rfl
theorem mw_4_161 : Cond.static y_M_reckoned ∈ zWD := zw_in (zt4 (List.mem_of_getElem? (i := 161) rfl)) rfl
theorem mw_4_162 : Cond.code y_M_reckoned prog_9_method_23_code 3 (some .int) ∈ zWD := zw_in (zt4 (List.mem_of_getElem? (i := 162) rfl)) rfl
theorem mw_4_163 : Cond.methodLink "ConstantFlowModel" 188 y_M_lead ∈ zWD := zw_in (zt4 (List.mem_of_getElem? (i := 163) rfl)) rfl
theorem mw_4_165 : Cond.instanceMethod y_M_lead ∈ zWD := zw_in (zt4 (List.mem_of_getElem? (i := 165) rfl)) rfl
theorem mw_4_166 : Cond.code y_M_lead prog_9_method_31_code 5 (some .boolean) ∈ zWD := zw_in (zt4 (List.mem_of_getElem? (i := 166) rfl)) rfl
theorem mw_4_167 : Cond.methodLink "ConstantFlowModel" 176 y_M_join ∈ zWD := zw_in (zt4 (List.mem_of_getElem? (i := 167) rfl)) rfl
theorem mw_4_169 : Cond.instanceMethod y_M_join ∈ zWD := zw_in (zt4 (List.mem_of_getElem? (i := 169) rfl)) rfl
theorem mw_4_170 : Cond.code y_M_join prog_9_method_29_code 5 (some .boolean) ∈ zWD := zw_in (zt4 (List.mem_of_getElem? (i := 170) rfl)) rfl
theorem mw_4_171 : Cond.methodLink "ConstantFlowModel" 179 y_M_goes ∈ zWD := zw_in (zt4 (List.mem_of_getElem? (i := 171) rfl)) rfl
theorem mw_4_173 : Cond.instanceMethod y_M_goes ∈ zWD := zw_in (zt4 (List.mem_of_getElem? (i := 173) rfl)) rfl
theorem mw_4_174 : Cond.code y_M_goes prog_9_method_30_code 3 (some .int) ∈ zWD := zw_in (zt4 (List.mem_of_getElem? (i := 174) rfl)) rfl
theorem mw_4_179 : Cond.methodLink "ConstantFlowModel" 197 y_M_goTo ∈ zWD := zw_in (zt4 (List.mem_of_getElem? (i := 179) rfl)) rfl
theorem mw_4_18 : Cond.laysFinal "ConstantFlowModel" "ConstantFlowModel" "come" "[Z" ∈ zWD := zw_in (zt4 (List.mem_of_getElem? (i := 18) rfl)) rfl
theorem mw_4_181 : Cond.instanceMethod y_M_goTo ∈ zWD := zw_in (zt4 (List.mem_of_getElem? (i := 181) rfl)) rfl
theorem mw_4_182 : Cond.code y_M_goTo prog_9_method_35_code 4 none ∈ zWD := zw_in (zt4 (List.mem_of_getElem? (i := 182) rfl)) rfl
theorem mw_4_195 : Cond.methodLink "ConstantFlowModel" 219 y_M_putStatement ∈ zWD := zw_in (zt4 (List.mem_of_getElem? (i := 195) rfl)) rfl
theorem mw_4_197 : Cond.instanceMethod y_M_putStatement ∈ zWD := zw_in (zt4 (List.mem_of_getElem? (i := 197) rfl)) rfl
theorem mw_4_198 : Cond.code y_M_putStatement prog_9_method_42_code 3 none ∈ zWD := zw_in (zt4 (List.mem_of_getElem? (i := 198) rfl)) rfl
theorem mw_4_199 : Cond.methodLink "ConstantFlowModel" 204 y_M_put ∈ zWD := zw_in (zt4 (List.mem_of_getElem? (i := 199) rfl)) rfl
theorem mw_4_2 : Cond.lays "ConstantFlowModel" "ConstantFlowModel" "newStatements" "I" ∈ zWD := zw_in (zt4 (List.mem_of_getElem? (i := 2) rfl)) rfl
theorem mw_4_20 : Cond.laysFinal "ConstantFlowModel" "ConstantFlowModel" "sorts" "[I" ∈ zWD := zw_in (zt4 (List.mem_of_getElem? (i := 20) rfl)) rfl
theorem mw_4_201 : Cond.instanceMethod y_M_put ∈ zWD := zw_in (zt4 (List.mem_of_getElem? (i := 201) rfl)) rfl
theorem mw_4_202 : Cond.code y_M_put prog_9_method_39_code 2 none ∈ zWD := zw_in (zt4 (List.mem_of_getElem? (i := 202) rfl)) rfl
theorem mw_4_203 : Cond.methodLink "ConstantFlowModel" 207 y_M_putNumber ∈ zWD := zw_in (zt4 (List.mem_of_getElem? (i := 203) rfl)) rfl
theorem mw_4_205 : Cond.instanceMethod y_M_putNumber ∈ zWD := zw_in (zt4 (List.mem_of_getElem? (i := 205) rfl)) rfl
theorem mw_4_206 : Cond.code y_M_putNumber prog_9_method_40_code 6 none ∈ zWD := zw_in (zt4 (List.mem_of_getElem? (i := 206) rfl)) rfl
theorem mw_4_207 : Cond.methodLink "ConstantFlowModel" 210 y_M_putOperand ∈ zWD := zw_in (zt4 (List.mem_of_getElem? (i := 207) rfl)) rfl
theorem mw_4_209 : Cond.instanceMethod y_M_putOperand ∈ zWD := zw_in (zt4 (List.mem_of_getElem? (i := 209) rfl)) rfl
theorem mw_4_210 : Cond.code y_M_putOperand prog_9_method_41_code 3 none ∈ zWD := zw_in (zt4 (List.mem_of_getElem? (i := 210) rfl)) rfl
theorem mw_4_211 : Cond.methodLink "ConstantFlowModel" 213 y_M_sign ∈ zWD := zw_in (zt4 (List.mem_of_getElem? (i := 211) rfl)) rfl
theorem mw_4_212 : Cond.static y_M_sign ∈ zWD := zw_in (zt4 (List.mem_of_getElem? (i := 212) rfl)) rfl
theorem mw_4_213 : Cond.code y_M_sign prog_9_method_15_code 1 (some .int) ∈ zWD := zw_in (zt4 (List.mem_of_getElem? (i := 213) rfl)) rfl
theorem mw_4_214 : Cond.methodLink "ConstantFlowModel" 222 y_M_putEnd ∈ zWD := zw_in (zt4 (List.mem_of_getElem? (i := 214) rfl)) rfl
theorem mw_4_216 : Cond.instanceMethod y_M_putEnd ∈ zWD := zw_in (zt4 (List.mem_of_getElem? (i := 216) rfl)) rfl
theorem mw_4_217 : Cond.code y_M_putEnd prog_9_method_44_code 4 none ∈ zWD := zw_in (zt4 (List.mem_of_getElem? (i := 217) rfl)) rfl
theorem mw_4_218 : Cond.methodLink "ConstantFlowModel" 216 y_M_newNumber ∈ zWD := zw_in (zt4 (List.mem_of_getElem? (i := 218) rfl)) rfl
theorem mw_4_22 : Cond.laysFinal "ConstantFlowModel" "ConstantFlowModel" "numbers" "[I" ∈ zWD := zw_in (zt4 (List.mem_of_getElem? (i := 22) rfl)) rfl
theorem mw_4_220 : Cond.instanceMethod y_M_newNumber ∈ zWD := zw_in (zt4 (List.mem_of_getElem? (i := 220) rfl)) rfl
theorem mw_4_221 : Cond.code y_M_newNumber prog_9_method_43_code 4 (some .int) ∈ zWD := zw_in (zt4 (List.mem_of_getElem? (i := 221) rfl)) rfl
theorem mw_4_24 : Cond.laysFinal "ConstantFlowModel" "ConstantFlowModel" "nowSorts" "[I" ∈ zWD := zw_in (zt4 (List.mem_of_getElem? (i := 24) rfl)) rfl
theorem mw_4_26 : Cond.laysFinal "ConstantFlowModel" "ConstantFlowModel" "nowNumbers" "[I" ∈ zWD := zw_in (zt4 (List.mem_of_getElem? (i := 26) rfl)) rfl
theorem mw_4_28 : Cond.lays "ConstantFlowModel" "ConstantFlowModel" "madeSort" "I" ∈ zWD := zw_in (zt4 (List.mem_of_getElem? (i := 28) rfl)) rfl
theorem mw_4_30 : Cond.lays "ConstantFlowModel" "ConstantFlowModel" "made" "I" ∈ zWD := zw_in (zt4 (List.mem_of_getElem? (i := 30) rfl)) rfl
theorem mw_4_32 : Cond.laysFinal "ConstantFlowModel" "ConstantFlowModel" "written" "[I" ∈ zWD := zw_in (zt4 (List.mem_of_getElem? (i := 32) rfl)) rfl
theorem mw_4_34 : Cond.lays "ConstantFlowModel" "ConstantFlowModel" "writtenSize" "I" ∈ zWD := zw_in (zt4 (List.mem_of_getElem? (i := 34) rfl)) rfl
theorem mw_4_36 : Cond.laysFinal "ConstantFlowModel" "ConstantFlowModel" "inputs" "[I" ∈ zWD := zw_in (zt4 (List.mem_of_getElem? (i := 36) rfl)) rfl
theorem mw_4_38 : Cond.lays "ConstantFlowModel" "ConstantFlowModel" "inputCount" "I" ∈ zWD := zw_in (zt4 (List.mem_of_getElem? (i := 38) rfl)) rfl
theorem mw_4_4 : Cond.laysFinal "ConstantFlowModel" "ConstantFlowModel" "newRows" "[I" ∈ zWD := zw_in (zt4 (List.mem_of_getElem? (i := 4) rfl)) rfl
theorem mw_4_40 : Cond.laysFinal "ConstantFlowModel" "ConstantFlowModel" "values" "[I" ∈ zWD := zw_in (zt4 (List.mem_of_getElem? (i := 40) rfl)) rfl
theorem mw_4_42 : Cond.lays "ConstantFlowModel" "ConstantFlowModel" "asked" "I" ∈ zWD := zw_in (zt4 (List.mem_of_getElem? (i := 42) rfl)) rfl
theorem mw_4_53 : Cond.constantLong "ConstantFlowModel" 72 255 ∈ zWD := zw_in (zt4 (List.mem_of_getElem? (i := 53) rfl)) rfl
theorem mw_4_6 : Cond.laysFinal "ConstantFlowModel" "ConstantFlowModel" "newEnds" "[I" ∈ zWD := zw_in (zt4 (List.mem_of_getElem? (i := 6) rfl)) rfl
theorem mw_4_62 : Cond.methodLink "ConstantFlowModel" 143 y_M_block ∈ zWD := zw_in (zt4 (List.mem_of_getElem? (i := 62) rfl)) rfl
theorem mw_4_64 : Cond.instanceMethod y_M_block ∈ zWD := zw_in (zt4 (List.mem_of_getElem? (i := 64) rfl)) rfl
theorem mw_4_65 : Cond.code y_M_block prog_9_method_18_code 4 none ∈ zWD := zw_in (zt4 (List.mem_of_getElem? (i := 65) rfl)) rfl
theorem mw_4_66 : Cond.methodLink "ConstantFlowModel" 80 y_M_skip ∈ zWD := zw_in (zt4 (List.mem_of_getElem? (i := 66) rfl)) rfl
theorem mw_4_68 : Cond.instanceMethod y_M_skip ∈ zWD := zw_in (zt4 (List.mem_of_getElem? (i := 68) rfl)) rfl
theorem mw_4_69 : Cond.code y_M_skip prog_9_method_7_code 1 none ∈ zWD := zw_in (zt4 (List.mem_of_getElem? (i := 69) rfl)) rfl
theorem mw_4_70 : Cond.methodLink "ConstantFlowModel" 83 y_M_byteAt ∈ zWD := zw_in (zt4 (List.mem_of_getElem? (i := 70) rfl)) rfl
theorem mw_4_72 : Cond.instanceMethod y_M_byteAt ∈ zWD := zw_in (zt4 (List.mem_of_getElem? (i := 72) rfl)) rfl
theorem mw_4_73 : Cond.code y_M_byteAt prog_9_method_6_code 2 (some .int) ∈ zWD := zw_in (zt4 (List.mem_of_getElem? (i := 73) rfl)) rfl
theorem mw_4_74 : Cond.methodLink "ConstantFlowModel" 134 y_M_blockNumber ∈ zWD := zw_in (zt4 (List.mem_of_getElem? (i := 74) rfl)) rfl
theorem mw_4_76 : Cond.instanceMethod y_M_blockNumber ∈ zWD := zw_in (zt4 (List.mem_of_getElem? (i := 76) rfl)) rfl
theorem mw_4_77 : Cond.code y_M_blockNumber prog_9_method_13_code 2 (some .int) ∈ zWD := zw_in (zt4 (List.mem_of_getElem? (i := 77) rfl)) rfl
theorem mw_4_78 : Cond.methodLink "ConstantFlowModel" 114 y_M_number0 ∈ zWD := zw_in (zt4 (List.mem_of_getElem? (i := 78) rfl)) rfl
theorem mw_4_8 : Cond.laysFinal "ConstantFlowModel" "ConstantFlowModel" "newBegins" "[I" ∈ zWD := zw_in (zt4 (List.mem_of_getElem? (i := 8) rfl)) rfl
theorem mw_4_80 : Cond.instanceMethod y_M_number0 ∈ zWD := zw_in (zt4 (List.mem_of_getElem? (i := 80) rfl)) rfl
theorem mw_4_81 : Cond.code y_M_number0 prog_9_method_11_code 6 (some .int) ∈ zWD := zw_in (zt4 (List.mem_of_getElem? (i := 81) rfl)) rfl
theorem mw_4_82 : Cond.methodLink "ConstantFlowModel" 91 y_M_isFigure ∈ zWD := zw_in (zt4 (List.mem_of_getElem? (i := 82) rfl)) rfl
theorem mw_4_83 : Cond.static y_M_isFigure ∈ zWD := zw_in (zt4 (List.mem_of_getElem? (i := 83) rfl)) rfl
theorem mw_4_84 : Cond.code y_M_isFigure prog_9_method_9_code 1 (some .boolean) ∈ zWD := zw_in (zt4 (List.mem_of_getElem? (i := 84) rfl)) rfl
theorem mw_4_85 : Cond.methodLink "ConstantFlowModel" 87 y_M_fail ∈ zWD := zw_in (zt4 (List.mem_of_getElem? (i := 85) rfl)) rfl
theorem mw_4_87 : Cond.instanceMethod y_M_fail ∈ zWD := zw_in (zt4 (List.mem_of_getElem? (i := 87) rfl)) rfl
theorem mw_4_88 : Cond.code y_M_fail prog_9_method_5_code 3 none ∈ zWD := zw_in (zt4 (List.mem_of_getElem? (i := 88) rfl)) rfl
theorem mw_4_89 : Cond.constantLong "ConstantFlowModel" 95 10 ∈ zWD := zw_in (zt4 (List.mem_of_getElem? (i := 89) rfl)) rfl
theorem mw_4_90 : Cond.constantLong "ConstantFlowModel" 97 48 ∈ zWD := zw_in (zt4 (List.mem_of_getElem? (i := 90) rfl)) rfl
theorem mw_4_91 : Cond.constantLong "ConstantFlowModel" 99 9999999999 ∈ zWD := zw_in (zt4 (List.mem_of_getElem? (i := 91) rfl)) rfl
theorem mw_4_92 : Cond.constantLong "ConstantFlowModel" 101 (-2147483648) ∈ zWD := zw_in (zt4 (List.mem_of_getElem? (i := 92) rfl)) rfl
theorem mw_4_93 : Cond.constantLong "ConstantFlowModel" 103 2147483647 ∈ zWD := zw_in (zt4 (List.mem_of_getElem? (i := 93) rfl)) rfl
theorem mw_4_94 : Cond.methodLink "ConstantFlowModel" 124 y_M_operand ∈ zWD := zw_in (zt4 (List.mem_of_getElem? (i := 94) rfl)) rfl
theorem mw_4_96 : Cond.instanceMethod y_M_operand ∈ zWD := zw_in (zt4 (List.mem_of_getElem? (i := 96) rfl)) rfl
theorem mw_4_97 : Cond.code y_M_operand prog_9_method_12_code 2 none ∈ zWD := zw_in (zt4 (List.mem_of_getElem? (i := 97) rfl)) rfl
theorem mw_4_98 : Cond.methodLink "ConstantFlowModel" 105 y_M_isVariable ∈ zWD := zw_in (zt4 (List.mem_of_getElem? (i := 98) rfl)) rfl
theorem mw_4_99 : Cond.static y_M_isVariable ∈ zWD := zw_in (zt4 (List.mem_of_getElem? (i := 99) rfl)) rfl
theorem mw_5_2 : Cond.methodLink "ConstantFlowModel" 234 y_M_done ∈ zWD := zw_in (zt5 (List.mem_of_getElem? (i := 2) rfl)) rfl
theorem mw_5_4 : Cond.instanceMethod y_M_done ∈ zWD := zw_in (zt5 (List.mem_of_getElem? (i := 4) rfl)) rfl
theorem mw_5_5 : Cond.code y_M_done prog_9_method_51_code 4 none ∈ zWD := zw_in (zt5 (List.mem_of_getElem? (i := 5) rfl)) rfl
theorem mw_5_6 : Cond.methodLink "ConstantFlowModel" 231 y_M_valueOf ∈ zWD := zw_in (zt5 (List.mem_of_getElem? (i := 6) rfl)) rfl
theorem mw_5_8 : Cond.instanceMethod y_M_valueOf ∈ zWD := zw_in (zt5 (List.mem_of_getElem? (i := 8) rfl)) rfl
theorem mw_5_9 : Cond.code y_M_valueOf prog_9_method_50_code 3 (some .int) ∈ zWD := zw_in (zt5 (List.mem_of_getElem? (i := 9) rfl)) rfl
theorem zin0 : ∀ w ∈ u_ws "ConstantFlow" zT0 7, w ∈ zWD := by
  intro w hw
  obtain ⟨k, hk, rfl⟩ := List.mem_map.mp hw
  rw [List.mem_range] at hk
  match k, hk with
  | 0, _ => exact mw_2_57
  | 1, _ => exact mw_2_59
  | 2, _ => exact mw_2_61
  | 3, _ => exact mw_2_63
  | 4, _ => exact mw_2_65
  | 5, _ => exact mw_2_67
  | 6, _ => exact mw_2_69
  | k + 7, hk => exact absurd hk (by omega)
theorem zin1 : ∀ w ∈ u_ws "ConstantFlow$Text" zT1 2, w ∈ zWD := by
  intro w hw
  obtain ⟨k, hk, rfl⟩ := List.mem_map.mp hw
  rw [List.mem_range] at hk
  match k, hk with
  | 0, _ => exact mw_1_35
  | 1, _ => exact mw_1_37
  | k + 2, hk => exact absurd hk (by omega)
theorem zin2 : ∀ w ∈ u_ws "ConstantFlow$Reader" zT2 7, w ∈ zWD := by
  intro w hw
  obtain ⟨k, hk, rfl⟩ := List.mem_map.mp hw
  rw [List.mem_range] at hk
  match k, hk with
  | 0, _ => exact mw_1_56
  | 1, _ => exact mw_1_58
  | 2, _ => exact mw_1_60
  | 3, _ => exact mw_1_62
  | 4, _ => exact mw_1_64
  | 5, _ => exact mw_1_66
  | 6, _ => exact mw_1_68
  | k + 7, hk => exact absurd hk (by omega)
theorem zin3 : ∀ w ∈ u_ws "ConstantFlow$Facts" zT3 8, w ∈ zWD := by
  intro w hw
  obtain ⟨k, hk, rfl⟩ := List.mem_map.mp hw
  rw [List.mem_range] at hk
  match k, hk with
  | 0, _ => exact mw_1_105
  | 1, _ => exact mw_1_107
  | 2, _ => exact mw_1_109
  | 3, _ => exact mw_1_111
  | 4, _ => exact mw_1_113
  | 5, _ => exact mw_1_115
  | 6, _ => exact mw_1_117
  | 7, _ => exact mw_1_119
  | k + 8, hk => exact absurd hk (by omega)
theorem zin4 : ∀ w ∈ u_ws "ConstantFlow$View" zT4 2, w ∈ zWD := by
  intro w hw
  obtain ⟨k, hk, rfl⟩ := List.mem_map.mp hw
  rw [List.mem_range] at hk
  match k, hk with
  | 0, _ => exact mw_1_89
  | 1, _ => exact mw_1_91
  | k + 2, hk => exact absurd hk (by omega)
theorem zin5 : ∀ w ∈ u_ws "ConstantFlow$Machine" zT5 4, w ∈ zWD := by
  intro w hw
  obtain ⟨k, hk, rfl⟩ := List.mem_map.mp hw
  rw [List.mem_range] at hk
  match k, hk with
  | 0, _ => exact mw_1_136
  | 1, _ => exact mw_1_138
  | 2, _ => exact mw_1_140
  | 3, _ => exact mw_1_142
  | k + 4, hk => exact absurd hk (by omega)
theorem zin6 : ∀ w ∈ u_ws "ConstantFlow$Program" zT6 9, w ∈ zWD := by
  intro w hw
  obtain ⟨k, hk, rfl⟩ := List.mem_map.mp hw
  rw [List.mem_range] at hk
  match k, hk with
  | 0, _ => exact mw_1_184
  | 1, _ => exact mw_1_186
  | 2, _ => exact mw_1_188
  | 3, _ => exact mw_1_190
  | 4, _ => exact mw_1_192
  | 5, _ => exact mw_1_194
  | 6, _ => exact mw_1_196
  | 7, _ => exact mw_1_198
  | 8, _ => exact mw_1_200
  | k + 9, hk => exact absurd hk (by omega)
theorem zin7 : ∀ w ∈ u_ws "ConstantFlowModel" zT7 33, w ∈ zWD := by
  intro w hw
  obtain ⟨k, hk, rfl⟩ := List.mem_map.mp hw
  rw [List.mem_range] at hk
  match k, hk with
  | 0, _ => exact mw_3_218
  | 1, _ => exact mw_3_220
  | 2, _ => exact mw_3_222
  | 3, _ => exact mw_3_224
  | 4, _ => exact mw_3_226
  | 5, _ => exact mw_3_228
  | 6, _ => exact mw_3_230
  | 7, _ => exact mw_3_232
  | 8, _ => exact mw_3_234
  | 9, _ => exact mw_3_236
  | 10, _ => exact mw_3_238
  | 11, _ => exact mw_4_0
  | 12, _ => exact mw_4_2
  | 13, _ => exact mw_4_4
  | 14, _ => exact mw_4_6
  | 15, _ => exact mw_4_8
  | 16, _ => exact mw_4_10
  | 17, _ => exact mw_4_12
  | 18, _ => exact mw_4_14
  | 19, _ => exact mw_4_16
  | 20, _ => exact mw_4_18
  | 21, _ => exact mw_4_20
  | 22, _ => exact mw_4_22
  | 23, _ => exact mw_4_24
  | 24, _ => exact mw_4_26
  | 25, _ => exact mw_4_28
  | 26, _ => exact mw_4_30
  | 27, _ => exact mw_4_32
  | 28, _ => exact mw_4_34
  | 29, _ => exact mw_4_36
  | 30, _ => exact mw_4_38
  | 31, _ => exact mw_4_40
  | 32, _ => exact mw_4_42
  | k + 33, hk => exact absurd hk (by omega)
theorem zin : ∀ ci, ci < 8 → ∀ w ∈ u_ws (zCn ci) (zFT ci) (znf ci), w ∈ zWD
  | 0, _ => zin0
  | 1, _ => zin1
  | 2, _ => zin2
  | 3, _ => zin3
  | 4, _ => zin4
  | 5, _ => zin5
  | 6, _ => zin6
  | 7, _ => zin7
  | _ + 8, h => absurd h (by omega)
