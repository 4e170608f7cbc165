def F_Row : u_T := fun k => match k with
  | _ => ("FieldRows$Row", "bytes", "[B", true)
def t_Row : Nat → FieldType := fun k => match k with
  | _ => .array .byte
theorem n_Row : ∀ a, a < 1 → ∀ b, b < 1 → a ≠ b → (F_Row a).2.1 ≠ (F_Row b).2.1 := by decide +kernel
theorem t_Row_ok : ∀ k, k < 1 → parseFieldDescriptor (F_Row k).2.2.1 = some (t_Row k) := by decide +kernel
def F_Vol : u_T := fun k => match k with
  | 0 => ("FieldRows$Volume", "files", "J", false)
  | 1 => ("FieldRows$Volume", "blocks", "J", false)
  | 2 => ("FieldRows$Volume", "first", "J", false)
  | 3 => ("FieldRows$Volume", "shift", "J", false)
  | 4 => ("FieldRows$Volume", "size", "J", false)
  | 5 => ("FieldRows$Volume", "groupBlocks", "J", false)
  | 6 => ("FieldRows$Volume", "groupFiles", "J", false)
  | 7 => ("FieldRows$Volume", "recordBytes", "J", false)
  | 8 => ("FieldRows$Volume", "fewCopies", "Z", false)
  | 9 => ("FieldRows$Volume", "groupCount", "J", false)
  | 10 => ("FieldRows$Volume", "copyBlocks", "J", false)
  | _ => ("FieldRows$Volume", "recordBlocks", "J", false)
def t_Vol : Nat → FieldType := fun k => match k with
  | 0 => .long
  | 1 => .long
  | 2 => .long
  | 3 => .long
  | 4 => .long
  | 5 => .long
  | 6 => .long
  | 7 => .long
  | 8 => .boolean
  | 9 => .long
  | 10 => .long
  | _ => .long
theorem n_Vol : ∀ a, a < 12 → ∀ b, b < 12 → a ≠ b → (F_Vol a).2.1 ≠ (F_Vol b).2.1 := by decide +kernel
theorem t_Vol_ok : ∀ k, k < 12 → parseFieldDescriptor (F_Vol k).2.2.1 = some (t_Vol k) := by decide +kernel
def F_FR : u_T := fun k => match k with
  | 0 => ("FieldRows", "row0", "LFieldRows$Row;", true)
  | 1 => ("FieldRows", "row1", "LFieldRows$Row;", true)
  | 2 => ("FieldRows", "trial", "LFieldRows$Row;", true)
  | _ => ("FieldRows", "volume", "LFieldRows$Volume;", true)
def t_FR : Nat → FieldType := fun k => match k with
  | 0 => .object "FieldRows$Row"
  | 1 => .object "FieldRows$Row"
  | 2 => .object "FieldRows$Row"
  | _ => .object "FieldRows$Volume"
theorem n_FR : ∀ a, a < 4 → ∀ b, b < 4 → a ≠ b → (F_FR a).2.1 ≠ (F_FR b).2.1 := by decide +kernel
theorem t_FR_ok : ∀ k, k < 4 → parseFieldDescriptor (F_FR k).2.2.1 = some (t_FR k) := by decide +kernel
def F_Mo : u_T := fun k => match k with
  | 0 => ("FieldRowsModel", "first", "[I", true)
  | 1 => ("FieldRowsModel", "second", "[I", true)
  | _ => ("FieldRowsModel", "draft", "[I", true)
def t_Mo : Nat → FieldType := fun k => match k with
  | 0 => .array .int
  | 1 => .array .int
  | _ => .array .int
theorem n_Mo : ∀ a, a < 3 → ∀ b, b < 3 → a ≠ b → (F_Mo a).2.1 ≠ (F_Mo b).2.1 := by decide +kernel
theorem t_Mo_ok : ∀ k, k < 3 → parseFieldDescriptor (F_Mo k).2.2.1 = some (t_Mo k) := by decide +kernel
abbrev vwCl : List vw_C := [("FieldRows$Row", F_Row, 1), ("FieldRows$Volume", F_Vol, 12), ("FieldRows", F_FR, 4), ("FieldRowsModel", F_Mo, 3)]
def kw_ : List Cond := lw_tbl.filter goodWord
theorem kw_in : ∀ w ∈ kw_, w ∈ lw_tbl := fun w h => (List.mem_filter.mp h).1
theorem kw_1 {w : Cond} (i : Nat) (h : tables_1_1[i]? = some w) (g : goodWord w = true) {c : Cond} : w ∈ c :: kw_ := List.mem_cons_of_mem _ (List.mem_filter.mpr ⟨List.mem_append_right _ (List.mem_append_left _ (List.mem_of_getElem? h)), g⟩)
theorem kw_2 {w : Cond} (i : Nat) (h : tables_1_2[i]? = some w) (g : goodWord w = true) {c : Cond} : w ∈ c :: kw_ := List.mem_cons_of_mem _ (List.mem_filter.mpr ⟨List.mem_append_right _ (List.mem_append_right _ (List.mem_of_getElem? h)), g⟩)
theorem kw_0 {w : Cond} (i : Nat) (h : (k2_sels lw_privs)[i]? = some w) (g : goodWord w = true) {c : Cond} : w ∈ c :: kw_ := List.mem_cons_of_mem _ (List.mem_filter.mpr ⟨List.mem_append_left _ (List.mem_of_getElem? h), g⟩)
theorem kw_gi {c c2 : Cond} (h : c2 ∈ c2 :: kw_ → c2 ∈ kw_) : GoodIn (c :: kw_) (c2 :: kw_) := fun w hw => by
  have h1 : w ∈ kw_ := by
    rcases List.mem_cons.mp hw with h2 | h2
    · rw [h2]; exact h List.mem_cons_self
    · exact h2
  exact ⟨List.mem_cons_of_mem _ h1, good_of_word (List.mem_filter.mp h1).2⟩
theorem kw_g1 {w : Cond} (i : Nat) (h : tables_1_1[i]? = some w) (g : goodWord w = true) {c : Cond} : GoodIn (c :: kw_) (w :: kw_) := kw_gi (fun _ => List.mem_filter.mpr ⟨List.mem_append_right _ (List.mem_append_left _ (List.mem_of_getElem? h)), g⟩)
theorem kw_g2 {w : Cond} (i : Nat) (h : tables_1_2[i]? = some w) (g : goodWord w = true) {c : Cond} : GoodIn (c :: kw_) (w :: kw_) := kw_gi (fun _ => List.mem_filter.mpr ⟨List.mem_append_right _ (List.mem_append_right _ (List.mem_of_getElem? h)), g⟩)
def y_FR_init : MethodName := ⟨"FieldRows", "<init>", "()V"⟩
abbrev b_FR_init : ByteArray := prog_1_method_1_code
abbrev w_FR_init : List Cond := .code y_FR_init b_FR_init 1 none :: kw_
theorem g_FR_init {c : Cond} : GoodIn (c :: kw_) w_FR_init := kw_g1 10 rfl rfl
theorem h_FR_init : y_FR_init.cls ≠ "java/lang/invoke/MethodHandle" ∧ y_FR_init.cls ≠ "java/lang/invoke/VarHandle" ∧ (parseMethodDescriptor y_FR_init.desc).map (fun d => d.parameters.length) = some 0 := by decide +kernel
def y_FR_lay : MethodName := ⟨"FieldRows", "lay", "(IIIII)I"⟩
abbrev b_FR_lay : ByteArray := prog_1_method_2_code
abbrev w_FR_lay : List Cond := .code y_FR_lay b_FR_lay 6 (some .int) :: kw_
theorem g_FR_lay {c : Cond} : GoodIn (c :: kw_) w_FR_lay := kw_g1 77 rfl rfl
theorem h_FR_lay : y_FR_lay.cls ≠ "java/lang/invoke/MethodHandle" ∧ y_FR_lay.cls ≠ "java/lang/invoke/VarHandle" ∧ (parseMethodDescriptor y_FR_lay.desc).map (fun d => d.parameters.length) = some 5 := by decide +kernel
def y_FR_poke : MethodName := ⟨"FieldRows", "poke", "(III)I"⟩
abbrev b_FR_poke : ByteArray := prog_1_method_3_code
abbrev w_FR_poke : List Cond := .code y_FR_poke b_FR_poke 6 (some .int) :: kw_
theorem g_FR_poke {c : Cond} : GoodIn (c :: kw_) w_FR_poke := kw_g1 225 rfl rfl
theorem h_FR_poke : y_FR_poke.cls ≠ "java/lang/invoke/MethodHandle" ∧ y_FR_poke.cls ≠ "java/lang/invoke/VarHandle" ∧ (parseMethodDescriptor y_FR_poke.desc).map (fun d => d.parameters.length) = some 3 := by decide +kernel
def y_FR_put : MethodName := ⟨"FieldRows", "put", "(IIII)I"⟩
abbrev b_FR_put : ByteArray := prog_1_method_4_code
abbrev w_FR_put : List Cond := .code y_FR_put b_FR_put 6 (some .int) :: kw_
theorem g_FR_put {c : Cond} : GoodIn (c :: kw_) w_FR_put := kw_g1 235 rfl rfl
theorem h_FR_put : y_FR_put.cls ≠ "java/lang/invoke/MethodHandle" ∧ y_FR_put.cls ≠ "java/lang/invoke/VarHandle" ∧ (parseMethodDescriptor y_FR_put.desc).map (fun d => d.parameters.length) = some 4 := by decide +kernel
def y_FR_get : MethodName := ⟨"FieldRows", "get", "(III)J"⟩
abbrev b_FR_get : ByteArray := prog_1_method_5_code
abbrev w_FR_get : List Cond := .code y_FR_get b_FR_get 5 (some .long) :: kw_
theorem g_FR_get {c : Cond} : GoodIn (c :: kw_) w_FR_get := kw_g1 239 rfl rfl
theorem h_FR_get : y_FR_get.cls ≠ "java/lang/invoke/MethodHandle" ∧ y_FR_get.cls ≠ "java/lang/invoke/VarHandle" ∧ (parseMethodDescriptor y_FR_get.desc).map (fun d => d.parameters.length) = some 3 := by decide +kernel
def y_FR_fault : MethodName := ⟨"FieldRows", "fault", "(I)I"⟩
abbrev b_FR_fault : ByteArray := prog_1_method_6_code
abbrev w_FR_fault : List Cond := .code y_FR_fault b_FR_fault 3 (some .int) :: kw_
theorem g_FR_fault {c : Cond} : GoodIn (c :: kw_) w_FR_fault := kw_g2 4 rfl rfl
theorem h_FR_fault : y_FR_fault.cls ≠ "java/lang/invoke/MethodHandle" ∧ y_FR_fault.cls ≠ "java/lang/invoke/VarHandle" ∧ (parseMethodDescriptor y_FR_fault.desc).map (fun d => d.parameters.length) = some 1 := by decide +kernel
def y_FR_copy : MethodName := ⟨"FieldRows", "copy", "(I)I"⟩
abbrev b_FR_copy : ByteArray := prog_1_method_7_code
abbrev w_FR_copy : List Cond := .code y_FR_copy b_FR_copy 2 (some .int) :: kw_
theorem g_FR_copy {c : Cond} : GoodIn (c :: kw_) w_FR_copy := kw_g2 8 rfl rfl
theorem h_FR_copy : y_FR_copy.cls ≠ "java/lang/invoke/MethodHandle" ∧ y_FR_copy.cls ≠ "java/lang/invoke/VarHandle" ∧ (parseMethodDescriptor y_FR_copy.desc).map (fun d => d.parameters.length) = some 1 := by decide +kernel
def y_FR_differs : MethodName := ⟨"FieldRows", "differs", "()I"⟩
abbrev b_FR_differs : ByteArray := prog_1_method_8_code
abbrev w_FR_differs : List Cond := .code y_FR_differs b_FR_differs 2 (some .int) :: kw_
theorem g_FR_differs {c : Cond} : GoodIn (c :: kw_) w_FR_differs := kw_g2 17 rfl rfl
theorem h_FR_differs : y_FR_differs.cls ≠ "java/lang/invoke/MethodHandle" ∧ y_FR_differs.cls ≠ "java/lang/invoke/VarHandle" ∧ (parseMethodDescriptor y_FR_differs.desc).map (fun d => d.parameters.length) = some 0 := by decide +kernel
def y_FR_groups : MethodName := ⟨"FieldRows", "groups", "()I"⟩
abbrev b_FR_groups : ByteArray := prog_1_method_9_code
abbrev w_FR_groups : List Cond := .code y_FR_groups b_FR_groups 1 (some .int) :: kw_
theorem g_FR_groups {c : Cond} : GoodIn (c :: kw_) w_FR_groups := kw_g2 26 rfl rfl
theorem h_FR_groups : y_FR_groups.cls ≠ "java/lang/invoke/MethodHandle" ∧ y_FR_groups.cls ≠ "java/lang/invoke/VarHandle" ∧ (parseMethodDescriptor y_FR_groups.desc).map (fun d => d.parameters.length) = some 0 := by decide +kernel
def y_FR_where : MethodName := ⟨"FieldRows", "where", "(II)I"⟩
abbrev b_FR_where : ByteArray := prog_1_method_10_code
abbrev w_FR_where : List Cond := .code y_FR_where b_FR_where 3 (some .int) :: kw_
theorem g_FR_where {c : Cond} : GoodIn (c :: kw_) w_FR_where := kw_g2 30 rfl rfl
theorem h_FR_where : y_FR_where.cls ≠ "java/lang/invoke/MethodHandle" ∧ y_FR_where.cls ≠ "java/lang/invoke/VarHandle" ∧ (parseMethodDescriptor y_FR_where.desc).map (fun d => d.parameters.length) = some 2 := by decide +kernel
def y_FR_record : MethodName := ⟨"FieldRows", "record", "(IZ)I"⟩
abbrev b_FR_record : ByteArray := prog_1_method_11_code
abbrev w_FR_record : List Cond := .code y_FR_record b_FR_record 11 (some .int) :: kw_
theorem g_FR_record {c : Cond} : GoodIn (c :: kw_) w_FR_record := kw_g2 51 rfl rfl
theorem h_FR_record : y_FR_record.cls ≠ "java/lang/invoke/MethodHandle" ∧ y_FR_record.cls ≠ "java/lang/invoke/VarHandle" ∧ (parseMethodDescriptor y_FR_record.desc).map (fun d => d.parameters.length) = some 2 := by decide +kernel
def y_FR_rowOf : MethodName := ⟨"FieldRows", "rowOf", "(I)LFieldRows$Row;"⟩
abbrev b_FR_rowOf : ByteArray := prog_1_method_12_code
abbrev w_FR_rowOf : List Cond := .code y_FR_rowOf b_FR_rowOf 2 (some (.object "FieldRows$Row")) :: kw_
theorem g_FR_rowOf {c : Cond} : GoodIn (c :: kw_) w_FR_rowOf := kw_g1 229 rfl rfl
theorem h_FR_rowOf : y_FR_rowOf.cls ≠ "java/lang/invoke/MethodHandle" ∧ y_FR_rowOf.cls ≠ "java/lang/invoke/VarHandle" ∧ (parseMethodDescriptor y_FR_rowOf.desc).map (fun d => d.parameters.length) = some 1 := by decide +kernel
def y_FR_isGroupOfRightRow : MethodName := ⟨"FieldRows", "isGroupOfRightRow", "(I)Z"⟩
abbrev b_FR_isGroupOfRightRow : ByteArray := prog_1_method_13_code
abbrev w_FR_isGroupOfRightRow : List Cond := .code y_FR_isGroupOfRightRow b_FR_isGroupOfRightRow 2 (some .boolean) :: kw_
theorem g_FR_isGroupOfRightRow {c : Cond} : GoodIn (c :: kw_) w_FR_isGroupOfRightRow := kw_g2 12 rfl rfl
theorem h_FR_isGroupOfRightRow : y_FR_isGroupOfRightRow.cls ≠ "java/lang/invoke/MethodHandle" ∧ y_FR_isGroupOfRightRow.cls ≠ "java/lang/invoke/VarHandle" ∧ (parseMethodDescriptor y_FR_isGroupOfRightRow.desc).map (fun d => d.parameters.length) = some 1 := by decide +kernel
def y_FR_isField : MethodName := ⟨"FieldRows", "isField", "(II)Z"⟩
abbrev b_FR_isField : ByteArray := prog_1_method_14_code
abbrev w_FR_isField : List Cond := .code y_FR_isField b_FR_isField 2 (some .boolean) :: kw_
theorem g_FR_isField {c : Cond} : GoodIn (c :: kw_) w_FR_isField := kw_g1 94 rfl rfl
theorem h_FR_isField : y_FR_isField.cls ≠ "java/lang/invoke/MethodHandle" ∧ y_FR_isField.cls ≠ "java/lang/invoke/VarHandle" ∧ (parseMethodDescriptor y_FR_isField.desc).map (fun d => d.parameters.length) = some 2 := by decide +kernel
def y_FR_isFollowed : MethodName := ⟨"FieldRows", "isFollowed", "(I)Z"⟩
abbrev b_FR_isFollowed : ByteArray := prog_1_method_15_code
abbrev w_FR_isFollowed : List Cond := .code y_FR_isFollowed b_FR_isFollowed 2 (some .boolean) :: kw_
theorem g_FR_isFollowed {c : Cond} : GoodIn (c :: kw_) w_FR_isFollowed := kw_g2 20 rfl rfl
theorem h_FR_isFollowed : y_FR_isFollowed.cls ≠ "java/lang/invoke/MethodHandle" ∧ y_FR_isFollowed.cls ≠ "java/lang/invoke/VarHandle" ∧ (parseMethodDescriptor y_FR_isFollowed.desc).map (fun d => d.parameters.length) = some 1 := by decide +kernel
def y_FR_firstFor : MethodName := ⟨"FieldRows", "firstFor", "(J)I"⟩
abbrev b_FR_firstFor : ByteArray := prog_1_method_16_code
abbrev w_FR_firstFor : List Cond := .code y_FR_firstFor b_FR_firstFor 2 (some .int) :: kw_
theorem g_FR_firstFor {c : Cond} : GoodIn (c :: kw_) w_FR_firstFor := kw_g1 104 rfl rfl
theorem h_FR_firstFor : y_FR_firstFor.cls ≠ "java/lang/invoke/MethodHandle" ∧ y_FR_firstFor.cls ≠ "java/lang/invoke/VarHandle" ∧ (parseMethodDescriptor y_FR_firstFor.desc).map (fun d => d.parameters.length) = some 1 := by decide +kernel
def y_FR_isEightfold : MethodName := ⟨"FieldRows", "isEightfold", "(JJJ)Z"⟩
abbrev b_FR_isEightfold : ByteArray := prog_1_method_17_code
abbrev w_FR_isEightfold : List Cond := .code y_FR_isEightfold b_FR_isEightfold 6 (some .boolean) :: kw_
theorem g_FR_isEightfold {c : Cond} : GoodIn (c :: kw_) w_FR_isEightfold := kw_g1 142 rfl rfl
theorem h_FR_isEightfold : y_FR_isEightfold.cls ≠ "java/lang/invoke/MethodHandle" ∧ y_FR_isEightfold.cls ≠ "java/lang/invoke/VarHandle" ∧ (parseMethodDescriptor y_FR_isEightfold.desc).map (fun d => d.parameters.length) = some 3 := by decide +kernel
def y_FR_isRecordLength : MethodName := ⟨"FieldRows", "isRecordLength", "(J)Z"⟩
abbrev b_FR_isRecordLength : ByteArray := prog_1_method_18_code
abbrev w_FR_isRecordLength : List Cond := .code y_FR_isRecordLength b_FR_isRecordLength 2 (some .boolean) :: kw_
theorem g_FR_isRecordLength {c : Cond} : GoodIn (c :: kw_) w_FR_isRecordLength := kw_g1 146 rfl rfl
theorem h_FR_isRecordLength : y_FR_isRecordLength.cls ≠ "java/lang/invoke/MethodHandle" ∧ y_FR_isRecordLength.cls ≠ "java/lang/invoke/VarHandle" ∧ (parseMethodDescriptor y_FR_isRecordLength.desc).map (fun d => d.parameters.length) = some 1 := by decide +kernel
def y_FR_quotient : MethodName := ⟨"FieldRows", "quotient", "(JJ)J"⟩
abbrev b_FR_quotient : ByteArray := prog_1_method_19_code
abbrev w_FR_quotient : List Cond := .code y_FR_quotient b_FR_quotient 4 (some .long) :: kw_
theorem g_FR_quotient {c : Cond} : GoodIn (c :: kw_) w_FR_quotient := kw_g1 120 rfl rfl
theorem h_FR_quotient : y_FR_quotient.cls ≠ "java/lang/invoke/MethodHandle" ∧ y_FR_quotient.cls ≠ "java/lang/invoke/VarHandle" ∧ (parseMethodDescriptor y_FR_quotient.desc).map (fun d => d.parameters.length) = some 2 := by decide +kernel
def y_FR_quotientUp : MethodName := ⟨"FieldRows", "quotientUp", "(JJ)J"⟩
abbrev b_FR_quotientUp : ByteArray := prog_1_method_20_code
abbrev w_FR_quotientUp : List Cond := .code y_FR_quotientUp b_FR_quotientUp 4 (some .long) :: kw_
theorem g_FR_quotientUp {c : Cond} : GoodIn (c :: kw_) w_FR_quotientUp := kw_g1 117 rfl rfl
theorem h_FR_quotientUp : y_FR_quotientUp.cls ≠ "java/lang/invoke/MethodHandle" ∧ y_FR_quotientUp.cls ≠ "java/lang/invoke/VarHandle" ∧ (parseMethodDescriptor y_FR_quotientUp.desc).map (fun d => d.parameters.length) = some 2 := by decide +kernel
def y_Mo_init : MethodName := ⟨"FieldRowsModel", "<init>", "()V"⟩
abbrev b_Mo_init : ByteArray := prog_5_method_1_code
abbrev w_Mo_init : List Cond := .code y_Mo_init b_Mo_init 2 none :: kw_
theorem g_Mo_init {c : Cond} : GoodIn (c :: kw_) w_Mo_init := kw_g2 56 rfl rfl
theorem h_Mo_init : y_Mo_init.cls ≠ "java/lang/invoke/MethodHandle" ∧ y_Mo_init.cls ≠ "java/lang/invoke/VarHandle" ∧ (parseMethodDescriptor y_Mo_init.desc).map (fun d => d.parameters.length) = some 0 := by decide +kernel
def y_Mo_rowOf : MethodName := ⟨"FieldRowsModel", "rowOf", "(I)[I"⟩
abbrev b_Mo_rowOf : ByteArray := prog_5_method_3_code
abbrev w_Mo_rowOf : List Cond := .code y_Mo_rowOf b_Mo_rowOf 2 (some (.array .int)) :: kw_
theorem g_Mo_rowOf {c : Cond} : GoodIn (c :: kw_) w_Mo_rowOf := kw_g2 166 rfl rfl
theorem h_Mo_rowOf : y_Mo_rowOf.cls ≠ "java/lang/invoke/MethodHandle" ∧ y_Mo_rowOf.cls ≠ "java/lang/invoke/VarHandle" ∧ (parseMethodDescriptor y_Mo_rowOf.desc).map (fun d => d.parameters.length) = some 1 := by decide +kernel
def y_Mo_isRow : MethodName := ⟨"FieldRowsModel", "isRow", "(I)Z"⟩
abbrev b_Mo_isRow : ByteArray := prog_5_method_4_code
abbrev w_Mo_isRow : List Cond := .code y_Mo_isRow b_Mo_isRow 1 (some .boolean) :: kw_
theorem g_Mo_isRow {c : Cond} : GoodIn (c :: kw_) w_Mo_isRow := kw_g2 162 rfl rfl
theorem h_Mo_isRow : y_Mo_isRow.cls ≠ "java/lang/invoke/MethodHandle" ∧ y_Mo_isRow.cls ≠ "java/lang/invoke/VarHandle" ∧ (parseMethodDescriptor y_Mo_isRow.desc).map (fun d => d.parameters.length) = some 1 := by decide +kernel
def y_Mo_field : MethodName := ⟨"FieldRowsModel", "field", "([III)J"⟩
abbrev b_Mo_field : ByteArray := prog_5_method_5_code
abbrev w_Mo_field : List Cond := .code y_Mo_field b_Mo_field 6 (some .long) :: kw_
theorem g_Mo_field {c : Cond} : GoodIn (c :: kw_) w_Mo_field := kw_g2 78 rfl rfl
theorem h_Mo_field : y_Mo_field.cls ≠ "java/lang/invoke/MethodHandle" ∧ y_Mo_field.cls ≠ "java/lang/invoke/VarHandle" ∧ (parseMethodDescriptor y_Mo_field.desc).map (fun d => d.parameters.length) = some 3 := by decide +kernel
def y_Mo_set : MethodName := ⟨"FieldRowsModel", "set", "([IIIJ)V"⟩
abbrev b_Mo_set : ByteArray := prog_5_method_6_code
abbrev w_Mo_set : List Cond := .code y_Mo_set b_Mo_set 6 none :: kw_
theorem g_Mo_set {c : Cond} : GoodIn (c :: kw_) w_Mo_set := kw_g2 64 rfl rfl
theorem h_Mo_set : y_Mo_set.cls ≠ "java/lang/invoke/MethodHandle" ∧ y_Mo_set.cls ≠ "java/lang/invoke/VarHandle" ∧ (parseMethodDescriptor y_Mo_set.desc).map (fun d => d.parameters.length) = some 4 := by decide +kernel
def y_Mo_has : MethodName := ⟨"FieldRowsModel", "has", "([III)Z"⟩
abbrev b_Mo_has : ByteArray := prog_5_method_7_code
abbrev w_Mo_has : List Cond := .code y_Mo_has b_Mo_has 3 (some .boolean) :: kw_
theorem g_Mo_has {c : Cond} : GoodIn (c :: kw_) w_Mo_has := kw_g2 125 rfl rfl
theorem h_Mo_has : y_Mo_has.cls ≠ "java/lang/invoke/MethodHandle" ∧ y_Mo_has.cls ≠ "java/lang/invoke/VarHandle" ∧ (parseMethodDescriptor y_Mo_has.desc).map (fun d => d.parameters.length) = some 3 := by decide +kernel
def y_Mo_up : MethodName := ⟨"FieldRowsModel", "up", "(JJ)J"⟩
abbrev b_Mo_up : ByteArray := prog_5_method_8_code
abbrev w_Mo_up : List Cond := .code y_Mo_up b_Mo_up 4 (some .long) :: kw_
theorem g_Mo_up {c : Cond} : GoodIn (c :: kw_) w_Mo_up := kw_g2 82 rfl rfl
theorem h_Mo_up : y_Mo_up.cls ≠ "java/lang/invoke/MethodHandle" ∧ y_Mo_up.cls ≠ "java/lang/invoke/VarHandle" ∧ (parseMethodDescriptor y_Mo_up.desc).map (fun d => d.parameters.length) = some 2 := by decide +kernel
def y_Mo_sizeOf : MethodName := ⟨"FieldRowsModel", "sizeOf", "([I)J"⟩
abbrev b_Mo_sizeOf : ByteArray := prog_5_method_9_code
abbrev w_Mo_sizeOf : List Cond := .code y_Mo_sizeOf b_Mo_sizeOf 1 (some .long) :: kw_
theorem g_Mo_sizeOf {c : Cond} : GoodIn (c :: kw_) w_Mo_sizeOf := kw_g2 92 rfl rfl
theorem h_Mo_sizeOf : y_Mo_sizeOf.cls ≠ "java/lang/invoke/MethodHandle" ∧ y_Mo_sizeOf.cls ≠ "java/lang/invoke/VarHandle" ∧ (parseMethodDescriptor y_Mo_sizeOf.desc).map (fun d => d.parameters.length) = some 1 := by decide +kernel
def y_Mo_groupsOf : MethodName := ⟨"FieldRowsModel", "groupsOf", "([I)J"⟩
abbrev b_Mo_groupsOf : ByteArray := prog_5_method_10_code
abbrev w_Mo_groupsOf : List Cond := .code y_Mo_groupsOf b_Mo_groupsOf 1 (some .long) :: kw_
theorem g_Mo_groupsOf {c : Cond} : GoodIn (c :: kw_) w_Mo_groupsOf := kw_g2 75 rfl rfl
theorem h_Mo_groupsOf : y_Mo_groupsOf.cls ≠ "java/lang/invoke/MethodHandle" ∧ y_Mo_groupsOf.cls ≠ "java/lang/invoke/VarHandle" ∧ (parseMethodDescriptor y_Mo_groupsOf.desc).map (fun d => d.parameters.length) = some 1 := by decide +kernel
def y_Mo_isPower : MethodName := ⟨"FieldRowsModel", "isPower", "(JJ)Z"⟩
abbrev b_Mo_isPower : ByteArray := prog_5_method_11_code
abbrev w_Mo_isPower : List Cond := .code y_Mo_isPower b_Mo_isPower 6 (some .boolean) :: kw_
theorem g_Mo_isPower {c : Cond} : GoodIn (c :: kw_) w_Mo_isPower := kw_g2 128 rfl rfl
theorem h_Mo_isPower : y_Mo_isPower.cls ≠ "java/lang/invoke/MethodHandle" ∧ y_Mo_isPower.cls ≠ "java/lang/invoke/VarHandle" ∧ (parseMethodDescriptor y_Mo_isPower.desc).map (fun d => d.parameters.length) = some 2 := by decide +kernel
def y_Mo_hasCopy : MethodName := ⟨"FieldRowsModel", "hasCopy", "([IJ)Z"⟩
abbrev b_Mo_hasCopy : ByteArray := prog_5_method_12_code
abbrev w_Mo_hasCopy : List Cond := .code y_Mo_hasCopy b_Mo_hasCopy 3 (some .boolean) :: kw_
theorem g_Mo_hasCopy {c : Cond} : GoodIn (c :: kw_) w_Mo_hasCopy := kw_g2 122 rfl rfl
theorem h_Mo_hasCopy : y_Mo_hasCopy.cls ≠ "java/lang/invoke/MethodHandle" ∧ y_Mo_hasCopy.cls ≠ "java/lang/invoke/VarHandle" ∧ (parseMethodDescriptor y_Mo_hasCopy.desc).map (fun d => d.parameters.length) = some 2 := by decide +kernel
def y_Mo_beginOf : MethodName := ⟨"FieldRowsModel", "beginOf", "([IJ)J"⟩
abbrev b_Mo_beginOf : ByteArray := prog_5_method_13_code
abbrev w_Mo_beginOf : List Cond := .code y_Mo_beginOf b_Mo_beginOf 3 (some .long) :: kw_
theorem g_Mo_beginOf {c : Cond} : GoodIn (c :: kw_) w_Mo_beginOf := kw_g2 113 rfl rfl
theorem h_Mo_beginOf : y_Mo_beginOf.cls ≠ "java/lang/invoke/MethodHandle" ∧ y_Mo_beginOf.cls ≠ "java/lang/invoke/VarHandle" ∧ (parseMethodDescriptor y_Mo_beginOf.desc).map (fun d => d.parameters.length) = some 2 := by decide +kernel
def y_Mo_blocksOf : MethodName := ⟨"FieldRowsModel", "blocksOf", "([IJ)J"⟩
abbrev b_Mo_blocksOf : ByteArray := prog_5_method_14_code
abbrev w_Mo_blocksOf : List Cond := .code y_Mo_blocksOf b_Mo_blocksOf 5 (some .long) :: kw_
theorem g_Mo_blocksOf {c : Cond} : GoodIn (c :: kw_) w_Mo_blocksOf := kw_g2 110 rfl rfl
theorem h_Mo_blocksOf : y_Mo_blocksOf.cls ≠ "java/lang/invoke/MethodHandle" ∧ y_Mo_blocksOf.cls ≠ "java/lang/invoke/VarHandle" ∧ (parseMethodDescriptor y_Mo_blocksOf.desc).map (fun d => d.parameters.length) = some 2 := by decide +kernel
def y_Mo_headOf : MethodName := ⟨"FieldRowsModel", "headOf", "([IJ)J"⟩
abbrev b_Mo_headOf : ByteArray := prog_5_method_15_code
abbrev w_Mo_headOf : List Cond := .code y_Mo_headOf b_Mo_headOf 3 (some .long) :: kw_
theorem g_Mo_headOf {c : Cond} : GoodIn (c :: kw_) w_Mo_headOf := kw_g2 119 rfl rfl
theorem h_Mo_headOf : y_Mo_headOf.cls ≠ "java/lang/invoke/MethodHandle" ∧ y_Mo_headOf.cls ≠ "java/lang/invoke/VarHandle" ∧ (parseMethodDescriptor y_Mo_headOf.desc).map (fun d => d.parameters.length) = some 2 := by decide +kernel
def y_Mo_recordBlocks : MethodName := ⟨"FieldRowsModel", "recordBlocks", "([I)J"⟩
abbrev b_Mo_recordBlocks : ByteArray := prog_5_method_16_code
abbrev w_Mo_recordBlocks : List Cond := .code y_Mo_recordBlocks b_Mo_recordBlocks 1 (some .long) :: kw_
theorem g_Mo_recordBlocks {c : Cond} : GoodIn (c :: kw_) w_Mo_recordBlocks := kw_g2 134 rfl rfl
theorem h_Mo_recordBlocks : y_Mo_recordBlocks.cls ≠ "java/lang/invoke/MethodHandle" ∧ y_Mo_recordBlocks.cls ≠ "java/lang/invoke/VarHandle" ∧ (parseMethodDescriptor y_Mo_recordBlocks.desc).map (fun d => d.parameters.length) = some 1 := by decide +kernel
def y_Mo_fixedOf : MethodName := ⟨"FieldRowsModel", "fixedOf", "([IJ)J"⟩
abbrev b_Mo_fixedOf : ByteArray := prog_5_method_17_code
abbrev w_Mo_fixedOf : List Cond := .code y_Mo_fixedOf b_Mo_fixedOf 3 (some .long) :: kw_
theorem g_Mo_fixedOf {c : Cond} : GoodIn (c :: kw_) w_Mo_fixedOf := kw_g2 116 rfl rfl
theorem h_Mo_fixedOf : y_Mo_fixedOf.cls ≠ "java/lang/invoke/MethodHandle" ∧ y_Mo_fixedOf.cls ≠ "java/lang/invoke/VarHandle" ∧ (parseMethodDescriptor y_Mo_fixedOf.desc).map (fun d => d.parameters.length) = some 2 := by decide +kernel
def y_Mo_isIn : MethodName := ⟨"FieldRowsModel", "isIn", "(JJJ)Z"⟩
abbrev b_Mo_isIn : ByteArray := prog_5_method_18_code
abbrev w_Mo_isIn : List Cond := .code y_Mo_isIn b_Mo_isIn 6 (some .boolean) :: kw_
theorem g_Mo_isIn {c : Cond} : GoodIn (c :: kw_) w_Mo_isIn := kw_g2 97 rfl rfl
theorem h_Mo_isIn : y_Mo_isIn.cls ≠ "java/lang/invoke/MethodHandle" ∧ y_Mo_isIn.cls ≠ "java/lang/invoke/VarHandle" ∧ (parseMethodDescriptor y_Mo_isIn.desc).map (fun d => d.parameters.length) = some 3 := by decide +kernel
def y_Mo_faultOfSizes : MethodName := ⟨"FieldRowsModel", "faultOfSizes", "([I)I"⟩
abbrev b_Mo_faultOfSizes : ByteArray := prog_5_method_19_code
abbrev w_Mo_faultOfSizes : List Cond := .code y_Mo_faultOfSizes b_Mo_faultOfSizes 11 (some .int) :: kw_
theorem g_Mo_faultOfSizes {c : Cond} : GoodIn (c :: kw_) w_Mo_faultOfSizes := kw_g2 88 rfl rfl
theorem h_Mo_faultOfSizes : y_Mo_faultOfSizes.cls ≠ "java/lang/invoke/MethodHandle" ∧ y_Mo_faultOfSizes.cls ≠ "java/lang/invoke/VarHandle" ∧ (parseMethodDescriptor y_Mo_faultOfSizes.desc).map (fun d => d.parameters.length) = some 1 := by decide +kernel
def y_Mo_areBlocksRight : MethodName := ⟨"FieldRowsModel", "areBlocksRight", "([I)Z"⟩
abbrev b_Mo_areBlocksRight : ByteArray := prog_5_method_20_code
abbrev w_Mo_areBlocksRight : List Cond := .code y_Mo_areBlocksRight b_Mo_areBlocksRight 6 (some .boolean) :: kw_
theorem g_Mo_areBlocksRight {c : Cond} : GoodIn (c :: kw_) w_Mo_areBlocksRight := kw_g2 106 rfl rfl
theorem h_Mo_areBlocksRight : y_Mo_areBlocksRight.cls ≠ "java/lang/invoke/MethodHandle" ∧ y_Mo_areBlocksRight.cls ≠ "java/lang/invoke/VarHandle" ∧ (parseMethodDescriptor y_Mo_areBlocksRight.desc).map (fun d => d.parameters.length) = some 1 := by decide +kernel
def y_Mo_faultOfCounts : MethodName := ⟨"FieldRowsModel", "faultOfCounts", "([I)I"⟩
abbrev b_Mo_faultOfCounts : ByteArray := prog_5_method_21_code
abbrev w_Mo_faultOfCounts : List Cond := .code y_Mo_faultOfCounts b_Mo_faultOfCounts 7 (some .int) :: kw_
theorem g_Mo_faultOfCounts {c : Cond} : GoodIn (c :: kw_) w_Mo_faultOfCounts := kw_g2 103 rfl rfl
theorem h_Mo_faultOfCounts : y_Mo_faultOfCounts.cls ≠ "java/lang/invoke/MethodHandle" ∧ y_Mo_faultOfCounts.cls ≠ "java/lang/invoke/VarHandle" ∧ (parseMethodDescriptor y_Mo_faultOfCounts.desc).map (fun d => d.parameters.length) = some 1 := by decide +kernel
def y_Mo_isListed : MethodName := ⟨"FieldRowsModel", "isListed", "(II)Z"⟩
abbrev b_Mo_isListed : ByteArray := prog_5_method_22_code
abbrev w_Mo_isListed : List Cond := .code y_Mo_isListed b_Mo_isListed 2 (some .boolean) :: kw_
theorem g_Mo_isListed {c : Cond} : GoodIn (c :: kw_) w_Mo_isListed := kw_g2 140 rfl rfl
theorem h_Mo_isListed : y_Mo_isListed.cls ≠ "java/lang/invoke/MethodHandle" ∧ y_Mo_isListed.cls ≠ "java/lang/invoke/VarHandle" ∧ (parseMethodDescriptor y_Mo_isListed.desc).map (fun d => d.parameters.length) = some 2 := by decide +kernel
def y_Mo_faultOfFeatures : MethodName := ⟨"FieldRowsModel", "faultOfFeatures", "([I)I"⟩
abbrev b_Mo_faultOfFeatures : ByteArray := prog_5_method_23_code
abbrev w_Mo_faultOfFeatures : List Cond := .code y_Mo_faultOfFeatures b_Mo_faultOfFeatures 3 (some .int) :: kw_
theorem g_Mo_faultOfFeatures {c : Cond} : GoodIn (c :: kw_) w_Mo_faultOfFeatures := kw_g2 137 rfl rfl
theorem h_Mo_faultOfFeatures : y_Mo_faultOfFeatures.cls ≠ "java/lang/invoke/MethodHandle" ∧ y_Mo_faultOfFeatures.cls ≠ "java/lang/invoke/VarHandle" ∧ (parseMethodDescriptor y_Mo_faultOfFeatures.desc).map (fun d => d.parameters.length) = some 1 := by decide +kernel
def y_Mo_faultOfRest : MethodName := ⟨"FieldRowsModel", "faultOfRest", "([I)I"⟩
abbrev b_Mo_faultOfRest : ByteArray := prog_5_method_24_code
abbrev w_Mo_faultOfRest : List Cond := .code y_Mo_faultOfRest b_Mo_faultOfRest 1 (some .int) :: kw_
theorem g_Mo_faultOfRest {c : Cond} : GoodIn (c :: kw_) w_Mo_faultOfRest := kw_g2 143 rfl rfl
theorem h_Mo_faultOfRest : y_Mo_faultOfRest.cls ≠ "java/lang/invoke/MethodHandle" ∧ y_Mo_faultOfRest.cls ≠ "java/lang/invoke/VarHandle" ∧ (parseMethodDescriptor y_Mo_faultOfRest.desc).map (fun d => d.parameters.length) = some 1 := by decide +kernel
def y_Mo_faultOf : MethodName := ⟨"FieldRowsModel", "faultOf", "([I)I"⟩
abbrev b_Mo_faultOf : ByteArray := prog_5_method_25_code
abbrev w_Mo_faultOf : List Cond := .code y_Mo_faultOf b_Mo_faultOf 2 (some .int) :: kw_
theorem g_Mo_faultOf {c : Cond} : GoodIn (c :: kw_) w_Mo_faultOf := kw_g2 85 rfl rfl
theorem h_Mo_faultOf : y_Mo_faultOf.cls ≠ "java/lang/invoke/MethodHandle" ∧ y_Mo_faultOf.cls ≠ "java/lang/invoke/VarHandle" ∧ (parseMethodDescriptor y_Mo_faultOf.desc).map (fun d => d.parameters.length) = some 1 := by decide +kernel
def y_Mo_isRight : MethodName := ⟨"FieldRowsModel", "isRight", "()Z"⟩
abbrev b_Mo_isRight : ByteArray := prog_5_method_26_code
abbrev w_Mo_isRight : List Cond := .code y_Mo_isRight b_Mo_isRight 1 (some .boolean) :: kw_
theorem g_Mo_isRight {c : Cond} : GoodIn (c :: kw_) w_Mo_isRight := kw_g2 190 rfl rfl
theorem h_Mo_isRight : y_Mo_isRight.cls ≠ "java/lang/invoke/MethodHandle" ∧ y_Mo_isRight.cls ≠ "java/lang/invoke/VarHandle" ∧ (parseMethodDescriptor y_Mo_isRight.desc).map (fun d => d.parameters.length) = some 0 := by decide +kernel
def y_Mo_lay : MethodName := ⟨"FieldRowsModel", "lay", "(IIIII)I"⟩
abbrev b_Mo_lay : ByteArray := prog_5_method_27_code
abbrev w_Mo_lay : List Cond := .code y_Mo_lay b_Mo_lay 7 (some .int) :: kw_
theorem g_Mo_lay {c : Cond} : GoodIn (c :: kw_) w_Mo_lay := kw_g2 61 rfl rfl
theorem h_Mo_lay : y_Mo_lay.cls ≠ "java/lang/invoke/MethodHandle" ∧ y_Mo_lay.cls ≠ "java/lang/invoke/VarHandle" ∧ (parseMethodDescriptor y_Mo_lay.desc).map (fun d => d.parameters.length) = some 5 := by decide +kernel
def y_Mo_poke : MethodName := ⟨"FieldRowsModel", "poke", "(III)I"⟩
abbrev b_Mo_poke : ByteArray := prog_5_method_28_code
abbrev w_Mo_poke : List Cond := .code y_Mo_poke b_Mo_poke 5 (some .int) :: kw_
theorem g_Mo_poke {c : Cond} : GoodIn (c :: kw_) w_Mo_poke := kw_g2 159 rfl rfl
theorem h_Mo_poke : y_Mo_poke.cls ≠ "java/lang/invoke/MethodHandle" ∧ y_Mo_poke.cls ≠ "java/lang/invoke/VarHandle" ∧ (parseMethodDescriptor y_Mo_poke.desc).map (fun d => d.parameters.length) = some 3 := by decide +kernel
def y_Mo_isField : MethodName := ⟨"FieldRowsModel", "isField", "(III)Z"⟩
abbrev b_Mo_isField : ByteArray := prog_5_method_29_code
abbrev w_Mo_isField : List Cond := .code y_Mo_isField b_Mo_isField 3 (some .boolean) :: kw_
theorem g_Mo_isField {c : Cond} : GoodIn (c :: kw_) w_Mo_isField := kw_g2 173 rfl rfl
theorem h_Mo_isField : y_Mo_isField.cls ≠ "java/lang/invoke/MethodHandle" ∧ y_Mo_isField.cls ≠ "java/lang/invoke/VarHandle" ∧ (parseMethodDescriptor y_Mo_isField.desc).map (fun d => d.parameters.length) = some 3 := by decide +kernel
def y_Mo_put : MethodName := ⟨"FieldRowsModel", "put", "(IIII)I"⟩
abbrev b_Mo_put : ByteArray := prog_5_method_30_code
abbrev w_Mo_put : List Cond := .code y_Mo_put b_Mo_put 5 (some .int) :: kw_
theorem g_Mo_put {c : Cond} : GoodIn (c :: kw_) w_Mo_put := kw_g2 170 rfl rfl
theorem h_Mo_put : y_Mo_put.cls ≠ "java/lang/invoke/MethodHandle" ∧ y_Mo_put.cls ≠ "java/lang/invoke/VarHandle" ∧ (parseMethodDescriptor y_Mo_put.desc).map (fun d => d.parameters.length) = some 4 := by decide +kernel
def y_Mo_get : MethodName := ⟨"FieldRowsModel", "get", "(III)J"⟩
abbrev b_Mo_get : ByteArray := prog_5_method_31_code
abbrev w_Mo_get : List Cond := .code y_Mo_get b_Mo_get 4 (some .long) :: kw_
theorem g_Mo_get {c : Cond} : GoodIn (c :: kw_) w_Mo_get := kw_g2 177 rfl rfl
theorem h_Mo_get : y_Mo_get.cls ≠ "java/lang/invoke/MethodHandle" ∧ y_Mo_get.cls ≠ "java/lang/invoke/VarHandle" ∧ (parseMethodDescriptor y_Mo_get.desc).map (fun d => d.parameters.length) = some 3 := by decide +kernel
def y_Mo_fault : MethodName := ⟨"FieldRowsModel", "fault", "(I)I"⟩
abbrev b_Mo_fault : ByteArray := prog_5_method_32_code
abbrev w_Mo_fault : List Cond := .code y_Mo_fault b_Mo_fault 2 (some .int) :: kw_
theorem g_Mo_fault {c : Cond} : GoodIn (c :: kw_) w_Mo_fault := kw_g2 182 rfl rfl
theorem h_Mo_fault : y_Mo_fault.cls ≠ "java/lang/invoke/MethodHandle" ∧ y_Mo_fault.cls ≠ "java/lang/invoke/VarHandle" ∧ (parseMethodDescriptor y_Mo_fault.desc).map (fun d => d.parameters.length) = some 1 := by decide +kernel
def y_Mo_copy : MethodName := ⟨"FieldRowsModel", "copy", "(I)I"⟩
abbrev b_Mo_copy : ByteArray := prog_5_method_33_code
abbrev w_Mo_copy : List Cond := .code y_Mo_copy b_Mo_copy 3 (some .int) :: kw_
theorem g_Mo_copy {c : Cond} : GoodIn (c :: kw_) w_Mo_copy := kw_g2 186 rfl rfl
theorem h_Mo_copy : y_Mo_copy.cls ≠ "java/lang/invoke/MethodHandle" ∧ y_Mo_copy.cls ≠ "java/lang/invoke/VarHandle" ∧ (parseMethodDescriptor y_Mo_copy.desc).map (fun d => d.parameters.length) = some 1 := by decide +kernel
def y_Mo_mayDiffer : MethodName := ⟨"FieldRowsModel", "mayDiffer", "(I)Z"⟩
abbrev b_Mo_mayDiffer : ByteArray := prog_5_method_34_code
abbrev w_Mo_mayDiffer : List Cond := .code y_Mo_mayDiffer b_Mo_mayDiffer 1 (some .boolean) :: kw_
theorem g_Mo_mayDiffer {c : Cond} : GoodIn (c :: kw_) w_Mo_mayDiffer := kw_g2 197 rfl rfl
theorem h_Mo_mayDiffer : y_Mo_mayDiffer.cls ≠ "java/lang/invoke/MethodHandle" ∧ y_Mo_mayDiffer.cls ≠ "java/lang/invoke/VarHandle" ∧ (parseMethodDescriptor y_Mo_mayDiffer.desc).map (fun d => d.parameters.length) = some 1 := by decide +kernel
def y_Mo_differs : MethodName := ⟨"FieldRowsModel", "differs", "()I"⟩
abbrev b_Mo_differs : ByteArray := prog_5_method_35_code
abbrev w_Mo_differs : List Cond := .code y_Mo_differs b_Mo_differs 2 (some .int) :: kw_
theorem g_Mo_differs {c : Cond} : GoodIn (c :: kw_) w_Mo_differs := kw_g2 194 rfl rfl
theorem h_Mo_differs : y_Mo_differs.cls ≠ "java/lang/invoke/MethodHandle" ∧ y_Mo_differs.cls ≠ "java/lang/invoke/VarHandle" ∧ (parseMethodDescriptor y_Mo_differs.desc).map (fun d => d.parameters.length) = some 0 := by decide +kernel
def y_Mo_groups : MethodName := ⟨"FieldRowsModel", "groups", "()I"⟩
abbrev b_Mo_groups : ByteArray := prog_5_method_36_code
abbrev w_Mo_groups : List Cond := .code y_Mo_groups b_Mo_groups 1 (some .int) :: kw_
theorem g_Mo_groups {c : Cond} : GoodIn (c :: kw_) w_Mo_groups := kw_g2 211 rfl rfl
theorem h_Mo_groups : y_Mo_groups.cls ≠ "java/lang/invoke/MethodHandle" ∧ y_Mo_groups.cls ≠ "java/lang/invoke/VarHandle" ∧ (parseMethodDescriptor y_Mo_groups.desc).map (fun d => d.parameters.length) = some 0 := by decide +kernel
def y_Mo_where : MethodName := ⟨"FieldRowsModel", "where", "(II)I"⟩
abbrev b_Mo_where : ByteArray := prog_5_method_37_code
abbrev w_Mo_where : List Cond := .code y_Mo_where b_Mo_where 7 (some .int) :: kw_
theorem g_Mo_where {c : Cond} : GoodIn (c :: kw_) w_Mo_where := kw_g2 215 rfl rfl
theorem h_Mo_where : y_Mo_where.cls ≠ "java/lang/invoke/MethodHandle" ∧ y_Mo_where.cls ≠ "java/lang/invoke/VarHandle" ∧ (parseMethodDescriptor y_Mo_where.desc).map (fun d => d.parameters.length) = some 2 := by decide +kernel
def y_Mo_record : MethodName := ⟨"FieldRowsModel", "record", "(IZ)I"⟩
abbrev b_Mo_record : ByteArray := prog_5_method_38_code
abbrev w_Mo_record : List Cond := .code y_Mo_record b_Mo_record 9 (some .int) :: kw_
theorem g_Mo_record {c : Cond} : GoodIn (c :: kw_) w_Mo_record := kw_g2 219 rfl rfl
theorem h_Mo_record : y_Mo_record.cls ≠ "java/lang/invoke/MethodHandle" ∧ y_Mo_record.cls ≠ "java/lang/invoke/VarHandle" ∧ (parseMethodDescriptor y_Mo_record.desc).map (fun d => d.parameters.length) = some 2 := by decide +kernel
def y_Row_init : MethodName := ⟨"FieldRows$Row", "<init>", "()V"⟩
abbrev b_Row_init : ByteArray := prog_2_method_1_code
abbrev w_Row_init : List Cond := .code y_Row_init b_Row_init 1 none :: kw_
theorem g_Row_init {c : Cond} : GoodIn (c :: kw_) w_Row_init := kw_g1 18 rfl rfl
theorem h_Row_init : y_Row_init.cls ≠ "java/lang/invoke/MethodHandle" ∧ y_Row_init.cls ≠ "java/lang/invoke/VarHandle" ∧ (parseMethodDescriptor y_Row_init.desc).map (fun d => d.parameters.length) = some 0 := by decide +kernel
def y_Row_clear : MethodName := ⟨"FieldRows$Row", "clear", "()V"⟩
abbrev b_Row_clear : ByteArray := prog_2_method_2_code
abbrev w_Row_clear : List Cond := .code y_Row_clear b_Row_clear 2 none :: kw_
theorem g_Row_clear {c : Cond} : GoodIn (c :: kw_) w_Row_clear := kw_g1 82 rfl rfl
theorem h_Row_clear : y_Row_clear.cls ≠ "java/lang/invoke/MethodHandle" ∧ y_Row_clear.cls ≠ "java/lang/invoke/VarHandle" ∧ (parseMethodDescriptor y_Row_clear.desc).map (fun d => d.parameters.length) = some 0 := by decide +kernel
def y_Row_takeAll : MethodName := ⟨"FieldRows$Row", "takeAll", "(LFieldRows$Row;)V"⟩
abbrev b_Row_takeAll : ByteArray := prog_2_method_3_code
abbrev w_Row_takeAll : List Cond := .code y_Row_takeAll b_Row_takeAll 3 none :: kw_
theorem g_Row_takeAll {c : Cond} : GoodIn (c :: kw_) w_Row_takeAll := kw_g1 207 rfl rfl
theorem h_Row_takeAll : y_Row_takeAll.cls ≠ "java/lang/invoke/MethodHandle" ∧ y_Row_takeAll.cls ≠ "java/lang/invoke/VarHandle" ∧ (parseMethodDescriptor y_Row_takeAll.desc).map (fun d => d.parameters.length) = some 1 := by decide +kernel
def y_Row_field : MethodName := ⟨"FieldRows$Row", "field", "(II)J"⟩
abbrev b_Row_field : ByteArray := prog_2_method_4_code
abbrev w_Row_field : List Cond := .code y_Row_field b_Row_field 6 (some .long) :: kw_
theorem g_Row_field {c : Cond} : GoodIn (c :: kw_) w_Row_field := kw_g1 112 rfl rfl
theorem h_Row_field : y_Row_field.cls ≠ "java/lang/invoke/MethodHandle" ∧ y_Row_field.cls ≠ "java/lang/invoke/VarHandle" ∧ (parseMethodDescriptor y_Row_field.desc).map (fun d => d.parameters.length) = some 2 := by decide +kernel
def y_Row_write : MethodName := ⟨"FieldRows$Row", "write", "(IIJ)V"⟩
abbrev b_Row_write : ByteArray := prog_2_method_5_code
abbrev w_Row_write : List Cond := .code y_Row_write b_Row_write 6 none :: kw_
theorem g_Row_write {c : Cond} : GoodIn (c :: kw_) w_Row_write := kw_g1 91 rfl rfl
theorem h_Row_write : y_Row_write.cls ≠ "java/lang/invoke/MethodHandle" ∧ y_Row_write.cls ≠ "java/lang/invoke/VarHandle" ∧ (parseMethodDescriptor y_Row_write.desc).map (fun d => d.parameters.length) = some 3 := by decide +kernel
def y_Row_writeConstants : MethodName := ⟨"FieldRows$Row", "writeConstants", "()V"⟩
abbrev b_Row_writeConstants : ByteArray := prog_2_method_6_code
abbrev w_Row_writeConstants : List Cond := .code y_Row_writeConstants b_Row_writeConstants 1 none :: kw_
theorem g_Row_writeConstants {c : Cond} : GoodIn (c :: kw_) w_Row_writeConstants := kw_g1 86 rfl rfl
theorem h_Row_writeConstants : y_Row_writeConstants.cls ≠ "java/lang/invoke/MethodHandle" ∧ y_Row_writeConstants.cls ≠ "java/lang/invoke/VarHandle" ∧ (parseMethodDescriptor y_Row_writeConstants.desc).map (fun d => d.parameters.length) = some 0 := by decide +kernel
def y_Vol_init : MethodName := ⟨"FieldRows$Volume", "<init>", "()V"⟩
abbrev b_Vol_init : ByteArray := prog_3_method_1_code
abbrev w_Vol_init : List Cond := .code y_Vol_init b_Vol_init 1 none :: kw_
theorem g_Vol_init {c : Cond} : GoodIn (c :: kw_) w_Vol_init := kw_g1 29 rfl rfl
theorem h_Vol_init : y_Vol_init.cls ≠ "java/lang/invoke/MethodHandle" ∧ y_Vol_init.cls ≠ "java/lang/invoke/VarHandle" ∧ (parseMethodDescriptor y_Vol_init.desc).map (fun d => d.parameters.length) = some 0 := by decide +kernel
def y_Vol_readNumbers : MethodName := ⟨"FieldRows$Volume", "readNumbers", "(LFieldRows$Row;)V"⟩
abbrev b_Vol_readNumbers : ByteArray := prog_3_method_2_code
abbrev w_Vol_readNumbers : List Cond := .code y_Vol_readNumbers b_Vol_readNumbers 2 none :: kw_
theorem g_Vol_readNumbers {c : Cond} : GoodIn (c :: kw_) w_Vol_readNumbers := kw_g1 108 rfl rfl
theorem h_Vol_readNumbers : y_Vol_readNumbers.cls ≠ "java/lang/invoke/MethodHandle" ∧ y_Vol_readNumbers.cls ≠ "java/lang/invoke/VarHandle" ∧ (parseMethodDescriptor y_Vol_readNumbers.desc).map (fun d => d.parameters.length) = some 1 := by decide +kernel
def y_Vol_groupStart : MethodName := ⟨"FieldRows$Volume", "groupStart", "(J)J"⟩
abbrev b_Vol_groupStart : ByteArray := prog_3_method_3_code
abbrev w_Vol_groupStart : List Cond := .code y_Vol_groupStart b_Vol_groupStart 3 (some .long) :: kw_
theorem g_Vol_groupStart {c : Cond} : GoodIn (c :: kw_) w_Vol_groupStart := kw_g1 164 rfl rfl
theorem h_Vol_groupStart : y_Vol_groupStart.cls ≠ "java/lang/invoke/MethodHandle" ∧ y_Vol_groupStart.cls ≠ "java/lang/invoke/VarHandle" ∧ (parseMethodDescriptor y_Vol_groupStart.desc).map (fun d => d.parameters.length) = some 1 := by decide +kernel
def y_Vol_groupLength : MethodName := ⟨"FieldRows$Volume", "groupLength", "(J)J"⟩
abbrev b_Vol_groupLength : ByteArray := prog_3_method_4_code
abbrev w_Vol_groupLength : List Cond := .code y_Vol_groupLength b_Vol_groupLength 3 (some .long) :: kw_
theorem g_Vol_groupLength {c : Cond} : GoodIn (c :: kw_) w_Vol_groupLength := kw_g1 160 rfl rfl
theorem h_Vol_groupLength : y_Vol_groupLength.cls ≠ "java/lang/invoke/MethodHandle" ∧ y_Vol_groupLength.cls ≠ "java/lang/invoke/VarHandle" ∧ (parseMethodDescriptor y_Vol_groupLength.desc).map (fun d => d.parameters.length) = some 1 := by decide +kernel
def y_Vol_hasCopy : MethodName := ⟨"FieldRows$Volume", "hasCopy", "(J)Z"⟩
abbrev b_Vol_hasCopy : ByteArray := prog_3_method_5_code
abbrev w_Vol_hasCopy : List Cond := .code y_Vol_hasCopy b_Vol_hasCopy 4 (some .boolean) :: kw_
theorem g_Vol_hasCopy {c : Cond} : GoodIn (c :: kw_) w_Vol_hasCopy := kw_g1 179 rfl rfl
theorem h_Vol_hasCopy : y_Vol_hasCopy.cls ≠ "java/lang/invoke/MethodHandle" ∧ y_Vol_hasCopy.cls ≠ "java/lang/invoke/VarHandle" ∧ (parseMethodDescriptor y_Vol_hasCopy.desc).map (fun d => d.parameters.length) = some 1 := by decide +kernel
def y_Vol_blocksOfCopy : MethodName := ⟨"FieldRows$Volume", "blocksOfCopy", "(J)J"⟩
abbrev b_Vol_blocksOfCopy : ByteArray := prog_3_method_6_code
abbrev w_Vol_blocksOfCopy : List Cond := .code y_Vol_blocksOfCopy b_Vol_blocksOfCopy 3 (some .long) :: kw_
theorem g_Vol_blocksOfCopy {c : Cond} : GoodIn (c :: kw_) w_Vol_blocksOfCopy := kw_g1 175 rfl rfl
theorem h_Vol_blocksOfCopy : y_Vol_blocksOfCopy.cls ≠ "java/lang/invoke/MethodHandle" ∧ y_Vol_blocksOfCopy.cls ≠ "java/lang/invoke/VarHandle" ∧ (parseMethodDescriptor y_Vol_blocksOfCopy.desc).map (fun d => d.parameters.length) = some 1 := by decide +kernel
def y_Vol_blockBitmap : MethodName := ⟨"FieldRows$Volume", "blockBitmap", "(J)J"⟩
abbrev b_Vol_blockBitmap : ByteArray := prog_3_method_7_code
abbrev w_Vol_blockBitmap : List Cond := .code y_Vol_blockBitmap b_Vol_blockBitmap 3 (some .long) :: kw_
theorem g_Vol_blockBitmap {c : Cond} : GoodIn (c :: kw_) w_Vol_blockBitmap := kw_g2 36 rfl rfl
theorem h_Vol_blockBitmap : y_Vol_blockBitmap.cls ≠ "java/lang/invoke/MethodHandle" ∧ y_Vol_blockBitmap.cls ≠ "java/lang/invoke/VarHandle" ∧ (parseMethodDescriptor y_Vol_blockBitmap.desc).map (fun d => d.parameters.length) = some 1 := by decide +kernel
def y_Vol_fileBitmap : MethodName := ⟨"FieldRows$Volume", "fileBitmap", "(J)J"⟩
abbrev b_Vol_fileBitmap : ByteArray := prog_3_method_8_code
abbrev w_Vol_fileBitmap : List Cond := .code y_Vol_fileBitmap b_Vol_fileBitmap 3 (some .long) :: kw_
theorem g_Vol_fileBitmap {c : Cond} : GoodIn (c :: kw_) w_Vol_fileBitmap := kw_g2 40 rfl rfl
theorem h_Vol_fileBitmap : y_Vol_fileBitmap.cls ≠ "java/lang/invoke/MethodHandle" ∧ y_Vol_fileBitmap.cls ≠ "java/lang/invoke/VarHandle" ∧ (parseMethodDescriptor y_Vol_fileBitmap.desc).map (fun d => d.parameters.length) = some 1 := by decide +kernel
def y_Vol_recordStart : MethodName := ⟨"FieldRows$Volume", "recordStart", "(J)J"⟩
abbrev b_Vol_recordStart : ByteArray := prog_3_method_9_code
abbrev w_Vol_recordStart : List Cond := .code y_Vol_recordStart b_Vol_recordStart 3 (some .long) :: kw_
theorem g_Vol_recordStart {c : Cond} : GoodIn (c :: kw_) w_Vol_recordStart := kw_g2 45 rfl rfl
theorem h_Vol_recordStart : y_Vol_recordStart.cls ≠ "java/lang/invoke/MethodHandle" ∧ y_Vol_recordStart.cls ≠ "java/lang/invoke/VarHandle" ∧ (parseMethodDescriptor y_Vol_recordStart.desc).map (fun d => d.parameters.length) = some 1 := by decide +kernel
def y_Vol_fixedBlocks : MethodName := ⟨"FieldRows$Volume", "fixedBlocks", "(J)J"⟩
abbrev b_Vol_fixedBlocks : ByteArray := prog_3_method_10_code
abbrev w_Vol_fixedBlocks : List Cond := .code y_Vol_fixedBlocks b_Vol_fixedBlocks 3 (some .long) :: kw_
theorem g_Vol_fixedBlocks {c : Cond} : GoodIn (c :: kw_) w_Vol_fixedBlocks := kw_g1 171 rfl rfl
theorem h_Vol_fixedBlocks : y_Vol_fixedBlocks.cls ≠ "java/lang/invoke/MethodHandle" ∧ y_Vol_fixedBlocks.cls ≠ "java/lang/invoke/VarHandle" ∧ (parseMethodDescriptor y_Vol_fixedBlocks.desc).map (fun d => d.parameters.length) = some 1 := by decide +kernel
def y_Vol_firstFaultOf : MethodName := ⟨"FieldRows$Volume", "firstFaultOf", "(LFieldRows$Row;)I"⟩
abbrev b_Vol_firstFaultOf : ByteArray := prog_3_method_11_code
abbrev w_Vol_firstFaultOf : List Cond := .code y_Vol_firstFaultOf b_Vol_firstFaultOf 3 (some .int) :: kw_
theorem g_Vol_firstFaultOf {c : Cond} : GoodIn (c :: kw_) w_Vol_firstFaultOf := kw_g1 125 rfl rfl
theorem h_Vol_firstFaultOf : y_Vol_firstFaultOf.cls ≠ "java/lang/invoke/MethodHandle" ∧ y_Vol_firstFaultOf.cls ≠ "java/lang/invoke/VarHandle" ∧ (parseMethodDescriptor y_Vol_firstFaultOf.desc).map (fun d => d.parameters.length) = some 1 := by decide +kernel
def y_Vol_faultOfForm : MethodName := ⟨"FieldRows$Volume", "faultOfForm", "(LFieldRows$Row;)I"⟩
abbrev b_Vol_faultOfForm : ByteArray := prog_3_method_12_code
abbrev w_Vol_faultOfForm : List Cond := .code y_Vol_faultOfForm b_Vol_faultOfForm 2 (some .int) :: kw_
theorem g_Vol_faultOfForm {c : Cond} : GoodIn (c :: kw_) w_Vol_faultOfForm := kw_g1 130 rfl rfl
theorem h_Vol_faultOfForm : y_Vol_faultOfForm.cls ≠ "java/lang/invoke/MethodHandle" ∧ y_Vol_faultOfForm.cls ≠ "java/lang/invoke/VarHandle" ∧ (parseMethodDescriptor y_Vol_faultOfForm.desc).map (fun d => d.parameters.length) = some 1 := by decide +kernel
def y_Vol_faultOfGroupSizes : MethodName := ⟨"FieldRows$Volume", "faultOfGroupSizes", "(LFieldRows$Row;)I"⟩
abbrev b_Vol_faultOfGroupSizes : ByteArray := prog_3_method_13_code
abbrev w_Vol_faultOfGroupSizes : List Cond := .code y_Vol_faultOfGroupSizes b_Vol_faultOfGroupSizes 5 (some .int) :: kw_
theorem g_Vol_faultOfGroupSizes {c : Cond} : GoodIn (c :: kw_) w_Vol_faultOfGroupSizes := kw_g1 137 rfl rfl
theorem h_Vol_faultOfGroupSizes : y_Vol_faultOfGroupSizes.cls ≠ "java/lang/invoke/MethodHandle" ∧ y_Vol_faultOfGroupSizes.cls ≠ "java/lang/invoke/VarHandle" ∧ (parseMethodDescriptor y_Vol_faultOfGroupSizes.desc).map (fun d => d.parameters.length) = some 1 := by decide +kernel
def y_Vol_everyGroupHasRoom : MethodName := ⟨"FieldRows$Volume", "everyGroupHasRoom", "()Z"⟩
abbrev b_Vol_everyGroupHasRoom : ByteArray := prog_3_method_14_code
abbrev w_Vol_everyGroupHasRoom : List Cond := .code y_Vol_everyGroupHasRoom b_Vol_everyGroupHasRoom 2 (some .boolean) :: kw_
theorem g_Vol_everyGroupHasRoom {c : Cond} : GoodIn (c :: kw_) w_Vol_everyGroupHasRoom := kw_g1 155 rfl rfl
theorem h_Vol_everyGroupHasRoom : y_Vol_everyGroupHasRoom.cls ≠ "java/lang/invoke/MethodHandle" ∧ y_Vol_everyGroupHasRoom.cls ≠ "java/lang/invoke/VarHandle" ∧ (parseMethodDescriptor y_Vol_everyGroupHasRoom.desc).map (fun d => d.parameters.length) = some 0 := by decide +kernel
def y_Vol_faultOfCounts : MethodName := ⟨"FieldRows$Volume", "faultOfCounts", "(LFieldRows$Row;)I"⟩
abbrev b_Vol_faultOfCounts : ByteArray := prog_3_method_15_code
abbrev w_Vol_faultOfCounts : List Cond := .code y_Vol_faultOfCounts b_Vol_faultOfCounts 8 (some .int) :: kw_
theorem g_Vol_faultOfCounts {c : Cond} : GoodIn (c :: kw_) w_Vol_faultOfCounts := kw_g1 185 rfl rfl
theorem h_Vol_faultOfCounts : y_Vol_faultOfCounts.cls ≠ "java/lang/invoke/MethodHandle" ∧ y_Vol_faultOfCounts.cls ≠ "java/lang/invoke/VarHandle" ∧ (parseMethodDescriptor y_Vol_faultOfCounts.desc).map (fun d => d.parameters.length) = some 1 := by decide +kernel
def y_Vol_faultOfFeatures : MethodName := ⟨"FieldRows$Volume", "faultOfFeatures", "(LFieldRows$Row;)I"⟩
abbrev b_Vol_faultOfFeatures : ByteArray := prog_3_method_16_code
abbrev w_Vol_faultOfFeatures : List Cond := .code y_Vol_faultOfFeatures b_Vol_faultOfFeatures 5 (some .int) :: kw_
theorem g_Vol_faultOfFeatures {c : Cond} : GoodIn (c :: kw_) w_Vol_faultOfFeatures := kw_g1 191 rfl rfl
theorem h_Vol_faultOfFeatures : y_Vol_faultOfFeatures.cls ≠ "java/lang/invoke/MethodHandle" ∧ y_Vol_faultOfFeatures.cls ≠ "java/lang/invoke/VarHandle" ∧ (parseMethodDescriptor y_Vol_faultOfFeatures.desc).map (fun d => d.parameters.length) = some 1 := by decide +kernel
def y_Vol_unlistedFault : MethodName := ⟨"FieldRows$Volume", "unlistedFault", "(IJJ)I"⟩
abbrev b_Vol_unlistedFault : ByteArray := prog_3_method_17_code
abbrev w_Vol_unlistedFault : List Cond := .code y_Vol_unlistedFault b_Vol_unlistedFault 6 (some .int) :: kw_
theorem g_Vol_unlistedFault {c : Cond} : GoodIn (c :: kw_) w_Vol_unlistedFault := kw_g1 195 rfl rfl
theorem h_Vol_unlistedFault : y_Vol_unlistedFault.cls ≠ "java/lang/invoke/MethodHandle" ∧ y_Vol_unlistedFault.cls ≠ "java/lang/invoke/VarHandle" ∧ (parseMethodDescriptor y_Vol_unlistedFault.desc).map (fun d => d.parameters.length) = some 3 := by decide +kernel
def y_Vol_faultOfRest : MethodName := ⟨"FieldRows$Volume", "faultOfRest", "(LFieldRows$Row;)I"⟩
abbrev b_Vol_faultOfRest : ByteArray := prog_3_method_18_code
abbrev w_Vol_faultOfRest : List Cond := .code y_Vol_faultOfRest b_Vol_faultOfRest 8 (some .int) :: kw_
theorem g_Vol_faultOfRest {c : Cond} : GoodIn (c :: kw_) w_Vol_faultOfRest := kw_g1 202 rfl rfl
theorem h_Vol_faultOfRest : y_Vol_faultOfRest.cls ≠ "java/lang/invoke/MethodHandle" ∧ y_Vol_faultOfRest.cls ≠ "java/lang/invoke/VarHandle" ∧ (parseMethodDescriptor y_Vol_faultOfRest.desc).map (fun d => d.parameters.length) = some 1 := by decide +kernel
