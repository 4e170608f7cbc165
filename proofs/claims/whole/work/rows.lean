section
def lw_okq (q : MethodName × Nat) : Prop := (q.1.cls ≠ "java/lang/invoke/MethodHandle" ∧ q.1.cls ≠ "java/lang/invoke/VarHandle") ∧ Cond.instantiable q.1.cls q.2 ∈ tables_1 ∧ Cond.privateMethod q.1 ∈ tables_1 ∧ Cond.instanceMethod q.1 ∈ tables_1
theorem lw_p0 : lw_okq (⟨"FieldRows$Volume", "faultOfForm", "(LFieldRows$Row;)I"⟩, 12) := ⟨⟨by decide +kernel, by decide +kernel⟩, List.mem_of_getElem? (i := 26) (by decide +kernel), List.mem_of_getElem? (i := 128) (by decide +kernel), List.mem_of_getElem? (i := 129) (by decide +kernel)⟩
theorem lw_p1 : lw_okq (⟨"FieldRows$Volume", "faultOfGroupSizes", "(LFieldRows$Row;)I"⟩, 12) := ⟨⟨by decide +kernel, by decide +kernel⟩, List.mem_of_getElem? (i := 26) (by decide +kernel), List.mem_of_getElem? (i := 135) (by decide +kernel), List.mem_of_getElem? (i := 136) (by decide +kernel)⟩
theorem lw_p2 : lw_okq (⟨"FieldRows$Volume", "everyGroupHasRoom", "()Z"⟩, 12) := ⟨⟨by decide +kernel, by decide +kernel⟩, List.mem_of_getElem? (i := 26) (by decide +kernel), List.mem_of_getElem? (i := 153) (by decide +kernel), List.mem_of_getElem? (i := 154) (by decide +kernel)⟩
theorem lw_p3 : lw_okq (⟨"FieldRows$Volume", "faultOfCounts", "(LFieldRows$Row;)I"⟩, 12) := ⟨⟨by decide +kernel, by decide +kernel⟩, List.mem_of_getElem? (i := 26) (by decide +kernel), List.mem_of_getElem? (i := 183) (by decide +kernel), List.mem_of_getElem? (i := 184) (by decide +kernel)⟩
theorem lw_p4 : lw_okq (⟨"FieldRows$Volume", "faultOfFeatures", "(LFieldRows$Row;)I"⟩, 12) := ⟨⟨by decide +kernel, by decide +kernel⟩, List.mem_of_getElem? (i := 26) (by decide +kernel), List.mem_of_getElem? (i := 189) (by decide +kernel), List.mem_of_getElem? (i := 190) (by decide +kernel)⟩
theorem lw_p5 : lw_okq (⟨"FieldRows$Volume", "faultOfRest", "(LFieldRows$Row;)I"⟩, 12) := ⟨⟨by decide +kernel, by decide +kernel⟩, List.mem_of_getElem? (i := 26) (by decide +kernel), List.mem_of_getElem? (i := 200) (by decide +kernel), List.mem_of_getElem? (i := 201) (by decide +kernel)⟩
theorem lw_p6 : lw_okq (⟨"FieldRows", "rowOf", "(I)LFieldRows$Row;"⟩, 4) := ⟨⟨by decide +kernel, by decide +kernel⟩, List.mem_of_getElem? (i := 7) (by decide +kernel), List.mem_of_getElem? (i := 227) (by decide +kernel), List.mem_of_getElem? (i := 228) (by decide +kernel)⟩
theorem lw_p7 : lw_okq (⟨"FieldRows", "isGroupOfRightRow", "(I)Z"⟩, 4) := ⟨⟨by decide +kernel, by decide +kernel⟩, List.mem_of_getElem? (i := 7) (by decide +kernel), List.mem_of_getElem? (i := 250) (by decide +kernel), List.mem_of_getElem? (i := 251) (by decide +kernel)⟩
theorem lw_p8 : lw_okq (⟨"FieldRowsModel", "rowOf", "(I)[I"⟩, 3) := ⟨⟨by decide +kernel, by decide +kernel⟩, List.mem_of_getElem? (i := 293) (by decide +kernel), List.mem_of_getElem? (i := 404) (by decide +kernel), List.mem_of_getElem? (i := 405) (by decide +kernel)⟩
theorem lw_p9 : lw_okq (⟨"FieldRowsModel", "isRight", "()Z"⟩, 3) := ⟨⟨by decide +kernel, by decide +kernel⟩, List.mem_of_getElem? (i := 293) (by decide +kernel), List.mem_of_getElem? (i := 428) (by decide +kernel), List.mem_of_getElem? (i := 429) (by decide +kernel)⟩
def lw_privs_1 : List (MethodName × Nat) := [(⟨"FieldRows$Volume", "faultOfForm", "(LFieldRows$Row;)I"⟩, 12), (⟨"FieldRows$Volume", "faultOfGroupSizes", "(LFieldRows$Row;)I"⟩, 12), (⟨"FieldRows$Volume", "everyGroupHasRoom", "()Z"⟩, 12), (⟨"FieldRows$Volume", "faultOfCounts", "(LFieldRows$Row;)I"⟩, 12), (⟨"FieldRows$Volume", "faultOfFeatures", "(LFieldRows$Row;)I"⟩, 12), (⟨"FieldRows$Volume", "faultOfRest", "(LFieldRows$Row;)I"⟩, 12), (⟨"FieldRows", "rowOf", "(I)LFieldRows$Row;"⟩, 4), (⟨"FieldRows", "isGroupOfRightRow", "(I)Z"⟩, 4), (⟨"FieldRowsModel", "rowOf", "(I)[I"⟩, 3), (⟨"FieldRowsModel", "isRight", "()Z"⟩, 3)]
theorem lw_r1 : ∀ q ∈ lw_privs_1, lw_okq q := List.forall_mem_cons.mpr ⟨lw_p0, List.forall_mem_cons.mpr ⟨lw_p1, List.forall_mem_cons.mpr ⟨lw_p2, List.forall_mem_cons.mpr ⟨lw_p3, List.forall_mem_cons.mpr ⟨lw_p4, List.forall_mem_cons.mpr ⟨lw_p5, List.forall_mem_cons.mpr ⟨lw_p6, List.forall_mem_cons.mpr ⟨lw_p7, List.forall_mem_cons.mpr ⟨lw_p8, List.forall_mem_cons.mpr ⟨lw_p9, fun _ h => absurd h List.not_mem_nil⟩⟩⟩⟩⟩⟩⟩⟩⟩⟩
def lw_privs : List (MethodName × Nat) := lw_privs_1
def lw_tbl : List Cond := k2_sels lw_privs ++ tables_1
theorem lw_privs_ok : ∀ q ∈ lw_privs, lw_okq q := lw_r1
end
section
def F_Row : u_T := fun k => match k with
  | _ => ("FieldRows$Row", "bytes", "[B", true)
def t_Row : Nat → FieldType := fun k => match k with
  | _ => .array .byte
theorem n_Row : ∀ a, a < 1 → ∀ b, b < 1 → a ≠ b → (F_Row a).2.1 ≠ (F_Row b).2.1 := by decide +kernel
theorem t_Row_ok : ∀ k, k < 1 → parseFieldDescriptor (F_Row k).2.2.1 = some (t_Row k) := by decide +kernel
def F_Vol : u_T := fun k => match k with
  | 0 => ("FieldRows$Volume", "files", "J", false)
  | 1 => ("FieldRows$Volume", "blocks", "J", false)
  | 2 => ("FieldRows$Volume", "first", "J", false)
  | 3 => ("FieldRows$Volume", "shift", "J", false)
  | 4 => ("FieldRows$Volume", "size", "J", false)
  | 5 => ("FieldRows$Volume", "groupBlocks", "J", false)
  | 6 => ("FieldRows$Volume", "groupFiles", "J", false)
  | 7 => ("FieldRows$Volume", "recordBytes", "J", false)
  | 8 => ("FieldRows$Volume", "fewCopies", "Z", false)
  | 9 => ("FieldRows$Volume", "groupCount", "J", false)
  | 10 => ("FieldRows$Volume", "copyBlocks", "J", false)
  | _ => ("FieldRows$Volume", "recordBlocks", "J", false)
def t_Vol : Nat → FieldType := fun k => match k with
  | 0 => .long
  | 1 => .long
  | 2 => .long
  | 3 => .long
  | 4 => .long
  | 5 => .long
  | 6 => .long
  | 7 => .long
  | 8 => .boolean
  | 9 => .long
  | 10 => .long
  | _ => .long
theorem n_Vol : ∀ a, a < 12 → ∀ b, b < 12 → a ≠ b → (F_Vol a).2.1 ≠ (F_Vol b).2.1 := by decide +kernel
theorem t_Vol_ok : ∀ k, k < 12 → parseFieldDescriptor (F_Vol k).2.2.1 = some (t_Vol k) := by decide +kernel
def F_FR : u_T := fun k => match k with
  | 0 => ("FieldRows", "row0", "LFieldRows$Row;", true)
  | 1 => ("FieldRows", "row1", "LFieldRows$Row;", true)
  | 2 => ("FieldRows", "trial", "LFieldRows$Row;", true)
  | _ => ("FieldRows", "volume", "LFieldRows$Volume;", true)
def t_FR : Nat → FieldType := fun k => match k with
  | 0 => .object "FieldRows$Row"
  | 1 => .object "FieldRows$Row"
  | 2 => .object "FieldRows$Row"
  | _ => .object "FieldRows$Volume"
theorem n_FR : ∀ a, a < 4 → ∀ b, b < 4 → a ≠ b → (F_FR a).2.1 ≠ (F_FR b).2.1 := by decide +kernel
theorem t_FR_ok : ∀ k, k < 4 → parseFieldDescriptor (F_FR k).2.2.1 = some (t_FR k) := by decide +kernel
def F_Mo : u_T := fun k => match k with
  | 0 => ("FieldRowsModel", "first", "[I", true)
  | 1 => ("FieldRowsModel", "second", "[I", true)
  | _ => ("FieldRowsModel", "draft", "[I", true)
def t_Mo : Nat → FieldType := fun k => match k with
  | 0 => .array .int
  | 1 => .array .int
  | _ => .array .int
theorem n_Mo : ∀ a, a < 3 → ∀ b, b < 3 → a ≠ b → (F_Mo a).2.1 ≠ (F_Mo b).2.1 := by decide +kernel
theorem t_Mo_ok : ∀ k, k < 3 → parseFieldDescriptor (F_Mo k).2.2.1 = some (t_Mo k) := by decide +kernel
abbrev vwCl : List vw_C := [("FieldRows$Row", F_Row, 1), ("FieldRows$Volume", F_Vol, 12), ("FieldRows", F_FR, 4), ("FieldRowsModel", F_Mo, 3)]
def kw_ : List Cond := lw_tbl.filter goodWord
theorem kw_in : ∀ w ∈ kw_, w ∈ lw_tbl := fun w h => (List.mem_filter.mp h).1
theorem kw_1 {w : Cond} (i : Nat) (h : tables_1_1[i]? = some w) (g : goodWord w = true) {c : Cond} : w ∈ c :: kw_ := List.mem_cons_of_mem _ (List.mem_filter.mpr ⟨List.mem_append_right _ (List.mem_append_left _ (List.mem_of_getElem? h)), g⟩)
theorem kw_2 {w : Cond} (i : Nat) (h : tables_1_2[i]? = some w) (g : goodWord w = true) {c : Cond} : w ∈ c :: kw_ := List.mem_cons_of_mem _ (List.mem_filter.mpr ⟨List.mem_append_right _ (List.mem_append_right _ (List.mem_of_getElem? h)), g⟩)
theorem kw_0 {w : Cond} (i : Nat) (h : (k2_sels lw_privs)[i]? = some w) (g : goodWord w = true) {c : Cond} : w ∈ c :: kw_ := List.mem_cons_of_mem _ (List.mem_filter.mpr ⟨List.mem_append_left _ (List.mem_of_getElem? h), g⟩)
theorem kw_gi {c c2 : Cond} (h : c2 ∈ c2 :: kw_ → c2 ∈ kw_) : GoodIn (c :: kw_) (c2 :: kw_) := fun w hw => by
  have h1 : w ∈ kw_ := by
    rcases List.mem_cons.mp hw with h2 | h2
    · rw [h2]; exact h List.mem_cons_self
    · exact h2
  exact ⟨List.mem_cons_of_mem _ h1, good_of_word (List.mem_filter.mp h1).2⟩
theorem kw_g1 {w : Cond} (i : Nat) (h : tables_1_1[i]? = some w) (g : goodWord w = true) {c : Cond} : GoodIn (c :: kw_) (w :: kw_) := kw_gi (fun _ => List.mem_filter.mpr ⟨List.mem_append_right _ (List.mem_append_left _ (List.mem_of_getElem? h)), g⟩)
theorem kw_g2 {w : Cond} (i : Nat) (h : tables_1_2[i]? = some w) (g : goodWord w = true) {c : Cond} : GoodIn (c :: kw_) (w :: kw_) := kw_gi (fun _ => List.mem_filter.mpr ⟨List.mem_append_right _ (List.mem_append_right _ (List.mem_of_getElem? h)), g⟩)
def y_FR_init : MethodName := ⟨"FieldRows", "<init>", "()V"⟩
abbrev b_FR_init : ByteArray := prog_1_method_1_code
abbrev w_FR_init : List Cond := .code y_FR_init b_FR_init 1 none :: kw_
theorem g_FR_init {c : Cond} : GoodIn (c :: kw_) w_FR_init := kw_g1 10 rfl rfl
theorem h_FR_init : y_FR_init.cls ≠ "java/lang/invoke/MethodHandle" ∧ y_FR_init.cls ≠ "java/lang/invoke/VarHandle" ∧ (parseMethodDescriptor y_FR_init.desc).map (fun d => d.parameters.length) = some 0 := by decide +kernel
def y_FR_lay : MethodName := ⟨"FieldRows", "lay", "(IIIII)I"⟩
abbrev b_FR_lay : ByteArray := prog_1_method_2_code
abbrev w_FR_lay : List Cond := .code y_FR_lay b_FR_lay 6 (some .int) :: kw_
theorem g_FR_lay {c : Cond} : GoodIn (c :: kw_) w_FR_lay := kw_g1 77 rfl rfl
theorem h_FR_lay : y_FR_lay.cls ≠ "java/lang/invoke/MethodHandle" ∧ y_FR_lay.cls ≠ "java/lang/invoke/VarHandle" ∧ (parseMethodDescriptor y_FR_lay.desc).map (fun d => d.parameters.length) = some 5 := by decide +kernel
def y_FR_poke : MethodName := ⟨"FieldRows", "poke", "(III)I"⟩
abbrev b_FR_poke : ByteArray := prog_1_method_3_code
abbrev w_FR_poke : List Cond := .code y_FR_poke b_FR_poke 6 (some .int) :: kw_
theorem g_FR_poke {c : Cond} : GoodIn (c :: kw_) w_FR_poke := kw_g1 225 rfl rfl
theorem h_FR_poke : y_FR_poke.cls ≠ "java/lang/invoke/MethodHandle" ∧ y_FR_poke.cls ≠ "java/lang/invoke/VarHandle" ∧ (parseMethodDescriptor y_FR_poke.desc).map (fun d => d.parameters.length) = some 3 := by decide +kernel
def y_FR_put : MethodName := ⟨"FieldRows", "put", "(IIII)I"⟩
abbrev b_FR_put : ByteArray := prog_1_method_4_code
abbrev w_FR_put : List Cond := .code y_FR_put b_FR_put 6 (some .int) :: kw_
theorem g_FR_put {c : Cond} : GoodIn (c :: kw_) w_FR_put := kw_g1 235 rfl rfl
theorem h_FR_put : y_FR_put.cls ≠ "java/lang/invoke/MethodHandle" ∧ y_FR_put.cls ≠ "java/lang/invoke/VarHandle" ∧ (parseMethodDescriptor y_FR_put.desc).map (fun d => d.parameters.length) = some 4 := by decide +kernel
def y_FR_get : MethodName := ⟨"FieldRows", "get", "(III)J"⟩
abbrev b_FR_get : ByteArray := prog_1_method_5_code
abbrev w_FR_get : List Cond := .code y_FR_get b_FR_get 5 (some .long) :: kw_
theorem g_FR_get {c : Cond} : GoodIn (c :: kw_) w_FR_get := kw_g1 239 rfl rfl
theorem h_FR_get : y_FR_get.cls ≠ "java/lang/invoke/MethodHandle" ∧ y_FR_get.cls ≠ "java/lang/invoke/VarHandle" ∧ (parseMethodDescriptor y_FR_get.desc).map (fun d => d.parameters.length) = some 3 := by decide +kernel
def y_FR_fault : MethodName := ⟨"FieldRows", "fault", "(I)I"⟩
abbrev b_FR_fault : ByteArray := prog_1_method_6_code
abbrev w_FR_fault : List Cond := .code y_FR_fault b_FR_fault 3 (some .int) :: kw_
theorem g_FR_fault {c : Cond} : GoodIn (c :: kw_) w_FR_fault := kw_g2 4 rfl rfl
theorem h_FR_fault : y_FR_fault.cls ≠ "java/lang/invoke/MethodHandle" ∧ y_FR_fault.cls ≠ "java/lang/invoke/VarHandle" ∧ (parseMethodDescriptor y_FR_fault.desc).map (fun d => d.parameters.length) = some 1 := by decide +kernel
def y_FR_copy : MethodName := ⟨"FieldRows", "copy", "(I)I"⟩
abbrev b_FR_copy : ByteArray := prog_1_method_7_code
abbrev w_FR_copy : List Cond := .code y_FR_copy b_FR_copy 2 (some .int) :: kw_
theorem g_FR_copy {c : Cond} : GoodIn (c :: kw_) w_FR_copy := kw_g2 8 rfl rfl
theorem h_FR_copy : y_FR_copy.cls ≠ "java/lang/invoke/MethodHandle" ∧ y_FR_copy.cls ≠ "java/lang/invoke/VarHandle" ∧ (parseMethodDescriptor y_FR_copy.desc).map (fun d => d.parameters.length) = some 1 := by decide +kernel
def y_FR_differs : MethodName := ⟨"FieldRows", "differs", "()I"⟩
abbrev b_FR_differs : ByteArray := prog_1_method_8_code
abbrev w_FR_differs : List Cond := .code y_FR_differs b_FR_differs 2 (some .int) :: kw_
theorem g_FR_differs {c : Cond} : GoodIn (c :: kw_) w_FR_differs := kw_g2 17 rfl rfl
theorem h_FR_differs : y_FR_differs.cls ≠ "java/lang/invoke/MethodHandle" ∧ y_FR_differs.cls ≠ "java/lang/invoke/VarHandle" ∧ (parseMethodDescriptor y_FR_differs.desc).map (fun d => d.parameters.length) = some 0 := by decide +kernel
def y_FR_groups : MethodName := ⟨"FieldRows", "groups", "()I"⟩
abbrev b_FR_groups : ByteArray := prog_1_method_9_code
abbrev w_FR_groups : List Cond := .code y_FR_groups b_FR_groups 1 (some .int) :: kw_
theorem g_FR_groups {c : Cond} : GoodIn (c :: kw_) w_FR_groups := kw_g2 26 rfl rfl
theorem h_FR_groups : y_FR_groups.cls ≠ "java/lang/invoke/MethodHandle" ∧ y_FR_groups.cls ≠ "java/lang/invoke/VarHandle" ∧ (parseMethodDescriptor y_FR_groups.desc).map (fun d => d.parameters.length) = some 0 := by decide +kernel
def y_FR_where : MethodName := ⟨"FieldRows", "where", "(II)I"⟩
abbrev b_FR_where : ByteArray := prog_1_method_10_code
abbrev w_FR_where : List Cond := .code y_FR_where b_FR_where 3 (some .int) :: kw_
theorem g_FR_where {c : Cond} : GoodIn (c :: kw_) w_FR_where := kw_g2 30 rfl rfl
theorem h_FR_where : y_FR_where.cls ≠ "java/lang/invoke/MethodHandle" ∧ y_FR_where.cls ≠ "java/lang/invoke/VarHandle" ∧ (parseMethodDescriptor y_FR_where.desc).map (fun d => d.parameters.length) = some 2 := by decide +kernel
def y_FR_record : MethodName := ⟨"FieldRows", "record", "(IZ)I"⟩
abbrev b_FR_record : ByteArray := prog_1_method_11_code
abbrev w_FR_record : List Cond := .code y_FR_record b_FR_record 11 (some .int) :: kw_
theorem g_FR_record {c : Cond} : GoodIn (c :: kw_) w_FR_record := kw_g2 51 rfl rfl
theorem h_FR_record : y_FR_record.cls ≠ "java/lang/invoke/MethodHandle" ∧ y_FR_record.cls ≠ "java/lang/invoke/VarHandle" ∧ (parseMethodDescriptor y_FR_record.desc).map (fun d => d.parameters.length) = some 2 := by decide +kernel
def y_FR_rowOf : MethodName := ⟨"FieldRows", "rowOf", "(I)LFieldRows$Row;"⟩
abbrev b_FR_rowOf : ByteArray := prog_1_method_12_code
abbrev w_FR_rowOf : List Cond := .code y_FR_rowOf b_FR_rowOf 2 (some (.object "FieldRows$Row")) :: kw_
theorem g_FR_rowOf {c : Cond} : GoodIn (c :: kw_) w_FR_rowOf := kw_g1 229 rfl rfl
theorem h_FR_rowOf : y_FR_rowOf.cls ≠ "java/lang/invoke/MethodHandle" ∧ y_FR_rowOf.cls ≠ "java/lang/invoke/VarHandle" ∧ (parseMethodDescriptor y_FR_rowOf.desc).map (fun d => d.parameters.length) = some 1 := by decide +kernel
def y_FR_isGroupOfRightRow : MethodName := ⟨"FieldRows", "isGroupOfRightRow", "(I)Z"⟩
abbrev b_FR_isGroupOfRightRow : ByteArray := prog_1_method_13_code
abbrev w_FR_isGroupOfRightRow : List Cond := .code y_FR_isGroupOfRightRow b_FR_isGroupOfRightRow 2 (some .boolean) :: kw_
theorem g_FR_isGroupOfRightRow {c : Cond} : GoodIn (c :: kw_) w_FR_isGroupOfRightRow := kw_g2 12 rfl rfl
theorem h_FR_isGroupOfRightRow : y_FR_isGroupOfRightRow.cls ≠ "java/lang/invoke/MethodHandle" ∧ y_FR_isGroupOfRightRow.cls ≠ "java/lang/invoke/VarHandle" ∧ (parseMethodDescriptor y_FR_isGroupOfRightRow.desc).map (fun d => d.parameters.length) = some 1 := by decide +kernel
def y_FR_isField : MethodName := ⟨"FieldRows", "isField", "(II)Z"⟩
abbrev b_FR_isField : ByteArray := prog_1_method_14_code
abbrev w_FR_isField : List Cond := .code y_FR_isField b_FR_isField 2 (some .boolean) :: kw_
theorem g_FR_isField {c : Cond} : GoodIn (c :: kw_) w_FR_isField := kw_g1 94 rfl rfl
theorem h_FR_isField : y_FR_isField.cls ≠ "java/lang/invoke/MethodHandle" ∧ y_FR_isField.cls ≠ "java/lang/invoke/VarHandle" ∧ (parseMethodDescriptor y_FR_isField.desc).map (fun d => d.parameters.length) = some 2 := by decide +kernel
def y_FR_isFollowed : MethodName := ⟨"FieldRows", "isFollowed", "(I)Z"⟩
abbrev b_FR_isFollowed : ByteArray := prog_1_method_15_code
abbrev w_FR_isFollowed : List Cond := .code y_FR_isFollowed b_FR_isFollowed 2 (some .boolean) :: kw_
theorem g_FR_isFollowed {c : Cond} : GoodIn (c :: kw_) w_FR_isFollowed := kw_g2 20 rfl rfl
theorem h_FR_isFollowed : y_FR_isFollowed.cls ≠ "java/lang/invoke/MethodHandle" ∧ y_FR_isFollowed.cls ≠ "java/lang/invoke/VarHandle" ∧ (parseMethodDescriptor y_FR_isFollowed.desc).map (fun d => d.parameters.length) = some 1 := by decide +kernel
def y_FR_firstFor : MethodName := ⟨"FieldRows", "firstFor", "(J)I"⟩
abbrev b_FR_firstFor : ByteArray := prog_1_method_16_code
abbrev w_FR_firstFor : List Cond := .code y_FR_firstFor b_FR_firstFor 2 (some .int) :: kw_
theorem g_FR_firstFor {c : Cond} : GoodIn (c :: kw_) w_FR_firstFor := kw_g1 104 rfl rfl
theorem h_FR_firstFor : y_FR_firstFor.cls ≠ "java/lang/invoke/MethodHandle" ∧ y_FR_firstFor.cls ≠ "java/lang/invoke/VarHandle" ∧ (parseMethodDescriptor y_FR_firstFor.desc).map (fun d => d.parameters.length) = some 1 := by decide +kernel
def y_FR_isEightfold : MethodName := ⟨"FieldRows", "isEightfold", "(JJJ)Z"⟩
abbrev b_FR_isEightfold : ByteArray := prog_1_method_17_code
abbrev w_FR_isEightfold : List Cond := .code y_FR_isEightfold b_FR_isEightfold 6 (some .boolean) :: kw_
theorem g_FR_isEightfold {c : Cond} : GoodIn (c :: kw_) w_FR_isEightfold := kw_g1 142 rfl rfl
theorem h_FR_isEightfold : y_FR_isEightfold.cls ≠ "java/lang/invoke/MethodHandle" ∧ y_FR_isEightfold.cls ≠ "java/lang/invoke/VarHandle" ∧ (parseMethodDescriptor y_FR_isEightfold.desc).map (fun d => d.parameters.length) = some 3 := by decide +kernel
def y_FR_isRecordLength : MethodName := ⟨"FieldRows", "isRecordLength", "(J)Z"⟩
abbrev b_FR_isRecordLength : ByteArray := prog_1_method_18_code
abbrev w_FR_isRecordLength : List Cond := .code y_FR_isRecordLength b_FR_isRecordLength 2 (some .boolean) :: kw_
theorem g_FR_isRecordLength {c : Cond} : GoodIn (c :: kw_) w_FR_isRecordLength := kw_g1 146 rfl rfl
theorem h_FR_isRecordLength : y_FR_isRecordLength.cls ≠ "java/lang/invoke/MethodHandle" ∧ y_FR_isRecordLength.cls ≠ "java/lang/invoke/VarHandle" ∧ (parseMethodDescriptor y_FR_isRecordLength.desc).map (fun d => d.parameters.length) = some 1 := by decide +kernel
def y_FR_quotient : MethodName := ⟨"FieldRows", "quotient", "(JJ)J"⟩
abbrev b_FR_quotient : ByteArray := prog_1_method_19_code
abbrev w_FR_quotient : List Cond := .code y_FR_quotient b_FR_quotient 4 (some .long) :: kw_
theorem g_FR_quotient {c : Cond} : GoodIn (c :: kw_) w_FR_quotient := kw_g1 120 rfl rfl
theorem h_FR_quotient : y_FR_quotient.cls ≠ "java/lang/invoke/MethodHandle" ∧ y_FR_quotient.cls ≠ "java/lang/invoke/VarHandle" ∧ (parseMethodDescriptor y_FR_quotient.desc).map (fun d => d.parameters.length) = some 2 := by decide +kernel
def y_FR_quotientUp : MethodName := ⟨"FieldRows", "quotientUp", "(JJ)J"⟩
abbrev b_FR_quotientUp : ByteArray := prog_1_method_20_code
abbrev w_FR_quotientUp : List Cond := .code y_FR_quotientUp b_FR_quotientUp 4 (some .long) :: kw_
theorem g_FR_quotientUp {c : Cond} : GoodIn (c :: kw_) w_FR_quotientUp := kw_g1 117 rfl rfl
theorem h_FR_quotientUp : y_FR_quotientUp.cls ≠ "java/lang/invoke/MethodHandle" ∧ y_FR_quotientUp.cls ≠ "java/lang/invoke/VarHandle" ∧ (parseMethodDescriptor y_FR_quotientUp.desc).map (fun d => d.parameters.length) = some 2 := by decide +kernel
def y_Mo_init : MethodName := ⟨"FieldRowsModel", "<init>", "()V"⟩
abbrev b_Mo_init : ByteArray := prog_5_method_1_code
abbrev w_Mo_init : List Cond := .code y_Mo_init b_Mo_init 2 none :: kw_
theorem g_Mo_init {c : Cond} : GoodIn (c :: kw_) w_Mo_init := kw_g2 56 rfl rfl
theorem h_Mo_init : y_Mo_init.cls ≠ "java/lang/invoke/MethodHandle" ∧ y_Mo_init.cls ≠ "java/lang/invoke/VarHandle" ∧ (parseMethodDescriptor y_Mo_init.desc).map (fun d => d.parameters.length) = some 0 := by decide +kernel
def y_Mo_rowOf : MethodName := ⟨"FieldRowsModel", "rowOf", "(I)[I"⟩
abbrev b_Mo_rowOf : ByteArray := prog_5_method_3_code
abbrev w_Mo_rowOf : List Cond := .code y_Mo_rowOf b_Mo_rowOf 2 (some (.array .int)) :: kw_
theorem g_Mo_rowOf {c : Cond} : GoodIn (c :: kw_) w_Mo_rowOf := kw_g2 166 rfl rfl
theorem h_Mo_rowOf : y_Mo_rowOf.cls ≠ "java/lang/invoke/MethodHandle" ∧ y_Mo_rowOf.cls ≠ "java/lang/invoke/VarHandle" ∧ (parseMethodDescriptor y_Mo_rowOf.desc).map (fun d => d.parameters.length) = some 1 := by decide +kernel
def y_Mo_isRow : MethodName := ⟨"FieldRowsModel", "isRow", "(I)Z"⟩
abbrev b_Mo_isRow : ByteArray := prog_5_method_4_code
abbrev w_Mo_isRow : List Cond := .code y_Mo_isRow b_Mo_isRow 1 (some .boolean) :: kw_
theorem g_Mo_isRow {c : Cond} : GoodIn (c :: kw_) w_Mo_isRow := kw_g2 162 rfl rfl
theorem h_Mo_isRow : y_Mo_isRow.cls ≠ "java/lang/invoke/MethodHandle" ∧ y_Mo_isRow.cls ≠ "java/lang/invoke/VarHandle" ∧ (parseMethodDescriptor y_Mo_isRow.desc).map (fun d => d.parameters.length) = some 1 := by decide +kernel
def y_Mo_field : MethodName := ⟨"FieldRowsModel", "field", "([III)J"⟩
abbrev b_Mo_field : ByteArray := prog_5_method_5_code
abbrev w_Mo_field : List Cond := .code y_Mo_field b_Mo_field 6 (some .long) :: kw_
theorem g_Mo_field {c : Cond} : GoodIn (c :: kw_) w_Mo_field := kw_g2 78 rfl rfl
theorem h_Mo_field : y_Mo_field.cls ≠ "java/lang/invoke/MethodHandle" ∧ y_Mo_field.cls ≠ "java/lang/invoke/VarHandle" ∧ (parseMethodDescriptor y_Mo_field.desc).map (fun d => d.parameters.length) = some 3 := by decide +kernel
def y_Mo_set : MethodName := ⟨"FieldRowsModel", "set", "([IIIJ)V"⟩
abbrev b_Mo_set : ByteArray := prog_5_method_6_code
abbrev w_Mo_set : List Cond := .code y_Mo_set b_Mo_set 6 none :: kw_
theorem g_Mo_set {c : Cond} : GoodIn (c :: kw_) w_Mo_set := kw_g2 64 rfl rfl
theorem h_Mo_set : y_Mo_set.cls ≠ "java/lang/invoke/MethodHandle" ∧ y_Mo_set.cls ≠ "java/lang/invoke/VarHandle" ∧ (parseMethodDescriptor y_Mo_set.desc).map (fun d => d.parameters.length) = some 4 := by decide +kernel
def y_Mo_has : MethodName := ⟨"FieldRowsModel", "has", "([III)Z"⟩
abbrev b_Mo_has : ByteArray := prog_5_method_7_code
abbrev w_Mo_has : List Cond := .code y_Mo_has b_Mo_has 3 (some .boolean) :: kw_
theorem g_Mo_has {c : Cond} : GoodIn (c :: kw_) w_Mo_has := kw_g2 125 rfl rfl
theorem h_Mo_has : y_Mo_has.cls ≠ "java/lang/invoke/MethodHandle" ∧ y_Mo_has.cls ≠ "java/lang/invoke/VarHandle" ∧ (parseMethodDescriptor y_Mo_has.desc).map (fun d => d.parameters.length) = some 3 := by decide +kernel
def y_Mo_up : MethodName := ⟨"FieldRowsModel", "up", "(JJ)J"⟩
abbrev b_Mo_up : ByteArray := prog_5_method_8_code
abbrev w_Mo_up : List Cond := .code y_Mo_up b_Mo_up 4 (some .long) :: kw_
theorem g_Mo_up {c : Cond} : GoodIn (c :: kw_) w_Mo_up := kw_g2 82 rfl rfl
theorem h_Mo_up : y_Mo_up.cls ≠ "java/lang/invoke/MethodHandle" ∧ y_Mo_up.cls ≠ "java/lang/invoke/VarHandle" ∧ (parseMethodDescriptor y_Mo_up.desc).map (fun d => d.parameters.length) = some 2 := by decide +kernel
def y_Mo_sizeOf : MethodName := ⟨"FieldRowsModel", "sizeOf", "([I)J"⟩
abbrev b_Mo_sizeOf : ByteArray := prog_5_method_9_code
abbrev w_Mo_sizeOf : List Cond := .code y_Mo_sizeOf b_Mo_sizeOf 1 (some .long) :: kw_
theorem g_Mo_sizeOf {c : Cond} : GoodIn (c :: kw_) w_Mo_sizeOf := kw_g2 92 rfl rfl
theorem h_Mo_sizeOf : y_Mo_sizeOf.cls ≠ "java/lang/invoke/MethodHandle" ∧ y_Mo_sizeOf.cls ≠ "java/lang/invoke/VarHandle" ∧ (parseMethodDescriptor y_Mo_sizeOf.desc).map (fun d => d.parameters.length) = some 1 := by decide +kernel
def y_Mo_groupsOf : MethodName := ⟨"FieldRowsModel", "groupsOf", "([I)J"⟩
abbrev b_Mo_groupsOf : ByteArray := prog_5_method_10_code
abbrev w_Mo_groupsOf : List Cond := .code y_Mo_groupsOf b_Mo_groupsOf 1 (some .long) :: kw_
theorem g_Mo_groupsOf {c : Cond} : GoodIn (c :: kw_) w_Mo_groupsOf := kw_g2 75 rfl rfl
theorem h_Mo_groupsOf : y_Mo_groupsOf.cls ≠ "java/lang/invoke/MethodHandle" ∧ y_Mo_groupsOf.cls ≠ "java/lang/invoke/VarHandle" ∧ (parseMethodDescriptor y_Mo_groupsOf.desc).map (fun d => d.parameters.length) = some 1 := by decide +kernel
def y_Mo_isPower : MethodName := ⟨"FieldRowsModel", "isPower", "(JJ)Z"⟩
abbrev b_Mo_isPower : ByteArray := prog_5_method_11_code
abbrev w_Mo_isPower : List Cond := .code y_Mo_isPower b_Mo_isPower 6 (some .boolean) :: kw_
theorem g_Mo_isPower {c : Cond} : GoodIn (c :: kw_) w_Mo_isPower := kw_g2 128 rfl rfl
theorem h_Mo_isPower : y_Mo_isPower.cls ≠ "java/lang/invoke/MethodHandle" ∧ y_Mo_isPower.cls ≠ "java/lang/invoke/VarHandle" ∧ (parseMethodDescriptor y_Mo_isPower.desc).map (fun d => d.parameters.length) = some 2 := by decide +kernel
def y_Mo_hasCopy : MethodName := ⟨"FieldRowsModel", "hasCopy", "([IJ)Z"⟩
abbrev b_Mo_hasCopy : ByteArray := prog_5_method_12_code
abbrev w_Mo_hasCopy : List Cond := .code y_Mo_hasCopy b_Mo_hasCopy 3 (some .boolean) :: kw_
theorem g_Mo_hasCopy {c : Cond} : GoodIn (c :: kw_) w_Mo_hasCopy := kw_g2 122 rfl rfl
theorem h_Mo_hasCopy : y_Mo_hasCopy.cls ≠ "java/lang/invoke/MethodHandle" ∧ y_Mo_hasCopy.cls ≠ "java/lang/invoke/VarHandle" ∧ (parseMethodDescriptor y_Mo_hasCopy.desc).map (fun d => d.parameters.length) = some 2 := by decide +kernel
def y_Mo_beginOf : MethodName := ⟨"FieldRowsModel", "beginOf", "([IJ)J"⟩
abbrev b_Mo_beginOf : ByteArray := prog_5_method_13_code
abbrev w_Mo_beginOf : List Cond := .code y_Mo_beginOf b_Mo_beginOf 3 (some .long) :: kw_
theorem g_Mo_beginOf {c : Cond} : GoodIn (c :: kw_) w_Mo_beginOf := kw_g2 113 rfl rfl
theorem h_Mo_beginOf : y_Mo_beginOf.cls ≠ "java/lang/invoke/MethodHandle" ∧ y_Mo_beginOf.cls ≠ "java/lang/invoke/VarHandle" ∧ (parseMethodDescriptor y_Mo_beginOf.desc).map (fun d => d.parameters.length) = some 2 := by decide +kernel
def y_Mo_blocksOf : MethodName := ⟨"FieldRowsModel", "blocksOf", "([IJ)J"⟩
abbrev b_Mo_blocksOf : ByteArray := prog_5_method_14_code
abbrev w_Mo_blocksOf : List Cond := .code y_Mo_blocksOf b_Mo_blocksOf 5 (some .long) :: kw_
theorem g_Mo_blocksOf {c : Cond} : GoodIn (c :: kw_) w_Mo_blocksOf := kw_g2 110 rfl rfl
theorem h_Mo_blocksOf : y_Mo_blocksOf.cls ≠ "java/lang/invoke/MethodHandle" ∧ y_Mo_blocksOf.cls ≠ "java/lang/invoke/VarHandle" ∧ (parseMethodDescriptor y_Mo_blocksOf.desc).map (fun d => d.parameters.length) = some 2 := by decide +kernel
def y_Mo_headOf : MethodName := ⟨"FieldRowsModel", "headOf", "([IJ)J"⟩
abbrev b_Mo_headOf : ByteArray := prog_5_method_15_code
abbrev w_Mo_headOf : List Cond := .code y_Mo_headOf b_Mo_headOf 3 (some .long) :: kw_
theorem g_Mo_headOf {c : Cond} : GoodIn (c :: kw_) w_Mo_headOf := kw_g2 119 rfl rfl
theorem h_Mo_headOf : y_Mo_headOf.cls ≠ "java/lang/invoke/MethodHandle" ∧ y_Mo_headOf.cls ≠ "java/lang/invoke/VarHandle" ∧ (parseMethodDescriptor y_Mo_headOf.desc).map (fun d => d.parameters.length) = some 2 := by decide +kernel
def y_Mo_recordBlocks : MethodName := ⟨"FieldRowsModel", "recordBlocks", "([I)J"⟩
abbrev b_Mo_recordBlocks : ByteArray := prog_5_method_16_code
abbrev w_Mo_recordBlocks : List Cond := .code y_Mo_recordBlocks b_Mo_recordBlocks 1 (some .long) :: kw_
theorem g_Mo_recordBlocks {c : Cond} : GoodIn (c :: kw_) w_Mo_recordBlocks := kw_g2 134 rfl rfl
theorem h_Mo_recordBlocks : y_Mo_recordBlocks.cls ≠ "java/lang/invoke/MethodHandle" ∧ y_Mo_recordBlocks.cls ≠ "java/lang/invoke/VarHandle" ∧ (parseMethodDescriptor y_Mo_recordBlocks.desc).map (fun d => d.parameters.length) = some 1 := by decide +kernel
def y_Mo_fixedOf : MethodName := ⟨"FieldRowsModel", "fixedOf", "([IJ)J"⟩
abbrev b_Mo_fixedOf : ByteArray := prog_5_method_17_code
abbrev w_Mo_fixedOf : List Cond := .code y_Mo_fixedOf b_Mo_fixedOf 3 (some .long) :: kw_
theorem g_Mo_fixedOf {c : Cond} : GoodIn (c :: kw_) w_Mo_fixedOf := kw_g2 116 rfl rfl
theorem h_Mo_fixedOf : y_Mo_fixedOf.cls ≠ "java/lang/invoke/MethodHandle" ∧ y_Mo_fixedOf.cls ≠ "java/lang/invoke/VarHandle" ∧ (parseMethodDescriptor y_Mo_fixedOf.desc).map (fun d => d.parameters.length) = some 2 := by decide +kernel
def y_Mo_isIn : MethodName := ⟨"FieldRowsModel", "isIn", "(JJJ)Z"⟩
abbrev b_Mo_isIn : ByteArray := prog_5_method_18_code
abbrev w_Mo_isIn : List Cond := .code y_Mo_isIn b_Mo_isIn 6 (some .boolean) :: kw_
theorem g_Mo_isIn {c : Cond} : GoodIn (c :: kw_) w_Mo_isIn := kw_g2 97 rfl rfl
theorem h_Mo_isIn : y_Mo_isIn.cls ≠ "java/lang/invoke/MethodHandle" ∧ y_Mo_isIn.cls ≠ "java/lang/invoke/VarHandle" ∧ (parseMethodDescriptor y_Mo_isIn.desc).map (fun d => d.parameters.length) = some 3 := by decide +kernel
def y_Mo_faultOfSizes : MethodName := ⟨"FieldRowsModel", "faultOfSizes", "([I)I"⟩
abbrev b_Mo_faultOfSizes : ByteArray := prog_5_method_19_code
abbrev w_Mo_faultOfSizes : List Cond := .code y_Mo_faultOfSizes b_Mo_faultOfSizes 11 (some .int) :: kw_
theorem g_Mo_faultOfSizes {c : Cond} : GoodIn (c :: kw_) w_Mo_faultOfSizes := kw_g2 88 rfl rfl
theorem h_Mo_faultOfSizes : y_Mo_faultOfSizes.cls ≠ "java/lang/invoke/MethodHandle" ∧ y_Mo_faultOfSizes.cls ≠ "java/lang/invoke/VarHandle" ∧ (parseMethodDescriptor y_Mo_faultOfSizes.desc).map (fun d => d.parameters.length) = some 1 := by decide +kernel
def y_Mo_areBlocksRight : MethodName := ⟨"FieldRowsModel", "areBlocksRight", "([I)Z"⟩
abbrev b_Mo_areBlocksRight : ByteArray := prog_5_method_20_code
abbrev w_Mo_areBlocksRight : List Cond := .code y_Mo_areBlocksRight b_Mo_areBlocksRight 6 (some .boolean) :: kw_
theorem g_Mo_areBlocksRight {c : Cond} : GoodIn (c :: kw_) w_Mo_areBlocksRight := kw_g2 106 rfl rfl
theorem h_Mo_areBlocksRight : y_Mo_areBlocksRight.cls ≠ "java/lang/invoke/MethodHandle" ∧ y_Mo_areBlocksRight.cls ≠ "java/lang/invoke/VarHandle" ∧ (parseMethodDescriptor y_Mo_areBlocksRight.desc).map (fun d => d.parameters.length) = some 1 := by decide +kernel
def y_Mo_faultOfCounts : MethodName := ⟨"FieldRowsModel", "faultOfCounts", "([I)I"⟩
abbrev b_Mo_faultOfCounts : ByteArray := prog_5_method_21_code
abbrev w_Mo_faultOfCounts : List Cond := .code y_Mo_faultOfCounts b_Mo_faultOfCounts 7 (some .int) :: kw_
theorem g_Mo_faultOfCounts {c : Cond} : GoodIn (c :: kw_) w_Mo_faultOfCounts := kw_g2 103 rfl rfl
theorem h_Mo_faultOfCounts : y_Mo_faultOfCounts.cls ≠ "java/lang/invoke/MethodHandle" ∧ y_Mo_faultOfCounts.cls ≠ "java/lang/invoke/VarHandle" ∧ (parseMethodDescriptor y_Mo_faultOfCounts.desc).map (fun d => d.parameters.length) = some 1 := by decide +kernel
def y_Mo_isListed : MethodName := ⟨"FieldRowsModel", "isListed", "(II)Z"⟩
abbrev b_Mo_isListed : ByteArray := prog_5_method_22_code
abbrev w_Mo_isListed : List Cond := .code y_Mo_isListed b_Mo_isListed 2 (some .boolean) :: kw_
theorem g_Mo_isListed {c : Cond} : GoodIn (c :: kw_) w_Mo_isListed := kw_g2 140 rfl rfl
theorem h_Mo_isListed : y_Mo_isListed.cls ≠ "java/lang/invoke/MethodHandle" ∧ y_Mo_isListed.cls ≠ "java/lang/invoke/VarHandle" ∧ (parseMethodDescriptor y_Mo_isListed.desc).map (fun d => d.parameters.length) = some 2 := by decide +kernel
def y_Mo_faultOfFeatures : MethodName := ⟨"FieldRowsModel", "faultOfFeatures", "([I)I"⟩
abbrev b_Mo_faultOfFeatures : ByteArray := prog_5_method_23_code
abbrev w_Mo_faultOfFeatures : List Cond := .code y_Mo_faultOfFeatures b_Mo_faultOfFeatures 3 (some .int) :: kw_
theorem g_Mo_faultOfFeatures {c : Cond} : GoodIn (c :: kw_) w_Mo_faultOfFeatures := kw_g2 137 rfl rfl
theorem h_Mo_faultOfFeatures : y_Mo_faultOfFeatures.cls ≠ "java/lang/invoke/MethodHandle" ∧ y_Mo_faultOfFeatures.cls ≠ "java/lang/invoke/VarHandle" ∧ (parseMethodDescriptor y_Mo_faultOfFeatures.desc).map (fun d => d.parameters.length) = some 1 := by decide +kernel
def y_Mo_faultOfRest : MethodName := ⟨"FieldRowsModel", "faultOfRest", "([I)I"⟩
abbrev b_Mo_faultOfRest : ByteArray := prog_5_method_24_code
abbrev w_Mo_faultOfRest : List Cond := .code y_Mo_faultOfRest b_Mo_faultOfRest 1 (some .int) :: kw_
theorem g_Mo_faultOfRest {c : Cond} : GoodIn (c :: kw_) w_Mo_faultOfRest := kw_g2 143 rfl rfl
theorem h_Mo_faultOfRest : y_Mo_faultOfRest.cls ≠ "java/lang/invoke/MethodHandle" ∧ y_Mo_faultOfRest.cls ≠ "java/lang/invoke/VarHandle" ∧ (parseMethodDescriptor y_Mo_faultOfRest.desc).map (fun d => d.parameters.length) = some 1 := by decide +kernel
def y_Mo_faultOf : MethodName := ⟨"FieldRowsModel", "faultOf", "([I)I"⟩
abbrev b_Mo_faultOf : ByteArray := prog_5_method_25_code
abbrev w_Mo_faultOf : List Cond := .code y_Mo_faultOf b_Mo_faultOf 2 (some .int) :: kw_
theorem g_Mo_faultOf {c : Cond} : GoodIn (c :: kw_) w_Mo_faultOf := kw_g2 85 rfl rfl
theorem h_Mo_faultOf : y_Mo_faultOf.cls ≠ "java/lang/invoke/MethodHandle" ∧ y_Mo_faultOf.cls ≠ "java/lang/invoke/VarHandle" ∧ (parseMethodDescriptor y_Mo_faultOf.desc).map (fun d => d.parameters.length) = some 1 := by decide +kernel
def y_Mo_isRight : MethodName := ⟨"FieldRowsModel", "isRight", "()Z"⟩
abbrev b_Mo_isRight : ByteArray := prog_5_method_26_code
abbrev w_Mo_isRight : List Cond := .code y_Mo_isRight b_Mo_isRight 1 (some .boolean) :: kw_
theorem g_Mo_isRight {c : Cond} : GoodIn (c :: kw_) w_Mo_isRight := kw_g2 190 rfl rfl
theorem h_Mo_isRight : y_Mo_isRight.cls ≠ "java/lang/invoke/MethodHandle" ∧ y_Mo_isRight.cls ≠ "java/lang/invoke/VarHandle" ∧ (parseMethodDescriptor y_Mo_isRight.desc).map (fun d => d.parameters.length) = some 0 := by decide +kernel
def y_Mo_lay : MethodName := ⟨"FieldRowsModel", "lay", "(IIIII)I"⟩
abbrev b_Mo_lay : ByteArray := prog_5_method_27_code
abbrev w_Mo_lay : List Cond := .code y_Mo_lay b_Mo_lay 7 (some .int) :: kw_
theorem g_Mo_lay {c : Cond} : GoodIn (c :: kw_) w_Mo_lay := kw_g2 61 rfl rfl
theorem h_Mo_lay : y_Mo_lay.cls ≠ "java/lang/invoke/MethodHandle" ∧ y_Mo_lay.cls ≠ "java/lang/invoke/VarHandle" ∧ (parseMethodDescriptor y_Mo_lay.desc).map (fun d => d.parameters.length) = some 5 := by decide +kernel
def y_Mo_poke : MethodName := ⟨"FieldRowsModel", "poke", "(III)I"⟩
abbrev b_Mo_poke : ByteArray := prog_5_method_28_code
abbrev w_Mo_poke : List Cond := .code y_Mo_poke b_Mo_poke 5 (some .int) :: kw_
theorem g_Mo_poke {c : Cond} : GoodIn (c :: kw_) w_Mo_poke := kw_g2 159 rfl rfl
theorem h_Mo_poke : y_Mo_poke.cls ≠ "java/lang/invoke/MethodHandle" ∧ y_Mo_poke.cls ≠ "java/lang/invoke/VarHandle" ∧ (parseMethodDescriptor y_Mo_poke.desc).map (fun d => d.parameters.length) = some 3 := by decide +kernel
def y_Mo_isField : MethodName := ⟨"FieldRowsModel", "isField", "(III)Z"⟩
abbrev b_Mo_isField : ByteArray := prog_5_method_29_code
abbrev w_Mo_isField : List Cond := .code y_Mo_isField b_Mo_isField 3 (some .boolean) :: kw_
theorem g_Mo_isField {c : Cond} : GoodIn (c :: kw_) w_Mo_isField := kw_g2 173 rfl rfl
theorem h_Mo_isField : y_Mo_isField.cls ≠ "java/lang/invoke/MethodHandle" ∧ y_Mo_isField.cls ≠ "java/lang/invoke/VarHandle" ∧ (parseMethodDescriptor y_Mo_isField.desc).map (fun d => d.parameters.length) = some 3 := by decide +kernel
def y_Mo_put : MethodName := ⟨"FieldRowsModel", "put", "(IIII)I"⟩
abbrev b_Mo_put : ByteArray := prog_5_method_30_code
abbrev w_Mo_put : List Cond := .code y_Mo_put b_Mo_put 5 (some .int) :: kw_
theorem g_Mo_put {c : Cond} : GoodIn (c :: kw_) w_Mo_put := kw_g2 170 rfl rfl
theorem h_Mo_put : y_Mo_put.cls ≠ "java/lang/invoke/MethodHandle" ∧ y_Mo_put.cls ≠ "java/lang/invoke/VarHandle" ∧ (parseMethodDescriptor y_Mo_put.desc).map (fun d => d.parameters.length) = some 4 := by decide +kernel
def y_Mo_get : MethodName := ⟨"FieldRowsModel", "get", "(III)J"⟩
abbrev b_Mo_get : ByteArray := prog_5_method_31_code
abbrev w_Mo_get : List Cond := .code y_Mo_get b_Mo_get 4 (some .long) :: kw_
theorem g_Mo_get {c : Cond} : GoodIn (c :: kw_) w_Mo_get := kw_g2 177 rfl rfl
theorem h_Mo_get : y_Mo_get.cls ≠ "java/lang/invoke/MethodHandle" ∧ y_Mo_get.cls ≠ "java/lang/invoke/VarHandle" ∧ (parseMethodDescriptor y_Mo_get.desc).map (fun d => d.parameters.length) = some 3 := by decide +kernel
def y_Mo_fault : MethodName := ⟨"FieldRowsModel", "fault", "(I)I"⟩
abbrev b_Mo_fault : ByteArray := prog_5_method_32_code
abbrev w_Mo_fault : List Cond := .code y_Mo_fault b_Mo_fault 2 (some .int) :: kw_
theorem g_Mo_fault {c : Cond} : GoodIn (c :: kw_) w_Mo_fault := kw_g2 182 rfl rfl
theorem h_Mo_fault : y_Mo_fault.cls ≠ "java/lang/invoke/MethodHandle" ∧ y_Mo_fault.cls ≠ "java/lang/invoke/VarHandle" ∧ (parseMethodDescriptor y_Mo_fault.desc).map (fun d => d.parameters.length) = some 1 := by decide +kernel
def y_Mo_copy : MethodName := ⟨"FieldRowsModel", "copy", "(I)I"⟩
abbrev b_Mo_copy : ByteArray := prog_5_method_33_code
abbrev w_Mo_copy : List Cond := .code y_Mo_copy b_Mo_copy 3 (some .int) :: kw_
theorem g_Mo_copy {c : Cond} : GoodIn (c :: kw_) w_Mo_copy := kw_g2 186 rfl rfl
theorem h_Mo_copy : y_Mo_copy.cls ≠ "java/lang/invoke/MethodHandle" ∧ y_Mo_copy.cls ≠ "java/lang/invoke/VarHandle" ∧ (parseMethodDescriptor y_Mo_copy.desc).map (fun d => d.parameters.length) = some 1 := by decide +kernel
def y_Mo_mayDiffer : MethodName := ⟨"FieldRowsModel", "mayDiffer", "(I)Z"⟩
abbrev b_Mo_mayDiffer : ByteArray := prog_5_method_34_code
abbrev w_Mo_mayDiffer : List Cond := .code y_Mo_mayDiffer b_Mo_mayDiffer 1 (some .boolean) :: kw_
theorem g_Mo_mayDiffer {c : Cond} : GoodIn (c :: kw_) w_Mo_mayDiffer := kw_g2 197 rfl rfl
theorem h_Mo_mayDiffer : y_Mo_mayDiffer.cls ≠ "java/lang/invoke/MethodHandle" ∧ y_Mo_mayDiffer.cls ≠ "java/lang/invoke/VarHandle" ∧ (parseMethodDescriptor y_Mo_mayDiffer.desc).map (fun d => d.parameters.length) = some 1 := by decide +kernel
def y_Mo_differs : MethodName := ⟨"FieldRowsModel", "differs", "()I"⟩
abbrev b_Mo_differs : ByteArray := prog_5_method_35_code
abbrev w_Mo_differs : List Cond := .code y_Mo_differs b_Mo_differs 2 (some .int) :: kw_
theorem g_Mo_differs {c : Cond} : GoodIn (c :: kw_) w_Mo_differs := kw_g2 194 rfl rfl
theorem h_Mo_differs : y_Mo_differs.cls ≠ "java/lang/invoke/MethodHandle" ∧ y_Mo_differs.cls ≠ "java/lang/invoke/VarHandle" ∧ (parseMethodDescriptor y_Mo_differs.desc).map (fun d => d.parameters.length) = some 0 := by decide +kernel
def y_Mo_groups : MethodName := ⟨"FieldRowsModel", "groups", "()I"⟩
abbrev b_Mo_groups : ByteArray := prog_5_method_36_code
abbrev w_Mo_groups : List Cond := .code y_Mo_groups b_Mo_groups 1 (some .int) :: kw_
theorem g_Mo_groups {c : Cond} : GoodIn (c :: kw_) w_Mo_groups := kw_g2 211 rfl rfl
theorem h_Mo_groups : y_Mo_groups.cls ≠ "java/lang/invoke/MethodHandle" ∧ y_Mo_groups.cls ≠ "java/lang/invoke/VarHandle" ∧ (parseMethodDescriptor y_Mo_groups.desc).map (fun d => d.parameters.length) = some 0 := by decide +kernel
def y_Mo_where : MethodName := ⟨"FieldRowsModel", "where", "(II)I"⟩
abbrev b_Mo_where : ByteArray := prog_5_method_37_code
abbrev w_Mo_where : List Cond := .code y_Mo_where b_Mo_where 7 (some .int) :: kw_
theorem g_Mo_where {c : Cond} : GoodIn (c :: kw_) w_Mo_where := kw_g2 215 rfl rfl
theorem h_Mo_where : y_Mo_where.cls ≠ "java/lang/invoke/MethodHandle" ∧ y_Mo_where.cls ≠ "java/lang/invoke/VarHandle" ∧ (parseMethodDescriptor y_Mo_where.desc).map (fun d => d.parameters.length) = some 2 := by decide +kernel
def y_Mo_record : MethodName := ⟨"FieldRowsModel", "record", "(IZ)I"⟩
abbrev b_Mo_record : ByteArray := prog_5_method_38_code
abbrev w_Mo_record : List Cond := .code y_Mo_record b_Mo_record 9 (some .int) :: kw_
theorem g_Mo_record {c : Cond} : GoodIn (c :: kw_) w_Mo_record := kw_g2 219 rfl rfl
theorem h_Mo_record : y_Mo_record.cls ≠ "java/lang/invoke/MethodHandle" ∧ y_Mo_record.cls ≠ "java/lang/invoke/VarHandle" ∧ (parseMethodDescriptor y_Mo_record.desc).map (fun d => d.parameters.length) = some 2 := by decide +kernel
def y_Row_init : MethodName := ⟨"FieldRows$Row", "<init>", "()V"⟩
abbrev b_Row_init : ByteArray := prog_2_method_1_code
abbrev w_Row_init : List Cond := .code y_Row_init b_Row_init 1 none :: kw_
theorem g_Row_init {c : Cond} : GoodIn (c :: kw_) w_Row_init := kw_g1 18 rfl rfl
theorem h_Row_init : y_Row_init.cls ≠ "java/lang/invoke/MethodHandle" ∧ y_Row_init.cls ≠ "java/lang/invoke/VarHandle" ∧ (parseMethodDescriptor y_Row_init.desc).map (fun d => d.parameters.length) = some 0 := by decide +kernel
def y_Row_clear : MethodName := ⟨"FieldRows$Row", "clear", "()V"⟩
abbrev b_Row_clear : ByteArray := prog_2_method_2_code
abbrev w_Row_clear : List Cond := .code y_Row_clear b_Row_clear 2 none :: kw_
theorem g_Row_clear {c : Cond} : GoodIn (c :: kw_) w_Row_clear := kw_g1 82 rfl rfl
theorem h_Row_clear : y_Row_clear.cls ≠ "java/lang/invoke/MethodHandle" ∧ y_Row_clear.cls ≠ "java/lang/invoke/VarHandle" ∧ (parseMethodDescriptor y_Row_clear.desc).map (fun d => d.parameters.length) = some 0 := by decide +kernel
def y_Row_takeAll : MethodName := ⟨"FieldRows$Row", "takeAll", "(LFieldRows$Row;)V"⟩
abbrev b_Row_takeAll : ByteArray := prog_2_method_3_code
abbrev w_Row_takeAll : List Cond := .code y_Row_takeAll b_Row_takeAll 3 none :: kw_
theorem g_Row_takeAll {c : Cond} : GoodIn (c :: kw_) w_Row_takeAll := kw_g1 207 rfl rfl
theorem h_Row_takeAll : y_Row_takeAll.cls ≠ "java/lang/invoke/MethodHandle" ∧ y_Row_takeAll.cls ≠ "java/lang/invoke/VarHandle" ∧ (parseMethodDescriptor y_Row_takeAll.desc).map (fun d => d.parameters.length) = some 1 := by decide +kernel
def y_Row_field : MethodName := ⟨"FieldRows$Row", "field", "(II)J"⟩
abbrev b_Row_field : ByteArray := prog_2_method_4_code
abbrev w_Row_field : List Cond := .code y_Row_field b_Row_field 6 (some .long) :: kw_
theorem g_Row_field {c : Cond} : GoodIn (c :: kw_) w_Row_field := kw_g1 112 rfl rfl
theorem h_Row_field : y_Row_field.cls ≠ "java/lang/invoke/MethodHandle" ∧ y_Row_field.cls ≠ "java/lang/invoke/VarHandle" ∧ (parseMethodDescriptor y_Row_field.desc).map (fun d => d.parameters.length) = some 2 := by decide +kernel
def y_Row_write : MethodName := ⟨"FieldRows$Row", "write", "(IIJ)V"⟩
abbrev b_Row_write : ByteArray := prog_2_method_5_code
abbrev w_Row_write : List Cond := .code y_Row_write b_Row_write 6 none :: kw_
theorem g_Row_write {c : Cond} : GoodIn (c :: kw_) w_Row_write := kw_g1 91 rfl rfl
theorem h_Row_write : y_Row_write.cls ≠ "java/lang/invoke/MethodHandle" ∧ y_Row_write.cls ≠ "java/lang/invoke/VarHandle" ∧ (parseMethodDescriptor y_Row_write.desc).map (fun d => d.parameters.length) = some 3 := by decide +kernel
def y_Row_writeConstants : MethodName := ⟨"FieldRows$Row", "writeConstants", "()V"⟩
abbrev b_Row_writeConstants : ByteArray := prog_2_method_6_code
abbrev w_Row_writeConstants : List Cond := .code y_Row_writeConstants b_Row_writeConstants 1 none :: kw_
theorem g_Row_writeConstants {c : Cond} : GoodIn (c :: kw_) w_Row_writeConstants := kw_g1 86 rfl rfl
theorem h_Row_writeConstants : y_Row_writeConstants.cls ≠ "java/lang/invoke/MethodHandle" ∧ y_Row_writeConstants.cls ≠ "java/lang/invoke/VarHandle" ∧ (parseMethodDescriptor y_Row_writeConstants.desc).map (fun d => d.parameters.length) = some 0 := by decide +kernel
def y_Vol_init : MethodName := ⟨"FieldRows$Volume", "<init>", "()V"⟩
abbrev b_Vol_init : ByteArray := prog_3_method_1_code
abbrev w_Vol_init : List Cond := .code y_Vol_init b_Vol_init 1 none :: kw_
theorem g_Vol_init {c : Cond} : GoodIn (c :: kw_) w_Vol_init := kw_g1 29 rfl rfl
theorem h_Vol_init : y_Vol_init.cls ≠ "java/lang/invoke/MethodHandle" ∧ y_Vol_init.cls ≠ "java/lang/invoke/VarHandle" ∧ (parseMethodDescriptor y_Vol_init.desc).map (fun d => d.parameters.length) = some 0 := by decide +kernel
def y_Vol_readNumbers : MethodName := ⟨"FieldRows$Volume", "readNumbers", "(LFieldRows$Row;)V"⟩
abbrev b_Vol_readNumbers : ByteArray := prog_3_method_2_code
abbrev w_Vol_readNumbers : List Cond := .code y_Vol_readNumbers b_Vol_readNumbers 2 none :: kw_
theorem g_Vol_readNumbers {c : Cond} : GoodIn (c :: kw_) w_Vol_readNumbers := kw_g1 108 rfl rfl
theorem h_Vol_readNumbers : y_Vol_readNumbers.cls ≠ "java/lang/invoke/MethodHandle" ∧ y_Vol_readNumbers.cls ≠ "java/lang/invoke/VarHandle" ∧ (parseMethodDescriptor y_Vol_readNumbers.desc).map (fun d => d.parameters.length) = some 1 := by decide +kernel
def y_Vol_groupStart : MethodName := ⟨"FieldRows$Volume", "groupStart", "(J)J"⟩
abbrev b_Vol_groupStart : ByteArray := prog_3_method_3_code
abbrev w_Vol_groupStart : List Cond := .code y_Vol_groupStart b_Vol_groupStart 3 (some .long) :: kw_
theorem g_Vol_groupStart {c : Cond} : GoodIn (c :: kw_) w_Vol_groupStart := kw_g1 164 rfl rfl
theorem h_Vol_groupStart : y_Vol_groupStart.cls ≠ "java/lang/invoke/MethodHandle" ∧ y_Vol_groupStart.cls ≠ "java/lang/invoke/VarHandle" ∧ (parseMethodDescriptor y_Vol_groupStart.desc).map (fun d => d.parameters.length) = some 1 := by decide +kernel
def y_Vol_groupLength : MethodName := ⟨"FieldRows$Volume", "groupLength", "(J)J"⟩
abbrev b_Vol_groupLength : ByteArray := prog_3_method_4_code
abbrev w_Vol_groupLength : List Cond := .code y_Vol_groupLength b_Vol_groupLength 3 (some .long) :: kw_
theorem g_Vol_groupLength {c : Cond} : GoodIn (c :: kw_) w_Vol_groupLength := kw_g1 160 rfl rfl
theorem h_Vol_groupLength : y_Vol_groupLength.cls ≠ "java/lang/invoke/MethodHandle" ∧ y_Vol_groupLength.cls ≠ "java/lang/invoke/VarHandle" ∧ (parseMethodDescriptor y_Vol_groupLength.desc).map (fun d => d.parameters.length) = some 1 := by decide +kernel
def y_Vol_hasCopy : MethodName := ⟨"FieldRows$Volume", "hasCopy", "(J)Z"⟩
abbrev b_Vol_hasCopy : ByteArray := prog_3_method_5_code
abbrev w_Vol_hasCopy : List Cond := .code y_Vol_hasCopy b_Vol_hasCopy 4 (some .boolean) :: kw_
theorem g_Vol_hasCopy {c : Cond} : GoodIn (c :: kw_) w_Vol_hasCopy := kw_g1 179 rfl rfl
theorem h_Vol_hasCopy : y_Vol_hasCopy.cls ≠ "java/lang/invoke/MethodHandle" ∧ y_Vol_hasCopy.cls ≠ "java/lang/invoke/VarHandle" ∧ (parseMethodDescriptor y_Vol_hasCopy.desc).map (fun d => d.parameters.length) = some 1 := by decide +kernel
def y_Vol_blocksOfCopy : MethodName := ⟨"FieldRows$Volume", "blocksOfCopy", "(J)J"⟩
abbrev b_Vol_blocksOfCopy : ByteArray := prog_3_method_6_code
abbrev w_Vol_blocksOfCopy : List Cond := .code y_Vol_blocksOfCopy b_Vol_blocksOfCopy 3 (some .long) :: kw_
theorem g_Vol_blocksOfCopy {c : Cond} : GoodIn (c :: kw_) w_Vol_blocksOfCopy := kw_g1 175 rfl rfl
theorem h_Vol_blocksOfCopy : y_Vol_blocksOfCopy.cls ≠ "java/lang/invoke/MethodHandle" ∧ y_Vol_blocksOfCopy.cls ≠ "java/lang/invoke/VarHandle" ∧ (parseMethodDescriptor y_Vol_blocksOfCopy.desc).map (fun d => d.parameters.length) = some 1 := by decide +kernel
def y_Vol_blockBitmap : MethodName := ⟨"FieldRows$Volume", "blockBitmap", "(J)J"⟩
abbrev b_Vol_blockBitmap : ByteArray := prog_3_method_7_code
abbrev w_Vol_blockBitmap : List Cond := .code y_Vol_blockBitmap b_Vol_blockBitmap 3 (some .long) :: kw_
theorem g_Vol_blockBitmap {c : Cond} : GoodIn (c :: kw_) w_Vol_blockBitmap := kw_g2 36 rfl rfl
theorem h_Vol_blockBitmap : y_Vol_blockBitmap.cls ≠ "java/lang/invoke/MethodHandle" ∧ y_Vol_blockBitmap.cls ≠ "java/lang/invoke/VarHandle" ∧ (parseMethodDescriptor y_Vol_blockBitmap.desc).map (fun d => d.parameters.length) = some 1 := by decide +kernel
def y_Vol_fileBitmap : MethodName := ⟨"FieldRows$Volume", "fileBitmap", "(J)J"⟩
abbrev b_Vol_fileBitmap : ByteArray := prog_3_method_8_code
abbrev w_Vol_fileBitmap : List Cond := .code y_Vol_fileBitmap b_Vol_fileBitmap 3 (some .long) :: kw_
theorem g_Vol_fileBitmap {c : Cond} : GoodIn (c :: kw_) w_Vol_fileBitmap := kw_g2 40 rfl rfl
theorem h_Vol_fileBitmap : y_Vol_fileBitmap.cls ≠ "java/lang/invoke/MethodHandle" ∧ y_Vol_fileBitmap.cls ≠ "java/lang/invoke/VarHandle" ∧ (parseMethodDescriptor y_Vol_fileBitmap.desc).map (fun d => d.parameters.length) = some 1 := by decide +kernel
def y_Vol_recordStart : MethodName := ⟨"FieldRows$Volume", "recordStart", "(J)J"⟩
abbrev b_Vol_recordStart : ByteArray := prog_3_method_9_code
abbrev w_Vol_recordStart : List Cond := .code y_Vol_recordStart b_Vol_recordStart 3 (some .long) :: kw_
theorem g_Vol_recordStart {c : Cond} : GoodIn (c :: kw_) w_Vol_recordStart := kw_g2 45 rfl rfl
theorem h_Vol_recordStart : y_Vol_recordStart.cls ≠ "java/lang/invoke/MethodHandle" ∧ y_Vol_recordStart.cls ≠ "java/lang/invoke/VarHandle" ∧ (parseMethodDescriptor y_Vol_recordStart.desc).map (fun d => d.parameters.length) = some 1 := by decide +kernel
def y_Vol_fixedBlocks : MethodName := ⟨"FieldRows$Volume", "fixedBlocks", "(J)J"⟩
abbrev b_Vol_fixedBlocks : ByteArray := prog_3_method_10_code
abbrev w_Vol_fixedBlocks : List Cond := .code y_Vol_fixedBlocks b_Vol_fixedBlocks 3 (some .long) :: kw_
theorem g_Vol_fixedBlocks {c : Cond} : GoodIn (c :: kw_) w_Vol_fixedBlocks := kw_g1 171 rfl rfl
theorem h_Vol_fixedBlocks : y_Vol_fixedBlocks.cls ≠ "java/lang/invoke/MethodHandle" ∧ y_Vol_fixedBlocks.cls ≠ "java/lang/invoke/VarHandle" ∧ (parseMethodDescriptor y_Vol_fixedBlocks.desc).map (fun d => d.parameters.length) = some 1 := by decide +kernel
def y_Vol_firstFaultOf : MethodName := ⟨"FieldRows$Volume", "firstFaultOf", "(LFieldRows$Row;)I"⟩
abbrev b_Vol_firstFaultOf : ByteArray := prog_3_method_11_code
abbrev w_Vol_firstFaultOf : List Cond := .code y_Vol_firstFaultOf b_Vol_firstFaultOf 3 (some .int) :: kw_
theorem g_Vol_firstFaultOf {c : Cond} : GoodIn (c :: kw_) w_Vol_firstFaultOf := kw_g1 125 rfl rfl
theorem h_Vol_firstFaultOf : y_Vol_firstFaultOf.cls ≠ "java/lang/invoke/MethodHandle" ∧ y_Vol_firstFaultOf.cls ≠ "java/lang/invoke/VarHandle" ∧ (parseMethodDescriptor y_Vol_firstFaultOf.desc).map (fun d => d.parameters.length) = some 1 := by decide +kernel
def y_Vol_faultOfForm : MethodName := ⟨"FieldRows$Volume", "faultOfForm", "(LFieldRows$Row;)I"⟩
abbrev b_Vol_faultOfForm : ByteArray := prog_3_method_12_code
abbrev w_Vol_faultOfForm : List Cond := .code y_Vol_faultOfForm b_Vol_faultOfForm 2 (some .int) :: kw_
theorem g_Vol_faultOfForm {c : Cond} : GoodIn (c :: kw_) w_Vol_faultOfForm := kw_g1 130 rfl rfl
theorem h_Vol_faultOfForm : y_Vol_faultOfForm.cls ≠ "java/lang/invoke/MethodHandle" ∧ y_Vol_faultOfForm.cls ≠ "java/lang/invoke/VarHandle" ∧ (parseMethodDescriptor y_Vol_faultOfForm.desc).map (fun d => d.parameters.length) = some 1 := by decide +kernel
def y_Vol_faultOfGroupSizes : MethodName := ⟨"FieldRows$Volume", "faultOfGroupSizes", "(LFieldRows$Row;)I"⟩
abbrev b_Vol_faultOfGroupSizes : ByteArray := prog_3_method_13_code
abbrev w_Vol_faultOfGroupSizes : List Cond := .code y_Vol_faultOfGroupSizes b_Vol_faultOfGroupSizes 5 (some .int) :: kw_
theorem g_Vol_faultOfGroupSizes {c : Cond} : GoodIn (c :: kw_) w_Vol_faultOfGroupSizes := kw_g1 137 rfl rfl
theorem h_Vol_faultOfGroupSizes : y_Vol_faultOfGroupSizes.cls ≠ "java/lang/invoke/MethodHandle" ∧ y_Vol_faultOfGroupSizes.cls ≠ "java/lang/invoke/VarHandle" ∧ (parseMethodDescriptor y_Vol_faultOfGroupSizes.desc).map (fun d => d.parameters.length) = some 1 := by decide +kernel
def y_Vol_everyGroupHasRoom : MethodName := ⟨"FieldRows$Volume", "everyGroupHasRoom", "()Z"⟩
abbrev b_Vol_everyGroupHasRoom : ByteArray := prog_3_method_14_code
abbrev w_Vol_everyGroupHasRoom : List Cond := .code y_Vol_everyGroupHasRoom b_Vol_everyGroupHasRoom 2 (some .boolean) :: kw_
theorem g_Vol_everyGroupHasRoom {c : Cond} : GoodIn (c :: kw_) w_Vol_everyGroupHasRoom := kw_g1 155 rfl rfl
theorem h_Vol_everyGroupHasRoom : y_Vol_everyGroupHasRoom.cls ≠ "java/lang/invoke/MethodHandle" ∧ y_Vol_everyGroupHasRoom.cls ≠ "java/lang/invoke/VarHandle" ∧ (parseMethodDescriptor y_Vol_everyGroupHasRoom.desc).map (fun d => d.parameters.length) = some 0 := by decide +kernel
def y_Vol_faultOfCounts : MethodName := ⟨"FieldRows$Volume", "faultOfCounts", "(LFieldRows$Row;)I"⟩
abbrev b_Vol_faultOfCounts : ByteArray := prog_3_method_15_code
abbrev w_Vol_faultOfCounts : List Cond := .code y_Vol_faultOfCounts b_Vol_faultOfCounts 8 (some .int) :: kw_
theorem g_Vol_faultOfCounts {c : Cond} : GoodIn (c :: kw_) w_Vol_faultOfCounts := kw_g1 185 rfl rfl
theorem h_Vol_faultOfCounts : y_Vol_faultOfCounts.cls ≠ "java/lang/invoke/MethodHandle" ∧ y_Vol_faultOfCounts.cls ≠ "java/lang/invoke/VarHandle" ∧ (parseMethodDescriptor y_Vol_faultOfCounts.desc).map (fun d => d.parameters.length) = some 1 := by decide +kernel
def y_Vol_faultOfFeatures : MethodName := ⟨"FieldRows$Volume", "faultOfFeatures", "(LFieldRows$Row;)I"⟩
abbrev b_Vol_faultOfFeatures : ByteArray := prog_3_method_16_code
abbrev w_Vol_faultOfFeatures : List Cond := .code y_Vol_faultOfFeatures b_Vol_faultOfFeatures 5 (some .int) :: kw_
theorem g_Vol_faultOfFeatures {c : Cond} : GoodIn (c :: kw_) w_Vol_faultOfFeatures := kw_g1 191 rfl rfl
theorem h_Vol_faultOfFeatures : y_Vol_faultOfFeatures.cls ≠ "java/lang/invoke/MethodHandle" ∧ y_Vol_faultOfFeatures.cls ≠ "java/lang/invoke/VarHandle" ∧ (parseMethodDescriptor y_Vol_faultOfFeatures.desc).map (fun d => d.parameters.length) = some 1 := by decide +kernel
def y_Vol_unlistedFault : MethodName := ⟨"FieldRows$Volume", "unlistedFault", "(IJJ)I"⟩
abbrev b_Vol_unlistedFault : ByteArray := prog_3_method_17_code
abbrev w_Vol_unlistedFault : List Cond := .code y_Vol_unlistedFault b_Vol_unlistedFault 6 (some .int) :: kw_
theorem g_Vol_unlistedFault {c : Cond} : GoodIn (c :: kw_) w_Vol_unlistedFault := kw_g1 195 rfl rfl
theorem h_Vol_unlistedFault : y_Vol_unlistedFault.cls ≠ "java/lang/invoke/MethodHandle" ∧ y_Vol_unlistedFault.cls ≠ "java/lang/invoke/VarHandle" ∧ (parseMethodDescriptor y_Vol_unlistedFault.desc).map (fun d => d.parameters.length) = some 3 := by decide +kernel
def y_Vol_faultOfRest : MethodName := ⟨"FieldRows$Volume", "faultOfRest", "(LFieldRows$Row;)I"⟩
abbrev b_Vol_faultOfRest : ByteArray := prog_3_method_18_code
abbrev w_Vol_faultOfRest : List Cond := .code y_Vol_faultOfRest b_Vol_faultOfRest 8 (some .int) :: kw_
theorem g_Vol_faultOfRest {c : Cond} : GoodIn (c :: kw_) w_Vol_faultOfRest := kw_g1 202 rfl rfl
theorem h_Vol_faultOfRest : y_Vol_faultOfRest.cls ≠ "java/lang/invoke/MethodHandle" ∧ y_Vol_faultOfRest.cls ≠ "java/lang/invoke/VarHandle" ∧ (parseMethodDescriptor y_Vol_faultOfRest.desc).map (fun d => d.parameters.length) = some 1 := by decide +kernel
end
section
def kf_nwOk : Cond → Bool
  | .fieldLinkNest _ _ _ _ _ _ => true
  | .methodLinkNest _ _ _ _ => true
  | _ => false
def kf_nw : List Cond := lw_tbl.filter kf_nwOk
theorem kf_nw1 {w : Cond} (i : Nat) (h : tables_1_1[i]? = some w) (g : kf_nwOk w = true) : w ∈ kf_nw := List.mem_filter.mpr ⟨List.mem_append_right _ (List.mem_append_left _ (List.mem_of_getElem? h)), g⟩
theorem kf_nw2 {w : Cond} (i : Nat) (h : tables_1_2[i]? = some w) (g : kf_nwOk w = true) : w ∈ kf_nw := List.mem_filter.mpr ⟨List.mem_append_right _ (List.mem_append_right _ (List.mem_of_getElem? h)), g⟩
theorem kf_nwAll : ∀ w ∈ kf_nw, kf_nwOk w = true := fun w h => (List.mem_filter.mp h).2
theorem kf_nwTab : ∀ w ∈ kf_nw, w.onTables = true := fun w h => by
  have h := kf_nwAll w h
  cases w <;> first | rfl | exact absurd h (by simp [kf_nwOk])
theorem q1_0 {c : Cond} : (Jvm.Cond.initialized "FieldRowsLaw") ∈ c :: kw_ := kw_1 0 rfl rfl
theorem q1_1 {c : Cond} : (Jvm.Cond.initialized "FieldRows") ∈ c :: kw_ := kw_1 1 rfl rfl
theorem q1_2 {c : Cond} : (Jvm.Cond.initialized "FieldRows$Row") ∈ c :: kw_ := kw_1 2 rfl rfl
theorem q1_3 {c : Cond} : (Jvm.Cond.initialized "FieldRows$Volume") ∈ c :: kw_ := kw_1 3 rfl rfl
theorem q1_4 {c : Cond} : (Jvm.Cond.initialized "java/lang/Math") ∈ c :: kw_ := kw_1 4 rfl rfl
theorem q1_5 {c : Cond} : (Jvm.Cond.initialized "FieldRowsModel") ∈ c :: kw_ := kw_1 5 rfl rfl
theorem q1_6 {c : Cond} : (Jvm.Cond.classLink "FieldRowsLaw" (7 : Nat) "FieldRows") ∈ c :: kw_ := kw_1 6 rfl rfl
theorem q1_7 {c : Cond} : (Jvm.Cond.instantiable "FieldRows" (4 : Nat)) ∈ c :: kw_ := kw_1 7 rfl rfl
theorem q1_8 {c : Cond} : (Jvm.Cond.methodLink "FieldRowsLaw" (9 : Nat) ({ cls := "FieldRows", name := "<init>", desc := "()V" } : Jvm.MethodName)) ∈ c :: kw_ := kw_1 8 rfl rfl
theorem q1_9 {c : Cond} : (Jvm.Cond.instanceMethod ({ cls := "FieldRows", name := "<init>", desc := "()V" } : Jvm.MethodName)) ∈ c :: kw_ := kw_1 9 rfl rfl
theorem q1_10 {c : Cond} : (Jvm.Cond.code ({ cls := "FieldRows", name := "<init>", desc := "()V" } : Jvm.MethodName) prog_1_method_1_code (1 : Nat) (Option.none : Option Jvm.ClassFile.FieldType)) ∈ c :: kw_ := kw_1 10 rfl rfl
theorem q1_11 {c : Cond} : (Jvm.Cond.methodLink "FieldRows" (3 : Nat) ({ cls := "java/lang/Object", name := "<init>", desc := "()V" } : Jvm.MethodName)) ∈ c :: kw_ := kw_1 11 rfl rfl
theorem q1_12 {c : Cond} : (Jvm.Cond.instanceMethod ({ cls := "java/lang/Object", name := "<init>", desc := "()V" } : Jvm.MethodName)) ∈ c :: kw_ := kw_1 12 rfl rfl
theorem q1_13 {c : Cond} : (Jvm.Cond.code ({ cls := "java/lang/Object", name := "<init>", desc := "()V" } : Jvm.MethodName) object_method_1_code (1 : Nat) (Option.none : Option Jvm.ClassFile.FieldType)) ∈ c :: kw_ := kw_1 13 rfl rfl
theorem q1_14 {c : Cond} : (Jvm.Cond.classLink "FieldRows" (9 : Nat) "FieldRows$Row") ∈ c :: kw_ := kw_1 14 rfl rfl
theorem q1_15 {c : Cond} : (Jvm.Cond.instantiable "FieldRows$Row" (1 : Nat)) ∈ c :: kw_ := kw_1 15 rfl rfl
theorem q1_17 {c : Cond} : (Jvm.Cond.instanceMethod ({ cls := "FieldRows$Row", name := "<init>", desc := "()V" } : Jvm.MethodName)) ∈ c :: kw_ := kw_1 17 rfl rfl
theorem q1_18 {c : Cond} : (Jvm.Cond.code ({ cls := "FieldRows$Row", name := "<init>", desc := "()V" } : Jvm.MethodName) prog_2_method_1_code (1 : Nat) (Option.none : Option Jvm.ClassFile.FieldType)) ∈ c :: kw_ := kw_1 18 rfl rfl
theorem q1_19 {c : Cond} : (Jvm.Cond.methodLink "FieldRows$Row" (3 : Nat) ({ cls := "java/lang/Object", name := "<init>", desc := "()V" } : Jvm.MethodName)) ∈ c :: kw_ := kw_1 19 rfl rfl
theorem q1_20 {c : Cond} : (Jvm.Cond.fieldLink "FieldRows$Row" (9 : Nat) "FieldRows$Row" "bytes" "[B") ∈ c :: kw_ := kw_1 20 rfl rfl
theorem q1_21 {c : Cond} : (Jvm.Cond.laysFinal "FieldRows$Row" "FieldRows$Row" "bytes" "[B") ∈ c :: kw_ := kw_1 21 rfl rfl
theorem q1_24 {c : Cond} : (Jvm.Cond.arrayClass Jvm.ClassFile.FieldType.byte) ∈ c :: kw_ := kw_1 24 rfl rfl
theorem q1_25 {c : Cond} : (Jvm.Cond.classLink "FieldRows" (22 : Nat) "FieldRows$Volume") ∈ c :: kw_ := kw_1 25 rfl rfl
theorem q1_26 {c : Cond} : (Jvm.Cond.instantiable "FieldRows$Volume" (12 : Nat)) ∈ c :: kw_ := kw_1 26 rfl rfl
theorem q1_28 {c : Cond} : (Jvm.Cond.instanceMethod ({ cls := "FieldRows$Volume", name := "<init>", desc := "()V" } : Jvm.MethodName)) ∈ c :: kw_ := kw_1 28 rfl rfl
theorem q1_29 {c : Cond} : (Jvm.Cond.code ({ cls := "FieldRows$Volume", name := "<init>", desc := "()V" } : Jvm.MethodName) prog_3_method_1_code (1 : Nat) (Option.none : Option Jvm.ClassFile.FieldType)) ∈ c :: kw_ := kw_1 29 rfl rfl
theorem q1_30 {c : Cond} : (Jvm.Cond.methodLink "FieldRows$Volume" (3 : Nat) ({ cls := "java/lang/Object", name := "<init>", desc := "()V" } : Jvm.MethodName)) ∈ c :: kw_ := kw_1 30 rfl rfl
theorem q1_31 {c : Cond} : (Jvm.Cond.fieldLink "FieldRows$Volume" (15 : Nat) "FieldRows$Volume" "files" "J") ∈ c :: kw_ := kw_1 31 rfl rfl
theorem q1_33 {c : Cond} : (Jvm.Cond.fieldLink "FieldRows$Volume" (21 : Nat) "FieldRows$Volume" "blocks" "J") ∈ c :: kw_ := kw_1 33 rfl rfl
theorem q1_34 {c : Cond} : (Jvm.Cond.fieldLink "FieldRows$Volume" (24 : Nat) "FieldRows$Volume" "first" "J") ∈ c :: kw_ := kw_1 34 rfl rfl
theorem q1_35 {c : Cond} : (Jvm.Cond.fieldLink "FieldRows$Volume" (27 : Nat) "FieldRows$Volume" "shift" "J") ∈ c :: kw_ := kw_1 35 rfl rfl
theorem q1_36 {c : Cond} : (Jvm.Cond.fieldLink "FieldRows$Volume" (32 : Nat) "FieldRows$Volume" "size" "J") ∈ c :: kw_ := kw_1 36 rfl rfl
theorem q1_38 {c : Cond} : (Jvm.Cond.fieldLink "FieldRows$Volume" (35 : Nat) "FieldRows$Volume" "groupBlocks" "J") ∈ c :: kw_ := kw_1 38 rfl rfl
theorem q1_39 {c : Cond} : (Jvm.Cond.fieldLink "FieldRows$Volume" (38 : Nat) "FieldRows$Volume" "groupFiles" "J") ∈ c :: kw_ := kw_1 39 rfl rfl
theorem q1_41 {c : Cond} : (Jvm.Cond.fieldLink "FieldRows$Volume" (41 : Nat) "FieldRows$Volume" "recordBytes" "J") ∈ c :: kw_ := kw_1 41 rfl rfl
theorem q1_43 {c : Cond} : (Jvm.Cond.fieldLink "FieldRows$Volume" (44 : Nat) "FieldRows$Volume" "fewCopies" "Z") ∈ c :: kw_ := kw_1 43 rfl rfl
theorem q1_44 {c : Cond} : (Jvm.Cond.fieldLink "FieldRows$Volume" (52 : Nat) "FieldRows$Volume" "groupCount" "J") ∈ c :: kw_ := kw_1 44 rfl rfl
theorem q1_46 {c : Cond} : (Jvm.Cond.fieldLink "FieldRows$Volume" (57 : Nat) "FieldRows$Volume" "copyBlocks" "J") ∈ c :: kw_ := kw_1 46 rfl rfl
theorem q1_47 {c : Cond} : (Jvm.Cond.fieldLink "FieldRows$Volume" (60 : Nat) "FieldRows$Volume" "recordBlocks" "J") ∈ c :: kw_ := kw_1 47 rfl rfl
theorem q1_49 {c : Cond} : (Jvm.Cond.lays "FieldRows$Volume" "FieldRows$Volume" "files" "J") ∈ c :: kw_ := kw_1 49 rfl rfl
theorem q1_51 {c : Cond} : (Jvm.Cond.lays "FieldRows$Volume" "FieldRows$Volume" "blocks" "J") ∈ c :: kw_ := kw_1 51 rfl rfl
theorem q1_53 {c : Cond} : (Jvm.Cond.lays "FieldRows$Volume" "FieldRows$Volume" "first" "J") ∈ c :: kw_ := kw_1 53 rfl rfl
theorem q1_55 {c : Cond} : (Jvm.Cond.lays "FieldRows$Volume" "FieldRows$Volume" "shift" "J") ∈ c :: kw_ := kw_1 55 rfl rfl
theorem q1_57 {c : Cond} : (Jvm.Cond.lays "FieldRows$Volume" "FieldRows$Volume" "size" "J") ∈ c :: kw_ := kw_1 57 rfl rfl
theorem q1_59 {c : Cond} : (Jvm.Cond.lays "FieldRows$Volume" "FieldRows$Volume" "groupBlocks" "J") ∈ c :: kw_ := kw_1 59 rfl rfl
theorem q1_61 {c : Cond} : (Jvm.Cond.lays "FieldRows$Volume" "FieldRows$Volume" "groupFiles" "J") ∈ c :: kw_ := kw_1 61 rfl rfl
theorem q1_63 {c : Cond} : (Jvm.Cond.lays "FieldRows$Volume" "FieldRows$Volume" "recordBytes" "J") ∈ c :: kw_ := kw_1 63 rfl rfl
theorem q1_65 {c : Cond} : (Jvm.Cond.lays "FieldRows$Volume" "FieldRows$Volume" "fewCopies" "Z") ∈ c :: kw_ := kw_1 65 rfl rfl
theorem q1_67 {c : Cond} : (Jvm.Cond.lays "FieldRows$Volume" "FieldRows$Volume" "groupCount" "J") ∈ c :: kw_ := kw_1 67 rfl rfl
theorem q1_69 {c : Cond} : (Jvm.Cond.lays "FieldRows$Volume" "FieldRows$Volume" "copyBlocks" "J") ∈ c :: kw_ := kw_1 69 rfl rfl
theorem q1_71 {c : Cond} : (Jvm.Cond.lays "FieldRows$Volume" "FieldRows$Volume" "recordBlocks" "J") ∈ c :: kw_ := kw_1 71 rfl rfl
theorem q1_74 {c : Cond} : (Jvm.Cond.methodLink "FieldRows" (29 : Nat) ({ cls := "FieldRows", name := "lay", desc := "(IIIII)I" } : Jvm.MethodName)) ∈ c :: kw_ := kw_1 74 rfl rfl
theorem q1_75 {c : Cond} : (Jvm.Cond.instanceMethod ({ cls := "FieldRows", name := "lay", desc := "(IIIII)I" } : Jvm.MethodName)) ∈ c :: kw_ := kw_1 75 rfl rfl
theorem q1_76 {c : Cond} : (Jvm.Cond.selects "FieldRows" ({ cls := "FieldRows", name := "lay", desc := "(IIIII)I" } : Jvm.MethodName) ({ cls := "FieldRows", name := "lay", desc := "(IIIII)I" } : Jvm.MethodName)) ∈ c :: kw_ := kw_1 76 rfl rfl
theorem q1_77 {c : Cond} : (Jvm.Cond.code ({ cls := "FieldRows", name := "lay", desc := "(IIIII)I" } : Jvm.MethodName) prog_1_method_2_code (6 : Nat) (Option.some Jvm.ClassFile.FieldType.int)) ∈ c :: kw_ := kw_1 77 rfl rfl
theorem q1_78 {c : Cond} : (Jvm.Cond.constant "FieldRows" (33 : Nat) (65535 : Int32)) ∈ c :: kw_ := kw_1 78 rfl rfl
theorem q1_79 {c : Cond} : (Jvm.Cond.methodLink "FieldRows" (34 : Nat) ({ cls := "FieldRows$Row", name := "clear", desc := "()V" } : Jvm.MethodName)) ∈ c :: kw_ := kw_1 79 rfl rfl
theorem q1_80 {c : Cond} : (Jvm.Cond.instanceMethod ({ cls := "FieldRows$Row", name := "clear", desc := "()V" } : Jvm.MethodName)) ∈ c :: kw_ := kw_1 80 rfl rfl
theorem q1_81 {c : Cond} : (Jvm.Cond.selects "FieldRows$Row" ({ cls := "FieldRows$Row", name := "clear", desc := "()V" } : Jvm.MethodName) ({ cls := "FieldRows$Row", name := "clear", desc := "()V" } : Jvm.MethodName)) ∈ c :: kw_ := kw_1 81 rfl rfl
theorem q1_82 {c : Cond} : (Jvm.Cond.code ({ cls := "FieldRows$Row", name := "clear", desc := "()V" } : Jvm.MethodName) prog_2_method_2_code (2 : Nat) (Option.none : Option Jvm.ClassFile.FieldType)) ∈ c :: kw_ := kw_1 82 rfl rfl
theorem q1_83 {c : Cond} : (Jvm.Cond.methodLink "FieldRows" (37 : Nat) ({ cls := "FieldRows$Row", name := "writeConstants", desc := "()V" } : Jvm.MethodName)) ∈ c :: kw_ := kw_1 83 rfl rfl
theorem q1_84 {c : Cond} : (Jvm.Cond.instanceMethod ({ cls := "FieldRows$Row", name := "writeConstants", desc := "()V" } : Jvm.MethodName)) ∈ c :: kw_ := kw_1 84 rfl rfl
theorem q1_85 {c : Cond} : (Jvm.Cond.selects "FieldRows$Row" ({ cls := "FieldRows$Row", name := "writeConstants", desc := "()V" } : Jvm.MethodName) ({ cls := "FieldRows$Row", name := "writeConstants", desc := "()V" } : Jvm.MethodName)) ∈ c :: kw_ := kw_1 85 rfl rfl
theorem q1_86 {c : Cond} : (Jvm.Cond.code ({ cls := "FieldRows$Row", name := "writeConstants", desc := "()V" } : Jvm.MethodName) prog_2_method_6_code (1 : Nat) (Option.none : Option Jvm.ClassFile.FieldType)) ∈ c :: kw_ := kw_1 86 rfl rfl
theorem q1_87 {c : Cond} : (Jvm.Cond.constantLong "FieldRows$Row" (21 : Nat) (65535 : Int64)) ∈ c :: kw_ := kw_1 87 rfl rfl
theorem q1_88 {c : Cond} : (Jvm.Cond.methodLink "FieldRows$Row" (23 : Nat) ({ cls := "FieldRows$Row", name := "write", desc := "(IIJ)V" } : Jvm.MethodName)) ∈ c :: kw_ := kw_1 88 rfl rfl
theorem q1_89 {c : Cond} : (Jvm.Cond.instanceMethod ({ cls := "FieldRows$Row", name := "write", desc := "(IIJ)V" } : Jvm.MethodName)) ∈ c :: kw_ := kw_1 89 rfl rfl
theorem q1_90 {c : Cond} : (Jvm.Cond.selects "FieldRows$Row" ({ cls := "FieldRows$Row", name := "write", desc := "(IIJ)V" } : Jvm.MethodName) ({ cls := "FieldRows$Row", name := "write", desc := "(IIJ)V" } : Jvm.MethodName)) ∈ c :: kw_ := kw_1 90 rfl rfl
theorem q1_91 {c : Cond} : (Jvm.Cond.code ({ cls := "FieldRows$Row", name := "write", desc := "(IIJ)V" } : Jvm.MethodName) prog_2_method_5_code (6 : Nat) (Option.none : Option Jvm.ClassFile.FieldType)) ∈ c :: kw_ := kw_1 91 rfl rfl
theorem q1_93 {c : Cond} : (Jvm.Cond.static ({ cls := "FieldRows", name := "isField", desc := "(II)Z" } : Jvm.MethodName)) ∈ c :: kw_ := kw_1 93 rfl rfl
theorem q1_94 {c : Cond} : (Jvm.Cond.code ({ cls := "FieldRows", name := "isField", desc := "(II)Z" } : Jvm.MethodName) prog_1_method_14_code (2 : Nat) (Option.some Jvm.ClassFile.FieldType.boolean)) ∈ c :: kw_ := kw_1 94 rfl rfl
theorem q1_95 {c : Cond} : (Jvm.Cond.constantLong "FieldRows$Row" (27 : Nat) (61267 : Int64)) ∈ c :: kw_ := kw_1 95 rfl rfl
theorem q1_96 {c : Cond} : (Jvm.Cond.constantLong "FieldRows$Row" (29 : Nat) (11 : Int64)) ∈ c :: kw_ := kw_1 96 rfl rfl
theorem q1_97 {c : Cond} : (Jvm.Cond.constantLong "FieldRows$Row" (31 : Nat) (36 : Int64)) ∈ c :: kw_ := kw_1 97 rfl rfl
theorem q1_98 {c : Cond} : (Jvm.Cond.constantLong "FieldRows$Row" (33 : Nat) (66 : Int64)) ∈ c :: kw_ := kw_1 98 rfl rfl
theorem q1_99 {c : Cond} : (Jvm.Cond.constantLong "FieldRows$Row" (35 : Nat) (3 : Int64)) ∈ c :: kw_ := kw_1 99 rfl rfl
theorem q1_100 {c : Cond} : (Jvm.Cond.constantLong "FieldRows$Row" (37 : Nat) (8 : Int64)) ∈ c :: kw_ := kw_1 100 rfl rfl
theorem q1_101 {c : Cond} : (Jvm.Cond.methodLink "FieldRows" (40 : Nat) ({ cls := "FieldRows$Row", name := "write", desc := "(IIJ)V" } : Jvm.MethodName)) ∈ c :: kw_ := kw_1 101 rfl rfl
theorem q1_102 {c : Cond} : (Jvm.Cond.methodLink "FieldRows" (44 : Nat) ({ cls := "FieldRows", name := "firstFor", desc := "(J)I" } : Jvm.MethodName)) ∈ c :: kw_ := kw_1 102 rfl rfl
theorem q1_103 {c : Cond} : (Jvm.Cond.static ({ cls := "FieldRows", name := "firstFor", desc := "(J)I" } : Jvm.MethodName)) ∈ c :: kw_ := kw_1 103 rfl rfl
theorem q1_104 {c : Cond} : (Jvm.Cond.code ({ cls := "FieldRows", name := "firstFor", desc := "(J)I" } : Jvm.MethodName) prog_1_method_16_code (2 : Nat) (Option.some Jvm.ClassFile.FieldType.int)) ∈ c :: kw_ := kw_1 104 rfl rfl
theorem q1_105 {c : Cond} : (Jvm.Cond.methodLink "FieldRows" (48 : Nat) ({ cls := "FieldRows$Volume", name := "readNumbers", desc := "(LFieldRows$Row;)V" } : Jvm.MethodName)) ∈ c :: kw_ := kw_1 105 rfl rfl
theorem q1_106 {c : Cond} : (Jvm.Cond.instanceMethod ({ cls := "FieldRows$Volume", name := "readNumbers", desc := "(LFieldRows$Row;)V" } : Jvm.MethodName)) ∈ c :: kw_ := kw_1 106 rfl rfl
theorem q1_107 {c : Cond} : (Jvm.Cond.selects "FieldRows$Volume" ({ cls := "FieldRows$Volume", name := "readNumbers", desc := "(LFieldRows$Row;)V" } : Jvm.MethodName) ({ cls := "FieldRows$Volume", name := "readNumbers", desc := "(LFieldRows$Row;)V" } : Jvm.MethodName)) ∈ c :: kw_ := kw_1 107 rfl rfl
theorem q1_108 {c : Cond} : (Jvm.Cond.code ({ cls := "FieldRows$Volume", name := "readNumbers", desc := "(LFieldRows$Row;)V" } : Jvm.MethodName) prog_3_method_2_code (2 : Nat) (Option.none : Option Jvm.ClassFile.FieldType)) ∈ c :: kw_ := kw_1 108 rfl rfl
theorem q1_109 {c : Cond} : (Jvm.Cond.methodLink "FieldRows$Volume" (9 : Nat) ({ cls := "FieldRows$Row", name := "field", desc := "(II)J" } : Jvm.MethodName)) ∈ c :: kw_ := kw_1 109 rfl rfl
theorem q1_110 {c : Cond} : (Jvm.Cond.instanceMethod ({ cls := "FieldRows$Row", name := "field", desc := "(II)J" } : Jvm.MethodName)) ∈ c :: kw_ := kw_1 110 rfl rfl
theorem q1_111 {c : Cond} : (Jvm.Cond.selects "FieldRows$Row" ({ cls := "FieldRows$Row", name := "field", desc := "(II)J" } : Jvm.MethodName) ({ cls := "FieldRows$Row", name := "field", desc := "(II)J" } : Jvm.MethodName)) ∈ c :: kw_ := kw_1 111 rfl rfl
theorem q1_112 {c : Cond} : (Jvm.Cond.code ({ cls := "FieldRows$Row", name := "field", desc := "(II)J" } : Jvm.MethodName) prog_2_method_4_code (6 : Nat) (Option.some Jvm.ClassFile.FieldType.long)) ∈ c :: kw_ := kw_1 112 rfl rfl
theorem q1_113 {c : Cond} : (Jvm.Cond.constantLong "FieldRows$Row" (19 : Nat) (-1 : Int64)) ∈ c :: kw_ := kw_1 113 rfl rfl
theorem q1_114 {c : Cond} : (Jvm.Cond.constantLong "FieldRows$Volume" (30 : Nat) (1024 : Int64)) ∈ c :: kw_ := kw_1 114 rfl rfl
theorem q1_116 {c : Cond} : (Jvm.Cond.static ({ cls := "FieldRows", name := "quotientUp", desc := "(JJ)J" } : Jvm.MethodName)) ∈ c :: kw_ := kw_1 116 rfl rfl
theorem q1_117 {c : Cond} : (Jvm.Cond.code ({ cls := "FieldRows", name := "quotientUp", desc := "(JJ)J" } : Jvm.MethodName) prog_1_method_20_code (4 : Nat) (Option.some Jvm.ClassFile.FieldType.long)) ∈ c :: kw_ := kw_1 117 rfl rfl
theorem q1_118 {c : Cond} : (Jvm.Cond.methodLink "FieldRows" (116 : Nat) ({ cls := "FieldRows", name := "quotient", desc := "(JJ)J" } : Jvm.MethodName)) ∈ c :: kw_ := kw_1 118 rfl rfl
theorem q1_119 {c : Cond} : (Jvm.Cond.static ({ cls := "FieldRows", name := "quotient", desc := "(JJ)J" } : Jvm.MethodName)) ∈ c :: kw_ := kw_1 119 rfl rfl
theorem q1_120 {c : Cond} : (Jvm.Cond.code ({ cls := "FieldRows", name := "quotient", desc := "(JJ)J" } : Jvm.MethodName) prog_1_method_19_code (4 : Nat) (Option.some Jvm.ClassFile.FieldType.long)) ∈ c :: kw_ := kw_1 120 rfl rfl
theorem q1_121 {c : Cond} : (Jvm.Cond.constantLong "FieldRows$Volume" (55 : Nat) (32 : Int64)) ∈ c :: kw_ := kw_1 121 rfl rfl
theorem q1_122 {c : Cond} : (Jvm.Cond.methodLink "FieldRows" (56 : Nat) ({ cls := "FieldRows$Volume", name := "firstFaultOf", desc := "(LFieldRows$Row;)I" } : Jvm.MethodName)) ∈ c :: kw_ := kw_1 122 rfl rfl
theorem q1_123 {c : Cond} : (Jvm.Cond.instanceMethod ({ cls := "FieldRows$Volume", name := "firstFaultOf", desc := "(LFieldRows$Row;)I" } : Jvm.MethodName)) ∈ c :: kw_ := kw_1 123 rfl rfl
theorem q1_124 {c : Cond} : (Jvm.Cond.selects "FieldRows$Volume" ({ cls := "FieldRows$Volume", name := "firstFaultOf", desc := "(LFieldRows$Row;)I" } : Jvm.MethodName) ({ cls := "FieldRows$Volume", name := "firstFaultOf", desc := "(LFieldRows$Row;)I" } : Jvm.MethodName)) ∈ c :: kw_ := kw_1 124 rfl rfl
theorem q1_125 {c : Cond} : (Jvm.Cond.code ({ cls := "FieldRows$Volume", name := "firstFaultOf", desc := "(LFieldRows$Row;)I" } : Jvm.MethodName) prog_3_method_11_code (3 : Nat) (Option.some Jvm.ClassFile.FieldType.int)) ∈ c :: kw_ := kw_1 125 rfl rfl
theorem q1_126 {c : Cond} : (Jvm.Cond.methodLink "FieldRows$Volume" (91 : Nat) ({ cls := "FieldRows$Volume", name := "readNumbers", desc := "(LFieldRows$Row;)V" } : Jvm.MethodName)) ∈ c :: kw_ := kw_1 126 rfl rfl
theorem q1_127 {c : Cond} : (Jvm.Cond.methodLink "FieldRows$Volume" (95 : Nat) ({ cls := "FieldRows$Volume", name := "faultOfForm", desc := "(LFieldRows$Row;)I" } : Jvm.MethodName)) ∈ c :: kw_ := kw_1 127 rfl rfl
theorem q1_129 {c : Cond} : (Jvm.Cond.instanceMethod ({ cls := "FieldRows$Volume", name := "faultOfForm", desc := "(LFieldRows$Row;)I" } : Jvm.MethodName)) ∈ c :: kw_ := kw_1 129 rfl rfl
theorem q1_130 {c : Cond} : (Jvm.Cond.code ({ cls := "FieldRows$Volume", name := "faultOfForm", desc := "(LFieldRows$Row;)I" } : Jvm.MethodName) prog_3_method_12_code (2 : Nat) (Option.some Jvm.ClassFile.FieldType.int)) ∈ c :: kw_ := kw_1 130 rfl rfl
theorem q1_131 {c : Cond} : (Jvm.Cond.constantLong "FieldRows$Volume" (115 : Nat) (61267 : Int64)) ∈ c :: kw_ := kw_1 131 rfl rfl
theorem q1_132 {c : Cond} : (Jvm.Cond.constantLong "FieldRows$Volume" (89 : Nat) (2 : Int64)) ∈ c :: kw_ := kw_1 132 rfl rfl
theorem q1_134 {c : Cond} : (Jvm.Cond.methodLink "FieldRows$Volume" (99 : Nat) ({ cls := "FieldRows$Volume", name := "faultOfGroupSizes", desc := "(LFieldRows$Row;)I" } : Jvm.MethodName)) ∈ c :: kw_ := kw_1 134 rfl rfl
theorem q1_136 {c : Cond} : (Jvm.Cond.instanceMethod ({ cls := "FieldRows$Volume", name := "faultOfGroupSizes", desc := "(LFieldRows$Row;)I" } : Jvm.MethodName)) ∈ c :: kw_ := kw_1 136 rfl rfl
theorem q1_137 {c : Cond} : (Jvm.Cond.code ({ cls := "FieldRows$Volume", name := "faultOfGroupSizes", desc := "(LFieldRows$Row;)I" } : Jvm.MethodName) prog_3_method_13_code (5 : Nat) (Option.some Jvm.ClassFile.FieldType.int)) ∈ c :: kw_ := kw_1 137 rfl rfl
theorem q1_138 {c : Cond} : (Jvm.Cond.constantLong "FieldRows$Volume" (121 : Nat) (8 : Int64)) ∈ c :: kw_ := kw_1 138 rfl rfl
theorem q1_139 {c : Cond} : (Jvm.Cond.constantLong "FieldRows$Volume" (123 : Nat) (64 : Int64)) ∈ c :: kw_ := kw_1 139 rfl rfl
theorem q1_141 {c : Cond} : (Jvm.Cond.static ({ cls := "FieldRows", name := "isEightfold", desc := "(JJJ)Z" } : Jvm.MethodName)) ∈ c :: kw_ := kw_1 141 rfl rfl
theorem q1_142 {c : Cond} : (Jvm.Cond.code ({ cls := "FieldRows", name := "isEightfold", desc := "(JJJ)Z" } : Jvm.MethodName) prog_1_method_17_code (6 : Nat) (Option.some Jvm.ClassFile.FieldType.boolean)) ∈ c :: kw_ := kw_1 142 rfl rfl
theorem q1_143 {c : Cond} : (Jvm.Cond.constantLong "FieldRows" (130 : Nat) (7 : Int64)) ∈ c :: kw_ := kw_1 143 rfl rfl
theorem q1_145 {c : Cond} : (Jvm.Cond.static ({ cls := "FieldRows", name := "isRecordLength", desc := "(J)Z" } : Jvm.MethodName)) ∈ c :: kw_ := kw_1 145 rfl rfl
theorem q1_146 {c : Cond} : (Jvm.Cond.code ({ cls := "FieldRows", name := "isRecordLength", desc := "(J)Z" } : Jvm.MethodName) prog_1_method_18_code (2 : Nat) (Option.some Jvm.ClassFile.FieldType.boolean)) ∈ c :: kw_ := kw_1 146 rfl rfl
theorem q1_147 {c : Cond} : (Jvm.Cond.constantLong "FieldRows" (132 : Nat) (128 : Int64)) ∈ c :: kw_ := kw_1 147 rfl rfl
theorem q1_148 {c : Cond} : (Jvm.Cond.constantLong "FieldRows" (134 : Nat) (256 : Int64)) ∈ c :: kw_ := kw_1 148 rfl rfl
theorem q1_149 {c : Cond} : (Jvm.Cond.constantLong "FieldRows" (136 : Nat) (512 : Int64)) ∈ c :: kw_ := kw_1 149 rfl rfl
theorem q1_150 {c : Cond} : (Jvm.Cond.constantLong "FieldRows" (138 : Nat) (1024 : Int64)) ∈ c :: kw_ := kw_1 150 rfl rfl
theorem q1_151 {c : Cond} : (Jvm.Cond.constantLong "FieldRows$Volume" (132 : Nat) (16 : Int64)) ∈ c :: kw_ := kw_1 151 rfl rfl
theorem q1_152 {c : Cond} : (Jvm.Cond.methodLink "FieldRows$Volume" (102 : Nat) ({ cls := "FieldRows$Volume", name := "everyGroupHasRoom", desc := "()Z" } : Jvm.MethodName)) ∈ c :: kw_ := kw_1 152 rfl rfl
theorem q1_154 {c : Cond} : (Jvm.Cond.instanceMethod ({ cls := "FieldRows$Volume", name := "everyGroupHasRoom", desc := "()Z" } : Jvm.MethodName)) ∈ c :: kw_ := kw_1 154 rfl rfl
theorem q1_155 {c : Cond} : (Jvm.Cond.code ({ cls := "FieldRows$Volume", name := "everyGroupHasRoom", desc := "()Z" } : Jvm.MethodName) prog_3_method_14_code (2 : Nat) (Option.some Jvm.ClassFile.FieldType.boolean)) ∈ c :: kw_ := kw_1 155 rfl rfl
theorem q1_156 {c : Cond} : (Jvm.Cond.constantLong "FieldRows$Volume" (134 : Nat) (16777216 : Int64)) ∈ c :: kw_ := kw_1 156 rfl rfl
theorem q1_157 {c : Cond} : (Jvm.Cond.methodLink "FieldRows$Volume" (136 : Nat) ({ cls := "FieldRows$Volume", name := "groupLength", desc := "(J)J" } : Jvm.MethodName)) ∈ c :: kw_ := kw_1 157 rfl rfl
theorem q1_158 {c : Cond} : (Jvm.Cond.instanceMethod ({ cls := "FieldRows$Volume", name := "groupLength", desc := "(J)J" } : Jvm.MethodName)) ∈ c :: kw_ := kw_1 158 rfl rfl
theorem q1_159 {c : Cond} : (Jvm.Cond.selects "FieldRows$Volume" ({ cls := "FieldRows$Volume", name := "groupLength", desc := "(J)J" } : Jvm.MethodName) ({ cls := "FieldRows$Volume", name := "groupLength", desc := "(J)J" } : Jvm.MethodName)) ∈ c :: kw_ := kw_1 159 rfl rfl
theorem q1_160 {c : Cond} : (Jvm.Cond.code ({ cls := "FieldRows$Volume", name := "groupLength", desc := "(J)J" } : Jvm.MethodName) prog_3_method_4_code (3 : Nat) (Option.some Jvm.ClassFile.FieldType.long)) ∈ c :: kw_ := kw_1 160 rfl rfl
theorem q1_161 {c : Cond} : (Jvm.Cond.methodLink "FieldRows$Volume" (63 : Nat) ({ cls := "FieldRows$Volume", name := "groupStart", desc := "(J)J" } : Jvm.MethodName)) ∈ c :: kw_ := kw_1 161 rfl rfl
theorem q1_162 {c : Cond} : (Jvm.Cond.instanceMethod ({ cls := "FieldRows$Volume", name := "groupStart", desc := "(J)J" } : Jvm.MethodName)) ∈ c :: kw_ := kw_1 162 rfl rfl
theorem q1_163 {c : Cond} : (Jvm.Cond.selects "FieldRows$Volume" ({ cls := "FieldRows$Volume", name := "groupStart", desc := "(J)J" } : Jvm.MethodName) ({ cls := "FieldRows$Volume", name := "groupStart", desc := "(J)J" } : Jvm.MethodName)) ∈ c :: kw_ := kw_1 163 rfl rfl
theorem q1_164 {c : Cond} : (Jvm.Cond.code ({ cls := "FieldRows$Volume", name := "groupStart", desc := "(J)J" } : Jvm.MethodName) prog_3_method_3_code (3 : Nat) (Option.some Jvm.ClassFile.FieldType.long)) ∈ c :: kw_ := kw_1 164 rfl rfl
theorem q1_165 {c : Cond} : (Jvm.Cond.methodLink "FieldRows$Volume" (67 : Nat) ({ cls := "java/lang/Math", name := "min", desc := "(JJ)J" } : Jvm.MethodName)) ∈ c :: kw_ := kw_1 165 rfl rfl
theorem q1_166 {c : Cond} : (Jvm.Cond.static ({ cls := "java/lang/Math", name := "min", desc := "(JJ)J" } : Jvm.MethodName)) ∈ c :: kw_ := kw_1 166 rfl rfl
theorem q1_167 {c : Cond} : (Jvm.Cond.code ({ cls := "java/lang/Math", name := "min", desc := "(JJ)J" } : Jvm.MethodName) prog_6_method_70_code (4 : Nat) (Option.some Jvm.ClassFile.FieldType.long)) ∈ c :: kw_ := kw_1 167 rfl rfl
theorem q1_168 {c : Cond} : (Jvm.Cond.methodLink "FieldRows$Volume" (139 : Nat) ({ cls := "FieldRows$Volume", name := "fixedBlocks", desc := "(J)J" } : Jvm.MethodName)) ∈ c :: kw_ := kw_1 168 rfl rfl
theorem q1_169 {c : Cond} : (Jvm.Cond.instanceMethod ({ cls := "FieldRows$Volume", name := "fixedBlocks", desc := "(J)J" } : Jvm.MethodName)) ∈ c :: kw_ := kw_1 169 rfl rfl
theorem q1_170 {c : Cond} : (Jvm.Cond.selects "FieldRows$Volume" ({ cls := "FieldRows$Volume", name := "fixedBlocks", desc := "(J)J" } : Jvm.MethodName) ({ cls := "FieldRows$Volume", name := "fixedBlocks", desc := "(J)J" } : Jvm.MethodName)) ∈ c :: kw_ := kw_1 170 rfl rfl
theorem q1_171 {c : Cond} : (Jvm.Cond.code ({ cls := "FieldRows$Volume", name := "fixedBlocks", desc := "(J)J" } : Jvm.MethodName) prog_3_method_10_code (3 : Nat) (Option.some Jvm.ClassFile.FieldType.long)) ∈ c :: kw_ := kw_1 171 rfl rfl
theorem q1_172 {c : Cond} : (Jvm.Cond.methodLink "FieldRows$Volume" (80 : Nat) ({ cls := "FieldRows$Volume", name := "blocksOfCopy", desc := "(J)J" } : Jvm.MethodName)) ∈ c :: kw_ := kw_1 172 rfl rfl
theorem q1_173 {c : Cond} : (Jvm.Cond.instanceMethod ({ cls := "FieldRows$Volume", name := "blocksOfCopy", desc := "(J)J" } : Jvm.MethodName)) ∈ c :: kw_ := kw_1 173 rfl rfl
theorem q1_174 {c : Cond} : (Jvm.Cond.selects "FieldRows$Volume" ({ cls := "FieldRows$Volume", name := "blocksOfCopy", desc := "(J)J" } : Jvm.MethodName) ({ cls := "FieldRows$Volume", name := "blocksOfCopy", desc := "(J)J" } : Jvm.MethodName)) ∈ c :: kw_ := kw_1 174 rfl rfl
theorem q1_175 {c : Cond} : (Jvm.Cond.code ({ cls := "FieldRows$Volume", name := "blocksOfCopy", desc := "(J)J" } : Jvm.MethodName) prog_3_method_6_code (3 : Nat) (Option.some Jvm.ClassFile.FieldType.long)) ∈ c :: kw_ := kw_1 175 rfl rfl
theorem q1_176 {c : Cond} : (Jvm.Cond.methodLink "FieldRows$Volume" (76 : Nat) ({ cls := "FieldRows$Volume", name := "hasCopy", desc := "(J)Z" } : Jvm.MethodName)) ∈ c :: kw_ := kw_1 176 rfl rfl
theorem q1_177 {c : Cond} : (Jvm.Cond.instanceMethod ({ cls := "FieldRows$Volume", name := "hasCopy", desc := "(J)Z" } : Jvm.MethodName)) ∈ c :: kw_ := kw_1 177 rfl rfl
theorem q1_178 {c : Cond} : (Jvm.Cond.selects "FieldRows$Volume" ({ cls := "FieldRows$Volume", name := "hasCopy", desc := "(J)Z" } : Jvm.MethodName) ({ cls := "FieldRows$Volume", name := "hasCopy", desc := "(J)Z" } : Jvm.MethodName)) ∈ c :: kw_ := kw_1 178 rfl rfl
theorem q1_179 {c : Cond} : (Jvm.Cond.code ({ cls := "FieldRows$Volume", name := "hasCopy", desc := "(J)Z" } : Jvm.MethodName) prog_3_method_5_code (4 : Nat) (Option.some Jvm.ClassFile.FieldType.boolean)) ∈ c :: kw_ := kw_1 179 rfl rfl
theorem q1_182 {c : Cond} : (Jvm.Cond.methodLink "FieldRows$Volume" (106 : Nat) ({ cls := "FieldRows$Volume", name := "faultOfCounts", desc := "(LFieldRows$Row;)I" } : Jvm.MethodName)) ∈ c :: kw_ := kw_1 182 rfl rfl
theorem q1_184 {c : Cond} : (Jvm.Cond.instanceMethod ({ cls := "FieldRows$Volume", name := "faultOfCounts", desc := "(LFieldRows$Row;)I" } : Jvm.MethodName)) ∈ c :: kw_ := kw_1 184 rfl rfl
theorem q1_185 {c : Cond} : (Jvm.Cond.code ({ cls := "FieldRows$Volume", name := "faultOfCounts", desc := "(LFieldRows$Row;)I" } : Jvm.MethodName) prog_3_method_15_code (8 : Nat) (Option.some Jvm.ClassFile.FieldType.int)) ∈ c :: kw_ := kw_1 185 rfl rfl
theorem q1_186 {c : Cond} : (Jvm.Cond.constantLong "FieldRows$Volume" (142 : Nat) (3 : Int64)) ∈ c :: kw_ := kw_1 186 rfl rfl
theorem q1_187 {c : Cond} : (Jvm.Cond.constantLong "FieldRows$Volume" (144 : Nat) (11 : Int64)) ∈ c :: kw_ := kw_1 187 rfl rfl
theorem q1_188 {c : Cond} : (Jvm.Cond.methodLink "FieldRows$Volume" (109 : Nat) ({ cls := "FieldRows$Volume", name := "faultOfFeatures", desc := "(LFieldRows$Row;)I" } : Jvm.MethodName)) ∈ c :: kw_ := kw_1 188 rfl rfl
theorem q1_190 {c : Cond} : (Jvm.Cond.instanceMethod ({ cls := "FieldRows$Volume", name := "faultOfFeatures", desc := "(LFieldRows$Row;)I" } : Jvm.MethodName)) ∈ c :: kw_ := kw_1 190 rfl rfl
theorem q1_191 {c : Cond} : (Jvm.Cond.code ({ cls := "FieldRows$Volume", name := "faultOfFeatures", desc := "(LFieldRows$Row;)I" } : Jvm.MethodName) prog_3_method_16_code (5 : Nat) (Option.some Jvm.ClassFile.FieldType.int)) ∈ c :: kw_ := kw_1 191 rfl rfl
theorem q1_192 {c : Cond} : (Jvm.Cond.constantLong "FieldRows$Volume" (146 : Nat) (36 : Int64)) ∈ c :: kw_ := kw_1 192 rfl rfl
theorem q1_193 {c : Cond} : (Jvm.Cond.methodLink "FieldRows$Volume" (148 : Nat) ({ cls := "FieldRows$Volume", name := "unlistedFault", desc := "(IJJ)I" } : Jvm.MethodName)) ∈ c :: kw_ := kw_1 193 rfl rfl
theorem q1_194 {c : Cond} : (Jvm.Cond.static ({ cls := "FieldRows$Volume", name := "unlistedFault", desc := "(IJJ)I" } : Jvm.MethodName)) ∈ c :: kw_ := kw_1 194 rfl rfl
theorem q1_195 {c : Cond} : (Jvm.Cond.code ({ cls := "FieldRows$Volume", name := "unlistedFault", desc := "(IJJ)I" } : Jvm.MethodName) prog_3_method_17_code (6 : Nat) (Option.some Jvm.ClassFile.FieldType.int)) ∈ c :: kw_ := kw_1 195 rfl rfl
theorem q1_196 {c : Cond} : (Jvm.Cond.constantLong "FieldRows$Volume" (156 : Nat) (-1 : Int64)) ∈ c :: kw_ := kw_1 196 rfl rfl
theorem q1_197 {c : Cond} : (Jvm.Cond.constantLong "FieldRows$Volume" (152 : Nat) (70 : Int64)) ∈ c :: kw_ := kw_1 197 rfl rfl
theorem q1_198 {c : Cond} : (Jvm.Cond.constantLong "FieldRows$Volume" (154 : Nat) (66 : Int64)) ∈ c :: kw_ := kw_1 198 rfl rfl
theorem q1_199 {c : Cond} : (Jvm.Cond.methodLink "FieldRows$Volume" (112 : Nat) ({ cls := "FieldRows$Volume", name := "faultOfRest", desc := "(LFieldRows$Row;)I" } : Jvm.MethodName)) ∈ c :: kw_ := kw_1 199 rfl rfl
theorem q1_201 {c : Cond} : (Jvm.Cond.instanceMethod ({ cls := "FieldRows$Volume", name := "faultOfRest", desc := "(LFieldRows$Row;)I" } : Jvm.MethodName)) ∈ c :: kw_ := kw_1 201 rfl rfl
theorem q1_202 {c : Cond} : (Jvm.Cond.code ({ cls := "FieldRows$Volume", name := "faultOfRest", desc := "(LFieldRows$Row;)I" } : Jvm.MethodName) prog_3_method_18_code (8 : Nat) (Option.some Jvm.ClassFile.FieldType.int)) ∈ c :: kw_ := kw_1 202 rfl rfl
theorem q1_203 {c : Cond} : (Jvm.Cond.constantLong "FieldRows$Volume" (158 : Nat) (4 : Int64)) ∈ c :: kw_ := kw_1 203 rfl rfl
theorem q1_204 {c : Cond} : (Jvm.Cond.methodLink "FieldRows" (60 : Nat) ({ cls := "FieldRows$Row", name := "takeAll", desc := "(LFieldRows$Row;)V" } : Jvm.MethodName)) ∈ c :: kw_ := kw_1 204 rfl rfl
theorem q1_205 {c : Cond} : (Jvm.Cond.instanceMethod ({ cls := "FieldRows$Row", name := "takeAll", desc := "(LFieldRows$Row;)V" } : Jvm.MethodName)) ∈ c :: kw_ := kw_1 205 rfl rfl
theorem q1_206 {c : Cond} : (Jvm.Cond.selects "FieldRows$Row" ({ cls := "FieldRows$Row", name := "takeAll", desc := "(LFieldRows$Row;)V" } : Jvm.MethodName) ({ cls := "FieldRows$Row", name := "takeAll", desc := "(LFieldRows$Row;)V" } : Jvm.MethodName)) ∈ c :: kw_ := kw_1 206 rfl rfl
theorem q1_207 {c : Cond} : (Jvm.Cond.code ({ cls := "FieldRows$Row", name := "takeAll", desc := "(LFieldRows$Row;)V" } : Jvm.MethodName) prog_2_method_3_code (3 : Nat) (Option.none : Option Jvm.ClassFile.FieldType)) ∈ c :: kw_ := kw_1 207 rfl rfl
theorem q1_208 {c : Cond} : (Jvm.Cond.fieldLink "FieldRows" (12 : Nat) "FieldRows" "row0" "LFieldRows$Row;") ∈ c :: kw_ := kw_1 208 rfl rfl
theorem q1_209 {c : Cond} : (Jvm.Cond.fieldLink "FieldRows" (16 : Nat) "FieldRows" "row1" "LFieldRows$Row;") ∈ c :: kw_ := kw_1 209 rfl rfl
theorem q1_210 {c : Cond} : (Jvm.Cond.fieldLink "FieldRows" (19 : Nat) "FieldRows" "trial" "LFieldRows$Row;") ∈ c :: kw_ := kw_1 210 rfl rfl
theorem q1_211 {c : Cond} : (Jvm.Cond.fieldLink "FieldRows" (25 : Nat) "FieldRows" "volume" "LFieldRows$Volume;") ∈ c :: kw_ := kw_1 211 rfl rfl
theorem q1_212 {c : Cond} : (Jvm.Cond.laysFinal "FieldRows" "FieldRows" "row0" "LFieldRows$Row;") ∈ c :: kw_ := kw_1 212 rfl rfl
theorem q1_214 {c : Cond} : (Jvm.Cond.laysFinal "FieldRows" "FieldRows" "row1" "LFieldRows$Row;") ∈ c :: kw_ := kw_1 214 rfl rfl
theorem q1_216 {c : Cond} : (Jvm.Cond.laysFinal "FieldRows" "FieldRows" "trial" "LFieldRows$Row;") ∈ c :: kw_ := kw_1 216 rfl rfl
theorem q1_218 {c : Cond} : (Jvm.Cond.laysFinal "FieldRows" "FieldRows" "volume" "LFieldRows$Volume;") ∈ c :: kw_ := kw_1 218 rfl rfl
theorem q1_221 {c : Cond} : (Jvm.Cond.methodLink "FieldRowsLaw" (13 : Nat) ({ cls := "FieldRows", name := "lay", desc := "(IIIII)I" } : Jvm.MethodName)) ∈ c :: kw_ := kw_1 221 rfl rfl
theorem q1_222 {c : Cond} : (Jvm.Cond.methodLink "FieldRowsLaw" (18 : Nat) ({ cls := "FieldRows", name := "poke", desc := "(III)I" } : Jvm.MethodName)) ∈ c :: kw_ := kw_1 222 rfl rfl
theorem q1_223 {c : Cond} : (Jvm.Cond.instanceMethod ({ cls := "FieldRows", name := "poke", desc := "(III)I" } : Jvm.MethodName)) ∈ c :: kw_ := kw_1 223 rfl rfl
theorem q1_224 {c : Cond} : (Jvm.Cond.selects "FieldRows" ({ cls := "FieldRows", name := "poke", desc := "(III)I" } : Jvm.MethodName) ({ cls := "FieldRows", name := "poke", desc := "(III)I" } : Jvm.MethodName)) ∈ c :: kw_ := kw_1 224 rfl rfl
theorem q1_225 {c : Cond} : (Jvm.Cond.code ({ cls := "FieldRows", name := "poke", desc := "(III)I" } : Jvm.MethodName) prog_1_method_3_code (6 : Nat) (Option.some Jvm.ClassFile.FieldType.int)) ∈ c :: kw_ := kw_1 225 rfl rfl
theorem q1_226 {c : Cond} : (Jvm.Cond.methodLink "FieldRows" (63 : Nat) ({ cls := "FieldRows", name := "rowOf", desc := "(I)LFieldRows$Row;" } : Jvm.MethodName)) ∈ c :: kw_ := kw_1 226 rfl rfl
theorem q1_228 {c : Cond} : (Jvm.Cond.instanceMethod ({ cls := "FieldRows", name := "rowOf", desc := "(I)LFieldRows$Row;" } : Jvm.MethodName)) ∈ c :: kw_ := kw_1 228 rfl rfl
theorem q1_229 {c : Cond} : (Jvm.Cond.code ({ cls := "FieldRows", name := "rowOf", desc := "(I)LFieldRows$Row;" } : Jvm.MethodName) prog_1_method_12_code (2 : Nat) (Option.some (Jvm.ClassFile.FieldType.object "FieldRows$Row"))) ∈ c :: kw_ := kw_1 229 rfl rfl
theorem q1_230 {c : Cond} : (Jvm.Cond.methodLink "FieldRows" (67 : Nat) ({ cls := "FieldRows", name := "isField", desc := "(II)Z" } : Jvm.MethodName)) ∈ c :: kw_ := kw_1 230 rfl rfl
theorem q1_231 {c : Cond} : (Jvm.Cond.methodLink "FieldRows" (71 : Nat) ({ cls := "FieldRows$Row", name := "field", desc := "(II)J" } : Jvm.MethodName)) ∈ c :: kw_ := kw_1 231 rfl rfl
theorem q1_232 {c : Cond} : (Jvm.Cond.methodLink "FieldRowsLaw" (23 : Nat) ({ cls := "FieldRows", name := "put", desc := "(IIII)I" } : Jvm.MethodName)) ∈ c :: kw_ := kw_1 232 rfl rfl
theorem q1_233 {c : Cond} : (Jvm.Cond.instanceMethod ({ cls := "FieldRows", name := "put", desc := "(IIII)I" } : Jvm.MethodName)) ∈ c :: kw_ := kw_1 233 rfl rfl
theorem q1_234 {c : Cond} : (Jvm.Cond.selects "FieldRows" ({ cls := "FieldRows", name := "put", desc := "(IIII)I" } : Jvm.MethodName) ({ cls := "FieldRows", name := "put", desc := "(IIII)I" } : Jvm.MethodName)) ∈ c :: kw_ := kw_1 234 rfl rfl
theorem q1_235 {c : Cond} : (Jvm.Cond.code ({ cls := "FieldRows", name := "put", desc := "(IIII)I" } : Jvm.MethodName) prog_1_method_4_code (6 : Nat) (Option.some Jvm.ClassFile.FieldType.int)) ∈ c :: kw_ := kw_1 235 rfl rfl
theorem q1_236 {c : Cond} : (Jvm.Cond.methodLink "FieldRowsLaw" (28 : Nat) ({ cls := "FieldRows", name := "get", desc := "(III)J" } : Jvm.MethodName)) ∈ c :: kw_ := kw_1 236 rfl rfl
theorem q1_237 {c : Cond} : (Jvm.Cond.instanceMethod ({ cls := "FieldRows", name := "get", desc := "(III)J" } : Jvm.MethodName)) ∈ c :: kw_ := kw_1 237 rfl rfl
theorem q1_238 {c : Cond} : (Jvm.Cond.selects "FieldRows" ({ cls := "FieldRows", name := "get", desc := "(III)J" } : Jvm.MethodName) ({ cls := "FieldRows", name := "get", desc := "(III)J" } : Jvm.MethodName)) ∈ c :: kw_ := kw_1 238 rfl rfl
theorem q1_239 {c : Cond} : (Jvm.Cond.code ({ cls := "FieldRows", name := "get", desc := "(III)J" } : Jvm.MethodName) prog_1_method_5_code (5 : Nat) (Option.some Jvm.ClassFile.FieldType.long)) ∈ c :: kw_ := kw_1 239 rfl rfl
theorem q2_0 {c : Cond} : (Jvm.Cond.constantLong "FieldRows" (75 : Nat) (-1 : Int64)) ∈ c :: kw_ := kw_2 0 rfl rfl
theorem q2_1 {c : Cond} : (Jvm.Cond.methodLink "FieldRowsLaw" (33 : Nat) ({ cls := "FieldRows", name := "fault", desc := "(I)I" } : Jvm.MethodName)) ∈ c :: kw_ := kw_2 1 rfl rfl
theorem q2_2 {c : Cond} : (Jvm.Cond.instanceMethod ({ cls := "FieldRows", name := "fault", desc := "(I)I" } : Jvm.MethodName)) ∈ c :: kw_ := kw_2 2 rfl rfl
theorem q2_3 {c : Cond} : (Jvm.Cond.selects "FieldRows" ({ cls := "FieldRows", name := "fault", desc := "(I)I" } : Jvm.MethodName) ({ cls := "FieldRows", name := "fault", desc := "(I)I" } : Jvm.MethodName)) ∈ c :: kw_ := kw_2 3 rfl rfl
theorem q2_4 {c : Cond} : (Jvm.Cond.code ({ cls := "FieldRows", name := "fault", desc := "(I)I" } : Jvm.MethodName) prog_1_method_6_code (3 : Nat) (Option.some Jvm.ClassFile.FieldType.int)) ∈ c :: kw_ := kw_2 4 rfl rfl
theorem q2_5 {c : Cond} : (Jvm.Cond.methodLink "FieldRowsLaw" (38 : Nat) ({ cls := "FieldRows", name := "copy", desc := "(I)I" } : Jvm.MethodName)) ∈ c :: kw_ := kw_2 5 rfl rfl
theorem q2_6 {c : Cond} : (Jvm.Cond.instanceMethod ({ cls := "FieldRows", name := "copy", desc := "(I)I" } : Jvm.MethodName)) ∈ c :: kw_ := kw_2 6 rfl rfl
theorem q2_7 {c : Cond} : (Jvm.Cond.selects "FieldRows" ({ cls := "FieldRows", name := "copy", desc := "(I)I" } : Jvm.MethodName) ({ cls := "FieldRows", name := "copy", desc := "(I)I" } : Jvm.MethodName)) ∈ c :: kw_ := kw_2 7 rfl rfl
theorem q2_8 {c : Cond} : (Jvm.Cond.code ({ cls := "FieldRows", name := "copy", desc := "(I)I" } : Jvm.MethodName) prog_1_method_7_code (2 : Nat) (Option.some Jvm.ClassFile.FieldType.int)) ∈ c :: kw_ := kw_2 8 rfl rfl
theorem q2_9 {c : Cond} : (Jvm.Cond.methodLink "FieldRows" (77 : Nat) ({ cls := "FieldRows", name := "isGroupOfRightRow", desc := "(I)Z" } : Jvm.MethodName)) ∈ c :: kw_ := kw_2 9 rfl rfl
theorem q2_11 {c : Cond} : (Jvm.Cond.instanceMethod ({ cls := "FieldRows", name := "isGroupOfRightRow", desc := "(I)Z" } : Jvm.MethodName)) ∈ c :: kw_ := kw_2 11 rfl rfl
theorem q2_12 {c : Cond} : (Jvm.Cond.code ({ cls := "FieldRows", name := "isGroupOfRightRow", desc := "(I)Z" } : Jvm.MethodName) prog_1_method_13_code (2 : Nat) (Option.some Jvm.ClassFile.FieldType.boolean)) ∈ c :: kw_ := kw_2 12 rfl rfl
theorem q2_13 {c : Cond} : (Jvm.Cond.methodLink "FieldRows" (81 : Nat) ({ cls := "FieldRows$Volume", name := "hasCopy", desc := "(J)Z" } : Jvm.MethodName)) ∈ c :: kw_ := kw_2 13 rfl rfl
theorem q2_14 {c : Cond} : (Jvm.Cond.methodLink "FieldRowsLaw" (42 : Nat) ({ cls := "FieldRows", name := "differs", desc := "()I" } : Jvm.MethodName)) ∈ c :: kw_ := kw_2 14 rfl rfl
theorem q2_15 {c : Cond} : (Jvm.Cond.instanceMethod ({ cls := "FieldRows", name := "differs", desc := "()I" } : Jvm.MethodName)) ∈ c :: kw_ := kw_2 15 rfl rfl
theorem q2_16 {c : Cond} : (Jvm.Cond.selects "FieldRows" ({ cls := "FieldRows", name := "differs", desc := "()I" } : Jvm.MethodName) ({ cls := "FieldRows", name := "differs", desc := "()I" } : Jvm.MethodName)) ∈ c :: kw_ := kw_2 16 rfl rfl
theorem q2_17 {c : Cond} : (Jvm.Cond.code ({ cls := "FieldRows", name := "differs", desc := "()I" } : Jvm.MethodName) prog_1_method_8_code (2 : Nat) (Option.some Jvm.ClassFile.FieldType.int)) ∈ c :: kw_ := kw_2 17 rfl rfl
theorem q2_18 {c : Cond} : (Jvm.Cond.methodLink "FieldRows" (85 : Nat) ({ cls := "FieldRows", name := "isFollowed", desc := "(I)Z" } : Jvm.MethodName)) ∈ c :: kw_ := kw_2 18 rfl rfl
theorem q2_19 {c : Cond} : (Jvm.Cond.static ({ cls := "FieldRows", name := "isFollowed", desc := "(I)Z" } : Jvm.MethodName)) ∈ c :: kw_ := kw_2 19 rfl rfl
theorem q2_20 {c : Cond} : (Jvm.Cond.code ({ cls := "FieldRows", name := "isFollowed", desc := "(I)Z" } : Jvm.MethodName) prog_1_method_15_code (2 : Nat) (Option.some Jvm.ClassFile.FieldType.boolean)) ∈ c :: kw_ := kw_2 20 rfl rfl
theorem q2_21 {c : Cond} : (Jvm.Cond.fieldLink "FieldRows" (126 : Nat) "FieldRows" "NOT_FOLLOWED" "[I") ∈ c :: kw_ := kw_2 21 rfl rfl
theorem q2_23 {c : Cond} : (Jvm.Cond.methodLink "FieldRowsLaw" (47 : Nat) ({ cls := "FieldRows", name := "groups", desc := "()I" } : Jvm.MethodName)) ∈ c :: kw_ := kw_2 23 rfl rfl
theorem q2_24 {c : Cond} : (Jvm.Cond.instanceMethod ({ cls := "FieldRows", name := "groups", desc := "()I" } : Jvm.MethodName)) ∈ c :: kw_ := kw_2 24 rfl rfl
theorem q2_25 {c : Cond} : (Jvm.Cond.selects "FieldRows" ({ cls := "FieldRows", name := "groups", desc := "()I" } : Jvm.MethodName) ({ cls := "FieldRows", name := "groups", desc := "()I" } : Jvm.MethodName)) ∈ c :: kw_ := kw_2 25 rfl rfl
theorem q2_26 {c : Cond} : (Jvm.Cond.code ({ cls := "FieldRows", name := "groups", desc := "()I" } : Jvm.MethodName) prog_1_method_9_code (1 : Nat) (Option.some Jvm.ClassFile.FieldType.int)) ∈ c :: kw_ := kw_2 26 rfl rfl
theorem q2_27 {c : Cond} : (Jvm.Cond.methodLink "FieldRowsLaw" (51 : Nat) ({ cls := "FieldRows", name := "where", desc := "(II)I" } : Jvm.MethodName)) ∈ c :: kw_ := kw_2 27 rfl rfl
theorem q2_28 {c : Cond} : (Jvm.Cond.instanceMethod ({ cls := "FieldRows", name := "where", desc := "(II)I" } : Jvm.MethodName)) ∈ c :: kw_ := kw_2 28 rfl rfl
theorem q2_29 {c : Cond} : (Jvm.Cond.selects "FieldRows" ({ cls := "FieldRows", name := "where", desc := "(II)I" } : Jvm.MethodName) ({ cls := "FieldRows", name := "where", desc := "(II)I" } : Jvm.MethodName)) ∈ c :: kw_ := kw_2 29 rfl rfl
theorem q2_30 {c : Cond} : (Jvm.Cond.code ({ cls := "FieldRows", name := "where", desc := "(II)I" } : Jvm.MethodName) prog_1_method_10_code (3 : Nat) (Option.some Jvm.ClassFile.FieldType.int)) ∈ c :: kw_ := kw_2 30 rfl rfl
theorem q2_31 {c : Cond} : (Jvm.Cond.methodLink "FieldRows" (88 : Nat) ({ cls := "FieldRows$Volume", name := "groupStart", desc := "(J)J" } : Jvm.MethodName)) ∈ c :: kw_ := kw_2 31 rfl rfl
theorem q2_32 {c : Cond} : (Jvm.Cond.methodLink "FieldRows" (92 : Nat) ({ cls := "FieldRows$Volume", name := "groupLength", desc := "(J)J" } : Jvm.MethodName)) ∈ c :: kw_ := kw_2 32 rfl rfl
theorem q2_33 {c : Cond} : (Jvm.Cond.methodLink "FieldRows" (95 : Nat) ({ cls := "FieldRows$Volume", name := "blockBitmap", desc := "(J)J" } : Jvm.MethodName)) ∈ c :: kw_ := kw_2 33 rfl rfl
theorem q2_34 {c : Cond} : (Jvm.Cond.instanceMethod ({ cls := "FieldRows$Volume", name := "blockBitmap", desc := "(J)J" } : Jvm.MethodName)) ∈ c :: kw_ := kw_2 34 rfl rfl
theorem q2_35 {c : Cond} : (Jvm.Cond.selects "FieldRows$Volume" ({ cls := "FieldRows$Volume", name := "blockBitmap", desc := "(J)J" } : Jvm.MethodName) ({ cls := "FieldRows$Volume", name := "blockBitmap", desc := "(J)J" } : Jvm.MethodName)) ∈ c :: kw_ := kw_2 35 rfl rfl
theorem q2_36 {c : Cond} : (Jvm.Cond.code ({ cls := "FieldRows$Volume", name := "blockBitmap", desc := "(J)J" } : Jvm.MethodName) prog_3_method_7_code (3 : Nat) (Option.some Jvm.ClassFile.FieldType.long)) ∈ c :: kw_ := kw_2 36 rfl rfl
theorem q2_37 {c : Cond} : (Jvm.Cond.methodLink "FieldRows" (98 : Nat) ({ cls := "FieldRows$Volume", name := "fileBitmap", desc := "(J)J" } : Jvm.MethodName)) ∈ c :: kw_ := kw_2 37 rfl rfl
theorem q2_38 {c : Cond} : (Jvm.Cond.instanceMethod ({ cls := "FieldRows$Volume", name := "fileBitmap", desc := "(J)J" } : Jvm.MethodName)) ∈ c :: kw_ := kw_2 38 rfl rfl
theorem q2_39 {c : Cond} : (Jvm.Cond.selects "FieldRows$Volume" ({ cls := "FieldRows$Volume", name := "fileBitmap", desc := "(J)J" } : Jvm.MethodName) ({ cls := "FieldRows$Volume", name := "fileBitmap", desc := "(J)J" } : Jvm.MethodName)) ∈ c :: kw_ := kw_2 39 rfl rfl
theorem q2_40 {c : Cond} : (Jvm.Cond.code ({ cls := "FieldRows$Volume", name := "fileBitmap", desc := "(J)J" } : Jvm.MethodName) prog_3_method_8_code (3 : Nat) (Option.some Jvm.ClassFile.FieldType.long)) ∈ c :: kw_ := kw_2 40 rfl rfl
theorem q2_41 {c : Cond} : (Jvm.Cond.methodLink "FieldRows$Volume" (83 : Nat) ({ cls := "FieldRows$Volume", name := "blockBitmap", desc := "(J)J" } : Jvm.MethodName)) ∈ c :: kw_ := kw_2 41 rfl rfl
theorem q2_42 {c : Cond} : (Jvm.Cond.methodLink "FieldRows" (101 : Nat) ({ cls := "FieldRows$Volume", name := "recordStart", desc := "(J)J" } : Jvm.MethodName)) ∈ c :: kw_ := kw_2 42 rfl rfl
theorem q2_43 {c : Cond} : (Jvm.Cond.instanceMethod ({ cls := "FieldRows$Volume", name := "recordStart", desc := "(J)J" } : Jvm.MethodName)) ∈ c :: kw_ := kw_2 43 rfl rfl
theorem q2_44 {c : Cond} : (Jvm.Cond.selects "FieldRows$Volume" ({ cls := "FieldRows$Volume", name := "recordStart", desc := "(J)J" } : Jvm.MethodName) ({ cls := "FieldRows$Volume", name := "recordStart", desc := "(J)J" } : Jvm.MethodName)) ∈ c :: kw_ := kw_2 44 rfl rfl
theorem q2_45 {c : Cond} : (Jvm.Cond.code ({ cls := "FieldRows$Volume", name := "recordStart", desc := "(J)J" } : Jvm.MethodName) prog_3_method_9_code (3 : Nat) (Option.some Jvm.ClassFile.FieldType.long)) ∈ c :: kw_ := kw_2 45 rfl rfl
theorem q2_46 {c : Cond} : (Jvm.Cond.methodLink "FieldRows$Volume" (86 : Nat) ({ cls := "FieldRows$Volume", name := "fileBitmap", desc := "(J)J" } : Jvm.MethodName)) ∈ c :: kw_ := kw_2 46 rfl rfl
theorem q2_47 {c : Cond} : (Jvm.Cond.methodLink "FieldRows" (107 : Nat) ({ cls := "FieldRows$Volume", name := "fixedBlocks", desc := "(J)J" } : Jvm.MethodName)) ∈ c :: kw_ := kw_2 47 rfl rfl
theorem q2_48 {c : Cond} : (Jvm.Cond.methodLink "FieldRowsLaw" (56 : Nat) ({ cls := "FieldRows", name := "record", desc := "(IZ)I" } : Jvm.MethodName)) ∈ c :: kw_ := kw_2 48 rfl rfl
theorem q2_49 {c : Cond} : (Jvm.Cond.instanceMethod ({ cls := "FieldRows", name := "record", desc := "(IZ)I" } : Jvm.MethodName)) ∈ c :: kw_ := kw_2 49 rfl rfl
theorem q2_50 {c : Cond} : (Jvm.Cond.selects "FieldRows" ({ cls := "FieldRows", name := "record", desc := "(IZ)I" } : Jvm.MethodName) ({ cls := "FieldRows", name := "record", desc := "(IZ)I" } : Jvm.MethodName)) ∈ c :: kw_ := kw_2 50 rfl rfl
theorem q2_51 {c : Cond} : (Jvm.Cond.code ({ cls := "FieldRows", name := "record", desc := "(IZ)I" } : Jvm.MethodName) prog_1_method_11_code (11 : Nat) (Option.some Jvm.ClassFile.FieldType.int)) ∈ c :: kw_ := kw_2 51 rfl rfl
theorem q2_52 {c : Cond} : (Jvm.Cond.classLink "FieldRowsLaw" (10 : Nat) "FieldRowsModel") ∈ c :: kw_ := kw_2 52 rfl rfl
theorem q2_53 {c : Cond} : (Jvm.Cond.instantiable "FieldRowsModel" (3 : Nat)) ∈ c :: kw_ := kw_2 53 rfl rfl
theorem q2_54 {c : Cond} : (Jvm.Cond.methodLink "FieldRowsLaw" (12 : Nat) ({ cls := "FieldRowsModel", name := "<init>", desc := "()V" } : Jvm.MethodName)) ∈ c :: kw_ := kw_2 54 rfl rfl
theorem q2_55 {c : Cond} : (Jvm.Cond.instanceMethod ({ cls := "FieldRowsModel", name := "<init>", desc := "()V" } : Jvm.MethodName)) ∈ c :: kw_ := kw_2 55 rfl rfl
theorem q2_56 {c : Cond} : (Jvm.Cond.code ({ cls := "FieldRowsModel", name := "<init>", desc := "()V" } : Jvm.MethodName) prog_5_method_1_code (2 : Nat) (Option.none : Option Jvm.ClassFile.FieldType)) ∈ c :: kw_ := kw_2 56 rfl rfl
theorem q2_57 {c : Cond} : (Jvm.Cond.methodLink "FieldRowsModel" (1 : Nat) ({ cls := "java/lang/Object", name := "<init>", desc := "()V" } : Jvm.MethodName)) ∈ c :: kw_ := kw_2 57 rfl rfl
theorem q2_58 {c : Cond} : (Jvm.Cond.methodLink "FieldRowsModel" (19 : Nat) ({ cls := "FieldRowsModel", name := "lay", desc := "(IIIII)I" } : Jvm.MethodName)) ∈ c :: kw_ := kw_2 58 rfl rfl
theorem q2_59 {c : Cond} : (Jvm.Cond.instanceMethod ({ cls := "FieldRowsModel", name := "lay", desc := "(IIIII)I" } : Jvm.MethodName)) ∈ c :: kw_ := kw_2 59 rfl rfl
theorem q2_60 {c : Cond} : (Jvm.Cond.selects "FieldRowsModel" ({ cls := "FieldRowsModel", name := "lay", desc := "(IIIII)I" } : Jvm.MethodName) ({ cls := "FieldRowsModel", name := "lay", desc := "(IIIII)I" } : Jvm.MethodName)) ∈ c :: kw_ := kw_2 60 rfl rfl
theorem q2_61 {c : Cond} : (Jvm.Cond.code ({ cls := "FieldRowsModel", name := "lay", desc := "(IIIII)I" } : Jvm.MethodName) prog_5_method_27_code (7 : Nat) (Option.some Jvm.ClassFile.FieldType.int)) ∈ c :: kw_ := kw_2 61 rfl rfl
theorem q2_62 {c : Cond} : (Jvm.Cond.methodLink "FieldRowsModel" (126 : Nat) ({ cls := "FieldRowsModel", name := "set", desc := "([IIIJ)V" } : Jvm.MethodName)) ∈ c :: kw_ := kw_2 62 rfl rfl
theorem q2_63 {c : Cond} : (Jvm.Cond.static ({ cls := "FieldRowsModel", name := "set", desc := "([IIIJ)V" } : Jvm.MethodName)) ∈ c :: kw_ := kw_2 63 rfl rfl
theorem q2_64 {c : Cond} : (Jvm.Cond.code ({ cls := "FieldRowsModel", name := "set", desc := "([IIIJ)V" } : Jvm.MethodName) prog_5_method_6_code (6 : Nat) (Option.none : Option Jvm.ClassFile.FieldType)) ∈ c :: kw_ := kw_2 64 rfl rfl
theorem q2_65 {c : Cond} : (Jvm.Cond.constantLong "FieldRowsModel" (25 : Nat) (255 : Int64)) ∈ c :: kw_ := kw_2 65 rfl rfl
theorem q2_66 {c : Cond} : (Jvm.Cond.constantLong "FieldRowsModel" (130 : Nat) (65535 : Int64)) ∈ c :: kw_ := kw_2 66 rfl rfl
theorem q2_67 {c : Cond} : (Jvm.Cond.constantLong "FieldRowsModel" (76 : Nat) (61267 : Int64)) ∈ c :: kw_ := kw_2 67 rfl rfl
theorem q2_68 {c : Cond} : (Jvm.Cond.constantLong "FieldRowsModel" (104 : Nat) (11 : Int64)) ∈ c :: kw_ := kw_2 68 rfl rfl
theorem q2_69 {c : Cond} : (Jvm.Cond.constantLong "FieldRowsModel" (132 : Nat) (36 : Int64)) ∈ c :: kw_ := kw_2 69 rfl rfl
theorem q2_70 {c : Cond} : (Jvm.Cond.constantLong "FieldRowsModel" (134 : Nat) (66 : Int64)) ∈ c :: kw_ := kw_2 70 rfl rfl
theorem q2_71 {c : Cond} : (Jvm.Cond.constantLong "FieldRowsModel" (43 : Nat) (3 : Int64)) ∈ c :: kw_ := kw_2 71 rfl rfl
theorem q2_72 {c : Cond} : (Jvm.Cond.constantLong "FieldRowsModel" (80 : Nat) (8 : Int64)) ∈ c :: kw_ := kw_2 72 rfl rfl
theorem q2_73 {c : Cond} : (Jvm.Cond.methodLink "FieldRowsModel" (63 : Nat) ({ cls := "FieldRowsModel", name := "groupsOf", desc := "([I)J" } : Jvm.MethodName)) ∈ c :: kw_ := kw_2 73 rfl rfl
theorem q2_74 {c : Cond} : (Jvm.Cond.static ({ cls := "FieldRowsModel", name := "groupsOf", desc := "([I)J" } : Jvm.MethodName)) ∈ c :: kw_ := kw_2 74 rfl rfl
theorem q2_75 {c : Cond} : (Jvm.Cond.code ({ cls := "FieldRowsModel", name := "groupsOf", desc := "([I)J" } : Jvm.MethodName) prog_5_method_10_code (1 : Nat) (Option.some Jvm.ClassFile.FieldType.long)) ∈ c :: kw_ := kw_2 75 rfl rfl
theorem q2_76 {c : Cond} : (Jvm.Cond.methodLink "FieldRowsModel" (27 : Nat) ({ cls := "FieldRowsModel", name := "field", desc := "([III)J" } : Jvm.MethodName)) ∈ c :: kw_ := kw_2 76 rfl rfl
theorem q2_77 {c : Cond} : (Jvm.Cond.static ({ cls := "FieldRowsModel", name := "field", desc := "([III)J" } : Jvm.MethodName)) ∈ c :: kw_ := kw_2 77 rfl rfl
theorem q2_78 {c : Cond} : (Jvm.Cond.code ({ cls := "FieldRowsModel", name := "field", desc := "([III)J" } : Jvm.MethodName) prog_5_method_5_code (6 : Nat) (Option.some Jvm.ClassFile.FieldType.long)) ∈ c :: kw_ := kw_2 78 rfl rfl
theorem q2_79 {c : Cond} : (Jvm.Cond.constantLong "FieldRowsModel" (23 : Nat) (256 : Int64)) ∈ c :: kw_ := kw_2 79 rfl rfl
theorem q2_80 {c : Cond} : (Jvm.Cond.methodLink "FieldRowsModel" (33 : Nat) ({ cls := "FieldRowsModel", name := "up", desc := "(JJ)J" } : Jvm.MethodName)) ∈ c :: kw_ := kw_2 80 rfl rfl
theorem q2_81 {c : Cond} : (Jvm.Cond.static ({ cls := "FieldRowsModel", name := "up", desc := "(JJ)J" } : Jvm.MethodName)) ∈ c :: kw_ := kw_2 81 rfl rfl
theorem q2_82 {c : Cond} : (Jvm.Cond.code ({ cls := "FieldRowsModel", name := "up", desc := "(JJ)J" } : Jvm.MethodName) prog_5_method_8_code (4 : Nat) (Option.some Jvm.ClassFile.FieldType.long)) ∈ c :: kw_ := kw_2 82 rfl rfl
theorem q2_83 {c : Cond} : (Jvm.Cond.methodLink "FieldRowsModel" (123 : Nat) ({ cls := "FieldRowsModel", name := "faultOf", desc := "([I)I" } : Jvm.MethodName)) ∈ c :: kw_ := kw_2 83 rfl rfl
theorem q2_84 {c : Cond} : (Jvm.Cond.static ({ cls := "FieldRowsModel", name := "faultOf", desc := "([I)I" } : Jvm.MethodName)) ∈ c :: kw_ := kw_2 84 rfl rfl
theorem q2_85 {c : Cond} : (Jvm.Cond.code ({ cls := "FieldRowsModel", name := "faultOf", desc := "([I)I" } : Jvm.MethodName) prog_5_method_25_code (2 : Nat) (Option.some Jvm.ClassFile.FieldType.int)) ∈ c :: kw_ := kw_2 85 rfl rfl
theorem q2_86 {c : Cond} : (Jvm.Cond.methodLink "FieldRowsModel" (110 : Nat) ({ cls := "FieldRowsModel", name := "faultOfSizes", desc := "([I)I" } : Jvm.MethodName)) ∈ c :: kw_ := kw_2 86 rfl rfl
theorem q2_87 {c : Cond} : (Jvm.Cond.static ({ cls := "FieldRowsModel", name := "faultOfSizes", desc := "([I)I" } : Jvm.MethodName)) ∈ c :: kw_ := kw_2 87 rfl rfl
theorem q2_88 {c : Cond} : (Jvm.Cond.code ({ cls := "FieldRowsModel", name := "faultOfSizes", desc := "([I)I" } : Jvm.MethodName) prog_5_method_19_code (11 : Nat) (Option.some Jvm.ClassFile.FieldType.int)) ∈ c :: kw_ := kw_2 88 rfl rfl
theorem q2_89 {c : Cond} : (Jvm.Cond.constantLong "FieldRowsModel" (41 : Nat) (2 : Int64)) ∈ c :: kw_ := kw_2 89 rfl rfl
theorem q2_90 {c : Cond} : (Jvm.Cond.methodLink "FieldRowsModel" (67 : Nat) ({ cls := "FieldRowsModel", name := "sizeOf", desc := "([I)J" } : Jvm.MethodName)) ∈ c :: kw_ := kw_2 90 rfl rfl
theorem q2_91 {c : Cond} : (Jvm.Cond.static ({ cls := "FieldRowsModel", name := "sizeOf", desc := "([I)J" } : Jvm.MethodName)) ∈ c :: kw_ := kw_2 91 rfl rfl
theorem q2_92 {c : Cond} : (Jvm.Cond.code ({ cls := "FieldRowsModel", name := "sizeOf", desc := "([I)J" } : Jvm.MethodName) prog_5_method_9_code (1 : Nat) (Option.some Jvm.ClassFile.FieldType.long)) ∈ c :: kw_ := kw_2 92 rfl rfl
theorem q2_93 {c : Cond} : (Jvm.Cond.constantLong "FieldRowsModel" (31 : Nat) (1024 : Int64)) ∈ c :: kw_ := kw_2 93 rfl rfl
theorem q2_94 {c : Cond} : (Jvm.Cond.constantLong "FieldRowsModel" (78 : Nat) (64 : Int64)) ∈ c :: kw_ := kw_2 94 rfl rfl
theorem q2_95 {c : Cond} : (Jvm.Cond.methodLink "FieldRowsModel" (82 : Nat) ({ cls := "FieldRowsModel", name := "isIn", desc := "(JJJ)Z" } : Jvm.MethodName)) ∈ c :: kw_ := kw_2 95 rfl rfl
theorem q2_96 {c : Cond} : (Jvm.Cond.static ({ cls := "FieldRowsModel", name := "isIn", desc := "(JJJ)Z" } : Jvm.MethodName)) ∈ c :: kw_ := kw_2 96 rfl rfl
theorem q2_97 {c : Cond} : (Jvm.Cond.code ({ cls := "FieldRowsModel", name := "isIn", desc := "(JJJ)Z" } : Jvm.MethodName) prog_5_method_18_code (6 : Nat) (Option.some Jvm.ClassFile.FieldType.boolean)) ∈ c :: kw_ := kw_2 97 rfl rfl
theorem q2_98 {c : Cond} : (Jvm.Cond.constantLong "FieldRowsModel" (86 : Nat) (128 : Int64)) ∈ c :: kw_ := kw_2 98 rfl rfl
theorem q2_99 {c : Cond} : (Jvm.Cond.constantLong "FieldRowsModel" (88 : Nat) (512 : Int64)) ∈ c :: kw_ := kw_2 99 rfl rfl
theorem q2_100 {c : Cond} : (Jvm.Cond.constantLong "FieldRowsModel" (90 : Nat) (16 : Int64)) ∈ c :: kw_ := kw_2 100 rfl rfl
theorem q2_101 {c : Cond} : (Jvm.Cond.methodLink "FieldRowsModel" (114 : Nat) ({ cls := "FieldRowsModel", name := "faultOfCounts", desc := "([I)I" } : Jvm.MethodName)) ∈ c :: kw_ := kw_2 101 rfl rfl
theorem q2_102 {c : Cond} : (Jvm.Cond.static ({ cls := "FieldRowsModel", name := "faultOfCounts", desc := "([I)I" } : Jvm.MethodName)) ∈ c :: kw_ := kw_2 102 rfl rfl
theorem q2_103 {c : Cond} : (Jvm.Cond.code ({ cls := "FieldRowsModel", name := "faultOfCounts", desc := "([I)I" } : Jvm.MethodName) prog_5_method_21_code (7 : Nat) (Option.some Jvm.ClassFile.FieldType.int)) ∈ c :: kw_ := kw_2 103 rfl rfl
theorem q2_104 {c : Cond} : (Jvm.Cond.methodLink "FieldRowsModel" (100 : Nat) ({ cls := "FieldRowsModel", name := "areBlocksRight", desc := "([I)Z" } : Jvm.MethodName)) ∈ c :: kw_ := kw_2 104 rfl rfl
theorem q2_105 {c : Cond} : (Jvm.Cond.static ({ cls := "FieldRowsModel", name := "areBlocksRight", desc := "([I)Z" } : Jvm.MethodName)) ∈ c :: kw_ := kw_2 105 rfl rfl
theorem q2_106 {c : Cond} : (Jvm.Cond.code ({ cls := "FieldRowsModel", name := "areBlocksRight", desc := "([I)Z" } : Jvm.MethodName) prog_5_method_20_code (6 : Nat) (Option.some Jvm.ClassFile.FieldType.boolean)) ∈ c :: kw_ := kw_2 106 rfl rfl
theorem q2_107 {c : Cond} : (Jvm.Cond.constantLong "FieldRowsModel" (92 : Nat) (16777216 : Int64)) ∈ c :: kw_ := kw_2 107 rfl rfl
theorem q2_108 {c : Cond} : (Jvm.Cond.methodLink "FieldRowsModel" (94 : Nat) ({ cls := "FieldRowsModel", name := "blocksOf", desc := "([IJ)J" } : Jvm.MethodName)) ∈ c :: kw_ := kw_2 108 rfl rfl
theorem q2_109 {c : Cond} : (Jvm.Cond.static ({ cls := "FieldRowsModel", name := "blocksOf", desc := "([IJ)J" } : Jvm.MethodName)) ∈ c :: kw_ := kw_2 109 rfl rfl
theorem q2_110 {c : Cond} : (Jvm.Cond.code ({ cls := "FieldRowsModel", name := "blocksOf", desc := "([IJ)J" } : Jvm.MethodName) prog_5_method_14_code (5 : Nat) (Option.some Jvm.ClassFile.FieldType.long)) ∈ c :: kw_ := kw_2 110 rfl rfl
theorem q2_111 {c : Cond} : (Jvm.Cond.methodLink "FieldRowsModel" (53 : Nat) ({ cls := "FieldRowsModel", name := "beginOf", desc := "([IJ)J" } : Jvm.MethodName)) ∈ c :: kw_ := kw_2 111 rfl rfl
theorem q2_112 {c : Cond} : (Jvm.Cond.static ({ cls := "FieldRowsModel", name := "beginOf", desc := "([IJ)J" } : Jvm.MethodName)) ∈ c :: kw_ := kw_2 112 rfl rfl
theorem q2_113 {c : Cond} : (Jvm.Cond.code ({ cls := "FieldRowsModel", name := "beginOf", desc := "([IJ)J" } : Jvm.MethodName) prog_5_method_13_code (3 : Nat) (Option.some Jvm.ClassFile.FieldType.long)) ∈ c :: kw_ := kw_2 113 rfl rfl
theorem q2_114 {c : Cond} : (Jvm.Cond.methodLink "FieldRowsModel" (97 : Nat) ({ cls := "FieldRowsModel", name := "fixedOf", desc := "([IJ)J" } : Jvm.MethodName)) ∈ c :: kw_ := kw_2 114 rfl rfl
theorem q2_115 {c : Cond} : (Jvm.Cond.static ({ cls := "FieldRowsModel", name := "fixedOf", desc := "([IJ)J" } : Jvm.MethodName)) ∈ c :: kw_ := kw_2 115 rfl rfl
theorem q2_116 {c : Cond} : (Jvm.Cond.code ({ cls := "FieldRowsModel", name := "fixedOf", desc := "([IJ)J" } : Jvm.MethodName) prog_5_method_17_code (3 : Nat) (Option.some Jvm.ClassFile.FieldType.long)) ∈ c :: kw_ := kw_2 116 rfl rfl
theorem q2_117 {c : Cond} : (Jvm.Cond.methodLink "FieldRowsModel" (70 : Nat) ({ cls := "FieldRowsModel", name := "headOf", desc := "([IJ)J" } : Jvm.MethodName)) ∈ c :: kw_ := kw_2 117 rfl rfl
theorem q2_118 {c : Cond} : (Jvm.Cond.static ({ cls := "FieldRowsModel", name := "headOf", desc := "([IJ)J" } : Jvm.MethodName)) ∈ c :: kw_ := kw_2 118 rfl rfl
theorem q2_119 {c : Cond} : (Jvm.Cond.code ({ cls := "FieldRowsModel", name := "headOf", desc := "([IJ)J" } : Jvm.MethodName) prog_5_method_15_code (3 : Nat) (Option.some Jvm.ClassFile.FieldType.long)) ∈ c :: kw_ := kw_2 119 rfl rfl
theorem q2_120 {c : Cond} : (Jvm.Cond.methodLink "FieldRowsModel" (57 : Nat) ({ cls := "FieldRowsModel", name := "hasCopy", desc := "([IJ)Z" } : Jvm.MethodName)) ∈ c :: kw_ := kw_2 120 rfl rfl
theorem q2_121 {c : Cond} : (Jvm.Cond.static ({ cls := "FieldRowsModel", name := "hasCopy", desc := "([IJ)Z" } : Jvm.MethodName)) ∈ c :: kw_ := kw_2 121 rfl rfl
theorem q2_122 {c : Cond} : (Jvm.Cond.code ({ cls := "FieldRowsModel", name := "hasCopy", desc := "([IJ)Z" } : Jvm.MethodName) prog_5_method_12_code (3 : Nat) (Option.some Jvm.ClassFile.FieldType.boolean)) ∈ c :: kw_ := kw_2 122 rfl rfl
theorem q2_123 {c : Cond} : (Jvm.Cond.methodLink "FieldRowsModel" (37 : Nat) ({ cls := "FieldRowsModel", name := "has", desc := "([III)Z" } : Jvm.MethodName)) ∈ c :: kw_ := kw_2 123 rfl rfl
theorem q2_124 {c : Cond} : (Jvm.Cond.static ({ cls := "FieldRowsModel", name := "has", desc := "([III)Z" } : Jvm.MethodName)) ∈ c :: kw_ := kw_2 124 rfl rfl
theorem q2_125 {c : Cond} : (Jvm.Cond.code ({ cls := "FieldRowsModel", name := "has", desc := "([III)Z" } : Jvm.MethodName) prog_5_method_7_code (3 : Nat) (Option.some Jvm.ClassFile.FieldType.boolean)) ∈ c :: kw_ := kw_2 125 rfl rfl
theorem q2_126 {c : Cond} : (Jvm.Cond.methodLink "FieldRowsModel" (45 : Nat) ({ cls := "FieldRowsModel", name := "isPower", desc := "(JJ)Z" } : Jvm.MethodName)) ∈ c :: kw_ := kw_2 126 rfl rfl
theorem q2_127 {c : Cond} : (Jvm.Cond.static ({ cls := "FieldRowsModel", name := "isPower", desc := "(JJ)Z" } : Jvm.MethodName)) ∈ c :: kw_ := kw_2 127 rfl rfl
theorem q2_128 {c : Cond} : (Jvm.Cond.code ({ cls := "FieldRowsModel", name := "isPower", desc := "(JJ)Z" } : Jvm.MethodName) prog_5_method_11_code (6 : Nat) (Option.some Jvm.ClassFile.FieldType.boolean)) ∈ c :: kw_ := kw_2 128 rfl rfl
theorem q2_129 {c : Cond} : (Jvm.Cond.constantLong "FieldRowsModel" (49 : Nat) (5 : Int64)) ∈ c :: kw_ := kw_2 129 rfl rfl
theorem q2_130 {c : Cond} : (Jvm.Cond.constantLong "FieldRowsModel" (51 : Nat) (7 : Int64)) ∈ c :: kw_ := kw_2 130 rfl rfl
theorem q2_131 {c : Cond} : (Jvm.Cond.constantLong "FieldRowsModel" (61 : Nat) (32 : Int64)) ∈ c :: kw_ := kw_2 131 rfl rfl
theorem q2_132 {c : Cond} : (Jvm.Cond.methodLink "FieldRowsModel" (73 : Nat) ({ cls := "FieldRowsModel", name := "recordBlocks", desc := "([I)J" } : Jvm.MethodName)) ∈ c :: kw_ := kw_2 132 rfl rfl
theorem q2_133 {c : Cond} : (Jvm.Cond.static ({ cls := "FieldRowsModel", name := "recordBlocks", desc := "([I)J" } : Jvm.MethodName)) ∈ c :: kw_ := kw_2 133 rfl rfl
theorem q2_134 {c : Cond} : (Jvm.Cond.code ({ cls := "FieldRowsModel", name := "recordBlocks", desc := "([I)J" } : Jvm.MethodName) prog_5_method_16_code (1 : Nat) (Option.some Jvm.ClassFile.FieldType.long)) ∈ c :: kw_ := kw_2 134 rfl rfl
theorem q2_135 {c : Cond} : (Jvm.Cond.methodLink "FieldRowsModel" (117 : Nat) ({ cls := "FieldRowsModel", name := "faultOfFeatures", desc := "([I)I" } : Jvm.MethodName)) ∈ c :: kw_ := kw_2 135 rfl rfl
theorem q2_136 {c : Cond} : (Jvm.Cond.static ({ cls := "FieldRowsModel", name := "faultOfFeatures", desc := "([I)I" } : Jvm.MethodName)) ∈ c :: kw_ := kw_2 136 rfl rfl
theorem q2_137 {c : Cond} : (Jvm.Cond.code ({ cls := "FieldRowsModel", name := "faultOfFeatures", desc := "([I)I" } : Jvm.MethodName) prog_5_method_23_code (3 : Nat) (Option.some Jvm.ClassFile.FieldType.int)) ∈ c :: kw_ := kw_2 137 rfl rfl
theorem q2_138 {c : Cond} : (Jvm.Cond.methodLink "FieldRowsModel" (106 : Nat) ({ cls := "FieldRowsModel", name := "isListed", desc := "(II)Z" } : Jvm.MethodName)) ∈ c :: kw_ := kw_2 138 rfl rfl
theorem q2_139 {c : Cond} : (Jvm.Cond.static ({ cls := "FieldRowsModel", name := "isListed", desc := "(II)Z" } : Jvm.MethodName)) ∈ c :: kw_ := kw_2 139 rfl rfl
theorem q2_140 {c : Cond} : (Jvm.Cond.code ({ cls := "FieldRowsModel", name := "isListed", desc := "(II)Z" } : Jvm.MethodName) prog_5_method_22_code (2 : Nat) (Option.some Jvm.ClassFile.FieldType.boolean)) ∈ c :: kw_ := kw_2 140 rfl rfl
theorem q2_141 {c : Cond} : (Jvm.Cond.methodLink "FieldRowsModel" (120 : Nat) ({ cls := "FieldRowsModel", name := "faultOfRest", desc := "([I)I" } : Jvm.MethodName)) ∈ c :: kw_ := kw_2 141 rfl rfl
theorem q2_142 {c : Cond} : (Jvm.Cond.static ({ cls := "FieldRowsModel", name := "faultOfRest", desc := "([I)I" } : Jvm.MethodName)) ∈ c :: kw_ := kw_2 142 rfl rfl
theorem q2_143 {c : Cond} : (Jvm.Cond.code ({ cls := "FieldRowsModel", name := "faultOfRest", desc := "([I)I" } : Jvm.MethodName) prog_5_method_24_code (1 : Nat) (Option.some Jvm.ClassFile.FieldType.int)) ∈ c :: kw_ := kw_2 143 rfl rfl
theorem q2_144 {c : Cond} : (Jvm.Cond.fieldLink "FieldRowsModel" (7 : Nat) "FieldRowsModel" "first" "[I") ∈ c :: kw_ := kw_2 144 rfl rfl
theorem q2_145 {c : Cond} : (Jvm.Cond.fieldLink "FieldRowsModel" (13 : Nat) "FieldRowsModel" "second" "[I") ∈ c :: kw_ := kw_2 145 rfl rfl
theorem q2_146 {c : Cond} : (Jvm.Cond.fieldLink "FieldRowsModel" (16 : Nat) "FieldRowsModel" "draft" "[I") ∈ c :: kw_ := kw_2 146 rfl rfl
theorem q2_147 {c : Cond} : (Jvm.Cond.laysFinal "FieldRowsModel" "FieldRowsModel" "first" "[I") ∈ c :: kw_ := kw_2 147 rfl rfl
theorem q2_149 {c : Cond} : (Jvm.Cond.laysFinal "FieldRowsModel" "FieldRowsModel" "second" "[I") ∈ c :: kw_ := kw_2 149 rfl rfl
theorem q2_151 {c : Cond} : (Jvm.Cond.laysFinal "FieldRowsModel" "FieldRowsModel" "draft" "[I") ∈ c :: kw_ := kw_2 151 rfl rfl
theorem q2_154 {c : Cond} : (Jvm.Cond.arrayClass Jvm.ClassFile.FieldType.int) ∈ c :: kw_ := kw_2 154 rfl rfl
theorem q2_155 {c : Cond} : (Jvm.Cond.methodLink "FieldRowsLaw" (17 : Nat) ({ cls := "FieldRowsModel", name := "lay", desc := "(IIIII)I" } : Jvm.MethodName)) ∈ c :: kw_ := kw_2 155 rfl rfl
theorem q2_156 {c : Cond} : (Jvm.Cond.methodLink "FieldRowsLaw" (22 : Nat) ({ cls := "FieldRowsModel", name := "poke", desc := "(III)I" } : Jvm.MethodName)) ∈ c :: kw_ := kw_2 156 rfl rfl
theorem q2_157 {c : Cond} : (Jvm.Cond.instanceMethod ({ cls := "FieldRowsModel", name := "poke", desc := "(III)I" } : Jvm.MethodName)) ∈ c :: kw_ := kw_2 157 rfl rfl
theorem q2_158 {c : Cond} : (Jvm.Cond.selects "FieldRowsModel" ({ cls := "FieldRowsModel", name := "poke", desc := "(III)I" } : Jvm.MethodName) ({ cls := "FieldRowsModel", name := "poke", desc := "(III)I" } : Jvm.MethodName)) ∈ c :: kw_ := kw_2 158 rfl rfl
theorem q2_159 {c : Cond} : (Jvm.Cond.code ({ cls := "FieldRowsModel", name := "poke", desc := "(III)I" } : Jvm.MethodName) prog_5_method_28_code (5 : Nat) (Option.some Jvm.ClassFile.FieldType.int)) ∈ c :: kw_ := kw_2 159 rfl rfl
theorem q2_160 {c : Cond} : (Jvm.Cond.methodLink "FieldRowsModel" (136 : Nat) ({ cls := "FieldRowsModel", name := "isRow", desc := "(I)Z" } : Jvm.MethodName)) ∈ c :: kw_ := kw_2 160 rfl rfl
theorem q2_161 {c : Cond} : (Jvm.Cond.static ({ cls := "FieldRowsModel", name := "isRow", desc := "(I)Z" } : Jvm.MethodName)) ∈ c :: kw_ := kw_2 161 rfl rfl
theorem q2_162 {c : Cond} : (Jvm.Cond.code ({ cls := "FieldRowsModel", name := "isRow", desc := "(I)Z" } : Jvm.MethodName) prog_5_method_4_code (1 : Nat) (Option.some Jvm.ClassFile.FieldType.boolean)) ∈ c :: kw_ := kw_2 162 rfl rfl
theorem q2_163 {c : Cond} : (Jvm.Cond.methodLink "FieldRowsModel" (140 : Nat) ({ cls := "FieldRowsModel", name := "rowOf", desc := "(I)[I" } : Jvm.MethodName)) ∈ c :: kw_ := kw_2 163 rfl rfl
theorem q2_165 {c : Cond} : (Jvm.Cond.instanceMethod ({ cls := "FieldRowsModel", name := "rowOf", desc := "(I)[I" } : Jvm.MethodName)) ∈ c :: kw_ := kw_2 165 rfl rfl
theorem q2_166 {c : Cond} : (Jvm.Cond.code ({ cls := "FieldRowsModel", name := "rowOf", desc := "(I)[I" } : Jvm.MethodName) prog_5_method_3_code (2 : Nat) (Option.some (Jvm.ClassFile.FieldType.array Jvm.ClassFile.FieldType.int))) ∈ c :: kw_ := kw_2 166 rfl rfl
theorem q2_167 {c : Cond} : (Jvm.Cond.methodLink "FieldRowsLaw" (27 : Nat) ({ cls := "FieldRowsModel", name := "put", desc := "(IIII)I" } : Jvm.MethodName)) ∈ c :: kw_ := kw_2 167 rfl rfl
theorem q2_168 {c : Cond} : (Jvm.Cond.instanceMethod ({ cls := "FieldRowsModel", name := "put", desc := "(IIII)I" } : Jvm.MethodName)) ∈ c :: kw_ := kw_2 168 rfl rfl
theorem q2_169 {c : Cond} : (Jvm.Cond.selects "FieldRowsModel" ({ cls := "FieldRowsModel", name := "put", desc := "(IIII)I" } : Jvm.MethodName) ({ cls := "FieldRowsModel", name := "put", desc := "(IIII)I" } : Jvm.MethodName)) ∈ c :: kw_ := kw_2 169 rfl rfl
theorem q2_170 {c : Cond} : (Jvm.Cond.code ({ cls := "FieldRowsModel", name := "put", desc := "(IIII)I" } : Jvm.MethodName) prog_5_method_30_code (5 : Nat) (Option.some Jvm.ClassFile.FieldType.int)) ∈ c :: kw_ := kw_2 170 rfl rfl
theorem q2_171 {c : Cond} : (Jvm.Cond.methodLink "FieldRowsModel" (144 : Nat) ({ cls := "FieldRowsModel", name := "isField", desc := "(III)Z" } : Jvm.MethodName)) ∈ c :: kw_ := kw_2 171 rfl rfl
theorem q2_172 {c : Cond} : (Jvm.Cond.static ({ cls := "FieldRowsModel", name := "isField", desc := "(III)Z" } : Jvm.MethodName)) ∈ c :: kw_ := kw_2 172 rfl rfl
theorem q2_173 {c : Cond} : (Jvm.Cond.code ({ cls := "FieldRowsModel", name := "isField", desc := "(III)Z" } : Jvm.MethodName) prog_5_method_29_code (3 : Nat) (Option.some Jvm.ClassFile.FieldType.boolean)) ∈ c :: kw_ := kw_2 173 rfl rfl
theorem q2_174 {c : Cond} : (Jvm.Cond.methodLink "FieldRowsLaw" (32 : Nat) ({ cls := "FieldRowsModel", name := "get", desc := "(III)J" } : Jvm.MethodName)) ∈ c :: kw_ := kw_2 174 rfl rfl
theorem q2_175 {c : Cond} : (Jvm.Cond.instanceMethod ({ cls := "FieldRowsModel", name := "get", desc := "(III)J" } : Jvm.MethodName)) ∈ c :: kw_ := kw_2 175 rfl rfl
theorem q2_176 {c : Cond} : (Jvm.Cond.selects "FieldRowsModel" ({ cls := "FieldRowsModel", name := "get", desc := "(III)J" } : Jvm.MethodName) ({ cls := "FieldRowsModel", name := "get", desc := "(III)J" } : Jvm.MethodName)) ∈ c :: kw_ := kw_2 176 rfl rfl
theorem q2_177 {c : Cond} : (Jvm.Cond.code ({ cls := "FieldRowsModel", name := "get", desc := "(III)J" } : Jvm.MethodName) prog_5_method_31_code (4 : Nat) (Option.some Jvm.ClassFile.FieldType.long)) ∈ c :: kw_ := kw_2 177 rfl rfl
theorem q2_178 {c : Cond} : (Jvm.Cond.constantLong "FieldRowsModel" (148 : Nat) (-1 : Int64)) ∈ c :: kw_ := kw_2 178 rfl rfl
theorem q2_179 {c : Cond} : (Jvm.Cond.methodLink "FieldRowsLaw" (37 : Nat) ({ cls := "FieldRowsModel", name := "fault", desc := "(I)I" } : Jvm.MethodName)) ∈ c :: kw_ := kw_2 179 rfl rfl
theorem q2_180 {c : Cond} : (Jvm.Cond.instanceMethod ({ cls := "FieldRowsModel", name := "fault", desc := "(I)I" } : Jvm.MethodName)) ∈ c :: kw_ := kw_2 180 rfl rfl
theorem q2_181 {c : Cond} : (Jvm.Cond.selects "FieldRowsModel" ({ cls := "FieldRowsModel", name := "fault", desc := "(I)I" } : Jvm.MethodName) ({ cls := "FieldRowsModel", name := "fault", desc := "(I)I" } : Jvm.MethodName)) ∈ c :: kw_ := kw_2 181 rfl rfl
theorem q2_182 {c : Cond} : (Jvm.Cond.code ({ cls := "FieldRowsModel", name := "fault", desc := "(I)I" } : Jvm.MethodName) prog_5_method_32_code (2 : Nat) (Option.some Jvm.ClassFile.FieldType.int)) ∈ c :: kw_ := kw_2 182 rfl rfl
theorem q2_183 {c : Cond} : (Jvm.Cond.methodLink "FieldRowsLaw" (41 : Nat) ({ cls := "FieldRowsModel", name := "copy", desc := "(I)I" } : Jvm.MethodName)) ∈ c :: kw_ := kw_2 183 rfl rfl
theorem q2_184 {c : Cond} : (Jvm.Cond.instanceMethod ({ cls := "FieldRowsModel", name := "copy", desc := "(I)I" } : Jvm.MethodName)) ∈ c :: kw_ := kw_2 184 rfl rfl
theorem q2_185 {c : Cond} : (Jvm.Cond.selects "FieldRowsModel" ({ cls := "FieldRowsModel", name := "copy", desc := "(I)I" } : Jvm.MethodName) ({ cls := "FieldRowsModel", name := "copy", desc := "(I)I" } : Jvm.MethodName)) ∈ c :: kw_ := kw_2 185 rfl rfl
theorem q2_186 {c : Cond} : (Jvm.Cond.code ({ cls := "FieldRowsModel", name := "copy", desc := "(I)I" } : Jvm.MethodName) prog_5_method_33_code (3 : Nat) (Option.some Jvm.ClassFile.FieldType.int)) ∈ c :: kw_ := kw_2 186 rfl rfl
theorem q2_187 {c : Cond} : (Jvm.Cond.methodLink "FieldRowsModel" (150 : Nat) ({ cls := "FieldRowsModel", name := "isRight", desc := "()Z" } : Jvm.MethodName)) ∈ c :: kw_ := kw_2 187 rfl rfl
theorem q2_189 {c : Cond} : (Jvm.Cond.instanceMethod ({ cls := "FieldRowsModel", name := "isRight", desc := "()Z" } : Jvm.MethodName)) ∈ c :: kw_ := kw_2 189 rfl rfl
theorem q2_190 {c : Cond} : (Jvm.Cond.code ({ cls := "FieldRowsModel", name := "isRight", desc := "()Z" } : Jvm.MethodName) prog_5_method_26_code (1 : Nat) (Option.some Jvm.ClassFile.FieldType.boolean)) ∈ c :: kw_ := kw_2 190 rfl rfl
theorem q2_191 {c : Cond} : (Jvm.Cond.methodLink "FieldRowsLaw" (46 : Nat) ({ cls := "FieldRowsModel", name := "differs", desc := "()I" } : Jvm.MethodName)) ∈ c :: kw_ := kw_2 191 rfl rfl
theorem q2_192 {c : Cond} : (Jvm.Cond.instanceMethod ({ cls := "FieldRowsModel", name := "differs", desc := "()I" } : Jvm.MethodName)) ∈ c :: kw_ := kw_2 192 rfl rfl
theorem q2_193 {c : Cond} : (Jvm.Cond.selects "FieldRowsModel" ({ cls := "FieldRowsModel", name := "differs", desc := "()I" } : Jvm.MethodName) ({ cls := "FieldRowsModel", name := "differs", desc := "()I" } : Jvm.MethodName)) ∈ c :: kw_ := kw_2 193 rfl rfl
theorem q2_194 {c : Cond} : (Jvm.Cond.code ({ cls := "FieldRowsModel", name := "differs", desc := "()I" } : Jvm.MethodName) prog_5_method_35_code (2 : Nat) (Option.some Jvm.ClassFile.FieldType.int)) ∈ c :: kw_ := kw_2 194 rfl rfl
theorem q2_195 {c : Cond} : (Jvm.Cond.methodLink "FieldRowsModel" (174 : Nat) ({ cls := "FieldRowsModel", name := "mayDiffer", desc := "(I)Z" } : Jvm.MethodName)) ∈ c :: kw_ := kw_2 195 rfl rfl
theorem q2_196 {c : Cond} : (Jvm.Cond.static ({ cls := "FieldRowsModel", name := "mayDiffer", desc := "(I)Z" } : Jvm.MethodName)) ∈ c :: kw_ := kw_2 196 rfl rfl
theorem q2_197 {c : Cond} : (Jvm.Cond.code ({ cls := "FieldRowsModel", name := "mayDiffer", desc := "(I)Z" } : Jvm.MethodName) prog_5_method_34_code (1 : Nat) (Option.some Jvm.ClassFile.FieldType.boolean)) ∈ c :: kw_ := kw_2 197 rfl rfl
theorem q2_198 {c : Cond} : (Jvm.Cond.constantLong "FieldRowsModel" (154 : Nat) (12 : Int64)) ∈ c :: kw_ := kw_2 198 rfl rfl
theorem q2_199 {c : Cond} : (Jvm.Cond.constantLong "FieldRowsModel" (156 : Nat) (19 : Int64)) ∈ c :: kw_ := kw_2 199 rfl rfl
theorem q2_200 {c : Cond} : (Jvm.Cond.constantLong "FieldRowsModel" (158 : Nat) (44 : Int64)) ∈ c :: kw_ := kw_2 200 rfl rfl
theorem q2_201 {c : Cond} : (Jvm.Cond.constantLong "FieldRowsModel" (160 : Nat) (53 : Int64)) ∈ c :: kw_ := kw_2 201 rfl rfl
theorem q2_202 {c : Cond} : (Jvm.Cond.constantLong "FieldRowsModel" (162 : Nat) (58 : Int64)) ∈ c :: kw_ := kw_2 202 rfl rfl
theorem q2_203 {c : Cond} : (Jvm.Cond.constantLong "FieldRowsModel" (164 : Nat) (59 : Int64)) ∈ c :: kw_ := kw_2 203 rfl rfl
theorem q2_204 {c : Cond} : (Jvm.Cond.constantLong "FieldRowsModel" (166 : Nat) (90 : Int64)) ∈ c :: kw_ := kw_2 204 rfl rfl
theorem q2_205 {c : Cond} : (Jvm.Cond.constantLong "FieldRowsModel" (168 : Nat) (91 : Int64)) ∈ c :: kw_ := kw_2 205 rfl rfl
theorem q2_206 {c : Cond} : (Jvm.Cond.constantLong "FieldRowsModel" (170 : Nat) (232 : Int64)) ∈ c :: kw_ := kw_2 206 rfl rfl
theorem q2_207 {c : Cond} : (Jvm.Cond.constantLong "FieldRowsModel" (172 : Nat) (235 : Int64)) ∈ c :: kw_ := kw_2 207 rfl rfl
theorem q2_208 {c : Cond} : (Jvm.Cond.methodLink "FieldRowsLaw" (50 : Nat) ({ cls := "FieldRowsModel", name := "groups", desc := "()I" } : Jvm.MethodName)) ∈ c :: kw_ := kw_2 208 rfl rfl
theorem q2_209 {c : Cond} : (Jvm.Cond.instanceMethod ({ cls := "FieldRowsModel", name := "groups", desc := "()I" } : Jvm.MethodName)) ∈ c :: kw_ := kw_2 209 rfl rfl
theorem q2_210 {c : Cond} : (Jvm.Cond.selects "FieldRowsModel" ({ cls := "FieldRowsModel", name := "groups", desc := "()I" } : Jvm.MethodName) ({ cls := "FieldRowsModel", name := "groups", desc := "()I" } : Jvm.MethodName)) ∈ c :: kw_ := kw_2 210 rfl rfl
theorem q2_211 {c : Cond} : (Jvm.Cond.code ({ cls := "FieldRowsModel", name := "groups", desc := "()I" } : Jvm.MethodName) prog_5_method_36_code (1 : Nat) (Option.some Jvm.ClassFile.FieldType.int)) ∈ c :: kw_ := kw_2 211 rfl rfl
theorem q2_212 {c : Cond} : (Jvm.Cond.methodLink "FieldRowsLaw" (55 : Nat) ({ cls := "FieldRowsModel", name := "where", desc := "(II)I" } : Jvm.MethodName)) ∈ c :: kw_ := kw_2 212 rfl rfl
theorem q2_213 {c : Cond} : (Jvm.Cond.instanceMethod ({ cls := "FieldRowsModel", name := "where", desc := "(II)I" } : Jvm.MethodName)) ∈ c :: kw_ := kw_2 213 rfl rfl
theorem q2_214 {c : Cond} : (Jvm.Cond.selects "FieldRowsModel" ({ cls := "FieldRowsModel", name := "where", desc := "(II)I" } : Jvm.MethodName) ({ cls := "FieldRowsModel", name := "where", desc := "(II)I" } : Jvm.MethodName)) ∈ c :: kw_ := kw_2 214 rfl rfl
theorem q2_215 {c : Cond} : (Jvm.Cond.code ({ cls := "FieldRowsModel", name := "where", desc := "(II)I" } : Jvm.MethodName) prog_5_method_37_code (7 : Nat) (Option.some Jvm.ClassFile.FieldType.int)) ∈ c :: kw_ := kw_2 215 rfl rfl
theorem q2_216 {c : Cond} : (Jvm.Cond.methodLink "FieldRowsLaw" (60 : Nat) ({ cls := "FieldRowsModel", name := "record", desc := "(IZ)I" } : Jvm.MethodName)) ∈ c :: kw_ := kw_2 216 rfl rfl
theorem q2_217 {c : Cond} : (Jvm.Cond.instanceMethod ({ cls := "FieldRowsModel", name := "record", desc := "(IZ)I" } : Jvm.MethodName)) ∈ c :: kw_ := kw_2 217 rfl rfl
theorem q2_218 {c : Cond} : (Jvm.Cond.selects "FieldRowsModel" ({ cls := "FieldRowsModel", name := "record", desc := "(IZ)I" } : Jvm.MethodName) ({ cls := "FieldRowsModel", name := "record", desc := "(IZ)I" } : Jvm.MethodName)) ∈ c :: kw_ := kw_2 218 rfl rfl
theorem q2_219 {c : Cond} : (Jvm.Cond.code ({ cls := "FieldRowsModel", name := "record", desc := "(IZ)I" } : Jvm.MethodName) prog_5_method_38_code (9 : Nat) (Option.some Jvm.ClassFile.FieldType.int)) ∈ c :: kw_ := kw_2 219 rfl rfl
theorem q2_220 {c : Cond} : (Jvm.Cond.methodLink "FieldRowsModel" (177 : Nat) ({ cls := "FieldRowsModel", name := "where", desc := "(II)I" } : Jvm.MethodName)) ∈ c :: kw_ := kw_2 220 rfl rfl
theorem q0_0 {c : Cond} : (Cond.selects "FieldRows$Volume" ⟨"FieldRows$Volume", "faultOfForm", "(LFieldRows$Row;)I"⟩ ⟨"FieldRows$Volume", "faultOfForm", "(LFieldRows$Row;)I"⟩) ∈ c :: kw_ := kw_0 0 rfl rfl
theorem q0_1 {c : Cond} : (Cond.selects "FieldRows$Volume" ⟨"FieldRows$Volume", "faultOfGroupSizes", "(LFieldRows$Row;)I"⟩ ⟨"FieldRows$Volume", "faultOfGroupSizes", "(LFieldRows$Row;)I"⟩) ∈ c :: kw_ := kw_0 1 rfl rfl
theorem q0_2 {c : Cond} : (Cond.selects "FieldRows$Volume" ⟨"FieldRows$Volume", "everyGroupHasRoom", "()Z"⟩ ⟨"FieldRows$Volume", "everyGroupHasRoom", "()Z"⟩) ∈ c :: kw_ := kw_0 2 rfl rfl
theorem q0_3 {c : Cond} : (Cond.selects "FieldRows$Volume" ⟨"FieldRows$Volume", "faultOfCounts", "(LFieldRows$Row;)I"⟩ ⟨"FieldRows$Volume", "faultOfCounts", "(LFieldRows$Row;)I"⟩) ∈ c :: kw_ := kw_0 3 rfl rfl
theorem q0_4 {c : Cond} : (Cond.selects "FieldRows$Volume" ⟨"FieldRows$Volume", "faultOfFeatures", "(LFieldRows$Row;)I"⟩ ⟨"FieldRows$Volume", "faultOfFeatures", "(LFieldRows$Row;)I"⟩) ∈ c :: kw_ := kw_0 4 rfl rfl
theorem q0_5 {c : Cond} : (Cond.selects "FieldRows$Volume" ⟨"FieldRows$Volume", "faultOfRest", "(LFieldRows$Row;)I"⟩ ⟨"FieldRows$Volume", "faultOfRest", "(LFieldRows$Row;)I"⟩) ∈ c :: kw_ := kw_0 5 rfl rfl
theorem q0_6 {c : Cond} : (Cond.selects "FieldRows" ⟨"FieldRows", "rowOf", "(I)LFieldRows$Row;"⟩ ⟨"FieldRows", "rowOf", "(I)LFieldRows$Row;"⟩) ∈ c :: kw_ := kw_0 6 rfl rfl
theorem q0_7 {c : Cond} : (Cond.selects "FieldRows" ⟨"FieldRows", "isGroupOfRightRow", "(I)Z"⟩ ⟨"FieldRows", "isGroupOfRightRow", "(I)Z"⟩) ∈ c :: kw_ := kw_0 7 rfl rfl
theorem q0_8 {c : Cond} : (Cond.selects "FieldRowsModel" ⟨"FieldRowsModel", "rowOf", "(I)[I"⟩ ⟨"FieldRowsModel", "rowOf", "(I)[I"⟩) ∈ c :: kw_ := kw_0 8 rfl rfl
theorem q0_9 {c : Cond} : (Cond.selects "FieldRowsModel" ⟨"FieldRowsModel", "isRight", "()Z"⟩ ⟨"FieldRowsModel", "isRight", "()Z"⟩) ∈ c :: kw_ := kw_0 9 rfl rfl
theorem q1_16 : (Jvm.Cond.methodLinkNest "FieldRows" (11 : Nat) ({ cls := "FieldRows$Row", name := "<init>", desc := "()V" } : Jvm.MethodName) "FieldRows") ∈ kf_nw := kf_nw1 16 rfl rfl
theorem q1_27 : (Jvm.Cond.methodLinkNest "FieldRows" (24 : Nat) ({ cls := "FieldRows$Volume", name := "<init>", desc := "()V" } : Jvm.MethodName) "FieldRows") ∈ kf_nw := kf_nw1 27 rfl rfl
theorem q1_32 : (Jvm.Cond.fieldLinkNest "FieldRows" (110 : Nat) "FieldRows$Volume" "files" "J" "FieldRows") ∈ kf_nw := kf_nw1 32 rfl rfl
theorem q1_37 : (Jvm.Cond.fieldLinkNest "FieldRows" (123 : Nat) "FieldRows$Volume" "size" "J" "FieldRows") ∈ kf_nw := kf_nw1 37 rfl rfl
theorem q1_40 : (Jvm.Cond.fieldLinkNest "FieldRows" (113 : Nat) "FieldRows$Volume" "groupFiles" "J" "FieldRows") ∈ kf_nw := kf_nw1 40 rfl rfl
theorem q1_42 : (Jvm.Cond.fieldLinkNest "FieldRows" (120 : Nat) "FieldRows$Volume" "recordBytes" "J" "FieldRows") ∈ kf_nw := kf_nw1 42 rfl rfl
theorem q1_45 : (Jvm.Cond.fieldLinkNest "FieldRows" (52 : Nat) "FieldRows$Volume" "groupCount" "J" "FieldRows") ∈ kf_nw := kf_nw1 45 rfl rfl
theorem q1_48 : (Jvm.Cond.fieldLinkNest "FieldRows" (104 : Nat) "FieldRows$Volume" "recordBlocks" "J" "FieldRows") ∈ kf_nw := kf_nw1 48 rfl rfl
theorem q1_92 : (Jvm.Cond.methodLinkNest "FieldRows$Row" (15 : Nat) ({ cls := "FieldRows", name := "isField", desc := "(II)Z" } : Jvm.MethodName) "FieldRows") ∈ kf_nw := kf_nw1 92 rfl rfl
theorem q1_115 : (Jvm.Cond.methodLinkNest "FieldRows$Volume" (48 : Nat) ({ cls := "FieldRows", name := "quotientUp", desc := "(JJ)J" } : Jvm.MethodName) "FieldRows") ∈ kf_nw := kf_nw1 115 rfl rfl
theorem q1_133 : (Jvm.Cond.methodLinkNest "FieldRows$Volume" (117 : Nat) ({ cls := "FieldRows", name := "firstFor", desc := "(J)I" } : Jvm.MethodName) "FieldRows") ∈ kf_nw := kf_nw1 133 rfl rfl
theorem q1_140 : (Jvm.Cond.methodLinkNest "FieldRows$Volume" (125 : Nat) ({ cls := "FieldRows", name := "isEightfold", desc := "(JJJ)Z" } : Jvm.MethodName) "FieldRows") ∈ kf_nw := kf_nw1 140 rfl rfl
theorem q1_144 : (Jvm.Cond.methodLinkNest "FieldRows$Volume" (129 : Nat) ({ cls := "FieldRows", name := "isRecordLength", desc := "(J)Z" } : Jvm.MethodName) "FieldRows") ∈ kf_nw := kf_nw1 144 rfl rfl
theorem q1_180 : (Jvm.Cond.fieldLinkNest "FieldRows$Volume" (72 : Nat) "FieldRows" "FEW_COPIES" "[I" "FieldRows") ∈ kf_nw := kf_nw1 180 rfl rfl

theorem ku_Row {c : Cond} : ∀ w ∈ u_ws "FieldRows$Row" F_Row 1, w ∈ c :: kw_ := by
  intro w hw
  obtain ⟨k, hk, rfl⟩ := List.mem_map.mp hw
  have hk := List.mem_range.mp hk
  obtain rfl : k = 0 := by omega
  exact q1_21
theorem ku_Vol {c : Cond} : ∀ w ∈ u_ws "FieldRows$Volume" F_Vol 12, w ∈ c :: kw_ := by
  intro w hw
  obtain ⟨k, hk, rfl⟩ := List.mem_map.mp hw
  have hk := List.mem_range.mp hk
  rcases (show k = 0 ∨ k = 1 ∨ k = 2 ∨ k = 3 ∨ k = 4 ∨ k = 5 ∨ k = 6 ∨ k = 7 ∨ k = 8 ∨ k = 9 ∨ k = 10 ∨ k = 11 by omega) with rfl | rfl | rfl | rfl | rfl | rfl | rfl | rfl | rfl | rfl | rfl | rfl
  · exact q1_49
  · exact q1_51
  · exact q1_53
  · exact q1_55
  · exact q1_57
  · exact q1_59
  · exact q1_61
  · exact q1_63
  · exact q1_65
  · exact q1_67
  · exact q1_69
  · exact q1_71
theorem ku_FR {c : Cond} : ∀ w ∈ u_ws "FieldRows" F_FR 4, w ∈ c :: kw_ := by
  intro w hw
  obtain ⟨k, hk, rfl⟩ := List.mem_map.mp hw
  have hk := List.mem_range.mp hk
  rcases (show k = 0 ∨ k = 1 ∨ k = 2 ∨ k = 3 by omega) with rfl | rfl | rfl | rfl
  · exact q1_212
  · exact q1_214
  · exact q1_216
  · exact q1_218
theorem ku_Mo {c : Cond} : ∀ w ∈ u_ws "FieldRowsModel" F_Mo 3, w ∈ c :: kw_ := by
  intro w hw
  obtain ⟨k, hk, rfl⟩ := List.mem_map.mp hw
  have hk := List.mem_range.mp hk
  rcases (show k = 0 ∨ k = 1 ∨ k = 2 by omega) with rfl | rfl | rfl
  · exact q2_147
  · exact q2_149
  · exact q2_151
end
section
section KF1
variable {D : va_G} {A B : Nat → Prop} {tys : List (ClassId × FieldType)} {ws wc wr w1 ws2 : va_W} {H H1 : Heap} {locs : List Loc} {s U : State}
theorem kf_nwWarm {w : Cond} (hw : kf_nwOk w = true) (hW : s.WarmedH U.vm) (h : va_Nw w s) : va_Nw w U := by
  cases w <;> first | exact va_Nw.warmF hW h | exact va_Nw.warmM hW h | exact absurd hw (by simp [kf_nwOk])
abbrev kf_Z : Type := String × String × String × Nat × (Nat → Int32)
def ky_few : Nat → Int32 := fun j => match j with
  | 0 => 0
  | 1 => 1
  | 2 => 3
  | 3 => 5
  | 4 => 7
  | 5 => 9
  | 6 => 25
  | 7 => 27
  | _ => 49
def ky_not : Nat → Int32 := fun j => match j with
  | 0 => 12
  | 1 => 19
  | 2 => 44
  | 3 => 53
  | 4 => 58
  | 5 => 59
  | 6 => 90
  | 7 => 91
  | 8 => 232
  | _ => 235
def kf_zF : kf_Z := ("FieldRows", "FEW_COPIES", "[I", 9, ky_few)
def kf_zN : kf_Z := ("FieldRows", "NOT_FOLLOWED", "[I", 10, ky_not)
def kf_zs : List kf_Z := [kf_zF, kf_zN]
def kf_ev (D : va_G) (tys : List (ClassId × FieldType)) (A : Nat → Prop) (U : State) (H : Heap) : Prop :=
  va_K D vwCl tys U ∧ (∀ w ∈ kf_nw, va_Nw w U) ∧ ∀ z ∈ kf_zs, ∃ t : Nat, va_Z z.1 z.2.1 z.2.2.1 (.ref t) A U H ∧ va_T .int t z.2.2.2.1 (fun j => .int (z.2.2.2.2 j)) A U H
theorem kf_evTo (h : kf_ev D tys A s s.heap) (hS : va_S A s.heap H locs) (hU : U.heap = H) (hW : s.WarmedH U.vm) (hB : ∀ q, B q → A q) : kf_ev D tys B U U.heap := by
  obtain ⟨hK, hN, hZ⟩ := h
  refine ⟨va_K.moved hW.alike hK, fun w hw => kf_nwWarm (kf_nwAll w hw) hW (hN w hw), fun z hz => ?_⟩
  obtain ⟨t, h1, h2⟩ := hZ z hz
  rw [hU]
  exact ⟨t, ((h1.kept hS.2.1).narrow hB).moved hW.alike, ((h2.kept hS.2.1).narrow hB).moved hW.alike⟩
theorem kf_evBl {g : JFrame} {mk : MethodId} {a : Array Value} (h : kf_ev D tys A U U.heap) : kf_ev D tys A (U.calling g mk a) (U.calling g mk a).heap := by
  obtain ⟨hK, hN, hZ⟩ := h
  refine ⟨va_K.moved (u := U) (U := U.calling g mk a) (Vm.Alike.refl U.vm) hK, fun w hw => va_Nw.same (u := U) (U := U.calling g mk a) (kf_nwTab w hw) rfl (hN w hw), fun z hz => ?_⟩
  obtain ⟨t, h1, h2⟩ := hZ z hz
  exact ⟨t, va_Z.moved (u := U) (U := U.calling g mk a) (Vm.Alike.refl U.vm) h1, va_T.moved (u := U) (U := U.calling g mk a) (Vm.Alike.refl U.vm) h2⟩
def kf_pr (D : va_G) (tys : List (ClassId × FieldType)) (ws : va_W) (sz : Nat) (U : State) : Prop := U.heap.size = sz ∧ va_P D vwCl ws U.heap ∧ va_D (fun _ => True) ws ∧ kf_ev D tys (va_A ws sz) U U.heap
theorem kf_bl {av : List Value} {sz : Nat} : FrameBlind (va_Pc av (kf_pr D tys ws sz)) := by
  intro a U g mk q
  obtain ⟨q0, q1, qP, qD, qE⟩ := q
  exact ⟨q0, q1, qP, qD, kf_evBl qE⟩
theorem kf_fm {is : List Nat} (h : is.map (fun i => ws[i]?) = wc.map some) : is.filterMap (fun i => ws[i]?) = wc := by
  induction is generalizing wc with
  | nil => cases wc with
    | nil => rfl
    | cons a l => simp at h
  | cons i is ih => cases wc with
    | nil => simp at h
    | cons a l =>
      simp only [List.map_cons, List.cons.injEq] at h
      rw [List.filterMap_cons, h.1]
      simp only [ih h.2]
theorem kf_to (hP : va_P D vwCl ws H) (hD : va_D A ws) (hS : va_S A s.heap H locs) (hA : ∀ q, s.heap.size ≤ q → A q) (hE : kf_ev D tys A s s.heap) (isC : List Nat) (hn : va_nd isC = true) (hC : isC.map (fun i => ws[i]?) = wc.map some) {av : List Value} : ∀ U : State, U.heap = H → s.WarmedH U.vm → va_Pc av (kf_pr D tys wc H.size) av.toArray U := by
  intro U hU hW
  refine ⟨rfl, by rw [hU], ?_, (hD.sub isC hn hC).weaken (fun _ _ _ _ => trivial), kf_evTo hE hS hU hW (va_free hD hS hA isC hC)⟩
  rw [hU]
  exact hP.sub isC (kf_fm hC)
def kf_fq (v : Option Value) (B : State → Prop) (A : Nat → Prop) : Array Value → State → Outcome → State → Prop := fun _ st oc t => (oc = .returned v ∧ B t) ∧ va_F A st t
def kf_po (D : va_G) (ws : va_W) (A : Nat → Prop) (t : State) : Prop := va_P D vwCl ws t.heap ∧ va_D A ws
end KF1
section KF2
variable {p : Program} {l : Launch} {e : Env} {R : Room} {s : State} {m : MethodId} {args : Array Value} {below : List Frame} {meth : Method} {c : Code} {H : Heap} {locs : List Loc} {cells slots : Nat} {Q : State → Prop}
variable {cc : ByteArray} {pc : Nat} {ls : Array Slot} {rest : List Value} {D : va_G} {A : Nat → Prop} {tys : List (ClassId × FieldType)} {ws wc wr w1 ws2 : va_W}
theorem kf_call0 {v : Option Value} {Bp : State → Prop} {A1 : Nat → Prop} {free : Addr → Prop} {a : Array Value} {mc ms : Nat} {st0 : List Value} (hr : va_Run p l e R s m args below meth c H locs cells slots mc ms (F0 m pc ls st0) rest (kf_fq v Bp A1 a) free) (hS : va_S A s.heap H locs) (hA : ∀ q, q < H.size → A1 q → A q) (hf : ∀ q, free q → A q)
    (kk : ∀ (t : State) (H1 : Heap) (locs1 : List Loc), t.heap = H1 → s.vm.Alike t.vm → Bp t → H.size ≤ H1.size → (∀ q : Nat, q < H.size → ¬ A1 q → H1[q]? = H[q]?) → va_S A s.heap H1 locs1 → W p l e R s m args below meth c H1 locs1 (cells + mc) (slots + ms) Q (F0 m (pc + 3) ls (v.toList ++ rest))) : W p l e R s m args below meth c H locs cells slots Q (F0 m pc ls st0) := by
  intro T hT X
  obtain ⟨v', st₀, t, T', L, h0, X', hL, e1, e2, ⟨⟨hv, hb⟩, hz, hk⟩, st⟩ := hr T hT X
  cases hv
  rw [h0] at hz hk
  obtain ⟨t2, a1, b1⟩ := kk t T'.heap (locs ++ L) e1.symm (by rw [← e2]; exact X'.warmed.alike) hb (by rw [e1]; exact hz) (fun q h1 h2 => by rw [e1]; exact hk q h1 h2)
    ⟨Nat.le_trans hS.1 (by rw [e1]; exact hz), fun q h1 h2 => by rw [e1, hk q (Nat.lt_of_lt_of_le h1 hS.1) (fun z => h2 (hA q (Nat.lt_of_lt_of_le h1 hS.1) z))]; exact hS.2.1 q h1 h2, fun q hq => by
      rcases List.mem_append.mp hq with h | h
      · exact hS.2.2 q h
      · exact hf _ (hL q h)⟩ T' rfl X'
  exact ⟨t2, st t2 a1, b1⟩
/-- a call that may change the cells at the places isC: what stands at isR is kept; perm puts all in order -/
theorem kf_kc {v : Option Value} {a : Array Value} {st0 : List Value} {mc ms : Nat} (hP : va_P D vwCl ws H) (hD : va_D A ws) (hS : va_S A s.heap H locs) (hA : ∀ q, s.heap.size ≤ q → A q) (isC isR perm : List Nat) (hC : isC.map (fun i => ws[i]?) = wc.map some) (hR : isR.map (fun i => ws[i]?) = wr.map some) (hn : va_nd isR = true) (hdis : ∀ i ∈ isR, i ∉ isC) (hp1 : va_nd perm = true) (hp2 : perm.map (fun i => (wr ++ w1)[i]?) = ws2.map some)
    (hr : va_Run p l e R s m args below meth c H locs cells slots mc ms (F0 m pc ls st0) rest (kf_fq v (kf_po D w1 (va_A wc H.size)) (va_A wc H.size) a) (va_A wc H.size))
    (kk : ∀ (H1 : Heap) (locs1 : List Loc), va_P D vwCl ws2 H1 → va_D A ws2 → va_S A s.heap H1 locs1 → W p l e R s m args below meth c H1 locs1 (cells + mc) (slots + ms) Q (F0 m (pc + 3) ls (v.toList ++ rest))) : W p l e R s m args below meth c H locs cells slots Q (F0 m pc ls st0) := by
  have hFc := va_free hD hS hA isC hC
  refine kf_call0 hr hS (fun q _ h => hFc q h) hFc (fun t H1 locs1 ht hvm hB hz1 hk1 hS1 => ?_)
  obtain ⟨hP1, hD1⟩ := hB
  rw [ht] at hP1
  obtain ⟨hP2, hD2⟩ := va_join hP hD isC isR hC hR hn hdis hk1 hFc hP1 hD1
  exact kk H1 locs1 (hP2.sub perm (kf_fm hp2)) (hD2.sub perm hp1 hp2) hS1
/-- a call that changes nothing -/
theorem kf_ro {v : Option Value} {a : Array Value} {st0 : List Value} (hP : va_P D vwCl ws H) (hD : va_D A ws) (hS : va_S A s.heap H locs) (hA : ∀ q, s.heap.size ≤ q → A q) (isC : List Nat) (hC : isC.map (fun i => ws[i]?) = wc.map some)
    (hr : va_Run p l e R s m args below meth c H locs cells slots 0 0 (F0 m pc ls st0) rest (kf_fq v (kf_po D wc (va_A wc H.size)) (va_A wc H.size) a) (va_A wc H.size))
    (kk : ∀ (H1 : Heap) (locs1 : List Loc), va_P D vwCl ws H1 → va_S A s.heap H1 locs1 → W p l e R s m args below meth c H1 locs1 cells slots Q (F0 m (pc + 3) ls (v.toList ++ rest))) : W p l e R s m args below meth c H locs cells slots Q (F0 m pc ls st0) := by
  have hFc := va_free hD hS hA isC hC
  refine kf_call0 hr hS (fun q _ h => hFc q h) hFc (fun t H1 locs1 ht hvm hB hz1 hk1 hS1 => ?_)
  obtain ⟨hP1, hD1⟩ := hB
  rw [ht] at hP1
  refine kk H1 locs1 (fun k q hk => ?_) hS1
  have hlt := (hP k q hk).lt
  by_cases hq : va_A wc H.size q.1
  · rcases hq with ⟨j, e', he⟩ | h
    · have h1 : (wc.map some)[j]? = some (some (q.1, e')) := by rw [List.getElem?_map, he]; rfl
      rw [← hC, List.getElem?_map] at h1
      obtain ⟨i, hi, h2⟩ := Option.map_eq_some_iff.mp h1
      have := hD.1 k i q (q.1, e') hk h2 rfl
      subst this
      rw [hk] at h2
      have h3 : q = (q.1, e') := Option.some.inj h2
      rw [h3]
      exact hP1 j _ he
    · omega
  · exact (hP k q hk).kept (hk1 q.1 hlt hq)
abbrev kf_Ct (l : Launch) (y : MethodName) (w : List Cond) (fr lo mc ms : Nat) (D : va_G) (tys : List (ClassId × FieldType)) (av : List Value) (ws : va_W) (sz : Nat) (v : Option Value) (Bp : (Nat → Prop) → State → Prop) : Prop := Met l y w { frames := fr, cells := mc, slots := ms, locals := lo } (va_Pc av (kf_pr D tys ws sz)) (kf_fq v (Bp (va_A ws sz)) (va_A ws sz)) mc ms (va_A ws sz)
theorem kf_of {y : MethodName} {w w' : List Cond} {fr lo mc ms sz maxL : Nat} {av : List Value} {v : Option Value} {Bp : (Nat → Prop) → State → Prop} {ret : Option FieldType} (hy : plainName y.cls = true) (hw : w = .code y cc maxL ret :: w') (hle : (lg_sl av).length ≤ maxL)
    (body : ∀ (p : Program) (e : Env) (s : State) (m : MethodId) (below : List Frame) (meth : Method) (c : Code) (A : Nat → Prop) (H : Heap) (locs : List Loc), p.tables.exec = Jvm.exec → c.code = cc → meth.sig.returnType = ret → c.maxLocals = maxL → s.vm.findClass y.cls = some m.cls → (∀ w' ∈ w, w'.before av.toArray s = true) → meth.locks = false → meth.name = y.name → va_P D vwCl ws H → va_D A ws → va_S A s.heap H locs → (∀ q, s.heap.size ≤ q → A q) → kf_ev D tys A s s.heap → ∀ ls : Array Slot, lv_has ls maxL (lv_args 0 av) →
      W p l e { frames := fr, cells := mc, slots := ms, locals := lo } s m av.toArray below meth c H locs 0 0 (MQ below (kf_fq v (Bp A) A) av.toArray s mc ms A) (F0 m 0 ls [])) : kf_Ct l y w fr lo mc ms D tys av ws sz v Bp := by
  refine Met.ofW (cc := cc) (maxL := maxL) (ret := ret) hy hw ?_
  intro p e s m args below meth c s₁ B hml hv
  obtain ⟨rfl, hsz, hP, hD0, hE⟩ := hv
  subst hsz
  have hl := lv_entry av (n := maxL) hle
  rw [lg_entry_eq]
  exact body p e s m below meth c (va_A ws s.heap.size) s.heap [] B.exec B.bytes B.returns hml (findClass_of_methodNamed B.named) (atoms_spec (ws := w) B.pre) B.notSynchronized (name_of_methodNamed B.named B.method).1 hP (hD0.self (sz := s.heap.size)) va_S.rf (fun q h => Or.inr h) hE _ hl
theorem kf_ir {v v' : Int32} (hx : p.tables.exec = Jvm.exec) (hb : c.code = cc) (hr : meth.sig.returnType = some .int) (hlocks : meth.locks = false) (hP : va_P D vwCl ws H) (hD : va_D A ws) (hS : va_S A s.heap H locs) (hv : v' = v) (hd : decode cc pc = .ok (.ireturn, 1)) : W p l e R s m args below meth c H locs cells slots (MQ below (kf_fq (some (.int v)) (kf_po D ws A) A) args s cells slots A) (F0 m pc ls [.int v']) := by
  subst hv
  exact W.iret (v := v') hx hb hr (fun t ht hW => ⟨⟨rfl, by rw [ht]; exact hP, hD⟩, hS.F ht⟩) hS.2.2 hd
theorem kf_zr {v v' : Int32} (hx : p.tables.exec = Jvm.exec) (hb : c.code = cc) (hr : meth.sig.returnType = some .boolean) (hlocks : meth.locks = false) (hP : va_P D vwCl ws H) (hD : va_D A ws) (hS : va_S A s.heap H locs) (hv : v' = v) (hn : narrow .boolean (.int v) = .int v) (hd : decode cc pc = .ok (.ireturn, 1)) : W p l e R s m args below meth c H locs cells slots (MQ below (kf_fq (some (.int v)) (kf_po D ws A) A) args s cells slots A) (F0 m pc ls [.int v']) := by
  subst hv
  exact W.zret (v := v') hx hb hr hn (fun t ht hW => ⟨⟨rfl, by rw [ht]; exact hP, hD⟩, hS.F ht⟩) hS.2.2 hd
theorem kf_lr {v v' : Int64} (hx : p.tables.exec = Jvm.exec) (hb : c.code = cc) (hr : meth.sig.returnType = some .long) (hlocks : meth.locks = false) (hP : va_P D vwCl ws H) (hD : va_D A ws) (hS : va_S A s.heap H locs) (hv : v' = v) (hd : decode cc pc = .ok (.lreturn, 1)) : W p l e R s m args below meth c H locs cells slots (MQ below (kf_fq (some (.long v)) (kf_po D ws A) A) args s cells slots A) (F0 m pc ls [.long v']) := by
  subst hv
  exact W.lret (v := v') hx hb hr (fun t ht hW => ⟨⟨rfl, by rw [ht]; exact hP, hD⟩, hS.F ht⟩) hS.2.2 hd
theorem kf_vr {Bp : (Nat → Prop) → State → Prop} (hx : p.tables.exec = Jvm.exec) (hb : c.code = cc) (hr : meth.sig.returnType = none) (hlocks : meth.locks = false) (hB : ∀ t : State, t.heap = H → s.WarmedH t.vm → Bp A t) (hS : va_S A s.heap H locs) (hd : decode cc pc = .ok (.return_, 1)) : W p l e R s m args below meth c H locs cells slots (MQ below (kf_fq none (Bp A) A) args s cells slots A) (F0 m pc ls []) :=
  W.vret hx hb hr (fun t ht hW => ⟨⟨rfl, hB t ht hW⟩, hS.F ht⟩) hS.2.2 hd
theorem kf_poAt (hP : va_P D vwCl ws H) (hD : va_D A ws) : ∀ t : State, t.heap = H → s.WarmedH t.vm → kf_po D ws A t := fun t ht _ => ⟨by rw [ht]; exact hP, hD⟩
theorem kf_ar {v : Value} {rt : FieldType} (hx : p.tables.exec = Jvm.exec) (hb : c.code = cc) (hr : meth.sig.returnType = some rt) (hlocks : meth.locks = false) (hrt : (∃ n, rt = .object n) ∨ ∃ t, rt = .array t) (hv : v = .null ∨ ∃ a, v = .ref a) (hP : va_P D vwCl ws H) (hD : va_D A ws) (hS : va_S A s.heap H locs) (hd : decode cc pc = .ok (.areturn, 1)) : W p l e R s m args below meth c H locs cells slots (MQ below (kf_fq (some v) (kf_po D ws A) A) args s cells slots A) (F0 m pc ls [v]) :=
  W.aret hx hb hr hrt hv (fun t ht hW => ⟨⟨rfl, by rw [ht]; exact hP, hD⟩, hS.F ht⟩) hS.2.2 hd
/-- a loop whose world may change: a measure falls -/
theorem kf_loop {σ : Type} (I : σ → Array Slot → Heap → List Loc → Prop) (μ : σ → Nat) (st : σ) (h : I st ls H locs)
    (step : ∀ (st : σ) (ls : Array Slot) (H : Heap) (locs : List Loc), I st ls H locs → (∀ (st' : σ) (ls' : Array Slot) (H' : Heap) (locs' : List Loc), μ st' < μ st → I st' ls' H' locs' → W p l e R s m args below meth c H' locs' cells slots Q (F0 m pc ls' rest)) → W p l e R s m args below meth c H locs cells slots Q (F0 m pc ls rest)) : W p l e R s m args below meth c H locs cells slots Q (F0 m pc ls rest) := by
  have key : ∀ (n : Nat) (st : σ) (ls : Array Slot) (H : Heap) (locs : List Loc), μ st < n → I st ls H locs → W p l e R s m args below meth c H locs cells slots Q (F0 m pc ls rest) := by
    intro n
    induction n with
    | zero => intro st ls H locs hn; exact absurd hn (Nat.not_lt_zero _)
    | succ n ih => intro st ls H locs hn hi; exact step st ls H locs hi (fun st' ls' H' locs' hm hi' => ih st' ls' H' locs' (by omega) hi')
  exact key (μ st + 1) st ls H locs (Nat.lt_succ_self _) h
theorem kf_t {x y : Value} (h : x = y) (k : W p l e R s m args below meth c H locs cells slots Q (F0 m pc ls (y :: rest))) : W p l e R s m args below meth c H locs cells slots Q (F0 m pc ls (x :: rest)) := h ▸ k
theorem kf_ti {x y : Int32} (h : x = y) (k : W p l e R s m args below meth c H locs cells slots Q (F0 m pc ls (.int y :: rest))) : W p l e R s m args below meth c H locs cells slots Q (F0 m pc ls (.int x :: rest)) := h ▸ k
theorem kf_tl {x y : Int64} (h : x = y) (k : W p l e R s m args below meth c H locs cells slots Q (F0 m pc ls (.long y :: rest))) : W p l e R s m args below meth c H locs cells slots Q (F0 m pc ls (.long x :: rest)) := h ▸ k
theorem kf_lc_eq (hx : p.tables.exec = Jvm.exec) (hb : c.code = cc) {x y : Int64} {off : Int} {tgt : Nat} (hd1 : decode cc pc = .ok (.lcmp, 1)) (hd2 : decode cc (pc + 1) = .ok (.ifCond .eq off, 3)) (ht : ((pc + 1 : Nat) : Int) + off = (tgt : Int)) (kt : x = y → W p l e R s m args below meth c H locs cells slots Q (F0 m tgt ls rest)) (kf : ¬ x = y → W p l e R s m args below meth c H locs cells slots Q (F0 m (pc + 1 + 3) ls rest)) : W p l e R s m args below meth c H locs cells slots Q (F0 m pc ls (.long y :: .long x :: rest)) :=
  W.lcmp hx hb hd1 (lv_if_eq hx hb hd2 ht (fun h => kt ((lg_cmp_eq x y).mp h)) (fun h => kf (fun q => h ((lg_cmp_eq x y).mpr q))))
theorem kf_lc_ne (hx : p.tables.exec = Jvm.exec) (hb : c.code = cc) {x y : Int64} {off : Int} {tgt : Nat} (hd1 : decode cc pc = .ok (.lcmp, 1)) (hd2 : decode cc (pc + 1) = .ok (.ifCond .ne off, 3)) (ht : ((pc + 1 : Nat) : Int) + off = (tgt : Int)) (kt : ¬ x = y → W p l e R s m args below meth c H locs cells slots Q (F0 m tgt ls rest)) (kf : x = y → W p l e R s m args below meth c H locs cells slots Q (F0 m (pc + 1 + 3) ls rest)) : W p l e R s m args below meth c H locs cells slots Q (F0 m pc ls (.long y :: .long x :: rest)) :=
  W.lcmp hx hb hd1 (lv_if_ne hx hb hd2 ht (fun h => kt (fun q => h ((lg_cmp_eq x y).mpr q))) (fun h => kf ((lg_cmp_eq x y).mp h)))
theorem kf_lc_lt (hx : p.tables.exec = Jvm.exec) (hb : c.code = cc) {x y : Int64} {off : Int} {tgt : Nat} (hd1 : decode cc pc = .ok (.lcmp, 1)) (hd2 : decode cc (pc + 1) = .ok (.ifCond .lt off, 3)) (ht : ((pc + 1 : Nat) : Int) + off = (tgt : Int)) (kt : x < y → W p l e R s m args below meth c H locs cells slots Q (F0 m tgt ls rest)) (kf : ¬ x < y → W p l e R s m args below meth c H locs cells slots Q (F0 m (pc + 1 + 3) ls rest)) : W p l e R s m args below meth c H locs cells slots Q (F0 m pc ls (.long y :: .long x :: rest)) :=
  W.lcmp hx hb hd1 (lv_if_lt hx hb hd2 ht (fun h => kt ((lg_cmp_lt x y).mp h)) (fun h => kf (fun q => h ((lg_cmp_lt x y).mpr q))))
theorem kf_lc_ge (hx : p.tables.exec = Jvm.exec) (hb : c.code = cc) {x y : Int64} {off : Int} {tgt : Nat} (hd1 : decode cc pc = .ok (.lcmp, 1)) (hd2 : decode cc (pc + 1) = .ok (.ifCond .ge off, 3)) (ht : ((pc + 1 : Nat) : Int) + off = (tgt : Int)) (kt : y ≤ x → W p l e R s m args below meth c H locs cells slots Q (F0 m tgt ls rest)) (kf : ¬ y ≤ x → W p l e R s m args below meth c H locs cells slots Q (F0 m (pc + 1 + 3) ls rest)) : W p l e R s m args below meth c H locs cells slots Q (F0 m pc ls (.long y :: .long x :: rest)) :=
  W.lcmp hx hb hd1 (lv_if_ge hx hb hd2 ht (fun h => kt ((lg_cmp_ge x y).mp h)) (fun h => kf (fun q => h ((lg_cmp_ge x y).mpr q))))
theorem kf_lc_gt (hx : p.tables.exec = Jvm.exec) (hb : c.code = cc) {x y : Int64} {off : Int} {tgt : Nat} (hd1 : decode cc pc = .ok (.lcmp, 1)) (hd2 : decode cc (pc + 1) = .ok (.ifCond .gt off, 3)) (ht : ((pc + 1 : Nat) : Int) + off = (tgt : Int)) (kt : y < x → W p l e R s m args below meth c H locs cells slots Q (F0 m tgt ls rest)) (kf : ¬ y < x → W p l e R s m args below meth c H locs cells slots Q (F0 m (pc + 1 + 3) ls rest)) : W p l e R s m args below meth c H locs cells slots Q (F0 m pc ls (.long y :: .long x :: rest)) :=
  W.lcmp hx hb hd1 (lv_if_gt hx hb hd2 ht (fun h => kt ((lg_cmp_gt x y).mp h)) (fun h => kf (fun q => h ((lg_cmp_gt x y).mpr q))))
theorem kf_lc_le (hx : p.tables.exec = Jvm.exec) (hb : c.code = cc) {x y : Int64} {off : Int} {tgt : Nat} (hd1 : decode cc pc = .ok (.lcmp, 1)) (hd2 : decode cc (pc + 1) = .ok (.ifCond .le off, 3)) (ht : ((pc + 1 : Nat) : Int) + off = (tgt : Int)) (kt : x ≤ y → W p l e R s m args below meth c H locs cells slots Q (F0 m tgt ls rest)) (kf : ¬ x ≤ y → W p l e R s m args below meth c H locs cells slots Q (F0 m (pc + 1 + 3) ls rest)) : W p l e R s m args below meth c H locs cells slots Q (F0 m pc ls (.long y :: .long x :: rest)) :=
  W.lcmp hx hb hd1 (lv_if_le hx hb hd2 ht (fun h => kt ((lg_cmp_le x y).mp h)) (fun h => kf (fun q => h ((lg_cmp_le x y).mpr q))))
end KF2
abbrev kT (cB cI : ClassId) : List (ClassId × FieldType) := [(cB, .byte), (cI, .int)]
end
section
-- rows wb_, u_tn, g_, bp_b: pasted out of kit/laws/BITS.to-paste
theorem wb_tb (n : Nat) : (lN n).toBitVec = BitVec.ofNat 64 n := rfl
theorem wb_inj {a b : Int64} (h : a.toBitVec = b.toBitVec) : a = b := Int64.toBitVec_inj.mp h
theorem wb_tn {n : Nat} (h : n < 2 ^ 64) : (lN n).toBitVec.toNat = n := by rw [wb_tb, BitVec.toNat_ofNat, Nat.mod_eq_of_lt h]
theorem wb_of (x : Int64) : ∃ n, n < 2 ^ 64 ∧ x = lN n := ⟨x.toBitVec.toNat, x.toBitVec.isLt, wb_inj (by rw [wb_tb]; simp)⟩
theorem wb_of32 (x : Int32) : ∃ n, n < 2 ^ 32 ∧ x = nI n := ⟨x.toBitVec.toNat, x.toBitVec.isLt, Int32.toBitVec_inj.mp (by show _ = BitVec.ofNat 32 _; simp)⟩
theorem wb_c : ∀ k, k < 64 → ((nI k).toInt64 &&& 63) = lN k := by decide +kernel
theorem wb_sm : ∀ k, k < 64 → (BitVec.ofNat 64 k).smod 64 = BitVec.ofNat 64 k := by decide +kernel
theorem wb_pw {a b : Nat} (h : a ≤ b) : 2 ^ b = 2 ^ a * 2 ^ (b - a) := by rw [← Nat.pow_add]; congr 1; omega
theorem wb_lt2 {a b : Nat} (h : a < b) : 2 ^ a < 2 ^ b := Nat.pow_lt_pow_right (by decide) h
theorem wb_mod (n : Nat) : lN n = lN (n % 2 ^ 64) := wb_inj (by rw [wb_tb, wb_tb]; apply BitVec.eq_of_toNat_eq; rw [BitVec.toNat_ofNat, BitVec.toNat_ofNat, Nat.mod_mod])
theorem wb_shl (n : Nat) {k : Nat} (hk : k < 64) : lN n <<< ((nI k).toInt64 &&& 63) = lN (n * 2 ^ k) := by
  rw [wb_c k hk]
  apply wb_inj
  rw [Int64.toBitVec_shiftLeft, wb_tb, wb_tb, wb_tb, wb_sm k hk]
  apply BitVec.eq_of_toNat_eq
  rw [BitVec.shiftLeft_eq', BitVec.toNat_shiftLeft, BitVec.toNat_ofNat, BitVec.toNat_ofNat, BitVec.toNat_ofNat, Nat.mod_eq_of_lt (show k < 2 ^ 64 by omega), Nat.shiftLeft_eq, Nat.mul_mod, Nat.mod_mod, ← Nat.mul_mod]
theorem wb_and {a b : Nat} (ha : a < 2 ^ 64) (hb : b < 2 ^ 64) : lN a &&& lN b = lN (a &&& b) := by
  apply wb_inj
  rw [Int64.toBitVec_and, wb_tb, wb_tb, wb_tb]
  apply BitVec.eq_of_toNat_eq
  rw [BitVec.toNat_and, BitVec.toNat_ofNat, BitVec.toNat_ofNat, BitVec.toNat_ofNat, Nat.mod_eq_of_lt ha, Nat.mod_eq_of_lt hb, Nat.mod_eq_of_lt (Nat.and_lt_two_pow _ hb)]
theorem wb_or {a b : Nat} (ha : a < 2 ^ 64) (hb : b < 2 ^ 64) : lN a ||| lN b = lN (a ||| b) := by
  apply wb_inj
  rw [Int64.toBitVec_or, wb_tb, wb_tb, wb_tb]
  apply BitVec.eq_of_toNat_eq
  rw [BitVec.toNat_or, BitVec.toNat_ofNat, BitVec.toNat_ofNat, BitVec.toNat_ofNat, Nat.mod_eq_of_lt ha, Nat.mod_eq_of_lt hb, Nat.mod_eq_of_lt (Nat.or_lt_two_pow ha hb)]
theorem wb_mask {n k : Nat} (hn : n < 2 ^ 64) (hk : k < 64) : lN n &&& lN (2 ^ k - 1) = lN (n % 2 ^ k) := by
  rw [wb_and hn (by have := wb_lt2 hk; omega), Nat.and_two_pow_sub_one_eq_mod]
theorem wb_a1 {n : Nat} (hn : n < 2 ^ 64) : lN n &&& 1 = lN (n % 2) := wb_mask (k := 1) hn (by decide)
theorem u_tn {n : Nat} (h : n < 2 ^ 64) : (UInt64.ofNat n).toNat = n := Nat.mod_eq_of_lt h
theorem g_and {a b c : Nat} (ha : a < 2 ^ 64) (hb : b < 2 ^ 64) (hc : a &&& b = c) : lN a &&& lN b = lN c := by
  subst hc
  have h : UInt64.ofNat a &&& UInt64.ofNat b = UInt64.ofNat (a &&& b) := UInt64.toNat_inj.mp (by rw [UInt64.toNat_and, u_tn ha, u_tn hb, u_tn (Nat.and_lt_two_pow a hb)])
  have h2 := congrArg UInt64.toInt64 h
  exact h2
theorem g_mask {a s p : Nat} (hp : 2 ^ s = p) (hs : s < 64) (ha : a < 2 ^ 64) : lN a &&& lN (p - 1) = lN (a % p) := by
  subst hp
  have := Nat.pow_lt_pow_right (show 1 < 2 by decide) hs
  exact g_and ha (by omega) (Nat.and_two_pow_sub_one_eq_mod a s)
theorem g_or {k p a b : Nat} (hp : 2 ^ k = p) (ha : a < p) (h : b * p + a < 2 ^ 64) : lN (b * p) ||| lN a = lN (b * p + a) := by
  subst hp
  have h1 : b * 2 ^ k ||| a = b * 2 ^ k + a := by rw [← Nat.shiftLeft_eq, Nat.shiftLeft_add_eq_or_of_lt ha]
  have h3 : UInt64.ofNat (b * 2 ^ k) ||| UInt64.ofNat a = UInt64.ofNat (b * 2 ^ k + a) := UInt64.toNat_inj.mp (by rw [UInt64.toNat_or, u_tn (by omega), u_tn (by omega), u_tn h, h1])
  have h2 := congrArg UInt64.toInt64 h3
  exact h2
theorem bp_b (x : Int32) : x.toInt8.toInt32 &&& 255 = x &&& 255 := by
  apply Int32.toBitVec_inj.mp
  rw [Int32.toBitVec_and, Int32.toBitVec_and, Int8.toBitVec_toInt32, Int32.toBitVec_toInt8]
  apply BitVec.eq_of_getLsbD_eq
  intro i hi
  rw [BitVec.getLsbD_and, BitVec.getLsbD_and]
  have hm : ∀ i < 32, 8 ≤ i → (255 : Int32).toBitVec.getLsbD i = false := by decide
  rcases Nat.lt_or_ge i 8 with z | z
  · rw [BitVec.getLsbD_signExtend, BitVec.getLsbD_signExtend, if_pos z, if_pos hi]
    simp only [z, hi, decide_true, Bool.true_and]
  · rw [hm i hi z]; simp
-- bytes and fields
def ky_by (f : Nat → Int32) (i : Nat) : Nat := (f i).toBitVec.toNat % 256
def ky_le (f : Nat → Int32) : Nat → Nat → Nat
  | _, 0 => 0
  | a, n + 1 => ky_by f a + 256 * ky_le f (a + 1) n
theorem ky_by_lt (f : Nat → Int32) (i : Nat) : ky_by f i < 256 := Nat.mod_lt _ (by decide)
theorem ky_le_lt (f : Nat → Int32) : ∀ n a, ky_le f a n < 256 ^ n := by
  intro n
  induction n with
  | zero => intro a; simp [ky_le]
  | succ n ih =>
    intro a
    have h1 := ih (a + 1)
    have h2 := ky_by_lt f a
    rw [Nat.pow_succ]
    show ky_by f a + 256 * ky_le f (a + 1) n < _
    omega
theorem ky_le_congr {f g : Nat → Int32} : ∀ (n a : Nat), (∀ j, a ≤ j → j < a + n → ky_by f j = ky_by g j) → ky_le f a n = ky_le g a n := by
  intro n
  induction n with
  | zero => intro a _; rfl
  | succ n ih =>
    intro a h
    show ky_by f a + 256 * ky_le f (a + 1) n = ky_by g a + 256 * ky_le g (a + 1) n
    rw [h a (Nat.le_refl a) (by omega), ih (a + 1) (fun j h1 h2 => h j (by omega) (by omega))]
theorem ky_step {v : Nat} (hv : v < 2 ^ 48) (x : Int32) : lN v <<< ((8 : Int32).toInt64 &&& 63) ||| (x &&& 255).toInt64 = lN (x.toBitVec.toNat % 256 + 256 * v) := by
  have h1 : x &&& 255 = nI (x.toBitVec.toNat % 2 ^ 8) := pk_and x 8 (by decide)
  have hb : x.toBitVec.toNat % 2 ^ 8 < 256 := Nat.mod_lt _ (by decide)
  rw [h1, nI_l (by omega), show ((8 : Int32)) = nI 8 from rfl, wb_shl v (by decide), show 2 ^ 8 = 256 from rfl, g_or (k := 8) rfl hb (by omega)]
  congr 1
  omega
def ky_bt (v : Int64) (i : Nat) : Int32 := vp_nar .byte (v >>> ((8 * nI i).toInt64 &&& 63)).toInt32.toInt8.toInt32
def ky_wr (f : Nat → Int32) (a : Nat) (v : Int64) : Nat → Nat → Int32
  | 0 => f
  | n + 1 => upd (ky_wr f a v n) (a + n) (ky_bt v n)
theorem ky_b8 (x : Int32) : x.toInt8.toInt32.toBitVec.toNat % 256 = x.toBitVec.toNat % 256 := by
  have h := bp_b x
  rw [pk_and _ 8 (by decide), pk_and x 8 (by decide)] at h
  have h1 : x.toInt8.toInt32.toBitVec.toNat % 2 ^ 8 < 256 := Nat.mod_lt _ (by decide)
  have h2 : x.toBitVec.toNat % 2 ^ 8 < 256 := Nat.mod_lt _ (by decide)
  exact (nI_eq (by omega) (by omega)).mp h
theorem ky_sh : ∀ i, i < 8 → ((((8 * nI i).toInt64 &&& 63).toBitVec.smod 64).toNat = 8 * i) := by decide +kernel
theorem ky_btBy (v : Int64) (i : Nat) (hi : i < 8) : (ky_bt v i).toBitVec.toNat % 256 = v.toBitVec.toNat / 256 ^ i % 256 := by
  unfold ky_bt
  rw [pk_vb, ky_b8]
  apply Nat.eq_of_testBit_eq
  intro j
  rw [show (256 : Nat) = 2 ^ 8 from rfl, Nat.testBit_mod_two_pow, Nat.testBit_mod_two_pow, ← Nat.pow_mul, Nat.testBit_div_two_pow]
  by_cases hj : j < 8
  · rw [BitVec.testBit_toNat, BitVec.testBit_toNat, Int64.toBitVec_toInt32, Int64.toBitVec_shiftRight, BitVec.getLsbD_signExtend, BitVec.getLsbD_sshiftRight', ky_sh i hi]
    have h1 : 8 * i + j < 64 := by omega
    have h2 : j < 32 := by omega
    have h3 : j < 64 := by omega
    have h4 : ¬ 64 ≤ j := by omega
    simp [hj, h1, h2, h3, h4, Nat.add_comm]
    intro h5
    omega
  · simp [hj]
theorem ky_wrBy (f : Nat → Int32) (a : Nat) (v : Int64) : ∀ n, n ≤ 8 → ∀ j, ky_by (ky_wr f a v n) j = if a ≤ j ∧ j < a + n then v.toBitVec.toNat / 256 ^ (j - a) % 256 else ky_by f j := by
  intro n
  induction n with
  | zero => intro _ j; rw [if_neg (by omega)]; rfl
  | succ n ih =>
    intro hn j
    show ky_by (upd (ky_wr f a v n) (a + n) (ky_bt v n)) j = _
    by_cases h : j = a + n
    · subst h
      rw [if_pos (by omega), show a + n - a = n by omega, ← ky_btBy v n (by omega)]
      show (upd (ky_wr f a v n) (a + n) (ky_bt v n) (a + n)).toBitVec.toNat % 256 = _
      rw [pk_us]
    · have e1 : ky_by (upd (ky_wr f a v n) (a + n) (ky_bt v n)) j = ky_by (ky_wr f a v n) j := by
        show (upd (ky_wr f a v n) (a + n) (ky_bt v n) j).toBitVec.toNat % 256 = _
        rw [pk_un h]
        rfl
      rw [e1, ih (by omega) j]
      by_cases h2 : a ≤ j ∧ j < a + n
      · rw [if_pos h2, if_pos (by omega)]
      · rw [if_neg h2, if_neg (by omega)]
def ky_cp (f g : Nat → Int32) (n : Nat) : Nat → Int32 := fun j => if j < n then vp_nar .byte (g j) else f j
theorem ky_cp_s (f g : Nat → Int32) (n : Nat) : upd (ky_cp f g n) n (vp_nar .byte (g n)) = ky_cp f g (n + 1) := by
  funext j
  unfold upd ky_cp
  by_cases h : j = n
  · subst h; simp
  · simp only [h, if_false]
    by_cases h2 : j < n
    · rw [if_pos h2, if_pos (by omega)]
    · rw [if_neg h2, if_neg (by omega)]
theorem ky_narBy (x : Int32) : (vp_nar .byte x).toBitVec.toNat % 256 = x.toBitVec.toNat % 256 := by
  rw [vp_nar_byte, ky_b8]
theorem ky_cpBy (f g : Nat → Int32) (n j : Nat) : ky_by (ky_cp f g n) j = if j < n then ky_by g j else ky_by f j := by
  unfold ky_by ky_cp
  by_cases h : j < n
  · simp only [h, if_true]; exact ky_narBy _
  · simp only [h, if_false]
end
section
theorem d_FR_init_0 : decode b_FR_init 0 = .ok (.aload_n 0, 1) := by decide +kernel
theorem d_FR_init_1 : decode b_FR_init 1 = .ok (.invokespecial 3, 3) := by decide +kernel
theorem d_FR_init_4 : decode b_FR_init 4 = .ok (.aload_n 0, 1) := by decide +kernel
theorem d_FR_init_5 : decode b_FR_init 5 = .ok (.new 9, 3) := by decide +kernel
theorem d_FR_init_8 : decode b_FR_init 8 = .ok (.dup, 1) := by decide +kernel
theorem d_FR_init_9 : decode b_FR_init 9 = .ok (.invokespecial 11, 3) := by decide +kernel
theorem d_FR_init_12 : decode b_FR_init 12 = .ok (.putfield 12, 3) := by decide +kernel
theorem d_FR_init_15 : decode b_FR_init 15 = .ok (.aload_n 0, 1) := by decide +kernel
theorem d_FR_init_16 : decode b_FR_init 16 = .ok (.new 9, 3) := by decide +kernel
theorem d_FR_init_19 : decode b_FR_init 19 = .ok (.dup, 1) := by decide +kernel
theorem d_FR_init_20 : decode b_FR_init 20 = .ok (.invokespecial 11, 3) := by decide +kernel
theorem d_FR_init_23 : decode b_FR_init 23 = .ok (.putfield 16, 3) := by decide +kernel
theorem d_FR_init_26 : decode b_FR_init 26 = .ok (.aload_n 0, 1) := by decide +kernel
theorem d_FR_init_27 : decode b_FR_init 27 = .ok (.new 9, 3) := by decide +kernel
theorem d_FR_init_30 : decode b_FR_init 30 = .ok (.dup, 1) := by decide +kernel
theorem d_FR_init_31 : decode b_FR_init 31 = .ok (.invokespecial 11, 3) := by decide +kernel
theorem d_FR_init_34 : decode b_FR_init 34 = .ok (.putfield 19, 3) := by decide +kernel
theorem d_FR_init_37 : decode b_FR_init 37 = .ok (.aload_n 0, 1) := by decide +kernel
theorem d_FR_init_38 : decode b_FR_init 38 = .ok (.new 22, 3) := by decide +kernel
theorem d_FR_init_41 : decode b_FR_init 41 = .ok (.dup, 1) := by decide +kernel
theorem d_FR_init_42 : decode b_FR_init 42 = .ok (.invokespecial 24, 3) := by decide +kernel
theorem d_FR_init_45 : decode b_FR_init 45 = .ok (.putfield 25, 3) := by decide +kernel
theorem d_FR_init_48 : decode b_FR_init 48 = .ok (.aload_n 0, 1) := by decide +kernel
theorem d_FR_init_49 : decode b_FR_init 49 = .ok (.sipush 1024, 3) := by decide +kernel
theorem d_FR_init_52 : decode b_FR_init 52 = .ok (.sipush 256, 3) := by decide +kernel
theorem d_FR_init_55 : decode b_FR_init 55 = .ok (.sipush 128, 3) := by decide +kernel
theorem d_FR_init_58 : decode b_FR_init 58 = .ok (.sipush 256, 3) := by decide +kernel
theorem d_FR_init_61 : decode b_FR_init 61 = .ok (.iconst 2, 1) := by decide +kernel
theorem d_FR_init_62 : decode b_FR_init 62 = .ok (.invokevirtual 29, 3) := by decide +kernel
theorem d_FR_init_65 : decode b_FR_init 65 = .ok (.pop, 1) := by decide +kernel
theorem d_FR_init_66 : decode b_FR_init 66 = .ok (.return_, 1) := by decide +kernel
theorem d_FR_lay_0 : decode b_FR_lay 0 = .ok (.iload 4, 2) := by decide +kernel
theorem d_FR_lay_2 : decode b_FR_lay 2 = .ok (.ifCond .lt 10, 3) := by decide +kernel
theorem d_FR_lay_5 : decode b_FR_lay 5 = .ok (.iload 4, 2) := by decide +kernel
theorem d_FR_lay_7 : decode b_FR_lay 7 = .ok (.ldc 33, 2) := by decide +kernel
theorem d_FR_lay_9 : decode b_FR_lay 9 = .ok (.if_icmp .le 5, 3) := by decide +kernel
theorem d_FR_lay_12 : decode b_FR_lay 12 = .ok (.iconst (-1), 1) := by decide +kernel
theorem d_FR_lay_13 : decode b_FR_lay 13 = .ok (.ireturn, 1) := by decide +kernel
theorem d_FR_lay_14 : decode b_FR_lay 14 = .ok (.aload_n 0, 1) := by decide +kernel
theorem d_FR_lay_15 : decode b_FR_lay 15 = .ok (.getfield 19, 3) := by decide +kernel
theorem d_FR_lay_18 : decode b_FR_lay 18 = .ok (.invokevirtual 34, 3) := by decide +kernel
theorem d_FR_lay_21 : decode b_FR_lay 21 = .ok (.aload_n 0, 1) := by decide +kernel
theorem d_FR_lay_22 : decode b_FR_lay 22 = .ok (.getfield 19, 3) := by decide +kernel
theorem d_FR_lay_25 : decode b_FR_lay 25 = .ok (.invokevirtual 37, 3) := by decide +kernel
theorem d_FR_lay_28 : decode b_FR_lay 28 = .ok (.aload_n 0, 1) := by decide +kernel
theorem d_FR_lay_29 : decode b_FR_lay 29 = .ok (.getfield 19, 3) := by decide +kernel
theorem d_FR_lay_32 : decode b_FR_lay 32 = .ok (.iconst 4, 1) := by decide +kernel
theorem d_FR_lay_33 : decode b_FR_lay 33 = .ok (.iconst 4, 1) := by decide +kernel
theorem d_FR_lay_34 : decode b_FR_lay 34 = .ok (.iload_n 1, 1) := by decide +kernel
theorem d_FR_lay_35 : decode b_FR_lay 35 = .ok (.i2l, 1) := by decide +kernel
theorem d_FR_lay_36 : decode b_FR_lay 36 = .ok (.invokevirtual 40, 3) := by decide +kernel
theorem d_FR_lay_39 : decode b_FR_lay 39 = .ok (.aload_n 0, 1) := by decide +kernel
theorem d_FR_lay_40 : decode b_FR_lay 40 = .ok (.getfield 19, 3) := by decide +kernel
theorem d_FR_lay_43 : decode b_FR_lay 43 = .ok (.bipush 20, 2) := by decide +kernel
theorem d_FR_lay_45 : decode b_FR_lay 45 = .ok (.iconst 4, 1) := by decide +kernel
theorem d_FR_lay_46 : decode b_FR_lay 46 = .ok (.iload 5, 2) := by decide +kernel
theorem d_FR_lay_48 : decode b_FR_lay 48 = .ok (.i2l, 1) := by decide +kernel
theorem d_FR_lay_49 : decode b_FR_lay 49 = .ok (.invokestatic 44, 3) := by decide +kernel
theorem d_FR_lay_52 : decode b_FR_lay 52 = .ok (.i2l, 1) := by decide +kernel
theorem d_FR_lay_53 : decode b_FR_lay 53 = .ok (.invokevirtual 40, 3) := by decide +kernel
theorem d_FR_lay_56 : decode b_FR_lay 56 = .ok (.aload_n 0, 1) := by decide +kernel
theorem d_FR_lay_57 : decode b_FR_lay 57 = .ok (.getfield 19, 3) := by decide +kernel
theorem d_FR_lay_60 : decode b_FR_lay 60 = .ok (.bipush 24, 2) := by decide +kernel
theorem d_FR_lay_62 : decode b_FR_lay 62 = .ok (.iconst 4, 1) := by decide +kernel
theorem d_FR_lay_63 : decode b_FR_lay 63 = .ok (.iload 5, 2) := by decide +kernel
theorem d_FR_lay_65 : decode b_FR_lay 65 = .ok (.i2l, 1) := by decide +kernel
theorem d_FR_lay_66 : decode b_FR_lay 66 = .ok (.invokevirtual 40, 3) := by decide +kernel
theorem d_FR_lay_69 : decode b_FR_lay 69 = .ok (.aload_n 0, 1) := by decide +kernel
theorem d_FR_lay_70 : decode b_FR_lay 70 = .ok (.getfield 19, 3) := by decide +kernel
theorem d_FR_lay_73 : decode b_FR_lay 73 = .ok (.bipush 28, 2) := by decide +kernel
theorem d_FR_lay_75 : decode b_FR_lay 75 = .ok (.iconst 4, 1) := by decide +kernel
theorem d_FR_lay_76 : decode b_FR_lay 76 = .ok (.iload 5, 2) := by decide +kernel
theorem d_FR_lay_78 : decode b_FR_lay 78 = .ok (.i2l, 1) := by decide +kernel
theorem d_FR_lay_79 : decode b_FR_lay 79 = .ok (.invokevirtual 40, 3) := by decide +kernel
theorem d_FR_lay_82 : decode b_FR_lay 82 = .ok (.aload_n 0, 1) := by decide +kernel
theorem d_FR_lay_83 : decode b_FR_lay 83 = .ok (.getfield 19, 3) := by decide +kernel
theorem d_FR_lay_86 : decode b_FR_lay 86 = .ok (.bipush 32, 2) := by decide +kernel
theorem d_FR_lay_88 : decode b_FR_lay 88 = .ok (.iconst 4, 1) := by decide +kernel
theorem d_FR_lay_89 : decode b_FR_lay 89 = .ok (.iload_n 2, 1) := by decide +kernel
theorem d_FR_lay_90 : decode b_FR_lay 90 = .ok (.i2l, 1) := by decide +kernel
theorem d_FR_lay_91 : decode b_FR_lay 91 = .ok (.invokevirtual 40, 3) := by decide +kernel
theorem d_FR_lay_94 : decode b_FR_lay 94 = .ok (.aload_n 0, 1) := by decide +kernel
theorem d_FR_lay_95 : decode b_FR_lay 95 = .ok (.getfield 19, 3) := by decide +kernel
theorem d_FR_lay_98 : decode b_FR_lay 98 = .ok (.bipush 36, 2) := by decide +kernel
theorem d_FR_lay_100 : decode b_FR_lay 100 = .ok (.iconst 4, 1) := by decide +kernel
theorem d_FR_lay_101 : decode b_FR_lay 101 = .ok (.iload_n 2, 1) := by decide +kernel
theorem d_FR_lay_102 : decode b_FR_lay 102 = .ok (.i2l, 1) := by decide +kernel
theorem d_FR_lay_103 : decode b_FR_lay 103 = .ok (.invokevirtual 40, 3) := by decide +kernel
theorem d_FR_lay_106 : decode b_FR_lay 106 = .ok (.aload_n 0, 1) := by decide +kernel
theorem d_FR_lay_107 : decode b_FR_lay 107 = .ok (.getfield 19, 3) := by decide +kernel
theorem d_FR_lay_110 : decode b_FR_lay 110 = .ok (.bipush 40, 2) := by decide +kernel
theorem d_FR_lay_112 : decode b_FR_lay 112 = .ok (.iconst 4, 1) := by decide +kernel
theorem d_FR_lay_113 : decode b_FR_lay 113 = .ok (.iload_n 3, 1) := by decide +kernel
theorem d_FR_lay_114 : decode b_FR_lay 114 = .ok (.i2l, 1) := by decide +kernel
theorem d_FR_lay_115 : decode b_FR_lay 115 = .ok (.invokevirtual 40, 3) := by decide +kernel
theorem d_FR_lay_118 : decode b_FR_lay 118 = .ok (.aload_n 0, 1) := by decide +kernel
theorem d_FR_lay_119 : decode b_FR_lay 119 = .ok (.getfield 19, 3) := by decide +kernel
theorem d_FR_lay_122 : decode b_FR_lay 122 = .ok (.bipush 88, 2) := by decide +kernel
theorem d_FR_lay_124 : decode b_FR_lay 124 = .ok (.iconst 2, 1) := by decide +kernel
theorem d_FR_lay_125 : decode b_FR_lay 125 = .ok (.iload 4, 2) := by decide +kernel
theorem d_FR_lay_127 : decode b_FR_lay 127 = .ok (.i2l, 1) := by decide +kernel
theorem d_FR_lay_128 : decode b_FR_lay 128 = .ok (.invokevirtual 40, 3) := by decide +kernel
theorem d_FR_lay_131 : decode b_FR_lay 131 = .ok (.aload_n 0, 1) := by decide +kernel
theorem d_FR_lay_132 : decode b_FR_lay 132 = .ok (.getfield 25, 3) := by decide +kernel
theorem d_FR_lay_135 : decode b_FR_lay 135 = .ok (.aload_n 0, 1) := by decide +kernel
theorem d_FR_lay_136 : decode b_FR_lay 136 = .ok (.getfield 19, 3) := by decide +kernel
theorem d_FR_lay_139 : decode b_FR_lay 139 = .ok (.invokevirtual 48, 3) := by decide +kernel
theorem d_FR_lay_142 : decode b_FR_lay 142 = .ok (.aload_n 0, 1) := by decide +kernel
theorem d_FR_lay_143 : decode b_FR_lay 143 = .ok (.getfield 19, 3) := by decide +kernel
theorem d_FR_lay_146 : decode b_FR_lay 146 = .ok (.iconst 0, 1) := by decide +kernel
theorem d_FR_lay_147 : decode b_FR_lay 147 = .ok (.iconst 4, 1) := by decide +kernel
theorem d_FR_lay_148 : decode b_FR_lay 148 = .ok (.aload_n 0, 1) := by decide +kernel
theorem d_FR_lay_149 : decode b_FR_lay 149 = .ok (.getfield 25, 3) := by decide +kernel
theorem d_FR_lay_152 : decode b_FR_lay 152 = .ok (.getfield 52, 3) := by decide +kernel
theorem d_FR_lay_155 : decode b_FR_lay 155 = .ok (.iload_n 3, 1) := by decide +kernel
theorem d_FR_lay_156 : decode b_FR_lay 156 = .ok (.i2l, 1) := by decide +kernel
theorem d_FR_lay_157 : decode b_FR_lay 157 = .ok (.lmul, 1) := by decide +kernel
theorem d_FR_lay_158 : decode b_FR_lay 158 = .ok (.invokevirtual 40, 3) := by decide +kernel
theorem d_FR_lay_161 : decode b_FR_lay 161 = .ok (.aload_n 0, 1) := by decide +kernel
theorem d_FR_lay_162 : decode b_FR_lay 162 = .ok (.getfield 25, 3) := by decide +kernel
theorem d_FR_lay_165 : decode b_FR_lay 165 = .ok (.aload_n 0, 1) := by decide +kernel
theorem d_FR_lay_166 : decode b_FR_lay 166 = .ok (.getfield 19, 3) := by decide +kernel
theorem d_FR_lay_169 : decode b_FR_lay 169 = .ok (.invokevirtual 56, 3) := by decide +kernel
theorem d_FR_lay_172 : decode b_FR_lay 172 = .ok (.bipush (-2), 2) := by decide +kernel
theorem d_FR_lay_174 : decode b_FR_lay 174 = .ok (.if_icmp .eq 5, 3) := by decide +kernel
theorem d_FR_lay_177 : decode b_FR_lay 177 = .ok (.iconst (-1), 1) := by decide +kernel
theorem d_FR_lay_178 : decode b_FR_lay 178 = .ok (.ireturn, 1) := by decide +kernel
theorem d_FR_lay_179 : decode b_FR_lay 179 = .ok (.aload_n 0, 1) := by decide +kernel
theorem d_FR_lay_180 : decode b_FR_lay 180 = .ok (.getfield 12, 3) := by decide +kernel
theorem d_FR_lay_183 : decode b_FR_lay 183 = .ok (.aload_n 0, 1) := by decide +kernel
theorem d_FR_lay_184 : decode b_FR_lay 184 = .ok (.getfield 19, 3) := by decide +kernel
theorem d_FR_lay_187 : decode b_FR_lay 187 = .ok (.invokevirtual 60, 3) := by decide +kernel
theorem d_FR_lay_190 : decode b_FR_lay 190 = .ok (.aload_n 0, 1) := by decide +kernel
theorem d_FR_lay_191 : decode b_FR_lay 191 = .ok (.getfield 16, 3) := by decide +kernel
theorem d_FR_lay_194 : decode b_FR_lay 194 = .ok (.aload_n 0, 1) := by decide +kernel
theorem d_FR_lay_195 : decode b_FR_lay 195 = .ok (.getfield 19, 3) := by decide +kernel
theorem d_FR_lay_198 : decode b_FR_lay 198 = .ok (.invokevirtual 60, 3) := by decide +kernel
theorem d_FR_lay_201 : decode b_FR_lay 201 = .ok (.aload_n 0, 1) := by decide +kernel
theorem d_FR_lay_202 : decode b_FR_lay 202 = .ok (.getfield 25, 3) := by decide +kernel
theorem d_FR_lay_205 : decode b_FR_lay 205 = .ok (.getfield 52, 3) := by decide +kernel
theorem d_FR_lay_208 : decode b_FR_lay 208 = .ok (.l2i, 1) := by decide +kernel
theorem d_FR_lay_209 : decode b_FR_lay 209 = .ok (.ireturn, 1) := by decide +kernel
theorem d_FR_poke_0 : decode b_FR_poke 0 = .ok (.aload_n 0, 1) := by decide +kernel
theorem d_FR_poke_1 : decode b_FR_poke 1 = .ok (.iload_n 1, 1) := by decide +kernel
theorem d_FR_poke_2 : decode b_FR_poke 2 = .ok (.invokevirtual 63, 3) := by decide +kernel
theorem d_FR_poke_5 : decode b_FR_poke 5 = .ok (.astore 4, 2) := by decide +kernel
theorem d_FR_poke_7 : decode b_FR_poke 7 = .ok (.aload 4, 2) := by decide +kernel
theorem d_FR_poke_9 : decode b_FR_poke 9 = .ok (.ifnull 22, 3) := by decide +kernel
theorem d_FR_poke_12 : decode b_FR_poke 12 = .ok (.iload_n 2, 1) := by decide +kernel
theorem d_FR_poke_13 : decode b_FR_poke 13 = .ok (.iconst 1, 1) := by decide +kernel
theorem d_FR_poke_14 : decode b_FR_poke 14 = .ok (.invokestatic 67, 3) := by decide +kernel
theorem d_FR_poke_17 : decode b_FR_poke 17 = .ok (.ifCond .eq 14, 3) := by decide +kernel
theorem d_FR_poke_20 : decode b_FR_poke 20 = .ok (.iload_n 3, 1) := by decide +kernel
theorem d_FR_poke_21 : decode b_FR_poke 21 = .ok (.ifCond .lt 10, 3) := by decide +kernel
theorem d_FR_poke_24 : decode b_FR_poke 24 = .ok (.iload_n 3, 1) := by decide +kernel
theorem d_FR_poke_25 : decode b_FR_poke 25 = .ok (.sipush 255, 3) := by decide +kernel
theorem d_FR_poke_28 : decode b_FR_poke 28 = .ok (.if_icmp .le 5, 3) := by decide +kernel
theorem d_FR_poke_31 : decode b_FR_poke 31 = .ok (.iconst (-1), 1) := by decide +kernel
theorem d_FR_poke_32 : decode b_FR_poke 32 = .ok (.ireturn, 1) := by decide +kernel
theorem d_FR_poke_33 : decode b_FR_poke 33 = .ok (.aload 4, 2) := by decide +kernel
theorem d_FR_poke_35 : decode b_FR_poke 35 = .ok (.iload_n 2, 1) := by decide +kernel
theorem d_FR_poke_36 : decode b_FR_poke 36 = .ok (.iconst 1, 1) := by decide +kernel
theorem d_FR_poke_37 : decode b_FR_poke 37 = .ok (.invokevirtual 71, 3) := by decide +kernel
theorem d_FR_poke_40 : decode b_FR_poke 40 = .ok (.l2i, 1) := by decide +kernel
theorem d_FR_poke_41 : decode b_FR_poke 41 = .ok (.istore 5, 2) := by decide +kernel
theorem d_FR_poke_43 : decode b_FR_poke 43 = .ok (.aload 4, 2) := by decide +kernel
theorem d_FR_poke_45 : decode b_FR_poke 45 = .ok (.iload_n 2, 1) := by decide +kernel
theorem d_FR_poke_46 : decode b_FR_poke 46 = .ok (.iconst 1, 1) := by decide +kernel
theorem d_FR_poke_47 : decode b_FR_poke 47 = .ok (.iload_n 3, 1) := by decide +kernel
theorem d_FR_poke_48 : decode b_FR_poke 48 = .ok (.i2l, 1) := by decide +kernel
theorem d_FR_poke_49 : decode b_FR_poke 49 = .ok (.invokevirtual 40, 3) := by decide +kernel
theorem d_FR_poke_52 : decode b_FR_poke 52 = .ok (.iload 5, 2) := by decide +kernel
theorem d_FR_poke_54 : decode b_FR_poke 54 = .ok (.ireturn, 1) := by decide +kernel
theorem d_FR_put_0 : decode b_FR_put 0 = .ok (.aload_n 0, 1) := by decide +kernel
theorem d_FR_put_1 : decode b_FR_put 1 = .ok (.iload_n 1, 1) := by decide +kernel
theorem d_FR_put_2 : decode b_FR_put 2 = .ok (.invokevirtual 63, 3) := by decide +kernel
theorem d_FR_put_5 : decode b_FR_put 5 = .ok (.astore 5, 2) := by decide +kernel
theorem d_FR_put_7 : decode b_FR_put 7 = .ok (.aload 5, 2) := by decide +kernel
theorem d_FR_put_9 : decode b_FR_put 9 = .ok (.ifnull 11, 3) := by decide +kernel
theorem d_FR_put_12 : decode b_FR_put 12 = .ok (.iload_n 2, 1) := by decide +kernel
theorem d_FR_put_13 : decode b_FR_put 13 = .ok (.iload_n 3, 1) := by decide +kernel
theorem d_FR_put_14 : decode b_FR_put 14 = .ok (.invokestatic 67, 3) := by decide +kernel
theorem d_FR_put_17 : decode b_FR_put 17 = .ok (.ifCond .ne 5, 3) := by decide +kernel
theorem d_FR_put_20 : decode b_FR_put 20 = .ok (.iconst (-1), 1) := by decide +kernel
theorem d_FR_put_21 : decode b_FR_put 21 = .ok (.ireturn, 1) := by decide +kernel
theorem d_FR_put_22 : decode b_FR_put 22 = .ok (.aload 5, 2) := by decide +kernel
theorem d_FR_put_24 : decode b_FR_put 24 = .ok (.iload_n 2, 1) := by decide +kernel
theorem d_FR_put_25 : decode b_FR_put 25 = .ok (.iload_n 3, 1) := by decide +kernel
theorem d_FR_put_26 : decode b_FR_put 26 = .ok (.iload 4, 2) := by decide +kernel
theorem d_FR_put_28 : decode b_FR_put 28 = .ok (.i2l, 1) := by decide +kernel
theorem d_FR_put_29 : decode b_FR_put 29 = .ok (.invokevirtual 40, 3) := by decide +kernel
theorem d_FR_put_32 : decode b_FR_put 32 = .ok (.iconst 0, 1) := by decide +kernel
theorem d_FR_put_33 : decode b_FR_put 33 = .ok (.ireturn, 1) := by decide +kernel
theorem d_FR_get_0 : decode b_FR_get 0 = .ok (.aload_n 0, 1) := by decide +kernel
theorem d_FR_get_1 : decode b_FR_get 1 = .ok (.iload_n 1, 1) := by decide +kernel
theorem d_FR_get_2 : decode b_FR_get 2 = .ok (.invokevirtual 63, 3) := by decide +kernel
theorem d_FR_get_5 : decode b_FR_get 5 = .ok (.astore 4, 2) := by decide +kernel
theorem d_FR_get_7 : decode b_FR_get 7 = .ok (.aload 4, 2) := by decide +kernel
theorem d_FR_get_9 : decode b_FR_get 9 = .ok (.ifnonnull 9, 3) := by decide +kernel
theorem d_FR_get_12 : decode b_FR_get 12 = .ok (.ldc2_w 75, 3) := by decide +kernel
theorem d_FR_get_15 : decode b_FR_get 15 = .ok (.goto 10, 3) := by decide +kernel
theorem d_FR_get_18 : decode b_FR_get 18 = .ok (.aload 4, 2) := by decide +kernel
theorem d_FR_get_20 : decode b_FR_get 20 = .ok (.iload_n 2, 1) := by decide +kernel
theorem d_FR_get_21 : decode b_FR_get 21 = .ok (.iload_n 3, 1) := by decide +kernel
theorem d_FR_get_22 : decode b_FR_get 22 = .ok (.invokevirtual 71, 3) := by decide +kernel
theorem d_FR_get_25 : decode b_FR_get 25 = .ok (.lreturn, 1) := by decide +kernel
theorem d_FR_fault_0 : decode b_FR_fault 0 = .ok (.aload_n 0, 1) := by decide +kernel
theorem d_FR_fault_1 : decode b_FR_fault 1 = .ok (.iload_n 1, 1) := by decide +kernel
theorem d_FR_fault_2 : decode b_FR_fault 2 = .ok (.invokevirtual 63, 3) := by decide +kernel
theorem d_FR_fault_5 : decode b_FR_fault 5 = .ok (.astore_n 2, 1) := by decide +kernel
theorem d_FR_fault_6 : decode b_FR_fault 6 = .ok (.aload_n 2, 1) := by decide +kernel
theorem d_FR_fault_7 : decode b_FR_fault 7 = .ok (.ifnonnull 7, 3) := by decide +kernel
theorem d_FR_fault_10 : decode b_FR_fault 10 = .ok (.iconst (-1), 1) := by decide +kernel
theorem d_FR_fault_11 : decode b_FR_fault 11 = .ok (.goto 11, 3) := by decide +kernel
theorem d_FR_fault_14 : decode b_FR_fault 14 = .ok (.aload_n 0, 1) := by decide +kernel
theorem d_FR_fault_15 : decode b_FR_fault 15 = .ok (.getfield 25, 3) := by decide +kernel
theorem d_FR_fault_18 : decode b_FR_fault 18 = .ok (.aload_n 2, 1) := by decide +kernel
theorem d_FR_fault_19 : decode b_FR_fault 19 = .ok (.invokevirtual 56, 3) := by decide +kernel
theorem d_FR_fault_22 : decode b_FR_fault 22 = .ok (.ireturn, 1) := by decide +kernel
theorem d_FR_copy_0 : decode b_FR_copy 0 = .ok (.aload_n 0, 1) := by decide +kernel
theorem d_FR_copy_1 : decode b_FR_copy 1 = .ok (.iload_n 1, 1) := by decide +kernel
theorem d_FR_copy_2 : decode b_FR_copy 2 = .ok (.invokevirtual 77, 3) := by decide +kernel
theorem d_FR_copy_5 : decode b_FR_copy 5 = .ok (.ifCond .eq 15, 3) := by decide +kernel
theorem d_FR_copy_8 : decode b_FR_copy 8 = .ok (.aload_n 0, 1) := by decide +kernel
theorem d_FR_copy_9 : decode b_FR_copy 9 = .ok (.getfield 25, 3) := by decide +kernel
theorem d_FR_copy_12 : decode b_FR_copy 12 = .ok (.iload_n 1, 1) := by decide +kernel
theorem d_FR_copy_13 : decode b_FR_copy 13 = .ok (.i2l, 1) := by decide +kernel
theorem d_FR_copy_14 : decode b_FR_copy 14 = .ok (.invokevirtual 81, 3) := by decide +kernel
theorem d_FR_copy_17 : decode b_FR_copy 17 = .ok (.ifCond .ne 5, 3) := by decide +kernel
theorem d_FR_copy_20 : decode b_FR_copy 20 = .ok (.iconst (-1), 1) := by decide +kernel
theorem d_FR_copy_21 : decode b_FR_copy 21 = .ok (.ireturn, 1) := by decide +kernel
theorem d_FR_copy_22 : decode b_FR_copy 22 = .ok (.aload_n 0, 1) := by decide +kernel
theorem d_FR_copy_23 : decode b_FR_copy 23 = .ok (.getfield 16, 3) := by decide +kernel
theorem d_FR_copy_26 : decode b_FR_copy 26 = .ok (.aload_n 0, 1) := by decide +kernel
theorem d_FR_copy_27 : decode b_FR_copy 27 = .ok (.getfield 12, 3) := by decide +kernel
theorem d_FR_copy_30 : decode b_FR_copy 30 = .ok (.invokevirtual 60, 3) := by decide +kernel
theorem d_FR_copy_33 : decode b_FR_copy 33 = .ok (.aload_n 0, 1) := by decide +kernel
theorem d_FR_copy_34 : decode b_FR_copy 34 = .ok (.getfield 16, 3) := by decide +kernel
theorem d_FR_copy_37 : decode b_FR_copy 37 = .ok (.bipush 90, 2) := by decide +kernel
theorem d_FR_copy_39 : decode b_FR_copy 39 = .ok (.iconst 2, 1) := by decide +kernel
theorem d_FR_copy_40 : decode b_FR_copy 40 = .ok (.iload_n 1, 1) := by decide +kernel
theorem d_FR_copy_41 : decode b_FR_copy 41 = .ok (.i2l, 1) := by decide +kernel
theorem d_FR_copy_42 : decode b_FR_copy 42 = .ok (.invokevirtual 40, 3) := by decide +kernel
theorem d_FR_copy_45 : decode b_FR_copy 45 = .ok (.iconst 0, 1) := by decide +kernel
theorem d_FR_copy_46 : decode b_FR_copy 46 = .ok (.ireturn, 1) := by decide +kernel
theorem d_FR_differs_0 : decode b_FR_differs 0 = .ok (.iconst 0, 1) := by decide +kernel
theorem d_FR_differs_1 : decode b_FR_differs 1 = .ok (.istore_n 1, 1) := by decide +kernel
theorem d_FR_differs_2 : decode b_FR_differs 2 = .ok (.iload_n 1, 1) := by decide +kernel
theorem d_FR_differs_3 : decode b_FR_differs 3 = .ok (.sipush 1024, 3) := by decide +kernel
theorem d_FR_differs_6 : decode b_FR_differs 6 = .ok (.if_icmp .ge 40, 3) := by decide +kernel
theorem d_FR_differs_9 : decode b_FR_differs 9 = .ok (.aload_n 0, 1) := by decide +kernel
theorem d_FR_differs_10 : decode b_FR_differs 10 = .ok (.getfield 12, 3) := by decide +kernel
theorem d_FR_differs_13 : decode b_FR_differs 13 = .ok (.iload_n 1, 1) := by decide +kernel
theorem d_FR_differs_14 : decode b_FR_differs 14 = .ok (.iconst 1, 1) := by decide +kernel
theorem d_FR_differs_15 : decode b_FR_differs 15 = .ok (.invokevirtual 71, 3) := by decide +kernel
theorem d_FR_differs_18 : decode b_FR_differs 18 = .ok (.aload_n 0, 1) := by decide +kernel
theorem d_FR_differs_19 : decode b_FR_differs 19 = .ok (.getfield 16, 3) := by decide +kernel
theorem d_FR_differs_22 : decode b_FR_differs 22 = .ok (.iload_n 1, 1) := by decide +kernel
theorem d_FR_differs_23 : decode b_FR_differs 23 = .ok (.iconst 1, 1) := by decide +kernel
theorem d_FR_differs_24 : decode b_FR_differs 24 = .ok (.invokevirtual 71, 3) := by decide +kernel
theorem d_FR_differs_27 : decode b_FR_differs 27 = .ok (.lcmp, 1) := by decide +kernel
theorem d_FR_differs_28 : decode b_FR_differs 28 = .ok (.ifCond .eq 12, 3) := by decide +kernel
theorem d_FR_differs_31 : decode b_FR_differs 31 = .ok (.iload_n 1, 1) := by decide +kernel
theorem d_FR_differs_32 : decode b_FR_differs 32 = .ok (.invokestatic 85, 3) := by decide +kernel
theorem d_FR_differs_35 : decode b_FR_differs 35 = .ok (.ifCond .eq 5, 3) := by decide +kernel
theorem d_FR_differs_38 : decode b_FR_differs 38 = .ok (.iload_n 1, 1) := by decide +kernel
theorem d_FR_differs_39 : decode b_FR_differs 39 = .ok (.ireturn, 1) := by decide +kernel
theorem d_FR_differs_40 : decode b_FR_differs 40 = .ok (.iinc 1 1, 3) := by decide +kernel
theorem d_FR_differs_43 : decode b_FR_differs 43 = .ok (.goto (-41), 3) := by decide +kernel
theorem d_FR_differs_46 : decode b_FR_differs 46 = .ok (.bipush (-2), 2) := by decide +kernel
theorem d_FR_differs_48 : decode b_FR_differs 48 = .ok (.ireturn, 1) := by decide +kernel
theorem d_FR_groups_0 : decode b_FR_groups 0 = .ok (.aload_n 0, 1) := by decide +kernel
theorem d_FR_groups_1 : decode b_FR_groups 1 = .ok (.getfield 25, 3) := by decide +kernel
theorem d_FR_groups_4 : decode b_FR_groups 4 = .ok (.aload_n 0, 1) := by decide +kernel
theorem d_FR_groups_5 : decode b_FR_groups 5 = .ok (.getfield 12, 3) := by decide +kernel
theorem d_FR_groups_8 : decode b_FR_groups 8 = .ok (.invokevirtual 56, 3) := by decide +kernel
theorem d_FR_groups_11 : decode b_FR_groups 11 = .ok (.bipush (-2), 2) := by decide +kernel
theorem d_FR_groups_13 : decode b_FR_groups 13 = .ok (.if_icmp .ne 14, 3) := by decide +kernel
theorem d_FR_groups_16 : decode b_FR_groups 16 = .ok (.aload_n 0, 1) := by decide +kernel
theorem d_FR_groups_17 : decode b_FR_groups 17 = .ok (.getfield 25, 3) := by decide +kernel
theorem d_FR_groups_20 : decode b_FR_groups 20 = .ok (.getfield 52, 3) := by decide +kernel
theorem d_FR_groups_23 : decode b_FR_groups 23 = .ok (.l2i, 1) := by decide +kernel
theorem d_FR_groups_24 : decode b_FR_groups 24 = .ok (.goto 4, 3) := by decide +kernel
theorem d_FR_groups_27 : decode b_FR_groups 27 = .ok (.iconst (-1), 1) := by decide +kernel
theorem d_FR_groups_28 : decode b_FR_groups 28 = .ok (.ireturn, 1) := by decide +kernel
theorem d_FR_where_0 : decode b_FR_where 0 = .ok (.aload_n 0, 1) := by decide +kernel
theorem d_FR_where_1 : decode b_FR_where 1 = .ok (.iload_n 1, 1) := by decide +kernel
theorem d_FR_where_2 : decode b_FR_where 2 = .ok (.invokevirtual 77, 3) := by decide +kernel
theorem d_FR_where_5 : decode b_FR_where 5 = .ok (.ifCond .ne 5, 3) := by decide +kernel
theorem d_FR_where_8 : decode b_FR_where 8 = .ok (.iconst (-1), 1) := by decide +kernel
theorem d_FR_where_9 : decode b_FR_where 9 = .ok (.ireturn, 1) := by decide +kernel
theorem d_FR_where_10 : decode b_FR_where 10 = .ok (.iload_n 2, 1) := by decide +kernel
theorem d_FR_where_11 : decode b_FR_where 11 = .ok (.tableswitch 138 0 7 #[45, 56, 67, 85, 96, 107, 118, 127], 45) := by decide +kernel
theorem d_FR_where_56 : decode b_FR_where 56 = .ok (.aload_n 0, 1) := by decide +kernel
theorem d_FR_where_57 : decode b_FR_where 57 = .ok (.getfield 25, 3) := by decide +kernel
theorem d_FR_where_60 : decode b_FR_where 60 = .ok (.iload_n 1, 1) := by decide +kernel
theorem d_FR_where_61 : decode b_FR_where 61 = .ok (.i2l, 1) := by decide +kernel
theorem d_FR_where_62 : decode b_FR_where 62 = .ok (.invokevirtual 88, 3) := by decide +kernel
theorem d_FR_where_65 : decode b_FR_where 65 = .ok (.l2i, 1) := by decide +kernel
theorem d_FR_where_66 : decode b_FR_where 66 = .ok (.ireturn, 1) := by decide +kernel
theorem d_FR_where_67 : decode b_FR_where 67 = .ok (.aload_n 0, 1) := by decide +kernel
theorem d_FR_where_68 : decode b_FR_where 68 = .ok (.getfield 25, 3) := by decide +kernel
theorem d_FR_where_71 : decode b_FR_where 71 = .ok (.iload_n 1, 1) := by decide +kernel
theorem d_FR_where_72 : decode b_FR_where 72 = .ok (.i2l, 1) := by decide +kernel
theorem d_FR_where_73 : decode b_FR_where 73 = .ok (.invokevirtual 92, 3) := by decide +kernel
theorem d_FR_where_76 : decode b_FR_where 76 = .ok (.l2i, 1) := by decide +kernel
theorem d_FR_where_77 : decode b_FR_where 77 = .ok (.ireturn, 1) := by decide +kernel
theorem d_FR_where_78 : decode b_FR_where 78 = .ok (.aload_n 0, 1) := by decide +kernel
theorem d_FR_where_79 : decode b_FR_where 79 = .ok (.getfield 25, 3) := by decide +kernel
theorem d_FR_where_82 : decode b_FR_where 82 = .ok (.iload_n 1, 1) := by decide +kernel
theorem d_FR_where_83 : decode b_FR_where 83 = .ok (.i2l, 1) := by decide +kernel
theorem d_FR_where_84 : decode b_FR_where 84 = .ok (.invokevirtual 81, 3) := by decide +kernel
theorem d_FR_where_87 : decode b_FR_where 87 = .ok (.ifCond .eq 7, 3) := by decide +kernel
theorem d_FR_where_90 : decode b_FR_where 90 = .ok (.iconst 1, 1) := by decide +kernel
theorem d_FR_where_91 : decode b_FR_where 91 = .ok (.goto 4, 3) := by decide +kernel
theorem d_FR_where_94 : decode b_FR_where 94 = .ok (.iconst 0, 1) := by decide +kernel
theorem d_FR_where_95 : decode b_FR_where 95 = .ok (.ireturn, 1) := by decide +kernel
theorem d_FR_where_96 : decode b_FR_where 96 = .ok (.aload_n 0, 1) := by decide +kernel
theorem d_FR_where_97 : decode b_FR_where 97 = .ok (.getfield 25, 3) := by decide +kernel
theorem d_FR_where_100 : decode b_FR_where 100 = .ok (.iload_n 1, 1) := by decide +kernel
theorem d_FR_where_101 : decode b_FR_where 101 = .ok (.i2l, 1) := by decide +kernel
theorem d_FR_where_102 : decode b_FR_where 102 = .ok (.invokevirtual 95, 3) := by decide +kernel
theorem d_FR_where_105 : decode b_FR_where 105 = .ok (.l2i, 1) := by decide +kernel
theorem d_FR_where_106 : decode b_FR_where 106 = .ok (.ireturn, 1) := by decide +kernel
theorem d_FR_where_107 : decode b_FR_where 107 = .ok (.aload_n 0, 1) := by decide +kernel
theorem d_FR_where_108 : decode b_FR_where 108 = .ok (.getfield 25, 3) := by decide +kernel
theorem d_FR_where_111 : decode b_FR_where 111 = .ok (.iload_n 1, 1) := by decide +kernel
theorem d_FR_where_112 : decode b_FR_where 112 = .ok (.i2l, 1) := by decide +kernel
theorem d_FR_where_113 : decode b_FR_where 113 = .ok (.invokevirtual 98, 3) := by decide +kernel
theorem d_FR_where_116 : decode b_FR_where 116 = .ok (.l2i, 1) := by decide +kernel
theorem d_FR_where_117 : decode b_FR_where 117 = .ok (.ireturn, 1) := by decide +kernel
theorem d_FR_where_118 : decode b_FR_where 118 = .ok (.aload_n 0, 1) := by decide +kernel
theorem d_FR_where_119 : decode b_FR_where 119 = .ok (.getfield 25, 3) := by decide +kernel
theorem d_FR_where_122 : decode b_FR_where 122 = .ok (.iload_n 1, 1) := by decide +kernel
theorem d_FR_where_123 : decode b_FR_where 123 = .ok (.i2l, 1) := by decide +kernel
theorem d_FR_where_124 : decode b_FR_where 124 = .ok (.invokevirtual 101, 3) := by decide +kernel
theorem d_FR_where_127 : decode b_FR_where 127 = .ok (.l2i, 1) := by decide +kernel
theorem d_FR_where_128 : decode b_FR_where 128 = .ok (.ireturn, 1) := by decide +kernel
theorem d_FR_where_129 : decode b_FR_where 129 = .ok (.aload_n 0, 1) := by decide +kernel
theorem d_FR_where_130 : decode b_FR_where 130 = .ok (.getfield 25, 3) := by decide +kernel
theorem d_FR_where_133 : decode b_FR_where 133 = .ok (.getfield 104, 3) := by decide +kernel
theorem d_FR_where_136 : decode b_FR_where 136 = .ok (.l2i, 1) := by decide +kernel
theorem d_FR_where_137 : decode b_FR_where 137 = .ok (.ireturn, 1) := by decide +kernel
theorem d_FR_where_138 : decode b_FR_where 138 = .ok (.aload_n 0, 1) := by decide +kernel
theorem d_FR_where_139 : decode b_FR_where 139 = .ok (.getfield 25, 3) := by decide +kernel
theorem d_FR_where_142 : decode b_FR_where 142 = .ok (.iload_n 1, 1) := by decide +kernel
theorem d_FR_where_143 : decode b_FR_where 143 = .ok (.i2l, 1) := by decide +kernel
theorem d_FR_where_144 : decode b_FR_where 144 = .ok (.invokevirtual 107, 3) := by decide +kernel
theorem d_FR_where_147 : decode b_FR_where 147 = .ok (.l2i, 1) := by decide +kernel
theorem d_FR_where_148 : decode b_FR_where 148 = .ok (.ireturn, 1) := by decide +kernel
theorem d_FR_where_149 : decode b_FR_where 149 = .ok (.iconst (-1), 1) := by decide +kernel
theorem d_FR_where_150 : decode b_FR_where 150 = .ok (.ireturn, 1) := by decide +kernel
theorem d_FR_record_0 : decode b_FR_record 0 = .ok (.aload_n 0, 1) := by decide +kernel
theorem d_FR_record_1 : decode b_FR_record 1 = .ok (.getfield 25, 3) := by decide +kernel
theorem d_FR_record_4 : decode b_FR_record 4 = .ok (.aload_n 0, 1) := by decide +kernel
theorem d_FR_record_5 : decode b_FR_record 5 = .ok (.getfield 12, 3) := by decide +kernel
theorem d_FR_record_8 : decode b_FR_record 8 = .ok (.invokevirtual 56, 3) := by decide +kernel
theorem d_FR_record_11 : decode b_FR_record 11 = .ok (.bipush (-2), 2) := by decide +kernel
theorem d_FR_record_13 : decode b_FR_record 13 = .ok (.if_icmp .ne 21, 3) := by decide +kernel
theorem d_FR_record_16 : decode b_FR_record 16 = .ok (.iload_n 1, 1) := by decide +kernel
theorem d_FR_record_17 : decode b_FR_record 17 = .ok (.iconst 1, 1) := by decide +kernel
theorem d_FR_record_18 : decode b_FR_record 18 = .ok (.if_icmp .lt 16, 3) := by decide +kernel
theorem d_FR_record_21 : decode b_FR_record 21 = .ok (.iload_n 1, 1) := by decide +kernel
theorem d_FR_record_22 : decode b_FR_record 22 = .ok (.i2l, 1) := by decide +kernel
theorem d_FR_record_23 : decode b_FR_record 23 = .ok (.aload_n 0, 1) := by decide +kernel
theorem d_FR_record_24 : decode b_FR_record 24 = .ok (.getfield 25, 3) := by decide +kernel
theorem d_FR_record_27 : decode b_FR_record 27 = .ok (.getfield 110, 3) := by decide +kernel
theorem d_FR_record_30 : decode b_FR_record 30 = .ok (.lcmp, 1) := by decide +kernel
theorem d_FR_record_31 : decode b_FR_record 31 = .ok (.ifCond .le 5, 3) := by decide +kernel
theorem d_FR_record_34 : decode b_FR_record 34 = .ok (.iconst (-1), 1) := by decide +kernel
theorem d_FR_record_35 : decode b_FR_record 35 = .ok (.ireturn, 1) := by decide +kernel
theorem d_FR_record_36 : decode b_FR_record 36 = .ok (.iload_n 1, 1) := by decide +kernel
theorem d_FR_record_37 : decode b_FR_record 37 = .ok (.i2l, 1) := by decide +kernel
theorem d_FR_record_38 : decode b_FR_record 38 = .ok (.lconst 1, 1) := by decide +kernel
theorem d_FR_record_39 : decode b_FR_record 39 = .ok (.lsub, 1) := by decide +kernel
theorem d_FR_record_40 : decode b_FR_record 40 = .ok (.lstore_n 3, 1) := by decide +kernel
theorem d_FR_record_41 : decode b_FR_record 41 = .ok (.lload_n 3, 1) := by decide +kernel
theorem d_FR_record_42 : decode b_FR_record 42 = .ok (.aload_n 0, 1) := by decide +kernel
theorem d_FR_record_43 : decode b_FR_record 43 = .ok (.getfield 25, 3) := by decide +kernel
theorem d_FR_record_46 : decode b_FR_record 46 = .ok (.getfield 113, 3) := by decide +kernel
theorem d_FR_record_49 : decode b_FR_record 49 = .ok (.invokestatic 116, 3) := by decide +kernel
theorem d_FR_record_52 : decode b_FR_record 52 = .ok (.lstore 5, 2) := by decide +kernel
theorem d_FR_record_54 : decode b_FR_record 54 = .ok (.lload_n 3, 1) := by decide +kernel
theorem d_FR_record_55 : decode b_FR_record 55 = .ok (.lload 5, 2) := by decide +kernel
theorem d_FR_record_57 : decode b_FR_record 57 = .ok (.aload_n 0, 1) := by decide +kernel
theorem d_FR_record_58 : decode b_FR_record 58 = .ok (.getfield 25, 3) := by decide +kernel
theorem d_FR_record_61 : decode b_FR_record 61 = .ok (.getfield 113, 3) := by decide +kernel
theorem d_FR_record_64 : decode b_FR_record 64 = .ok (.lmul, 1) := by decide +kernel
theorem d_FR_record_65 : decode b_FR_record 65 = .ok (.lsub, 1) := by decide +kernel
theorem d_FR_record_66 : decode b_FR_record 66 = .ok (.aload_n 0, 1) := by decide +kernel
theorem d_FR_record_67 : decode b_FR_record 67 = .ok (.getfield 25, 3) := by decide +kernel
theorem d_FR_record_70 : decode b_FR_record 70 = .ok (.getfield 120, 3) := by decide +kernel
theorem d_FR_record_73 : decode b_FR_record 73 = .ok (.lmul, 1) := by decide +kernel
theorem d_FR_record_74 : decode b_FR_record 74 = .ok (.lstore 7, 2) := by decide +kernel
theorem d_FR_record_76 : decode b_FR_record 76 = .ok (.lload 7, 2) := by decide +kernel
theorem d_FR_record_78 : decode b_FR_record 78 = .ok (.aload_n 0, 1) := by decide +kernel
theorem d_FR_record_79 : decode b_FR_record 79 = .ok (.getfield 25, 3) := by decide +kernel
theorem d_FR_record_82 : decode b_FR_record 82 = .ok (.getfield 123, 3) := by decide +kernel
theorem d_FR_record_85 : decode b_FR_record 85 = .ok (.invokestatic 116, 3) := by decide +kernel
theorem d_FR_record_88 : decode b_FR_record 88 = .ok (.lstore 9, 2) := by decide +kernel
theorem d_FR_record_90 : decode b_FR_record 90 = .ok (.iload_n 2, 1) := by decide +kernel
theorem d_FR_record_91 : decode b_FR_record 91 = .ok (.ifCond .eq 19, 3) := by decide +kernel
theorem d_FR_record_94 : decode b_FR_record 94 = .ok (.lload 7, 2) := by decide +kernel
theorem d_FR_record_96 : decode b_FR_record 96 = .ok (.lload 9, 2) := by decide +kernel
theorem d_FR_record_98 : decode b_FR_record 98 = .ok (.aload_n 0, 1) := by decide +kernel
theorem d_FR_record_99 : decode b_FR_record 99 = .ok (.getfield 25, 3) := by decide +kernel
theorem d_FR_record_102 : decode b_FR_record 102 = .ok (.getfield 123, 3) := by decide +kernel
theorem d_FR_record_105 : decode b_FR_record 105 = .ok (.lmul, 1) := by decide +kernel
theorem d_FR_record_106 : decode b_FR_record 106 = .ok (.lsub, 1) := by decide +kernel
theorem d_FR_record_107 : decode b_FR_record 107 = .ok (.goto 15, 3) := by decide +kernel
theorem d_FR_record_110 : decode b_FR_record 110 = .ok (.aload_n 0, 1) := by decide +kernel
theorem d_FR_record_111 : decode b_FR_record 111 = .ok (.getfield 25, 3) := by decide +kernel
theorem d_FR_record_114 : decode b_FR_record 114 = .ok (.lload 5, 2) := by decide +kernel
theorem d_FR_record_116 : decode b_FR_record 116 = .ok (.invokevirtual 101, 3) := by decide +kernel
theorem d_FR_record_119 : decode b_FR_record 119 = .ok (.lload 9, 2) := by decide +kernel
theorem d_FR_record_121 : decode b_FR_record 121 = .ok (.ladd, 1) := by decide +kernel
theorem d_FR_record_122 : decode b_FR_record 122 = .ok (.l2i, 1) := by decide +kernel
theorem d_FR_record_123 : decode b_FR_record 123 = .ok (.ireturn, 1) := by decide +kernel
end
section
theorem d_FR_rowOf_0 : decode b_FR_rowOf 0 = .ok (.iload_n 1, 1) := by decide +kernel
theorem d_FR_rowOf_1 : decode b_FR_rowOf 1 = .ok (.ifCond .ne 8, 3) := by decide +kernel
theorem d_FR_rowOf_4 : decode b_FR_rowOf 4 = .ok (.aload_n 0, 1) := by decide +kernel
theorem d_FR_rowOf_5 : decode b_FR_rowOf 5 = .ok (.getfield 12, 3) := by decide +kernel
theorem d_FR_rowOf_8 : decode b_FR_rowOf 8 = .ok (.areturn, 1) := by decide +kernel
theorem d_FR_rowOf_9 : decode b_FR_rowOf 9 = .ok (.iload_n 1, 1) := by decide +kernel
theorem d_FR_rowOf_10 : decode b_FR_rowOf 10 = .ok (.iconst 1, 1) := by decide +kernel
theorem d_FR_rowOf_11 : decode b_FR_rowOf 11 = .ok (.if_icmp .ne 10, 3) := by decide +kernel
theorem d_FR_rowOf_14 : decode b_FR_rowOf 14 = .ok (.aload_n 0, 1) := by decide +kernel
theorem d_FR_rowOf_15 : decode b_FR_rowOf 15 = .ok (.getfield 16, 3) := by decide +kernel
theorem d_FR_rowOf_18 : decode b_FR_rowOf 18 = .ok (.goto 4, 3) := by decide +kernel
theorem d_FR_rowOf_21 : decode b_FR_rowOf 21 = .ok (.aconst_null, 1) := by decide +kernel
theorem d_FR_rowOf_22 : decode b_FR_rowOf 22 = .ok (.areturn, 1) := by decide +kernel
theorem d_FR_isGroupOfRightRow_0 : decode b_FR_isGroupOfRightRow 0 = .ok (.aload_n 0, 1) := by decide +kernel
theorem d_FR_isGroupOfRightRow_1 : decode b_FR_isGroupOfRightRow 1 = .ok (.getfield 25, 3) := by decide +kernel
theorem d_FR_isGroupOfRightRow_4 : decode b_FR_isGroupOfRightRow 4 = .ok (.aload_n 0, 1) := by decide +kernel
theorem d_FR_isGroupOfRightRow_5 : decode b_FR_isGroupOfRightRow 5 = .ok (.getfield 12, 3) := by decide +kernel
theorem d_FR_isGroupOfRightRow_8 : decode b_FR_isGroupOfRightRow 8 = .ok (.invokevirtual 56, 3) := by decide +kernel
theorem d_FR_isGroupOfRightRow_11 : decode b_FR_isGroupOfRightRow 11 = .ok (.bipush (-2), 2) := by decide +kernel
theorem d_FR_isGroupOfRightRow_13 : decode b_FR_isGroupOfRightRow 13 = .ok (.if_icmp .ne 24, 3) := by decide +kernel
theorem d_FR_isGroupOfRightRow_16 : decode b_FR_isGroupOfRightRow 16 = .ok (.iload_n 1, 1) := by decide +kernel
theorem d_FR_isGroupOfRightRow_17 : decode b_FR_isGroupOfRightRow 17 = .ok (.ifCond .lt 20, 3) := by decide +kernel
theorem d_FR_isGroupOfRightRow_20 : decode b_FR_isGroupOfRightRow 20 = .ok (.iload_n 1, 1) := by decide +kernel
theorem d_FR_isGroupOfRightRow_21 : decode b_FR_isGroupOfRightRow 21 = .ok (.i2l, 1) := by decide +kernel
theorem d_FR_isGroupOfRightRow_22 : decode b_FR_isGroupOfRightRow 22 = .ok (.aload_n 0, 1) := by decide +kernel
theorem d_FR_isGroupOfRightRow_23 : decode b_FR_isGroupOfRightRow 23 = .ok (.getfield 25, 3) := by decide +kernel
theorem d_FR_isGroupOfRightRow_26 : decode b_FR_isGroupOfRightRow 26 = .ok (.getfield 52, 3) := by decide +kernel
theorem d_FR_isGroupOfRightRow_29 : decode b_FR_isGroupOfRightRow 29 = .ok (.lcmp, 1) := by decide +kernel
theorem d_FR_isGroupOfRightRow_30 : decode b_FR_isGroupOfRightRow 30 = .ok (.ifCond .ge 7, 3) := by decide +kernel
theorem d_FR_isGroupOfRightRow_33 : decode b_FR_isGroupOfRightRow 33 = .ok (.iconst 1, 1) := by decide +kernel
theorem d_FR_isGroupOfRightRow_34 : decode b_FR_isGroupOfRightRow 34 = .ok (.goto 4, 3) := by decide +kernel
theorem d_FR_isGroupOfRightRow_37 : decode b_FR_isGroupOfRightRow 37 = .ok (.iconst 0, 1) := by decide +kernel
theorem d_FR_isGroupOfRightRow_38 : decode b_FR_isGroupOfRightRow 38 = .ok (.ireturn, 1) := by decide +kernel
theorem d_FR_isField_0 : decode b_FR_isField 0 = .ok (.iload_n 1, 1) := by decide +kernel
theorem d_FR_isField_1 : decode b_FR_isField 1 = .ok (.iconst 1, 1) := by decide +kernel
theorem d_FR_isField_2 : decode b_FR_isField 2 = .ok (.if_icmp .eq 13, 3) := by decide +kernel
theorem d_FR_isField_5 : decode b_FR_isField 5 = .ok (.iload_n 1, 1) := by decide +kernel
theorem d_FR_isField_6 : decode b_FR_isField 6 = .ok (.iconst 2, 1) := by decide +kernel
theorem d_FR_isField_7 : decode b_FR_isField 7 = .ok (.if_icmp .eq 8, 3) := by decide +kernel
theorem d_FR_isField_10 : decode b_FR_isField 10 = .ok (.iload_n 1, 1) := by decide +kernel
theorem d_FR_isField_11 : decode b_FR_isField 11 = .ok (.iconst 4, 1) := by decide +kernel
theorem d_FR_isField_12 : decode b_FR_isField 12 = .ok (.if_icmp .ne 20, 3) := by decide +kernel
theorem d_FR_isField_15 : decode b_FR_isField 15 = .ok (.iload_n 0, 1) := by decide +kernel
theorem d_FR_isField_16 : decode b_FR_isField 16 = .ok (.ifCond .lt 16, 3) := by decide +kernel
theorem d_FR_isField_19 : decode b_FR_isField 19 = .ok (.iload_n 0, 1) := by decide +kernel
theorem d_FR_isField_20 : decode b_FR_isField 20 = .ok (.sipush 1024, 3) := by decide +kernel
theorem d_FR_isField_23 : decode b_FR_isField 23 = .ok (.iload_n 1, 1) := by decide +kernel
theorem d_FR_isField_24 : decode b_FR_isField 24 = .ok (.isub, 1) := by decide +kernel
theorem d_FR_isField_25 : decode b_FR_isField 25 = .ok (.if_icmp .gt 7, 3) := by decide +kernel
theorem d_FR_isField_28 : decode b_FR_isField 28 = .ok (.iconst 1, 1) := by decide +kernel
theorem d_FR_isField_29 : decode b_FR_isField 29 = .ok (.goto 4, 3) := by decide +kernel
theorem d_FR_isField_32 : decode b_FR_isField 32 = .ok (.iconst 0, 1) := by decide +kernel
theorem d_FR_isField_33 : decode b_FR_isField 33 = .ok (.ireturn, 1) := by decide +kernel
theorem d_FR_isFollowed_0 : decode b_FR_isFollowed 0 = .ok (.iconst 0, 1) := by decide +kernel
theorem d_FR_isFollowed_1 : decode b_FR_isFollowed 1 = .ok (.istore_n 1, 1) := by decide +kernel
theorem d_FR_isFollowed_2 : decode b_FR_isFollowed 2 = .ok (.iload_n 1, 1) := by decide +kernel
theorem d_FR_isFollowed_3 : decode b_FR_isFollowed 3 = .ok (.iconst 1, 1) := by decide +kernel
theorem d_FR_isFollowed_4 : decode b_FR_isFollowed 4 = .ok (.iadd, 1) := by decide +kernel
theorem d_FR_isFollowed_5 : decode b_FR_isFollowed 5 = .ok (.getstatic 126, 3) := by decide +kernel
theorem d_FR_isFollowed_8 : decode b_FR_isFollowed 8 = .ok (.arraylength, 1) := by decide +kernel
theorem d_FR_isFollowed_9 : decode b_FR_isFollowed 9 = .ok (.if_icmp .ge 31, 3) := by decide +kernel
theorem d_FR_isFollowed_12 : decode b_FR_isFollowed 12 = .ok (.iload_n 0, 1) := by decide +kernel
theorem d_FR_isFollowed_13 : decode b_FR_isFollowed 13 = .ok (.getstatic 126, 3) := by decide +kernel
theorem d_FR_isFollowed_16 : decode b_FR_isFollowed 16 = .ok (.iload_n 1, 1) := by decide +kernel
theorem d_FR_isFollowed_17 : decode b_FR_isFollowed 17 = .ok (.iaload, 1) := by decide +kernel
theorem d_FR_isFollowed_18 : decode b_FR_isFollowed 18 = .ok (.if_icmp .lt 16, 3) := by decide +kernel
theorem d_FR_isFollowed_21 : decode b_FR_isFollowed 21 = .ok (.iload_n 0, 1) := by decide +kernel
theorem d_FR_isFollowed_22 : decode b_FR_isFollowed 22 = .ok (.getstatic 126, 3) := by decide +kernel
theorem d_FR_isFollowed_25 : decode b_FR_isFollowed 25 = .ok (.iload_n 1, 1) := by decide +kernel
theorem d_FR_isFollowed_26 : decode b_FR_isFollowed 26 = .ok (.iconst 1, 1) := by decide +kernel
theorem d_FR_isFollowed_27 : decode b_FR_isFollowed 27 = .ok (.iadd, 1) := by decide +kernel
theorem d_FR_isFollowed_28 : decode b_FR_isFollowed 28 = .ok (.iaload, 1) := by decide +kernel
theorem d_FR_isFollowed_29 : decode b_FR_isFollowed 29 = .ok (.if_icmp .gt 5, 3) := by decide +kernel
theorem d_FR_isFollowed_32 : decode b_FR_isFollowed 32 = .ok (.iconst 0, 1) := by decide +kernel
theorem d_FR_isFollowed_33 : decode b_FR_isFollowed 33 = .ok (.ireturn, 1) := by decide +kernel
theorem d_FR_isFollowed_34 : decode b_FR_isFollowed 34 = .ok (.iinc 1 2, 3) := by decide +kernel
theorem d_FR_isFollowed_37 : decode b_FR_isFollowed 37 = .ok (.goto (-35), 3) := by decide +kernel
theorem d_FR_isFollowed_40 : decode b_FR_isFollowed 40 = .ok (.iconst 1, 1) := by decide +kernel
theorem d_FR_isFollowed_41 : decode b_FR_isFollowed 41 = .ok (.ireturn, 1) := by decide +kernel
theorem d_FR_firstFor_0 : decode b_FR_firstFor 0 = .ok (.lload_n 0, 1) := by decide +kernel
theorem d_FR_firstFor_1 : decode b_FR_firstFor 1 = .ok (.lconst 0, 1) := by decide +kernel
theorem d_FR_firstFor_2 : decode b_FR_firstFor 2 = .ok (.lcmp, 1) := by decide +kernel
theorem d_FR_firstFor_3 : decode b_FR_firstFor 3 = .ok (.ifCond .ne 7, 3) := by decide +kernel
theorem d_FR_firstFor_6 : decode b_FR_firstFor 6 = .ok (.iconst 1, 1) := by decide +kernel
theorem d_FR_firstFor_7 : decode b_FR_firstFor 7 = .ok (.goto 4, 3) := by decide +kernel
theorem d_FR_firstFor_10 : decode b_FR_firstFor 10 = .ok (.iconst 0, 1) := by decide +kernel
theorem d_FR_firstFor_11 : decode b_FR_firstFor 11 = .ok (.ireturn, 1) := by decide +kernel
theorem d_FR_isEightfold_0 : decode b_FR_isEightfold 0 = .ok (.lload_n 0, 1) := by decide +kernel
theorem d_FR_isEightfold_1 : decode b_FR_isEightfold 1 = .ok (.lload_n 2, 1) := by decide +kernel
theorem d_FR_isEightfold_2 : decode b_FR_isEightfold 2 = .ok (.lcmp, 1) := by decide +kernel
theorem d_FR_isEightfold_3 : decode b_FR_isEightfold 3 = .ok (.ifCond .lt 24, 3) := by decide +kernel
theorem d_FR_isEightfold_6 : decode b_FR_isEightfold 6 = .ok (.lload_n 0, 1) := by decide +kernel
theorem d_FR_isEightfold_7 : decode b_FR_isEightfold 7 = .ok (.lload 4, 2) := by decide +kernel
theorem d_FR_isEightfold_9 : decode b_FR_isEightfold 9 = .ok (.lcmp, 1) := by decide +kernel
theorem d_FR_isEightfold_10 : decode b_FR_isEightfold 10 = .ok (.ifCond .gt 17, 3) := by decide +kernel
theorem d_FR_isEightfold_13 : decode b_FR_isEightfold 13 = .ok (.lload_n 0, 1) := by decide +kernel
theorem d_FR_isEightfold_14 : decode b_FR_isEightfold 14 = .ok (.ldc2_w 130, 3) := by decide +kernel
theorem d_FR_isEightfold_17 : decode b_FR_isEightfold 17 = .ok (.land, 1) := by decide +kernel
theorem d_FR_isEightfold_18 : decode b_FR_isEightfold 18 = .ok (.lconst 0, 1) := by decide +kernel
theorem d_FR_isEightfold_19 : decode b_FR_isEightfold 19 = .ok (.lcmp, 1) := by decide +kernel
theorem d_FR_isEightfold_20 : decode b_FR_isEightfold 20 = .ok (.ifCond .ne 7, 3) := by decide +kernel
theorem d_FR_isEightfold_23 : decode b_FR_isEightfold 23 = .ok (.iconst 1, 1) := by decide +kernel
theorem d_FR_isEightfold_24 : decode b_FR_isEightfold 24 = .ok (.goto 4, 3) := by decide +kernel
theorem d_FR_isEightfold_27 : decode b_FR_isEightfold 27 = .ok (.iconst 0, 1) := by decide +kernel
theorem d_FR_isEightfold_28 : decode b_FR_isEightfold 28 = .ok (.ireturn, 1) := by decide +kernel
theorem d_FR_isRecordLength_0 : decode b_FR_isRecordLength 0 = .ok (.lload_n 0, 1) := by decide +kernel
theorem d_FR_isRecordLength_1 : decode b_FR_isRecordLength 1 = .ok (.ldc2_w 132, 3) := by decide +kernel
theorem d_FR_isRecordLength_4 : decode b_FR_isRecordLength 4 = .ok (.lcmp, 1) := by decide +kernel
theorem d_FR_isRecordLength_5 : decode b_FR_isRecordLength 5 = .ok (.ifCond .eq 27, 3) := by decide +kernel
theorem d_FR_isRecordLength_8 : decode b_FR_isRecordLength 8 = .ok (.lload_n 0, 1) := by decide +kernel
theorem d_FR_isRecordLength_9 : decode b_FR_isRecordLength 9 = .ok (.ldc2_w 134, 3) := by decide +kernel
theorem d_FR_isRecordLength_12 : decode b_FR_isRecordLength 12 = .ok (.lcmp, 1) := by decide +kernel
theorem d_FR_isRecordLength_13 : decode b_FR_isRecordLength 13 = .ok (.ifCond .eq 19, 3) := by decide +kernel
theorem d_FR_isRecordLength_16 : decode b_FR_isRecordLength 16 = .ok (.lload_n 0, 1) := by decide +kernel
theorem d_FR_isRecordLength_17 : decode b_FR_isRecordLength 17 = .ok (.ldc2_w 136, 3) := by decide +kernel
theorem d_FR_isRecordLength_20 : decode b_FR_isRecordLength 20 = .ok (.lcmp, 1) := by decide +kernel
theorem d_FR_isRecordLength_21 : decode b_FR_isRecordLength 21 = .ok (.ifCond .eq 11, 3) := by decide +kernel
theorem d_FR_isRecordLength_24 : decode b_FR_isRecordLength 24 = .ok (.lload_n 0, 1) := by decide +kernel
theorem d_FR_isRecordLength_25 : decode b_FR_isRecordLength 25 = .ok (.ldc2_w 138, 3) := by decide +kernel
theorem d_FR_isRecordLength_28 : decode b_FR_isRecordLength 28 = .ok (.lcmp, 1) := by decide +kernel
theorem d_FR_isRecordLength_29 : decode b_FR_isRecordLength 29 = .ok (.ifCond .ne 7, 3) := by decide +kernel
theorem d_FR_isRecordLength_32 : decode b_FR_isRecordLength 32 = .ok (.iconst 1, 1) := by decide +kernel
theorem d_FR_isRecordLength_33 : decode b_FR_isRecordLength 33 = .ok (.goto 4, 3) := by decide +kernel
theorem d_FR_isRecordLength_36 : decode b_FR_isRecordLength 36 = .ok (.iconst 0, 1) := by decide +kernel
theorem d_FR_isRecordLength_37 : decode b_FR_isRecordLength 37 = .ok (.ireturn, 1) := by decide +kernel
theorem d_FR_quotient_0 : decode b_FR_quotient 0 = .ok (.lload_n 2, 1) := by decide +kernel
theorem d_FR_quotient_1 : decode b_FR_quotient 1 = .ok (.lconst 1, 1) := by decide +kernel
theorem d_FR_quotient_2 : decode b_FR_quotient 2 = .ok (.lcmp, 1) := by decide +kernel
theorem d_FR_quotient_3 : decode b_FR_quotient 3 = .ok (.ifCond .ge 7, 3) := by decide +kernel
theorem d_FR_quotient_6 : decode b_FR_quotient 6 = .ok (.lconst 0, 1) := by decide +kernel
theorem d_FR_quotient_7 : decode b_FR_quotient 7 = .ok (.goto 6, 3) := by decide +kernel
theorem d_FR_quotient_10 : decode b_FR_quotient 10 = .ok (.lload_n 0, 1) := by decide +kernel
theorem d_FR_quotient_11 : decode b_FR_quotient 11 = .ok (.lload_n 2, 1) := by decide +kernel
theorem d_FR_quotient_12 : decode b_FR_quotient 12 = .ok (.ldiv, 1) := by decide +kernel
theorem d_FR_quotient_13 : decode b_FR_quotient 13 = .ok (.lreturn, 1) := by decide +kernel
theorem d_FR_quotientUp_0 : decode b_FR_quotientUp 0 = .ok (.lload_n 0, 1) := by decide +kernel
theorem d_FR_quotientUp_1 : decode b_FR_quotientUp 1 = .ok (.lload_n 2, 1) := by decide +kernel
theorem d_FR_quotientUp_2 : decode b_FR_quotientUp 2 = .ok (.ladd, 1) := by decide +kernel
theorem d_FR_quotientUp_3 : decode b_FR_quotientUp 3 = .ok (.lconst 1, 1) := by decide +kernel
theorem d_FR_quotientUp_4 : decode b_FR_quotientUp 4 = .ok (.lsub, 1) := by decide +kernel
theorem d_FR_quotientUp_5 : decode b_FR_quotientUp 5 = .ok (.lload_n 2, 1) := by decide +kernel
theorem d_FR_quotientUp_6 : decode b_FR_quotientUp 6 = .ok (.invokestatic 116, 3) := by decide +kernel
theorem d_FR_quotientUp_9 : decode b_FR_quotientUp 9 = .ok (.lreturn, 1) := by decide +kernel
theorem d_Row_init_0 : decode b_Row_init 0 = .ok (.aload_n 0, 1) := by decide +kernel
theorem d_Row_init_1 : decode b_Row_init 1 = .ok (.invokespecial 3, 3) := by decide +kernel
theorem d_Row_init_4 : decode b_Row_init 4 = .ok (.aload_n 0, 1) := by decide +kernel
theorem d_Row_init_5 : decode b_Row_init 5 = .ok (.sipush 1024, 3) := by decide +kernel
theorem d_Row_init_8 : decode b_Row_init 8 = .ok (.newarray .byte, 2) := by decide +kernel
theorem d_Row_init_10 : decode b_Row_init 10 = .ok (.putfield 9, 3) := by decide +kernel
theorem d_Row_init_13 : decode b_Row_init 13 = .ok (.return_, 1) := by decide +kernel
theorem d_Row_clear_0 : decode b_Row_clear 0 = .ok (.iconst 0, 1) := by decide +kernel
theorem d_Row_clear_1 : decode b_Row_clear 1 = .ok (.istore_n 1, 1) := by decide +kernel
theorem d_Row_clear_2 : decode b_Row_clear 2 = .ok (.iload_n 1, 1) := by decide +kernel
theorem d_Row_clear_3 : decode b_Row_clear 3 = .ok (.sipush 1024, 3) := by decide +kernel
theorem d_Row_clear_6 : decode b_Row_clear 6 = .ok (.if_icmp .ge 16, 3) := by decide +kernel
theorem d_Row_clear_9 : decode b_Row_clear 9 = .ok (.aload_n 0, 1) := by decide +kernel
theorem d_Row_clear_10 : decode b_Row_clear 10 = .ok (.getfield 9, 3) := by decide +kernel
theorem d_Row_clear_13 : decode b_Row_clear 13 = .ok (.iload_n 1, 1) := by decide +kernel
theorem d_Row_clear_14 : decode b_Row_clear 14 = .ok (.iconst 0, 1) := by decide +kernel
theorem d_Row_clear_15 : decode b_Row_clear 15 = .ok (.bastore, 1) := by decide +kernel
theorem d_Row_clear_16 : decode b_Row_clear 16 = .ok (.iinc 1 1, 3) := by decide +kernel
theorem d_Row_clear_19 : decode b_Row_clear 19 = .ok (.goto (-17), 3) := by decide +kernel
theorem d_Row_clear_22 : decode b_Row_clear 22 = .ok (.return_, 1) := by decide +kernel
theorem d_Row_takeAll_0 : decode b_Row_takeAll 0 = .ok (.iconst 0, 1) := by decide +kernel
theorem d_Row_takeAll_1 : decode b_Row_takeAll 1 = .ok (.istore_n 2, 1) := by decide +kernel
theorem d_Row_takeAll_2 : decode b_Row_takeAll 2 = .ok (.iload_n 2, 1) := by decide +kernel
theorem d_Row_takeAll_3 : decode b_Row_takeAll 3 = .ok (.sipush 1024, 3) := by decide +kernel
theorem d_Row_takeAll_6 : decode b_Row_takeAll 6 = .ok (.if_icmp .ge 21, 3) := by decide +kernel
theorem d_Row_takeAll_9 : decode b_Row_takeAll 9 = .ok (.aload_n 0, 1) := by decide +kernel
theorem d_Row_takeAll_10 : decode b_Row_takeAll 10 = .ok (.getfield 9, 3) := by decide +kernel
theorem d_Row_takeAll_13 : decode b_Row_takeAll 13 = .ok (.iload_n 2, 1) := by decide +kernel
theorem d_Row_takeAll_14 : decode b_Row_takeAll 14 = .ok (.aload_n 1, 1) := by decide +kernel
theorem d_Row_takeAll_15 : decode b_Row_takeAll 15 = .ok (.getfield 9, 3) := by decide +kernel
theorem d_Row_takeAll_18 : decode b_Row_takeAll 18 = .ok (.iload_n 2, 1) := by decide +kernel
theorem d_Row_takeAll_19 : decode b_Row_takeAll 19 = .ok (.baload, 1) := by decide +kernel
theorem d_Row_takeAll_20 : decode b_Row_takeAll 20 = .ok (.bastore, 1) := by decide +kernel
theorem d_Row_takeAll_21 : decode b_Row_takeAll 21 = .ok (.iinc 2 1, 3) := by decide +kernel
theorem d_Row_takeAll_24 : decode b_Row_takeAll 24 = .ok (.goto (-22), 3) := by decide +kernel
theorem d_Row_takeAll_27 : decode b_Row_takeAll 27 = .ok (.return_, 1) := by decide +kernel
theorem d_Row_field_0 : decode b_Row_field 0 = .ok (.iload_n 1, 1) := by decide +kernel
theorem d_Row_field_1 : decode b_Row_field 1 = .ok (.iload_n 2, 1) := by decide +kernel
theorem d_Row_field_2 : decode b_Row_field 2 = .ok (.invokestatic 15, 3) := by decide +kernel
theorem d_Row_field_5 : decode b_Row_field 5 = .ok (.ifCond .ne 7, 3) := by decide +kernel
theorem d_Row_field_8 : decode b_Row_field 8 = .ok (.ldc2_w 19, 3) := by decide +kernel
theorem d_Row_field_11 : decode b_Row_field 11 = .ok (.lreturn, 1) := by decide +kernel
theorem d_Row_field_12 : decode b_Row_field 12 = .ok (.lconst 0, 1) := by decide +kernel
theorem d_Row_field_13 : decode b_Row_field 13 = .ok (.lstore_n 3, 1) := by decide +kernel
theorem d_Row_field_14 : decode b_Row_field 14 = .ok (.iload_n 2, 1) := by decide +kernel
theorem d_Row_field_15 : decode b_Row_field 15 = .ok (.iconst 1, 1) := by decide +kernel
theorem d_Row_field_16 : decode b_Row_field 16 = .ok (.isub, 1) := by decide +kernel
theorem d_Row_field_17 : decode b_Row_field 17 = .ok (.istore 5, 2) := by decide +kernel
theorem d_Row_field_19 : decode b_Row_field 19 = .ok (.iload 5, 2) := by decide +kernel
theorem d_Row_field_21 : decode b_Row_field 21 = .ok (.ifCond .lt 29, 3) := by decide +kernel
theorem d_Row_field_24 : decode b_Row_field 24 = .ok (.lload_n 3, 1) := by decide +kernel
theorem d_Row_field_25 : decode b_Row_field 25 = .ok (.bipush 8, 2) := by decide +kernel
theorem d_Row_field_27 : decode b_Row_field 27 = .ok (.lshl, 1) := by decide +kernel
theorem d_Row_field_28 : decode b_Row_field 28 = .ok (.aload_n 0, 1) := by decide +kernel
theorem d_Row_field_29 : decode b_Row_field 29 = .ok (.getfield 9, 3) := by decide +kernel
theorem d_Row_field_32 : decode b_Row_field 32 = .ok (.iload_n 1, 1) := by decide +kernel
theorem d_Row_field_33 : decode b_Row_field 33 = .ok (.iload 5, 2) := by decide +kernel
theorem d_Row_field_35 : decode b_Row_field 35 = .ok (.iadd, 1) := by decide +kernel
theorem d_Row_field_36 : decode b_Row_field 36 = .ok (.baload, 1) := by decide +kernel
theorem d_Row_field_37 : decode b_Row_field 37 = .ok (.sipush 255, 3) := by decide +kernel
theorem d_Row_field_40 : decode b_Row_field 40 = .ok (.iand, 1) := by decide +kernel
theorem d_Row_field_41 : decode b_Row_field 41 = .ok (.i2l, 1) := by decide +kernel
theorem d_Row_field_42 : decode b_Row_field 42 = .ok (.lor, 1) := by decide +kernel
theorem d_Row_field_43 : decode b_Row_field 43 = .ok (.lstore_n 3, 1) := by decide +kernel
theorem d_Row_field_44 : decode b_Row_field 44 = .ok (.iinc 5 (-1), 3) := by decide +kernel
theorem d_Row_field_47 : decode b_Row_field 47 = .ok (.goto (-28), 3) := by decide +kernel
theorem d_Row_field_50 : decode b_Row_field 50 = .ok (.lload_n 3, 1) := by decide +kernel
theorem d_Row_field_51 : decode b_Row_field 51 = .ok (.lreturn, 1) := by decide +kernel
theorem d_Row_write_0 : decode b_Row_write 0 = .ok (.iload_n 1, 1) := by decide +kernel
theorem d_Row_write_1 : decode b_Row_write 1 = .ok (.iload_n 2, 1) := by decide +kernel
theorem d_Row_write_2 : decode b_Row_write 2 = .ok (.invokestatic 15, 3) := by decide +kernel
theorem d_Row_write_5 : decode b_Row_write 5 = .ok (.ifCond .ne 4, 3) := by decide +kernel
theorem d_Row_write_8 : decode b_Row_write 8 = .ok (.return_, 1) := by decide +kernel
theorem d_Row_write_9 : decode b_Row_write 9 = .ok (.iconst 0, 1) := by decide +kernel
theorem d_Row_write_10 : decode b_Row_write 10 = .ok (.istore 5, 2) := by decide +kernel
theorem d_Row_write_12 : decode b_Row_write 12 = .ok (.iload 5, 2) := by decide +kernel
theorem d_Row_write_14 : decode b_Row_write 14 = .ok (.iload_n 2, 1) := by decide +kernel
theorem d_Row_write_15 : decode b_Row_write 15 = .ok (.if_icmp .ge 27, 3) := by decide +kernel
theorem d_Row_write_18 : decode b_Row_write 18 = .ok (.aload_n 0, 1) := by decide +kernel
theorem d_Row_write_19 : decode b_Row_write 19 = .ok (.getfield 9, 3) := by decide +kernel
theorem d_Row_write_22 : decode b_Row_write 22 = .ok (.iload_n 1, 1) := by decide +kernel
theorem d_Row_write_23 : decode b_Row_write 23 = .ok (.iload 5, 2) := by decide +kernel
theorem d_Row_write_25 : decode b_Row_write 25 = .ok (.iadd, 1) := by decide +kernel
theorem d_Row_write_26 : decode b_Row_write 26 = .ok (.lload_n 3, 1) := by decide +kernel
theorem d_Row_write_27 : decode b_Row_write 27 = .ok (.bipush 8, 2) := by decide +kernel
theorem d_Row_write_29 : decode b_Row_write 29 = .ok (.iload 5, 2) := by decide +kernel
theorem d_Row_write_31 : decode b_Row_write 31 = .ok (.imul, 1) := by decide +kernel
theorem d_Row_write_32 : decode b_Row_write 32 = .ok (.lshr, 1) := by decide +kernel
theorem d_Row_write_33 : decode b_Row_write 33 = .ok (.l2i, 1) := by decide +kernel
theorem d_Row_write_34 : decode b_Row_write 34 = .ok (.i2b, 1) := by decide +kernel
theorem d_Row_write_35 : decode b_Row_write 35 = .ok (.bastore, 1) := by decide +kernel
theorem d_Row_write_36 : decode b_Row_write 36 = .ok (.iinc 5 1, 3) := by decide +kernel
theorem d_Row_write_39 : decode b_Row_write 39 = .ok (.goto (-27), 3) := by decide +kernel
theorem d_Row_write_42 : decode b_Row_write 42 = .ok (.return_, 1) := by decide +kernel
theorem d_Row_writeConstants_0 : decode b_Row_writeConstants 0 = .ok (.aload_n 0, 1) := by decide +kernel
theorem d_Row_writeConstants_1 : decode b_Row_writeConstants 1 = .ok (.bipush 54, 2) := by decide +kernel
theorem d_Row_writeConstants_3 : decode b_Row_writeConstants 3 = .ok (.iconst 2, 1) := by decide +kernel
theorem d_Row_writeConstants_4 : decode b_Row_writeConstants 4 = .ok (.ldc2_w 21, 3) := by decide +kernel
theorem d_Row_writeConstants_7 : decode b_Row_writeConstants 7 = .ok (.invokevirtual 23, 3) := by decide +kernel
theorem d_Row_writeConstants_10 : decode b_Row_writeConstants 10 = .ok (.aload_n 0, 1) := by decide +kernel
theorem d_Row_writeConstants_11 : decode b_Row_writeConstants 11 = .ok (.bipush 56, 2) := by decide +kernel
theorem d_Row_writeConstants_13 : decode b_Row_writeConstants 13 = .ok (.iconst 2, 1) := by decide +kernel
theorem d_Row_writeConstants_14 : decode b_Row_writeConstants 14 = .ok (.ldc2_w 27, 3) := by decide +kernel
theorem d_Row_writeConstants_17 : decode b_Row_writeConstants 17 = .ok (.invokevirtual 23, 3) := by decide +kernel
theorem d_Row_writeConstants_20 : decode b_Row_writeConstants 20 = .ok (.aload_n 0, 1) := by decide +kernel
theorem d_Row_writeConstants_21 : decode b_Row_writeConstants 21 = .ok (.bipush 58, 2) := by decide +kernel
theorem d_Row_writeConstants_23 : decode b_Row_writeConstants 23 = .ok (.iconst 2, 1) := by decide +kernel
theorem d_Row_writeConstants_24 : decode b_Row_writeConstants 24 = .ok (.lconst 1, 1) := by decide +kernel
theorem d_Row_writeConstants_25 : decode b_Row_writeConstants 25 = .ok (.invokevirtual 23, 3) := by decide +kernel
theorem d_Row_writeConstants_28 : decode b_Row_writeConstants 28 = .ok (.aload_n 0, 1) := by decide +kernel
theorem d_Row_writeConstants_29 : decode b_Row_writeConstants 29 = .ok (.bipush 76, 2) := by decide +kernel
theorem d_Row_writeConstants_31 : decode b_Row_writeConstants 31 = .ok (.iconst 4, 1) := by decide +kernel
theorem d_Row_writeConstants_32 : decode b_Row_writeConstants 32 = .ok (.lconst 1, 1) := by decide +kernel
theorem d_Row_writeConstants_33 : decode b_Row_writeConstants 33 = .ok (.invokevirtual 23, 3) := by decide +kernel
theorem d_Row_writeConstants_36 : decode b_Row_writeConstants 36 = .ok (.aload_n 0, 1) := by decide +kernel
theorem d_Row_writeConstants_37 : decode b_Row_writeConstants 37 = .ok (.bipush 84, 2) := by decide +kernel
theorem d_Row_writeConstants_39 : decode b_Row_writeConstants 39 = .ok (.iconst 4, 1) := by decide +kernel
theorem d_Row_writeConstants_40 : decode b_Row_writeConstants 40 = .ok (.ldc2_w 29, 3) := by decide +kernel
theorem d_Row_writeConstants_43 : decode b_Row_writeConstants 43 = .ok (.invokevirtual 23, 3) := by decide +kernel
theorem d_Row_writeConstants_46 : decode b_Row_writeConstants 46 = .ok (.aload_n 0, 1) := by decide +kernel
theorem d_Row_writeConstants_47 : decode b_Row_writeConstants 47 = .ok (.bipush 92, 2) := by decide +kernel
theorem d_Row_writeConstants_49 : decode b_Row_writeConstants 49 = .ok (.iconst 4, 1) := by decide +kernel
theorem d_Row_writeConstants_50 : decode b_Row_writeConstants 50 = .ok (.ldc2_w 31, 3) := by decide +kernel
theorem d_Row_writeConstants_53 : decode b_Row_writeConstants 53 = .ok (.invokevirtual 23, 3) := by decide +kernel
theorem d_Row_writeConstants_56 : decode b_Row_writeConstants 56 = .ok (.aload_n 0, 1) := by decide +kernel
theorem d_Row_writeConstants_57 : decode b_Row_writeConstants 57 = .ok (.bipush 96, 2) := by decide +kernel
theorem d_Row_writeConstants_59 : decode b_Row_writeConstants 59 = .ok (.iconst 4, 1) := by decide +kernel
theorem d_Row_writeConstants_60 : decode b_Row_writeConstants 60 = .ok (.ldc2_w 33, 3) := by decide +kernel
theorem d_Row_writeConstants_63 : decode b_Row_writeConstants 63 = .ok (.invokevirtual 23, 3) := by decide +kernel
theorem d_Row_writeConstants_66 : decode b_Row_writeConstants 66 = .ok (.aload_n 0, 1) := by decide +kernel
theorem d_Row_writeConstants_67 : decode b_Row_writeConstants 67 = .ok (.bipush 100, 2) := by decide +kernel
theorem d_Row_writeConstants_69 : decode b_Row_writeConstants 69 = .ok (.iconst 4, 1) := by decide +kernel
theorem d_Row_writeConstants_70 : decode b_Row_writeConstants 70 = .ok (.ldc2_w 35, 3) := by decide +kernel
theorem d_Row_writeConstants_73 : decode b_Row_writeConstants 73 = .ok (.invokevirtual 23, 3) := by decide +kernel
theorem d_Row_writeConstants_76 : decode b_Row_writeConstants 76 = .ok (.aload_n 0, 1) := by decide +kernel
theorem d_Row_writeConstants_77 : decode b_Row_writeConstants 77 = .ok (.sipush 224, 3) := by decide +kernel
theorem d_Row_writeConstants_80 : decode b_Row_writeConstants 80 = .ok (.iconst 4, 1) := by decide +kernel
theorem d_Row_writeConstants_81 : decode b_Row_writeConstants 81 = .ok (.ldc2_w 37, 3) := by decide +kernel
theorem d_Row_writeConstants_84 : decode b_Row_writeConstants 84 = .ok (.invokevirtual 23, 3) := by decide +kernel
theorem d_Row_writeConstants_87 : decode b_Row_writeConstants 87 = .ok (.aload_n 0, 1) := by decide +kernel
theorem d_Row_writeConstants_88 : decode b_Row_writeConstants 88 = .ok (.sipush 252, 3) := by decide +kernel
theorem d_Row_writeConstants_91 : decode b_Row_writeConstants 91 = .ok (.iconst 1, 1) := by decide +kernel
theorem d_Row_writeConstants_92 : decode b_Row_writeConstants 92 = .ok (.lconst 1, 1) := by decide +kernel
theorem d_Row_writeConstants_93 : decode b_Row_writeConstants 93 = .ok (.invokevirtual 23, 3) := by decide +kernel
theorem d_Row_writeConstants_96 : decode b_Row_writeConstants 96 = .ok (.return_, 1) := by decide +kernel
theorem d_Vol_init_0 : decode b_Vol_init 0 = .ok (.aload_n 0, 1) := by decide +kernel
theorem d_Vol_init_1 : decode b_Vol_init 1 = .ok (.invokespecial 3, 3) := by decide +kernel
theorem d_Vol_init_4 : decode b_Vol_init 4 = .ok (.return_, 1) := by decide +kernel
theorem d_Vol_readNumbers_0 : decode b_Vol_readNumbers 0 = .ok (.aload_n 0, 1) := by decide +kernel
theorem d_Vol_readNumbers_1 : decode b_Vol_readNumbers 1 = .ok (.aload_n 1, 1) := by decide +kernel
theorem d_Vol_readNumbers_2 : decode b_Vol_readNumbers 2 = .ok (.iconst 0, 1) := by decide +kernel
theorem d_Vol_readNumbers_3 : decode b_Vol_readNumbers 3 = .ok (.iconst 4, 1) := by decide +kernel
theorem d_Vol_readNumbers_4 : decode b_Vol_readNumbers 4 = .ok (.invokevirtual 9, 3) := by decide +kernel
theorem d_Vol_readNumbers_7 : decode b_Vol_readNumbers 7 = .ok (.putfield 15, 3) := by decide +kernel
theorem d_Vol_readNumbers_10 : decode b_Vol_readNumbers 10 = .ok (.aload_n 0, 1) := by decide +kernel
theorem d_Vol_readNumbers_11 : decode b_Vol_readNumbers 11 = .ok (.aload_n 1, 1) := by decide +kernel
theorem d_Vol_readNumbers_12 : decode b_Vol_readNumbers 12 = .ok (.iconst 4, 1) := by decide +kernel
theorem d_Vol_readNumbers_13 : decode b_Vol_readNumbers 13 = .ok (.iconst 4, 1) := by decide +kernel
theorem d_Vol_readNumbers_14 : decode b_Vol_readNumbers 14 = .ok (.invokevirtual 9, 3) := by decide +kernel
theorem d_Vol_readNumbers_17 : decode b_Vol_readNumbers 17 = .ok (.putfield 21, 3) := by decide +kernel
theorem d_Vol_readNumbers_20 : decode b_Vol_readNumbers 20 = .ok (.aload_n 0, 1) := by decide +kernel
theorem d_Vol_readNumbers_21 : decode b_Vol_readNumbers 21 = .ok (.aload_n 1, 1) := by decide +kernel
theorem d_Vol_readNumbers_22 : decode b_Vol_readNumbers 22 = .ok (.bipush 20, 2) := by decide +kernel
theorem d_Vol_readNumbers_24 : decode b_Vol_readNumbers 24 = .ok (.iconst 4, 1) := by decide +kernel
theorem d_Vol_readNumbers_25 : decode b_Vol_readNumbers 25 = .ok (.invokevirtual 9, 3) := by decide +kernel
theorem d_Vol_readNumbers_28 : decode b_Vol_readNumbers 28 = .ok (.putfield 24, 3) := by decide +kernel
theorem d_Vol_readNumbers_31 : decode b_Vol_readNumbers 31 = .ok (.aload_n 0, 1) := by decide +kernel
theorem d_Vol_readNumbers_32 : decode b_Vol_readNumbers 32 = .ok (.aload_n 1, 1) := by decide +kernel
theorem d_Vol_readNumbers_33 : decode b_Vol_readNumbers 33 = .ok (.bipush 24, 2) := by decide +kernel
theorem d_Vol_readNumbers_35 : decode b_Vol_readNumbers 35 = .ok (.iconst 4, 1) := by decide +kernel
theorem d_Vol_readNumbers_36 : decode b_Vol_readNumbers 36 = .ok (.invokevirtual 9, 3) := by decide +kernel
theorem d_Vol_readNumbers_39 : decode b_Vol_readNumbers 39 = .ok (.putfield 27, 3) := by decide +kernel
theorem d_Vol_readNumbers_42 : decode b_Vol_readNumbers 42 = .ok (.aload_n 0, 1) := by decide +kernel
theorem d_Vol_readNumbers_43 : decode b_Vol_readNumbers 43 = .ok (.ldc2_w 30, 3) := by decide +kernel
theorem d_Vol_readNumbers_46 : decode b_Vol_readNumbers 46 = .ok (.aload_n 0, 1) := by decide +kernel
theorem d_Vol_readNumbers_47 : decode b_Vol_readNumbers 47 = .ok (.getfield 27, 3) := by decide +kernel
theorem d_Vol_readNumbers_50 : decode b_Vol_readNumbers 50 = .ok (.l2i, 1) := by decide +kernel
theorem d_Vol_readNumbers_51 : decode b_Vol_readNumbers 51 = .ok (.lshl, 1) := by decide +kernel
theorem d_Vol_readNumbers_52 : decode b_Vol_readNumbers 52 = .ok (.putfield 32, 3) := by decide +kernel
theorem d_Vol_readNumbers_55 : decode b_Vol_readNumbers 55 = .ok (.aload_n 0, 1) := by decide +kernel
theorem d_Vol_readNumbers_56 : decode b_Vol_readNumbers 56 = .ok (.aload_n 1, 1) := by decide +kernel
theorem d_Vol_readNumbers_57 : decode b_Vol_readNumbers 57 = .ok (.bipush 32, 2) := by decide +kernel
theorem d_Vol_readNumbers_59 : decode b_Vol_readNumbers 59 = .ok (.iconst 4, 1) := by decide +kernel
theorem d_Vol_readNumbers_60 : decode b_Vol_readNumbers 60 = .ok (.invokevirtual 9, 3) := by decide +kernel
theorem d_Vol_readNumbers_63 : decode b_Vol_readNumbers 63 = .ok (.putfield 35, 3) := by decide +kernel
theorem d_Vol_readNumbers_66 : decode b_Vol_readNumbers 66 = .ok (.aload_n 0, 1) := by decide +kernel
theorem d_Vol_readNumbers_67 : decode b_Vol_readNumbers 67 = .ok (.aload_n 1, 1) := by decide +kernel
theorem d_Vol_readNumbers_68 : decode b_Vol_readNumbers 68 = .ok (.bipush 40, 2) := by decide +kernel
theorem d_Vol_readNumbers_70 : decode b_Vol_readNumbers 70 = .ok (.iconst 4, 1) := by decide +kernel
theorem d_Vol_readNumbers_71 : decode b_Vol_readNumbers 71 = .ok (.invokevirtual 9, 3) := by decide +kernel
theorem d_Vol_readNumbers_74 : decode b_Vol_readNumbers 74 = .ok (.putfield 38, 3) := by decide +kernel
theorem d_Vol_readNumbers_77 : decode b_Vol_readNumbers 77 = .ok (.aload_n 0, 1) := by decide +kernel
theorem d_Vol_readNumbers_78 : decode b_Vol_readNumbers 78 = .ok (.aload_n 1, 1) := by decide +kernel
theorem d_Vol_readNumbers_79 : decode b_Vol_readNumbers 79 = .ok (.bipush 88, 2) := by decide +kernel
theorem d_Vol_readNumbers_81 : decode b_Vol_readNumbers 81 = .ok (.iconst 2, 1) := by decide +kernel
theorem d_Vol_readNumbers_82 : decode b_Vol_readNumbers 82 = .ok (.invokevirtual 9, 3) := by decide +kernel
theorem d_Vol_readNumbers_85 : decode b_Vol_readNumbers 85 = .ok (.putfield 41, 3) := by decide +kernel
theorem d_Vol_readNumbers_88 : decode b_Vol_readNumbers 88 = .ok (.aload_n 0, 1) := by decide +kernel
theorem d_Vol_readNumbers_89 : decode b_Vol_readNumbers 89 = .ok (.aload_n 1, 1) := by decide +kernel
theorem d_Vol_readNumbers_90 : decode b_Vol_readNumbers 90 = .ok (.bipush 100, 2) := by decide +kernel
theorem d_Vol_readNumbers_92 : decode b_Vol_readNumbers 92 = .ok (.iconst 4, 1) := by decide +kernel
theorem d_Vol_readNumbers_93 : decode b_Vol_readNumbers 93 = .ok (.invokevirtual 9, 3) := by decide +kernel
theorem d_Vol_readNumbers_96 : decode b_Vol_readNumbers 96 = .ok (.lconst 1, 1) := by decide +kernel
theorem d_Vol_readNumbers_97 : decode b_Vol_readNumbers 97 = .ok (.land, 1) := by decide +kernel
theorem d_Vol_readNumbers_98 : decode b_Vol_readNumbers 98 = .ok (.lconst 0, 1) := by decide +kernel
theorem d_Vol_readNumbers_99 : decode b_Vol_readNumbers 99 = .ok (.lcmp, 1) := by decide +kernel
theorem d_Vol_readNumbers_100 : decode b_Vol_readNumbers 100 = .ok (.ifCond .eq 7, 3) := by decide +kernel
theorem d_Vol_readNumbers_103 : decode b_Vol_readNumbers 103 = .ok (.iconst 1, 1) := by decide +kernel
theorem d_Vol_readNumbers_104 : decode b_Vol_readNumbers 104 = .ok (.goto 4, 3) := by decide +kernel
theorem d_Vol_readNumbers_107 : decode b_Vol_readNumbers 107 = .ok (.iconst 0, 1) := by decide +kernel
theorem d_Vol_readNumbers_108 : decode b_Vol_readNumbers 108 = .ok (.putfield 44, 3) := by decide +kernel
theorem d_Vol_readNumbers_111 : decode b_Vol_readNumbers 111 = .ok (.aload_n 0, 1) := by decide +kernel
theorem d_Vol_readNumbers_112 : decode b_Vol_readNumbers 112 = .ok (.aload_n 0, 1) := by decide +kernel
theorem d_Vol_readNumbers_113 : decode b_Vol_readNumbers 113 = .ok (.getfield 21, 3) := by decide +kernel
theorem d_Vol_readNumbers_116 : decode b_Vol_readNumbers 116 = .ok (.aload_n 0, 1) := by decide +kernel
theorem d_Vol_readNumbers_117 : decode b_Vol_readNumbers 117 = .ok (.getfield 24, 3) := by decide +kernel
theorem d_Vol_readNumbers_120 : decode b_Vol_readNumbers 120 = .ok (.lsub, 1) := by decide +kernel
theorem d_Vol_readNumbers_121 : decode b_Vol_readNumbers 121 = .ok (.aload_n 0, 1) := by decide +kernel
theorem d_Vol_readNumbers_122 : decode b_Vol_readNumbers 122 = .ok (.getfield 35, 3) := by decide +kernel
theorem d_Vol_readNumbers_125 : decode b_Vol_readNumbers 125 = .ok (.invokestatic 48, 3) := by decide +kernel
theorem d_Vol_readNumbers_128 : decode b_Vol_readNumbers 128 = .ok (.putfield 52, 3) := by decide +kernel
theorem d_Vol_readNumbers_131 : decode b_Vol_readNumbers 131 = .ok (.aload_n 0, 1) := by decide +kernel
theorem d_Vol_readNumbers_132 : decode b_Vol_readNumbers 132 = .ok (.lconst 1, 1) := by decide +kernel
theorem d_Vol_readNumbers_133 : decode b_Vol_readNumbers 133 = .ok (.aload_n 0, 1) := by decide +kernel
theorem d_Vol_readNumbers_134 : decode b_Vol_readNumbers 134 = .ok (.getfield 52, 3) := by decide +kernel
theorem d_Vol_readNumbers_137 : decode b_Vol_readNumbers 137 = .ok (.ldc2_w 55, 3) := by decide +kernel
theorem d_Vol_readNumbers_140 : decode b_Vol_readNumbers 140 = .ok (.lmul, 1) := by decide +kernel
theorem d_Vol_readNumbers_141 : decode b_Vol_readNumbers 141 = .ok (.aload_n 0, 1) := by decide +kernel
theorem d_Vol_readNumbers_142 : decode b_Vol_readNumbers 142 = .ok (.getfield 32, 3) := by decide +kernel
theorem d_Vol_readNumbers_145 : decode b_Vol_readNumbers 145 = .ok (.invokestatic 48, 3) := by decide +kernel
theorem d_Vol_readNumbers_148 : decode b_Vol_readNumbers 148 = .ok (.ladd, 1) := by decide +kernel
theorem d_Vol_readNumbers_149 : decode b_Vol_readNumbers 149 = .ok (.putfield 57, 3) := by decide +kernel
theorem d_Vol_readNumbers_152 : decode b_Vol_readNumbers 152 = .ok (.aload_n 0, 1) := by decide +kernel
theorem d_Vol_readNumbers_153 : decode b_Vol_readNumbers 153 = .ok (.aload_n 0, 1) := by decide +kernel
theorem d_Vol_readNumbers_154 : decode b_Vol_readNumbers 154 = .ok (.getfield 38, 3) := by decide +kernel
theorem d_Vol_readNumbers_157 : decode b_Vol_readNumbers 157 = .ok (.aload_n 0, 1) := by decide +kernel
theorem d_Vol_readNumbers_158 : decode b_Vol_readNumbers 158 = .ok (.getfield 41, 3) := by decide +kernel
theorem d_Vol_readNumbers_161 : decode b_Vol_readNumbers 161 = .ok (.lmul, 1) := by decide +kernel
theorem d_Vol_readNumbers_162 : decode b_Vol_readNumbers 162 = .ok (.aload_n 0, 1) := by decide +kernel
theorem d_Vol_readNumbers_163 : decode b_Vol_readNumbers 163 = .ok (.getfield 32, 3) := by decide +kernel
theorem d_Vol_readNumbers_166 : decode b_Vol_readNumbers 166 = .ok (.invokestatic 48, 3) := by decide +kernel
theorem d_Vol_readNumbers_169 : decode b_Vol_readNumbers 169 = .ok (.putfield 60, 3) := by decide +kernel
theorem d_Vol_readNumbers_172 : decode b_Vol_readNumbers 172 = .ok (.return_, 1) := by decide +kernel
theorem d_Vol_groupStart_0 : decode b_Vol_groupStart 0 = .ok (.aload_n 0, 1) := by decide +kernel
theorem d_Vol_groupStart_1 : decode b_Vol_groupStart 1 = .ok (.getfield 24, 3) := by decide +kernel
theorem d_Vol_groupStart_4 : decode b_Vol_groupStart 4 = .ok (.lload_n 1, 1) := by decide +kernel
theorem d_Vol_groupStart_5 : decode b_Vol_groupStart 5 = .ok (.aload_n 0, 1) := by decide +kernel
theorem d_Vol_groupStart_6 : decode b_Vol_groupStart 6 = .ok (.getfield 35, 3) := by decide +kernel
theorem d_Vol_groupStart_9 : decode b_Vol_groupStart 9 = .ok (.lmul, 1) := by decide +kernel
theorem d_Vol_groupStart_10 : decode b_Vol_groupStart 10 = .ok (.ladd, 1) := by decide +kernel
theorem d_Vol_groupStart_11 : decode b_Vol_groupStart 11 = .ok (.lreturn, 1) := by decide +kernel
theorem d_Vol_groupLength_0 : decode b_Vol_groupLength 0 = .ok (.aload_n 0, 1) := by decide +kernel
theorem d_Vol_groupLength_1 : decode b_Vol_groupLength 1 = .ok (.getfield 35, 3) := by decide +kernel
theorem d_Vol_groupLength_4 : decode b_Vol_groupLength 4 = .ok (.aload_n 0, 1) := by decide +kernel
theorem d_Vol_groupLength_5 : decode b_Vol_groupLength 5 = .ok (.getfield 21, 3) := by decide +kernel
theorem d_Vol_groupLength_8 : decode b_Vol_groupLength 8 = .ok (.aload_n 0, 1) := by decide +kernel
theorem d_Vol_groupLength_9 : decode b_Vol_groupLength 9 = .ok (.lload_n 1, 1) := by decide +kernel
theorem d_Vol_groupLength_10 : decode b_Vol_groupLength 10 = .ok (.invokevirtual 63, 3) := by decide +kernel
theorem d_Vol_groupLength_13 : decode b_Vol_groupLength 13 = .ok (.lsub, 1) := by decide +kernel
theorem d_Vol_groupLength_14 : decode b_Vol_groupLength 14 = .ok (.invokestatic 67, 3) := by decide +kernel
theorem d_Vol_groupLength_17 : decode b_Vol_groupLength 17 = .ok (.lreturn, 1) := by decide +kernel
end
section
theorem d_Vol_hasCopy_0 : decode b_Vol_hasCopy 0 = .ok (.aload_n 0, 1) := by decide +kernel
theorem d_Vol_hasCopy_1 : decode b_Vol_hasCopy 1 = .ok (.getfield 44, 3) := by decide +kernel
theorem d_Vol_hasCopy_4 : decode b_Vol_hasCopy 4 = .ok (.ifCond .ne 5, 3) := by decide +kernel
theorem d_Vol_hasCopy_7 : decode b_Vol_hasCopy 7 = .ok (.iconst 1, 1) := by decide +kernel
theorem d_Vol_hasCopy_8 : decode b_Vol_hasCopy 8 = .ok (.ireturn, 1) := by decide +kernel
theorem d_Vol_hasCopy_9 : decode b_Vol_hasCopy 9 = .ok (.iconst 0, 1) := by decide +kernel
theorem d_Vol_hasCopy_10 : decode b_Vol_hasCopy 10 = .ok (.istore_n 3, 1) := by decide +kernel
theorem d_Vol_hasCopy_11 : decode b_Vol_hasCopy 11 = .ok (.iload_n 3, 1) := by decide +kernel
theorem d_Vol_hasCopy_12 : decode b_Vol_hasCopy 12 = .ok (.getstatic 72, 3) := by decide +kernel
theorem d_Vol_hasCopy_15 : decode b_Vol_hasCopy 15 = .ok (.arraylength, 1) := by decide +kernel
theorem d_Vol_hasCopy_16 : decode b_Vol_hasCopy 16 = .ok (.if_icmp .ge 22, 3) := by decide +kernel
theorem d_Vol_hasCopy_19 : decode b_Vol_hasCopy 19 = .ok (.getstatic 72, 3) := by decide +kernel
theorem d_Vol_hasCopy_22 : decode b_Vol_hasCopy 22 = .ok (.iload_n 3, 1) := by decide +kernel
theorem d_Vol_hasCopy_23 : decode b_Vol_hasCopy 23 = .ok (.iaload, 1) := by decide +kernel
theorem d_Vol_hasCopy_24 : decode b_Vol_hasCopy 24 = .ok (.i2l, 1) := by decide +kernel
theorem d_Vol_hasCopy_25 : decode b_Vol_hasCopy 25 = .ok (.lload_n 1, 1) := by decide +kernel
theorem d_Vol_hasCopy_26 : decode b_Vol_hasCopy 26 = .ok (.lcmp, 1) := by decide +kernel
theorem d_Vol_hasCopy_27 : decode b_Vol_hasCopy 27 = .ok (.ifCond .ne 5, 3) := by decide +kernel
theorem d_Vol_hasCopy_30 : decode b_Vol_hasCopy 30 = .ok (.iconst 1, 1) := by decide +kernel
theorem d_Vol_hasCopy_31 : decode b_Vol_hasCopy 31 = .ok (.ireturn, 1) := by decide +kernel
theorem d_Vol_hasCopy_32 : decode b_Vol_hasCopy 32 = .ok (.iinc 3 1, 3) := by decide +kernel
theorem d_Vol_hasCopy_35 : decode b_Vol_hasCopy 35 = .ok (.goto (-24), 3) := by decide +kernel
theorem d_Vol_hasCopy_38 : decode b_Vol_hasCopy 38 = .ok (.iconst 0, 1) := by decide +kernel
theorem d_Vol_hasCopy_39 : decode b_Vol_hasCopy 39 = .ok (.ireturn, 1) := by decide +kernel
theorem d_Vol_blocksOfCopy_0 : decode b_Vol_blocksOfCopy 0 = .ok (.aload_n 0, 1) := by decide +kernel
theorem d_Vol_blocksOfCopy_1 : decode b_Vol_blocksOfCopy 1 = .ok (.lload_n 1, 1) := by decide +kernel
theorem d_Vol_blocksOfCopy_2 : decode b_Vol_blocksOfCopy 2 = .ok (.invokevirtual 76, 3) := by decide +kernel
theorem d_Vol_blocksOfCopy_5 : decode b_Vol_blocksOfCopy 5 = .ok (.ifCond .eq 10, 3) := by decide +kernel
theorem d_Vol_blocksOfCopy_8 : decode b_Vol_blocksOfCopy 8 = .ok (.aload_n 0, 1) := by decide +kernel
theorem d_Vol_blocksOfCopy_9 : decode b_Vol_blocksOfCopy 9 = .ok (.getfield 57, 3) := by decide +kernel
theorem d_Vol_blocksOfCopy_12 : decode b_Vol_blocksOfCopy 12 = .ok (.goto 4, 3) := by decide +kernel
theorem d_Vol_blocksOfCopy_15 : decode b_Vol_blocksOfCopy 15 = .ok (.lconst 0, 1) := by decide +kernel
theorem d_Vol_blocksOfCopy_16 : decode b_Vol_blocksOfCopy 16 = .ok (.lreturn, 1) := by decide +kernel
theorem d_Vol_blockBitmap_0 : decode b_Vol_blockBitmap 0 = .ok (.aload_n 0, 1) := by decide +kernel
theorem d_Vol_blockBitmap_1 : decode b_Vol_blockBitmap 1 = .ok (.lload_n 1, 1) := by decide +kernel
theorem d_Vol_blockBitmap_2 : decode b_Vol_blockBitmap 2 = .ok (.invokevirtual 63, 3) := by decide +kernel
theorem d_Vol_blockBitmap_5 : decode b_Vol_blockBitmap 5 = .ok (.aload_n 0, 1) := by decide +kernel
theorem d_Vol_blockBitmap_6 : decode b_Vol_blockBitmap 6 = .ok (.lload_n 1, 1) := by decide +kernel
theorem d_Vol_blockBitmap_7 : decode b_Vol_blockBitmap 7 = .ok (.invokevirtual 80, 3) := by decide +kernel
theorem d_Vol_blockBitmap_10 : decode b_Vol_blockBitmap 10 = .ok (.ladd, 1) := by decide +kernel
theorem d_Vol_blockBitmap_11 : decode b_Vol_blockBitmap 11 = .ok (.lreturn, 1) := by decide +kernel
theorem d_Vol_fileBitmap_0 : decode b_Vol_fileBitmap 0 = .ok (.aload_n 0, 1) := by decide +kernel
theorem d_Vol_fileBitmap_1 : decode b_Vol_fileBitmap 1 = .ok (.lload_n 1, 1) := by decide +kernel
theorem d_Vol_fileBitmap_2 : decode b_Vol_fileBitmap 2 = .ok (.invokevirtual 83, 3) := by decide +kernel
theorem d_Vol_fileBitmap_5 : decode b_Vol_fileBitmap 5 = .ok (.lconst 1, 1) := by decide +kernel
theorem d_Vol_fileBitmap_6 : decode b_Vol_fileBitmap 6 = .ok (.ladd, 1) := by decide +kernel
theorem d_Vol_fileBitmap_7 : decode b_Vol_fileBitmap 7 = .ok (.lreturn, 1) := by decide +kernel
theorem d_Vol_recordStart_0 : decode b_Vol_recordStart 0 = .ok (.aload_n 0, 1) := by decide +kernel
theorem d_Vol_recordStart_1 : decode b_Vol_recordStart 1 = .ok (.lload_n 1, 1) := by decide +kernel
theorem d_Vol_recordStart_2 : decode b_Vol_recordStart 2 = .ok (.invokevirtual 86, 3) := by decide +kernel
theorem d_Vol_recordStart_5 : decode b_Vol_recordStart 5 = .ok (.lconst 1, 1) := by decide +kernel
theorem d_Vol_recordStart_6 : decode b_Vol_recordStart 6 = .ok (.ladd, 1) := by decide +kernel
theorem d_Vol_recordStart_7 : decode b_Vol_recordStart 7 = .ok (.lreturn, 1) := by decide +kernel
theorem d_Vol_fixedBlocks_0 : decode b_Vol_fixedBlocks 0 = .ok (.aload_n 0, 1) := by decide +kernel
theorem d_Vol_fixedBlocks_1 : decode b_Vol_fixedBlocks 1 = .ok (.lload_n 1, 1) := by decide +kernel
theorem d_Vol_fixedBlocks_2 : decode b_Vol_fixedBlocks 2 = .ok (.invokevirtual 80, 3) := by decide +kernel
theorem d_Vol_fixedBlocks_5 : decode b_Vol_fixedBlocks 5 = .ok (.ldc2_w 89, 3) := by decide +kernel
theorem d_Vol_fixedBlocks_8 : decode b_Vol_fixedBlocks 8 = .ok (.ladd, 1) := by decide +kernel
theorem d_Vol_fixedBlocks_9 : decode b_Vol_fixedBlocks 9 = .ok (.aload_n 0, 1) := by decide +kernel
theorem d_Vol_fixedBlocks_10 : decode b_Vol_fixedBlocks 10 = .ok (.getfield 60, 3) := by decide +kernel
theorem d_Vol_fixedBlocks_13 : decode b_Vol_fixedBlocks 13 = .ok (.ladd, 1) := by decide +kernel
theorem d_Vol_fixedBlocks_14 : decode b_Vol_fixedBlocks 14 = .ok (.lreturn, 1) := by decide +kernel
theorem d_Vol_firstFaultOf_0 : decode b_Vol_firstFaultOf 0 = .ok (.aload_n 0, 1) := by decide +kernel
theorem d_Vol_firstFaultOf_1 : decode b_Vol_firstFaultOf 1 = .ok (.aload_n 1, 1) := by decide +kernel
theorem d_Vol_firstFaultOf_2 : decode b_Vol_firstFaultOf 2 = .ok (.invokevirtual 91, 3) := by decide +kernel
theorem d_Vol_firstFaultOf_5 : decode b_Vol_firstFaultOf 5 = .ok (.aload_n 0, 1) := by decide +kernel
theorem d_Vol_firstFaultOf_6 : decode b_Vol_firstFaultOf 6 = .ok (.aload_n 1, 1) := by decide +kernel
theorem d_Vol_firstFaultOf_7 : decode b_Vol_firstFaultOf 7 = .ok (.invokevirtual 95, 3) := by decide +kernel
theorem d_Vol_firstFaultOf_10 : decode b_Vol_firstFaultOf 10 = .ok (.istore_n 2, 1) := by decide +kernel
theorem d_Vol_firstFaultOf_11 : decode b_Vol_firstFaultOf 11 = .ok (.iload_n 2, 1) := by decide +kernel
theorem d_Vol_firstFaultOf_12 : decode b_Vol_firstFaultOf 12 = .ok (.bipush (-2), 2) := by decide +kernel
theorem d_Vol_firstFaultOf_14 : decode b_Vol_firstFaultOf 14 = .ok (.if_icmp .ne 9, 3) := by decide +kernel
theorem d_Vol_firstFaultOf_17 : decode b_Vol_firstFaultOf 17 = .ok (.aload_n 0, 1) := by decide +kernel
theorem d_Vol_firstFaultOf_18 : decode b_Vol_firstFaultOf 18 = .ok (.aload_n 1, 1) := by decide +kernel
theorem d_Vol_firstFaultOf_19 : decode b_Vol_firstFaultOf 19 = .ok (.invokevirtual 99, 3) := by decide +kernel
theorem d_Vol_firstFaultOf_22 : decode b_Vol_firstFaultOf 22 = .ok (.istore_n 2, 1) := by decide +kernel
theorem d_Vol_firstFaultOf_23 : decode b_Vol_firstFaultOf 23 = .ok (.iload_n 2, 1) := by decide +kernel
theorem d_Vol_firstFaultOf_24 : decode b_Vol_firstFaultOf 24 = .ok (.bipush (-2), 2) := by decide +kernel
theorem d_Vol_firstFaultOf_26 : decode b_Vol_firstFaultOf 26 = .ok (.if_icmp .ne 12, 3) := by decide +kernel
theorem d_Vol_firstFaultOf_29 : decode b_Vol_firstFaultOf 29 = .ok (.aload_n 0, 1) := by decide +kernel
theorem d_Vol_firstFaultOf_30 : decode b_Vol_firstFaultOf 30 = .ok (.invokevirtual 102, 3) := by decide +kernel
theorem d_Vol_firstFaultOf_33 : decode b_Vol_firstFaultOf 33 = .ok (.ifCond .ne 5, 3) := by decide +kernel
theorem d_Vol_firstFaultOf_36 : decode b_Vol_firstFaultOf 36 = .ok (.iconst 4, 1) := by decide +kernel
theorem d_Vol_firstFaultOf_37 : decode b_Vol_firstFaultOf 37 = .ok (.istore_n 2, 1) := by decide +kernel
theorem d_Vol_firstFaultOf_38 : decode b_Vol_firstFaultOf 38 = .ok (.iload_n 2, 1) := by decide +kernel
theorem d_Vol_firstFaultOf_39 : decode b_Vol_firstFaultOf 39 = .ok (.bipush (-2), 2) := by decide +kernel
theorem d_Vol_firstFaultOf_41 : decode b_Vol_firstFaultOf 41 = .ok (.if_icmp .ne 9, 3) := by decide +kernel
theorem d_Vol_firstFaultOf_44 : decode b_Vol_firstFaultOf 44 = .ok (.aload_n 0, 1) := by decide +kernel
theorem d_Vol_firstFaultOf_45 : decode b_Vol_firstFaultOf 45 = .ok (.aload_n 1, 1) := by decide +kernel
theorem d_Vol_firstFaultOf_46 : decode b_Vol_firstFaultOf 46 = .ok (.invokevirtual 106, 3) := by decide +kernel
theorem d_Vol_firstFaultOf_49 : decode b_Vol_firstFaultOf 49 = .ok (.istore_n 2, 1) := by decide +kernel
theorem d_Vol_firstFaultOf_50 : decode b_Vol_firstFaultOf 50 = .ok (.iload_n 2, 1) := by decide +kernel
theorem d_Vol_firstFaultOf_51 : decode b_Vol_firstFaultOf 51 = .ok (.bipush (-2), 2) := by decide +kernel
theorem d_Vol_firstFaultOf_53 : decode b_Vol_firstFaultOf 53 = .ok (.if_icmp .ne 9, 3) := by decide +kernel
theorem d_Vol_firstFaultOf_56 : decode b_Vol_firstFaultOf 56 = .ok (.aload_n 0, 1) := by decide +kernel
theorem d_Vol_firstFaultOf_57 : decode b_Vol_firstFaultOf 57 = .ok (.aload_n 1, 1) := by decide +kernel
theorem d_Vol_firstFaultOf_58 : decode b_Vol_firstFaultOf 58 = .ok (.invokevirtual 109, 3) := by decide +kernel
theorem d_Vol_firstFaultOf_61 : decode b_Vol_firstFaultOf 61 = .ok (.istore_n 2, 1) := by decide +kernel
theorem d_Vol_firstFaultOf_62 : decode b_Vol_firstFaultOf 62 = .ok (.iload_n 2, 1) := by decide +kernel
theorem d_Vol_firstFaultOf_63 : decode b_Vol_firstFaultOf 63 = .ok (.bipush (-2), 2) := by decide +kernel
theorem d_Vol_firstFaultOf_65 : decode b_Vol_firstFaultOf 65 = .ok (.if_icmp .ne 11, 3) := by decide +kernel
theorem d_Vol_firstFaultOf_68 : decode b_Vol_firstFaultOf 68 = .ok (.aload_n 0, 1) := by decide +kernel
theorem d_Vol_firstFaultOf_69 : decode b_Vol_firstFaultOf 69 = .ok (.aload_n 1, 1) := by decide +kernel
theorem d_Vol_firstFaultOf_70 : decode b_Vol_firstFaultOf 70 = .ok (.invokevirtual 112, 3) := by decide +kernel
theorem d_Vol_firstFaultOf_73 : decode b_Vol_firstFaultOf 73 = .ok (.goto 4, 3) := by decide +kernel
theorem d_Vol_firstFaultOf_76 : decode b_Vol_firstFaultOf 76 = .ok (.iload_n 2, 1) := by decide +kernel
theorem d_Vol_firstFaultOf_77 : decode b_Vol_firstFaultOf 77 = .ok (.ireturn, 1) := by decide +kernel
theorem d_Vol_faultOfForm_0 : decode b_Vol_faultOfForm 0 = .ok (.aload_n 1, 1) := by decide +kernel
theorem d_Vol_faultOfForm_1 : decode b_Vol_faultOfForm 1 = .ok (.bipush 56, 2) := by decide +kernel
theorem d_Vol_faultOfForm_3 : decode b_Vol_faultOfForm 3 = .ok (.iconst 2, 1) := by decide +kernel
theorem d_Vol_faultOfForm_4 : decode b_Vol_faultOfForm 4 = .ok (.invokevirtual 9, 3) := by decide +kernel
theorem d_Vol_faultOfForm_7 : decode b_Vol_faultOfForm 7 = .ok (.ldc2_w 115, 3) := by decide +kernel
theorem d_Vol_faultOfForm_10 : decode b_Vol_faultOfForm 10 = .ok (.lcmp, 1) := by decide +kernel
theorem d_Vol_faultOfForm_11 : decode b_Vol_faultOfForm 11 = .ok (.ifCond .eq 6, 3) := by decide +kernel
theorem d_Vol_faultOfForm_14 : decode b_Vol_faultOfForm 14 = .ok (.bipush 56, 2) := by decide +kernel
theorem d_Vol_faultOfForm_16 : decode b_Vol_faultOfForm 16 = .ok (.ireturn, 1) := by decide +kernel
theorem d_Vol_faultOfForm_17 : decode b_Vol_faultOfForm 17 = .ok (.aload_n 1, 1) := by decide +kernel
theorem d_Vol_faultOfForm_18 : decode b_Vol_faultOfForm 18 = .ok (.bipush 76, 2) := by decide +kernel
theorem d_Vol_faultOfForm_20 : decode b_Vol_faultOfForm 20 = .ok (.iconst 4, 1) := by decide +kernel
theorem d_Vol_faultOfForm_21 : decode b_Vol_faultOfForm 21 = .ok (.invokevirtual 9, 3) := by decide +kernel
theorem d_Vol_faultOfForm_24 : decode b_Vol_faultOfForm 24 = .ok (.lconst 1, 1) := by decide +kernel
theorem d_Vol_faultOfForm_25 : decode b_Vol_faultOfForm 25 = .ok (.lcmp, 1) := by decide +kernel
theorem d_Vol_faultOfForm_26 : decode b_Vol_faultOfForm 26 = .ok (.ifCond .eq 6, 3) := by decide +kernel
theorem d_Vol_faultOfForm_29 : decode b_Vol_faultOfForm 29 = .ok (.bipush 76, 2) := by decide +kernel
theorem d_Vol_faultOfForm_31 : decode b_Vol_faultOfForm 31 = .ok (.ireturn, 1) := by decide +kernel
theorem d_Vol_faultOfForm_32 : decode b_Vol_faultOfForm 32 = .ok (.aload_n 0, 1) := by decide +kernel
theorem d_Vol_faultOfForm_33 : decode b_Vol_faultOfForm 33 = .ok (.getfield 27, 3) := by decide +kernel
theorem d_Vol_faultOfForm_36 : decode b_Vol_faultOfForm 36 = .ok (.ldc2_w 89, 3) := by decide +kernel
theorem d_Vol_faultOfForm_39 : decode b_Vol_faultOfForm 39 = .ok (.lcmp, 1) := by decide +kernel
theorem d_Vol_faultOfForm_40 : decode b_Vol_faultOfForm 40 = .ok (.ifCond .le 6, 3) := by decide +kernel
theorem d_Vol_faultOfForm_43 : decode b_Vol_faultOfForm 43 = .ok (.bipush 24, 2) := by decide +kernel
theorem d_Vol_faultOfForm_45 : decode b_Vol_faultOfForm 45 = .ok (.ireturn, 1) := by decide +kernel
theorem d_Vol_faultOfForm_46 : decode b_Vol_faultOfForm 46 = .ok (.aload_n 1, 1) := by decide +kernel
theorem d_Vol_faultOfForm_47 : decode b_Vol_faultOfForm 47 = .ok (.bipush 28, 2) := by decide +kernel
theorem d_Vol_faultOfForm_49 : decode b_Vol_faultOfForm 49 = .ok (.iconst 4, 1) := by decide +kernel
theorem d_Vol_faultOfForm_50 : decode b_Vol_faultOfForm 50 = .ok (.invokevirtual 9, 3) := by decide +kernel
theorem d_Vol_faultOfForm_53 : decode b_Vol_faultOfForm 53 = .ok (.aload_n 0, 1) := by decide +kernel
theorem d_Vol_faultOfForm_54 : decode b_Vol_faultOfForm 54 = .ok (.getfield 27, 3) := by decide +kernel
theorem d_Vol_faultOfForm_57 : decode b_Vol_faultOfForm 57 = .ok (.lcmp, 1) := by decide +kernel
theorem d_Vol_faultOfForm_58 : decode b_Vol_faultOfForm 58 = .ok (.ifCond .eq 6, 3) := by decide +kernel
theorem d_Vol_faultOfForm_61 : decode b_Vol_faultOfForm 61 = .ok (.bipush 28, 2) := by decide +kernel
theorem d_Vol_faultOfForm_63 : decode b_Vol_faultOfForm 63 = .ok (.ireturn, 1) := by decide +kernel
theorem d_Vol_faultOfForm_64 : decode b_Vol_faultOfForm 64 = .ok (.aload_n 0, 1) := by decide +kernel
theorem d_Vol_faultOfForm_65 : decode b_Vol_faultOfForm 65 = .ok (.getfield 24, 3) := by decide +kernel
theorem d_Vol_faultOfForm_68 : decode b_Vol_faultOfForm 68 = .ok (.aload_n 0, 1) := by decide +kernel
theorem d_Vol_faultOfForm_69 : decode b_Vol_faultOfForm 69 = .ok (.getfield 27, 3) := by decide +kernel
theorem d_Vol_faultOfForm_72 : decode b_Vol_faultOfForm 72 = .ok (.invokestatic 117, 3) := by decide +kernel
theorem d_Vol_faultOfForm_75 : decode b_Vol_faultOfForm 75 = .ok (.i2l, 1) := by decide +kernel
theorem d_Vol_faultOfForm_76 : decode b_Vol_faultOfForm 76 = .ok (.lcmp, 1) := by decide +kernel
theorem d_Vol_faultOfForm_77 : decode b_Vol_faultOfForm 77 = .ok (.ifCond .ne 8, 3) := by decide +kernel
theorem d_Vol_faultOfForm_80 : decode b_Vol_faultOfForm 80 = .ok (.bipush (-2), 2) := by decide +kernel
theorem d_Vol_faultOfForm_82 : decode b_Vol_faultOfForm 82 = .ok (.goto 5, 3) := by decide +kernel
theorem d_Vol_faultOfForm_85 : decode b_Vol_faultOfForm 85 = .ok (.bipush 20, 2) := by decide +kernel
theorem d_Vol_faultOfForm_87 : decode b_Vol_faultOfForm 87 = .ok (.ireturn, 1) := by decide +kernel
theorem d_Vol_faultOfGroupSizes_0 : decode b_Vol_faultOfGroupSizes 0 = .ok (.ldc2_w 121, 3) := by decide +kernel
theorem d_Vol_faultOfGroupSizes_3 : decode b_Vol_faultOfGroupSizes 3 = .ok (.aload_n 0, 1) := by decide +kernel
theorem d_Vol_faultOfGroupSizes_4 : decode b_Vol_faultOfGroupSizes 4 = .ok (.getfield 32, 3) := by decide +kernel
theorem d_Vol_faultOfGroupSizes_7 : decode b_Vol_faultOfGroupSizes 7 = .ok (.lmul, 1) := by decide +kernel
theorem d_Vol_faultOfGroupSizes_8 : decode b_Vol_faultOfGroupSizes 8 = .ok (.lstore_n 2, 1) := by decide +kernel
theorem d_Vol_faultOfGroupSizes_9 : decode b_Vol_faultOfGroupSizes 9 = .ok (.aload_n 0, 1) := by decide +kernel
theorem d_Vol_faultOfGroupSizes_10 : decode b_Vol_faultOfGroupSizes 10 = .ok (.getfield 35, 3) := by decide +kernel
theorem d_Vol_faultOfGroupSizes_13 : decode b_Vol_faultOfGroupSizes 13 = .ok (.ldc2_w 123, 3) := by decide +kernel
theorem d_Vol_faultOfGroupSizes_16 : decode b_Vol_faultOfGroupSizes 16 = .ok (.lload_n 2, 1) := by decide +kernel
theorem d_Vol_faultOfGroupSizes_17 : decode b_Vol_faultOfGroupSizes 17 = .ok (.invokestatic 125, 3) := by decide +kernel
theorem d_Vol_faultOfGroupSizes_20 : decode b_Vol_faultOfGroupSizes 20 = .ok (.ifCond .ne 6, 3) := by decide +kernel
theorem d_Vol_faultOfGroupSizes_23 : decode b_Vol_faultOfGroupSizes 23 = .ok (.bipush 32, 2) := by decide +kernel
theorem d_Vol_faultOfGroupSizes_25 : decode b_Vol_faultOfGroupSizes 25 = .ok (.ireturn, 1) := by decide +kernel
theorem d_Vol_faultOfGroupSizes_26 : decode b_Vol_faultOfGroupSizes 26 = .ok (.aload_n 1, 1) := by decide +kernel
theorem d_Vol_faultOfGroupSizes_27 : decode b_Vol_faultOfGroupSizes 27 = .ok (.bipush 36, 2) := by decide +kernel
theorem d_Vol_faultOfGroupSizes_29 : decode b_Vol_faultOfGroupSizes 29 = .ok (.iconst 4, 1) := by decide +kernel
theorem d_Vol_faultOfGroupSizes_30 : decode b_Vol_faultOfGroupSizes 30 = .ok (.invokevirtual 9, 3) := by decide +kernel
theorem d_Vol_faultOfGroupSizes_33 : decode b_Vol_faultOfGroupSizes 33 = .ok (.aload_n 0, 1) := by decide +kernel
theorem d_Vol_faultOfGroupSizes_34 : decode b_Vol_faultOfGroupSizes 34 = .ok (.getfield 35, 3) := by decide +kernel
theorem d_Vol_faultOfGroupSizes_37 : decode b_Vol_faultOfGroupSizes 37 = .ok (.lcmp, 1) := by decide +kernel
theorem d_Vol_faultOfGroupSizes_38 : decode b_Vol_faultOfGroupSizes 38 = .ok (.ifCond .eq 6, 3) := by decide +kernel
theorem d_Vol_faultOfGroupSizes_41 : decode b_Vol_faultOfGroupSizes 41 = .ok (.bipush 36, 2) := by decide +kernel
theorem d_Vol_faultOfGroupSizes_43 : decode b_Vol_faultOfGroupSizes 43 = .ok (.ireturn, 1) := by decide +kernel
theorem d_Vol_faultOfGroupSizes_44 : decode b_Vol_faultOfGroupSizes 44 = .ok (.aload_n 0, 1) := by decide +kernel
theorem d_Vol_faultOfGroupSizes_45 : decode b_Vol_faultOfGroupSizes 45 = .ok (.getfield 41, 3) := by decide +kernel
theorem d_Vol_faultOfGroupSizes_48 : decode b_Vol_faultOfGroupSizes 48 = .ok (.invokestatic 129, 3) := by decide +kernel
theorem d_Vol_faultOfGroupSizes_51 : decode b_Vol_faultOfGroupSizes 51 = .ok (.ifCond .ne 6, 3) := by decide +kernel
theorem d_Vol_faultOfGroupSizes_54 : decode b_Vol_faultOfGroupSizes 54 = .ok (.bipush 88, 2) := by decide +kernel
theorem d_Vol_faultOfGroupSizes_56 : decode b_Vol_faultOfGroupSizes 56 = .ok (.ireturn, 1) := by decide +kernel
theorem d_Vol_faultOfGroupSizes_57 : decode b_Vol_faultOfGroupSizes 57 = .ok (.aload_n 0, 1) := by decide +kernel
theorem d_Vol_faultOfGroupSizes_58 : decode b_Vol_faultOfGroupSizes 58 = .ok (.getfield 60, 3) := by decide +kernel
theorem d_Vol_faultOfGroupSizes_61 : decode b_Vol_faultOfGroupSizes 61 = .ok (.aload_n 0, 1) := by decide +kernel
theorem d_Vol_faultOfGroupSizes_62 : decode b_Vol_faultOfGroupSizes 62 = .ok (.getfield 32, 3) := by decide +kernel
theorem d_Vol_faultOfGroupSizes_65 : decode b_Vol_faultOfGroupSizes 65 = .ok (.lmul, 1) := by decide +kernel
theorem d_Vol_faultOfGroupSizes_66 : decode b_Vol_faultOfGroupSizes 66 = .ok (.aload_n 0, 1) := by decide +kernel
theorem d_Vol_faultOfGroupSizes_67 : decode b_Vol_faultOfGroupSizes 67 = .ok (.getfield 38, 3) := by decide +kernel
theorem d_Vol_faultOfGroupSizes_70 : decode b_Vol_faultOfGroupSizes 70 = .ok (.aload_n 0, 1) := by decide +kernel
theorem d_Vol_faultOfGroupSizes_71 : decode b_Vol_faultOfGroupSizes 71 = .ok (.getfield 41, 3) := by decide +kernel
theorem d_Vol_faultOfGroupSizes_74 : decode b_Vol_faultOfGroupSizes 74 = .ok (.lmul, 1) := by decide +kernel
theorem d_Vol_faultOfGroupSizes_75 : decode b_Vol_faultOfGroupSizes 75 = .ok (.lcmp, 1) := by decide +kernel
theorem d_Vol_faultOfGroupSizes_76 : decode b_Vol_faultOfGroupSizes 76 = .ok (.ifCond .ne 7, 3) := by decide +kernel
theorem d_Vol_faultOfGroupSizes_79 : decode b_Vol_faultOfGroupSizes 79 = .ok (.iconst 1, 1) := by decide +kernel
theorem d_Vol_faultOfGroupSizes_80 : decode b_Vol_faultOfGroupSizes 80 = .ok (.goto 4, 3) := by decide +kernel
theorem d_Vol_faultOfGroupSizes_83 : decode b_Vol_faultOfGroupSizes 83 = .ok (.iconst 0, 1) := by decide +kernel
theorem d_Vol_faultOfGroupSizes_84 : decode b_Vol_faultOfGroupSizes 84 = .ok (.istore 4, 2) := by decide +kernel
theorem d_Vol_faultOfGroupSizes_86 : decode b_Vol_faultOfGroupSizes 86 = .ok (.aload_n 0, 1) := by decide +kernel
theorem d_Vol_faultOfGroupSizes_87 : decode b_Vol_faultOfGroupSizes 87 = .ok (.getfield 38, 3) := by decide +kernel
theorem d_Vol_faultOfGroupSizes_90 : decode b_Vol_faultOfGroupSizes 90 = .ok (.ldc2_w 132, 3) := by decide +kernel
theorem d_Vol_faultOfGroupSizes_93 : decode b_Vol_faultOfGroupSizes 93 = .ok (.lload_n 2, 1) := by decide +kernel
theorem d_Vol_faultOfGroupSizes_94 : decode b_Vol_faultOfGroupSizes 94 = .ok (.invokestatic 125, 3) := by decide +kernel
theorem d_Vol_faultOfGroupSizes_97 : decode b_Vol_faultOfGroupSizes 97 = .ok (.ifCond .eq 13, 3) := by decide +kernel
theorem d_Vol_faultOfGroupSizes_100 : decode b_Vol_faultOfGroupSizes 100 = .ok (.iload 4, 2) := by decide +kernel
theorem d_Vol_faultOfGroupSizes_102 : decode b_Vol_faultOfGroupSizes 102 = .ok (.ifCond .eq 8, 3) := by decide +kernel
theorem d_Vol_faultOfGroupSizes_105 : decode b_Vol_faultOfGroupSizes 105 = .ok (.bipush (-2), 2) := by decide +kernel
theorem d_Vol_faultOfGroupSizes_107 : decode b_Vol_faultOfGroupSizes 107 = .ok (.goto 5, 3) := by decide +kernel
theorem d_Vol_faultOfGroupSizes_110 : decode b_Vol_faultOfGroupSizes 110 = .ok (.bipush 40, 2) := by decide +kernel
theorem d_Vol_faultOfGroupSizes_112 : decode b_Vol_faultOfGroupSizes 112 = .ok (.ireturn, 1) := by decide +kernel
theorem d_Vol_everyGroupHasRoom_0 : decode b_Vol_everyGroupHasRoom 0 = .ok (.aload_n 0, 1) := by decide +kernel
theorem d_Vol_everyGroupHasRoom_1 : decode b_Vol_everyGroupHasRoom 1 = .ok (.getfield 21, 3) := by decide +kernel
theorem d_Vol_everyGroupHasRoom_4 : decode b_Vol_everyGroupHasRoom 4 = .ok (.aload_n 0, 1) := by decide +kernel
theorem d_Vol_everyGroupHasRoom_5 : decode b_Vol_everyGroupHasRoom 5 = .ok (.getfield 24, 3) := by decide +kernel
theorem d_Vol_everyGroupHasRoom_8 : decode b_Vol_everyGroupHasRoom 8 = .ok (.lcmp, 1) := by decide +kernel
theorem d_Vol_everyGroupHasRoom_9 : decode b_Vol_everyGroupHasRoom 9 = .ok (.ifCond .le 25, 3) := by decide +kernel
theorem d_Vol_everyGroupHasRoom_12 : decode b_Vol_everyGroupHasRoom 12 = .ok (.aload_n 0, 1) := by decide +kernel
theorem d_Vol_everyGroupHasRoom_13 : decode b_Vol_everyGroupHasRoom 13 = .ok (.getfield 21, 3) := by decide +kernel
theorem d_Vol_everyGroupHasRoom_16 : decode b_Vol_everyGroupHasRoom 16 = .ok (.ldc2_w 134, 3) := by decide +kernel
theorem d_Vol_everyGroupHasRoom_19 : decode b_Vol_everyGroupHasRoom 19 = .ok (.lcmp, 1) := by decide +kernel
theorem d_Vol_everyGroupHasRoom_20 : decode b_Vol_everyGroupHasRoom 20 = .ok (.ifCond .gt 14, 3) := by decide +kernel
theorem d_Vol_everyGroupHasRoom_23 : decode b_Vol_everyGroupHasRoom 23 = .ok (.aload_n 0, 1) := by decide +kernel
theorem d_Vol_everyGroupHasRoom_24 : decode b_Vol_everyGroupHasRoom 24 = .ok (.getfield 52, 3) := by decide +kernel
theorem d_Vol_everyGroupHasRoom_27 : decode b_Vol_everyGroupHasRoom 27 = .ok (.ldc2_w 123, 3) := by decide +kernel
theorem d_Vol_everyGroupHasRoom_30 : decode b_Vol_everyGroupHasRoom 30 = .ok (.lcmp, 1) := by decide +kernel
theorem d_Vol_everyGroupHasRoom_31 : decode b_Vol_everyGroupHasRoom 31 = .ok (.ifCond .le 5, 3) := by decide +kernel
theorem d_Vol_everyGroupHasRoom_34 : decode b_Vol_everyGroupHasRoom 34 = .ok (.iconst 0, 1) := by decide +kernel
theorem d_Vol_everyGroupHasRoom_35 : decode b_Vol_everyGroupHasRoom 35 = .ok (.ireturn, 1) := by decide +kernel
theorem d_Vol_everyGroupHasRoom_36 : decode b_Vol_everyGroupHasRoom 36 = .ok (.iconst 0, 1) := by decide +kernel
theorem d_Vol_everyGroupHasRoom_37 : decode b_Vol_everyGroupHasRoom 37 = .ok (.istore_n 1, 1) := by decide +kernel
theorem d_Vol_everyGroupHasRoom_38 : decode b_Vol_everyGroupHasRoom 38 = .ok (.iload_n 1, 1) := by decide +kernel
theorem d_Vol_everyGroupHasRoom_39 : decode b_Vol_everyGroupHasRoom 39 = .ok (.i2l, 1) := by decide +kernel
theorem d_Vol_everyGroupHasRoom_40 : decode b_Vol_everyGroupHasRoom 40 = .ok (.aload_n 0, 1) := by decide +kernel
theorem d_Vol_everyGroupHasRoom_41 : decode b_Vol_everyGroupHasRoom 41 = .ok (.getfield 52, 3) := by decide +kernel
theorem d_Vol_everyGroupHasRoom_44 : decode b_Vol_everyGroupHasRoom 44 = .ok (.lcmp, 1) := by decide +kernel
theorem d_Vol_everyGroupHasRoom_45 : decode b_Vol_everyGroupHasRoom 45 = .ok (.ifCond .ge 27, 3) := by decide +kernel
theorem d_Vol_everyGroupHasRoom_48 : decode b_Vol_everyGroupHasRoom 48 = .ok (.aload_n 0, 1) := by decide +kernel
theorem d_Vol_everyGroupHasRoom_49 : decode b_Vol_everyGroupHasRoom 49 = .ok (.iload_n 1, 1) := by decide +kernel
theorem d_Vol_everyGroupHasRoom_50 : decode b_Vol_everyGroupHasRoom 50 = .ok (.i2l, 1) := by decide +kernel
theorem d_Vol_everyGroupHasRoom_51 : decode b_Vol_everyGroupHasRoom 51 = .ok (.invokevirtual 136, 3) := by decide +kernel
theorem d_Vol_everyGroupHasRoom_54 : decode b_Vol_everyGroupHasRoom 54 = .ok (.aload_n 0, 1) := by decide +kernel
theorem d_Vol_everyGroupHasRoom_55 : decode b_Vol_everyGroupHasRoom 55 = .ok (.iload_n 1, 1) := by decide +kernel
theorem d_Vol_everyGroupHasRoom_56 : decode b_Vol_everyGroupHasRoom 56 = .ok (.i2l, 1) := by decide +kernel
theorem d_Vol_everyGroupHasRoom_57 : decode b_Vol_everyGroupHasRoom 57 = .ok (.invokevirtual 139, 3) := by decide +kernel
theorem d_Vol_everyGroupHasRoom_60 : decode b_Vol_everyGroupHasRoom 60 = .ok (.lcmp, 1) := by decide +kernel
theorem d_Vol_everyGroupHasRoom_61 : decode b_Vol_everyGroupHasRoom 61 = .ok (.ifCond .gt 5, 3) := by decide +kernel
theorem d_Vol_everyGroupHasRoom_64 : decode b_Vol_everyGroupHasRoom 64 = .ok (.iconst 0, 1) := by decide +kernel
theorem d_Vol_everyGroupHasRoom_65 : decode b_Vol_everyGroupHasRoom 65 = .ok (.ireturn, 1) := by decide +kernel
theorem d_Vol_everyGroupHasRoom_66 : decode b_Vol_everyGroupHasRoom 66 = .ok (.iinc 1 1, 3) := by decide +kernel
theorem d_Vol_everyGroupHasRoom_69 : decode b_Vol_everyGroupHasRoom 69 = .ok (.goto (-31), 3) := by decide +kernel
theorem d_Vol_everyGroupHasRoom_72 : decode b_Vol_everyGroupHasRoom 72 = .ok (.iconst 1, 1) := by decide +kernel
theorem d_Vol_everyGroupHasRoom_73 : decode b_Vol_everyGroupHasRoom 73 = .ok (.ireturn, 1) := by decide +kernel
theorem d_Vol_faultOfCounts_0 : decode b_Vol_faultOfCounts 0 = .ok (.aload_n 0, 1) := by decide +kernel
theorem d_Vol_faultOfCounts_1 : decode b_Vol_faultOfCounts 1 = .ok (.getfield 15, 3) := by decide +kernel
theorem d_Vol_faultOfCounts_4 : decode b_Vol_faultOfCounts 4 = .ok (.aload_n 0, 1) := by decide +kernel
theorem d_Vol_faultOfCounts_5 : decode b_Vol_faultOfCounts 5 = .ok (.getfield 52, 3) := by decide +kernel
theorem d_Vol_faultOfCounts_8 : decode b_Vol_faultOfCounts 8 = .ok (.aload_n 0, 1) := by decide +kernel
theorem d_Vol_faultOfCounts_9 : decode b_Vol_faultOfCounts 9 = .ok (.getfield 38, 3) := by decide +kernel
theorem d_Vol_faultOfCounts_12 : decode b_Vol_faultOfCounts 12 = .ok (.lmul, 1) := by decide +kernel
theorem d_Vol_faultOfCounts_13 : decode b_Vol_faultOfCounts 13 = .ok (.lcmp, 1) := by decide +kernel
theorem d_Vol_faultOfCounts_14 : decode b_Vol_faultOfCounts 14 = .ok (.ifCond .eq 5, 3) := by decide +kernel
theorem d_Vol_faultOfCounts_17 : decode b_Vol_faultOfCounts 17 = .ok (.iconst 0, 1) := by decide +kernel
theorem d_Vol_faultOfCounts_18 : decode b_Vol_faultOfCounts 18 = .ok (.ireturn, 1) := by decide +kernel
theorem d_Vol_faultOfCounts_19 : decode b_Vol_faultOfCounts 19 = .ok (.aload_n 1, 1) := by decide +kernel
theorem d_Vol_faultOfCounts_20 : decode b_Vol_faultOfCounts 20 = .ok (.bipush 8, 2) := by decide +kernel
theorem d_Vol_faultOfCounts_22 : decode b_Vol_faultOfCounts 22 = .ok (.iconst 4, 1) := by decide +kernel
theorem d_Vol_faultOfCounts_23 : decode b_Vol_faultOfCounts 23 = .ok (.invokevirtual 9, 3) := by decide +kernel
theorem d_Vol_faultOfCounts_26 : decode b_Vol_faultOfCounts 26 = .ok (.aload_n 0, 1) := by decide +kernel
theorem d_Vol_faultOfCounts_27 : decode b_Vol_faultOfCounts 27 = .ok (.getfield 21, 3) := by decide +kernel
theorem d_Vol_faultOfCounts_30 : decode b_Vol_faultOfCounts 30 = .ok (.lcmp, 1) := by decide +kernel
theorem d_Vol_faultOfCounts_31 : decode b_Vol_faultOfCounts 31 = .ok (.ifCond .le 6, 3) := by decide +kernel
theorem d_Vol_faultOfCounts_34 : decode b_Vol_faultOfCounts 34 = .ok (.bipush 8, 2) := by decide +kernel
theorem d_Vol_faultOfCounts_36 : decode b_Vol_faultOfCounts 36 = .ok (.ireturn, 1) := by decide +kernel
theorem d_Vol_faultOfCounts_37 : decode b_Vol_faultOfCounts 37 = .ok (.aload_n 1, 1) := by decide +kernel
theorem d_Vol_faultOfCounts_38 : decode b_Vol_faultOfCounts 38 = .ok (.bipush 12, 2) := by decide +kernel
theorem d_Vol_faultOfCounts_40 : decode b_Vol_faultOfCounts 40 = .ok (.iconst 4, 1) := by decide +kernel
theorem d_Vol_faultOfCounts_41 : decode b_Vol_faultOfCounts 41 = .ok (.invokevirtual 9, 3) := by decide +kernel
theorem d_Vol_faultOfCounts_44 : decode b_Vol_faultOfCounts 44 = .ok (.aload_n 0, 1) := by decide +kernel
theorem d_Vol_faultOfCounts_45 : decode b_Vol_faultOfCounts 45 = .ok (.getfield 21, 3) := by decide +kernel
theorem d_Vol_faultOfCounts_48 : decode b_Vol_faultOfCounts 48 = .ok (.lcmp, 1) := by decide +kernel
theorem d_Vol_faultOfCounts_49 : decode b_Vol_faultOfCounts 49 = .ok (.ifCond .le 6, 3) := by decide +kernel
theorem d_Vol_faultOfCounts_52 : decode b_Vol_faultOfCounts 52 = .ok (.bipush 12, 2) := by decide +kernel
theorem d_Vol_faultOfCounts_54 : decode b_Vol_faultOfCounts 54 = .ok (.ireturn, 1) := by decide +kernel
theorem d_Vol_faultOfCounts_55 : decode b_Vol_faultOfCounts 55 = .ok (.aload_n 1, 1) := by decide +kernel
theorem d_Vol_faultOfCounts_56 : decode b_Vol_faultOfCounts 56 = .ok (.bipush 16, 2) := by decide +kernel
theorem d_Vol_faultOfCounts_58 : decode b_Vol_faultOfCounts 58 = .ok (.iconst 4, 1) := by decide +kernel
theorem d_Vol_faultOfCounts_59 : decode b_Vol_faultOfCounts 59 = .ok (.invokevirtual 9, 3) := by decide +kernel
theorem d_Vol_faultOfCounts_62 : decode b_Vol_faultOfCounts 62 = .ok (.aload_n 0, 1) := by decide +kernel
theorem d_Vol_faultOfCounts_63 : decode b_Vol_faultOfCounts 63 = .ok (.getfield 15, 3) := by decide +kernel
theorem d_Vol_faultOfCounts_66 : decode b_Vol_faultOfCounts 66 = .ok (.lcmp, 1) := by decide +kernel
theorem d_Vol_faultOfCounts_67 : decode b_Vol_faultOfCounts 67 = .ok (.ifCond .le 6, 3) := by decide +kernel
theorem d_Vol_faultOfCounts_70 : decode b_Vol_faultOfCounts 70 = .ok (.bipush 16, 2) := by decide +kernel
theorem d_Vol_faultOfCounts_72 : decode b_Vol_faultOfCounts 72 = .ok (.ireturn, 1) := by decide +kernel
theorem d_Vol_faultOfCounts_73 : decode b_Vol_faultOfCounts 73 = .ok (.aload_n 1, 1) := by decide +kernel
theorem d_Vol_faultOfCounts_74 : decode b_Vol_faultOfCounts 74 = .ok (.bipush 58, 2) := by decide +kernel
theorem d_Vol_faultOfCounts_76 : decode b_Vol_faultOfCounts 76 = .ok (.iconst 2, 1) := by decide +kernel
theorem d_Vol_faultOfCounts_77 : decode b_Vol_faultOfCounts 77 = .ok (.invokevirtual 9, 3) := by decide +kernel
theorem d_Vol_faultOfCounts_80 : decode b_Vol_faultOfCounts 80 = .ok (.lstore_n 2, 1) := by decide +kernel
theorem d_Vol_faultOfCounts_81 : decode b_Vol_faultOfCounts 81 = .ok (.lload_n 2, 1) := by decide +kernel
theorem d_Vol_faultOfCounts_82 : decode b_Vol_faultOfCounts 82 = .ok (.lconst 1, 1) := by decide +kernel
theorem d_Vol_faultOfCounts_83 : decode b_Vol_faultOfCounts 83 = .ok (.lcmp, 1) := by decide +kernel
theorem d_Vol_faultOfCounts_84 : decode b_Vol_faultOfCounts 84 = .ok (.ifCond .eq 14, 3) := by decide +kernel
theorem d_Vol_faultOfCounts_87 : decode b_Vol_faultOfCounts 87 = .ok (.lload_n 2, 1) := by decide +kernel
theorem d_Vol_faultOfCounts_88 : decode b_Vol_faultOfCounts 88 = .ok (.ldc2_w 142, 3) := by decide +kernel
theorem d_Vol_faultOfCounts_91 : decode b_Vol_faultOfCounts 91 = .ok (.lcmp, 1) := by decide +kernel
theorem d_Vol_faultOfCounts_92 : decode b_Vol_faultOfCounts 92 = .ok (.ifCond .eq 6, 3) := by decide +kernel
theorem d_Vol_faultOfCounts_95 : decode b_Vol_faultOfCounts 95 = .ok (.bipush 58, 2) := by decide +kernel
theorem d_Vol_faultOfCounts_97 : decode b_Vol_faultOfCounts 97 = .ok (.ireturn, 1) := by decide +kernel
theorem d_Vol_faultOfCounts_98 : decode b_Vol_faultOfCounts 98 = .ok (.aload_n 1, 1) := by decide +kernel
theorem d_Vol_faultOfCounts_99 : decode b_Vol_faultOfCounts 99 = .ok (.bipush 84, 2) := by decide +kernel
theorem d_Vol_faultOfCounts_101 : decode b_Vol_faultOfCounts 101 = .ok (.iconst 4, 1) := by decide +kernel
theorem d_Vol_faultOfCounts_102 : decode b_Vol_faultOfCounts 102 = .ok (.invokevirtual 9, 3) := by decide +kernel
theorem d_Vol_faultOfCounts_105 : decode b_Vol_faultOfCounts 105 = .ok (.lstore 4, 2) := by decide +kernel
theorem d_Vol_faultOfCounts_107 : decode b_Vol_faultOfCounts 107 = .ok (.lload 4, 2) := by decide +kernel
theorem d_Vol_faultOfCounts_109 : decode b_Vol_faultOfCounts 109 = .ok (.ldc2_w 144, 3) := by decide +kernel
theorem d_Vol_faultOfCounts_112 : decode b_Vol_faultOfCounts 112 = .ok (.lcmp, 1) := by decide +kernel
theorem d_Vol_faultOfCounts_113 : decode b_Vol_faultOfCounts 113 = .ok (.ifCond .lt 13, 3) := by decide +kernel
theorem d_Vol_faultOfCounts_116 : decode b_Vol_faultOfCounts 116 = .ok (.lload 4, 2) := by decide +kernel
theorem d_Vol_faultOfCounts_118 : decode b_Vol_faultOfCounts 118 = .ok (.aload_n 0, 1) := by decide +kernel
theorem d_Vol_faultOfCounts_119 : decode b_Vol_faultOfCounts 119 = .ok (.getfield 15, 3) := by decide +kernel
theorem d_Vol_faultOfCounts_122 : decode b_Vol_faultOfCounts 122 = .ok (.lcmp, 1) := by decide +kernel
theorem d_Vol_faultOfCounts_123 : decode b_Vol_faultOfCounts 123 = .ok (.ifCond .le 6, 3) := by decide +kernel
theorem d_Vol_faultOfCounts_126 : decode b_Vol_faultOfCounts 126 = .ok (.bipush 84, 2) := by decide +kernel
theorem d_Vol_faultOfCounts_128 : decode b_Vol_faultOfCounts 128 = .ok (.ireturn, 1) := by decide +kernel
theorem d_Vol_faultOfCounts_129 : decode b_Vol_faultOfCounts 129 = .ok (.aload_n 1, 1) := by decide +kernel
theorem d_Vol_faultOfCounts_130 : decode b_Vol_faultOfCounts 130 = .ok (.bipush 90, 2) := by decide +kernel
theorem d_Vol_faultOfCounts_132 : decode b_Vol_faultOfCounts 132 = .ok (.iconst 2, 1) := by decide +kernel
theorem d_Vol_faultOfCounts_133 : decode b_Vol_faultOfCounts 133 = .ok (.invokevirtual 9, 3) := by decide +kernel
theorem d_Vol_faultOfCounts_136 : decode b_Vol_faultOfCounts 136 = .ok (.lstore 6, 2) := by decide +kernel
theorem d_Vol_faultOfCounts_138 : decode b_Vol_faultOfCounts 138 = .ok (.lload 6, 2) := by decide +kernel
theorem d_Vol_faultOfCounts_140 : decode b_Vol_faultOfCounts 140 = .ok (.aload_n 0, 1) := by decide +kernel
theorem d_Vol_faultOfCounts_141 : decode b_Vol_faultOfCounts 141 = .ok (.getfield 52, 3) := by decide +kernel
theorem d_Vol_faultOfCounts_144 : decode b_Vol_faultOfCounts 144 = .ok (.lcmp, 1) := by decide +kernel
theorem d_Vol_faultOfCounts_145 : decode b_Vol_faultOfCounts 145 = .ok (.ifCond .ge 17, 3) := by decide +kernel
theorem d_Vol_faultOfCounts_148 : decode b_Vol_faultOfCounts 148 = .ok (.aload_n 0, 1) := by decide +kernel
theorem d_Vol_faultOfCounts_149 : decode b_Vol_faultOfCounts 149 = .ok (.lload 6, 2) := by decide +kernel
theorem d_Vol_faultOfCounts_151 : decode b_Vol_faultOfCounts 151 = .ok (.invokevirtual 76, 3) := by decide +kernel
theorem d_Vol_faultOfCounts_154 : decode b_Vol_faultOfCounts 154 = .ok (.ifCond .eq 8, 3) := by decide +kernel
theorem d_Vol_faultOfCounts_157 : decode b_Vol_faultOfCounts 157 = .ok (.bipush (-2), 2) := by decide +kernel
theorem d_Vol_faultOfCounts_159 : decode b_Vol_faultOfCounts 159 = .ok (.goto 5, 3) := by decide +kernel
theorem d_Vol_faultOfCounts_162 : decode b_Vol_faultOfCounts 162 = .ok (.bipush 90, 2) := by decide +kernel
theorem d_Vol_faultOfCounts_164 : decode b_Vol_faultOfCounts 164 = .ok (.ireturn, 1) := by decide +kernel
theorem d_Vol_faultOfFeatures_0 : decode b_Vol_faultOfFeatures 0 = .ok (.aload_n 1, 1) := by decide +kernel
theorem d_Vol_faultOfFeatures_1 : decode b_Vol_faultOfFeatures 1 = .ok (.bipush 96, 2) := by decide +kernel
theorem d_Vol_faultOfFeatures_3 : decode b_Vol_faultOfFeatures 3 = .ok (.iconst 4, 1) := by decide +kernel
theorem d_Vol_faultOfFeatures_4 : decode b_Vol_faultOfFeatures 4 = .ok (.invokevirtual 9, 3) := by decide +kernel
theorem d_Vol_faultOfFeatures_7 : decode b_Vol_faultOfFeatures 7 = .ok (.lstore_n 2, 1) := by decide +kernel
theorem d_Vol_faultOfFeatures_8 : decode b_Vol_faultOfFeatures 8 = .ok (.iconst 0, 1) := by decide +kernel
theorem d_Vol_faultOfFeatures_9 : decode b_Vol_faultOfFeatures 9 = .ok (.aload_n 1, 1) := by decide +kernel
theorem d_Vol_faultOfFeatures_10 : decode b_Vol_faultOfFeatures 10 = .ok (.bipush 92, 2) := by decide +kernel
theorem d_Vol_faultOfFeatures_12 : decode b_Vol_faultOfFeatures 12 = .ok (.iconst 4, 1) := by decide +kernel
theorem d_Vol_faultOfFeatures_13 : decode b_Vol_faultOfFeatures 13 = .ok (.invokevirtual 9, 3) := by decide +kernel
theorem d_Vol_faultOfFeatures_16 : decode b_Vol_faultOfFeatures 16 = .ok (.ldc2_w 146, 3) := by decide +kernel
theorem d_Vol_faultOfFeatures_19 : decode b_Vol_faultOfFeatures 19 = .ok (.invokestatic 148, 3) := by decide +kernel
theorem d_Vol_faultOfFeatures_22 : decode b_Vol_faultOfFeatures 22 = .ok (.istore 4, 2) := by decide +kernel
theorem d_Vol_faultOfFeatures_24 : decode b_Vol_faultOfFeatures 24 = .ok (.iload 4, 2) := by decide +kernel
theorem d_Vol_faultOfFeatures_26 : decode b_Vol_faultOfFeatures 26 = .ok (.bipush (-2), 2) := by decide +kernel
theorem d_Vol_faultOfFeatures_28 : decode b_Vol_faultOfFeatures 28 = .ok (.if_icmp .ne 13, 3) := by decide +kernel
theorem d_Vol_faultOfFeatures_31 : decode b_Vol_faultOfFeatures 31 = .ok (.iconst 1, 1) := by decide +kernel
theorem d_Vol_faultOfFeatures_32 : decode b_Vol_faultOfFeatures 32 = .ok (.lload_n 2, 1) := by decide +kernel
theorem d_Vol_faultOfFeatures_33 : decode b_Vol_faultOfFeatures 33 = .ok (.ldc2_w 152, 3) := by decide +kernel
theorem d_Vol_faultOfFeatures_36 : decode b_Vol_faultOfFeatures 36 = .ok (.invokestatic 148, 3) := by decide +kernel
theorem d_Vol_faultOfFeatures_39 : decode b_Vol_faultOfFeatures 39 = .ok (.istore 4, 2) := by decide +kernel
theorem d_Vol_faultOfFeatures_41 : decode b_Vol_faultOfFeatures 41 = .ok (.iload 4, 2) := by decide +kernel
theorem d_Vol_faultOfFeatures_43 : decode b_Vol_faultOfFeatures 43 = .ok (.bipush (-2), 2) := by decide +kernel
theorem d_Vol_faultOfFeatures_45 : decode b_Vol_faultOfFeatures 45 = .ok (.if_icmp .ne 19, 3) := by decide +kernel
theorem d_Vol_faultOfFeatures_48 : decode b_Vol_faultOfFeatures 48 = .ok (.lload_n 2, 1) := by decide +kernel
theorem d_Vol_faultOfFeatures_49 : decode b_Vol_faultOfFeatures 49 = .ok (.ldc2_w 154, 3) := by decide +kernel
theorem d_Vol_faultOfFeatures_52 : decode b_Vol_faultOfFeatures 52 = .ok (.land, 1) := by decide +kernel
theorem d_Vol_faultOfFeatures_53 : decode b_Vol_faultOfFeatures 53 = .ok (.ldc2_w 154, 3) := by decide +kernel
theorem d_Vol_faultOfFeatures_56 : decode b_Vol_faultOfFeatures 56 = .ok (.lcmp, 1) := by decide +kernel
theorem d_Vol_faultOfFeatures_57 : decode b_Vol_faultOfFeatures 57 = .ok (.ifCond .eq 7, 3) := by decide +kernel
theorem d_Vol_faultOfFeatures_60 : decode b_Vol_faultOfFeatures 60 = .ok (.bipush 96, 2) := by decide +kernel
theorem d_Vol_faultOfFeatures_62 : decode b_Vol_faultOfFeatures 62 = .ok (.istore 4, 2) := by decide +kernel
theorem d_Vol_faultOfFeatures_64 : decode b_Vol_faultOfFeatures 64 = .ok (.iload 4, 2) := by decide +kernel
theorem d_Vol_faultOfFeatures_66 : decode b_Vol_faultOfFeatures 66 = .ok (.bipush (-2), 2) := by decide +kernel
theorem d_Vol_faultOfFeatures_68 : decode b_Vol_faultOfFeatures 68 = .ok (.if_icmp .ne 20, 3) := by decide +kernel
theorem d_Vol_faultOfFeatures_71 : decode b_Vol_faultOfFeatures 71 = .ok (.iconst 2, 1) := by decide +kernel
theorem d_Vol_faultOfFeatures_72 : decode b_Vol_faultOfFeatures 72 = .ok (.aload_n 1, 1) := by decide +kernel
theorem d_Vol_faultOfFeatures_73 : decode b_Vol_faultOfFeatures 73 = .ok (.bipush 100, 2) := by decide +kernel
theorem d_Vol_faultOfFeatures_75 : decode b_Vol_faultOfFeatures 75 = .ok (.iconst 4, 1) := by decide +kernel
theorem d_Vol_faultOfFeatures_76 : decode b_Vol_faultOfFeatures 76 = .ok (.invokevirtual 9, 3) := by decide +kernel
theorem d_Vol_faultOfFeatures_79 : decode b_Vol_faultOfFeatures 79 = .ok (.ldc2_w 142, 3) := by decide +kernel
theorem d_Vol_faultOfFeatures_82 : decode b_Vol_faultOfFeatures 82 = .ok (.invokestatic 148, 3) := by decide +kernel
theorem d_Vol_faultOfFeatures_85 : decode b_Vol_faultOfFeatures 85 = .ok (.goto 5, 3) := by decide +kernel
theorem d_Vol_faultOfFeatures_88 : decode b_Vol_faultOfFeatures 88 = .ok (.iload 4, 2) := by decide +kernel
theorem d_Vol_faultOfFeatures_90 : decode b_Vol_faultOfFeatures 90 = .ok (.ireturn, 1) := by decide +kernel
theorem d_Vol_unlistedFault_0 : decode b_Vol_unlistedFault 0 = .ok (.iconst 0, 1) := by decide +kernel
theorem d_Vol_unlistedFault_1 : decode b_Vol_unlistedFault 1 = .ok (.istore 5, 2) := by decide +kernel
theorem d_Vol_unlistedFault_3 : decode b_Vol_unlistedFault 3 = .ok (.iload 5, 2) := by decide +kernel
theorem d_Vol_unlistedFault_5 : decode b_Vol_unlistedFault 5 = .ok (.bipush 32, 2) := by decide +kernel
theorem d_Vol_unlistedFault_7 : decode b_Vol_unlistedFault 7 = .ok (.if_icmp .ge 38, 3) := by decide +kernel
theorem d_Vol_unlistedFault_10 : decode b_Vol_unlistedFault 10 = .ok (.lload_n 1, 1) := by decide +kernel
theorem d_Vol_unlistedFault_11 : decode b_Vol_unlistedFault 11 = .ok (.lload_n 3, 1) := by decide +kernel
theorem d_Vol_unlistedFault_12 : decode b_Vol_unlistedFault 12 = .ok (.ldc2_w 156, 3) := by decide +kernel
theorem d_Vol_unlistedFault_15 : decode b_Vol_unlistedFault 15 = .ok (.lxor, 1) := by decide +kernel
theorem d_Vol_unlistedFault_16 : decode b_Vol_unlistedFault 16 = .ok (.land, 1) := by decide +kernel
theorem d_Vol_unlistedFault_17 : decode b_Vol_unlistedFault 17 = .ok (.lconst 1, 1) := by decide +kernel
theorem d_Vol_unlistedFault_18 : decode b_Vol_unlistedFault 18 = .ok (.iload 5, 2) := by decide +kernel
theorem d_Vol_unlistedFault_20 : decode b_Vol_unlistedFault 20 = .ok (.lshl, 1) := by decide +kernel
theorem d_Vol_unlistedFault_21 : decode b_Vol_unlistedFault 21 = .ok (.land, 1) := by decide +kernel
theorem d_Vol_unlistedFault_22 : decode b_Vol_unlistedFault 22 = .ok (.lconst 0, 1) := by decide +kernel
theorem d_Vol_unlistedFault_23 : decode b_Vol_unlistedFault 23 = .ok (.lcmp, 1) := by decide +kernel
theorem d_Vol_unlistedFault_24 : decode b_Vol_unlistedFault 24 = .ok (.ifCond .eq 15, 3) := by decide +kernel
theorem d_Vol_unlistedFault_27 : decode b_Vol_unlistedFault 27 = .ok (.sipush 2000, 3) := by decide +kernel
theorem d_Vol_unlistedFault_30 : decode b_Vol_unlistedFault 30 = .ok (.bipush 32, 2) := by decide +kernel
theorem d_Vol_unlistedFault_32 : decode b_Vol_unlistedFault 32 = .ok (.iload_n 0, 1) := by decide +kernel
theorem d_Vol_unlistedFault_33 : decode b_Vol_unlistedFault 33 = .ok (.imul, 1) := by decide +kernel
theorem d_Vol_unlistedFault_34 : decode b_Vol_unlistedFault 34 = .ok (.iadd, 1) := by decide +kernel
theorem d_Vol_unlistedFault_35 : decode b_Vol_unlistedFault 35 = .ok (.iload 5, 2) := by decide +kernel
theorem d_Vol_unlistedFault_37 : decode b_Vol_unlistedFault 37 = .ok (.iadd, 1) := by decide +kernel
theorem d_Vol_unlistedFault_38 : decode b_Vol_unlistedFault 38 = .ok (.ireturn, 1) := by decide +kernel
theorem d_Vol_unlistedFault_39 : decode b_Vol_unlistedFault 39 = .ok (.iinc 5 1, 3) := by decide +kernel
theorem d_Vol_unlistedFault_42 : decode b_Vol_unlistedFault 42 = .ok (.goto (-39), 3) := by decide +kernel
theorem d_Vol_unlistedFault_45 : decode b_Vol_unlistedFault 45 = .ok (.bipush (-2), 2) := by decide +kernel
theorem d_Vol_unlistedFault_47 : decode b_Vol_unlistedFault 47 = .ok (.ireturn, 1) := by decide +kernel
end
section
theorem d_Vol_faultOfRest_0 : decode b_Vol_faultOfRest 0 = .ok (.aload_n 1, 1) := by decide +kernel
theorem d_Vol_faultOfRest_1 : decode b_Vol_faultOfRest 1 = .ok (.bipush 92, 2) := by decide +kernel
theorem d_Vol_faultOfRest_3 : decode b_Vol_faultOfRest 3 = .ok (.iconst 4, 1) := by decide +kernel
theorem d_Vol_faultOfRest_4 : decode b_Vol_faultOfRest 4 = .ok (.invokevirtual 9, 3) := by decide +kernel
theorem d_Vol_faultOfRest_7 : decode b_Vol_faultOfRest 7 = .ok (.lstore_n 2, 1) := by decide +kernel
theorem d_Vol_faultOfRest_8 : decode b_Vol_faultOfRest 8 = .ok (.lload_n 2, 1) := by decide +kernel
theorem d_Vol_faultOfRest_9 : decode b_Vol_faultOfRest 9 = .ok (.ldc2_w 158, 3) := by decide +kernel
theorem d_Vol_faultOfRest_12 : decode b_Vol_faultOfRest 12 = .ok (.land, 1) := by decide +kernel
theorem d_Vol_faultOfRest_13 : decode b_Vol_faultOfRest 13 = .ok (.lconst 0, 1) := by decide +kernel
theorem d_Vol_faultOfRest_14 : decode b_Vol_faultOfRest 14 = .ok (.lcmp, 1) := by decide +kernel
theorem d_Vol_faultOfRest_15 : decode b_Vol_faultOfRest 15 = .ok (.ifCond .eq 9, 3) := by decide +kernel
theorem d_Vol_faultOfRest_18 : decode b_Vol_faultOfRest 18 = .ok (.ldc2_w 121, 3) := by decide +kernel
theorem d_Vol_faultOfRest_21 : decode b_Vol_faultOfRest 21 = .ok (.goto 4, 3) := by decide +kernel
theorem d_Vol_faultOfRest_24 : decode b_Vol_faultOfRest 24 = .ok (.lconst 0, 1) := by decide +kernel
theorem d_Vol_faultOfRest_25 : decode b_Vol_faultOfRest 25 = .ok (.lstore 4, 2) := by decide +kernel
theorem d_Vol_faultOfRest_27 : decode b_Vol_faultOfRest 27 = .ok (.lload_n 2, 1) := by decide +kernel
theorem d_Vol_faultOfRest_28 : decode b_Vol_faultOfRest 28 = .ok (.ldc2_w 55, 3) := by decide +kernel
theorem d_Vol_faultOfRest_31 : decode b_Vol_faultOfRest 31 = .ok (.land, 1) := by decide +kernel
theorem d_Vol_faultOfRest_32 : decode b_Vol_faultOfRest 32 = .ok (.lconst 0, 1) := by decide +kernel
theorem d_Vol_faultOfRest_33 : decode b_Vol_faultOfRest 33 = .ok (.lcmp, 1) := by decide +kernel
theorem d_Vol_faultOfRest_34 : decode b_Vol_faultOfRest 34 = .ok (.ifCond .eq 7, 3) := by decide +kernel
theorem d_Vol_faultOfRest_37 : decode b_Vol_faultOfRest 37 = .ok (.lconst 1, 1) := by decide +kernel
theorem d_Vol_faultOfRest_38 : decode b_Vol_faultOfRest 38 = .ok (.goto 4, 3) := by decide +kernel
theorem d_Vol_faultOfRest_41 : decode b_Vol_faultOfRest 41 = .ok (.lconst 0, 1) := by decide +kernel
theorem d_Vol_faultOfRest_42 : decode b_Vol_faultOfRest 42 = .ok (.lstore 6, 2) := by decide +kernel
theorem d_Vol_faultOfRest_44 : decode b_Vol_faultOfRest 44 = .ok (.aload_n 1, 1) := by decide +kernel
theorem d_Vol_faultOfRest_45 : decode b_Vol_faultOfRest 45 = .ok (.sipush 224, 3) := by decide +kernel
theorem d_Vol_faultOfRest_48 : decode b_Vol_faultOfRest 48 = .ok (.iconst 4, 1) := by decide +kernel
theorem d_Vol_faultOfRest_49 : decode b_Vol_faultOfRest 49 = .ok (.invokevirtual 9, 3) := by decide +kernel
theorem d_Vol_faultOfRest_52 : decode b_Vol_faultOfRest 52 = .ok (.lload 4, 2) := by decide +kernel
theorem d_Vol_faultOfRest_54 : decode b_Vol_faultOfRest 54 = .ok (.lcmp, 1) := by decide +kernel
theorem d_Vol_faultOfRest_55 : decode b_Vol_faultOfRest 55 = .ok (.ifCond .eq 7, 3) := by decide +kernel
theorem d_Vol_faultOfRest_58 : decode b_Vol_faultOfRest 58 = .ok (.sipush 224, 3) := by decide +kernel
theorem d_Vol_faultOfRest_61 : decode b_Vol_faultOfRest 61 = .ok (.ireturn, 1) := by decide +kernel
theorem d_Vol_faultOfRest_62 : decode b_Vol_faultOfRest 62 = .ok (.aload_n 1, 1) := by decide +kernel
theorem d_Vol_faultOfRest_63 : decode b_Vol_faultOfRest 63 = .ok (.sipush 232, 3) := by decide +kernel
theorem d_Vol_faultOfRest_66 : decode b_Vol_faultOfRest 66 = .ok (.iconst 4, 1) := by decide +kernel
theorem d_Vol_faultOfRest_67 : decode b_Vol_faultOfRest 67 = .ok (.invokevirtual 9, 3) := by decide +kernel
theorem d_Vol_faultOfRest_70 : decode b_Vol_faultOfRest 70 = .ok (.aload_n 0, 1) := by decide +kernel
theorem d_Vol_faultOfRest_71 : decode b_Vol_faultOfRest 71 = .ok (.getfield 15, 3) := by decide +kernel
theorem d_Vol_faultOfRest_74 : decode b_Vol_faultOfRest 74 = .ok (.lcmp, 1) := by decide +kernel
theorem d_Vol_faultOfRest_75 : decode b_Vol_faultOfRest 75 = .ok (.ifCond .le 7, 3) := by decide +kernel
theorem d_Vol_faultOfRest_78 : decode b_Vol_faultOfRest 78 = .ok (.sipush 232, 3) := by decide +kernel
theorem d_Vol_faultOfRest_81 : decode b_Vol_faultOfRest 81 = .ok (.ireturn, 1) := by decide +kernel
theorem d_Vol_faultOfRest_82 : decode b_Vol_faultOfRest 82 = .ok (.aload_n 1, 1) := by decide +kernel
theorem d_Vol_faultOfRest_83 : decode b_Vol_faultOfRest 83 = .ok (.sipush 252, 3) := by decide +kernel
theorem d_Vol_faultOfRest_86 : decode b_Vol_faultOfRest 86 = .ok (.iconst 1, 1) := by decide +kernel
theorem d_Vol_faultOfRest_87 : decode b_Vol_faultOfRest 87 = .ok (.invokevirtual 9, 3) := by decide +kernel
theorem d_Vol_faultOfRest_90 : decode b_Vol_faultOfRest 90 = .ok (.lload 6, 2) := by decide +kernel
theorem d_Vol_faultOfRest_92 : decode b_Vol_faultOfRest 92 = .ok (.lcmp, 1) := by decide +kernel
theorem d_Vol_faultOfRest_93 : decode b_Vol_faultOfRest 93 = .ok (.ifCond .eq 7, 3) := by decide +kernel
theorem d_Vol_faultOfRest_96 : decode b_Vol_faultOfRest 96 = .ok (.sipush 252, 3) := by decide +kernel
theorem d_Vol_faultOfRest_99 : decode b_Vol_faultOfRest 99 = .ok (.ireturn, 1) := by decide +kernel
theorem d_Vol_faultOfRest_100 : decode b_Vol_faultOfRest 100 = .ok (.aload_n 1, 1) := by decide +kernel
theorem d_Vol_faultOfRest_101 : decode b_Vol_faultOfRest 101 = .ok (.sipush 254, 3) := by decide +kernel
theorem d_Vol_faultOfRest_104 : decode b_Vol_faultOfRest 104 = .ok (.iconst 2, 1) := by decide +kernel
theorem d_Vol_faultOfRest_105 : decode b_Vol_faultOfRest 105 = .ok (.invokevirtual 9, 3) := by decide +kernel
theorem d_Vol_faultOfRest_108 : decode b_Vol_faultOfRest 108 = .ok (.lconst 0, 1) := by decide +kernel
theorem d_Vol_faultOfRest_109 : decode b_Vol_faultOfRest 109 = .ok (.lcmp, 1) := by decide +kernel
theorem d_Vol_faultOfRest_110 : decode b_Vol_faultOfRest 110 = .ok (.ifCond .ne 8, 3) := by decide +kernel
theorem d_Vol_faultOfRest_113 : decode b_Vol_faultOfRest 113 = .ok (.bipush (-2), 2) := by decide +kernel
theorem d_Vol_faultOfRest_115 : decode b_Vol_faultOfRest 115 = .ok (.goto 6, 3) := by decide +kernel
theorem d_Vol_faultOfRest_118 : decode b_Vol_faultOfRest 118 = .ok (.sipush 254, 3) := by decide +kernel
theorem d_Vol_faultOfRest_121 : decode b_Vol_faultOfRest 121 = .ok (.ireturn, 1) := by decide +kernel
end
section
theorem d_Mo_init_0 : decode b_Mo_init 0 = .ok (.aload_n 0, 1) := by decide +kernel
theorem d_Mo_init_1 : decode b_Mo_init 1 = .ok (.invokespecial 1, 3) := by decide +kernel
theorem d_Mo_init_4 : decode b_Mo_init 4 = .ok (.aload_n 0, 1) := by decide +kernel
theorem d_Mo_init_5 : decode b_Mo_init 5 = .ok (.sipush 1024, 3) := by decide +kernel
theorem d_Mo_init_8 : decode b_Mo_init 8 = .ok (.newarray .int, 2) := by decide +kernel
theorem d_Mo_init_10 : decode b_Mo_init 10 = .ok (.putfield 7, 3) := by decide +kernel
theorem d_Mo_init_13 : decode b_Mo_init 13 = .ok (.aload_n 0, 1) := by decide +kernel
theorem d_Mo_init_14 : decode b_Mo_init 14 = .ok (.sipush 1024, 3) := by decide +kernel
theorem d_Mo_init_17 : decode b_Mo_init 17 = .ok (.newarray .int, 2) := by decide +kernel
theorem d_Mo_init_19 : decode b_Mo_init 19 = .ok (.putfield 13, 3) := by decide +kernel
theorem d_Mo_init_22 : decode b_Mo_init 22 = .ok (.aload_n 0, 1) := by decide +kernel
theorem d_Mo_init_23 : decode b_Mo_init 23 = .ok (.sipush 1024, 3) := by decide +kernel
theorem d_Mo_init_26 : decode b_Mo_init 26 = .ok (.newarray .int, 2) := by decide +kernel
theorem d_Mo_init_28 : decode b_Mo_init 28 = .ok (.putfield 16, 3) := by decide +kernel
theorem d_Mo_init_31 : decode b_Mo_init 31 = .ok (.aload_n 0, 1) := by decide +kernel
theorem d_Mo_init_32 : decode b_Mo_init 32 = .ok (.sipush 1024, 3) := by decide +kernel
theorem d_Mo_init_35 : decode b_Mo_init 35 = .ok (.sipush 256, 3) := by decide +kernel
theorem d_Mo_init_38 : decode b_Mo_init 38 = .ok (.sipush 128, 3) := by decide +kernel
theorem d_Mo_init_41 : decode b_Mo_init 41 = .ok (.sipush 256, 3) := by decide +kernel
theorem d_Mo_init_44 : decode b_Mo_init 44 = .ok (.iconst 2, 1) := by decide +kernel
theorem d_Mo_init_45 : decode b_Mo_init 45 = .ok (.invokevirtual 19, 3) := by decide +kernel
theorem d_Mo_init_48 : decode b_Mo_init 48 = .ok (.istore_n 1, 1) := by decide +kernel
theorem d_Mo_init_49 : decode b_Mo_init 49 = .ok (.return_, 1) := by decide +kernel
theorem d_Mo_rowOf_0 : decode b_Mo_rowOf 0 = .ok (.iload_n 1, 1) := by decide +kernel
theorem d_Mo_rowOf_1 : decode b_Mo_rowOf 1 = .ok (.ifCond .ne 10, 3) := by decide +kernel
theorem d_Mo_rowOf_4 : decode b_Mo_rowOf 4 = .ok (.aload_n 0, 1) := by decide +kernel
theorem d_Mo_rowOf_5 : decode b_Mo_rowOf 5 = .ok (.getfield 7, 3) := by decide +kernel
theorem d_Mo_rowOf_8 : decode b_Mo_rowOf 8 = .ok (.goto 7, 3) := by decide +kernel
theorem d_Mo_rowOf_11 : decode b_Mo_rowOf 11 = .ok (.aload_n 0, 1) := by decide +kernel
theorem d_Mo_rowOf_12 : decode b_Mo_rowOf 12 = .ok (.getfield 13, 3) := by decide +kernel
theorem d_Mo_rowOf_15 : decode b_Mo_rowOf 15 = .ok (.areturn, 1) := by decide +kernel
theorem d_Mo_isRow_0 : decode b_Mo_isRow 0 = .ok (.iload_n 0, 1) := by decide +kernel
theorem d_Mo_isRow_1 : decode b_Mo_isRow 1 = .ok (.ifCond .eq 8, 3) := by decide +kernel
theorem d_Mo_isRow_4 : decode b_Mo_isRow 4 = .ok (.iload_n 0, 1) := by decide +kernel
theorem d_Mo_isRow_5 : decode b_Mo_isRow 5 = .ok (.iconst 1, 1) := by decide +kernel
theorem d_Mo_isRow_6 : decode b_Mo_isRow 6 = .ok (.if_icmp .ne 7, 3) := by decide +kernel
theorem d_Mo_isRow_9 : decode b_Mo_isRow 9 = .ok (.iconst 1, 1) := by decide +kernel
theorem d_Mo_isRow_10 : decode b_Mo_isRow 10 = .ok (.goto 4, 3) := by decide +kernel
theorem d_Mo_isRow_13 : decode b_Mo_isRow 13 = .ok (.iconst 0, 1) := by decide +kernel
theorem d_Mo_isRow_14 : decode b_Mo_isRow 14 = .ok (.ireturn, 1) := by decide +kernel
theorem d_Mo_field_0 : decode b_Mo_field 0 = .ok (.lconst 0, 1) := by decide +kernel
theorem d_Mo_field_1 : decode b_Mo_field 1 = .ok (.lstore_n 3, 1) := by decide +kernel
theorem d_Mo_field_2 : decode b_Mo_field 2 = .ok (.iload_n 2, 1) := by decide +kernel
theorem d_Mo_field_3 : decode b_Mo_field 3 = .ok (.iconst 1, 1) := by decide +kernel
theorem d_Mo_field_4 : decode b_Mo_field 4 = .ok (.isub, 1) := by decide +kernel
theorem d_Mo_field_5 : decode b_Mo_field 5 = .ok (.istore 5, 2) := by decide +kernel
theorem d_Mo_field_7 : decode b_Mo_field 7 = .ok (.iload 5, 2) := by decide +kernel
theorem d_Mo_field_9 : decode b_Mo_field 9 = .ok (.ifCond .lt 23, 3) := by decide +kernel
theorem d_Mo_field_12 : decode b_Mo_field 12 = .ok (.ldc2_w 23, 3) := by decide +kernel
theorem d_Mo_field_15 : decode b_Mo_field 15 = .ok (.lload_n 3, 1) := by decide +kernel
theorem d_Mo_field_16 : decode b_Mo_field 16 = .ok (.lmul, 1) := by decide +kernel
theorem d_Mo_field_17 : decode b_Mo_field 17 = .ok (.aload_n 0, 1) := by decide +kernel
theorem d_Mo_field_18 : decode b_Mo_field 18 = .ok (.iload_n 1, 1) := by decide +kernel
theorem d_Mo_field_19 : decode b_Mo_field 19 = .ok (.iload 5, 2) := by decide +kernel
theorem d_Mo_field_21 : decode b_Mo_field 21 = .ok (.iadd, 1) := by decide +kernel
theorem d_Mo_field_22 : decode b_Mo_field 22 = .ok (.iaload, 1) := by decide +kernel
theorem d_Mo_field_23 : decode b_Mo_field 23 = .ok (.i2l, 1) := by decide +kernel
theorem d_Mo_field_24 : decode b_Mo_field 24 = .ok (.ladd, 1) := by decide +kernel
theorem d_Mo_field_25 : decode b_Mo_field 25 = .ok (.lstore_n 3, 1) := by decide +kernel
theorem d_Mo_field_26 : decode b_Mo_field 26 = .ok (.iinc 5 (-1), 3) := by decide +kernel
theorem d_Mo_field_29 : decode b_Mo_field 29 = .ok (.goto (-22), 3) := by decide +kernel
theorem d_Mo_field_32 : decode b_Mo_field 32 = .ok (.lload_n 3, 1) := by decide +kernel
theorem d_Mo_field_33 : decode b_Mo_field 33 = .ok (.lreturn, 1) := by decide +kernel
theorem d_Mo_set_0 : decode b_Mo_set 0 = .ok (.iconst 0, 1) := by decide +kernel
theorem d_Mo_set_1 : decode b_Mo_set 1 = .ok (.istore 5, 2) := by decide +kernel
theorem d_Mo_set_3 : decode b_Mo_set 3 = .ok (.iload 5, 2) := by decide +kernel
theorem d_Mo_set_5 : decode b_Mo_set 5 = .ok (.iload_n 2, 1) := by decide +kernel
theorem d_Mo_set_6 : decode b_Mo_set 6 = .ok (.if_icmp .ge 27, 3) := by decide +kernel
theorem d_Mo_set_9 : decode b_Mo_set 9 = .ok (.aload_n 0, 1) := by decide +kernel
theorem d_Mo_set_10 : decode b_Mo_set 10 = .ok (.iload_n 1, 1) := by decide +kernel
theorem d_Mo_set_11 : decode b_Mo_set 11 = .ok (.iload 5, 2) := by decide +kernel
theorem d_Mo_set_13 : decode b_Mo_set 13 = .ok (.iadd, 1) := by decide +kernel
theorem d_Mo_set_14 : decode b_Mo_set 14 = .ok (.lload_n 3, 1) := by decide +kernel
theorem d_Mo_set_15 : decode b_Mo_set 15 = .ok (.bipush 8, 2) := by decide +kernel
theorem d_Mo_set_17 : decode b_Mo_set 17 = .ok (.iload 5, 2) := by decide +kernel
theorem d_Mo_set_19 : decode b_Mo_set 19 = .ok (.imul, 1) := by decide +kernel
theorem d_Mo_set_20 : decode b_Mo_set 20 = .ok (.lshr, 1) := by decide +kernel
theorem d_Mo_set_21 : decode b_Mo_set 21 = .ok (.ldc2_w 25, 3) := by decide +kernel
theorem d_Mo_set_24 : decode b_Mo_set 24 = .ok (.land, 1) := by decide +kernel
theorem d_Mo_set_25 : decode b_Mo_set 25 = .ok (.l2i, 1) := by decide +kernel
theorem d_Mo_set_26 : decode b_Mo_set 26 = .ok (.iastore, 1) := by decide +kernel
theorem d_Mo_set_27 : decode b_Mo_set 27 = .ok (.iinc 5 1, 3) := by decide +kernel
theorem d_Mo_set_30 : decode b_Mo_set 30 = .ok (.goto (-27), 3) := by decide +kernel
theorem d_Mo_set_33 : decode b_Mo_set 33 = .ok (.return_, 1) := by decide +kernel
theorem d_Mo_has_0 : decode b_Mo_has 0 = .ok (.aload_n 0, 1) := by decide +kernel
theorem d_Mo_has_1 : decode b_Mo_has 1 = .ok (.iload_n 1, 1) := by decide +kernel
theorem d_Mo_has_2 : decode b_Mo_has 2 = .ok (.iconst 4, 1) := by decide +kernel
theorem d_Mo_has_3 : decode b_Mo_has 3 = .ok (.invokestatic 27, 3) := by decide +kernel
theorem d_Mo_has_6 : decode b_Mo_has 6 = .ok (.iload_n 2, 1) := by decide +kernel
theorem d_Mo_has_7 : decode b_Mo_has 7 = .ok (.lshr, 1) := by decide +kernel
theorem d_Mo_has_8 : decode b_Mo_has 8 = .ok (.lconst 1, 1) := by decide +kernel
theorem d_Mo_has_9 : decode b_Mo_has 9 = .ok (.land, 1) := by decide +kernel
theorem d_Mo_has_10 : decode b_Mo_has 10 = .ok (.lconst 1, 1) := by decide +kernel
theorem d_Mo_has_11 : decode b_Mo_has 11 = .ok (.lcmp, 1) := by decide +kernel
theorem d_Mo_has_12 : decode b_Mo_has 12 = .ok (.ifCond .ne 7, 3) := by decide +kernel
theorem d_Mo_has_15 : decode b_Mo_has 15 = .ok (.iconst 1, 1) := by decide +kernel
theorem d_Mo_has_16 : decode b_Mo_has 16 = .ok (.goto 4, 3) := by decide +kernel
theorem d_Mo_has_19 : decode b_Mo_has 19 = .ok (.iconst 0, 1) := by decide +kernel
theorem d_Mo_has_20 : decode b_Mo_has 20 = .ok (.ireturn, 1) := by decide +kernel
theorem d_Mo_up_0 : decode b_Mo_up 0 = .ok (.lload_n 0, 1) := by decide +kernel
theorem d_Mo_up_1 : decode b_Mo_up 1 = .ok (.lload_n 2, 1) := by decide +kernel
theorem d_Mo_up_2 : decode b_Mo_up 2 = .ok (.ladd, 1) := by decide +kernel
theorem d_Mo_up_3 : decode b_Mo_up 3 = .ok (.lconst 1, 1) := by decide +kernel
theorem d_Mo_up_4 : decode b_Mo_up 4 = .ok (.lsub, 1) := by decide +kernel
theorem d_Mo_up_5 : decode b_Mo_up 5 = .ok (.lload_n 2, 1) := by decide +kernel
theorem d_Mo_up_6 : decode b_Mo_up 6 = .ok (.ldiv, 1) := by decide +kernel
theorem d_Mo_up_7 : decode b_Mo_up 7 = .ok (.lreturn, 1) := by decide +kernel
theorem d_Mo_sizeOf_0 : decode b_Mo_sizeOf 0 = .ok (.ldc2_w 31, 3) := by decide +kernel
theorem d_Mo_sizeOf_3 : decode b_Mo_sizeOf 3 = .ok (.aload_n 0, 1) := by decide +kernel
theorem d_Mo_sizeOf_4 : decode b_Mo_sizeOf 4 = .ok (.bipush 24, 2) := by decide +kernel
theorem d_Mo_sizeOf_6 : decode b_Mo_sizeOf 6 = .ok (.iconst 4, 1) := by decide +kernel
theorem d_Mo_sizeOf_7 : decode b_Mo_sizeOf 7 = .ok (.invokestatic 27, 3) := by decide +kernel
theorem d_Mo_sizeOf_10 : decode b_Mo_sizeOf 10 = .ok (.l2i, 1) := by decide +kernel
theorem d_Mo_sizeOf_11 : decode b_Mo_sizeOf 11 = .ok (.lshl, 1) := by decide +kernel
theorem d_Mo_sizeOf_12 : decode b_Mo_sizeOf 12 = .ok (.lreturn, 1) := by decide +kernel
theorem d_Mo_groupsOf_0 : decode b_Mo_groupsOf 0 = .ok (.aload_n 0, 1) := by decide +kernel
theorem d_Mo_groupsOf_1 : decode b_Mo_groupsOf 1 = .ok (.iconst 4, 1) := by decide +kernel
theorem d_Mo_groupsOf_2 : decode b_Mo_groupsOf 2 = .ok (.iconst 4, 1) := by decide +kernel
theorem d_Mo_groupsOf_3 : decode b_Mo_groupsOf 3 = .ok (.invokestatic 27, 3) := by decide +kernel
theorem d_Mo_groupsOf_6 : decode b_Mo_groupsOf 6 = .ok (.aload_n 0, 1) := by decide +kernel
theorem d_Mo_groupsOf_7 : decode b_Mo_groupsOf 7 = .ok (.bipush 20, 2) := by decide +kernel
theorem d_Mo_groupsOf_9 : decode b_Mo_groupsOf 9 = .ok (.iconst 4, 1) := by decide +kernel
theorem d_Mo_groupsOf_10 : decode b_Mo_groupsOf 10 = .ok (.invokestatic 27, 3) := by decide +kernel
theorem d_Mo_groupsOf_13 : decode b_Mo_groupsOf 13 = .ok (.lsub, 1) := by decide +kernel
theorem d_Mo_groupsOf_14 : decode b_Mo_groupsOf 14 = .ok (.aload_n 0, 1) := by decide +kernel
theorem d_Mo_groupsOf_15 : decode b_Mo_groupsOf 15 = .ok (.bipush 32, 2) := by decide +kernel
theorem d_Mo_groupsOf_17 : decode b_Mo_groupsOf 17 = .ok (.iconst 4, 1) := by decide +kernel
theorem d_Mo_groupsOf_18 : decode b_Mo_groupsOf 18 = .ok (.invokestatic 27, 3) := by decide +kernel
theorem d_Mo_groupsOf_21 : decode b_Mo_groupsOf 21 = .ok (.invokestatic 33, 3) := by decide +kernel
theorem d_Mo_groupsOf_24 : decode b_Mo_groupsOf 24 = .ok (.lreturn, 1) := by decide +kernel
theorem d_Mo_isPower_0 : decode b_Mo_isPower 0 = .ok (.lconst 1, 1) := by decide +kernel
theorem d_Mo_isPower_1 : decode b_Mo_isPower 1 = .ok (.lstore 4, 2) := by decide +kernel
theorem d_Mo_isPower_3 : decode b_Mo_isPower 3 = .ok (.lload 4, 2) := by decide +kernel
theorem d_Mo_isPower_5 : decode b_Mo_isPower 5 = .ok (.lload_n 0, 1) := by decide +kernel
theorem d_Mo_isPower_6 : decode b_Mo_isPower 6 = .ok (.lcmp, 1) := by decide +kernel
theorem d_Mo_isPower_7 : decode b_Mo_isPower 7 = .ok (.ifCond .ge 12, 3) := by decide +kernel
theorem d_Mo_isPower_10 : decode b_Mo_isPower 10 = .ok (.lload 4, 2) := by decide +kernel
theorem d_Mo_isPower_12 : decode b_Mo_isPower 12 = .ok (.lload_n 2, 1) := by decide +kernel
theorem d_Mo_isPower_13 : decode b_Mo_isPower 13 = .ok (.lmul, 1) := by decide +kernel
theorem d_Mo_isPower_14 : decode b_Mo_isPower 14 = .ok (.lstore 4, 2) := by decide +kernel
theorem d_Mo_isPower_16 : decode b_Mo_isPower 16 = .ok (.goto (-13), 3) := by decide +kernel
theorem d_Mo_isPower_19 : decode b_Mo_isPower 19 = .ok (.lload 4, 2) := by decide +kernel
theorem d_Mo_isPower_21 : decode b_Mo_isPower 21 = .ok (.lload_n 0, 1) := by decide +kernel
theorem d_Mo_isPower_22 : decode b_Mo_isPower 22 = .ok (.lcmp, 1) := by decide +kernel
theorem d_Mo_isPower_23 : decode b_Mo_isPower 23 = .ok (.ifCond .ne 7, 3) := by decide +kernel
theorem d_Mo_isPower_26 : decode b_Mo_isPower 26 = .ok (.iconst 1, 1) := by decide +kernel
theorem d_Mo_isPower_27 : decode b_Mo_isPower 27 = .ok (.goto 4, 3) := by decide +kernel
theorem d_Mo_isPower_30 : decode b_Mo_isPower 30 = .ok (.iconst 0, 1) := by decide +kernel
theorem d_Mo_isPower_31 : decode b_Mo_isPower 31 = .ok (.ireturn, 1) := by decide +kernel
theorem d_Mo_hasCopy_0 : decode b_Mo_hasCopy 0 = .ok (.aload_n 0, 1) := by decide +kernel
theorem d_Mo_hasCopy_1 : decode b_Mo_hasCopy 1 = .ok (.bipush 100, 2) := by decide +kernel
theorem d_Mo_hasCopy_3 : decode b_Mo_hasCopy 3 = .ok (.iconst 0, 1) := by decide +kernel
theorem d_Mo_hasCopy_4 : decode b_Mo_hasCopy 4 = .ok (.invokestatic 37, 3) := by decide +kernel
theorem d_Mo_hasCopy_7 : decode b_Mo_hasCopy 7 = .ok (.ifCond .eq 41, 3) := by decide +kernel
theorem d_Mo_hasCopy_10 : decode b_Mo_hasCopy 10 = .ok (.lload_n 1, 1) := by decide +kernel
theorem d_Mo_hasCopy_11 : decode b_Mo_hasCopy 11 = .ok (.ldc2_w 41, 3) := by decide +kernel
theorem d_Mo_hasCopy_14 : decode b_Mo_hasCopy 14 = .ok (.lcmp, 1) := by decide +kernel
theorem d_Mo_hasCopy_15 : decode b_Mo_hasCopy 15 = .ok (.ifCond .lt 33, 3) := by decide +kernel
theorem d_Mo_hasCopy_18 : decode b_Mo_hasCopy 18 = .ok (.lload_n 1, 1) := by decide +kernel
theorem d_Mo_hasCopy_19 : decode b_Mo_hasCopy 19 = .ok (.ldc2_w 43, 3) := by decide +kernel
theorem d_Mo_hasCopy_22 : decode b_Mo_hasCopy 22 = .ok (.invokestatic 45, 3) := by decide +kernel
theorem d_Mo_hasCopy_25 : decode b_Mo_hasCopy 25 = .ok (.ifCond .ne 23, 3) := by decide +kernel
theorem d_Mo_hasCopy_28 : decode b_Mo_hasCopy 28 = .ok (.lload_n 1, 1) := by decide +kernel
theorem d_Mo_hasCopy_29 : decode b_Mo_hasCopy 29 = .ok (.ldc2_w 49, 3) := by decide +kernel
theorem d_Mo_hasCopy_32 : decode b_Mo_hasCopy 32 = .ok (.invokestatic 45, 3) := by decide +kernel
theorem d_Mo_hasCopy_35 : decode b_Mo_hasCopy 35 = .ok (.ifCond .ne 13, 3) := by decide +kernel
theorem d_Mo_hasCopy_38 : decode b_Mo_hasCopy 38 = .ok (.lload_n 1, 1) := by decide +kernel
theorem d_Mo_hasCopy_39 : decode b_Mo_hasCopy 39 = .ok (.ldc2_w 51, 3) := by decide +kernel
theorem d_Mo_hasCopy_42 : decode b_Mo_hasCopy 42 = .ok (.invokestatic 45, 3) := by decide +kernel
theorem d_Mo_hasCopy_45 : decode b_Mo_hasCopy 45 = .ok (.ifCond .eq 7, 3) := by decide +kernel
theorem d_Mo_hasCopy_48 : decode b_Mo_hasCopy 48 = .ok (.iconst 1, 1) := by decide +kernel
theorem d_Mo_hasCopy_49 : decode b_Mo_hasCopy 49 = .ok (.goto 4, 3) := by decide +kernel
theorem d_Mo_hasCopy_52 : decode b_Mo_hasCopy 52 = .ok (.iconst 0, 1) := by decide +kernel
theorem d_Mo_hasCopy_53 : decode b_Mo_hasCopy 53 = .ok (.ireturn, 1) := by decide +kernel
theorem d_Mo_beginOf_0 : decode b_Mo_beginOf 0 = .ok (.aload_n 0, 1) := by decide +kernel
theorem d_Mo_beginOf_1 : decode b_Mo_beginOf 1 = .ok (.bipush 20, 2) := by decide +kernel
theorem d_Mo_beginOf_3 : decode b_Mo_beginOf 3 = .ok (.iconst 4, 1) := by decide +kernel
theorem d_Mo_beginOf_4 : decode b_Mo_beginOf 4 = .ok (.invokestatic 27, 3) := by decide +kernel
theorem d_Mo_beginOf_7 : decode b_Mo_beginOf 7 = .ok (.lload_n 1, 1) := by decide +kernel
theorem d_Mo_beginOf_8 : decode b_Mo_beginOf 8 = .ok (.aload_n 0, 1) := by decide +kernel
theorem d_Mo_beginOf_9 : decode b_Mo_beginOf 9 = .ok (.bipush 32, 2) := by decide +kernel
theorem d_Mo_beginOf_11 : decode b_Mo_beginOf 11 = .ok (.iconst 4, 1) := by decide +kernel
theorem d_Mo_beginOf_12 : decode b_Mo_beginOf 12 = .ok (.invokestatic 27, 3) := by decide +kernel
theorem d_Mo_beginOf_15 : decode b_Mo_beginOf 15 = .ok (.lmul, 1) := by decide +kernel
theorem d_Mo_beginOf_16 : decode b_Mo_beginOf 16 = .ok (.ladd, 1) := by decide +kernel
theorem d_Mo_beginOf_17 : decode b_Mo_beginOf 17 = .ok (.lreturn, 1) := by decide +kernel
theorem d_Mo_blocksOf_0 : decode b_Mo_blocksOf 0 = .ok (.aload_n 0, 1) := by decide +kernel
theorem d_Mo_blocksOf_1 : decode b_Mo_blocksOf 1 = .ok (.iconst 4, 1) := by decide +kernel
theorem d_Mo_blocksOf_2 : decode b_Mo_blocksOf 2 = .ok (.iconst 4, 1) := by decide +kernel
theorem d_Mo_blocksOf_3 : decode b_Mo_blocksOf 3 = .ok (.invokestatic 27, 3) := by decide +kernel
theorem d_Mo_blocksOf_6 : decode b_Mo_blocksOf 6 = .ok (.aload_n 0, 1) := by decide +kernel
theorem d_Mo_blocksOf_7 : decode b_Mo_blocksOf 7 = .ok (.lload_n 1, 1) := by decide +kernel
theorem d_Mo_blocksOf_8 : decode b_Mo_blocksOf 8 = .ok (.invokestatic 53, 3) := by decide +kernel
theorem d_Mo_blocksOf_11 : decode b_Mo_blocksOf 11 = .ok (.lsub, 1) := by decide +kernel
theorem d_Mo_blocksOf_12 : decode b_Mo_blocksOf 12 = .ok (.lstore_n 3, 1) := by decide +kernel
theorem d_Mo_blocksOf_13 : decode b_Mo_blocksOf 13 = .ok (.lload_n 3, 1) := by decide +kernel
theorem d_Mo_blocksOf_14 : decode b_Mo_blocksOf 14 = .ok (.aload_n 0, 1) := by decide +kernel
theorem d_Mo_blocksOf_15 : decode b_Mo_blocksOf 15 = .ok (.bipush 32, 2) := by decide +kernel
theorem d_Mo_blocksOf_17 : decode b_Mo_blocksOf 17 = .ok (.iconst 4, 1) := by decide +kernel
theorem d_Mo_blocksOf_18 : decode b_Mo_blocksOf 18 = .ok (.invokestatic 27, 3) := by decide +kernel
theorem d_Mo_blocksOf_21 : decode b_Mo_blocksOf 21 = .ok (.lcmp, 1) := by decide +kernel
theorem d_Mo_blocksOf_22 : decode b_Mo_blocksOf 22 = .ok (.ifCond .ge 7, 3) := by decide +kernel
theorem d_Mo_blocksOf_25 : decode b_Mo_blocksOf 25 = .ok (.lload_n 3, 1) := by decide +kernel
theorem d_Mo_blocksOf_26 : decode b_Mo_blocksOf 26 = .ok (.goto 10, 3) := by decide +kernel
theorem d_Mo_blocksOf_29 : decode b_Mo_blocksOf 29 = .ok (.aload_n 0, 1) := by decide +kernel
theorem d_Mo_blocksOf_30 : decode b_Mo_blocksOf 30 = .ok (.bipush 32, 2) := by decide +kernel
theorem d_Mo_blocksOf_32 : decode b_Mo_blocksOf 32 = .ok (.iconst 4, 1) := by decide +kernel
theorem d_Mo_blocksOf_33 : decode b_Mo_blocksOf 33 = .ok (.invokestatic 27, 3) := by decide +kernel
theorem d_Mo_blocksOf_36 : decode b_Mo_blocksOf 36 = .ok (.lreturn, 1) := by decide +kernel
theorem d_Mo_headOf_0 : decode b_Mo_headOf 0 = .ok (.aload_n 0, 1) := by decide +kernel
theorem d_Mo_headOf_1 : decode b_Mo_headOf 1 = .ok (.lload_n 1, 1) := by decide +kernel
theorem d_Mo_headOf_2 : decode b_Mo_headOf 2 = .ok (.invokestatic 57, 3) := by decide +kernel
theorem d_Mo_headOf_5 : decode b_Mo_headOf 5 = .ok (.ifCond .eq 23, 3) := by decide +kernel
theorem d_Mo_headOf_8 : decode b_Mo_headOf 8 = .ok (.lconst 1, 1) := by decide +kernel
theorem d_Mo_headOf_9 : decode b_Mo_headOf 9 = .ok (.ldc2_w 61, 3) := by decide +kernel
theorem d_Mo_headOf_12 : decode b_Mo_headOf 12 = .ok (.aload_n 0, 1) := by decide +kernel
theorem d_Mo_headOf_13 : decode b_Mo_headOf 13 = .ok (.invokestatic 63, 3) := by decide +kernel
theorem d_Mo_headOf_16 : decode b_Mo_headOf 16 = .ok (.lmul, 1) := by decide +kernel
theorem d_Mo_headOf_17 : decode b_Mo_headOf 17 = .ok (.aload_n 0, 1) := by decide +kernel
theorem d_Mo_headOf_18 : decode b_Mo_headOf 18 = .ok (.invokestatic 67, 3) := by decide +kernel
theorem d_Mo_headOf_21 : decode b_Mo_headOf 21 = .ok (.invokestatic 33, 3) := by decide +kernel
theorem d_Mo_headOf_24 : decode b_Mo_headOf 24 = .ok (.ladd, 1) := by decide +kernel
theorem d_Mo_headOf_25 : decode b_Mo_headOf 25 = .ok (.goto 4, 3) := by decide +kernel
theorem d_Mo_headOf_28 : decode b_Mo_headOf 28 = .ok (.lconst 0, 1) := by decide +kernel
theorem d_Mo_headOf_29 : decode b_Mo_headOf 29 = .ok (.lreturn, 1) := by decide +kernel
theorem d_Mo_recordBlocks_0 : decode b_Mo_recordBlocks 0 = .ok (.aload_n 0, 1) := by decide +kernel
theorem d_Mo_recordBlocks_1 : decode b_Mo_recordBlocks 1 = .ok (.bipush 40, 2) := by decide +kernel
theorem d_Mo_recordBlocks_3 : decode b_Mo_recordBlocks 3 = .ok (.iconst 4, 1) := by decide +kernel
theorem d_Mo_recordBlocks_4 : decode b_Mo_recordBlocks 4 = .ok (.invokestatic 27, 3) := by decide +kernel
theorem d_Mo_recordBlocks_7 : decode b_Mo_recordBlocks 7 = .ok (.aload_n 0, 1) := by decide +kernel
theorem d_Mo_recordBlocks_8 : decode b_Mo_recordBlocks 8 = .ok (.bipush 88, 2) := by decide +kernel
theorem d_Mo_recordBlocks_10 : decode b_Mo_recordBlocks 10 = .ok (.iconst 2, 1) := by decide +kernel
theorem d_Mo_recordBlocks_11 : decode b_Mo_recordBlocks 11 = .ok (.invokestatic 27, 3) := by decide +kernel
theorem d_Mo_recordBlocks_14 : decode b_Mo_recordBlocks 14 = .ok (.lmul, 1) := by decide +kernel
theorem d_Mo_recordBlocks_15 : decode b_Mo_recordBlocks 15 = .ok (.aload_n 0, 1) := by decide +kernel
theorem d_Mo_recordBlocks_16 : decode b_Mo_recordBlocks 16 = .ok (.invokestatic 67, 3) := by decide +kernel
theorem d_Mo_recordBlocks_19 : decode b_Mo_recordBlocks 19 = .ok (.invokestatic 33, 3) := by decide +kernel
theorem d_Mo_recordBlocks_22 : decode b_Mo_recordBlocks 22 = .ok (.lreturn, 1) := by decide +kernel
theorem d_Mo_fixedOf_0 : decode b_Mo_fixedOf 0 = .ok (.aload_n 0, 1) := by decide +kernel
theorem d_Mo_fixedOf_1 : decode b_Mo_fixedOf 1 = .ok (.lload_n 1, 1) := by decide +kernel
theorem d_Mo_fixedOf_2 : decode b_Mo_fixedOf 2 = .ok (.invokestatic 70, 3) := by decide +kernel
theorem d_Mo_fixedOf_5 : decode b_Mo_fixedOf 5 = .ok (.ldc2_w 41, 3) := by decide +kernel
theorem d_Mo_fixedOf_8 : decode b_Mo_fixedOf 8 = .ok (.ladd, 1) := by decide +kernel
theorem d_Mo_fixedOf_9 : decode b_Mo_fixedOf 9 = .ok (.aload_n 0, 1) := by decide +kernel
theorem d_Mo_fixedOf_10 : decode b_Mo_fixedOf 10 = .ok (.invokestatic 73, 3) := by decide +kernel
theorem d_Mo_fixedOf_13 : decode b_Mo_fixedOf 13 = .ok (.ladd, 1) := by decide +kernel
theorem d_Mo_fixedOf_14 : decode b_Mo_fixedOf 14 = .ok (.lreturn, 1) := by decide +kernel
theorem d_Mo_isIn_0 : decode b_Mo_isIn 0 = .ok (.lload_n 0, 1) := by decide +kernel
theorem d_Mo_isIn_1 : decode b_Mo_isIn 1 = .ok (.lload_n 2, 1) := by decide +kernel
theorem d_Mo_isIn_2 : decode b_Mo_isIn 2 = .ok (.lcmp, 1) := by decide +kernel
theorem d_Mo_isIn_3 : decode b_Mo_isIn 3 = .ok (.ifCond .lt 14, 3) := by decide +kernel
theorem d_Mo_isIn_6 : decode b_Mo_isIn 6 = .ok (.lload_n 0, 1) := by decide +kernel
theorem d_Mo_isIn_7 : decode b_Mo_isIn 7 = .ok (.lload 4, 2) := by decide +kernel
theorem d_Mo_isIn_9 : decode b_Mo_isIn 9 = .ok (.lcmp, 1) := by decide +kernel
theorem d_Mo_isIn_10 : decode b_Mo_isIn 10 = .ok (.ifCond .gt 7, 3) := by decide +kernel
theorem d_Mo_isIn_13 : decode b_Mo_isIn 13 = .ok (.iconst 1, 1) := by decide +kernel
theorem d_Mo_isIn_14 : decode b_Mo_isIn 14 = .ok (.goto 4, 3) := by decide +kernel
theorem d_Mo_isIn_17 : decode b_Mo_isIn 17 = .ok (.iconst 0, 1) := by decide +kernel
theorem d_Mo_isIn_18 : decode b_Mo_isIn 18 = .ok (.ireturn, 1) := by decide +kernel
theorem d_Mo_faultOfSizes_0 : decode b_Mo_faultOfSizes 0 = .ok (.aload_n 0, 1) := by decide +kernel
theorem d_Mo_faultOfSizes_1 : decode b_Mo_faultOfSizes 1 = .ok (.bipush 56, 2) := by decide +kernel
theorem d_Mo_faultOfSizes_3 : decode b_Mo_faultOfSizes 3 = .ok (.iconst 2, 1) := by decide +kernel
theorem d_Mo_faultOfSizes_4 : decode b_Mo_faultOfSizes 4 = .ok (.invokestatic 27, 3) := by decide +kernel
theorem d_Mo_faultOfSizes_7 : decode b_Mo_faultOfSizes 7 = .ok (.ldc2_w 76, 3) := by decide +kernel
theorem d_Mo_faultOfSizes_10 : decode b_Mo_faultOfSizes 10 = .ok (.lcmp, 1) := by decide +kernel
theorem d_Mo_faultOfSizes_11 : decode b_Mo_faultOfSizes 11 = .ok (.ifCond .eq 6, 3) := by decide +kernel
theorem d_Mo_faultOfSizes_14 : decode b_Mo_faultOfSizes 14 = .ok (.bipush 56, 2) := by decide +kernel
theorem d_Mo_faultOfSizes_16 : decode b_Mo_faultOfSizes 16 = .ok (.ireturn, 1) := by decide +kernel
theorem d_Mo_faultOfSizes_17 : decode b_Mo_faultOfSizes 17 = .ok (.aload_n 0, 1) := by decide +kernel
theorem d_Mo_faultOfSizes_18 : decode b_Mo_faultOfSizes 18 = .ok (.bipush 76, 2) := by decide +kernel
theorem d_Mo_faultOfSizes_20 : decode b_Mo_faultOfSizes 20 = .ok (.iconst 4, 1) := by decide +kernel
theorem d_Mo_faultOfSizes_21 : decode b_Mo_faultOfSizes 21 = .ok (.invokestatic 27, 3) := by decide +kernel
theorem d_Mo_faultOfSizes_24 : decode b_Mo_faultOfSizes 24 = .ok (.lconst 1, 1) := by decide +kernel
theorem d_Mo_faultOfSizes_25 : decode b_Mo_faultOfSizes 25 = .ok (.lcmp, 1) := by decide +kernel
theorem d_Mo_faultOfSizes_26 : decode b_Mo_faultOfSizes 26 = .ok (.ifCond .eq 6, 3) := by decide +kernel
theorem d_Mo_faultOfSizes_29 : decode b_Mo_faultOfSizes 29 = .ok (.bipush 76, 2) := by decide +kernel
theorem d_Mo_faultOfSizes_31 : decode b_Mo_faultOfSizes 31 = .ok (.ireturn, 1) := by decide +kernel
theorem d_Mo_faultOfSizes_32 : decode b_Mo_faultOfSizes 32 = .ok (.aload_n 0, 1) := by decide +kernel
theorem d_Mo_faultOfSizes_33 : decode b_Mo_faultOfSizes 33 = .ok (.bipush 24, 2) := by decide +kernel
theorem d_Mo_faultOfSizes_35 : decode b_Mo_faultOfSizes 35 = .ok (.iconst 4, 1) := by decide +kernel
theorem d_Mo_faultOfSizes_36 : decode b_Mo_faultOfSizes 36 = .ok (.invokestatic 27, 3) := by decide +kernel
theorem d_Mo_faultOfSizes_39 : decode b_Mo_faultOfSizes 39 = .ok (.lstore_n 1, 1) := by decide +kernel
theorem d_Mo_faultOfSizes_40 : decode b_Mo_faultOfSizes 40 = .ok (.lload_n 1, 1) := by decide +kernel
theorem d_Mo_faultOfSizes_41 : decode b_Mo_faultOfSizes 41 = .ok (.ldc2_w 41, 3) := by decide +kernel
theorem d_Mo_faultOfSizes_44 : decode b_Mo_faultOfSizes 44 = .ok (.lcmp, 1) := by decide +kernel
theorem d_Mo_faultOfSizes_45 : decode b_Mo_faultOfSizes 45 = .ok (.ifCond .le 6, 3) := by decide +kernel
theorem d_Mo_faultOfSizes_48 : decode b_Mo_faultOfSizes 48 = .ok (.bipush 24, 2) := by decide +kernel
theorem d_Mo_faultOfSizes_50 : decode b_Mo_faultOfSizes 50 = .ok (.ireturn, 1) := by decide +kernel
theorem d_Mo_faultOfSizes_51 : decode b_Mo_faultOfSizes 51 = .ok (.aload_n 0, 1) := by decide +kernel
theorem d_Mo_faultOfSizes_52 : decode b_Mo_faultOfSizes 52 = .ok (.bipush 28, 2) := by decide +kernel
theorem d_Mo_faultOfSizes_54 : decode b_Mo_faultOfSizes 54 = .ok (.iconst 4, 1) := by decide +kernel
theorem d_Mo_faultOfSizes_55 : decode b_Mo_faultOfSizes 55 = .ok (.invokestatic 27, 3) := by decide +kernel
theorem d_Mo_faultOfSizes_58 : decode b_Mo_faultOfSizes 58 = .ok (.lload_n 1, 1) := by decide +kernel
theorem d_Mo_faultOfSizes_59 : decode b_Mo_faultOfSizes 59 = .ok (.lcmp, 1) := by decide +kernel
theorem d_Mo_faultOfSizes_60 : decode b_Mo_faultOfSizes 60 = .ok (.ifCond .eq 6, 3) := by decide +kernel
theorem d_Mo_faultOfSizes_63 : decode b_Mo_faultOfSizes 63 = .ok (.bipush 28, 2) := by decide +kernel
theorem d_Mo_faultOfSizes_65 : decode b_Mo_faultOfSizes 65 = .ok (.ireturn, 1) := by decide +kernel
theorem d_Mo_faultOfSizes_66 : decode b_Mo_faultOfSizes 66 = .ok (.aload_n 0, 1) := by decide +kernel
theorem d_Mo_faultOfSizes_67 : decode b_Mo_faultOfSizes 67 = .ok (.bipush 20, 2) := by decide +kernel
theorem d_Mo_faultOfSizes_69 : decode b_Mo_faultOfSizes 69 = .ok (.iconst 4, 1) := by decide +kernel
theorem d_Mo_faultOfSizes_70 : decode b_Mo_faultOfSizes 70 = .ok (.invokestatic 27, 3) := by decide +kernel
theorem d_Mo_faultOfSizes_73 : decode b_Mo_faultOfSizes 73 = .ok (.lload_n 1, 1) := by decide +kernel
theorem d_Mo_faultOfSizes_74 : decode b_Mo_faultOfSizes 74 = .ok (.lconst 0, 1) := by decide +kernel
theorem d_Mo_faultOfSizes_75 : decode b_Mo_faultOfSizes 75 = .ok (.lcmp, 1) := by decide +kernel
theorem d_Mo_faultOfSizes_76 : decode b_Mo_faultOfSizes 76 = .ok (.ifCond .ne 7, 3) := by decide +kernel
theorem d_Mo_faultOfSizes_79 : decode b_Mo_faultOfSizes 79 = .ok (.lconst 1, 1) := by decide +kernel
theorem d_Mo_faultOfSizes_80 : decode b_Mo_faultOfSizes 80 = .ok (.goto 4, 3) := by decide +kernel
theorem d_Mo_faultOfSizes_83 : decode b_Mo_faultOfSizes 83 = .ok (.lconst 0, 1) := by decide +kernel
theorem d_Mo_faultOfSizes_84 : decode b_Mo_faultOfSizes 84 = .ok (.lcmp, 1) := by decide +kernel
theorem d_Mo_faultOfSizes_85 : decode b_Mo_faultOfSizes 85 = .ok (.ifCond .eq 6, 3) := by decide +kernel
theorem d_Mo_faultOfSizes_88 : decode b_Mo_faultOfSizes 88 = .ok (.bipush 20, 2) := by decide +kernel
theorem d_Mo_faultOfSizes_90 : decode b_Mo_faultOfSizes 90 = .ok (.ireturn, 1) := by decide +kernel
theorem d_Mo_faultOfSizes_91 : decode b_Mo_faultOfSizes 91 = .ok (.aload_n 0, 1) := by decide +kernel
theorem d_Mo_faultOfSizes_92 : decode b_Mo_faultOfSizes 92 = .ok (.invokestatic 67, 3) := by decide +kernel
theorem d_Mo_faultOfSizes_95 : decode b_Mo_faultOfSizes 95 = .ok (.lstore_n 3, 1) := by decide +kernel
theorem d_Mo_faultOfSizes_96 : decode b_Mo_faultOfSizes 96 = .ok (.aload_n 0, 1) := by decide +kernel
theorem d_Mo_faultOfSizes_97 : decode b_Mo_faultOfSizes 97 = .ok (.bipush 32, 2) := by decide +kernel
theorem d_Mo_faultOfSizes_99 : decode b_Mo_faultOfSizes 99 = .ok (.iconst 4, 1) := by decide +kernel
theorem d_Mo_faultOfSizes_100 : decode b_Mo_faultOfSizes 100 = .ok (.invokestatic 27, 3) := by decide +kernel
theorem d_Mo_faultOfSizes_103 : decode b_Mo_faultOfSizes 103 = .ok (.lstore 5, 2) := by decide +kernel
theorem d_Mo_faultOfSizes_105 : decode b_Mo_faultOfSizes 105 = .ok (.lload 5, 2) := by decide +kernel
theorem d_Mo_faultOfSizes_107 : decode b_Mo_faultOfSizes 107 = .ok (.ldc2_w 78, 3) := by decide +kernel
theorem d_Mo_faultOfSizes_110 : decode b_Mo_faultOfSizes 110 = .ok (.ldc2_w 80, 3) := by decide +kernel
theorem d_Mo_faultOfSizes_113 : decode b_Mo_faultOfSizes 113 = .ok (.lload_n 3, 1) := by decide +kernel
theorem d_Mo_faultOfSizes_114 : decode b_Mo_faultOfSizes 114 = .ok (.lmul, 1) := by decide +kernel
theorem d_Mo_faultOfSizes_115 : decode b_Mo_faultOfSizes 115 = .ok (.invokestatic 82, 3) := by decide +kernel
theorem d_Mo_faultOfSizes_118 : decode b_Mo_faultOfSizes 118 = .ok (.ifCond .eq 14, 3) := by decide +kernel
theorem d_Mo_faultOfSizes_121 : decode b_Mo_faultOfSizes 121 = .ok (.lload 5, 2) := by decide +kernel
theorem d_Mo_faultOfSizes_123 : decode b_Mo_faultOfSizes 123 = .ok (.ldc2_w 80, 3) := by decide +kernel
theorem d_Mo_faultOfSizes_126 : decode b_Mo_faultOfSizes 126 = .ok (.lrem, 1) := by decide +kernel
theorem d_Mo_faultOfSizes_127 : decode b_Mo_faultOfSizes 127 = .ok (.lconst 0, 1) := by decide +kernel
theorem d_Mo_faultOfSizes_128 : decode b_Mo_faultOfSizes 128 = .ok (.lcmp, 1) := by decide +kernel
theorem d_Mo_faultOfSizes_129 : decode b_Mo_faultOfSizes 129 = .ok (.ifCond .eq 6, 3) := by decide +kernel
theorem d_Mo_faultOfSizes_132 : decode b_Mo_faultOfSizes 132 = .ok (.bipush 32, 2) := by decide +kernel
theorem d_Mo_faultOfSizes_134 : decode b_Mo_faultOfSizes 134 = .ok (.ireturn, 1) := by decide +kernel
theorem d_Mo_faultOfSizes_135 : decode b_Mo_faultOfSizes 135 = .ok (.aload_n 0, 1) := by decide +kernel
theorem d_Mo_faultOfSizes_136 : decode b_Mo_faultOfSizes 136 = .ok (.bipush 36, 2) := by decide +kernel
theorem d_Mo_faultOfSizes_138 : decode b_Mo_faultOfSizes 138 = .ok (.iconst 4, 1) := by decide +kernel
theorem d_Mo_faultOfSizes_139 : decode b_Mo_faultOfSizes 139 = .ok (.invokestatic 27, 3) := by decide +kernel
theorem d_Mo_faultOfSizes_142 : decode b_Mo_faultOfSizes 142 = .ok (.lload 5, 2) := by decide +kernel
theorem d_Mo_faultOfSizes_144 : decode b_Mo_faultOfSizes 144 = .ok (.lcmp, 1) := by decide +kernel
theorem d_Mo_faultOfSizes_145 : decode b_Mo_faultOfSizes 145 = .ok (.ifCond .eq 6, 3) := by decide +kernel
theorem d_Mo_faultOfSizes_148 : decode b_Mo_faultOfSizes 148 = .ok (.bipush 36, 2) := by decide +kernel
theorem d_Mo_faultOfSizes_150 : decode b_Mo_faultOfSizes 150 = .ok (.ireturn, 1) := by decide +kernel
theorem d_Mo_faultOfSizes_151 : decode b_Mo_faultOfSizes 151 = .ok (.aload_n 0, 1) := by decide +kernel
theorem d_Mo_faultOfSizes_152 : decode b_Mo_faultOfSizes 152 = .ok (.bipush 88, 2) := by decide +kernel
theorem d_Mo_faultOfSizes_154 : decode b_Mo_faultOfSizes 154 = .ok (.iconst 2, 1) := by decide +kernel
theorem d_Mo_faultOfSizes_155 : decode b_Mo_faultOfSizes 155 = .ok (.invokestatic 27, 3) := by decide +kernel
theorem d_Mo_faultOfSizes_158 : decode b_Mo_faultOfSizes 158 = .ok (.lstore 7, 2) := by decide +kernel
theorem d_Mo_faultOfSizes_160 : decode b_Mo_faultOfSizes 160 = .ok (.lload 7, 2) := by decide +kernel
theorem d_Mo_faultOfSizes_162 : decode b_Mo_faultOfSizes 162 = .ok (.ldc2_w 86, 3) := by decide +kernel
theorem d_Mo_faultOfSizes_165 : decode b_Mo_faultOfSizes 165 = .ok (.lcmp, 1) := by decide +kernel
theorem d_Mo_faultOfSizes_166 : decode b_Mo_faultOfSizes 166 = .ok (.ifCond .eq 33, 3) := by decide +kernel
theorem d_Mo_faultOfSizes_169 : decode b_Mo_faultOfSizes 169 = .ok (.lload 7, 2) := by decide +kernel
theorem d_Mo_faultOfSizes_171 : decode b_Mo_faultOfSizes 171 = .ok (.ldc2_w 23, 3) := by decide +kernel
theorem d_Mo_faultOfSizes_174 : decode b_Mo_faultOfSizes 174 = .ok (.lcmp, 1) := by decide +kernel
theorem d_Mo_faultOfSizes_175 : decode b_Mo_faultOfSizes 175 = .ok (.ifCond .eq 24, 3) := by decide +kernel
theorem d_Mo_faultOfSizes_178 : decode b_Mo_faultOfSizes 178 = .ok (.lload 7, 2) := by decide +kernel
theorem d_Mo_faultOfSizes_180 : decode b_Mo_faultOfSizes 180 = .ok (.ldc2_w 88, 3) := by decide +kernel
theorem d_Mo_faultOfSizes_183 : decode b_Mo_faultOfSizes 183 = .ok (.lcmp, 1) := by decide +kernel
theorem d_Mo_faultOfSizes_184 : decode b_Mo_faultOfSizes 184 = .ok (.ifCond .eq 15, 3) := by decide +kernel
theorem d_Mo_faultOfSizes_187 : decode b_Mo_faultOfSizes 187 = .ok (.lload 7, 2) := by decide +kernel
theorem d_Mo_faultOfSizes_189 : decode b_Mo_faultOfSizes 189 = .ok (.ldc2_w 31, 3) := by decide +kernel
theorem d_Mo_faultOfSizes_192 : decode b_Mo_faultOfSizes 192 = .ok (.lcmp, 1) := by decide +kernel
theorem d_Mo_faultOfSizes_193 : decode b_Mo_faultOfSizes 193 = .ok (.ifCond .eq 6, 3) := by decide +kernel
theorem d_Mo_faultOfSizes_196 : decode b_Mo_faultOfSizes 196 = .ok (.bipush 88, 2) := by decide +kernel
theorem d_Mo_faultOfSizes_198 : decode b_Mo_faultOfSizes 198 = .ok (.ireturn, 1) := by decide +kernel
theorem d_Mo_faultOfSizes_199 : decode b_Mo_faultOfSizes 199 = .ok (.aload_n 0, 1) := by decide +kernel
theorem d_Mo_faultOfSizes_200 : decode b_Mo_faultOfSizes 200 = .ok (.bipush 40, 2) := by decide +kernel
theorem d_Mo_faultOfSizes_202 : decode b_Mo_faultOfSizes 202 = .ok (.iconst 4, 1) := by decide +kernel
theorem d_Mo_faultOfSizes_203 : decode b_Mo_faultOfSizes 203 = .ok (.invokestatic 27, 3) := by decide +kernel
theorem d_Mo_faultOfSizes_206 : decode b_Mo_faultOfSizes 206 = .ok (.lstore 9, 2) := by decide +kernel
theorem d_Mo_faultOfSizes_208 : decode b_Mo_faultOfSizes 208 = .ok (.lload 9, 2) := by decide +kernel
theorem d_Mo_faultOfSizes_210 : decode b_Mo_faultOfSizes 210 = .ok (.ldc2_w 90, 3) := by decide +kernel
theorem d_Mo_faultOfSizes_213 : decode b_Mo_faultOfSizes 213 = .ok (.ldc2_w 80, 3) := by decide +kernel
theorem d_Mo_faultOfSizes_216 : decode b_Mo_faultOfSizes 216 = .ok (.lload_n 3, 1) := by decide +kernel
theorem d_Mo_faultOfSizes_217 : decode b_Mo_faultOfSizes 217 = .ok (.lmul, 1) := by decide +kernel
theorem d_Mo_faultOfSizes_218 : decode b_Mo_faultOfSizes 218 = .ok (.invokestatic 82, 3) := by decide +kernel
theorem d_Mo_faultOfSizes_221 : decode b_Mo_faultOfSizes 221 = .ok (.ifCond .eq 31, 3) := by decide +kernel
theorem d_Mo_faultOfSizes_224 : decode b_Mo_faultOfSizes 224 = .ok (.lload 9, 2) := by decide +kernel
theorem d_Mo_faultOfSizes_226 : decode b_Mo_faultOfSizes 226 = .ok (.ldc2_w 80, 3) := by decide +kernel
theorem d_Mo_faultOfSizes_229 : decode b_Mo_faultOfSizes 229 = .ok (.lrem, 1) := by decide +kernel
theorem d_Mo_faultOfSizes_230 : decode b_Mo_faultOfSizes 230 = .ok (.lconst 0, 1) := by decide +kernel
theorem d_Mo_faultOfSizes_231 : decode b_Mo_faultOfSizes 231 = .ok (.lcmp, 1) := by decide +kernel
theorem d_Mo_faultOfSizes_232 : decode b_Mo_faultOfSizes 232 = .ok (.ifCond .ne 20, 3) := by decide +kernel
theorem d_Mo_faultOfSizes_235 : decode b_Mo_faultOfSizes 235 = .ok (.lload 9, 2) := by decide +kernel
theorem d_Mo_faultOfSizes_237 : decode b_Mo_faultOfSizes 237 = .ok (.lload 7, 2) := by decide +kernel
theorem d_Mo_faultOfSizes_239 : decode b_Mo_faultOfSizes 239 = .ok (.lmul, 1) := by decide +kernel
theorem d_Mo_faultOfSizes_240 : decode b_Mo_faultOfSizes 240 = .ok (.lload_n 3, 1) := by decide +kernel
theorem d_Mo_faultOfSizes_241 : decode b_Mo_faultOfSizes 241 = .ok (.lrem, 1) := by decide +kernel
theorem d_Mo_faultOfSizes_242 : decode b_Mo_faultOfSizes 242 = .ok (.lconst 0, 1) := by decide +kernel
theorem d_Mo_faultOfSizes_243 : decode b_Mo_faultOfSizes 243 = .ok (.lcmp, 1) := by decide +kernel
theorem d_Mo_faultOfSizes_244 : decode b_Mo_faultOfSizes 244 = .ok (.ifCond .ne 8, 3) := by decide +kernel
theorem d_Mo_faultOfSizes_247 : decode b_Mo_faultOfSizes 247 = .ok (.bipush (-2), 2) := by decide +kernel
theorem d_Mo_faultOfSizes_249 : decode b_Mo_faultOfSizes 249 = .ok (.goto 5, 3) := by decide +kernel
theorem d_Mo_faultOfSizes_252 : decode b_Mo_faultOfSizes 252 = .ok (.bipush 40, 2) := by decide +kernel
theorem d_Mo_faultOfSizes_254 : decode b_Mo_faultOfSizes 254 = .ok (.ireturn, 1) := by decide +kernel
end
section
theorem d_Mo_areBlocksRight_0 : decode b_Mo_areBlocksRight 0 = .ok (.aload_n 0, 1) := by decide +kernel
theorem d_Mo_areBlocksRight_1 : decode b_Mo_areBlocksRight 1 = .ok (.iconst 4, 1) := by decide +kernel
theorem d_Mo_areBlocksRight_2 : decode b_Mo_areBlocksRight 2 = .ok (.iconst 4, 1) := by decide +kernel
theorem d_Mo_areBlocksRight_3 : decode b_Mo_areBlocksRight 3 = .ok (.invokestatic 27, 3) := by decide +kernel
theorem d_Mo_areBlocksRight_6 : decode b_Mo_areBlocksRight 6 = .ok (.lstore_n 1, 1) := by decide +kernel
theorem d_Mo_areBlocksRight_7 : decode b_Mo_areBlocksRight 7 = .ok (.lload_n 1, 1) := by decide +kernel
theorem d_Mo_areBlocksRight_8 : decode b_Mo_areBlocksRight 8 = .ok (.aload_n 0, 1) := by decide +kernel
theorem d_Mo_areBlocksRight_9 : decode b_Mo_areBlocksRight 9 = .ok (.bipush 20, 2) := by decide +kernel
theorem d_Mo_areBlocksRight_11 : decode b_Mo_areBlocksRight 11 = .ok (.iconst 4, 1) := by decide +kernel
theorem d_Mo_areBlocksRight_12 : decode b_Mo_areBlocksRight 12 = .ok (.invokestatic 27, 3) := by decide +kernel
theorem d_Mo_areBlocksRight_15 : decode b_Mo_areBlocksRight 15 = .ok (.lcmp, 1) := by decide +kernel
theorem d_Mo_areBlocksRight_16 : decode b_Mo_areBlocksRight 16 = .ok (.ifCond .le 22, 3) := by decide +kernel
theorem d_Mo_areBlocksRight_19 : decode b_Mo_areBlocksRight 19 = .ok (.lload_n 1, 1) := by decide +kernel
theorem d_Mo_areBlocksRight_20 : decode b_Mo_areBlocksRight 20 = .ok (.ldc2_w 92, 3) := by decide +kernel
theorem d_Mo_areBlocksRight_23 : decode b_Mo_areBlocksRight 23 = .ok (.lcmp, 1) := by decide +kernel
theorem d_Mo_areBlocksRight_24 : decode b_Mo_areBlocksRight 24 = .ok (.ifCond .gt 14, 3) := by decide +kernel
theorem d_Mo_areBlocksRight_27 : decode b_Mo_areBlocksRight 27 = .ok (.aload_n 0, 1) := by decide +kernel
theorem d_Mo_areBlocksRight_28 : decode b_Mo_areBlocksRight 28 = .ok (.invokestatic 63, 3) := by decide +kernel
theorem d_Mo_areBlocksRight_31 : decode b_Mo_areBlocksRight 31 = .ok (.ldc2_w 78, 3) := by decide +kernel
theorem d_Mo_areBlocksRight_34 : decode b_Mo_areBlocksRight 34 = .ok (.lcmp, 1) := by decide +kernel
theorem d_Mo_areBlocksRight_35 : decode b_Mo_areBlocksRight 35 = .ok (.ifCond .le 5, 3) := by decide +kernel
theorem d_Mo_areBlocksRight_38 : decode b_Mo_areBlocksRight 38 = .ok (.iconst 0, 1) := by decide +kernel
theorem d_Mo_areBlocksRight_39 : decode b_Mo_areBlocksRight 39 = .ok (.ireturn, 1) := by decide +kernel
theorem d_Mo_areBlocksRight_40 : decode b_Mo_areBlocksRight 40 = .ok (.iconst 1, 1) := by decide +kernel
theorem d_Mo_areBlocksRight_41 : decode b_Mo_areBlocksRight 41 = .ok (.istore_n 3, 1) := by decide +kernel
theorem d_Mo_areBlocksRight_42 : decode b_Mo_areBlocksRight 42 = .ok (.lconst 0, 1) := by decide +kernel
theorem d_Mo_areBlocksRight_43 : decode b_Mo_areBlocksRight 43 = .ok (.lstore 4, 2) := by decide +kernel
theorem d_Mo_areBlocksRight_45 : decode b_Mo_areBlocksRight 45 = .ok (.lload 4, 2) := by decide +kernel
theorem d_Mo_areBlocksRight_47 : decode b_Mo_areBlocksRight 47 = .ok (.aload_n 0, 1) := by decide +kernel
theorem d_Mo_areBlocksRight_48 : decode b_Mo_areBlocksRight 48 = .ok (.invokestatic 63, 3) := by decide +kernel
theorem d_Mo_areBlocksRight_51 : decode b_Mo_areBlocksRight 51 = .ok (.lcmp, 1) := by decide +kernel
theorem d_Mo_areBlocksRight_52 : decode b_Mo_areBlocksRight 52 = .ok (.ifCond .ge 38, 3) := by decide +kernel
theorem d_Mo_areBlocksRight_55 : decode b_Mo_areBlocksRight 55 = .ok (.iload_n 3, 1) := by decide +kernel
theorem d_Mo_areBlocksRight_56 : decode b_Mo_areBlocksRight 56 = .ok (.ifCond .eq 23, 3) := by decide +kernel
theorem d_Mo_areBlocksRight_59 : decode b_Mo_areBlocksRight 59 = .ok (.aload_n 0, 1) := by decide +kernel
theorem d_Mo_areBlocksRight_60 : decode b_Mo_areBlocksRight 60 = .ok (.lload 4, 2) := by decide +kernel
theorem d_Mo_areBlocksRight_62 : decode b_Mo_areBlocksRight 62 = .ok (.invokestatic 94, 3) := by decide +kernel
theorem d_Mo_areBlocksRight_65 : decode b_Mo_areBlocksRight 65 = .ok (.aload_n 0, 1) := by decide +kernel
theorem d_Mo_areBlocksRight_66 : decode b_Mo_areBlocksRight 66 = .ok (.lload 4, 2) := by decide +kernel
theorem d_Mo_areBlocksRight_68 : decode b_Mo_areBlocksRight 68 = .ok (.invokestatic 97, 3) := by decide +kernel
theorem d_Mo_areBlocksRight_71 : decode b_Mo_areBlocksRight 71 = .ok (.lcmp, 1) := by decide +kernel
theorem d_Mo_areBlocksRight_72 : decode b_Mo_areBlocksRight 72 = .ok (.ifCond .le 7, 3) := by decide +kernel
theorem d_Mo_areBlocksRight_75 : decode b_Mo_areBlocksRight 75 = .ok (.iconst 1, 1) := by decide +kernel
theorem d_Mo_areBlocksRight_76 : decode b_Mo_areBlocksRight 76 = .ok (.goto 4, 3) := by decide +kernel
theorem d_Mo_areBlocksRight_79 : decode b_Mo_areBlocksRight 79 = .ok (.iconst 0, 1) := by decide +kernel
theorem d_Mo_areBlocksRight_80 : decode b_Mo_areBlocksRight 80 = .ok (.istore_n 3, 1) := by decide +kernel
theorem d_Mo_areBlocksRight_81 : decode b_Mo_areBlocksRight 81 = .ok (.lload 4, 2) := by decide +kernel
theorem d_Mo_areBlocksRight_83 : decode b_Mo_areBlocksRight 83 = .ok (.lconst 1, 1) := by decide +kernel
theorem d_Mo_areBlocksRight_84 : decode b_Mo_areBlocksRight 84 = .ok (.ladd, 1) := by decide +kernel
theorem d_Mo_areBlocksRight_85 : decode b_Mo_areBlocksRight 85 = .ok (.lstore 4, 2) := by decide +kernel
theorem d_Mo_areBlocksRight_87 : decode b_Mo_areBlocksRight 87 = .ok (.goto (-42), 3) := by decide +kernel
theorem d_Mo_areBlocksRight_90 : decode b_Mo_areBlocksRight 90 = .ok (.iload_n 3, 1) := by decide +kernel
theorem d_Mo_areBlocksRight_91 : decode b_Mo_areBlocksRight 91 = .ok (.ireturn, 1) := by decide +kernel
theorem d_Mo_faultOfCounts_0 : decode b_Mo_faultOfCounts 0 = .ok (.aload_n 0, 1) := by decide +kernel
theorem d_Mo_faultOfCounts_1 : decode b_Mo_faultOfCounts 1 = .ok (.invokestatic 100, 3) := by decide +kernel
theorem d_Mo_faultOfCounts_4 : decode b_Mo_faultOfCounts 4 = .ok (.ifCond .ne 5, 3) := by decide +kernel
theorem d_Mo_faultOfCounts_7 : decode b_Mo_faultOfCounts 7 = .ok (.iconst 4, 1) := by decide +kernel
theorem d_Mo_faultOfCounts_8 : decode b_Mo_faultOfCounts 8 = .ok (.ireturn, 1) := by decide +kernel
theorem d_Mo_faultOfCounts_9 : decode b_Mo_faultOfCounts 9 = .ok (.aload_n 0, 1) := by decide +kernel
theorem d_Mo_faultOfCounts_10 : decode b_Mo_faultOfCounts 10 = .ok (.iconst 4, 1) := by decide +kernel
theorem d_Mo_faultOfCounts_11 : decode b_Mo_faultOfCounts 11 = .ok (.iconst 4, 1) := by decide +kernel
theorem d_Mo_faultOfCounts_12 : decode b_Mo_faultOfCounts 12 = .ok (.invokestatic 27, 3) := by decide +kernel
theorem d_Mo_faultOfCounts_15 : decode b_Mo_faultOfCounts 15 = .ok (.lstore_n 1, 1) := by decide +kernel
theorem d_Mo_faultOfCounts_16 : decode b_Mo_faultOfCounts 16 = .ok (.aload_n 0, 1) := by decide +kernel
theorem d_Mo_faultOfCounts_17 : decode b_Mo_faultOfCounts 17 = .ok (.iconst 0, 1) := by decide +kernel
theorem d_Mo_faultOfCounts_18 : decode b_Mo_faultOfCounts 18 = .ok (.iconst 4, 1) := by decide +kernel
theorem d_Mo_faultOfCounts_19 : decode b_Mo_faultOfCounts 19 = .ok (.invokestatic 27, 3) := by decide +kernel
theorem d_Mo_faultOfCounts_22 : decode b_Mo_faultOfCounts 22 = .ok (.lstore_n 3, 1) := by decide +kernel
theorem d_Mo_faultOfCounts_23 : decode b_Mo_faultOfCounts 23 = .ok (.lload_n 3, 1) := by decide +kernel
theorem d_Mo_faultOfCounts_24 : decode b_Mo_faultOfCounts 24 = .ok (.aload_n 0, 1) := by decide +kernel
theorem d_Mo_faultOfCounts_25 : decode b_Mo_faultOfCounts 25 = .ok (.invokestatic 63, 3) := by decide +kernel
theorem d_Mo_faultOfCounts_28 : decode b_Mo_faultOfCounts 28 = .ok (.aload_n 0, 1) := by decide +kernel
theorem d_Mo_faultOfCounts_29 : decode b_Mo_faultOfCounts 29 = .ok (.bipush 40, 2) := by decide +kernel
theorem d_Mo_faultOfCounts_31 : decode b_Mo_faultOfCounts 31 = .ok (.iconst 4, 1) := by decide +kernel
theorem d_Mo_faultOfCounts_32 : decode b_Mo_faultOfCounts 32 = .ok (.invokestatic 27, 3) := by decide +kernel
theorem d_Mo_faultOfCounts_35 : decode b_Mo_faultOfCounts 35 = .ok (.lmul, 1) := by decide +kernel
theorem d_Mo_faultOfCounts_36 : decode b_Mo_faultOfCounts 36 = .ok (.lcmp, 1) := by decide +kernel
theorem d_Mo_faultOfCounts_37 : decode b_Mo_faultOfCounts 37 = .ok (.ifCond .eq 5, 3) := by decide +kernel
theorem d_Mo_faultOfCounts_40 : decode b_Mo_faultOfCounts 40 = .ok (.iconst 0, 1) := by decide +kernel
theorem d_Mo_faultOfCounts_41 : decode b_Mo_faultOfCounts 41 = .ok (.ireturn, 1) := by decide +kernel
theorem d_Mo_faultOfCounts_42 : decode b_Mo_faultOfCounts 42 = .ok (.aload_n 0, 1) := by decide +kernel
theorem d_Mo_faultOfCounts_43 : decode b_Mo_faultOfCounts 43 = .ok (.bipush 8, 2) := by decide +kernel
theorem d_Mo_faultOfCounts_45 : decode b_Mo_faultOfCounts 45 = .ok (.iconst 4, 1) := by decide +kernel
theorem d_Mo_faultOfCounts_46 : decode b_Mo_faultOfCounts 46 = .ok (.invokestatic 27, 3) := by decide +kernel
theorem d_Mo_faultOfCounts_49 : decode b_Mo_faultOfCounts 49 = .ok (.lload_n 1, 1) := by decide +kernel
theorem d_Mo_faultOfCounts_50 : decode b_Mo_faultOfCounts 50 = .ok (.lcmp, 1) := by decide +kernel
theorem d_Mo_faultOfCounts_51 : decode b_Mo_faultOfCounts 51 = .ok (.ifCond .le 6, 3) := by decide +kernel
theorem d_Mo_faultOfCounts_54 : decode b_Mo_faultOfCounts 54 = .ok (.bipush 8, 2) := by decide +kernel
theorem d_Mo_faultOfCounts_56 : decode b_Mo_faultOfCounts 56 = .ok (.ireturn, 1) := by decide +kernel
theorem d_Mo_faultOfCounts_57 : decode b_Mo_faultOfCounts 57 = .ok (.aload_n 0, 1) := by decide +kernel
theorem d_Mo_faultOfCounts_58 : decode b_Mo_faultOfCounts 58 = .ok (.bipush 12, 2) := by decide +kernel
theorem d_Mo_faultOfCounts_60 : decode b_Mo_faultOfCounts 60 = .ok (.iconst 4, 1) := by decide +kernel
theorem d_Mo_faultOfCounts_61 : decode b_Mo_faultOfCounts 61 = .ok (.invokestatic 27, 3) := by decide +kernel
theorem d_Mo_faultOfCounts_64 : decode b_Mo_faultOfCounts 64 = .ok (.lload_n 1, 1) := by decide +kernel
theorem d_Mo_faultOfCounts_65 : decode b_Mo_faultOfCounts 65 = .ok (.lcmp, 1) := by decide +kernel
theorem d_Mo_faultOfCounts_66 : decode b_Mo_faultOfCounts 66 = .ok (.ifCond .le 6, 3) := by decide +kernel
theorem d_Mo_faultOfCounts_69 : decode b_Mo_faultOfCounts 69 = .ok (.bipush 12, 2) := by decide +kernel
theorem d_Mo_faultOfCounts_71 : decode b_Mo_faultOfCounts 71 = .ok (.ireturn, 1) := by decide +kernel
theorem d_Mo_faultOfCounts_72 : decode b_Mo_faultOfCounts 72 = .ok (.aload_n 0, 1) := by decide +kernel
theorem d_Mo_faultOfCounts_73 : decode b_Mo_faultOfCounts 73 = .ok (.bipush 16, 2) := by decide +kernel
theorem d_Mo_faultOfCounts_75 : decode b_Mo_faultOfCounts 75 = .ok (.iconst 4, 1) := by decide +kernel
theorem d_Mo_faultOfCounts_76 : decode b_Mo_faultOfCounts 76 = .ok (.invokestatic 27, 3) := by decide +kernel
theorem d_Mo_faultOfCounts_79 : decode b_Mo_faultOfCounts 79 = .ok (.lload_n 3, 1) := by decide +kernel
theorem d_Mo_faultOfCounts_80 : decode b_Mo_faultOfCounts 80 = .ok (.lcmp, 1) := by decide +kernel
theorem d_Mo_faultOfCounts_81 : decode b_Mo_faultOfCounts 81 = .ok (.ifCond .le 6, 3) := by decide +kernel
theorem d_Mo_faultOfCounts_84 : decode b_Mo_faultOfCounts 84 = .ok (.bipush 16, 2) := by decide +kernel
theorem d_Mo_faultOfCounts_86 : decode b_Mo_faultOfCounts 86 = .ok (.ireturn, 1) := by decide +kernel
theorem d_Mo_faultOfCounts_87 : decode b_Mo_faultOfCounts 87 = .ok (.aload_n 0, 1) := by decide +kernel
theorem d_Mo_faultOfCounts_88 : decode b_Mo_faultOfCounts 88 = .ok (.bipush 58, 2) := by decide +kernel
theorem d_Mo_faultOfCounts_90 : decode b_Mo_faultOfCounts 90 = .ok (.iconst 2, 1) := by decide +kernel
theorem d_Mo_faultOfCounts_91 : decode b_Mo_faultOfCounts 91 = .ok (.invokestatic 27, 3) := by decide +kernel
theorem d_Mo_faultOfCounts_94 : decode b_Mo_faultOfCounts 94 = .ok (.lconst 1, 1) := by decide +kernel
theorem d_Mo_faultOfCounts_95 : decode b_Mo_faultOfCounts 95 = .ok (.lcmp, 1) := by decide +kernel
theorem d_Mo_faultOfCounts_96 : decode b_Mo_faultOfCounts 96 = .ok (.ifCond .eq 20, 3) := by decide +kernel
theorem d_Mo_faultOfCounts_99 : decode b_Mo_faultOfCounts 99 = .ok (.aload_n 0, 1) := by decide +kernel
theorem d_Mo_faultOfCounts_100 : decode b_Mo_faultOfCounts 100 = .ok (.bipush 58, 2) := by decide +kernel
theorem d_Mo_faultOfCounts_102 : decode b_Mo_faultOfCounts 102 = .ok (.iconst 2, 1) := by decide +kernel
theorem d_Mo_faultOfCounts_103 : decode b_Mo_faultOfCounts 103 = .ok (.invokestatic 27, 3) := by decide +kernel
theorem d_Mo_faultOfCounts_106 : decode b_Mo_faultOfCounts 106 = .ok (.ldc2_w 43, 3) := by decide +kernel
theorem d_Mo_faultOfCounts_109 : decode b_Mo_faultOfCounts 109 = .ok (.lcmp, 1) := by decide +kernel
theorem d_Mo_faultOfCounts_110 : decode b_Mo_faultOfCounts 110 = .ok (.ifCond .eq 6, 3) := by decide +kernel
theorem d_Mo_faultOfCounts_113 : decode b_Mo_faultOfCounts 113 = .ok (.bipush 58, 2) := by decide +kernel
theorem d_Mo_faultOfCounts_115 : decode b_Mo_faultOfCounts 115 = .ok (.ireturn, 1) := by decide +kernel
theorem d_Mo_faultOfCounts_116 : decode b_Mo_faultOfCounts 116 = .ok (.aload_n 0, 1) := by decide +kernel
theorem d_Mo_faultOfCounts_117 : decode b_Mo_faultOfCounts 117 = .ok (.bipush 84, 2) := by decide +kernel
theorem d_Mo_faultOfCounts_119 : decode b_Mo_faultOfCounts 119 = .ok (.iconst 4, 1) := by decide +kernel
theorem d_Mo_faultOfCounts_120 : decode b_Mo_faultOfCounts 120 = .ok (.invokestatic 27, 3) := by decide +kernel
theorem d_Mo_faultOfCounts_123 : decode b_Mo_faultOfCounts 123 = .ok (.ldc2_w 104, 3) := by decide +kernel
theorem d_Mo_faultOfCounts_126 : decode b_Mo_faultOfCounts 126 = .ok (.lload_n 3, 1) := by decide +kernel
theorem d_Mo_faultOfCounts_127 : decode b_Mo_faultOfCounts 127 = .ok (.invokestatic 82, 3) := by decide +kernel
theorem d_Mo_faultOfCounts_130 : decode b_Mo_faultOfCounts 130 = .ok (.ifCond .ne 6, 3) := by decide +kernel
theorem d_Mo_faultOfCounts_133 : decode b_Mo_faultOfCounts 133 = .ok (.bipush 84, 2) := by decide +kernel
theorem d_Mo_faultOfCounts_135 : decode b_Mo_faultOfCounts 135 = .ok (.ireturn, 1) := by decide +kernel
theorem d_Mo_faultOfCounts_136 : decode b_Mo_faultOfCounts 136 = .ok (.aload_n 0, 1) := by decide +kernel
theorem d_Mo_faultOfCounts_137 : decode b_Mo_faultOfCounts 137 = .ok (.bipush 90, 2) := by decide +kernel
theorem d_Mo_faultOfCounts_139 : decode b_Mo_faultOfCounts 139 = .ok (.iconst 2, 1) := by decide +kernel
theorem d_Mo_faultOfCounts_140 : decode b_Mo_faultOfCounts 140 = .ok (.invokestatic 27, 3) := by decide +kernel
theorem d_Mo_faultOfCounts_143 : decode b_Mo_faultOfCounts 143 = .ok (.lstore 5, 2) := by decide +kernel
theorem d_Mo_faultOfCounts_145 : decode b_Mo_faultOfCounts 145 = .ok (.lload 5, 2) := by decide +kernel
theorem d_Mo_faultOfCounts_147 : decode b_Mo_faultOfCounts 147 = .ok (.aload_n 0, 1) := by decide +kernel
theorem d_Mo_faultOfCounts_148 : decode b_Mo_faultOfCounts 148 = .ok (.invokestatic 63, 3) := by decide +kernel
theorem d_Mo_faultOfCounts_151 : decode b_Mo_faultOfCounts 151 = .ok (.lcmp, 1) := by decide +kernel
theorem d_Mo_faultOfCounts_152 : decode b_Mo_faultOfCounts 152 = .ok (.ifCond .ge 17, 3) := by decide +kernel
theorem d_Mo_faultOfCounts_155 : decode b_Mo_faultOfCounts 155 = .ok (.aload_n 0, 1) := by decide +kernel
theorem d_Mo_faultOfCounts_156 : decode b_Mo_faultOfCounts 156 = .ok (.lload 5, 2) := by decide +kernel
theorem d_Mo_faultOfCounts_158 : decode b_Mo_faultOfCounts 158 = .ok (.invokestatic 57, 3) := by decide +kernel
theorem d_Mo_faultOfCounts_161 : decode b_Mo_faultOfCounts 161 = .ok (.ifCond .eq 8, 3) := by decide +kernel
theorem d_Mo_faultOfCounts_164 : decode b_Mo_faultOfCounts 164 = .ok (.bipush (-2), 2) := by decide +kernel
theorem d_Mo_faultOfCounts_166 : decode b_Mo_faultOfCounts 166 = .ok (.goto 5, 3) := by decide +kernel
theorem d_Mo_faultOfCounts_169 : decode b_Mo_faultOfCounts 169 = .ok (.bipush 90, 2) := by decide +kernel
theorem d_Mo_faultOfCounts_171 : decode b_Mo_faultOfCounts 171 = .ok (.ireturn, 1) := by decide +kernel
theorem d_Mo_isListed_0 : decode b_Mo_isListed 0 = .ok (.iload_n 0, 1) := by decide +kernel
theorem d_Mo_isListed_1 : decode b_Mo_isListed 1 = .ok (.ifCond .ne 21, 3) := by decide +kernel
theorem d_Mo_isListed_4 : decode b_Mo_isListed 4 = .ok (.iload_n 1, 1) := by decide +kernel
theorem d_Mo_isListed_5 : decode b_Mo_isListed 5 = .ok (.iconst 2, 1) := by decide +kernel
theorem d_Mo_isListed_6 : decode b_Mo_isListed 6 = .ok (.if_icmp .eq 8, 3) := by decide +kernel
theorem d_Mo_isListed_9 : decode b_Mo_isListed 9 = .ok (.iload_n 1, 1) := by decide +kernel
theorem d_Mo_isListed_10 : decode b_Mo_isListed 10 = .ok (.iconst 5, 1) := by decide +kernel
theorem d_Mo_isListed_11 : decode b_Mo_isListed 11 = .ok (.if_icmp .ne 7, 3) := by decide +kernel
theorem d_Mo_isListed_14 : decode b_Mo_isListed 14 = .ok (.iconst 1, 1) := by decide +kernel
theorem d_Mo_isListed_15 : decode b_Mo_isListed 15 = .ok (.goto 46, 3) := by decide +kernel
theorem d_Mo_isListed_18 : decode b_Mo_isListed 18 = .ok (.iconst 0, 1) := by decide +kernel
theorem d_Mo_isListed_19 : decode b_Mo_isListed 19 = .ok (.goto 42, 3) := by decide +kernel
theorem d_Mo_isListed_22 : decode b_Mo_isListed 22 = .ok (.iload_n 0, 1) := by decide +kernel
theorem d_Mo_isListed_23 : decode b_Mo_isListed 23 = .ok (.iconst 1, 1) := by decide +kernel
theorem d_Mo_isListed_24 : decode b_Mo_isListed 24 = .ok (.if_icmp .ne 27, 3) := by decide +kernel
theorem d_Mo_isListed_27 : decode b_Mo_isListed 27 = .ok (.iload_n 1, 1) := by decide +kernel
theorem d_Mo_isListed_28 : decode b_Mo_isListed 28 = .ok (.iconst 1, 1) := by decide +kernel
theorem d_Mo_isListed_29 : decode b_Mo_isListed 29 = .ok (.if_icmp .eq 14, 3) := by decide +kernel
theorem d_Mo_isListed_32 : decode b_Mo_isListed 32 = .ok (.iload_n 1, 1) := by decide +kernel
theorem d_Mo_isListed_33 : decode b_Mo_isListed 33 = .ok (.iconst 2, 1) := by decide +kernel
theorem d_Mo_isListed_34 : decode b_Mo_isListed 34 = .ok (.if_icmp .eq 9, 3) := by decide +kernel
theorem d_Mo_isListed_37 : decode b_Mo_isListed 37 = .ok (.iload_n 1, 1) := by decide +kernel
theorem d_Mo_isListed_38 : decode b_Mo_isListed 38 = .ok (.bipush 6, 2) := by decide +kernel
theorem d_Mo_isListed_40 : decode b_Mo_isListed 40 = .ok (.if_icmp .ne 7, 3) := by decide +kernel
theorem d_Mo_isListed_43 : decode b_Mo_isListed 43 = .ok (.iconst 1, 1) := by decide +kernel
theorem d_Mo_isListed_44 : decode b_Mo_isListed 44 = .ok (.goto 17, 3) := by decide +kernel
theorem d_Mo_isListed_47 : decode b_Mo_isListed 47 = .ok (.iconst 0, 1) := by decide +kernel
theorem d_Mo_isListed_48 : decode b_Mo_isListed 48 = .ok (.goto 13, 3) := by decide +kernel
theorem d_Mo_isListed_51 : decode b_Mo_isListed 51 = .ok (.iload_n 1, 1) := by decide +kernel
theorem d_Mo_isListed_52 : decode b_Mo_isListed 52 = .ok (.iconst 2, 1) := by decide +kernel
theorem d_Mo_isListed_53 : decode b_Mo_isListed 53 = .ok (.if_icmp .ge 7, 3) := by decide +kernel
theorem d_Mo_isListed_56 : decode b_Mo_isListed 56 = .ok (.iconst 1, 1) := by decide +kernel
theorem d_Mo_isListed_57 : decode b_Mo_isListed 57 = .ok (.goto 4, 3) := by decide +kernel
theorem d_Mo_isListed_60 : decode b_Mo_isListed 60 = .ok (.iconst 0, 1) := by decide +kernel
theorem d_Mo_isListed_61 : decode b_Mo_isListed 61 = .ok (.ireturn, 1) := by decide +kernel
theorem d_Mo_faultOfFeatures_0 : decode b_Mo_faultOfFeatures 0 = .ok (.iconst 0, 1) := by decide +kernel
theorem d_Mo_faultOfFeatures_1 : decode b_Mo_faultOfFeatures 1 = .ok (.istore_n 1, 1) := by decide +kernel
theorem d_Mo_faultOfFeatures_2 : decode b_Mo_faultOfFeatures 2 = .ok (.iload_n 1, 1) := by decide +kernel
theorem d_Mo_faultOfFeatures_3 : decode b_Mo_faultOfFeatures 3 = .ok (.iconst 3, 1) := by decide +kernel
theorem d_Mo_faultOfFeatures_4 : decode b_Mo_faultOfFeatures 4 = .ok (.if_icmp .ge 85, 3) := by decide +kernel
theorem d_Mo_faultOfFeatures_7 : decode b_Mo_faultOfFeatures 7 = .ok (.iconst 0, 1) := by decide +kernel
theorem d_Mo_faultOfFeatures_8 : decode b_Mo_faultOfFeatures 8 = .ok (.istore_n 2, 1) := by decide +kernel
theorem d_Mo_faultOfFeatures_9 : decode b_Mo_faultOfFeatures 9 = .ok (.iload_n 2, 1) := by decide +kernel
theorem d_Mo_faultOfFeatures_10 : decode b_Mo_faultOfFeatures 10 = .ok (.bipush 32, 2) := by decide +kernel
theorem d_Mo_faultOfFeatures_12 : decode b_Mo_faultOfFeatures 12 = .ok (.if_icmp .ge 42, 3) := by decide +kernel
theorem d_Mo_faultOfFeatures_15 : decode b_Mo_faultOfFeatures 15 = .ok (.aload_n 0, 1) := by decide +kernel
theorem d_Mo_faultOfFeatures_16 : decode b_Mo_faultOfFeatures 16 = .ok (.bipush 92, 2) := by decide +kernel
theorem d_Mo_faultOfFeatures_18 : decode b_Mo_faultOfFeatures 18 = .ok (.iconst 4, 1) := by decide +kernel
theorem d_Mo_faultOfFeatures_19 : decode b_Mo_faultOfFeatures 19 = .ok (.iload_n 1, 1) := by decide +kernel
theorem d_Mo_faultOfFeatures_20 : decode b_Mo_faultOfFeatures 20 = .ok (.imul, 1) := by decide +kernel
theorem d_Mo_faultOfFeatures_21 : decode b_Mo_faultOfFeatures 21 = .ok (.iadd, 1) := by decide +kernel
theorem d_Mo_faultOfFeatures_22 : decode b_Mo_faultOfFeatures 22 = .ok (.iload_n 2, 1) := by decide +kernel
theorem d_Mo_faultOfFeatures_23 : decode b_Mo_faultOfFeatures 23 = .ok (.invokestatic 37, 3) := by decide +kernel
theorem d_Mo_faultOfFeatures_26 : decode b_Mo_faultOfFeatures 26 = .ok (.ifCond .eq 22, 3) := by decide +kernel
theorem d_Mo_faultOfFeatures_29 : decode b_Mo_faultOfFeatures 29 = .ok (.iload_n 1, 1) := by decide +kernel
theorem d_Mo_faultOfFeatures_30 : decode b_Mo_faultOfFeatures 30 = .ok (.iload_n 2, 1) := by decide +kernel
theorem d_Mo_faultOfFeatures_31 : decode b_Mo_faultOfFeatures 31 = .ok (.invokestatic 106, 3) := by decide +kernel
theorem d_Mo_faultOfFeatures_34 : decode b_Mo_faultOfFeatures 34 = .ok (.ifCond .ne 14, 3) := by decide +kernel
theorem d_Mo_faultOfFeatures_37 : decode b_Mo_faultOfFeatures 37 = .ok (.sipush 2000, 3) := by decide +kernel
theorem d_Mo_faultOfFeatures_40 : decode b_Mo_faultOfFeatures 40 = .ok (.bipush 32, 2) := by decide +kernel
theorem d_Mo_faultOfFeatures_42 : decode b_Mo_faultOfFeatures 42 = .ok (.iload_n 1, 1) := by decide +kernel
theorem d_Mo_faultOfFeatures_43 : decode b_Mo_faultOfFeatures 43 = .ok (.imul, 1) := by decide +kernel
theorem d_Mo_faultOfFeatures_44 : decode b_Mo_faultOfFeatures 44 = .ok (.iadd, 1) := by decide +kernel
theorem d_Mo_faultOfFeatures_45 : decode b_Mo_faultOfFeatures 45 = .ok (.iload_n 2, 1) := by decide +kernel
theorem d_Mo_faultOfFeatures_46 : decode b_Mo_faultOfFeatures 46 = .ok (.iadd, 1) := by decide +kernel
theorem d_Mo_faultOfFeatures_47 : decode b_Mo_faultOfFeatures 47 = .ok (.ireturn, 1) := by decide +kernel
theorem d_Mo_faultOfFeatures_48 : decode b_Mo_faultOfFeatures 48 = .ok (.iinc 2 1, 3) := by decide +kernel
theorem d_Mo_faultOfFeatures_51 : decode b_Mo_faultOfFeatures 51 = .ok (.goto (-42), 3) := by decide +kernel
theorem d_Mo_faultOfFeatures_54 : decode b_Mo_faultOfFeatures 54 = .ok (.iload_n 1, 1) := by decide +kernel
theorem d_Mo_faultOfFeatures_55 : decode b_Mo_faultOfFeatures 55 = .ok (.iconst 1, 1) := by decide +kernel
theorem d_Mo_faultOfFeatures_56 : decode b_Mo_faultOfFeatures 56 = .ok (.if_icmp .ne 27, 3) := by decide +kernel
theorem d_Mo_faultOfFeatures_59 : decode b_Mo_faultOfFeatures 59 = .ok (.aload_n 0, 1) := by decide +kernel
theorem d_Mo_faultOfFeatures_60 : decode b_Mo_faultOfFeatures 60 = .ok (.bipush 96, 2) := by decide +kernel
theorem d_Mo_faultOfFeatures_62 : decode b_Mo_faultOfFeatures 62 = .ok (.iconst 1, 1) := by decide +kernel
theorem d_Mo_faultOfFeatures_63 : decode b_Mo_faultOfFeatures 63 = .ok (.invokestatic 37, 3) := by decide +kernel
theorem d_Mo_faultOfFeatures_66 : decode b_Mo_faultOfFeatures 66 = .ok (.ifCond .eq 14, 3) := by decide +kernel
theorem d_Mo_faultOfFeatures_69 : decode b_Mo_faultOfFeatures 69 = .ok (.aload_n 0, 1) := by decide +kernel
theorem d_Mo_faultOfFeatures_70 : decode b_Mo_faultOfFeatures 70 = .ok (.bipush 96, 2) := by decide +kernel
theorem d_Mo_faultOfFeatures_72 : decode b_Mo_faultOfFeatures 72 = .ok (.bipush 6, 2) := by decide +kernel
theorem d_Mo_faultOfFeatures_74 : decode b_Mo_faultOfFeatures 74 = .ok (.invokestatic 37, 3) := by decide +kernel
theorem d_Mo_faultOfFeatures_77 : decode b_Mo_faultOfFeatures 77 = .ok (.ifCond .ne 6, 3) := by decide +kernel
theorem d_Mo_faultOfFeatures_80 : decode b_Mo_faultOfFeatures 80 = .ok (.bipush 96, 2) := by decide +kernel
theorem d_Mo_faultOfFeatures_82 : decode b_Mo_faultOfFeatures 82 = .ok (.ireturn, 1) := by decide +kernel
theorem d_Mo_faultOfFeatures_83 : decode b_Mo_faultOfFeatures 83 = .ok (.iinc 1 1, 3) := by decide +kernel
theorem d_Mo_faultOfFeatures_86 : decode b_Mo_faultOfFeatures 86 = .ok (.goto (-84), 3) := by decide +kernel
theorem d_Mo_faultOfFeatures_89 : decode b_Mo_faultOfFeatures 89 = .ok (.bipush (-2), 2) := by decide +kernel
theorem d_Mo_faultOfFeatures_91 : decode b_Mo_faultOfFeatures 91 = .ok (.ireturn, 1) := by decide +kernel
theorem d_Mo_faultOfRest_0 : decode b_Mo_faultOfRest 0 = .ok (.aload_n 0, 1) := by decide +kernel
theorem d_Mo_faultOfRest_1 : decode b_Mo_faultOfRest 1 = .ok (.sipush 224, 3) := by decide +kernel
theorem d_Mo_faultOfRest_4 : decode b_Mo_faultOfRest 4 = .ok (.iconst 4, 1) := by decide +kernel
theorem d_Mo_faultOfRest_5 : decode b_Mo_faultOfRest 5 = .ok (.invokestatic 27, 3) := by decide +kernel
theorem d_Mo_faultOfRest_8 : decode b_Mo_faultOfRest 8 = .ok (.aload_n 0, 1) := by decide +kernel
theorem d_Mo_faultOfRest_9 : decode b_Mo_faultOfRest 9 = .ok (.bipush 92, 2) := by decide +kernel
theorem d_Mo_faultOfRest_11 : decode b_Mo_faultOfRest 11 = .ok (.iconst 2, 1) := by decide +kernel
theorem d_Mo_faultOfRest_12 : decode b_Mo_faultOfRest 12 = .ok (.invokestatic 37, 3) := by decide +kernel
theorem d_Mo_faultOfRest_15 : decode b_Mo_faultOfRest 15 = .ok (.ifCond .eq 9, 3) := by decide +kernel
theorem d_Mo_faultOfRest_18 : decode b_Mo_faultOfRest 18 = .ok (.ldc2_w 80, 3) := by decide +kernel
theorem d_Mo_faultOfRest_21 : decode b_Mo_faultOfRest 21 = .ok (.goto 4, 3) := by decide +kernel
theorem d_Mo_faultOfRest_24 : decode b_Mo_faultOfRest 24 = .ok (.lconst 0, 1) := by decide +kernel
theorem d_Mo_faultOfRest_25 : decode b_Mo_faultOfRest 25 = .ok (.lcmp, 1) := by decide +kernel
theorem d_Mo_faultOfRest_26 : decode b_Mo_faultOfRest 26 = .ok (.ifCond .eq 7, 3) := by decide +kernel
theorem d_Mo_faultOfRest_29 : decode b_Mo_faultOfRest 29 = .ok (.sipush 224, 3) := by decide +kernel
theorem d_Mo_faultOfRest_32 : decode b_Mo_faultOfRest 32 = .ok (.ireturn, 1) := by decide +kernel
theorem d_Mo_faultOfRest_33 : decode b_Mo_faultOfRest 33 = .ok (.aload_n 0, 1) := by decide +kernel
theorem d_Mo_faultOfRest_34 : decode b_Mo_faultOfRest 34 = .ok (.sipush 232, 3) := by decide +kernel
theorem d_Mo_faultOfRest_37 : decode b_Mo_faultOfRest 37 = .ok (.iconst 4, 1) := by decide +kernel
theorem d_Mo_faultOfRest_38 : decode b_Mo_faultOfRest 38 = .ok (.invokestatic 27, 3) := by decide +kernel
theorem d_Mo_faultOfRest_41 : decode b_Mo_faultOfRest 41 = .ok (.aload_n 0, 1) := by decide +kernel
theorem d_Mo_faultOfRest_42 : decode b_Mo_faultOfRest 42 = .ok (.iconst 0, 1) := by decide +kernel
theorem d_Mo_faultOfRest_43 : decode b_Mo_faultOfRest 43 = .ok (.iconst 4, 1) := by decide +kernel
theorem d_Mo_faultOfRest_44 : decode b_Mo_faultOfRest 44 = .ok (.invokestatic 27, 3) := by decide +kernel
theorem d_Mo_faultOfRest_47 : decode b_Mo_faultOfRest 47 = .ok (.lcmp, 1) := by decide +kernel
theorem d_Mo_faultOfRest_48 : decode b_Mo_faultOfRest 48 = .ok (.ifCond .le 7, 3) := by decide +kernel
theorem d_Mo_faultOfRest_51 : decode b_Mo_faultOfRest 51 = .ok (.sipush 232, 3) := by decide +kernel
theorem d_Mo_faultOfRest_54 : decode b_Mo_faultOfRest 54 = .ok (.ireturn, 1) := by decide +kernel
theorem d_Mo_faultOfRest_55 : decode b_Mo_faultOfRest 55 = .ok (.aload_n 0, 1) := by decide +kernel
theorem d_Mo_faultOfRest_56 : decode b_Mo_faultOfRest 56 = .ok (.sipush 252, 3) := by decide +kernel
theorem d_Mo_faultOfRest_59 : decode b_Mo_faultOfRest 59 = .ok (.iconst 1, 1) := by decide +kernel
theorem d_Mo_faultOfRest_60 : decode b_Mo_faultOfRest 60 = .ok (.invokestatic 27, 3) := by decide +kernel
theorem d_Mo_faultOfRest_63 : decode b_Mo_faultOfRest 63 = .ok (.aload_n 0, 1) := by decide +kernel
theorem d_Mo_faultOfRest_64 : decode b_Mo_faultOfRest 64 = .ok (.bipush 92, 2) := by decide +kernel
theorem d_Mo_faultOfRest_66 : decode b_Mo_faultOfRest 66 = .ok (.iconst 5, 1) := by decide +kernel
theorem d_Mo_faultOfRest_67 : decode b_Mo_faultOfRest 67 = .ok (.invokestatic 37, 3) := by decide +kernel
theorem d_Mo_faultOfRest_70 : decode b_Mo_faultOfRest 70 = .ok (.ifCond .eq 7, 3) := by decide +kernel
theorem d_Mo_faultOfRest_73 : decode b_Mo_faultOfRest 73 = .ok (.lconst 1, 1) := by decide +kernel
theorem d_Mo_faultOfRest_74 : decode b_Mo_faultOfRest 74 = .ok (.goto 4, 3) := by decide +kernel
theorem d_Mo_faultOfRest_77 : decode b_Mo_faultOfRest 77 = .ok (.lconst 0, 1) := by decide +kernel
theorem d_Mo_faultOfRest_78 : decode b_Mo_faultOfRest 78 = .ok (.lcmp, 1) := by decide +kernel
theorem d_Mo_faultOfRest_79 : decode b_Mo_faultOfRest 79 = .ok (.ifCond .eq 7, 3) := by decide +kernel
theorem d_Mo_faultOfRest_82 : decode b_Mo_faultOfRest 82 = .ok (.sipush 252, 3) := by decide +kernel
theorem d_Mo_faultOfRest_85 : decode b_Mo_faultOfRest 85 = .ok (.ireturn, 1) := by decide +kernel
theorem d_Mo_faultOfRest_86 : decode b_Mo_faultOfRest 86 = .ok (.aload_n 0, 1) := by decide +kernel
theorem d_Mo_faultOfRest_87 : decode b_Mo_faultOfRest 87 = .ok (.sipush 254, 3) := by decide +kernel
theorem d_Mo_faultOfRest_90 : decode b_Mo_faultOfRest 90 = .ok (.iconst 2, 1) := by decide +kernel
theorem d_Mo_faultOfRest_91 : decode b_Mo_faultOfRest 91 = .ok (.invokestatic 27, 3) := by decide +kernel
theorem d_Mo_faultOfRest_94 : decode b_Mo_faultOfRest 94 = .ok (.lconst 0, 1) := by decide +kernel
theorem d_Mo_faultOfRest_95 : decode b_Mo_faultOfRest 95 = .ok (.lcmp, 1) := by decide +kernel
theorem d_Mo_faultOfRest_96 : decode b_Mo_faultOfRest 96 = .ok (.ifCond .ne 8, 3) := by decide +kernel
theorem d_Mo_faultOfRest_99 : decode b_Mo_faultOfRest 99 = .ok (.bipush (-2), 2) := by decide +kernel
theorem d_Mo_faultOfRest_101 : decode b_Mo_faultOfRest 101 = .ok (.goto 6, 3) := by decide +kernel
theorem d_Mo_faultOfRest_104 : decode b_Mo_faultOfRest 104 = .ok (.sipush 254, 3) := by decide +kernel
theorem d_Mo_faultOfRest_107 : decode b_Mo_faultOfRest 107 = .ok (.ireturn, 1) := by decide +kernel
theorem d_Mo_faultOf_0 : decode b_Mo_faultOf 0 = .ok (.aload_n 0, 1) := by decide +kernel
theorem d_Mo_faultOf_1 : decode b_Mo_faultOf 1 = .ok (.invokestatic 110, 3) := by decide +kernel
theorem d_Mo_faultOf_4 : decode b_Mo_faultOf 4 = .ok (.istore_n 1, 1) := by decide +kernel
theorem d_Mo_faultOf_5 : decode b_Mo_faultOf 5 = .ok (.iload_n 1, 1) := by decide +kernel
theorem d_Mo_faultOf_6 : decode b_Mo_faultOf 6 = .ok (.bipush (-2), 2) := by decide +kernel
theorem d_Mo_faultOf_8 : decode b_Mo_faultOf 8 = .ok (.if_icmp .ne 10, 3) := by decide +kernel
theorem d_Mo_faultOf_11 : decode b_Mo_faultOf 11 = .ok (.aload_n 0, 1) := by decide +kernel
theorem d_Mo_faultOf_12 : decode b_Mo_faultOf 12 = .ok (.invokestatic 114, 3) := by decide +kernel
theorem d_Mo_faultOf_15 : decode b_Mo_faultOf 15 = .ok (.goto 4, 3) := by decide +kernel
theorem d_Mo_faultOf_18 : decode b_Mo_faultOf 18 = .ok (.iload_n 1, 1) := by decide +kernel
theorem d_Mo_faultOf_19 : decode b_Mo_faultOf 19 = .ok (.istore_n 1, 1) := by decide +kernel
theorem d_Mo_faultOf_20 : decode b_Mo_faultOf 20 = .ok (.iload_n 1, 1) := by decide +kernel
theorem d_Mo_faultOf_21 : decode b_Mo_faultOf 21 = .ok (.bipush (-2), 2) := by decide +kernel
theorem d_Mo_faultOf_23 : decode b_Mo_faultOf 23 = .ok (.if_icmp .ne 10, 3) := by decide +kernel
theorem d_Mo_faultOf_26 : decode b_Mo_faultOf 26 = .ok (.aload_n 0, 1) := by decide +kernel
theorem d_Mo_faultOf_27 : decode b_Mo_faultOf 27 = .ok (.invokestatic 117, 3) := by decide +kernel
theorem d_Mo_faultOf_30 : decode b_Mo_faultOf 30 = .ok (.goto 4, 3) := by decide +kernel
theorem d_Mo_faultOf_33 : decode b_Mo_faultOf 33 = .ok (.iload_n 1, 1) := by decide +kernel
theorem d_Mo_faultOf_34 : decode b_Mo_faultOf 34 = .ok (.istore_n 1, 1) := by decide +kernel
theorem d_Mo_faultOf_35 : decode b_Mo_faultOf 35 = .ok (.iload_n 1, 1) := by decide +kernel
theorem d_Mo_faultOf_36 : decode b_Mo_faultOf 36 = .ok (.bipush (-2), 2) := by decide +kernel
theorem d_Mo_faultOf_38 : decode b_Mo_faultOf 38 = .ok (.if_icmp .ne 10, 3) := by decide +kernel
theorem d_Mo_faultOf_41 : decode b_Mo_faultOf 41 = .ok (.aload_n 0, 1) := by decide +kernel
theorem d_Mo_faultOf_42 : decode b_Mo_faultOf 42 = .ok (.invokestatic 120, 3) := by decide +kernel
theorem d_Mo_faultOf_45 : decode b_Mo_faultOf 45 = .ok (.goto 4, 3) := by decide +kernel
theorem d_Mo_faultOf_48 : decode b_Mo_faultOf 48 = .ok (.iload_n 1, 1) := by decide +kernel
theorem d_Mo_faultOf_49 : decode b_Mo_faultOf 49 = .ok (.ireturn, 1) := by decide +kernel
theorem d_Mo_isRight_0 : decode b_Mo_isRight 0 = .ok (.aload_n 0, 1) := by decide +kernel
theorem d_Mo_isRight_1 : decode b_Mo_isRight 1 = .ok (.getfield 7, 3) := by decide +kernel
theorem d_Mo_isRight_4 : decode b_Mo_isRight 4 = .ok (.invokestatic 123, 3) := by decide +kernel
theorem d_Mo_isRight_7 : decode b_Mo_isRight 7 = .ok (.bipush (-2), 2) := by decide +kernel
theorem d_Mo_isRight_9 : decode b_Mo_isRight 9 = .ok (.if_icmp .ne 7, 3) := by decide +kernel
theorem d_Mo_isRight_12 : decode b_Mo_isRight 12 = .ok (.iconst 1, 1) := by decide +kernel
theorem d_Mo_isRight_13 : decode b_Mo_isRight 13 = .ok (.goto 4, 3) := by decide +kernel
theorem d_Mo_isRight_16 : decode b_Mo_isRight 16 = .ok (.iconst 0, 1) := by decide +kernel
theorem d_Mo_isRight_17 : decode b_Mo_isRight 17 = .ok (.ireturn, 1) := by decide +kernel
end
section
theorem d_Mo_lay_0 : decode b_Mo_lay 0 = .ok (.iload 5, 2) := by decide +kernel
theorem d_Mo_lay_2 : decode b_Mo_lay 2 = .ok (.ifCond .lt 27, 3) := by decide +kernel
theorem d_Mo_lay_5 : decode b_Mo_lay 5 = .ok (.iload 5, 2) := by decide +kernel
theorem d_Mo_lay_7 : decode b_Mo_lay 7 = .ok (.iconst 2, 1) := by decide +kernel
theorem d_Mo_lay_8 : decode b_Mo_lay 8 = .ok (.if_icmp .gt 21, 3) := by decide +kernel
theorem d_Mo_lay_11 : decode b_Mo_lay 11 = .ok (.iload 4, 2) := by decide +kernel
theorem d_Mo_lay_13 : decode b_Mo_lay 13 = .ok (.ifCond .lt 16, 3) := by decide +kernel
theorem d_Mo_lay_16 : decode b_Mo_lay 16 = .ok (.iload 4, 2) := by decide +kernel
theorem d_Mo_lay_18 : decode b_Mo_lay 18 = .ok (.sipush 1024, 3) := by decide +kernel
theorem d_Mo_lay_21 : decode b_Mo_lay 21 = .ok (.if_icmp .gt 8, 3) := by decide +kernel
theorem d_Mo_lay_24 : decode b_Mo_lay 24 = .ok (.iload_n 2, 1) := by decide +kernel
theorem d_Mo_lay_25 : decode b_Mo_lay 25 = .ok (.iconst 1, 1) := by decide +kernel
theorem d_Mo_lay_26 : decode b_Mo_lay 26 = .ok (.if_icmp .ge 5, 3) := by decide +kernel
theorem d_Mo_lay_29 : decode b_Mo_lay 29 = .ok (.iconst (-1), 1) := by decide +kernel
theorem d_Mo_lay_30 : decode b_Mo_lay 30 = .ok (.ireturn, 1) := by decide +kernel
theorem d_Mo_lay_31 : decode b_Mo_lay 31 = .ok (.iconst 0, 1) := by decide +kernel
theorem d_Mo_lay_32 : decode b_Mo_lay 32 = .ok (.istore 6, 2) := by decide +kernel
theorem d_Mo_lay_34 : decode b_Mo_lay 34 = .ok (.iload 6, 2) := by decide +kernel
theorem d_Mo_lay_36 : decode b_Mo_lay 36 = .ok (.sipush 1024, 3) := by decide +kernel
theorem d_Mo_lay_39 : decode b_Mo_lay 39 = .ok (.if_icmp .ge 17, 3) := by decide +kernel
theorem d_Mo_lay_42 : decode b_Mo_lay 42 = .ok (.aload_n 0, 1) := by decide +kernel
theorem d_Mo_lay_43 : decode b_Mo_lay 43 = .ok (.getfield 16, 3) := by decide +kernel
theorem d_Mo_lay_46 : decode b_Mo_lay 46 = .ok (.iload 6, 2) := by decide +kernel
theorem d_Mo_lay_48 : decode b_Mo_lay 48 = .ok (.iconst 0, 1) := by decide +kernel
theorem d_Mo_lay_49 : decode b_Mo_lay 49 = .ok (.iastore, 1) := by decide +kernel
theorem d_Mo_lay_50 : decode b_Mo_lay 50 = .ok (.iinc 6 1, 3) := by decide +kernel
theorem d_Mo_lay_53 : decode b_Mo_lay 53 = .ok (.goto (-19), 3) := by decide +kernel
theorem d_Mo_lay_56 : decode b_Mo_lay 56 = .ok (.aload_n 0, 1) := by decide +kernel
theorem d_Mo_lay_57 : decode b_Mo_lay 57 = .ok (.getfield 16, 3) := by decide +kernel
theorem d_Mo_lay_60 : decode b_Mo_lay 60 = .ok (.iconst 4, 1) := by decide +kernel
theorem d_Mo_lay_61 : decode b_Mo_lay 61 = .ok (.iconst 4, 1) := by decide +kernel
theorem d_Mo_lay_62 : decode b_Mo_lay 62 = .ok (.iload_n 1, 1) := by decide +kernel
theorem d_Mo_lay_63 : decode b_Mo_lay 63 = .ok (.i2l, 1) := by decide +kernel
theorem d_Mo_lay_64 : decode b_Mo_lay 64 = .ok (.invokestatic 126, 3) := by decide +kernel
theorem d_Mo_lay_67 : decode b_Mo_lay 67 = .ok (.aload_n 0, 1) := by decide +kernel
theorem d_Mo_lay_68 : decode b_Mo_lay 68 = .ok (.getfield 16, 3) := by decide +kernel
theorem d_Mo_lay_71 : decode b_Mo_lay 71 = .ok (.bipush 20, 2) := by decide +kernel
theorem d_Mo_lay_73 : decode b_Mo_lay 73 = .ok (.iconst 4, 1) := by decide +kernel
theorem d_Mo_lay_74 : decode b_Mo_lay 74 = .ok (.iload 5, 2) := by decide +kernel
theorem d_Mo_lay_76 : decode b_Mo_lay 76 = .ok (.ifCond .ne 7, 3) := by decide +kernel
theorem d_Mo_lay_79 : decode b_Mo_lay 79 = .ok (.lconst 1, 1) := by decide +kernel
theorem d_Mo_lay_80 : decode b_Mo_lay 80 = .ok (.goto 4, 3) := by decide +kernel
theorem d_Mo_lay_83 : decode b_Mo_lay 83 = .ok (.lconst 0, 1) := by decide +kernel
theorem d_Mo_lay_84 : decode b_Mo_lay 84 = .ok (.invokestatic 126, 3) := by decide +kernel
theorem d_Mo_lay_87 : decode b_Mo_lay 87 = .ok (.aload_n 0, 1) := by decide +kernel
theorem d_Mo_lay_88 : decode b_Mo_lay 88 = .ok (.getfield 16, 3) := by decide +kernel
theorem d_Mo_lay_91 : decode b_Mo_lay 91 = .ok (.bipush 24, 2) := by decide +kernel
theorem d_Mo_lay_93 : decode b_Mo_lay 93 = .ok (.iconst 4, 1) := by decide +kernel
theorem d_Mo_lay_94 : decode b_Mo_lay 94 = .ok (.iload 5, 2) := by decide +kernel
theorem d_Mo_lay_96 : decode b_Mo_lay 96 = .ok (.i2l, 1) := by decide +kernel
theorem d_Mo_lay_97 : decode b_Mo_lay 97 = .ok (.invokestatic 126, 3) := by decide +kernel
theorem d_Mo_lay_100 : decode b_Mo_lay 100 = .ok (.aload_n 0, 1) := by decide +kernel
theorem d_Mo_lay_101 : decode b_Mo_lay 101 = .ok (.getfield 16, 3) := by decide +kernel
theorem d_Mo_lay_104 : decode b_Mo_lay 104 = .ok (.bipush 28, 2) := by decide +kernel
theorem d_Mo_lay_106 : decode b_Mo_lay 106 = .ok (.iconst 4, 1) := by decide +kernel
theorem d_Mo_lay_107 : decode b_Mo_lay 107 = .ok (.iload 5, 2) := by decide +kernel
theorem d_Mo_lay_109 : decode b_Mo_lay 109 = .ok (.i2l, 1) := by decide +kernel
theorem d_Mo_lay_110 : decode b_Mo_lay 110 = .ok (.invokestatic 126, 3) := by decide +kernel
theorem d_Mo_lay_113 : decode b_Mo_lay 113 = .ok (.aload_n 0, 1) := by decide +kernel
theorem d_Mo_lay_114 : decode b_Mo_lay 114 = .ok (.getfield 16, 3) := by decide +kernel
theorem d_Mo_lay_117 : decode b_Mo_lay 117 = .ok (.bipush 32, 2) := by decide +kernel
theorem d_Mo_lay_119 : decode b_Mo_lay 119 = .ok (.iconst 4, 1) := by decide +kernel
theorem d_Mo_lay_120 : decode b_Mo_lay 120 = .ok (.iload_n 2, 1) := by decide +kernel
theorem d_Mo_lay_121 : decode b_Mo_lay 121 = .ok (.i2l, 1) := by decide +kernel
theorem d_Mo_lay_122 : decode b_Mo_lay 122 = .ok (.invokestatic 126, 3) := by decide +kernel
theorem d_Mo_lay_125 : decode b_Mo_lay 125 = .ok (.aload_n 0, 1) := by decide +kernel
theorem d_Mo_lay_126 : decode b_Mo_lay 126 = .ok (.getfield 16, 3) := by decide +kernel
theorem d_Mo_lay_129 : decode b_Mo_lay 129 = .ok (.bipush 36, 2) := by decide +kernel
theorem d_Mo_lay_131 : decode b_Mo_lay 131 = .ok (.iconst 4, 1) := by decide +kernel
theorem d_Mo_lay_132 : decode b_Mo_lay 132 = .ok (.iload_n 2, 1) := by decide +kernel
theorem d_Mo_lay_133 : decode b_Mo_lay 133 = .ok (.i2l, 1) := by decide +kernel
theorem d_Mo_lay_134 : decode b_Mo_lay 134 = .ok (.invokestatic 126, 3) := by decide +kernel
theorem d_Mo_lay_137 : decode b_Mo_lay 137 = .ok (.aload_n 0, 1) := by decide +kernel
theorem d_Mo_lay_138 : decode b_Mo_lay 138 = .ok (.getfield 16, 3) := by decide +kernel
theorem d_Mo_lay_141 : decode b_Mo_lay 141 = .ok (.bipush 40, 2) := by decide +kernel
theorem d_Mo_lay_143 : decode b_Mo_lay 143 = .ok (.iconst 4, 1) := by decide +kernel
theorem d_Mo_lay_144 : decode b_Mo_lay 144 = .ok (.iload_n 3, 1) := by decide +kernel
theorem d_Mo_lay_145 : decode b_Mo_lay 145 = .ok (.i2l, 1) := by decide +kernel
theorem d_Mo_lay_146 : decode b_Mo_lay 146 = .ok (.invokestatic 126, 3) := by decide +kernel
theorem d_Mo_lay_149 : decode b_Mo_lay 149 = .ok (.aload_n 0, 1) := by decide +kernel
theorem d_Mo_lay_150 : decode b_Mo_lay 150 = .ok (.getfield 16, 3) := by decide +kernel
theorem d_Mo_lay_153 : decode b_Mo_lay 153 = .ok (.bipush 54, 2) := by decide +kernel
theorem d_Mo_lay_155 : decode b_Mo_lay 155 = .ok (.iconst 2, 1) := by decide +kernel
theorem d_Mo_lay_156 : decode b_Mo_lay 156 = .ok (.ldc2_w 130, 3) := by decide +kernel
theorem d_Mo_lay_159 : decode b_Mo_lay 159 = .ok (.invokestatic 126, 3) := by decide +kernel
theorem d_Mo_lay_162 : decode b_Mo_lay 162 = .ok (.aload_n 0, 1) := by decide +kernel
theorem d_Mo_lay_163 : decode b_Mo_lay 163 = .ok (.getfield 16, 3) := by decide +kernel
theorem d_Mo_lay_166 : decode b_Mo_lay 166 = .ok (.bipush 56, 2) := by decide +kernel
theorem d_Mo_lay_168 : decode b_Mo_lay 168 = .ok (.iconst 2, 1) := by decide +kernel
theorem d_Mo_lay_169 : decode b_Mo_lay 169 = .ok (.ldc2_w 76, 3) := by decide +kernel
theorem d_Mo_lay_172 : decode b_Mo_lay 172 = .ok (.invokestatic 126, 3) := by decide +kernel
theorem d_Mo_lay_175 : decode b_Mo_lay 175 = .ok (.aload_n 0, 1) := by decide +kernel
theorem d_Mo_lay_176 : decode b_Mo_lay 176 = .ok (.getfield 16, 3) := by decide +kernel
theorem d_Mo_lay_179 : decode b_Mo_lay 179 = .ok (.bipush 58, 2) := by decide +kernel
theorem d_Mo_lay_181 : decode b_Mo_lay 181 = .ok (.iconst 2, 1) := by decide +kernel
theorem d_Mo_lay_182 : decode b_Mo_lay 182 = .ok (.lconst 1, 1) := by decide +kernel
theorem d_Mo_lay_183 : decode b_Mo_lay 183 = .ok (.invokestatic 126, 3) := by decide +kernel
theorem d_Mo_lay_186 : decode b_Mo_lay 186 = .ok (.aload_n 0, 1) := by decide +kernel
theorem d_Mo_lay_187 : decode b_Mo_lay 187 = .ok (.getfield 16, 3) := by decide +kernel
theorem d_Mo_lay_190 : decode b_Mo_lay 190 = .ok (.bipush 76, 2) := by decide +kernel
theorem d_Mo_lay_192 : decode b_Mo_lay 192 = .ok (.iconst 4, 1) := by decide +kernel
theorem d_Mo_lay_193 : decode b_Mo_lay 193 = .ok (.lconst 1, 1) := by decide +kernel
theorem d_Mo_lay_194 : decode b_Mo_lay 194 = .ok (.invokestatic 126, 3) := by decide +kernel
theorem d_Mo_lay_197 : decode b_Mo_lay 197 = .ok (.aload_n 0, 1) := by decide +kernel
theorem d_Mo_lay_198 : decode b_Mo_lay 198 = .ok (.getfield 16, 3) := by decide +kernel
theorem d_Mo_lay_201 : decode b_Mo_lay 201 = .ok (.bipush 84, 2) := by decide +kernel
theorem d_Mo_lay_203 : decode b_Mo_lay 203 = .ok (.iconst 4, 1) := by decide +kernel
theorem d_Mo_lay_204 : decode b_Mo_lay 204 = .ok (.ldc2_w 104, 3) := by decide +kernel
theorem d_Mo_lay_207 : decode b_Mo_lay 207 = .ok (.invokestatic 126, 3) := by decide +kernel
theorem d_Mo_lay_210 : decode b_Mo_lay 210 = .ok (.aload_n 0, 1) := by decide +kernel
theorem d_Mo_lay_211 : decode b_Mo_lay 211 = .ok (.getfield 16, 3) := by decide +kernel
theorem d_Mo_lay_214 : decode b_Mo_lay 214 = .ok (.bipush 88, 2) := by decide +kernel
theorem d_Mo_lay_216 : decode b_Mo_lay 216 = .ok (.iconst 2, 1) := by decide +kernel
theorem d_Mo_lay_217 : decode b_Mo_lay 217 = .ok (.iload 4, 2) := by decide +kernel
theorem d_Mo_lay_219 : decode b_Mo_lay 219 = .ok (.i2l, 1) := by decide +kernel
theorem d_Mo_lay_220 : decode b_Mo_lay 220 = .ok (.invokestatic 126, 3) := by decide +kernel
theorem d_Mo_lay_223 : decode b_Mo_lay 223 = .ok (.aload_n 0, 1) := by decide +kernel
theorem d_Mo_lay_224 : decode b_Mo_lay 224 = .ok (.getfield 16, 3) := by decide +kernel
theorem d_Mo_lay_227 : decode b_Mo_lay 227 = .ok (.bipush 92, 2) := by decide +kernel
theorem d_Mo_lay_229 : decode b_Mo_lay 229 = .ok (.iconst 4, 1) := by decide +kernel
theorem d_Mo_lay_230 : decode b_Mo_lay 230 = .ok (.ldc2_w 132, 3) := by decide +kernel
theorem d_Mo_lay_233 : decode b_Mo_lay 233 = .ok (.invokestatic 126, 3) := by decide +kernel
theorem d_Mo_lay_236 : decode b_Mo_lay 236 = .ok (.aload_n 0, 1) := by decide +kernel
theorem d_Mo_lay_237 : decode b_Mo_lay 237 = .ok (.getfield 16, 3) := by decide +kernel
theorem d_Mo_lay_240 : decode b_Mo_lay 240 = .ok (.bipush 96, 2) := by decide +kernel
theorem d_Mo_lay_242 : decode b_Mo_lay 242 = .ok (.iconst 4, 1) := by decide +kernel
theorem d_Mo_lay_243 : decode b_Mo_lay 243 = .ok (.ldc2_w 134, 3) := by decide +kernel
theorem d_Mo_lay_246 : decode b_Mo_lay 246 = .ok (.invokestatic 126, 3) := by decide +kernel
theorem d_Mo_lay_249 : decode b_Mo_lay 249 = .ok (.aload_n 0, 1) := by decide +kernel
theorem d_Mo_lay_250 : decode b_Mo_lay 250 = .ok (.getfield 16, 3) := by decide +kernel
theorem d_Mo_lay_253 : decode b_Mo_lay 253 = .ok (.bipush 100, 2) := by decide +kernel
theorem d_Mo_lay_255 : decode b_Mo_lay 255 = .ok (.iconst 4, 1) := by decide +kernel
theorem d_Mo_lay_256 : decode b_Mo_lay 256 = .ok (.ldc2_w 43, 3) := by decide +kernel
theorem d_Mo_lay_259 : decode b_Mo_lay 259 = .ok (.invokestatic 126, 3) := by decide +kernel
theorem d_Mo_lay_262 : decode b_Mo_lay 262 = .ok (.aload_n 0, 1) := by decide +kernel
theorem d_Mo_lay_263 : decode b_Mo_lay 263 = .ok (.getfield 16, 3) := by decide +kernel
theorem d_Mo_lay_266 : decode b_Mo_lay 266 = .ok (.sipush 224, 3) := by decide +kernel
theorem d_Mo_lay_269 : decode b_Mo_lay 269 = .ok (.iconst 4, 1) := by decide +kernel
theorem d_Mo_lay_270 : decode b_Mo_lay 270 = .ok (.ldc2_w 80, 3) := by decide +kernel
theorem d_Mo_lay_273 : decode b_Mo_lay 273 = .ok (.invokestatic 126, 3) := by decide +kernel
theorem d_Mo_lay_276 : decode b_Mo_lay 276 = .ok (.aload_n 0, 1) := by decide +kernel
theorem d_Mo_lay_277 : decode b_Mo_lay 277 = .ok (.getfield 16, 3) := by decide +kernel
theorem d_Mo_lay_280 : decode b_Mo_lay 280 = .ok (.sipush 252, 3) := by decide +kernel
theorem d_Mo_lay_283 : decode b_Mo_lay 283 = .ok (.iconst 1, 1) := by decide +kernel
theorem d_Mo_lay_284 : decode b_Mo_lay 284 = .ok (.lconst 1, 1) := by decide +kernel
theorem d_Mo_lay_285 : decode b_Mo_lay 285 = .ok (.invokestatic 126, 3) := by decide +kernel
theorem d_Mo_lay_288 : decode b_Mo_lay 288 = .ok (.aload_n 0, 1) := by decide +kernel
theorem d_Mo_lay_289 : decode b_Mo_lay 289 = .ok (.getfield 16, 3) := by decide +kernel
theorem d_Mo_lay_292 : decode b_Mo_lay 292 = .ok (.iconst 0, 1) := by decide +kernel
theorem d_Mo_lay_293 : decode b_Mo_lay 293 = .ok (.iconst 4, 1) := by decide +kernel
theorem d_Mo_lay_294 : decode b_Mo_lay 294 = .ok (.aload_n 0, 1) := by decide +kernel
theorem d_Mo_lay_295 : decode b_Mo_lay 295 = .ok (.getfield 16, 3) := by decide +kernel
theorem d_Mo_lay_298 : decode b_Mo_lay 298 = .ok (.invokestatic 63, 3) := by decide +kernel
theorem d_Mo_lay_301 : decode b_Mo_lay 301 = .ok (.aload_n 0, 1) := by decide +kernel
theorem d_Mo_lay_302 : decode b_Mo_lay 302 = .ok (.getfield 16, 3) := by decide +kernel
theorem d_Mo_lay_305 : decode b_Mo_lay 305 = .ok (.bipush 40, 2) := by decide +kernel
theorem d_Mo_lay_307 : decode b_Mo_lay 307 = .ok (.iconst 4, 1) := by decide +kernel
theorem d_Mo_lay_308 : decode b_Mo_lay 308 = .ok (.invokestatic 27, 3) := by decide +kernel
theorem d_Mo_lay_311 : decode b_Mo_lay 311 = .ok (.lmul, 1) := by decide +kernel
theorem d_Mo_lay_312 : decode b_Mo_lay 312 = .ok (.invokestatic 126, 3) := by decide +kernel
theorem d_Mo_lay_315 : decode b_Mo_lay 315 = .ok (.aload_n 0, 1) := by decide +kernel
theorem d_Mo_lay_316 : decode b_Mo_lay 316 = .ok (.getfield 16, 3) := by decide +kernel
theorem d_Mo_lay_319 : decode b_Mo_lay 319 = .ok (.invokestatic 123, 3) := by decide +kernel
theorem d_Mo_lay_322 : decode b_Mo_lay 322 = .ok (.bipush (-2), 2) := by decide +kernel
theorem d_Mo_lay_324 : decode b_Mo_lay 324 = .ok (.if_icmp .eq 5, 3) := by decide +kernel
theorem d_Mo_lay_327 : decode b_Mo_lay 327 = .ok (.iconst (-1), 1) := by decide +kernel
theorem d_Mo_lay_328 : decode b_Mo_lay 328 = .ok (.ireturn, 1) := by decide +kernel
theorem d_Mo_lay_329 : decode b_Mo_lay 329 = .ok (.iconst 0, 1) := by decide +kernel
theorem d_Mo_lay_330 : decode b_Mo_lay 330 = .ok (.istore 6, 2) := by decide +kernel
theorem d_Mo_lay_332 : decode b_Mo_lay 332 = .ok (.iload 6, 2) := by decide +kernel
theorem d_Mo_lay_334 : decode b_Mo_lay 334 = .ok (.sipush 1024, 3) := by decide +kernel
theorem d_Mo_lay_337 : decode b_Mo_lay 337 = .ok (.if_icmp .ge 37, 3) := by decide +kernel
theorem d_Mo_lay_340 : decode b_Mo_lay 340 = .ok (.aload_n 0, 1) := by decide +kernel
theorem d_Mo_lay_341 : decode b_Mo_lay 341 = .ok (.getfield 7, 3) := by decide +kernel
theorem d_Mo_lay_344 : decode b_Mo_lay 344 = .ok (.iload 6, 2) := by decide +kernel
theorem d_Mo_lay_346 : decode b_Mo_lay 346 = .ok (.aload_n 0, 1) := by decide +kernel
theorem d_Mo_lay_347 : decode b_Mo_lay 347 = .ok (.getfield 16, 3) := by decide +kernel
theorem d_Mo_lay_350 : decode b_Mo_lay 350 = .ok (.iload 6, 2) := by decide +kernel
theorem d_Mo_lay_352 : decode b_Mo_lay 352 = .ok (.iaload, 1) := by decide +kernel
theorem d_Mo_lay_353 : decode b_Mo_lay 353 = .ok (.iastore, 1) := by decide +kernel
theorem d_Mo_lay_354 : decode b_Mo_lay 354 = .ok (.aload_n 0, 1) := by decide +kernel
theorem d_Mo_lay_355 : decode b_Mo_lay 355 = .ok (.getfield 13, 3) := by decide +kernel
theorem d_Mo_lay_358 : decode b_Mo_lay 358 = .ok (.iload 6, 2) := by decide +kernel
theorem d_Mo_lay_360 : decode b_Mo_lay 360 = .ok (.aload_n 0, 1) := by decide +kernel
theorem d_Mo_lay_361 : decode b_Mo_lay 361 = .ok (.getfield 16, 3) := by decide +kernel
theorem d_Mo_lay_364 : decode b_Mo_lay 364 = .ok (.iload 6, 2) := by decide +kernel
theorem d_Mo_lay_366 : decode b_Mo_lay 366 = .ok (.iaload, 1) := by decide +kernel
theorem d_Mo_lay_367 : decode b_Mo_lay 367 = .ok (.iastore, 1) := by decide +kernel
theorem d_Mo_lay_368 : decode b_Mo_lay 368 = .ok (.iinc 6 1, 3) := by decide +kernel
theorem d_Mo_lay_371 : decode b_Mo_lay 371 = .ok (.goto (-39), 3) := by decide +kernel
theorem d_Mo_lay_374 : decode b_Mo_lay 374 = .ok (.aload_n 0, 1) := by decide +kernel
theorem d_Mo_lay_375 : decode b_Mo_lay 375 = .ok (.getfield 7, 3) := by decide +kernel
theorem d_Mo_lay_378 : decode b_Mo_lay 378 = .ok (.invokestatic 63, 3) := by decide +kernel
theorem d_Mo_lay_381 : decode b_Mo_lay 381 = .ok (.l2i, 1) := by decide +kernel
theorem d_Mo_lay_382 : decode b_Mo_lay 382 = .ok (.ireturn, 1) := by decide +kernel
theorem d_Mo_poke_0 : decode b_Mo_poke 0 = .ok (.iload_n 1, 1) := by decide +kernel
theorem d_Mo_poke_1 : decode b_Mo_poke 1 = .ok (.invokestatic 136, 3) := by decide +kernel
theorem d_Mo_poke_4 : decode b_Mo_poke 4 = .ok (.ifCond .eq 25, 3) := by decide +kernel
theorem d_Mo_poke_7 : decode b_Mo_poke 7 = .ok (.iload_n 2, 1) := by decide +kernel
theorem d_Mo_poke_8 : decode b_Mo_poke 8 = .ok (.ifCond .lt 21, 3) := by decide +kernel
theorem d_Mo_poke_11 : decode b_Mo_poke 11 = .ok (.iload_n 2, 1) := by decide +kernel
theorem d_Mo_poke_12 : decode b_Mo_poke 12 = .ok (.sipush 1024, 3) := by decide +kernel
theorem d_Mo_poke_15 : decode b_Mo_poke 15 = .ok (.if_icmp .ge 14, 3) := by decide +kernel
theorem d_Mo_poke_18 : decode b_Mo_poke 18 = .ok (.iload_n 3, 1) := by decide +kernel
theorem d_Mo_poke_19 : decode b_Mo_poke 19 = .ok (.ifCond .lt 10, 3) := by decide +kernel
theorem d_Mo_poke_22 : decode b_Mo_poke 22 = .ok (.iload_n 3, 1) := by decide +kernel
theorem d_Mo_poke_23 : decode b_Mo_poke 23 = .ok (.sipush 255, 3) := by decide +kernel
theorem d_Mo_poke_26 : decode b_Mo_poke 26 = .ok (.if_icmp .le 5, 3) := by decide +kernel
theorem d_Mo_poke_29 : decode b_Mo_poke 29 = .ok (.iconst (-1), 1) := by decide +kernel
theorem d_Mo_poke_30 : decode b_Mo_poke 30 = .ok (.ireturn, 1) := by decide +kernel
theorem d_Mo_poke_31 : decode b_Mo_poke 31 = .ok (.aload_n 0, 1) := by decide +kernel
theorem d_Mo_poke_32 : decode b_Mo_poke 32 = .ok (.iload_n 1, 1) := by decide +kernel
theorem d_Mo_poke_33 : decode b_Mo_poke 33 = .ok (.invokevirtual 140, 3) := by decide +kernel
theorem d_Mo_poke_36 : decode b_Mo_poke 36 = .ok (.iload_n 2, 1) := by decide +kernel
theorem d_Mo_poke_37 : decode b_Mo_poke 37 = .ok (.iaload, 1) := by decide +kernel
theorem d_Mo_poke_38 : decode b_Mo_poke 38 = .ok (.istore 4, 2) := by decide +kernel
theorem d_Mo_poke_40 : decode b_Mo_poke 40 = .ok (.aload_n 0, 1) := by decide +kernel
theorem d_Mo_poke_41 : decode b_Mo_poke 41 = .ok (.iload_n 1, 1) := by decide +kernel
theorem d_Mo_poke_42 : decode b_Mo_poke 42 = .ok (.invokevirtual 140, 3) := by decide +kernel
theorem d_Mo_poke_45 : decode b_Mo_poke 45 = .ok (.iload_n 2, 1) := by decide +kernel
theorem d_Mo_poke_46 : decode b_Mo_poke 46 = .ok (.iload_n 3, 1) := by decide +kernel
theorem d_Mo_poke_47 : decode b_Mo_poke 47 = .ok (.iastore, 1) := by decide +kernel
theorem d_Mo_poke_48 : decode b_Mo_poke 48 = .ok (.iload 4, 2) := by decide +kernel
theorem d_Mo_poke_50 : decode b_Mo_poke 50 = .ok (.ireturn, 1) := by decide +kernel
theorem d_Mo_isField_0 : decode b_Mo_isField 0 = .ok (.iload_n 0, 1) := by decide +kernel
theorem d_Mo_isField_1 : decode b_Mo_isField 1 = .ok (.invokestatic 136, 3) := by decide +kernel
theorem d_Mo_isField_4 : decode b_Mo_isField 4 = .ok (.ifCond .eq 35, 3) := by decide +kernel
theorem d_Mo_isField_7 : decode b_Mo_isField 7 = .ok (.iload_n 2, 1) := by decide +kernel
theorem d_Mo_isField_8 : decode b_Mo_isField 8 = .ok (.iconst 1, 1) := by decide +kernel
theorem d_Mo_isField_9 : decode b_Mo_isField 9 = .ok (.if_icmp .eq 13, 3) := by decide +kernel
theorem d_Mo_isField_12 : decode b_Mo_isField 12 = .ok (.iload_n 2, 1) := by decide +kernel
theorem d_Mo_isField_13 : decode b_Mo_isField 13 = .ok (.iconst 2, 1) := by decide +kernel
theorem d_Mo_isField_14 : decode b_Mo_isField 14 = .ok (.if_icmp .eq 8, 3) := by decide +kernel
theorem d_Mo_isField_17 : decode b_Mo_isField 17 = .ok (.iload_n 2, 1) := by decide +kernel
theorem d_Mo_isField_18 : decode b_Mo_isField 18 = .ok (.iconst 4, 1) := by decide +kernel
theorem d_Mo_isField_19 : decode b_Mo_isField 19 = .ok (.if_icmp .ne 20, 3) := by decide +kernel
theorem d_Mo_isField_22 : decode b_Mo_isField 22 = .ok (.iload_n 1, 1) := by decide +kernel
theorem d_Mo_isField_23 : decode b_Mo_isField 23 = .ok (.ifCond .lt 16, 3) := by decide +kernel
theorem d_Mo_isField_26 : decode b_Mo_isField 26 = .ok (.iload_n 1, 1) := by decide +kernel
theorem d_Mo_isField_27 : decode b_Mo_isField 27 = .ok (.sipush 1024, 3) := by decide +kernel
theorem d_Mo_isField_30 : decode b_Mo_isField 30 = .ok (.iload_n 2, 1) := by decide +kernel
theorem d_Mo_isField_31 : decode b_Mo_isField 31 = .ok (.isub, 1) := by decide +kernel
theorem d_Mo_isField_32 : decode b_Mo_isField 32 = .ok (.if_icmp .gt 7, 3) := by decide +kernel
theorem d_Mo_isField_35 : decode b_Mo_isField 35 = .ok (.iconst 1, 1) := by decide +kernel
theorem d_Mo_isField_36 : decode b_Mo_isField 36 = .ok (.goto 4, 3) := by decide +kernel
theorem d_Mo_isField_39 : decode b_Mo_isField 39 = .ok (.iconst 0, 1) := by decide +kernel
theorem d_Mo_isField_40 : decode b_Mo_isField 40 = .ok (.ireturn, 1) := by decide +kernel
theorem d_Mo_put_0 : decode b_Mo_put 0 = .ok (.iload_n 1, 1) := by decide +kernel
theorem d_Mo_put_1 : decode b_Mo_put 1 = .ok (.iload_n 2, 1) := by decide +kernel
theorem d_Mo_put_2 : decode b_Mo_put 2 = .ok (.iload_n 3, 1) := by decide +kernel
theorem d_Mo_put_3 : decode b_Mo_put 3 = .ok (.invokestatic 144, 3) := by decide +kernel
theorem d_Mo_put_6 : decode b_Mo_put 6 = .ok (.ifCond .ne 5, 3) := by decide +kernel
theorem d_Mo_put_9 : decode b_Mo_put 9 = .ok (.iconst (-1), 1) := by decide +kernel
theorem d_Mo_put_10 : decode b_Mo_put 10 = .ok (.ireturn, 1) := by decide +kernel
theorem d_Mo_put_11 : decode b_Mo_put 11 = .ok (.aload_n 0, 1) := by decide +kernel
theorem d_Mo_put_12 : decode b_Mo_put 12 = .ok (.iload_n 1, 1) := by decide +kernel
theorem d_Mo_put_13 : decode b_Mo_put 13 = .ok (.invokevirtual 140, 3) := by decide +kernel
theorem d_Mo_put_16 : decode b_Mo_put 16 = .ok (.iload_n 2, 1) := by decide +kernel
theorem d_Mo_put_17 : decode b_Mo_put 17 = .ok (.iload_n 3, 1) := by decide +kernel
theorem d_Mo_put_18 : decode b_Mo_put 18 = .ok (.iload 4, 2) := by decide +kernel
theorem d_Mo_put_20 : decode b_Mo_put 20 = .ok (.i2l, 1) := by decide +kernel
theorem d_Mo_put_21 : decode b_Mo_put 21 = .ok (.invokestatic 126, 3) := by decide +kernel
theorem d_Mo_put_24 : decode b_Mo_put 24 = .ok (.iconst 0, 1) := by decide +kernel
theorem d_Mo_put_25 : decode b_Mo_put 25 = .ok (.ireturn, 1) := by decide +kernel
theorem d_Mo_get_0 : decode b_Mo_get 0 = .ok (.iload_n 1, 1) := by decide +kernel
theorem d_Mo_get_1 : decode b_Mo_get 1 = .ok (.iload_n 2, 1) := by decide +kernel
theorem d_Mo_get_2 : decode b_Mo_get 2 = .ok (.iload_n 3, 1) := by decide +kernel
theorem d_Mo_get_3 : decode b_Mo_get 3 = .ok (.invokestatic 144, 3) := by decide +kernel
theorem d_Mo_get_6 : decode b_Mo_get 6 = .ok (.ifCond .eq 16, 3) := by decide +kernel
theorem d_Mo_get_9 : decode b_Mo_get 9 = .ok (.aload_n 0, 1) := by decide +kernel
theorem d_Mo_get_10 : decode b_Mo_get 10 = .ok (.iload_n 1, 1) := by decide +kernel
theorem d_Mo_get_11 : decode b_Mo_get 11 = .ok (.invokevirtual 140, 3) := by decide +kernel
theorem d_Mo_get_14 : decode b_Mo_get 14 = .ok (.iload_n 2, 1) := by decide +kernel
theorem d_Mo_get_15 : decode b_Mo_get 15 = .ok (.iload_n 3, 1) := by decide +kernel
theorem d_Mo_get_16 : decode b_Mo_get 16 = .ok (.invokestatic 27, 3) := by decide +kernel
theorem d_Mo_get_19 : decode b_Mo_get 19 = .ok (.goto 6, 3) := by decide +kernel
theorem d_Mo_get_22 : decode b_Mo_get 22 = .ok (.ldc2_w 148, 3) := by decide +kernel
theorem d_Mo_get_25 : decode b_Mo_get 25 = .ok (.lreturn, 1) := by decide +kernel
theorem d_Mo_fault_0 : decode b_Mo_fault 0 = .ok (.iload_n 1, 1) := by decide +kernel
theorem d_Mo_fault_1 : decode b_Mo_fault 1 = .ok (.invokestatic 136, 3) := by decide +kernel
theorem d_Mo_fault_4 : decode b_Mo_fault 4 = .ok (.ifCond .eq 14, 3) := by decide +kernel
theorem d_Mo_fault_7 : decode b_Mo_fault 7 = .ok (.aload_n 0, 1) := by decide +kernel
theorem d_Mo_fault_8 : decode b_Mo_fault 8 = .ok (.iload_n 1, 1) := by decide +kernel
theorem d_Mo_fault_9 : decode b_Mo_fault 9 = .ok (.invokevirtual 140, 3) := by decide +kernel
theorem d_Mo_fault_12 : decode b_Mo_fault 12 = .ok (.invokestatic 123, 3) := by decide +kernel
theorem d_Mo_fault_15 : decode b_Mo_fault 15 = .ok (.goto 4, 3) := by decide +kernel
theorem d_Mo_fault_18 : decode b_Mo_fault 18 = .ok (.iconst (-1), 1) := by decide +kernel
theorem d_Mo_fault_19 : decode b_Mo_fault 19 = .ok (.ireturn, 1) := by decide +kernel
theorem d_Mo_copy_0 : decode b_Mo_copy 0 = .ok (.aload_n 0, 1) := by decide +kernel
theorem d_Mo_copy_1 : decode b_Mo_copy 1 = .ok (.invokevirtual 150, 3) := by decide +kernel
theorem d_Mo_copy_4 : decode b_Mo_copy 4 = .ok (.ifCond .eq 32, 3) := by decide +kernel
theorem d_Mo_copy_7 : decode b_Mo_copy 7 = .ok (.iload_n 1, 1) := by decide +kernel
theorem d_Mo_copy_8 : decode b_Mo_copy 8 = .ok (.ifCond .lt 28, 3) := by decide +kernel
theorem d_Mo_copy_11 : decode b_Mo_copy 11 = .ok (.iload_n 1, 1) := by decide +kernel
theorem d_Mo_copy_12 : decode b_Mo_copy 12 = .ok (.i2l, 1) := by decide +kernel
theorem d_Mo_copy_13 : decode b_Mo_copy 13 = .ok (.aload_n 0, 1) := by decide +kernel
theorem d_Mo_copy_14 : decode b_Mo_copy 14 = .ok (.getfield 7, 3) := by decide +kernel
theorem d_Mo_copy_17 : decode b_Mo_copy 17 = .ok (.invokestatic 63, 3) := by decide +kernel
theorem d_Mo_copy_20 : decode b_Mo_copy 20 = .ok (.lcmp, 1) := by decide +kernel
theorem d_Mo_copy_21 : decode b_Mo_copy 21 = .ok (.ifCond .ge 15, 3) := by decide +kernel
theorem d_Mo_copy_24 : decode b_Mo_copy 24 = .ok (.aload_n 0, 1) := by decide +kernel
theorem d_Mo_copy_25 : decode b_Mo_copy 25 = .ok (.getfield 7, 3) := by decide +kernel
theorem d_Mo_copy_28 : decode b_Mo_copy 28 = .ok (.iload_n 1, 1) := by decide +kernel
theorem d_Mo_copy_29 : decode b_Mo_copy 29 = .ok (.i2l, 1) := by decide +kernel
theorem d_Mo_copy_30 : decode b_Mo_copy 30 = .ok (.invokestatic 57, 3) := by decide +kernel
theorem d_Mo_copy_33 : decode b_Mo_copy 33 = .ok (.ifCond .ne 5, 3) := by decide +kernel
theorem d_Mo_copy_36 : decode b_Mo_copy 36 = .ok (.iconst (-1), 1) := by decide +kernel
theorem d_Mo_copy_37 : decode b_Mo_copy 37 = .ok (.ireturn, 1) := by decide +kernel
theorem d_Mo_copy_38 : decode b_Mo_copy 38 = .ok (.iconst 0, 1) := by decide +kernel
theorem d_Mo_copy_39 : decode b_Mo_copy 39 = .ok (.istore_n 2, 1) := by decide +kernel
theorem d_Mo_copy_40 : decode b_Mo_copy 40 = .ok (.iload_n 2, 1) := by decide +kernel
theorem d_Mo_copy_41 : decode b_Mo_copy 41 = .ok (.sipush 1024, 3) := by decide +kernel
theorem d_Mo_copy_44 : decode b_Mo_copy 44 = .ok (.if_icmp .ge 21, 3) := by decide +kernel
theorem d_Mo_copy_47 : decode b_Mo_copy 47 = .ok (.aload_n 0, 1) := by decide +kernel
theorem d_Mo_copy_48 : decode b_Mo_copy 48 = .ok (.getfield 13, 3) := by decide +kernel
theorem d_Mo_copy_51 : decode b_Mo_copy 51 = .ok (.iload_n 2, 1) := by decide +kernel
theorem d_Mo_copy_52 : decode b_Mo_copy 52 = .ok (.aload_n 0, 1) := by decide +kernel
theorem d_Mo_copy_53 : decode b_Mo_copy 53 = .ok (.getfield 7, 3) := by decide +kernel
theorem d_Mo_copy_56 : decode b_Mo_copy 56 = .ok (.iload_n 2, 1) := by decide +kernel
theorem d_Mo_copy_57 : decode b_Mo_copy 57 = .ok (.iaload, 1) := by decide +kernel
theorem d_Mo_copy_58 : decode b_Mo_copy 58 = .ok (.iastore, 1) := by decide +kernel
theorem d_Mo_copy_59 : decode b_Mo_copy 59 = .ok (.iinc 2 1, 3) := by decide +kernel
theorem d_Mo_copy_62 : decode b_Mo_copy 62 = .ok (.goto (-22), 3) := by decide +kernel
theorem d_Mo_copy_65 : decode b_Mo_copy 65 = .ok (.aload_n 0, 1) := by decide +kernel
theorem d_Mo_copy_66 : decode b_Mo_copy 66 = .ok (.getfield 13, 3) := by decide +kernel
theorem d_Mo_copy_69 : decode b_Mo_copy 69 = .ok (.bipush 90, 2) := by decide +kernel
theorem d_Mo_copy_71 : decode b_Mo_copy 71 = .ok (.iconst 2, 1) := by decide +kernel
theorem d_Mo_copy_72 : decode b_Mo_copy 72 = .ok (.iload_n 1, 1) := by decide +kernel
theorem d_Mo_copy_73 : decode b_Mo_copy 73 = .ok (.i2l, 1) := by decide +kernel
theorem d_Mo_copy_74 : decode b_Mo_copy 74 = .ok (.invokestatic 126, 3) := by decide +kernel
theorem d_Mo_copy_77 : decode b_Mo_copy 77 = .ok (.iconst 0, 1) := by decide +kernel
theorem d_Mo_copy_78 : decode b_Mo_copy 78 = .ok (.ireturn, 1) := by decide +kernel
theorem d_Mo_mayDiffer_0 : decode b_Mo_mayDiffer 0 = .ok (.iload_n 0, 1) := by decide +kernel
theorem d_Mo_mayDiffer_1 : decode b_Mo_mayDiffer 1 = .ok (.i2l, 1) := by decide +kernel
theorem d_Mo_mayDiffer_2 : decode b_Mo_mayDiffer 2 = .ok (.ldc2_w 154, 3) := by decide +kernel
theorem d_Mo_mayDiffer_5 : decode b_Mo_mayDiffer 5 = .ok (.ldc2_w 156, 3) := by decide +kernel
theorem d_Mo_mayDiffer_8 : decode b_Mo_mayDiffer 8 = .ok (.invokestatic 82, 3) := by decide +kernel
theorem d_Mo_mayDiffer_11 : decode b_Mo_mayDiffer 11 = .ok (.ifCond .ne 59, 3) := by decide +kernel
theorem d_Mo_mayDiffer_14 : decode b_Mo_mayDiffer 14 = .ok (.iload_n 0, 1) := by decide +kernel
theorem d_Mo_mayDiffer_15 : decode b_Mo_mayDiffer 15 = .ok (.i2l, 1) := by decide +kernel
theorem d_Mo_mayDiffer_16 : decode b_Mo_mayDiffer 16 = .ok (.ldc2_w 158, 3) := by decide +kernel
theorem d_Mo_mayDiffer_19 : decode b_Mo_mayDiffer 19 = .ok (.ldc2_w 160, 3) := by decide +kernel
theorem d_Mo_mayDiffer_22 : decode b_Mo_mayDiffer 22 = .ok (.invokestatic 82, 3) := by decide +kernel
theorem d_Mo_mayDiffer_25 : decode b_Mo_mayDiffer 25 = .ok (.ifCond .ne 45, 3) := by decide +kernel
theorem d_Mo_mayDiffer_28 : decode b_Mo_mayDiffer 28 = .ok (.iload_n 0, 1) := by decide +kernel
theorem d_Mo_mayDiffer_29 : decode b_Mo_mayDiffer 29 = .ok (.i2l, 1) := by decide +kernel
theorem d_Mo_mayDiffer_30 : decode b_Mo_mayDiffer 30 = .ok (.ldc2_w 162, 3) := by decide +kernel
theorem d_Mo_mayDiffer_33 : decode b_Mo_mayDiffer 33 = .ok (.ldc2_w 164, 3) := by decide +kernel
theorem d_Mo_mayDiffer_36 : decode b_Mo_mayDiffer 36 = .ok (.invokestatic 82, 3) := by decide +kernel
theorem d_Mo_mayDiffer_39 : decode b_Mo_mayDiffer 39 = .ok (.ifCond .ne 31, 3) := by decide +kernel
theorem d_Mo_mayDiffer_42 : decode b_Mo_mayDiffer 42 = .ok (.iload_n 0, 1) := by decide +kernel
theorem d_Mo_mayDiffer_43 : decode b_Mo_mayDiffer 43 = .ok (.i2l, 1) := by decide +kernel
theorem d_Mo_mayDiffer_44 : decode b_Mo_mayDiffer 44 = .ok (.ldc2_w 166, 3) := by decide +kernel
theorem d_Mo_mayDiffer_47 : decode b_Mo_mayDiffer 47 = .ok (.ldc2_w 168, 3) := by decide +kernel
theorem d_Mo_mayDiffer_50 : decode b_Mo_mayDiffer 50 = .ok (.invokestatic 82, 3) := by decide +kernel
theorem d_Mo_mayDiffer_53 : decode b_Mo_mayDiffer 53 = .ok (.ifCond .ne 17, 3) := by decide +kernel
theorem d_Mo_mayDiffer_56 : decode b_Mo_mayDiffer 56 = .ok (.iload_n 0, 1) := by decide +kernel
theorem d_Mo_mayDiffer_57 : decode b_Mo_mayDiffer 57 = .ok (.i2l, 1) := by decide +kernel
theorem d_Mo_mayDiffer_58 : decode b_Mo_mayDiffer 58 = .ok (.ldc2_w 170, 3) := by decide +kernel
theorem d_Mo_mayDiffer_61 : decode b_Mo_mayDiffer 61 = .ok (.ldc2_w 172, 3) := by decide +kernel
theorem d_Mo_mayDiffer_64 : decode b_Mo_mayDiffer 64 = .ok (.invokestatic 82, 3) := by decide +kernel
theorem d_Mo_mayDiffer_67 : decode b_Mo_mayDiffer 67 = .ok (.ifCond .eq 7, 3) := by decide +kernel
theorem d_Mo_mayDiffer_70 : decode b_Mo_mayDiffer 70 = .ok (.iconst 1, 1) := by decide +kernel
theorem d_Mo_mayDiffer_71 : decode b_Mo_mayDiffer 71 = .ok (.goto 4, 3) := by decide +kernel
theorem d_Mo_mayDiffer_74 : decode b_Mo_mayDiffer 74 = .ok (.iconst 0, 1) := by decide +kernel
theorem d_Mo_mayDiffer_75 : decode b_Mo_mayDiffer 75 = .ok (.ireturn, 1) := by decide +kernel
theorem d_Mo_differs_0 : decode b_Mo_differs 0 = .ok (.iconst 0, 1) := by decide +kernel
theorem d_Mo_differs_1 : decode b_Mo_differs 1 = .ok (.istore_n 1, 1) := by decide +kernel
theorem d_Mo_differs_2 : decode b_Mo_differs 2 = .ok (.iload_n 1, 1) := by decide +kernel
theorem d_Mo_differs_3 : decode b_Mo_differs 3 = .ok (.sipush 1024, 3) := by decide +kernel
theorem d_Mo_differs_6 : decode b_Mo_differs 6 = .ok (.if_icmp .ge 33, 3) := by decide +kernel
theorem d_Mo_differs_9 : decode b_Mo_differs 9 = .ok (.aload_n 0, 1) := by decide +kernel
theorem d_Mo_differs_10 : decode b_Mo_differs 10 = .ok (.getfield 7, 3) := by decide +kernel
theorem d_Mo_differs_13 : decode b_Mo_differs 13 = .ok (.iload_n 1, 1) := by decide +kernel
theorem d_Mo_differs_14 : decode b_Mo_differs 14 = .ok (.iaload, 1) := by decide +kernel
theorem d_Mo_differs_15 : decode b_Mo_differs 15 = .ok (.aload_n 0, 1) := by decide +kernel
theorem d_Mo_differs_16 : decode b_Mo_differs 16 = .ok (.getfield 13, 3) := by decide +kernel
theorem d_Mo_differs_19 : decode b_Mo_differs 19 = .ok (.iload_n 1, 1) := by decide +kernel
theorem d_Mo_differs_20 : decode b_Mo_differs 20 = .ok (.iaload, 1) := by decide +kernel
theorem d_Mo_differs_21 : decode b_Mo_differs 21 = .ok (.if_icmp .eq 12, 3) := by decide +kernel
theorem d_Mo_differs_24 : decode b_Mo_differs 24 = .ok (.iload_n 1, 1) := by decide +kernel
theorem d_Mo_differs_25 : decode b_Mo_differs 25 = .ok (.invokestatic 174, 3) := by decide +kernel
theorem d_Mo_differs_28 : decode b_Mo_differs 28 = .ok (.ifCond .ne 5, 3) := by decide +kernel
theorem d_Mo_differs_31 : decode b_Mo_differs 31 = .ok (.iload_n 1, 1) := by decide +kernel
theorem d_Mo_differs_32 : decode b_Mo_differs 32 = .ok (.ireturn, 1) := by decide +kernel
theorem d_Mo_differs_33 : decode b_Mo_differs 33 = .ok (.iinc 1 1, 3) := by decide +kernel
theorem d_Mo_differs_36 : decode b_Mo_differs 36 = .ok (.goto (-34), 3) := by decide +kernel
theorem d_Mo_differs_39 : decode b_Mo_differs 39 = .ok (.bipush (-2), 2) := by decide +kernel
theorem d_Mo_differs_41 : decode b_Mo_differs 41 = .ok (.ireturn, 1) := by decide +kernel
theorem d_Mo_groups_0 : decode b_Mo_groups 0 = .ok (.aload_n 0, 1) := by decide +kernel
theorem d_Mo_groups_1 : decode b_Mo_groups 1 = .ok (.invokevirtual 150, 3) := by decide +kernel
theorem d_Mo_groups_4 : decode b_Mo_groups 4 = .ok (.ifCond .eq 14, 3) := by decide +kernel
theorem d_Mo_groups_7 : decode b_Mo_groups 7 = .ok (.aload_n 0, 1) := by decide +kernel
theorem d_Mo_groups_8 : decode b_Mo_groups 8 = .ok (.getfield 7, 3) := by decide +kernel
theorem d_Mo_groups_11 : decode b_Mo_groups 11 = .ok (.invokestatic 63, 3) := by decide +kernel
theorem d_Mo_groups_14 : decode b_Mo_groups 14 = .ok (.l2i, 1) := by decide +kernel
theorem d_Mo_groups_15 : decode b_Mo_groups 15 = .ok (.goto 4, 3) := by decide +kernel
theorem d_Mo_groups_18 : decode b_Mo_groups 18 = .ok (.iconst (-1), 1) := by decide +kernel
theorem d_Mo_groups_19 : decode b_Mo_groups 19 = .ok (.ireturn, 1) := by decide +kernel
end
section
theorem d_Mo_where_0 : decode b_Mo_where 0 = .ok (.aload_n 0, 1) := by decide +kernel
theorem d_Mo_where_1 : decode b_Mo_where 1 = .ok (.invokevirtual 150, 3) := by decide +kernel
theorem d_Mo_where_4 : decode b_Mo_where 4 = .ok (.ifCond .eq 30, 3) := by decide +kernel
theorem d_Mo_where_7 : decode b_Mo_where 7 = .ok (.iload_n 1, 1) := by decide +kernel
theorem d_Mo_where_8 : decode b_Mo_where 8 = .ok (.ifCond .lt 26, 3) := by decide +kernel
theorem d_Mo_where_11 : decode b_Mo_where 11 = .ok (.iload_n 1, 1) := by decide +kernel
theorem d_Mo_where_12 : decode b_Mo_where 12 = .ok (.i2l, 1) := by decide +kernel
theorem d_Mo_where_13 : decode b_Mo_where 13 = .ok (.aload_n 0, 1) := by decide +kernel
theorem d_Mo_where_14 : decode b_Mo_where 14 = .ok (.getfield 7, 3) := by decide +kernel
theorem d_Mo_where_17 : decode b_Mo_where 17 = .ok (.invokestatic 63, 3) := by decide +kernel
theorem d_Mo_where_20 : decode b_Mo_where 20 = .ok (.lcmp, 1) := by decide +kernel
theorem d_Mo_where_21 : decode b_Mo_where 21 = .ok (.ifCond .ge 13, 3) := by decide +kernel
theorem d_Mo_where_24 : decode b_Mo_where 24 = .ok (.iload_n 2, 1) := by decide +kernel
theorem d_Mo_where_25 : decode b_Mo_where 25 = .ok (.ifCond .lt 9, 3) := by decide +kernel
theorem d_Mo_where_28 : decode b_Mo_where 28 = .ok (.iload_n 2, 1) := by decide +kernel
theorem d_Mo_where_29 : decode b_Mo_where 29 = .ok (.bipush 7, 2) := by decide +kernel
theorem d_Mo_where_31 : decode b_Mo_where 31 = .ok (.if_icmp .le 5, 3) := by decide +kernel
theorem d_Mo_where_34 : decode b_Mo_where 34 = .ok (.iconst (-1), 1) := by decide +kernel
theorem d_Mo_where_35 : decode b_Mo_where 35 = .ok (.ireturn, 1) := by decide +kernel
theorem d_Mo_where_36 : decode b_Mo_where 36 = .ok (.aload_n 0, 1) := by decide +kernel
theorem d_Mo_where_37 : decode b_Mo_where 37 = .ok (.getfield 7, 3) := by decide +kernel
theorem d_Mo_where_40 : decode b_Mo_where 40 = .ok (.iload_n 1, 1) := by decide +kernel
theorem d_Mo_where_41 : decode b_Mo_where 41 = .ok (.i2l, 1) := by decide +kernel
theorem d_Mo_where_42 : decode b_Mo_where 42 = .ok (.invokestatic 53, 3) := by decide +kernel
theorem d_Mo_where_45 : decode b_Mo_where 45 = .ok (.lstore_n 3, 1) := by decide +kernel
theorem d_Mo_where_46 : decode b_Mo_where 46 = .ok (.aload_n 0, 1) := by decide +kernel
theorem d_Mo_where_47 : decode b_Mo_where 47 = .ok (.getfield 7, 3) := by decide +kernel
theorem d_Mo_where_50 : decode b_Mo_where 50 = .ok (.iload_n 1, 1) := by decide +kernel
theorem d_Mo_where_51 : decode b_Mo_where 51 = .ok (.i2l, 1) := by decide +kernel
theorem d_Mo_where_52 : decode b_Mo_where 52 = .ok (.invokestatic 70, 3) := by decide +kernel
theorem d_Mo_where_55 : decode b_Mo_where 55 = .ok (.lstore 5, 2) := by decide +kernel
theorem d_Mo_where_57 : decode b_Mo_where 57 = .ok (.iload_n 2, 1) := by decide +kernel
theorem d_Mo_where_58 : decode b_Mo_where 58 = .ok (.tableswitch 107 0 6 #[42, 45, 56, 74, 80, 88, 98], 42) := by decide +kernel
theorem d_Mo_where_100 : decode b_Mo_where 100 = .ok (.lload_n 3, 1) := by decide +kernel
theorem d_Mo_where_101 : decode b_Mo_where 101 = .ok (.l2i, 1) := by decide +kernel
theorem d_Mo_where_102 : decode b_Mo_where 102 = .ok (.ireturn, 1) := by decide +kernel
theorem d_Mo_where_103 : decode b_Mo_where 103 = .ok (.aload_n 0, 1) := by decide +kernel
theorem d_Mo_where_104 : decode b_Mo_where 104 = .ok (.getfield 7, 3) := by decide +kernel
theorem d_Mo_where_107 : decode b_Mo_where 107 = .ok (.iload_n 1, 1) := by decide +kernel
theorem d_Mo_where_108 : decode b_Mo_where 108 = .ok (.i2l, 1) := by decide +kernel
theorem d_Mo_where_109 : decode b_Mo_where 109 = .ok (.invokestatic 94, 3) := by decide +kernel
theorem d_Mo_where_112 : decode b_Mo_where 112 = .ok (.l2i, 1) := by decide +kernel
theorem d_Mo_where_113 : decode b_Mo_where 113 = .ok (.ireturn, 1) := by decide +kernel
theorem d_Mo_where_114 : decode b_Mo_where 114 = .ok (.aload_n 0, 1) := by decide +kernel
theorem d_Mo_where_115 : decode b_Mo_where 115 = .ok (.getfield 7, 3) := by decide +kernel
theorem d_Mo_where_118 : decode b_Mo_where 118 = .ok (.iload_n 1, 1) := by decide +kernel
theorem d_Mo_where_119 : decode b_Mo_where 119 = .ok (.i2l, 1) := by decide +kernel
theorem d_Mo_where_120 : decode b_Mo_where 120 = .ok (.invokestatic 57, 3) := by decide +kernel
theorem d_Mo_where_123 : decode b_Mo_where 123 = .ok (.ifCond .eq 7, 3) := by decide +kernel
theorem d_Mo_where_126 : decode b_Mo_where 126 = .ok (.iconst 1, 1) := by decide +kernel
theorem d_Mo_where_127 : decode b_Mo_where 127 = .ok (.goto 4, 3) := by decide +kernel
theorem d_Mo_where_130 : decode b_Mo_where 130 = .ok (.iconst 0, 1) := by decide +kernel
theorem d_Mo_where_131 : decode b_Mo_where 131 = .ok (.ireturn, 1) := by decide +kernel
theorem d_Mo_where_132 : decode b_Mo_where 132 = .ok (.lload_n 3, 1) := by decide +kernel
theorem d_Mo_where_133 : decode b_Mo_where 133 = .ok (.lload 5, 2) := by decide +kernel
theorem d_Mo_where_135 : decode b_Mo_where 135 = .ok (.ladd, 1) := by decide +kernel
theorem d_Mo_where_136 : decode b_Mo_where 136 = .ok (.l2i, 1) := by decide +kernel
theorem d_Mo_where_137 : decode b_Mo_where 137 = .ok (.ireturn, 1) := by decide +kernel
theorem d_Mo_where_138 : decode b_Mo_where 138 = .ok (.lload_n 3, 1) := by decide +kernel
theorem d_Mo_where_139 : decode b_Mo_where 139 = .ok (.lload 5, 2) := by decide +kernel
theorem d_Mo_where_141 : decode b_Mo_where 141 = .ok (.ladd, 1) := by decide +kernel
theorem d_Mo_where_142 : decode b_Mo_where 142 = .ok (.lconst 1, 1) := by decide +kernel
theorem d_Mo_where_143 : decode b_Mo_where 143 = .ok (.ladd, 1) := by decide +kernel
theorem d_Mo_where_144 : decode b_Mo_where 144 = .ok (.l2i, 1) := by decide +kernel
theorem d_Mo_where_145 : decode b_Mo_where 145 = .ok (.ireturn, 1) := by decide +kernel
theorem d_Mo_where_146 : decode b_Mo_where 146 = .ok (.lload_n 3, 1) := by decide +kernel
theorem d_Mo_where_147 : decode b_Mo_where 147 = .ok (.lload 5, 2) := by decide +kernel
theorem d_Mo_where_149 : decode b_Mo_where 149 = .ok (.ladd, 1) := by decide +kernel
theorem d_Mo_where_150 : decode b_Mo_where 150 = .ok (.ldc2_w 41, 3) := by decide +kernel
theorem d_Mo_where_153 : decode b_Mo_where 153 = .ok (.ladd, 1) := by decide +kernel
theorem d_Mo_where_154 : decode b_Mo_where 154 = .ok (.l2i, 1) := by decide +kernel
theorem d_Mo_where_155 : decode b_Mo_where 155 = .ok (.ireturn, 1) := by decide +kernel
theorem d_Mo_where_156 : decode b_Mo_where 156 = .ok (.aload_n 0, 1) := by decide +kernel
theorem d_Mo_where_157 : decode b_Mo_where 157 = .ok (.getfield 7, 3) := by decide +kernel
theorem d_Mo_where_160 : decode b_Mo_where 160 = .ok (.invokestatic 73, 3) := by decide +kernel
theorem d_Mo_where_163 : decode b_Mo_where 163 = .ok (.l2i, 1) := by decide +kernel
theorem d_Mo_where_164 : decode b_Mo_where 164 = .ok (.ireturn, 1) := by decide +kernel
theorem d_Mo_where_165 : decode b_Mo_where 165 = .ok (.aload_n 0, 1) := by decide +kernel
theorem d_Mo_where_166 : decode b_Mo_where 166 = .ok (.getfield 7, 3) := by decide +kernel
theorem d_Mo_where_169 : decode b_Mo_where 169 = .ok (.iload_n 1, 1) := by decide +kernel
theorem d_Mo_where_170 : decode b_Mo_where 170 = .ok (.i2l, 1) := by decide +kernel
theorem d_Mo_where_171 : decode b_Mo_where 171 = .ok (.invokestatic 97, 3) := by decide +kernel
theorem d_Mo_where_174 : decode b_Mo_where 174 = .ok (.l2i, 1) := by decide +kernel
theorem d_Mo_where_175 : decode b_Mo_where 175 = .ok (.ireturn, 1) := by decide +kernel
theorem d_Mo_record_0 : decode b_Mo_record 0 = .ok (.aload_n 0, 1) := by decide +kernel
theorem d_Mo_record_1 : decode b_Mo_record 1 = .ok (.invokevirtual 150, 3) := by decide +kernel
theorem d_Mo_record_4 : decode b_Mo_record 4 = .ok (.ifCond .eq 23, 3) := by decide +kernel
theorem d_Mo_record_7 : decode b_Mo_record 7 = .ok (.iload_n 1, 1) := by decide +kernel
theorem d_Mo_record_8 : decode b_Mo_record 8 = .ok (.iconst 1, 1) := by decide +kernel
theorem d_Mo_record_9 : decode b_Mo_record 9 = .ok (.if_icmp .lt 18, 3) := by decide +kernel
theorem d_Mo_record_12 : decode b_Mo_record 12 = .ok (.iload_n 1, 1) := by decide +kernel
theorem d_Mo_record_13 : decode b_Mo_record 13 = .ok (.i2l, 1) := by decide +kernel
theorem d_Mo_record_14 : decode b_Mo_record 14 = .ok (.aload_n 0, 1) := by decide +kernel
theorem d_Mo_record_15 : decode b_Mo_record 15 = .ok (.getfield 7, 3) := by decide +kernel
theorem d_Mo_record_18 : decode b_Mo_record 18 = .ok (.iconst 0, 1) := by decide +kernel
theorem d_Mo_record_19 : decode b_Mo_record 19 = .ok (.iconst 4, 1) := by decide +kernel
theorem d_Mo_record_20 : decode b_Mo_record 20 = .ok (.invokestatic 27, 3) := by decide +kernel
theorem d_Mo_record_23 : decode b_Mo_record 23 = .ok (.lcmp, 1) := by decide +kernel
theorem d_Mo_record_24 : decode b_Mo_record 24 = .ok (.ifCond .le 5, 3) := by decide +kernel
theorem d_Mo_record_27 : decode b_Mo_record 27 = .ok (.iconst (-1), 1) := by decide +kernel
theorem d_Mo_record_28 : decode b_Mo_record 28 = .ok (.ireturn, 1) := by decide +kernel
theorem d_Mo_record_29 : decode b_Mo_record 29 = .ok (.aload_n 0, 1) := by decide +kernel
theorem d_Mo_record_30 : decode b_Mo_record 30 = .ok (.getfield 7, 3) := by decide +kernel
theorem d_Mo_record_33 : decode b_Mo_record 33 = .ok (.bipush 40, 2) := by decide +kernel
theorem d_Mo_record_35 : decode b_Mo_record 35 = .ok (.iconst 4, 1) := by decide +kernel
theorem d_Mo_record_36 : decode b_Mo_record 36 = .ok (.invokestatic 27, 3) := by decide +kernel
theorem d_Mo_record_39 : decode b_Mo_record 39 = .ok (.lstore_n 3, 1) := by decide +kernel
theorem d_Mo_record_40 : decode b_Mo_record 40 = .ok (.iload_n 1, 1) := by decide +kernel
theorem d_Mo_record_41 : decode b_Mo_record 41 = .ok (.i2l, 1) := by decide +kernel
theorem d_Mo_record_42 : decode b_Mo_record 42 = .ok (.lconst 1, 1) := by decide +kernel
theorem d_Mo_record_43 : decode b_Mo_record 43 = .ok (.lsub, 1) := by decide +kernel
theorem d_Mo_record_44 : decode b_Mo_record 44 = .ok (.lload_n 3, 1) := by decide +kernel
theorem d_Mo_record_45 : decode b_Mo_record 45 = .ok (.ldiv, 1) := by decide +kernel
theorem d_Mo_record_46 : decode b_Mo_record 46 = .ok (.lstore 5, 2) := by decide +kernel
theorem d_Mo_record_48 : decode b_Mo_record 48 = .ok (.iload_n 1, 1) := by decide +kernel
theorem d_Mo_record_49 : decode b_Mo_record 49 = .ok (.i2l, 1) := by decide +kernel
theorem d_Mo_record_50 : decode b_Mo_record 50 = .ok (.lconst 1, 1) := by decide +kernel
theorem d_Mo_record_51 : decode b_Mo_record 51 = .ok (.lsub, 1) := by decide +kernel
theorem d_Mo_record_52 : decode b_Mo_record 52 = .ok (.lload_n 3, 1) := by decide +kernel
theorem d_Mo_record_53 : decode b_Mo_record 53 = .ok (.lrem, 1) := by decide +kernel
theorem d_Mo_record_54 : decode b_Mo_record 54 = .ok (.aload_n 0, 1) := by decide +kernel
theorem d_Mo_record_55 : decode b_Mo_record 55 = .ok (.getfield 7, 3) := by decide +kernel
theorem d_Mo_record_58 : decode b_Mo_record 58 = .ok (.bipush 88, 2) := by decide +kernel
theorem d_Mo_record_60 : decode b_Mo_record 60 = .ok (.iconst 2, 1) := by decide +kernel
theorem d_Mo_record_61 : decode b_Mo_record 61 = .ok (.invokestatic 27, 3) := by decide +kernel
theorem d_Mo_record_64 : decode b_Mo_record 64 = .ok (.lmul, 1) := by decide +kernel
theorem d_Mo_record_65 : decode b_Mo_record 65 = .ok (.lstore 7, 2) := by decide +kernel
theorem d_Mo_record_67 : decode b_Mo_record 67 = .ok (.iload_n 2, 1) := by decide +kernel
theorem d_Mo_record_68 : decode b_Mo_record 68 = .ok (.ifCond .eq 16, 3) := by decide +kernel
theorem d_Mo_record_71 : decode b_Mo_record 71 = .ok (.lload 7, 2) := by decide +kernel
theorem d_Mo_record_73 : decode b_Mo_record 73 = .ok (.aload_n 0, 1) := by decide +kernel
theorem d_Mo_record_74 : decode b_Mo_record 74 = .ok (.getfield 7, 3) := by decide +kernel
theorem d_Mo_record_77 : decode b_Mo_record 77 = .ok (.invokestatic 67, 3) := by decide +kernel
theorem d_Mo_record_80 : decode b_Mo_record 80 = .ok (.lrem, 1) := by decide +kernel
theorem d_Mo_record_81 : decode b_Mo_record 81 = .ok (.goto 23, 3) := by decide +kernel
theorem d_Mo_record_84 : decode b_Mo_record 84 = .ok (.aload_n 0, 1) := by decide +kernel
theorem d_Mo_record_85 : decode b_Mo_record 85 = .ok (.lload 5, 2) := by decide +kernel
theorem d_Mo_record_87 : decode b_Mo_record 87 = .ok (.l2i, 1) := by decide +kernel
theorem d_Mo_record_88 : decode b_Mo_record 88 = .ok (.iconst 5, 1) := by decide +kernel
theorem d_Mo_record_89 : decode b_Mo_record 89 = .ok (.invokevirtual 177, 3) := by decide +kernel
theorem d_Mo_record_92 : decode b_Mo_record 92 = .ok (.i2l, 1) := by decide +kernel
theorem d_Mo_record_93 : decode b_Mo_record 93 = .ok (.lload 7, 2) := by decide +kernel
theorem d_Mo_record_95 : decode b_Mo_record 95 = .ok (.aload_n 0, 1) := by decide +kernel
theorem d_Mo_record_96 : decode b_Mo_record 96 = .ok (.getfield 7, 3) := by decide +kernel
theorem d_Mo_record_99 : decode b_Mo_record 99 = .ok (.invokestatic 67, 3) := by decide +kernel
theorem d_Mo_record_102 : decode b_Mo_record 102 = .ok (.ldiv, 1) := by decide +kernel
theorem d_Mo_record_103 : decode b_Mo_record 103 = .ok (.ladd, 1) := by decide +kernel
theorem d_Mo_record_104 : decode b_Mo_record 104 = .ok (.l2i, 1) := by decide +kernel
theorem d_Mo_record_105 : decode b_Mo_record 105 = .ok (.ireturn, 1) := by decide +kernel
end
section
def kP (P : Prop) [Decidable P] : Int32 := if P then 1 else 0
theorem kP_nar {P : Prop} [Decidable P] : narrow .boolean (.int (kP P)) = .int (kP P) := by
  unfold kP
  split <;> rfl
theorem kP_t {P : Prop} [Decidable P] (h : P) : 1 = kP P := (if_pos h).symm
theorem kP_f {P : Prop} [Decidable P] (h : ¬ P) : 0 = kP P := (if_neg h).symm
theorem kP_ne {P : Prop} [Decidable P] (h : ¬ kP P = 0) : P := by
  by_cases q : P
  · exact q
  · exact absurd (kP_f q).symm h
theorem kP_eq {P : Prop} [Decidable P] (h : kP P = 0) : ¬ P := fun q => by
  rw [← kP_t q] at h
  exact absurd h (by decide)
abbrev ky_isFP (a n : Int32) : Prop := (n = 1 ∨ n = 2 ∨ n = 4) ∧ ¬ a < 0 ∧ ¬ 1024 - n < a
abbrev ky_e8P (v lo hi : Int64) : Prop := ¬ v < lo ∧ ¬ hi < v ∧ v &&& 7 = 0
abbrev ky_rlP (v : Int64) : Prop := v = 128 ∨ v = 256 ∨ v = 512 ∨ v = 1024
def ky_q (v b : Int64) : Int64 := if 1 ≤ b then v / b else 0
def ky_qU (v b : Int64) : Int64 := ky_q (v + b - 1) b
def ky_min (x y : Int64) : Int64 := if y < x then y else x
abbrev ky_fewP (g : Int64) : Prop := g = 0 ∨ g = 1 ∨ g = 3 ∨ g = 5 ∨ g = 7 ∨ g = 9 ∨ g = 25 ∨ g = 27 ∨ g = 49
abbrev ky_hcP (fc : Int32) (g : Int64) : Prop := fc = 0 ∨ ky_fewP g
def ky_bc (fc : Int32) (cb g : Int64) : Int64 := if ky_hcP fc g then cb else 0
theorem ky_few_in {g : Int64} {j : Nat} (h : j < 9) (e : (ky_few j).toInt64 = g) : ky_fewP g := by
  subst e
  exact (by decide +kernel : ∀ j, j < 9 → ky_fewP (ky_few j).toInt64) j h
theorem ky_few_all {g : Int64} (h : ∀ j, j < 9 → ¬ (ky_few j).toInt64 = g) : ¬ ky_fewP g := by
  intro q
  rcases q with q | q | q | q | q | q | q | q | q
  · exact h 0 (by decide) (by rw [q]; decide)
  · exact h 1 (by decide) (by rw [q]; decide)
  · exact h 2 (by decide) (by rw [q]; decide)
  · exact h 3 (by decide) (by rw [q]; decide)
  · exact h 4 (by decide) (by rw [q]; decide)
  · exact h 5 (by decide) (by rw [q]; decide)
  · exact h 6 (by decide) (by rw [q]; decide)
  · exact h 7 (by decide) (by rw [q]; decide)
  · exact h 8 (by decide) (by rw [q]; decide)
theorem ky_isF_of {x y : Int32} (h : ky_isFP x y) : ∃ a n : Nat, x = nI a ∧ y = nI n ∧ (n = 1 ∨ n = 2 ∨ n = 4) ∧ a + n ≤ 1024 := by
  obtain ⟨h1, h2, h3⟩ := h
  obtain ⟨a, ha, rfl⟩ := nI_of h2
  rcases h1 with rfl | rfl | rfl
  · refine ⟨a, 1, rfl, rfl, Or.inl rfl, ?_⟩
    have h4 : ¬ nI 1023 < nI a := h3
    have h5 : ¬ 1023 < a := fun q => h4 ((nI_ltI (a := 1023) (b := a) (by decide) ha).mpr q)
    omega
  · refine ⟨a, 2, rfl, rfl, Or.inr (Or.inl rfl), ?_⟩
    have h4 : ¬ nI 1022 < nI a := h3
    have h5 : ¬ 1022 < a := fun q => h4 ((nI_ltI (a := 1022) (b := a) (by decide) ha).mpr q)
    omega
  · refine ⟨a, 4, rfl, rfl, Or.inr (Or.inr rfl), ?_⟩
    have h4 : ¬ nI 1020 < nI a := h3
    have h5 : ¬ 1020 < a := fun q => h4 ((nI_ltI (a := 1020) (b := a) (by decide) ha).mpr q)
    omega
theorem ky_isF_mk {a n : Nat} (hn : n = 1 ∨ n = 2 ∨ n = 4) (h : a + n ≤ 1024) : ky_isFP (nI a) (nI n) := by
  refine ⟨?_, nI_pos (by omega), ?_⟩
  · rcases hn with rfl | rfl | rfl
    · exact Or.inl rfl
    · exact Or.inr (Or.inl rfl)
    · exact Or.inr (Or.inr rfl)
  · have e : (1024 : Int32) - nI n = nI (1024 - n) := pk_sub (a := 1024) (b := n) (by omega)
    rw [e]
    exact nI_nlt (by omega) (by omega)
def ky_fl (f : Nat → Int32) (a n : Int32) : Int64 := if ky_isFP a n then lN (ky_le f a.toNatClampNeg n.toNatClampNeg) else -1
theorem ky_fl_mk (f : Nat → Int32) {a n : Nat} (hn : n = 1 ∨ n = 2 ∨ n = 4) (h : a + n ≤ 1024) : ky_fl f (nI a) (nI n) = lN (ky_le f a n) := by
  unfold ky_fl
  rw [if_pos (ky_isF_mk hn h), nI_clamp (by omega), nI_clamp (by omega)]
def ky_ww (f : Nat → Int32) (a n : Int32) (v : Int64) : Nat → Int32 := if ky_isFP a n then ky_wr f a.toNatClampNeg v n.toNatClampNeg else f
theorem ky_ww_mk (f : Nat → Int32) {a n : Nat} (v : Int64) (hn : n = 1 ∨ n = 2 ∨ n = 4) (h : a + n ≤ 1024) : ky_ww f (nI a) (nI n) v = ky_wr f a v n := by
  unfold ky_ww
  rw [if_pos (ky_isF_mk hn h), nI_clamp (by omega), nI_clamp (by omega)]
theorem kP_fit {P : Prop} [Decidable P] : fits .boolean (.int (kP P)) = true := by
  unfold kP
  split <;> rfl
theorem ky_le_48 (f : Nat → Int32) (a : Nat) {n : Nat} (h : n ≤ 6) : ky_le f a n < 2 ^ 48 := by
  have h1 := ky_le_lt f n a
  have h2 : 256 ^ n ≤ 256 ^ 6 := Nat.pow_le_pow_right (by decide) h
  have h3 : (256 : Nat) ^ 6 = 2 ^ 48 := by decide
  omega
theorem ky_cp0 (f g : Nat → Int32) : f = ky_cp f g 0 := by
  funext j
  simp [ky_cp]
def ky_wc (f : Nat → Int32) : Nat → Int32 :=
  ky_wr (ky_wr (ky_wr (ky_wr (ky_wr (ky_wr (ky_wr (ky_wr (ky_wr (ky_wr f 54 65535 2) 56 61267 2) 58 1 2) 76 1 4) 84 11 4) 92 36 4) 96 66 4) 100 3 4) 224 8 4) 252 1 1
end
section
def kv_form (f : Nat → Int32) (sh fs : Int64) : Int32 := if ¬ lN (ky_le f 56 2) = 61267 then 56 else if ¬ lN (ky_le f 76 4) = 1 then 76 else if ¬ sh ≤ 2 then 24 else if ¬ lN (ky_le f 28 4) = sh then 28 else if ¬ fs = (kP (sh = 0)).toInt64 then 20 else -2
def kv_gs (f : Nat → Int32) (zz gb rb gf rk : Int64) : Int32 := if ¬ ky_e8P gb 64 (8 * zz) then 32 else if ¬ lN (ky_le f 36 4) = gb then 36 else if ¬ ky_rlP rb then 88 else if ky_e8P gf 16 (8 * zz) ∧ rk * zz = gf * rb then -2 else 40
def kv_ct (f : Nat → Int32) (fi bl gf gc : Int64) (fc : Int32) : Int32 := if ¬ fi = gc * gf then 0 else if ¬ lN (ky_le f 8 4) ≤ bl then 8 else if ¬ lN (ky_le f 12 4) ≤ bl then 12 else if ¬ lN (ky_le f 16 4) ≤ fi then 16 else if ¬ (lN (ky_le f 58 2) = 1 ∨ lN (ky_le f 58 2) = 3) then 58 else if lN (ky_le f 84 4) < 11 ∨ ¬ lN (ky_le f 84 4) ≤ fi then 84 else if ¬ gc ≤ lN (ky_le f 90 2) ∧ ky_hcP fc (lN (ky_le f 90 2)) then -2 else 90
abbrev kv_ub (ft li : Int64) (k : Nat) : Prop := (ft &&& (li ^^^ (-1 : Int64))) &&& ((1 : Int64) <<< ((nI k).toInt64 &&& 63)) = 0
def kv_unl (wd : Int32) (ft li : Int64) : Nat → Int32
  | 0 => -2
  | n + 1 => if kv_ub ft li (31 - n) then kv_unl wd ft li n else 2000 + 32 * wd + nI (31 - n)
def kv_ft (f : Nat → Int32) : Int32 := if ¬ kv_unl 0 (lN (ky_le f 92 4)) 36 32 = -2 then kv_unl 0 (lN (ky_le f 92 4)) 36 32 else if ¬ kv_unl 1 (lN (ky_le f 96 4)) 70 32 = -2 then kv_unl 1 (lN (ky_le f 96 4)) 70 32 else if ¬ lN (ky_le f 96 4) &&& 66 = 66 then 96 else kv_unl 2 (lN (ky_le f 100 4)) 3 32
def kv_re (f : Nat → Int32) (fi : Int64) : Int32 := if ¬ lN (ky_le f 224 4) = (if lN (ky_le f 92 4) &&& 4 = 0 then 0 else 8) then 224 else if ¬ lN (ky_le f 232 4) ≤ fi then 232 else if ¬ lN (ky_le f 252 1) = (if lN (ky_le f 92 4) &&& 32 = 0 then 0 else 1) then 252 else if lN (ky_le f 254 2) = 0 then -2 else 254
abbrev kv_rmP (bl fs gb gc cb rk : Int64) (fc : Int32) : Prop := ¬ bl ≤ fs ∧ ¬ 16777216 < bl ∧ gc ≤ 64 ∧ ∀ k, k < gc.toInt.toNat → ky_bc fc cb (lN k) + 2 + rk < ky_min gb (bl - (fs + lN k * gb))
theorem kv_le {gc : Int64} {k : Nat} (hk : k < 2 ^ 31) : gc ≤ lN k ↔ gc.toInt.toNat ≤ k := by
  rw [Int64.le_iff_toInt_le, lN_toInt hk]
  omega
theorem kv_64 {gc : Int64} (h : gc ≤ 64) : gc.toInt.toNat ≤ 64 := (kv_le (k := 64) (by decide)).mp h
def kv_size (f : Nat → Int32) : Int64 := (1024 : Int64) <<< ((lN (ky_le f 24 4)).toInt32.toInt64 &&& 63)
def kv_few (f : Nat → Int32) : Int32 := kP (¬ lN (ky_le f 100 4) &&& 1 = 0)
def kv_gc (f : Nat → Int32) : Int64 := ky_qU (lN (ky_le f 4 4) - lN (ky_le f 20 4)) (lN (ky_le f 32 4))
def kv_cb (f : Nat → Int32) : Int64 := 1 + ky_qU (kv_gc f * 32) (kv_size f)
def kv_rk (f : Nat → Int32) : Int64 := ky_qU (lN (ky_le f 40 4) * lN (ky_le f 88 2)) (kv_size f)
def kv_fault (f : Nat → Int32) : Int32 :=
  if ¬ kv_form f (lN (ky_le f 24 4)) (lN (ky_le f 20 4)) = -2 then kv_form f (lN (ky_le f 24 4)) (lN (ky_le f 20 4))
  else if ¬ kv_gs f (kv_size f) (lN (ky_le f 32 4)) (lN (ky_le f 88 2)) (lN (ky_le f 40 4)) (kv_rk f) = -2 then kv_gs f (kv_size f) (lN (ky_le f 32 4)) (lN (ky_le f 88 2)) (lN (ky_le f 40 4)) (kv_rk f)
  else if ¬ kv_rmP (lN (ky_le f 4 4)) (lN (ky_le f 20 4)) (lN (ky_le f 32 4)) (kv_gc f) (kv_cb f) (kv_rk f) (kv_few f) then 4
  else if ¬ kv_ct f (lN (ky_le f 0 4)) (lN (ky_le f 4 4)) (lN (ky_le f 40 4)) (kv_gc f) (kv_few f) = -2 then kv_ct f (lN (ky_le f 0 4)) (lN (ky_le f 4 4)) (lN (ky_le f 40 4)) (kv_gc f) (kv_few f)
  else if ¬ kv_ft f = -2 then kv_ft f
  else kv_re f (lN (ky_le f 0 4))
end
section
section KX
variable {p : Program} {l : Launch} {e : Env} {R : Room} {s : State} {m : MethodId} {args : Array Value} {below : List Frame} {meth : Method} {c : Code} {H : Heap} {locs : List Loc} {cells slots : Nat} {Q : State → Prop}
variable {cc : ByteArray} {pc : Nat} {ls : Array Slot} {rest : List Value} {D : va_G} {A : Nat → Prop} {tys : List (ClassId × FieldType)} {ws wc wr : va_W}
theorem kf_irB {Bp : (Nat → Prop) → State → Prop} {v v' : Int32} (hx : p.tables.exec = Jvm.exec) (hb : c.code = cc) (hr : meth.sig.returnType = some .int) (hlocks : meth.locks = false) (hB : ∀ t : State, t.heap = H → s.WarmedH t.vm → Bp A t) (hS : va_S A s.heap H locs) (hv : v' = v) (hd : decode cc pc = .ok (.ireturn, 1)) : W p l e R s m args below meth c H locs cells slots (MQ below (kf_fq (some (.int v)) (Bp A) A) args s cells slots A) (F0 m pc ls [.int v']) := by
  subst hv
  exact W.iret (v := v') hx hb hr (fun t ht hW => ⟨⟨rfl, hB t ht hW⟩, hS.F ht⟩) hS.2.2 hd
theorem kf_lrB {Bp : (Nat → Prop) → State → Prop} {v v' : Int64} (hx : p.tables.exec = Jvm.exec) (hb : c.code = cc) (hr : meth.sig.returnType = some .long) (hlocks : meth.locks = false) (hB : ∀ t : State, t.heap = H → s.WarmedH t.vm → Bp A t) (hS : va_S A s.heap H locs) (hv : v' = v) (hd : decode cc pc = .ok (.lreturn, 1)) : W p l e R s m args below meth c H locs cells slots (MQ below (kf_fq (some (.long v)) (Bp A) A) args s cells slots A) (F0 m pc ls [.long v']) := by
  subst hv
  exact W.lret (v := v') hx hb hr (fun t ht hW => ⟨⟨rfl, hB t ht hW⟩, hS.F ht⟩) hS.2.2 hd
/-- a call behind which the cells hold something of a kind -/
theorem kf_kx {S : Type} {v : Option Value} {a : Array Value} {st0 : List Value} {mc ms : Nat} {w1 ws2 : S → va_W} (hP : va_P D vwCl ws H) (hD : va_D A ws) (hS : va_S A s.heap H locs) (hA : ∀ q, s.heap.size ≤ q → A q) (isC isR perm : List Nat) (hC : isC.map (fun i => ws[i]?) = wc.map some) (hR : isR.map (fun i => ws[i]?) = wr.map some) (hn : va_nd isR = true) (hdis : ∀ i ∈ isR, i ∉ isC) (hp1 : va_nd perm = true) (hp2 : ∀ u : S, perm.map (fun i => (wr ++ w1 u)[i]?) = (ws2 u).map some)
    (hr : va_Run p l e R s m args below meth c H locs cells slots mc ms (F0 m pc ls st0) rest (kf_fq v (fun t => ∃ u : S, kf_po D (w1 u) (va_A wc H.size) t) (va_A wc H.size) a) (va_A wc H.size))
    (kk : ∀ (u : S) (H1 : Heap) (locs1 : List Loc), va_P D vwCl (ws2 u) H1 → va_D A (ws2 u) → va_S A s.heap H1 locs1 → W p l e R s m args below meth c H1 locs1 (cells + mc) (slots + ms) Q (F0 m (pc + 3) ls (v.toList ++ rest))) : W p l e R s m args below meth c H locs cells slots Q (F0 m pc ls st0) := by
  have hFc := va_free hD hS hA isC hC
  refine kf_call0 hr hS (fun q _ h => hFc q h) hFc (fun t H1 locs1 ht hvm hB hz1 hk1 hS1 => ?_)
  obtain ⟨u, hP1, hD1⟩ := hB
  rw [ht] at hP1
  obtain ⟨hP2, hD2⟩ := va_join hP hD isC isR hC hR hn hdis hk1 hFc hP1 hD1
  exact kk u H1 locs1 (hP2.sub perm (kf_fm (hp2 u))) (hD2.sub perm hp1 (hp2 u)) hS1
abbrev kw_FR (cB : ClassId) (x r0 b0 r1 b1 tr bt vo : Nat) (f0 f1 : Nat → Int32) (u : (Nat → Int32) × (Nat → Int64) × Int32) : va_W :=
  [(x, .inr (2, [.ref r0, .ref r1, .ref tr, .ref vo])), (r0, .inr (0, [.ref b0])), (b0, .inl (cB, 1024, .inl f0)), (r1, .inr (0, [.ref b1])), (b1, .inl (cB, 1024, .inl f1)), (tr, .inr (0, [.ref bt])), (bt, .inl (cB, 1024, .inl u.1)),
   (vo, .inr (1, [.long (u.2.1 0), .long (u.2.1 1), .long (u.2.1 2), .long (u.2.1 3), .long (u.2.1 4), .long (u.2.1 5), .long (u.2.1 6), .long (u.2.1 7), .int u.2.2, .long (u.2.1 9), .long (u.2.1 10), .long (u.2.1 11)]))]
abbrev kx_FR (D : va_G) (cB : ClassId) (x r0 b0 r1 b1 tr bt vo : Nat) (f0 f1 : Nat → Int32) (A : Nat → Prop) (t : State) : Prop := ∃ u : (Nat → Int32) × (Nat → Int64) × Int32, kf_po D (kw_FR cB x r0 b0 r1 b1 tr bt vo f0 f1 u) A t
def kx_L (v0 v1 v2 v3 v4 v5 v6 v7 v9 v10 v11 : Int64) : Nat → Int64 := fun k => match k with
  | 0 => v0
  | 1 => v1
  | 2 => v2
  | 3 => v3
  | 4 => v4
  | 5 => v5
  | 6 => v6
  | 7 => v7
  | 8 => 0
  | 9 => v9
  | 10 => v10
  | _ => v11
theorem kx_at {cB : ClassId} {x r0 b0 r1 b1 tr bt vo : Nat} {f0 f1 ft : Nat → Int32} {v0 v1 v2 v3 v4 v5 v6 v7 v9 v10 v11 : Int64} {v8 : Int32}
    (hP : va_P D vwCl [(x, .inr (2, [.ref r0, .ref r1, .ref tr, .ref vo])), (r0, .inr (0, [.ref b0])), (b0, .inl (cB, 1024, .inl f0)), (r1, .inr (0, [.ref b1])), (b1, .inl (cB, 1024, .inl f1)), (tr, .inr (0, [.ref bt])), (bt, .inl (cB, 1024, .inl ft)), (vo, .inr (1, [.long v0, .long v1, .long v2, .long v3, .long v4, .long v5, .long v6, .long v7, .int v8, .long v9, .long v10, .long v11]))] H)
    (hD : va_D A [(x, .inr (2, [.ref r0, .ref r1, .ref tr, .ref vo])), (r0, .inr (0, [.ref b0])), (b0, .inl (cB, 1024, .inl f0)), (r1, .inr (0, [.ref b1])), (b1, .inl (cB, 1024, .inl f1)), (tr, .inr (0, [.ref bt])), (bt, .inl (cB, 1024, .inl ft)), (vo, .inr (1, [.long v0, .long v1, .long v2, .long v3, .long v4, .long v5, .long v6, .long v7, .int v8, .long v9, .long v10, .long v11]))]) :
    ∀ t : State, t.heap = H → s.WarmedH t.vm → kx_FR D cB x r0 b0 r1 b1 tr bt vo f0 f1 A t := fun t ht _ => ⟨(ft, kx_L v0 v1 v2 v3 v4 v5 v6 v7 v9 v10 v11, v8), by rw [ht]; exact hP, hD⟩
end KX
theorem ky_row (r : Int32) : r = 0 ∨ r = 1 ∨ (¬ r = 0 ∧ ¬ r = 1) := by
  by_cases h0 : r = 0
  · exact Or.inl h0
  · by_cases h1 : r = 1
    · exact Or.inr (Or.inl h1)
    · exact Or.inr (Or.inr ⟨h0, h1⟩)
abbrev kr_pokeP (i v : Int32) : Prop := ky_isFP i 1 ∧ ¬ v < 0 ∧ v ≤ 255
abbrev kr_grP (f : Nat → Int32) (g : Int32) : Prop := kv_fault f = -2 ∧ ¬ g < 0 ∧ ¬ kv_gc f ≤ g.toInt64
abbrev kr_foP (i : Int32) : Prop := ∀ j, j < 5 → ¬ (¬ i < ky_not (2 * j) ∧ ¬ ky_not (2 * j + 1) < i)
def kr_df (f0 f1 : Nat → Int32) : Nat → Int32
  | 0 => -2
  | n + 1 => if lN (ky_le f0 (1023 - n) 1) = lN (ky_le f1 (1023 - n) 1) then kr_df f0 f1 n else if kr_foP (nI (1023 - n)) then nI (1023 - n) else kr_df f0 f1 n
def kr_bs (f : Nat → Int32) (g : Int64) : Int64 := lN (ky_le f 20 4) + g * lN (ky_le f 32 4)
def kr_where (f : Nat → Int32) (g w : Int32) : Int32 :=
  if ¬ kr_grP f g then -1
  else if w = 0 then (lN (ky_le f 20 4) + g.toInt64 * lN (ky_le f 32 4)).toInt32
  else if w = 1 then (ky_min (lN (ky_le f 32 4)) (lN (ky_le f 4 4) - (lN (ky_le f 20 4) + g.toInt64 * lN (ky_le f 32 4)))).toInt32
  else if w = 2 then (if ky_hcP (kv_few f) g.toInt64 then 1 else 0)
  else if w = 3 then (lN (ky_le f 20 4) + g.toInt64 * lN (ky_le f 32 4) + ky_bc (kv_few f) (kv_cb f) g.toInt64).toInt32
  else if w = 4 then (lN (ky_le f 20 4) + g.toInt64 * lN (ky_le f 32 4) + ky_bc (kv_few f) (kv_cb f) g.toInt64 + 1).toInt32
  else if w = 5 then (lN (ky_le f 20 4) + g.toInt64 * lN (ky_le f 32 4) + ky_bc (kv_few f) (kv_cb f) g.toInt64 + 1 + 1).toInt32
  else if w = 6 then (kv_rk f).toInt32
  else if w = 7 then (ky_bc (kv_few f) (kv_cb f) g.toInt64 + 2 + kv_rk f).toInt32
  else -1
theorem ky_sw8 (w : Int32) : w = 0 ∨ w = 1 ∨ w = 2 ∨ w = 3 ∨ w = 4 ∨ w = 5 ∨ w = 6 ∨ w = 7 ∨ ((w.toInt < 0 ∨ 7 < w.toInt) ∧ ¬ w = 0 ∧ ¬ w = 1 ∧ ¬ w = 2 ∧ ¬ w = 3 ∧ ¬ w = 4 ∧ ¬ w = 5 ∧ ¬ w = 6 ∧ ¬ w = 7) := by
  by_cases h : w.toInt < 0 ∨ 7 < w.toInt
  · refine Or.inr (Or.inr (Or.inr (Or.inr (Or.inr (Or.inr (Or.inr (Or.inr ⟨h, ?_⟩)))))))
    refine ⟨?_, ?_, ?_, ?_, ?_, ?_, ?_, ?_⟩ <;> (rintro rfl; revert h; decide)
  · have hw : ∀ k : Int32, w.toInt = k.toInt → w = k := fun k q => Int32.toInt_inj.mp q
    rcases (show w.toInt = 0 ∨ w.toInt = 1 ∨ w.toInt = 2 ∨ w.toInt = 3 ∨ w.toInt = 4 ∨ w.toInt = 5 ∨ w.toInt = 6 ∨ w.toInt = 7 by omega) with q | q | q | q | q | q | q | q
    · exact Or.inl (hw 0 q)
    · exact Or.inr (Or.inl (hw 1 q))
    · exact Or.inr (Or.inr (Or.inl (hw 2 q)))
    · exact Or.inr (Or.inr (Or.inr (Or.inl (hw 3 q))))
    · exact Or.inr (Or.inr (Or.inr (Or.inr (Or.inl (hw 4 q)))))
    · exact Or.inr (Or.inr (Or.inr (Or.inr (Or.inr (Or.inl (hw 5 q))))))
    · exact Or.inr (Or.inr (Or.inr (Or.inr (Or.inr (Or.inr (Or.inl (hw 6 q)))))))
    · exact Or.inr (Or.inr (Or.inr (Or.inr (Or.inr (Or.inr (Or.inr (Or.inl (hw 7 q))))))))
def kr_g (f : Nat → Int32) (n : Int32) : Int64 := ky_q (n.toInt64 - 1) (lN (ky_le f 40 4))
def kr_by (f : Nat → Int32) (n : Int32) : Int64 := (n.toInt64 - 1 - kr_g f n * lN (ky_le f 40 4)) * lN (ky_le f 88 2)
def kr_bl (f : Nat → Int32) (n : Int32) : Int64 := ky_q (kr_by f n) (kv_size f)
def kr_record (f : Nat → Int32) (n pl : Int32) : Int32 :=
  if ¬ kv_fault f = -2 ∨ n < 1 ∨ ¬ n.toInt64 ≤ lN (ky_le f 0 4) then -1
  else if pl = 0 then (lN (ky_le f 20 4) + kr_g f n * lN (ky_le f 32 4) + ky_bc (kv_few f) (kv_cb f) (kr_g f n) + 1 + 1 + kr_bl f n).toInt32
  else (kr_by f n - kr_bl f n * kv_size f).toInt32
def kl_T1 (ft : Nat → Int32) (p1 p2 p3 p4 p5 : Int32) : Nat → Int32 :=
  ky_wr (ky_wr (ky_wr (ky_wr (ky_wr (ky_wr (ky_wr (ky_wr (ky_wc (ky_cp ft (fun _ => 0) 1024)) 4 p1.toInt64 4) 20 (kP (p5.toInt64 = 0)).toInt64 4) 24 p5.toInt64 4) 28 p5.toInt64 4) 32 p2.toInt64 4) 36 p2.toInt64 4) 40 p3.toInt64 4) 88 p4.toInt64 2
def kl_T (ft : Nat → Int32) (p1 p2 p3 p4 p5 : Int32) : Nat → Int32 := ky_wr (kl_T1 ft p1 p2 p3 p4 p5) 0 (kv_gc (kl_T1 ft p1 p2 p3 p4 p5) * p3.toInt64) 4
abbrev kl_P (ft : Nat → Int32) (p1 p2 p3 p4 p5 : Int32) : Prop := ¬ p4 < 0 ∧ p4 ≤ 65535 ∧ kv_fault (kl_T ft p1 p2 p3 p4 p5) = -2
end
section
set_option maxRecDepth 100000 in
set_option maxHeartbeats 4000000 in
theorem c_FR_isField (l : Launch) (D : va_G) (cB cI : ClassId) (hz : Nat) (p0 : Int32) (p1 : Int32) : kf_Ct l y_FR_isField w_FR_isField 0 0 0 0 D (kT cB cI) [.int p0, .int p1] [] hz (some (.int (kP (ky_isFP p0 p1)))) (kf_po D []) := by
  refine kf_of (cc := b_FR_isField) (maxL := 2) (ret := (some .boolean)) (by decide) rfl (Nat.le_of_ble_eq_true rfl) ?_
  intro p e s m below meth c A H locs hx hb hr hml hown hts hlocks hin hP hD hS hA hE ls hl
  have hl : lv_has ls 2 [(0, .int p0), (1, .int p1)] := hl
  refine lv_iload_n hx hb d_FR_isField_0 rfl (lv_at hl 1 rfl) ?_
  refine lv_iconst (v := 1) hx hb d_FR_isField_1 (by decide) ?_
  refine lv_icmp_eq (tgt := 15) hx hb d_FR_isField_2 (by decide) (fun c2 => ?_) (fun c2 => ?_)
  · refine lv_iload_n hx hb d_FR_isField_15 rfl (lv_at hl 0 rfl) ?_
    refine lv_if_lt (tgt := 32) hx hb d_FR_isField_16 (by decide) (fun c16 => ?_) (fun c16 => ?_)
    · refine lv_iconst (v := 0) hx hb d_FR_isField_32 (by decide) ?_
      exact kf_zr hx hb hr hlocks hP hD hS (kP_f (by grind)) (kP_nar) d_FR_isField_33
    · refine lv_iload_n hx hb d_FR_isField_19 rfl (lv_at hl 0 rfl) ?_
      refine lv_sipush (v := 1024) hx hb d_FR_isField_20 (by decide) ?_
      refine lv_iload_n hx hb d_FR_isField_23 rfl (lv_at hl 1 rfl) ?_
      refine lv_isub hx hb d_FR_isField_24 ?_
      refine lv_icmp_gt (tgt := 32) hx hb d_FR_isField_25 (by decide) (fun c25 => ?_) (fun c25 => ?_)
      · refine lv_iconst (v := 0) hx hb d_FR_isField_32 (by decide) ?_
        exact kf_zr hx hb hr hlocks hP hD hS (kP_f (by grind)) (kP_nar) d_FR_isField_33
      · refine lv_iconst (v := 1) hx hb d_FR_isField_28 (by decide) ?_
        refine lv_goto (tgt := 33) hx hb d_FR_isField_29 (by decide) ?_
        exact kf_zr hx hb hr hlocks hP hD hS (kP_t (by grind)) (kP_nar) d_FR_isField_33
  · refine lv_iload_n hx hb d_FR_isField_5 rfl (lv_at hl 1 rfl) ?_
    refine lv_iconst (v := 2) hx hb d_FR_isField_6 (by decide) ?_
    refine lv_icmp_eq (tgt := 15) hx hb d_FR_isField_7 (by decide) (fun c7 => ?_) (fun c7 => ?_)
    · refine lv_iload_n hx hb d_FR_isField_15 rfl (lv_at hl 0 rfl) ?_
      refine lv_if_lt (tgt := 32) hx hb d_FR_isField_16 (by decide) (fun c16 => ?_) (fun c16 => ?_)
      · refine lv_iconst (v := 0) hx hb d_FR_isField_32 (by decide) ?_
        exact kf_zr hx hb hr hlocks hP hD hS (kP_f (by grind)) (kP_nar) d_FR_isField_33
      · refine lv_iload_n hx hb d_FR_isField_19 rfl (lv_at hl 0 rfl) ?_
        refine lv_sipush (v := 1024) hx hb d_FR_isField_20 (by decide) ?_
        refine lv_iload_n hx hb d_FR_isField_23 rfl (lv_at hl 1 rfl) ?_
        refine lv_isub hx hb d_FR_isField_24 ?_
        refine lv_icmp_gt (tgt := 32) hx hb d_FR_isField_25 (by decide) (fun c25 => ?_) (fun c25 => ?_)
        · refine lv_iconst (v := 0) hx hb d_FR_isField_32 (by decide) ?_
          exact kf_zr hx hb hr hlocks hP hD hS (kP_f (by grind)) (kP_nar) d_FR_isField_33
        · refine lv_iconst (v := 1) hx hb d_FR_isField_28 (by decide) ?_
          refine lv_goto (tgt := 33) hx hb d_FR_isField_29 (by decide) ?_
          exact kf_zr hx hb hr hlocks hP hD hS (kP_t (by grind)) (kP_nar) d_FR_isField_33
    · refine lv_iload_n hx hb d_FR_isField_10 rfl (lv_at hl 1 rfl) ?_
      refine lv_iconst (v := 4) hx hb d_FR_isField_11 (by decide) ?_
      refine lv_icmp_ne (tgt := 32) hx hb d_FR_isField_12 (by decide) (fun c12 => ?_) (fun c12 => ?_)
      · refine lv_iconst (v := 0) hx hb d_FR_isField_32 (by decide) ?_
        exact kf_zr hx hb hr hlocks hP hD hS (kP_f (by grind)) (kP_nar) d_FR_isField_33
      · refine lv_iload_n hx hb d_FR_isField_15 rfl (lv_at hl 0 rfl) ?_
        refine lv_if_lt (tgt := 32) hx hb d_FR_isField_16 (by decide) (fun c16 => ?_) (fun c16 => ?_)
        · refine lv_iconst (v := 0) hx hb d_FR_isField_32 (by decide) ?_
          exact kf_zr hx hb hr hlocks hP hD hS (kP_f (by grind)) (kP_nar) d_FR_isField_33
        · refine lv_iload_n hx hb d_FR_isField_19 rfl (lv_at hl 0 rfl) ?_
          refine lv_sipush (v := 1024) hx hb d_FR_isField_20 (by decide) ?_
          refine lv_iload_n hx hb d_FR_isField_23 rfl (lv_at hl 1 rfl) ?_
          refine lv_isub hx hb d_FR_isField_24 ?_
          refine lv_icmp_gt (tgt := 32) hx hb d_FR_isField_25 (by decide) (fun c25 => ?_) (fun c25 => ?_)
          · refine lv_iconst (v := 0) hx hb d_FR_isField_32 (by decide) ?_
            exact kf_zr hx hb hr hlocks hP hD hS (kP_f (by grind)) (kP_nar) d_FR_isField_33
          · refine lv_iconst (v := 1) hx hb d_FR_isField_28 (by decide) ?_
            refine lv_goto (tgt := 33) hx hb d_FR_isField_29 (by decide) ?_
            exact kf_zr hx hb hr hlocks hP hD hS (kP_t (by grind)) (kP_nar) d_FR_isField_33

set_option maxRecDepth 100000 in
set_option maxHeartbeats 4000000 in
theorem c_FR_firstFor (l : Launch) (D : va_G) (cB cI : ClassId) (hz : Nat) (p0 : Int64) : kf_Ct l y_FR_firstFor w_FR_firstFor 0 0 0 0 D (kT cB cI) [.long p0] [] hz (some (.int (kP (p0 = 0)))) (kf_po D []) := by
  refine kf_of (cc := b_FR_firstFor) (maxL := 2) (ret := (some .int)) (by decide) rfl (Nat.le_of_ble_eq_true rfl) ?_
  intro p e s m below meth c A H locs hx hb hr hml hown hts hlocks hin hP hD hS hA hE ls hl
  have hl : lv_has ls 2 [(0, .long p0)] := hl
  refine lv_lload_n hx hb d_FR_firstFor_0 rfl (lv_at hl 0 rfl) ?_
  refine lv_lconst (v := 0) hx hb d_FR_firstFor_1 (by decide) ?_
  refine kf_lc_ne (tgt := 10) hx hb d_FR_firstFor_2 d_FR_firstFor_3 (by decide) (fun c2 => ?_) (fun c2 => ?_)
  · refine lv_iconst (v := 0) hx hb d_FR_firstFor_10 (by decide) ?_
    exact kf_ir hx hb hr hlocks hP hD hS (kP_f (by grind)) d_FR_firstFor_11
  · refine lv_iconst (v := 1) hx hb d_FR_firstFor_6 (by decide) ?_
    refine lv_goto (tgt := 11) hx hb d_FR_firstFor_7 (by decide) ?_
    exact kf_ir hx hb hr hlocks hP hD hS (kP_t (by grind)) d_FR_firstFor_11

set_option maxRecDepth 100000 in
set_option maxHeartbeats 4000000 in
theorem c_FR_isEightfold (l : Launch) (D : va_G) (cB cI : ClassId) (hz : Nat) (p0 : Int64) (p1 : Int64) (p2 : Int64) : kf_Ct l y_FR_isEightfold w_FR_isEightfold 0 0 0 0 D (kT cB cI) [.long p0, .long p1, .long p2] [] hz (some (.int (kP (ky_e8P p0 p1 p2)))) (kf_po D []) := by
  refine kf_of (cc := b_FR_isEightfold) (maxL := 6) (ret := (some .boolean)) (by decide) rfl (Nat.le_of_ble_eq_true rfl) ?_
  intro p e s m below meth c A H locs hx hb hr hml hown hts hlocks hin hP hD hS hA hE ls hl
  have hl : lv_has ls 6 [(0, .long p0), (2, .long p1), (4, .long p2)] := hl
  refine lv_lload_n hx hb d_FR_isEightfold_0 rfl (lv_at hl 0 rfl) ?_
  refine lv_lload_n hx hb d_FR_isEightfold_1 rfl (lv_at hl 1 rfl) ?_
  refine kf_lc_lt (tgt := 27) hx hb d_FR_isEightfold_2 d_FR_isEightfold_3 (by decide) (fun c2 => ?_) (fun c2 => ?_)
  · refine lv_iconst (v := 0) hx hb d_FR_isEightfold_27 (by decide) ?_
    exact kf_zr hx hb hr hlocks hP hD hS (kP_f (by grind)) (kP_nar) d_FR_isEightfold_28
  · refine lv_lload_n hx hb d_FR_isEightfold_6 rfl (lv_at hl 0 rfl) ?_
    refine lv_lload hx hb d_FR_isEightfold_7 (lv_at hl 2 rfl) ?_
    refine kf_lc_gt (tgt := 27) hx hb d_FR_isEightfold_9 d_FR_isEightfold_10 (by decide) (fun c9 => ?_) (fun c9 => ?_)
    · refine lv_iconst (v := 0) hx hb d_FR_isEightfold_27 (by decide) ?_
      exact kf_zr hx hb hr hlocks hP hD hS (kP_f (by grind)) (kP_nar) d_FR_isEightfold_28
    · refine lv_lload_n hx hb d_FR_isEightfold_13 rfl (lv_at hl 0 rfl) ?_
      refine lv_ldc2 (v := 7) hx hb hown (hts _ q1_143) d_FR_isEightfold_14 ?_
      refine lv_land hx hb d_FR_isEightfold_17 ?_
      refine lv_lconst (v := 0) hx hb d_FR_isEightfold_18 (by decide) ?_
      refine kf_lc_ne (tgt := 27) hx hb d_FR_isEightfold_19 d_FR_isEightfold_20 (by decide) (fun c19 => ?_) (fun c19 => ?_)
      · refine lv_iconst (v := 0) hx hb d_FR_isEightfold_27 (by decide) ?_
        exact kf_zr hx hb hr hlocks hP hD hS (kP_f (by grind)) (kP_nar) d_FR_isEightfold_28
      · refine lv_iconst (v := 1) hx hb d_FR_isEightfold_23 (by decide) ?_
        refine lv_goto (tgt := 28) hx hb d_FR_isEightfold_24 (by decide) ?_
        exact kf_zr hx hb hr hlocks hP hD hS (kP_t (by grind)) (kP_nar) d_FR_isEightfold_28

set_option maxRecDepth 100000 in
set_option maxHeartbeats 4000000 in
theorem c_FR_isRecordLength (l : Launch) (D : va_G) (cB cI : ClassId) (hz : Nat) (p0 : Int64) : kf_Ct l y_FR_isRecordLength w_FR_isRecordLength 0 0 0 0 D (kT cB cI) [.long p0] [] hz (some (.int (kP (ky_rlP p0)))) (kf_po D []) := by
  refine kf_of (cc := b_FR_isRecordLength) (maxL := 2) (ret := (some .boolean)) (by decide) rfl (Nat.le_of_ble_eq_true rfl) ?_
  intro p e s m below meth c A H locs hx hb hr hml hown hts hlocks hin hP hD hS hA hE ls hl
  have hl : lv_has ls 2 [(0, .long p0)] := hl
  refine lv_lload_n hx hb d_FR_isRecordLength_0 rfl (lv_at hl 0 rfl) ?_
  refine lv_ldc2 (v := 128) hx hb hown (hts _ q1_147) d_FR_isRecordLength_1 ?_
  refine kf_lc_eq (tgt := 32) hx hb d_FR_isRecordLength_4 d_FR_isRecordLength_5 (by decide) (fun c4 => ?_) (fun c4 => ?_)
  · refine lv_iconst (v := 1) hx hb d_FR_isRecordLength_32 (by decide) ?_
    refine lv_goto (tgt := 37) hx hb d_FR_isRecordLength_33 (by decide) ?_
    exact kf_zr hx hb hr hlocks hP hD hS (kP_t (by grind)) (kP_nar) d_FR_isRecordLength_37
  · refine lv_lload_n hx hb d_FR_isRecordLength_8 rfl (lv_at hl 0 rfl) ?_
    refine lv_ldc2 (v := 256) hx hb hown (hts _ q1_148) d_FR_isRecordLength_9 ?_
    refine kf_lc_eq (tgt := 32) hx hb d_FR_isRecordLength_12 d_FR_isRecordLength_13 (by decide) (fun c12 => ?_) (fun c12 => ?_)
    · refine lv_iconst (v := 1) hx hb d_FR_isRecordLength_32 (by decide) ?_
      refine lv_goto (tgt := 37) hx hb d_FR_isRecordLength_33 (by decide) ?_
      exact kf_zr hx hb hr hlocks hP hD hS (kP_t (by grind)) (kP_nar) d_FR_isRecordLength_37
    · refine lv_lload_n hx hb d_FR_isRecordLength_16 rfl (lv_at hl 0 rfl) ?_
      refine lv_ldc2 (v := 512) hx hb hown (hts _ q1_149) d_FR_isRecordLength_17 ?_
      refine kf_lc_eq (tgt := 32) hx hb d_FR_isRecordLength_20 d_FR_isRecordLength_21 (by decide) (fun c20 => ?_) (fun c20 => ?_)
      · refine lv_iconst (v := 1) hx hb d_FR_isRecordLength_32 (by decide) ?_
        refine lv_goto (tgt := 37) hx hb d_FR_isRecordLength_33 (by decide) ?_
        exact kf_zr hx hb hr hlocks hP hD hS (kP_t (by grind)) (kP_nar) d_FR_isRecordLength_37
      · refine lv_lload_n hx hb d_FR_isRecordLength_24 rfl (lv_at hl 0 rfl) ?_
        refine lv_ldc2 (v := 1024) hx hb hown (hts _ q1_150) d_FR_isRecordLength_25 ?_
        refine kf_lc_ne (tgt := 36) hx hb d_FR_isRecordLength_28 d_FR_isRecordLength_29 (by decide) (fun c28 => ?_) (fun c28 => ?_)
        · refine lv_iconst (v := 0) hx hb d_FR_isRecordLength_36 (by decide) ?_
          exact kf_zr hx hb hr hlocks hP hD hS (kP_f (by grind)) (kP_nar) d_FR_isRecordLength_37
        · refine lv_iconst (v := 1) hx hb d_FR_isRecordLength_32 (by decide) ?_
          refine lv_goto (tgt := 37) hx hb d_FR_isRecordLength_33 (by decide) ?_
          exact kf_zr hx hb hr hlocks hP hD hS (kP_t (by grind)) (kP_nar) d_FR_isRecordLength_37

set_option maxRecDepth 100000 in
set_option maxHeartbeats 4000000 in
theorem c_FR_quotient (l : Launch) (D : va_G) (cB cI : ClassId) (hz : Nat) (p0 : Int64) (p1 : Int64) : kf_Ct l y_FR_quotient w_FR_quotient 0 0 0 0 D (kT cB cI) [.long p0, .long p1] [] hz (some (.long (ky_q p0 p1))) (kf_po D []) := by
  refine kf_of (cc := b_FR_quotient) (maxL := 4) (ret := (some .long)) (by decide) rfl (Nat.le_of_ble_eq_true rfl) ?_
  intro p e s m below meth c A H locs hx hb hr hml hown hts hlocks hin hP hD hS hA hE ls hl
  have hl : lv_has ls 4 [(0, .long p0), (2, .long p1)] := hl
  refine lv_lload_n hx hb d_FR_quotient_0 rfl (lv_at hl 1 rfl) ?_
  refine lv_lconst (v := 1) hx hb d_FR_quotient_1 (by decide) ?_
  refine kf_lc_ge (tgt := 10) hx hb d_FR_quotient_2 d_FR_quotient_3 (by decide) (fun c2 => ?_) (fun c2 => ?_)
  · refine lv_lload_n hx hb d_FR_quotient_10 rfl (lv_at hl 0 rfl) ?_
    refine lv_lload_n hx hb d_FR_quotient_11 rfl (lv_at hl 1 rfl) ?_
    refine lv_ldiv hx hb d_FR_quotient_12 (fun q => absurd (q ▸ c2) (by decide)) ?_
    exact kf_lr hx hb hr hlocks hP hD hS (by unfold ky_q; rw [if_pos c2]) d_FR_quotient_13
  · refine lv_lconst (v := 0) hx hb d_FR_quotient_6 (by decide) ?_
    refine lv_goto (tgt := 13) hx hb d_FR_quotient_7 (by decide) ?_
    exact kf_lr hx hb hr hlocks hP hD hS (by unfold ky_q; rw [if_neg c2]) d_FR_quotient_13

set_option maxRecDepth 100000 in
set_option maxHeartbeats 4000000 in
theorem c_FR_quotientUp (l : Launch) (D : va_G) (cB cI : ClassId) (hz : Nat) (p0 : Int64) (p1 : Int64) : kf_Ct l y_FR_quotientUp w_FR_quotientUp 1 23 0 0 D (kT cB cI) [.long p0, .long p1] [] hz (some (.long (ky_qU p0 p1))) (kf_po D []) := by
  refine kf_of (cc := b_FR_quotientUp) (maxL := 4) (ret := (some .long)) (by decide) rfl (Nat.le_of_ble_eq_true rfl) ?_
  intro p e s m below meth c A H locs hx hb hr hml hown hts hlocks hin hP hD hS hA hE ls hl
  have hl : lv_has ls 4 [(0, .long p0), (2, .long p1)] := hl
  refine lv_lload_n hx hb d_FR_quotientUp_0 rfl (lv_at hl 0 rfl) ?_
  refine lv_lload_n hx hb d_FR_quotientUp_1 rfl (lv_at hl 1 rfl) ?_
  refine lv_ladd hx hb d_FR_quotientUp_2 ?_
  refine lv_lconst (v := 1) hx hb d_FR_quotientUp_3 (by decide) ?_
  refine lv_lsub hx hb d_FR_quotientUp_4 ?_
  refine lv_lload_n hx hb d_FR_quotientUp_5 rfl (lv_at hl 1 rfl) ?_
  refine kf_ro hP hD hS hA [] rfl (va_runS (As := [.long ((p0 + p1) - 1), .long p1]) (rest := []) ⟨hx, hb, hml, hown, hts⟩ (c_FR_quotient l D cB cI _ ((p0 + p1) - 1) p1) ⟨callB_of 2 hts g_FR_quotient rfl rfl rfl (hts _ q1_1) (hts _ q1_118) h_FR_quotient ⟨Nat.le_of_ble_eq_true rfl, Nat.le_of_ble_eq_true rfl⟩, (hts _ q1_119)⟩ ⟨kf_bl, kf_to hP hD hS hA hE [] rfl rfl⟩ rfl rfl hl.1 rfl (lv_room (Nat.le_of_ble_eq_true rfl)) d_FR_quotientUp_6 ⟨Nat.zero_le _, Nat.zero_le _⟩) (fun H locs hP hS => ?_)
  refine W.eq (g2 := F0 m 9 ls [.long (ky_q ((p0 + p1) - 1) p1)]) rfl ?_
  exact kf_lr hx hb hr hlocks hP hD hS (rfl) d_FR_quotientUp_9

set_option maxRecDepth 100000 in
set_option maxHeartbeats 4000000 in
theorem c_Vol_groupStart (l : Launch) (D : va_G) (cB cI : ClassId) (hz : Nat) (h0 : Nat) (fi : Int64) (bl : Int64) (fs : Int64) (sh : Int64) (zz : Int64) (gb : Int64) (gf : Int64) (rb : Int64) (fc : Int32) (gc : Int64) (cb : Int64) (rk : Int64) (g : Int64) : kf_Ct l y_Vol_groupStart w_Vol_groupStart 0 0 0 0 D (kT cB cI) [.ref h0, .long g] [(h0, .inr (1, [.long fi, .long bl, .long fs, .long sh, .long zz, .long gb, .long gf, .long rb, .int fc, .long gc, .long cb, .long rk]))] hz (some (.long (fs + g * gb))) (kf_po D [(h0, .inr (1, [.long fi, .long bl, .long fs, .long sh, .long zz, .long gb, .long gf, .long rb, .int fc, .long gc, .long cb, .long rk]))]) := by
  refine kf_of (cc := b_Vol_groupStart) (maxL := 3) (ret := (some .long)) (by decide) rfl (Nat.le_of_ble_eq_true rfl) ?_
  intro p e s m below meth c A H locs hx hb hr hml hown hts hlocks hin hP hD hS hA hE ls hl
  have hl : lv_has ls 3 [(0, .ref h0), (1, .long g)] := hl
  refine lv_aload_n hx hb d_Vol_groupStart_0 rfl (lv_at hl 0 rfl) ?_
  refine va_get (D := D) (ci := 1) (v := .long fs) (C := "FieldRows$Volume") (T := F_Vol) (N := 12) hx hb hts ku_Vol hown hE.1 hP 0 rfl rfl 2 (by decide) (hts _ q1_34) (fun _ h9 => h9) rfl d_Vol_groupStart_1 ?_
  refine lv_lload_n hx hb d_Vol_groupStart_4 rfl (lv_at hl 1 rfl) ?_
  refine lv_aload_n hx hb d_Vol_groupStart_5 rfl (lv_at hl 0 rfl) ?_
  refine va_get (D := D) (ci := 1) (v := .long gb) (C := "FieldRows$Volume") (T := F_Vol) (N := 12) hx hb hts ku_Vol hown hE.1 hP 0 rfl rfl 5 (by decide) (hts _ q1_38) (fun _ h9 => h9) rfl d_Vol_groupStart_6 ?_
  refine lv_lmul hx hb d_Vol_groupStart_9 ?_
  refine lv_ladd hx hb d_Vol_groupStart_10 ?_
  exact kf_lr hx hb hr hlocks hP hD hS (rfl) d_Vol_groupStart_11

set_option maxRecDepth 100000 in
set_option maxHeartbeats 4000000 in
theorem c_Vol_groupLength (l : Launch) (D : va_G) (cB cI : ClassId) (hz : Nat) (h0 : Nat) (fi : Int64) (bl : Int64) (fs : Int64) (sh : Int64) (zz : Int64) (gb : Int64) (gf : Int64) (rb : Int64) (fc : Int32) (gc : Int64) (cb : Int64) (rk : Int64) (g : Int64) : kf_Ct l y_Vol_groupLength w_Vol_groupLength 1 22 0 0 D (kT cB cI) [.ref h0, .long g] [(h0, .inr (1, [.long fi, .long bl, .long fs, .long sh, .long zz, .long gb, .long gf, .long rb, .int fc, .long gc, .long cb, .long rk]))] hz (some (.long (ky_min gb (bl - (fs + g * gb))))) (kf_po D [(h0, .inr (1, [.long fi, .long bl, .long fs, .long sh, .long zz, .long gb, .long gf, .long rb, .int fc, .long gc, .long cb, .long rk]))]) := by
  refine kf_of (cc := b_Vol_groupLength) (maxL := 3) (ret := (some .long)) (by decide) rfl (Nat.le_of_ble_eq_true rfl) ?_
  intro p e s m below meth c A H locs hx hb hr hml hown hts hlocks hin hP hD hS hA hE ls hl
  have hl : lv_has ls 3 [(0, .ref h0), (1, .long g)] := hl
  refine lv_aload_n hx hb d_Vol_groupLength_0 rfl (lv_at hl 0 rfl) ?_
  refine va_get (D := D) (ci := 1) (v := .long gb) (C := "FieldRows$Volume") (T := F_Vol) (N := 12) hx hb hts ku_Vol hown hE.1 hP 0 rfl rfl 5 (by decide) (hts _ q1_38) (fun _ h9 => h9) rfl d_Vol_groupLength_1 ?_
  refine lv_aload_n hx hb d_Vol_groupLength_4 rfl (lv_at hl 0 rfl) ?_
  refine va_get (D := D) (ci := 1) (v := .long bl) (C := "FieldRows$Volume") (T := F_Vol) (N := 12) hx hb hts ku_Vol hown hE.1 hP 0 rfl rfl 1 (by decide) (hts _ q1_33) (fun _ h9 => h9) rfl d_Vol_groupLength_5 ?_
  refine lv_aload_n hx hb d_Vol_groupLength_8 rfl (lv_at hl 0 rfl) ?_
  refine lv_lload_n hx hb d_Vol_groupLength_9 rfl (lv_at hl 1 rfl) ?_
  refine kf_ro hP hD hS hA [0] rfl (va_runV (As := [.long g]) (rest := [.long bl, .long gb]) ⟨hx, hb, hml, hown, hts⟩ (c_Vol_groupStart l D cB cI _ h0 fi bl fs sh zz gb gf rb fc gc cb rk g) ⟨callB_of 1 hts g_Vol_groupStart rfl rfl rfl (hts _ q1_3) (hts _ q1_161) h_Vol_groupStart ⟨Nat.le_of_ble_eq_true rfl, Nat.le_of_ble_eq_true rfl⟩, (hts _ q1_162), (hts _ q1_163)⟩ ⟨kf_bl, va_recv hE.1 hP (ci := 1) (q0 := 0) rfl rfl, kf_to hP hD hS hA hE [0] rfl rfl⟩ rfl rfl hl.1 rfl (lv_room (Nat.le_of_ble_eq_true rfl)) d_Vol_groupLength_10 ⟨Nat.zero_le _, Nat.zero_le _⟩) (fun H locs hP hS => ?_)
  refine W.eq (g2 := F0 m 13 ls [.long (fs + g * gb), .long bl, .long gb]) rfl ?_
  refine lv_lsub hx hb d_Vol_groupLength_13 ?_
  refine va_mmin_long hx hb (hml.trans hl.1.symm) hown (hts _ q1_165) (hts _ q1_166) (hts _ q1_4) (hts _ q1_167) (Nat.le_of_ble_eq_true rfl) (Nat.le_of_ble_eq_true rfl) (Nat.zero_le _) (Nat.zero_le _) d_Vol_groupLength_14 ?_
  refine kf_tl (y := ky_min gb (bl - (fs + g * gb))) (rfl) ?_
  exact kf_lr hx hb hr hlocks hP hD hS (rfl) d_Vol_groupLength_17

set_option maxRecDepth 100000 in
set_option maxHeartbeats 4000000 in
theorem c_Vol_hasCopy (l : Launch) (D : va_G) (cB cI : ClassId) (hz : Nat) (h0 : Nat) (fi : Int64) (bl : Int64) (fs : Int64) (sh : Int64) (zz : Int64) (gb : Int64) (gf : Int64) (rb : Int64) (fc : Int32) (gc : Int64) (cb : Int64) (rk : Int64) (g : Int64) : kf_Ct l y_Vol_hasCopy w_Vol_hasCopy 0 0 0 0 D (kT cB cI) [.ref h0, .long g] [(h0, .inr (1, [.long fi, .long bl, .long fs, .long sh, .long zz, .long gb, .long gf, .long rb, .int fc, .long gc, .long cb, .long rk]))] hz (some (.int (kP (ky_hcP fc g)))) (kf_po D [(h0, .inr (1, [.long fi, .long bl, .long fs, .long sh, .long zz, .long gb, .long gf, .long rb, .int fc, .long gc, .long cb, .long rk]))]) := by
  refine kf_of (cc := b_Vol_hasCopy) (maxL := 4) (ret := (some .boolean)) (by decide) rfl (Nat.le_of_ble_eq_true rfl) ?_
  intro p e s m below meth c A H locs hx hb hr hml hown hts hlocks hin hP hD hS hA hE ls hl
  have hl : lv_has ls 4 [(0, .ref h0), (1, .long g)] := hl
  refine lv_aload_n hx hb d_Vol_hasCopy_0 rfl (lv_at hl 0 rfl) ?_
  refine va_get (D := D) (ci := 1) (v := .int fc) (C := "FieldRows$Volume") (T := F_Vol) (N := 12) hx hb hts ku_Vol hown hE.1 hP 0 rfl rfl 8 (by decide) (hts _ q1_43) (fun _ h9 => h9) rfl d_Vol_hasCopy_1 ?_
  refine lv_if_ne (tgt := 9) hx hb d_Vol_hasCopy_4 (by decide) (fun c4 => ?_) (fun c4 => ?_)
  · refine lv_iconst (v := 0) hx hb d_Vol_hasCopy_9 (by decide) ?_
    refine kf_ti (y := nI 0) (rfl) ?_
    refine lv_istore_n (lv' := [(3, .int (nI 0)), (0, .ref h0), (1, .long g)]) hx hb d_Vol_hasCopy_10 rfl hl (by decide) rfl (fun ls hl => ?_)
    refine kf_loop (σ := Nat) (fun k ls H locs => (k ≤ 9) ∧ (∀ j, j < k → ¬ (ky_few j).toInt64 = g) ∧ lv_has ls 4 [(3, .int (nI k)), (0, .ref h0), (1, .long g)] ∧ va_P D vwCl [(h0, .inr (1, [.long fi, .long bl, .long fs, .long sh, .long zz, .long gb, .long gf, .long rb, .int fc, .long gc, .long cb, .long rk]))] H ∧ va_D A [(h0, .inr (1, [.long fi, .long bl, .long fs, .long sh, .long zz, .long gb, .long gf, .long rb, .int fc, .long gc, .long cb, .long rk]))] ∧ va_S A s.heap H locs) (fun k => 9 - k) 0 ⟨Nat.zero_le _, fun j hj => absurd hj (Nat.not_lt_zero j), lv_sub hl [0, 1, 2] rfl, hP, hD, hS⟩ (fun k ls H locs hI ih => ?_)
    obtain ⟨hk, hno, hl, hP, hD, hS⟩ := hI
    rcases Nat.lt_or_ge k 9 with hk9 | hk9
    · refine lv_iload_n hx hb d_Vol_hasCopy_11 rfl (lv_at hl 0 rfl) ?_
      obtain ⟨tF, htFZ, htFT⟩ := hE.2.2 kf_zF (by simp [kf_zs])
      refine va_getsN hx hb htFZ hS hown (va_Nw.use rfl (hE.2.1 _ q1_180)) (fun _ h9 => h9) d_Vol_hasCopy_12 ?_
      refine va_tlen hx hb htFT hS (v := 9) (by decide) d_Vol_hasCopy_15 ?_
      refine lv_icmp_ge (tgt := 38) hx hb d_Vol_hasCopy_16 (by decide) (fun c16 => absurd c16 (nI_ge (a := k) (b := 9) hk9 (by decide))) (fun c16 => ?_)
      obtain ⟨tF, htFZ, htFT⟩ := hE.2.2 kf_zF (by simp [kf_zs])
      refine va_getsN hx hb htFZ hS hown (va_Nw.use rfl (hE.2.1 _ q1_180)) (fun _ h9 => h9) d_Vol_hasCopy_19 ?_
      refine lv_iload_n hx hb d_Vol_hasCopy_22 rfl (lv_at hl 0 rfl) ?_
      refine va_ti hx hb htFT hS (vp_in_nI hk9 (by decide)) (v := .int (ky_few k)) (by show Value.int (ky_few (nI k).toNatClampNeg) = _; rw [nI_clamp (by omega)]) d_Vol_hasCopy_23 ?_
      refine lv_i2l hx hb d_Vol_hasCopy_24 rfl ?_
      refine lv_lload_n hx hb d_Vol_hasCopy_25 rfl (lv_at hl 2 rfl) ?_
      refine kf_lc_ne (tgt := 32) hx hb d_Vol_hasCopy_26 d_Vol_hasCopy_27 (by decide) (fun c26 => ?_) (fun c26 => ?_)
      · refine lv_iinc (v := nI (k + 1)) (lv' := [(3, .int (nI (k + 1))), (0, .ref h0), (1, .long g)]) hx hb d_Vol_hasCopy_32 hl (k := 0) rfl ((nI_succ k).symm) (by decide) rfl (fun ls hl => ?_)
        refine lv_goto (tgt := 11) hx hb d_Vol_hasCopy_35 (by decide) ?_
        exact ih (k + 1) _ _ _ (by omega) ⟨by omega, fun j hj => by rcases (show j < k ∨ j = k by omega) with q | rfl; exact hno j q; exact c26, lv_sub hl [0, 1, 2] rfl, hP, hD, hS⟩
      · refine lv_iconst (v := 1) hx hb d_Vol_hasCopy_30 (by decide) ?_
        exact kf_zr hx hb hr hlocks hP hD hS (kP_t (Or.inr (ky_few_in hk9 c26))) (kP_nar) d_Vol_hasCopy_31
    · refine lv_iload_n hx hb d_Vol_hasCopy_11 rfl (lv_at hl 0 rfl) ?_
      obtain ⟨tF, htFZ, htFT⟩ := hE.2.2 kf_zF (by simp [kf_zs])
      refine va_getsN hx hb htFZ hS hown (va_Nw.use rfl (hE.2.1 _ q1_180)) (fun _ h9 => h9) d_Vol_hasCopy_12 ?_
      refine va_tlen hx hb htFT hS (v := 9) (by decide) d_Vol_hasCopy_15 ?_
      refine lv_icmp_ge (tgt := 38) hx hb d_Vol_hasCopy_16 (by decide) (fun c16 => ?_) (fun c16 => absurd (nI_le (a := 9) (b := k) hk9 (by omega)) c16)
      refine lv_iconst (v := 0) hx hb d_Vol_hasCopy_38 (by decide) ?_
      exact kf_zr hx hb hr hlocks hP hD hS (kP_f (fun q => q.elim c4 (ky_few_all (fun j hj => hno j (by omega))))) (kP_nar) d_Vol_hasCopy_39
  · refine lv_iconst (v := 1) hx hb d_Vol_hasCopy_7 (by decide) ?_
    exact kf_zr hx hb hr hlocks hP hD hS (kP_t (Or.inl c4)) (kP_nar) d_Vol_hasCopy_8

set_option maxRecDepth 100000 in
set_option maxHeartbeats 4000000 in
theorem c_Vol_blocksOfCopy (l : Launch) (D : va_G) (cB cI : ClassId) (hz : Nat) (h0 : Nat) (fi : Int64) (bl : Int64) (fs : Int64) (sh : Int64) (zz : Int64) (gb : Int64) (gf : Int64) (rb : Int64) (fc : Int32) (gc : Int64) (cb : Int64) (rk : Int64) (g : Int64) : kf_Ct l y_Vol_blocksOfCopy w_Vol_blocksOfCopy 1 23 0 0 D (kT cB cI) [.ref h0, .long g] [(h0, .inr (1, [.long fi, .long bl, .long fs, .long sh, .long zz, .long gb, .long gf, .long rb, .int fc, .long gc, .long cb, .long rk]))] hz (some (.long (ky_bc fc cb g))) (kf_po D [(h0, .inr (1, [.long fi, .long bl, .long fs, .long sh, .long zz, .long gb, .long gf, .long rb, .int fc, .long gc, .long cb, .long rk]))]) := by
  refine kf_of (cc := b_Vol_blocksOfCopy) (maxL := 3) (ret := (some .long)) (by decide) rfl (Nat.le_of_ble_eq_true rfl) ?_
  intro p e s m below meth c A H locs hx hb hr hml hown hts hlocks hin hP hD hS hA hE ls hl
  have hl : lv_has ls 3 [(0, .ref h0), (1, .long g)] := hl
  refine lv_aload_n hx hb d_Vol_blocksOfCopy_0 rfl (lv_at hl 0 rfl) ?_
  refine lv_lload_n hx hb d_Vol_blocksOfCopy_1 rfl (lv_at hl 1 rfl) ?_
  refine kf_ro hP hD hS hA [0] rfl (va_runV (As := [.long g]) (rest := []) ⟨hx, hb, hml, hown, hts⟩ (c_Vol_hasCopy l D cB cI _ h0 fi bl fs sh zz gb gf rb fc gc cb rk g) ⟨callB_of 1 hts g_Vol_hasCopy rfl rfl rfl (hts _ q1_3) (hts _ q1_176) h_Vol_hasCopy ⟨Nat.le_of_ble_eq_true rfl, Nat.le_of_ble_eq_true rfl⟩, (hts _ q1_177), (hts _ q1_178)⟩ ⟨kf_bl, va_recv hE.1 hP (ci := 1) (q0 := 0) rfl rfl, kf_to hP hD hS hA hE [0] rfl rfl⟩ rfl rfl hl.1 rfl (lv_room (Nat.le_of_ble_eq_true rfl)) d_Vol_blocksOfCopy_2 ⟨Nat.zero_le _, Nat.zero_le _⟩) (fun H locs hP hS => ?_)
  refine W.eq (g2 := F0 m 5 ls [.int (kP (ky_hcP fc g))]) rfl ?_
  refine lv_if_eq (tgt := 15) hx hb d_Vol_blocksOfCopy_5 (by decide) (fun c5 => ?_) (fun c5 => ?_)
  · refine lv_lconst (v := 0) hx hb d_Vol_blocksOfCopy_15 (by decide) ?_
    exact kf_lr hx hb hr hlocks hP hD hS (by unfold ky_bc; rw [if_neg (kP_eq c5)]) d_Vol_blocksOfCopy_16
  · refine lv_aload_n hx hb d_Vol_blocksOfCopy_8 rfl (lv_at hl 0 rfl) ?_
    refine va_get (D := D) (ci := 1) (v := .long cb) (C := "FieldRows$Volume") (T := F_Vol) (N := 12) hx hb hts ku_Vol hown hE.1 hP 0 rfl rfl 10 (by decide) (hts _ q1_46) (fun _ h9 => h9) rfl d_Vol_blocksOfCopy_9 ?_
    refine lv_goto (tgt := 16) hx hb d_Vol_blocksOfCopy_12 (by decide) ?_
    exact kf_lr hx hb hr hlocks hP hD hS (by unfold ky_bc; rw [if_pos (kP_ne c5)]) d_Vol_blocksOfCopy_16

set_option maxRecDepth 100000 in
set_option maxHeartbeats 4000000 in
theorem c_Vol_blockBitmap (l : Launch) (D : va_G) (cB cI : ClassId) (hz : Nat) (h0 : Nat) (fi : Int64) (bl : Int64) (fs : Int64) (sh : Int64) (zz : Int64) (gb : Int64) (gf : Int64) (rb : Int64) (fc : Int32) (gc : Int64) (cb : Int64) (rk : Int64) (g : Int64) : kf_Ct l y_Vol_blockBitmap w_Vol_blockBitmap 2 45 0 0 D (kT cB cI) [.ref h0, .long g] [(h0, .inr (1, [.long fi, .long bl, .long fs, .long sh, .long zz, .long gb, .long gf, .long rb, .int fc, .long gc, .long cb, .long rk]))] hz (some (.long (fs + g * gb + ky_bc fc cb g))) (kf_po D [(h0, .inr (1, [.long fi, .long bl, .long fs, .long sh, .long zz, .long gb, .long gf, .long rb, .int fc, .long gc, .long cb, .long rk]))]) := by
  refine kf_of (cc := b_Vol_blockBitmap) (maxL := 3) (ret := (some .long)) (by decide) rfl (Nat.le_of_ble_eq_true rfl) ?_
  intro p e s m below meth c A H locs hx hb hr hml hown hts hlocks hin hP hD hS hA hE ls hl
  have hl : lv_has ls 3 [(0, .ref h0), (1, .long g)] := hl
  refine lv_aload_n hx hb d_Vol_blockBitmap_0 rfl (lv_at hl 0 rfl) ?_
  refine lv_lload_n hx hb d_Vol_blockBitmap_1 rfl (lv_at hl 1 rfl) ?_
  refine kf_ro hP hD hS hA [0] rfl (va_runV (As := [.long g]) (rest := []) ⟨hx, hb, hml, hown, hts⟩ (c_Vol_groupStart l D cB cI _ h0 fi bl fs sh zz gb gf rb fc gc cb rk g) ⟨callB_of 1 hts g_Vol_groupStart rfl rfl rfl (hts _ q1_3) (hts _ q1_161) h_Vol_groupStart ⟨Nat.le_of_ble_eq_true rfl, Nat.le_of_ble_eq_true rfl⟩, (hts _ q1_162), (hts _ q1_163)⟩ ⟨kf_bl, va_recv hE.1 hP (ci := 1) (q0 := 0) rfl rfl, kf_to hP hD hS hA hE [0] rfl rfl⟩ rfl rfl hl.1 rfl (lv_room (Nat.le_of_ble_eq_true rfl)) d_Vol_blockBitmap_2 ⟨Nat.zero_le _, Nat.zero_le _⟩) (fun H locs hP hS => ?_)
  refine W.eq (g2 := F0 m 5 ls [.long (fs + g * gb)]) rfl ?_
  refine lv_aload_n hx hb d_Vol_blockBitmap_5 rfl (lv_at hl 0 rfl) ?_
  refine lv_lload_n hx hb d_Vol_blockBitmap_6 rfl (lv_at hl 1 rfl) ?_
  refine kf_ro hP hD hS hA [0] rfl (va_runV (As := [.long g]) (rest := [.long (fs + g * gb)]) ⟨hx, hb, hml, hown, hts⟩ (c_Vol_blocksOfCopy l D cB cI _ h0 fi bl fs sh zz gb gf rb fc gc cb rk g) ⟨callB_of 1 hts g_Vol_blocksOfCopy rfl rfl rfl (hts _ q1_3) (hts _ q1_172) h_Vol_blocksOfCopy ⟨Nat.le_of_ble_eq_true rfl, Nat.le_of_ble_eq_true rfl⟩, (hts _ q1_173), (hts _ q1_174)⟩ ⟨kf_bl, va_recv hE.1 hP (ci := 1) (q0 := 0) rfl rfl, kf_to hP hD hS hA hE [0] rfl rfl⟩ rfl rfl hl.1 rfl (lv_room (Nat.le_of_ble_eq_true rfl)) d_Vol_blockBitmap_7 ⟨Nat.zero_le _, Nat.zero_le _⟩) (fun H locs hP hS => ?_)
  refine W.eq (g2 := F0 m 10 ls [.long (ky_bc fc cb g), .long (fs + g * gb)]) rfl ?_
  refine lv_ladd hx hb d_Vol_blockBitmap_10 ?_
  exact kf_lr hx hb hr hlocks hP hD hS (rfl) d_Vol_blockBitmap_11

set_option maxRecDepth 100000 in
set_option maxHeartbeats 4000000 in
theorem c_Vol_fileBitmap (l : Launch) (D : va_G) (cB cI : ClassId) (hz : Nat) (h0 : Nat) (fi : Int64) (bl : Int64) (fs : Int64) (sh : Int64) (zz : Int64) (gb : Int64) (gf : Int64) (rb : Int64) (fc : Int32) (gc : Int64) (cb : Int64) (rk : Int64) (g : Int64) : kf_Ct l y_Vol_fileBitmap w_Vol_fileBitmap 3 67 0 0 D (kT cB cI) [.ref h0, .long g] [(h0, .inr (1, [.long fi, .long bl, .long fs, .long sh, .long zz, .long gb, .long gf, .long rb, .int fc, .long gc, .long cb, .long rk]))] hz (some (.long (fs + g * gb + ky_bc fc cb g + 1))) (kf_po D [(h0, .inr (1, [.long fi, .long bl, .long fs, .long sh, .long zz, .long gb, .long gf, .long rb, .int fc, .long gc, .long cb, .long rk]))]) := by
  refine kf_of (cc := b_Vol_fileBitmap) (maxL := 3) (ret := (some .long)) (by decide) rfl (Nat.le_of_ble_eq_true rfl) ?_
  intro p e s m below meth c A H locs hx hb hr hml hown hts hlocks hin hP hD hS hA hE ls hl
  have hl : lv_has ls 3 [(0, .ref h0), (1, .long g)] := hl
  refine lv_aload_n hx hb d_Vol_fileBitmap_0 rfl (lv_at hl 0 rfl) ?_
  refine lv_lload_n hx hb d_Vol_fileBitmap_1 rfl (lv_at hl 1 rfl) ?_
  refine kf_ro hP hD hS hA [0] rfl (va_runV (As := [.long g]) (rest := []) ⟨hx, hb, hml, hown, hts⟩ (c_Vol_blockBitmap l D cB cI _ h0 fi bl fs sh zz gb gf rb fc gc cb rk g) ⟨callB_of 1 hts g_Vol_blockBitmap rfl rfl rfl (hts _ q1_3) (hts _ q2_41) h_Vol_blockBitmap ⟨Nat.le_of_ble_eq_true rfl, Nat.le_of_ble_eq_true rfl⟩, (hts _ q2_34), (hts _ q2_35)⟩ ⟨kf_bl, va_recv hE.1 hP (ci := 1) (q0 := 0) rfl rfl, kf_to hP hD hS hA hE [0] rfl rfl⟩ rfl rfl hl.1 rfl (lv_room (Nat.le_of_ble_eq_true rfl)) d_Vol_fileBitmap_2 ⟨Nat.zero_le _, Nat.zero_le _⟩) (fun H locs hP hS => ?_)
  refine W.eq (g2 := F0 m 5 ls [.long (fs + g * gb + ky_bc fc cb g)]) rfl ?_
  refine lv_lconst (v := 1) hx hb d_Vol_fileBitmap_5 (by decide) ?_
  refine lv_ladd hx hb d_Vol_fileBitmap_6 ?_
  exact kf_lr hx hb hr hlocks hP hD hS (rfl) d_Vol_fileBitmap_7

set_option maxRecDepth 100000 in
set_option maxHeartbeats 4000000 in
theorem c_Vol_recordStart (l : Launch) (D : va_G) (cB cI : ClassId) (hz : Nat) (h0 : Nat) (fi : Int64) (bl : Int64) (fs : Int64) (sh : Int64) (zz : Int64) (gb : Int64) (gf : Int64) (rb : Int64) (fc : Int32) (gc : Int64) (cb : Int64) (rk : Int64) (g : Int64) : kf_Ct l y_Vol_recordStart w_Vol_recordStart 4 89 0 0 D (kT cB cI) [.ref h0, .long g] [(h0, .inr (1, [.long fi, .long bl, .long fs, .long sh, .long zz, .long gb, .long gf, .long rb, .int fc, .long gc, .long cb, .long rk]))] hz (some (.long (fs + g * gb + ky_bc fc cb g + 1 + 1))) (kf_po D [(h0, .inr (1, [.long fi, .long bl, .long fs, .long sh, .long zz, .long gb, .long gf, .long rb, .int fc, .long gc, .long cb, .long rk]))]) := by
  refine kf_of (cc := b_Vol_recordStart) (maxL := 3) (ret := (some .long)) (by decide) rfl (Nat.le_of_ble_eq_true rfl) ?_
  intro p e s m below meth c A H locs hx hb hr hml hown hts hlocks hin hP hD hS hA hE ls hl
  have hl : lv_has ls 3 [(0, .ref h0), (1, .long g)] := hl
  refine lv_aload_n hx hb d_Vol_recordStart_0 rfl (lv_at hl 0 rfl) ?_
  refine lv_lload_n hx hb d_Vol_recordStart_1 rfl (lv_at hl 1 rfl) ?_
  refine kf_ro hP hD hS hA [0] rfl (va_runV (As := [.long g]) (rest := []) ⟨hx, hb, hml, hown, hts⟩ (c_Vol_fileBitmap l D cB cI _ h0 fi bl fs sh zz gb gf rb fc gc cb rk g) ⟨callB_of 1 hts g_Vol_fileBitmap rfl rfl rfl (hts _ q1_3) (hts _ q2_46) h_Vol_fileBitmap ⟨Nat.le_of_ble_eq_true rfl, Nat.le_of_ble_eq_true rfl⟩, (hts _ q2_38), (hts _ q2_39)⟩ ⟨kf_bl, va_recv hE.1 hP (ci := 1) (q0 := 0) rfl rfl, kf_to hP hD hS hA hE [0] rfl rfl⟩ rfl rfl hl.1 rfl (lv_room (Nat.le_of_ble_eq_true rfl)) d_Vol_recordStart_2 ⟨Nat.zero_le _, Nat.zero_le _⟩) (fun H locs hP hS => ?_)
  refine W.eq (g2 := F0 m 5 ls [.long (fs + g * gb + ky_bc fc cb g + 1)]) rfl ?_
  refine lv_lconst (v := 1) hx hb d_Vol_recordStart_5 (by decide) ?_
  refine lv_ladd hx hb d_Vol_recordStart_6 ?_
  exact kf_lr hx hb hr hlocks hP hD hS (rfl) d_Vol_recordStart_7

set_option maxRecDepth 100000 in
set_option maxHeartbeats 4000000 in
theorem c_Vol_fixedBlocks (l : Launch) (D : va_G) (cB cI : ClassId) (hz : Nat) (h0 : Nat) (fi : Int64) (bl : Int64) (fs : Int64) (sh : Int64) (zz : Int64) (gb : Int64) (gf : Int64) (rb : Int64) (fc : Int32) (gc : Int64) (cb : Int64) (rk : Int64) (g : Int64) : kf_Ct l y_Vol_fixedBlocks w_Vol_fixedBlocks 2 45 0 0 D (kT cB cI) [.ref h0, .long g] [(h0, .inr (1, [.long fi, .long bl, .long fs, .long sh, .long zz, .long gb, .long gf, .long rb, .int fc, .long gc, .long cb, .long rk]))] hz (some (.long (ky_bc fc cb g + 2 + rk))) (kf_po D [(h0, .inr (1, [.long fi, .long bl, .long fs, .long sh, .long zz, .long gb, .long gf, .long rb, .int fc, .long gc, .long cb, .long rk]))]) := by
  refine kf_of (cc := b_Vol_fixedBlocks) (maxL := 3) (ret := (some .long)) (by decide) rfl (Nat.le_of_ble_eq_true rfl) ?_
  intro p e s m below meth c A H locs hx hb hr hml hown hts hlocks hin hP hD hS hA hE ls hl
  have hl : lv_has ls 3 [(0, .ref h0), (1, .long g)] := hl
  refine lv_aload_n hx hb d_Vol_fixedBlocks_0 rfl (lv_at hl 0 rfl) ?_
  refine lv_lload_n hx hb d_Vol_fixedBlocks_1 rfl (lv_at hl 1 rfl) ?_
  refine kf_ro hP hD hS hA [0] rfl (va_runV (As := [.long g]) (rest := []) ⟨hx, hb, hml, hown, hts⟩ (c_Vol_blocksOfCopy l D cB cI _ h0 fi bl fs sh zz gb gf rb fc gc cb rk g) ⟨callB_of 1 hts g_Vol_blocksOfCopy rfl rfl rfl (hts _ q1_3) (hts _ q1_172) h_Vol_blocksOfCopy ⟨Nat.le_of_ble_eq_true rfl, Nat.le_of_ble_eq_true rfl⟩, (hts _ q1_173), (hts _ q1_174)⟩ ⟨kf_bl, va_recv hE.1 hP (ci := 1) (q0 := 0) rfl rfl, kf_to hP hD hS hA hE [0] rfl rfl⟩ rfl rfl hl.1 rfl (lv_room (Nat.le_of_ble_eq_true rfl)) d_Vol_fixedBlocks_2 ⟨Nat.zero_le _, Nat.zero_le _⟩) (fun H locs hP hS => ?_)
  refine W.eq (g2 := F0 m 5 ls [.long (ky_bc fc cb g)]) rfl ?_
  refine lv_ldc2 (v := 2) hx hb hown (hts _ q1_132) d_Vol_fixedBlocks_5 ?_
  refine lv_ladd hx hb d_Vol_fixedBlocks_8 ?_
  refine lv_aload_n hx hb d_Vol_fixedBlocks_9 rfl (lv_at hl 0 rfl) ?_
  refine va_get (D := D) (ci := 1) (v := .long rk) (C := "FieldRows$Volume") (T := F_Vol) (N := 12) hx hb hts ku_Vol hown hE.1 hP 0 rfl rfl 11 (by decide) (hts _ q1_47) (fun _ h9 => h9) rfl d_Vol_fixedBlocks_10 ?_
  refine lv_ladd hx hb d_Vol_fixedBlocks_13 ?_
  exact kf_lr hx hb hr hlocks hP hD hS (rfl) d_Vol_fixedBlocks_14
end
section
set_option maxRecDepth 100000 in
set_option maxHeartbeats 4000000 in
theorem c_Row_field (l : Launch) (D : va_G) (cB cI : ClassId) (hz : Nat) (h0 : Nat) (h1 : Nat) (f : Nat → Int32) (p1 : Int32) (p2 : Int32) : kf_Ct l y_Row_field w_Row_field 1 21 0 0 D (kT cB cI) [.ref h0, .int p1, .int p2] [(h0, .inr (0, [.ref h1])), (h1, .inl (cB, 1024, .inl f))] hz (some (.long (ky_fl f p1 p2))) (kf_po D [(h0, .inr (0, [.ref h1])), (h1, .inl (cB, 1024, .inl f))]) := by
  refine kf_of (cc := b_Row_field) (maxL := 6) (ret := (some .long)) (by decide) rfl (Nat.le_of_ble_eq_true rfl) ?_
  intro p e s m below meth c A H locs hx hb hr hml hown hts hlocks hin hP hD hS hA hE ls hl
  have hl : lv_has ls 6 [(0, .ref h0), (1, .int p1), (2, .int p2)] := hl
  refine lv_iload_n hx hb d_Row_field_0 rfl (lv_at hl 1 rfl) ?_
  refine lv_iload_n hx hb d_Row_field_1 rfl (lv_at hl 2 rfl) ?_
  refine kf_ro hP hD hS hA [] rfl (va_runSN (As := [.int p1, .int p2]) (rest := []) ⟨hx, hb, hml, hown, hts⟩ (c_FR_isField l D cB cI _ p1 p2) ⟨va_cnB 2 hts g_FR_isField rfl rfl rfl (hE.2.1 _ q1_92) (hts _ q1_1) h_FR_isField ⟨Nat.le_of_ble_eq_true rfl, Nat.le_of_ble_eq_true rfl⟩, (hts _ q1_93), trivial⟩ ⟨kf_bl, kf_to hP hD hS hA hE [] rfl rfl⟩ rfl rfl hl.1 rfl (lv_room (Nat.le_of_ble_eq_true rfl)) d_Row_field_2 ⟨Nat.zero_le _, Nat.zero_le _⟩) (fun H locs hP hS => ?_)
  refine W.eq (g2 := F0 m 5 ls [.int (kP (ky_isFP p1 p2))]) rfl ?_
  refine lv_if_ne (tgt := 12) hx hb d_Row_field_5 (by decide) (fun c5 => ?_) (fun c5 => ?_)
  · obtain ⟨a, n, rfl, rfl, hn, han⟩ := ky_isF_of (kP_ne c5)
    refine lv_lconst (v := 0) hx hb d_Row_field_12 (by decide) ?_
    refine kf_tl (y := lN (ky_le f (a + n) (n - n))) (by rw [Nat.sub_self]; rfl) ?_
    refine lv_lstore_n (lv' := [(3, .long (lN (ky_le f (a + n) (n - n)))), (0, .ref h0), (1, .int (nI a)), (2, .int (nI n))]) hx hb d_Row_field_13 rfl hl (by decide) rfl (fun ls hl => ?_)
    refine lv_iload_n hx hb d_Row_field_14 rfl (lv_at hl 3 rfl) ?_
    refine lv_iconst (v := 1) hx hb d_Row_field_15 (by decide) ?_
    refine lv_isub hx hb d_Row_field_16 ?_
    refine lv_istore (lv' := [(5, .int ((nI n) - 1)), (3, .long (lN (ky_le f (a + n) (n - n)))), (0, .ref h0), (1, .int (nI a)), (2, .int (nI n))]) hx hb d_Row_field_17 hl (by decide) rfl (fun ls hl => ?_)
    refine kf_loop (σ := Nat) (fun k ls H locs => (k ≤ n) ∧ lv_has ls 6 [(5, .int (nI k - 1)), (3, .long (lN (ky_le f (a + k) (n - k)))), (0, .ref h0), (1, .int (nI a)), (2, .int (nI n))] ∧ va_P D vwCl [(h0, .inr (0, [.ref h1])), (h1, .inl (cB, 1024, .inl f))] H ∧ va_D A [(h0, .inr (0, [.ref h1])), (h1, .inl (cB, 1024, .inl f))] ∧ va_S A s.heap H locs) (fun k => k) n ⟨Nat.le_refl n, lv_sub hl [0, 1, 2, 3, 4] rfl, hP, hD, hS⟩ (fun k ls H locs hI ih => ?_)
    obtain ⟨hk, hl, hP, hD, hS⟩ := hI
    rcases k with _ | k
    · refine lv_iload hx hb d_Row_field_19 (lv_at hl 0 rfl) ?_
      refine lv_if_lt (tgt := 50) hx hb d_Row_field_21 (by decide) (fun c21 => ?_) (fun c21 => absurd (by decide) c21)
      refine lv_lload_n hx hb d_Row_field_50 rfl (lv_at hl 1 rfl) ?_
      exact kf_lr hx hb hr hlocks hP hD hS (by rw [ky_fl_mk f hn han]; rfl) d_Row_field_51
    · refine lv_iload hx hb d_Row_field_19 (lv_at hl 0 rfl) ?_
      refine lv_if_lt (tgt := 50) hx hb d_Row_field_21 (by decide) (fun c21 => absurd c21 (by rw [nI_pred]; exact nI_pos (by omega))) (fun c21 => ?_)
      refine lv_lload_n hx hb d_Row_field_24 rfl (lv_at hl 1 rfl) ?_
      refine lv_bipush (v := 8) hx hb d_Row_field_25 (by decide) ?_
      refine lv_lshl hx hb d_Row_field_27 rfl ?_
      refine lv_aload_n hx hb d_Row_field_28 rfl (lv_at hl 2 rfl) ?_
      refine va_get (D := D) (ci := 0) (v := .ref h1) (C := "FieldRows$Row") (T := F_Row) (N := 1) hx hb hts ku_Row hown hE.1 hP 0 rfl rfl 0 (by decide) (hts _ q1_20) (fun _ h9 => h9) rfl d_Row_field_29 ?_
      refine lv_iload_n hx hb d_Row_field_32 rfl (lv_at hl 3 rfl) ?_
      refine lv_iload hx hb d_Row_field_33 (lv_at hl 0 rfl) ?_
      refine lv_iadd hx hb d_Row_field_35 ?_
      refine kf_ti (y := nI (a + k)) (by rw [nI_pred, nI_add]) ?_
      refine va_bald hx hb hE.1 hP 1 0 rfl rfl (vp_in_nI (by omega) (by decide)) d_Row_field_36 ?_
      refine kf_ti (y := f (a + k)) (by rw [nI_clamp (by omega)]) ?_
      refine lv_sipush (v := 255) hx hb d_Row_field_37 (by decide) ?_
      refine lv_iand hx hb d_Row_field_40 ?_
      refine lv_i2l hx hb d_Row_field_41 rfl ?_
      refine lv_lor hx hb d_Row_field_42 ?_
      refine kf_tl (y := lN (ky_le f (a + k) (n - k))) (by rw [ky_step (ky_le_48 f _ (by omega))]; rw [show n - k = (n - (k + 1)) + 1 by omega]; rfl) ?_
      refine lv_lstore_n (lv' := [(3, .long (lN (ky_le f (a + k) (n - k)))), (5, .int (nI (k + 1) - 1)), (0, .ref h0), (1, .int (nI a)), (2, .int (nI n))]) hx hb d_Row_field_43 rfl hl (by decide) rfl (fun ls hl => ?_)
      refine lv_iinc (v := nI k - 1) (lv' := [(5, .int (nI k - 1)), (3, .long (lN (ky_le f (a + k) (n - k)))), (0, .ref h0), (1, .int (nI a)), (2, .int (nI n))]) hx hb d_Row_field_44 hl (k := 1) rfl (by rw [nI_pred, Int32.sub_eq_add_neg]; rfl) (by decide) rfl (fun ls hl => ?_)
      refine lv_goto (tgt := 19) hx hb d_Row_field_47 (by decide) ?_
      exact ih k _ _ _ (by omega) ⟨by omega, lv_sub hl [0, 1, 2, 3, 4] rfl, hP, hD, hS⟩
  · refine lv_ldc2 (v := -1) hx hb hown (hts _ q1_113) d_Row_field_8 ?_
    exact kf_lr hx hb hr hlocks hP hD hS (by unfold ky_fl; rw [if_neg (kP_eq c5)]) d_Row_field_11

theorem c_Row_fieldL (l : Launch) (D : va_G) (cB cI : ClassId) (hz : Nat) (h0 : Nat) (h1 : Nat) (f : Nat → Int32) (a n : Nat) (hn : n = 1 ∨ n = 2 ∨ n = 4) (han : a + n ≤ 1024) : kf_Ct l y_Row_field w_Row_field 1 21 0 0 D (kT cB cI) [.ref h0, .int (nI a), .int (nI n)] [(h0, .inr (0, [.ref h1])), (h1, .inl (cB, 1024, .inl f))] hz (some (.long (lN (ky_le f a n)))) (kf_po D [(h0, .inr (0, [.ref h1])), (h1, .inl (cB, 1024, .inl f))]) := by
  have h := c_Row_field l D cB cI hz h0 h1 f (nI a) (nI n)
  rw [ky_fl_mk f hn han] at h
  exact h

set_option maxRecDepth 100000 in
set_option maxHeartbeats 4000000 in
theorem c_Row_write (l : Launch) (D : va_G) (cB cI : ClassId) (hz : Nat) (h0 : Nat) (h1 : Nat) (f : Nat → Int32) (p1 : Int32) (p2 : Int32) (p3 : Int64) : kf_Ct l y_Row_write w_Row_write 1 21 0 0 D (kT cB cI) [.ref h0, .int p1, .int p2, .long p3] [(h0, .inr (0, [.ref h1])), (h1, .inl (cB, 1024, .inl f))] hz none (kf_po D [(h0, .inr (0, [.ref h1])), (h1, .inl (cB, 1024, .inl (ky_ww f p1 p2 p3)))]) := by
  refine kf_of (cc := b_Row_write) (maxL := 6) (ret := none) (by decide) rfl (Nat.le_of_ble_eq_true rfl) ?_
  intro p e s m below meth c A H locs hx hb hr hml hown hts hlocks hin hP hD hS hA hE ls hl
  have hl : lv_has ls 6 [(0, .ref h0), (1, .int p1), (2, .int p2), (3, .long p3)] := hl
  refine lv_iload_n hx hb d_Row_write_0 rfl (lv_at hl 1 rfl) ?_
  refine lv_iload_n hx hb d_Row_write_1 rfl (lv_at hl 2 rfl) ?_
  refine kf_ro hP hD hS hA [] rfl (va_runSN (As := [.int p1, .int p2]) (rest := []) ⟨hx, hb, hml, hown, hts⟩ (c_FR_isField l D cB cI _ p1 p2) ⟨va_cnB 2 hts g_FR_isField rfl rfl rfl (hE.2.1 _ q1_92) (hts _ q1_1) h_FR_isField ⟨Nat.le_of_ble_eq_true rfl, Nat.le_of_ble_eq_true rfl⟩, (hts _ q1_93), trivial⟩ ⟨kf_bl, kf_to hP hD hS hA hE [] rfl rfl⟩ rfl rfl hl.1 rfl (lv_room (Nat.le_of_ble_eq_true rfl)) d_Row_write_2 ⟨Nat.zero_le _, Nat.zero_le _⟩) (fun H locs hP hS => ?_)
  refine W.eq (g2 := F0 m 5 ls [.int (kP (ky_isFP p1 p2))]) rfl ?_
  refine lv_if_ne (tgt := 9) hx hb d_Row_write_5 (by decide) (fun c5 => ?_) (fun c5 => ?_)
  · obtain ⟨a, n, rfl, rfl, hn, han⟩ := ky_isF_of (kP_ne c5)
    refine lv_iconst (v := 0) hx hb d_Row_write_9 (by decide) ?_
    refine kf_ti (y := nI 0) (rfl) ?_
    refine lv_istore (lv' := [(5, .int (nI 0)), (0, .ref h0), (1, .int (nI a)), (2, .int (nI n)), (3, .long p3)]) hx hb d_Row_write_10 hl (by decide) rfl (fun ls hl => ?_)
    refine kf_loop (σ := Nat) (fun k ls H locs => (k ≤ n) ∧ lv_has ls 6 [(5, .int (nI k)), (0, .ref h0), (1, .int (nI a)), (2, .int (nI n)), (3, .long p3)] ∧ va_P D vwCl [(h0, .inr (0, [.ref h1])), (h1, .inl (cB, 1024, .inl (ky_wr f a p3 k)))] H ∧ va_D A [(h0, .inr (0, [.ref h1])), (h1, .inl (cB, 1024, .inl (ky_wr f a p3 k)))] ∧ va_S A s.heap H locs) (fun k => n - k) 0 ⟨Nat.zero_le n, lv_sub hl [0, 1, 2, 3, 4] rfl, hP, hD, hS⟩ (fun k ls H locs hI ih => ?_)
    obtain ⟨hk, hl, hP, hD, hS⟩ := hI
    rcases Nat.lt_or_ge k n with hkn | hkn
    · refine lv_iload hx hb d_Row_write_12 (lv_at hl 0 rfl) ?_
      refine lv_iload_n hx hb d_Row_write_14 rfl (lv_at hl 3 rfl) ?_
      refine lv_icmp_ge (tgt := 42) hx hb d_Row_write_15 (by decide) (fun c15 => absurd c15 (nI_ge hkn (by omega))) (fun c15 => ?_)
      refine lv_aload_n hx hb d_Row_write_18 rfl (lv_at hl 1 rfl) ?_
      refine va_get (D := D) (ci := 0) (v := .ref h1) (C := "FieldRows$Row") (T := F_Row) (N := 1) hx hb hts ku_Row hown hE.1 hP 0 rfl rfl 0 (by decide) (hts _ q1_20) (fun _ h9 => h9) rfl d_Row_write_19 ?_
      refine lv_iload_n hx hb d_Row_write_22 rfl (lv_at hl 2 rfl) ?_
      refine lv_iload hx hb d_Row_write_23 (lv_at hl 0 rfl) ?_
      refine lv_iadd hx hb d_Row_write_25 ?_
      refine kf_ti (y := nI (a + k)) (nI_add a k) ?_
      refine lv_lload_n hx hb d_Row_write_26 rfl (lv_at hl 4 rfl) ?_
      refine lv_bipush (v := 8) hx hb d_Row_write_27 (by decide) ?_
      refine lv_iload hx hb d_Row_write_29 (lv_at hl 0 rfl) ?_
      refine lv_imul hx hb d_Row_write_31 ?_
      refine lv_lshr hx hb d_Row_write_32 rfl ?_
      refine lv_l2i hx hb d_Row_write_33 rfl ?_
      refine lv_i2b hx hb d_Row_write_34 rfl ?_
      refine va_bast hx hb hE.1 hP hD hS 1 0 rfl rfl (vp_in_nI (by omega) (by decide)) d_Row_write_35 (fun H locs hP hD hS => ?_)
      have ef : upd (ky_wr f a p3 k) (nI (a + k)).toNatClampNeg (vp_nar .byte (((p3 >>> ((8 * (nI k)).toInt64 &&& 63)).toInt32).toInt8.toInt32)) = ky_wr f a p3 (k + 1) := by rw [nI_clamp (by omega)]; rfl
      rw [ef] at hP hD
      have hP : va_P D vwCl [(h0, .inr (0, [.ref h1])), (h1, .inl (cB, 1024, .inl (ky_wr f a p3 (k + 1))))] H := hP
      have hD : va_D A [(h0, .inr (0, [.ref h1])), (h1, .inl (cB, 1024, .inl (ky_wr f a p3 (k + 1))))] := hD
      refine lv_iinc (v := nI (k + 1)) (lv' := [(5, .int (nI (k + 1))), (0, .ref h0), (1, .int (nI a)), (2, .int (nI n)), (3, .long p3)]) hx hb d_Row_write_36 hl (k := 0) rfl ((nI_succ k).symm) (by decide) rfl (fun ls hl => ?_)
      refine lv_goto (tgt := 12) hx hb d_Row_write_39 (by decide) ?_
      exact ih (k + 1) _ _ _ (by omega) ⟨by omega, lv_sub hl [0, 1, 2, 3, 4] rfl, hP, hD, hS⟩
    · refine lv_iload hx hb d_Row_write_12 (lv_at hl 0 rfl) ?_
      refine lv_iload_n hx hb d_Row_write_14 rfl (lv_at hl 3 rfl) ?_
      refine lv_icmp_ge (tgt := 42) hx hb d_Row_write_15 (by decide) (fun c15 => ?_) (fun c15 => absurd (nI_le hkn (by omega)) c15)
      obtain rfl : k = n := by omega
      exact kf_vr hx hb hr hlocks (by rw [ky_ww_mk f p3 hn han]; exact kf_poAt hP hD) hS d_Row_write_42
  · exact kf_vr hx hb hr hlocks (by unfold ky_ww; rw [if_neg (kP_eq c5)]; exact kf_poAt hP hD) hS d_Row_write_8

theorem c_Row_writeL (l : Launch) (D : va_G) (cB cI : ClassId) (hz : Nat) (h0 : Nat) (h1 : Nat) (f : Nat → Int32) (a n : Nat) (v : Int64) (hn : n = 1 ∨ n = 2 ∨ n = 4) (han : a + n ≤ 1024) : kf_Ct l y_Row_write w_Row_write 1 21 0 0 D (kT cB cI) [.ref h0, .int (nI a), .int (nI n), .long v] [(h0, .inr (0, [.ref h1])), (h1, .inl (cB, 1024, .inl f))] hz none (kf_po D [(h0, .inr (0, [.ref h1])), (h1, .inl (cB, 1024, .inl (ky_wr f a v n)))]) := by
  have h := c_Row_write l D cB cI hz h0 h1 f (nI a) (nI n) v
  rw [ky_ww_mk f v hn han] at h
  exact h

set_option maxRecDepth 100000 in
set_option maxHeartbeats 4000000 in
theorem c_Row_clear (l : Launch) (D : va_G) (cB cI : ClassId) (hz : Nat) (h0 : Nat) (h1 : Nat) (f : Nat → Int32) : kf_Ct l y_Row_clear w_Row_clear 0 0 0 0 D (kT cB cI) [.ref h0] [(h0, .inr (0, [.ref h1])), (h1, .inl (cB, 1024, .inl f))] hz none (kf_po D [(h0, .inr (0, [.ref h1])), (h1, .inl (cB, 1024, .inl (ky_cp f (fun _ => 0) 1024)))]) := by
  refine kf_of (cc := b_Row_clear) (maxL := 2) (ret := none) (by decide) rfl (Nat.le_of_ble_eq_true rfl) ?_
  intro p e s m below meth c A H locs hx hb hr hml hown hts hlocks hin hP hD hS hA hE ls hl
  have hl : lv_has ls 2 [(0, .ref h0)] := hl
  refine lv_iconst (v := 0) hx hb d_Row_clear_0 (by decide) ?_
  refine kf_ti (y := nI 0) (rfl) ?_
  refine lv_istore_n (lv' := [(1, .int (nI 0)), (0, .ref h0)]) hx hb d_Row_clear_1 rfl hl (by decide) rfl (fun ls hl => ?_)
  rw [ky_cp0 f (fun _ => 0)] at hP hD
  refine kf_loop (σ := Nat) (fun k ls H locs => (k ≤ 1024) ∧ lv_has ls 2 [(1, .int (nI k)), (0, .ref h0)] ∧ va_P D vwCl [(h0, .inr (0, [.ref h1])), (h1, .inl (cB, 1024, .inl (ky_cp f (fun _ => 0) k)))] H ∧ va_D A [(h0, .inr (0, [.ref h1])), (h1, .inl (cB, 1024, .inl (ky_cp f (fun _ => 0) k)))] ∧ va_S A s.heap H locs) (fun k => 1024 - k) 0 ⟨Nat.zero_le _, lv_sub hl [0, 1] rfl, hP, hD, hS⟩ (fun k ls H locs hI ih => ?_)
  obtain ⟨hk, hl, hP, hD, hS⟩ := hI
  rcases Nat.lt_or_ge k 1024 with hkn | hkn
  · refine lv_iload_n hx hb d_Row_clear_2 rfl (lv_at hl 0 rfl) ?_
    refine lv_sipush (v := 1024) hx hb d_Row_clear_3 (by decide) ?_
    refine lv_icmp_ge (tgt := 22) hx hb d_Row_clear_6 (by decide) (fun c6 => absurd c6 (nI_ge (a := k) (b := 1024) hkn (by decide))) (fun c6 => ?_)
    refine lv_aload_n hx hb d_Row_clear_9 rfl (lv_at hl 1 rfl) ?_
    refine va_get (D := D) (ci := 0) (v := .ref h1) (C := "FieldRows$Row") (T := F_Row) (N := 1) hx hb hts ku_Row hown hE.1 hP 0 rfl rfl 0 (by decide) (hts _ q1_20) (fun _ h9 => h9) rfl d_Row_clear_10 ?_
    refine lv_iload_n hx hb d_Row_clear_13 rfl (lv_at hl 0 rfl) ?_
    refine lv_iconst (v := 0) hx hb d_Row_clear_14 (by decide) ?_
    refine va_bast hx hb hE.1 hP hD hS 1 0 rfl rfl (vp_in_nI hkn (by decide)) d_Row_clear_15 (fun H locs hP hD hS => ?_)
    have ef : upd (ky_cp f (fun _ => 0) k) (nI k).toNatClampNeg (vp_nar .byte 0) = ky_cp f (fun _ => 0) (k + 1) := by rw [nI_clamp (by omega)]; exact ky_cp_s f (fun _ => 0) k
    rw [ef] at hP hD
    have hP : va_P D vwCl [(h0, .inr (0, [.ref h1])), (h1, .inl (cB, 1024, .inl (ky_cp f (fun _ => 0) (k + 1))))] H := hP
    have hD : va_D A [(h0, .inr (0, [.ref h1])), (h1, .inl (cB, 1024, .inl (ky_cp f (fun _ => 0) (k + 1))))] := hD
    refine lv_iinc (v := nI (k + 1)) (lv' := [(1, .int (nI (k + 1))), (0, .ref h0)]) hx hb d_Row_clear_16 hl (k := 0) rfl ((nI_succ k).symm) (by decide) rfl (fun ls hl => ?_)
    refine lv_goto (tgt := 2) hx hb d_Row_clear_19 (by decide) ?_
    exact ih (k + 1) _ _ _ (by omega) ⟨by omega, lv_sub hl [0, 1] rfl, hP, hD, hS⟩
  · refine lv_iload_n hx hb d_Row_clear_2 rfl (lv_at hl 0 rfl) ?_
    refine lv_sipush (v := 1024) hx hb d_Row_clear_3 (by decide) ?_
    refine lv_icmp_ge (tgt := 22) hx hb d_Row_clear_6 (by decide) (fun c6 => ?_) (fun c6 => absurd (nI_le (a := 1024) (b := k) hkn (by omega)) c6)
    obtain rfl : k = 1024 := by omega
    exact kf_vr hx hb hr hlocks (kf_poAt hP hD) hS d_Row_clear_22

set_option maxRecDepth 100000 in
set_option maxHeartbeats 4000000 in
theorem c_Row_takeAll (l : Launch) (D : va_G) (cB cI : ClassId) (hz : Nat) (h0 : Nat) (h1 : Nat) (f : Nat → Int32) (h2 : Nat) (h3 : Nat) (f2 : Nat → Int32) : kf_Ct l y_Row_takeAll w_Row_takeAll 0 0 0 0 D (kT cB cI) [.ref h0, .ref h2] [(h0, .inr (0, [.ref h1])), (h1, .inl (cB, 1024, .inl f)), (h2, .inr (0, [.ref h3])), (h3, .inl (cB, 1024, .inl f2))] hz none (kf_po D [(h0, .inr (0, [.ref h1])), (h1, .inl (cB, 1024, .inl (ky_cp f f2 1024))), (h2, .inr (0, [.ref h3])), (h3, .inl (cB, 1024, .inl f2))]) := by
  refine kf_of (cc := b_Row_takeAll) (maxL := 3) (ret := none) (by decide) rfl (Nat.le_of_ble_eq_true rfl) ?_
  intro p e s m below meth c A H locs hx hb hr hml hown hts hlocks hin hP hD hS hA hE ls hl
  have hl : lv_has ls 3 [(0, .ref h0), (1, .ref h2)] := hl
  refine lv_iconst (v := 0) hx hb d_Row_takeAll_0 (by decide) ?_
  refine kf_ti (y := nI 0) (rfl) ?_
  refine lv_istore_n (lv' := [(2, .int (nI 0)), (0, .ref h0), (1, .ref h2)]) hx hb d_Row_takeAll_1 rfl hl (by decide) rfl (fun ls hl => ?_)
  rw [ky_cp0 f f2] at hP hD
  refine kf_loop (σ := Nat) (fun k ls H locs => (k ≤ 1024) ∧ lv_has ls 3 [(2, .int (nI k)), (0, .ref h0), (1, .ref h2)] ∧ va_P D vwCl [(h0, .inr (0, [.ref h1])), (h1, .inl (cB, 1024, .inl (ky_cp f f2 k))), (h2, .inr (0, [.ref h3])), (h3, .inl (cB, 1024, .inl f2))] H ∧ va_D A [(h0, .inr (0, [.ref h1])), (h1, .inl (cB, 1024, .inl (ky_cp f f2 k))), (h2, .inr (0, [.ref h3])), (h3, .inl (cB, 1024, .inl f2))] ∧ va_S A s.heap H locs) (fun k => 1024 - k) 0 ⟨Nat.zero_le _, lv_sub hl [0, 1, 2] rfl, hP, hD, hS⟩ (fun k ls H locs hI ih => ?_)
  obtain ⟨hk, hl, hP, hD, hS⟩ := hI
  rcases Nat.lt_or_ge k 1024 with hkn | hkn
  · refine lv_iload_n hx hb d_Row_takeAll_2 rfl (lv_at hl 0 rfl) ?_
    refine lv_sipush (v := 1024) hx hb d_Row_takeAll_3 (by decide) ?_
    refine lv_icmp_ge (tgt := 27) hx hb d_Row_takeAll_6 (by decide) (fun c6 => absurd c6 (nI_ge (a := k) (b := 1024) hkn (by decide))) (fun c6 => ?_)
    refine lv_aload_n hx hb d_Row_takeAll_9 rfl (lv_at hl 1 rfl) ?_
    refine va_get (D := D) (ci := 0) (v := .ref h1) (C := "FieldRows$Row") (T := F_Row) (N := 1) hx hb hts ku_Row hown hE.1 hP 0 rfl rfl 0 (by decide) (hts _ q1_20) (fun _ h9 => h9) rfl d_Row_takeAll_10 ?_
    refine lv_iload_n hx hb d_Row_takeAll_13 rfl (lv_at hl 0 rfl) ?_
    refine lv_aload_n hx hb d_Row_takeAll_14 rfl (lv_at hl 2 rfl) ?_
    refine va_get (D := D) (ci := 0) (v := .ref h3) (C := "FieldRows$Row") (T := F_Row) (N := 1) hx hb hts ku_Row hown hE.1 hP 2 rfl rfl 0 (by decide) (hts _ q1_20) (fun _ h9 => h9) rfl d_Row_takeAll_15 ?_
    refine lv_iload_n hx hb d_Row_takeAll_18 rfl (lv_at hl 0 rfl) ?_
    refine va_bald hx hb hE.1 hP 3 0 rfl rfl (vp_in_nI hkn (by decide)) d_Row_takeAll_19 ?_
    refine kf_ti (y := f2 k) (by rw [nI_clamp (by omega)]) ?_
    refine va_bast hx hb hE.1 hP hD hS 1 0 rfl rfl (vp_in_nI hkn (by decide)) d_Row_takeAll_20 (fun H locs hP hD hS => ?_)
    have ef : upd (ky_cp f f2 k) (nI k).toNatClampNeg (vp_nar .byte (f2 k)) = ky_cp f f2 (k + 1) := by rw [nI_clamp (by omega)]; exact ky_cp_s f f2 k
    rw [ef] at hP hD
    have hP : va_P D vwCl [(h0, .inr (0, [.ref h1])), (h1, .inl (cB, 1024, .inl (ky_cp f f2 (k + 1)))), (h2, .inr (0, [.ref h3])), (h3, .inl (cB, 1024, .inl f2))] H := hP
    have hD : va_D A [(h0, .inr (0, [.ref h1])), (h1, .inl (cB, 1024, .inl (ky_cp f f2 (k + 1)))), (h2, .inr (0, [.ref h3])), (h3, .inl (cB, 1024, .inl f2))] := hD
    refine lv_iinc (v := nI (k + 1)) (lv' := [(2, .int (nI (k + 1))), (0, .ref h0), (1, .ref h2)]) hx hb d_Row_takeAll_21 hl (k := 0) rfl ((nI_succ k).symm) (by decide) rfl (fun ls hl => ?_)
    refine lv_goto (tgt := 2) hx hb d_Row_takeAll_24 (by decide) ?_
    exact ih (k + 1) _ _ _ (by omega) ⟨by omega, lv_sub hl [0, 1, 2] rfl, hP, hD, hS⟩
  · refine lv_iload_n hx hb d_Row_takeAll_2 rfl (lv_at hl 0 rfl) ?_
    refine lv_sipush (v := 1024) hx hb d_Row_takeAll_3 (by decide) ?_
    refine lv_icmp_ge (tgt := 27) hx hb d_Row_takeAll_6 (by decide) (fun c6 => ?_) (fun c6 => absurd (nI_le (a := 1024) (b := k) hkn (by omega)) c6)
    obtain rfl : k = 1024 := by omega
    exact kf_vr hx hb hr hlocks (kf_poAt hP hD) hS d_Row_takeAll_27

set_option maxRecDepth 100000 in
set_option maxHeartbeats 4000000 in
theorem c_Row_writeConstants (l : Launch) (D : va_G) (cB cI : ClassId) (hz : Nat) (h0 : Nat) (h1 : Nat) (f : Nat → Int32) : kf_Ct l y_Row_writeConstants w_Row_writeConstants 2 46 0 0 D (kT cB cI) [.ref h0] [(h0, .inr (0, [.ref h1])), (h1, .inl (cB, 1024, .inl f))] hz none (kf_po D [(h0, .inr (0, [.ref h1])), (h1, .inl (cB, 1024, .inl (ky_wc f)))]) := by
  refine kf_of (cc := b_Row_writeConstants) (maxL := 1) (ret := none) (by decide) rfl (Nat.le_of_ble_eq_true rfl) ?_
  intro p e s m below meth c A H locs hx hb hr hml hown hts hlocks hin hP hD hS hA hE ls hl
  have hl : lv_has ls 1 [(0, .ref h0)] := hl
  refine lv_aload_n hx hb d_Row_writeConstants_0 rfl (lv_at hl 0 rfl) ?_
  refine lv_bipush (v := 54) hx hb d_Row_writeConstants_1 (by decide) ?_
  refine lv_iconst (v := 2) hx hb d_Row_writeConstants_3 (by decide) ?_
  refine lv_ldc2 (v := 65535) hx hb hown (hts _ q1_87) d_Row_writeConstants_4 ?_
  refine kf_kc (wr := []) (w1 := [(h0, .inr (0, [.ref h1])), (h1, .inl (cB, 1024, .inl (ky_wr f 54 65535 2)))]) (ws2 := [(h0, .inr (0, [.ref h1])), (h1, .inl (cB, 1024, .inl (ky_wr f 54 65535 2)))]) hP hD hS hA [0, 1] [] [0, 1] rfl rfl rfl (by decide) rfl rfl (va_runV (As := [.int 54, .int 2, .long 65535]) (rest := []) ⟨hx, hb, hml, hown, hts⟩ (c_Row_writeL l D cB cI _ h0 h1 f 54 2 65535 (by decide) (by decide)) ⟨callB_of 3 hts g_Row_write rfl rfl rfl (hts _ q1_2) (hts _ q1_88) h_Row_write ⟨Nat.le_of_ble_eq_true rfl, Nat.le_of_ble_eq_true rfl⟩, (hts _ q1_89), (hts _ q1_90)⟩ ⟨kf_bl, va_recv hE.1 hP (ci := 0) (q0 := 0) rfl rfl, kf_to hP hD hS hA hE [0, 1] rfl rfl⟩ rfl rfl hl.1 rfl (lv_room (Nat.le_of_ble_eq_true rfl)) d_Row_writeConstants_7 ⟨Nat.zero_le _, Nat.zero_le _⟩) (fun H locs hP hD hS => ?_)
  refine W.eq (g2 := F0 m 10 ls []) rfl ?_
  refine lv_aload_n hx hb d_Row_writeConstants_10 rfl (lv_at hl 0 rfl) ?_
  refine lv_bipush (v := 56) hx hb d_Row_writeConstants_11 (by decide) ?_
  refine lv_iconst (v := 2) hx hb d_Row_writeConstants_13 (by decide) ?_
  refine lv_ldc2 (v := 61267) hx hb hown (hts _ q1_95) d_Row_writeConstants_14 ?_
  refine kf_kc (wr := []) (w1 := [(h0, .inr (0, [.ref h1])), (h1, .inl (cB, 1024, .inl (ky_wr (ky_wr f 54 65535 2) 56 61267 2)))]) (ws2 := [(h0, .inr (0, [.ref h1])), (h1, .inl (cB, 1024, .inl (ky_wr (ky_wr f 54 65535 2) 56 61267 2)))]) hP hD hS hA [0, 1] [] [0, 1] rfl rfl rfl (by decide) rfl rfl (va_runV (As := [.int 56, .int 2, .long 61267]) (rest := []) ⟨hx, hb, hml, hown, hts⟩ (c_Row_writeL l D cB cI _ h0 h1 (ky_wr f 54 65535 2) 56 2 61267 (by decide) (by decide)) ⟨callB_of 3 hts g_Row_write rfl rfl rfl (hts _ q1_2) (hts _ q1_88) h_Row_write ⟨Nat.le_of_ble_eq_true rfl, Nat.le_of_ble_eq_true rfl⟩, (hts _ q1_89), (hts _ q1_90)⟩ ⟨kf_bl, va_recv hE.1 hP (ci := 0) (q0 := 0) rfl rfl, kf_to hP hD hS hA hE [0, 1] rfl rfl⟩ rfl rfl hl.1 rfl (lv_room (Nat.le_of_ble_eq_true rfl)) d_Row_writeConstants_17 ⟨Nat.zero_le _, Nat.zero_le _⟩) (fun H locs hP hD hS => ?_)
  refine W.eq (g2 := F0 m 20 ls []) rfl ?_
  refine lv_aload_n hx hb d_Row_writeConstants_20 rfl (lv_at hl 0 rfl) ?_
  refine lv_bipush (v := 58) hx hb d_Row_writeConstants_21 (by decide) ?_
  refine lv_iconst (v := 2) hx hb d_Row_writeConstants_23 (by decide) ?_
  refine lv_lconst (v := 1) hx hb d_Row_writeConstants_24 (by decide) ?_
  refine kf_kc (wr := []) (w1 := [(h0, .inr (0, [.ref h1])), (h1, .inl (cB, 1024, .inl (ky_wr (ky_wr (ky_wr f 54 65535 2) 56 61267 2) 58 1 2)))]) (ws2 := [(h0, .inr (0, [.ref h1])), (h1, .inl (cB, 1024, .inl (ky_wr (ky_wr (ky_wr f 54 65535 2) 56 61267 2) 58 1 2)))]) hP hD hS hA [0, 1] [] [0, 1] rfl rfl rfl (by decide) rfl rfl (va_runV (As := [.int 58, .int 2, .long 1]) (rest := []) ⟨hx, hb, hml, hown, hts⟩ (c_Row_writeL l D cB cI _ h0 h1 (ky_wr (ky_wr f 54 65535 2) 56 61267 2) 58 2 1 (by decide) (by decide)) ⟨callB_of 3 hts g_Row_write rfl rfl rfl (hts _ q1_2) (hts _ q1_88) h_Row_write ⟨Nat.le_of_ble_eq_true rfl, Nat.le_of_ble_eq_true rfl⟩, (hts _ q1_89), (hts _ q1_90)⟩ ⟨kf_bl, va_recv hE.1 hP (ci := 0) (q0 := 0) rfl rfl, kf_to hP hD hS hA hE [0, 1] rfl rfl⟩ rfl rfl hl.1 rfl (lv_room (Nat.le_of_ble_eq_true rfl)) d_Row_writeConstants_25 ⟨Nat.zero_le _, Nat.zero_le _⟩) (fun H locs hP hD hS => ?_)
  refine W.eq (g2 := F0 m 28 ls []) rfl ?_
  refine lv_aload_n hx hb d_Row_writeConstants_28 rfl (lv_at hl 0 rfl) ?_
  refine lv_bipush (v := 76) hx hb d_Row_writeConstants_29 (by decide) ?_
  refine lv_iconst (v := 4) hx hb d_Row_writeConstants_31 (by decide) ?_
  refine lv_lconst (v := 1) hx hb d_Row_writeConstants_32 (by decide) ?_
  refine kf_kc (wr := []) (w1 := [(h0, .inr (0, [.ref h1])), (h1, .inl (cB, 1024, .inl (ky_wr (ky_wr (ky_wr (ky_wr f 54 65535 2) 56 61267 2) 58 1 2) 76 1 4)))]) (ws2 := [(h0, .inr (0, [.ref h1])), (h1, .inl (cB, 1024, .inl (ky_wr (ky_wr (ky_wr (ky_wr f 54 65535 2) 56 61267 2) 58 1 2) 76 1 4)))]) hP hD hS hA [0, 1] [] [0, 1] rfl rfl rfl (by decide) rfl rfl (va_runV (As := [.int 76, .int 4, .long 1]) (rest := []) ⟨hx, hb, hml, hown, hts⟩ (c_Row_writeL l D cB cI _ h0 h1 (ky_wr (ky_wr (ky_wr f 54 65535 2) 56 61267 2) 58 1 2) 76 4 1 (by decide) (by decide)) ⟨callB_of 3 hts g_Row_write rfl rfl rfl (hts _ q1_2) (hts _ q1_88) h_Row_write ⟨Nat.le_of_ble_eq_true rfl, Nat.le_of_ble_eq_true rfl⟩, (hts _ q1_89), (hts _ q1_90)⟩ ⟨kf_bl, va_recv hE.1 hP (ci := 0) (q0 := 0) rfl rfl, kf_to hP hD hS hA hE [0, 1] rfl rfl⟩ rfl rfl hl.1 rfl (lv_room (Nat.le_of_ble_eq_true rfl)) d_Row_writeConstants_33 ⟨Nat.zero_le _, Nat.zero_le _⟩) (fun H locs hP hD hS => ?_)
  refine W.eq (g2 := F0 m 36 ls []) rfl ?_
  refine lv_aload_n hx hb d_Row_writeConstants_36 rfl (lv_at hl 0 rfl) ?_
  refine lv_bipush (v := 84) hx hb d_Row_writeConstants_37 (by decide) ?_
  refine lv_iconst (v := 4) hx hb d_Row_writeConstants_39 (by decide) ?_
  refine lv_ldc2 (v := 11) hx hb hown (hts _ q1_96) d_Row_writeConstants_40 ?_
  refine kf_kc (wr := []) (w1 := [(h0, .inr (0, [.ref h1])), (h1, .inl (cB, 1024, .inl (ky_wr (ky_wr (ky_wr (ky_wr (ky_wr f 54 65535 2) 56 61267 2) 58 1 2) 76 1 4) 84 11 4)))]) (ws2 := [(h0, .inr (0, [.ref h1])), (h1, .inl (cB, 1024, .inl (ky_wr (ky_wr (ky_wr (ky_wr (ky_wr f 54 65535 2) 56 61267 2) 58 1 2) 76 1 4) 84 11 4)))]) hP hD hS hA [0, 1] [] [0, 1] rfl rfl rfl (by decide) rfl rfl (va_runV (As := [.int 84, .int 4, .long 11]) (rest := []) ⟨hx, hb, hml, hown, hts⟩ (c_Row_writeL l D cB cI _ h0 h1 (ky_wr (ky_wr (ky_wr (ky_wr f 54 65535 2) 56 61267 2) 58 1 2) 76 1 4) 84 4 11 (by decide) (by decide)) ⟨callB_of 3 hts g_Row_write rfl rfl rfl (hts _ q1_2) (hts _ q1_88) h_Row_write ⟨Nat.le_of_ble_eq_true rfl, Nat.le_of_ble_eq_true rfl⟩, (hts _ q1_89), (hts _ q1_90)⟩ ⟨kf_bl, va_recv hE.1 hP (ci := 0) (q0 := 0) rfl rfl, kf_to hP hD hS hA hE [0, 1] rfl rfl⟩ rfl rfl hl.1 rfl (lv_room (Nat.le_of_ble_eq_true rfl)) d_Row_writeConstants_43 ⟨Nat.zero_le _, Nat.zero_le _⟩) (fun H locs hP hD hS => ?_)
  refine W.eq (g2 := F0 m 46 ls []) rfl ?_
  refine lv_aload_n hx hb d_Row_writeConstants_46 rfl (lv_at hl 0 rfl) ?_
  refine lv_bipush (v := 92) hx hb d_Row_writeConstants_47 (by decide) ?_
  refine lv_iconst (v := 4) hx hb d_Row_writeConstants_49 (by decide) ?_
  refine lv_ldc2 (v := 36) hx hb hown (hts _ q1_97) d_Row_writeConstants_50 ?_
  refine kf_kc (wr := []) (w1 := [(h0, .inr (0, [.ref h1])), (h1, .inl (cB, 1024, .inl (ky_wr (ky_wr (ky_wr (ky_wr (ky_wr (ky_wr f 54 65535 2) 56 61267 2) 58 1 2) 76 1 4) 84 11 4) 92 36 4)))]) (ws2 := [(h0, .inr (0, [.ref h1])), (h1, .inl (cB, 1024, .inl (ky_wr (ky_wr (ky_wr (ky_wr (ky_wr (ky_wr f 54 65535 2) 56 61267 2) 58 1 2) 76 1 4) 84 11 4) 92 36 4)))]) hP hD hS hA [0, 1] [] [0, 1] rfl rfl rfl (by decide) rfl rfl (va_runV (As := [.int 92, .int 4, .long 36]) (rest := []) ⟨hx, hb, hml, hown, hts⟩ (c_Row_writeL l D cB cI _ h0 h1 (ky_wr (ky_wr (ky_wr (ky_wr (ky_wr f 54 65535 2) 56 61267 2) 58 1 2) 76 1 4) 84 11 4) 92 4 36 (by decide) (by decide)) ⟨callB_of 3 hts g_Row_write rfl rfl rfl (hts _ q1_2) (hts _ q1_88) h_Row_write ⟨Nat.le_of_ble_eq_true rfl, Nat.le_of_ble_eq_true rfl⟩, (hts _ q1_89), (hts _ q1_90)⟩ ⟨kf_bl, va_recv hE.1 hP (ci := 0) (q0 := 0) rfl rfl, kf_to hP hD hS hA hE [0, 1] rfl rfl⟩ rfl rfl hl.1 rfl (lv_room (Nat.le_of_ble_eq_true rfl)) d_Row_writeConstants_53 ⟨Nat.zero_le _, Nat.zero_le _⟩) (fun H locs hP hD hS => ?_)
  refine W.eq (g2 := F0 m 56 ls []) rfl ?_
  refine lv_aload_n hx hb d_Row_writeConstants_56 rfl (lv_at hl 0 rfl) ?_
  refine lv_bipush (v := 96) hx hb d_Row_writeConstants_57 (by decide) ?_
  refine lv_iconst (v := 4) hx hb d_Row_writeConstants_59 (by decide) ?_
  refine lv_ldc2 (v := 66) hx hb hown (hts _ q1_98) d_Row_writeConstants_60 ?_
  refine kf_kc (wr := []) (w1 := [(h0, .inr (0, [.ref h1])), (h1, .inl (cB, 1024, .inl (ky_wr (ky_wr (ky_wr (ky_wr (ky_wr (ky_wr (ky_wr f 54 65535 2) 56 61267 2) 58 1 2) 76 1 4) 84 11 4) 92 36 4) 96 66 4)))]) (ws2 := [(h0, .inr (0, [.ref h1])), (h1, .inl (cB, 1024, .inl (ky_wr (ky_wr (ky_wr (ky_wr (ky_wr (ky_wr (ky_wr f 54 65535 2) 56 61267 2) 58 1 2) 76 1 4) 84 11 4) 92 36 4) 96 66 4)))]) hP hD hS hA [0, 1] [] [0, 1] rfl rfl rfl (by decide) rfl rfl (va_runV (As := [.int 96, .int 4, .long 66]) (rest := []) ⟨hx, hb, hml, hown, hts⟩ (c_Row_writeL l D cB cI _ h0 h1 (ky_wr (ky_wr (ky_wr (ky_wr (ky_wr (ky_wr f 54 65535 2) 56 61267 2) 58 1 2) 76 1 4) 84 11 4) 92 36 4) 96 4 66 (by decide) (by decide)) ⟨callB_of 3 hts g_Row_write rfl rfl rfl (hts _ q1_2) (hts _ q1_88) h_Row_write ⟨Nat.le_of_ble_eq_true rfl, Nat.le_of_ble_eq_true rfl⟩, (hts _ q1_89), (hts _ q1_90)⟩ ⟨kf_bl, va_recv hE.1 hP (ci := 0) (q0 := 0) rfl rfl, kf_to hP hD hS hA hE [0, 1] rfl rfl⟩ rfl rfl hl.1 rfl (lv_room (Nat.le_of_ble_eq_true rfl)) d_Row_writeConstants_63 ⟨Nat.zero_le _, Nat.zero_le _⟩) (fun H locs hP hD hS => ?_)
  refine W.eq (g2 := F0 m 66 ls []) rfl ?_
  refine lv_aload_n hx hb d_Row_writeConstants_66 rfl (lv_at hl 0 rfl) ?_
  refine lv_bipush (v := 100) hx hb d_Row_writeConstants_67 (by decide) ?_
  refine lv_iconst (v := 4) hx hb d_Row_writeConstants_69 (by decide) ?_
  refine lv_ldc2 (v := 3) hx hb hown (hts _ q1_99) d_Row_writeConstants_70 ?_
  refine kf_kc (wr := []) (w1 := [(h0, .inr (0, [.ref h1])), (h1, .inl (cB, 1024, .inl (ky_wr (ky_wr (ky_wr (ky_wr (ky_wr (ky_wr (ky_wr (ky_wr f 54 65535 2) 56 61267 2) 58 1 2) 76 1 4) 84 11 4) 92 36 4) 96 66 4) 100 3 4)))]) (ws2 := [(h0, .inr (0, [.ref h1])), (h1, .inl (cB, 1024, .inl (ky_wr (ky_wr (ky_wr (ky_wr (ky_wr (ky_wr (ky_wr (ky_wr f 54 65535 2) 56 61267 2) 58 1 2) 76 1 4) 84 11 4) 92 36 4) 96 66 4) 100 3 4)))]) hP hD hS hA [0, 1] [] [0, 1] rfl rfl rfl (by decide) rfl rfl (va_runV (As := [.int 100, .int 4, .long 3]) (rest := []) ⟨hx, hb, hml, hown, hts⟩ (c_Row_writeL l D cB cI _ h0 h1 (ky_wr (ky_wr (ky_wr (ky_wr (ky_wr (ky_wr (ky_wr f 54 65535 2) 56 61267 2) 58 1 2) 76 1 4) 84 11 4) 92 36 4) 96 66 4) 100 4 3 (by decide) (by decide)) ⟨callB_of 3 hts g_Row_write rfl rfl rfl (hts _ q1_2) (hts _ q1_88) h_Row_write ⟨Nat.le_of_ble_eq_true rfl, Nat.le_of_ble_eq_true rfl⟩, (hts _ q1_89), (hts _ q1_90)⟩ ⟨kf_bl, va_recv hE.1 hP (ci := 0) (q0 := 0) rfl rfl, kf_to hP hD hS hA hE [0, 1] rfl rfl⟩ rfl rfl hl.1 rfl (lv_room (Nat.le_of_ble_eq_true rfl)) d_Row_writeConstants_73 ⟨Nat.zero_le _, Nat.zero_le _⟩) (fun H locs hP hD hS => ?_)
  refine W.eq (g2 := F0 m 76 ls []) rfl ?_
  refine lv_aload_n hx hb d_Row_writeConstants_76 rfl (lv_at hl 0 rfl) ?_
  refine lv_sipush (v := 224) hx hb d_Row_writeConstants_77 (by decide) ?_
  refine lv_iconst (v := 4) hx hb d_Row_writeConstants_80 (by decide) ?_
  refine lv_ldc2 (v := 8) hx hb hown (hts _ q1_100) d_Row_writeConstants_81 ?_
  refine kf_kc (wr := []) (w1 := [(h0, .inr (0, [.ref h1])), (h1, .inl (cB, 1024, .inl (ky_wr (ky_wr (ky_wr (ky_wr (ky_wr (ky_wr (ky_wr (ky_wr (ky_wr f 54 65535 2) 56 61267 2) 58 1 2) 76 1 4) 84 11 4) 92 36 4) 96 66 4) 100 3 4) 224 8 4)))]) (ws2 := [(h0, .inr (0, [.ref h1])), (h1, .inl (cB, 1024, .inl (ky_wr (ky_wr (ky_wr (ky_wr (ky_wr (ky_wr (ky_wr (ky_wr (ky_wr f 54 65535 2) 56 61267 2) 58 1 2) 76 1 4) 84 11 4) 92 36 4) 96 66 4) 100 3 4) 224 8 4)))]) hP hD hS hA [0, 1] [] [0, 1] rfl rfl rfl (by decide) rfl rfl (va_runV (As := [.int 224, .int 4, .long 8]) (rest := []) ⟨hx, hb, hml, hown, hts⟩ (c_Row_writeL l D cB cI _ h0 h1 (ky_wr (ky_wr (ky_wr (ky_wr (ky_wr (ky_wr (ky_wr (ky_wr f 54 65535 2) 56 61267 2) 58 1 2) 76 1 4) 84 11 4) 92 36 4) 96 66 4) 100 3 4) 224 4 8 (by decide) (by decide)) ⟨callB_of 3 hts g_Row_write rfl rfl rfl (hts _ q1_2) (hts _ q1_88) h_Row_write ⟨Nat.le_of_ble_eq_true rfl, Nat.le_of_ble_eq_true rfl⟩, (hts _ q1_89), (hts _ q1_90)⟩ ⟨kf_bl, va_recv hE.1 hP (ci := 0) (q0 := 0) rfl rfl, kf_to hP hD hS hA hE [0, 1] rfl rfl⟩ rfl rfl hl.1 rfl (lv_room (Nat.le_of_ble_eq_true rfl)) d_Row_writeConstants_84 ⟨Nat.zero_le _, Nat.zero_le _⟩) (fun H locs hP hD hS => ?_)
  refine W.eq (g2 := F0 m 87 ls []) rfl ?_
  refine lv_aload_n hx hb d_Row_writeConstants_87 rfl (lv_at hl 0 rfl) ?_
  refine lv_sipush (v := 252) hx hb d_Row_writeConstants_88 (by decide) ?_
  refine lv_iconst (v := 1) hx hb d_Row_writeConstants_91 (by decide) ?_
  refine lv_lconst (v := 1) hx hb d_Row_writeConstants_92 (by decide) ?_
  refine kf_kc (wr := []) (w1 := [(h0, .inr (0, [.ref h1])), (h1, .inl (cB, 1024, .inl (ky_wr (ky_wr (ky_wr (ky_wr (ky_wr (ky_wr (ky_wr (ky_wr (ky_wr (ky_wr f 54 65535 2) 56 61267 2) 58 1 2) 76 1 4) 84 11 4) 92 36 4) 96 66 4) 100 3 4) 224 8 4) 252 1 1)))]) (ws2 := [(h0, .inr (0, [.ref h1])), (h1, .inl (cB, 1024, .inl (ky_wr (ky_wr (ky_wr (ky_wr (ky_wr (ky_wr (ky_wr (ky_wr (ky_wr (ky_wr f 54 65535 2) 56 61267 2) 58 1 2) 76 1 4) 84 11 4) 92 36 4) 96 66 4) 100 3 4) 224 8 4) 252 1 1)))]) hP hD hS hA [0, 1] [] [0, 1] rfl rfl rfl (by decide) rfl rfl (va_runV (As := [.int 252, .int 1, .long 1]) (rest := []) ⟨hx, hb, hml, hown, hts⟩ (c_Row_writeL l D cB cI _ h0 h1 (ky_wr (ky_wr (ky_wr (ky_wr (ky_wr (ky_wr (ky_wr (ky_wr (ky_wr f 54 65535 2) 56 61267 2) 58 1 2) 76 1 4) 84 11 4) 92 36 4) 96 66 4) 100 3 4) 224 8 4) 252 1 1 (by decide) (by decide)) ⟨callB_of 3 hts g_Row_write rfl rfl rfl (hts _ q1_2) (hts _ q1_88) h_Row_write ⟨Nat.le_of_ble_eq_true rfl, Nat.le_of_ble_eq_true rfl⟩, (hts _ q1_89), (hts _ q1_90)⟩ ⟨kf_bl, va_recv hE.1 hP (ci := 0) (q0 := 0) rfl rfl, kf_to hP hD hS hA hE [0, 1] rfl rfl⟩ rfl rfl hl.1 rfl (lv_room (Nat.le_of_ble_eq_true rfl)) d_Row_writeConstants_93 ⟨Nat.zero_le _, Nat.zero_le _⟩) (fun H locs hP hD hS => ?_)
  refine W.eq (g2 := F0 m 96 ls []) rfl ?_
  exact kf_vr hx hb hr hlocks (kf_poAt hP hD) hS d_Row_writeConstants_96
end
section
set_option maxRecDepth 100000 in
set_option maxHeartbeats 4000000 in
theorem c_Vol_unlistedFault (l : Launch) (D : va_G) (cB cI : ClassId) (hz : Nat) (p0 : Int32) (p1 : Int64) (p2 : Int64) : kf_Ct l y_Vol_unlistedFault w_Vol_unlistedFault 0 0 0 0 D (kT cB cI) [.int p0, .long p1, .long p2] [] hz (some (.int (kv_unl p0 p1 p2 32))) (kf_po D []) := by
  refine kf_of (cc := b_Vol_unlistedFault) (maxL := 6) (ret := (some .int)) (by decide) rfl (Nat.le_of_ble_eq_true rfl) ?_
  intro p e s m below meth c A H locs hx hb hr hml hown hts hlocks hin hP hD hS hA hE ls hl
  have hl : lv_has ls 6 [(0, .int p0), (1, .long p1), (3, .long p2)] := hl
  refine lv_iconst (v := 0) hx hb d_Vol_unlistedFault_0 (by decide) ?_
  refine kf_ti (y := nI 0) (rfl) ?_
  refine lv_istore (lv' := [(5, .int (nI 0)), (0, .int p0), (1, .long p1), (3, .long p2)]) hx hb d_Vol_unlistedFault_1 hl (by decide) rfl (fun ls hl => ?_)
  refine kf_loop (σ := Nat) (fun k ls H locs => (k ≤ 32) ∧ (kv_unl p0 p1 p2 32 = kv_unl p0 p1 p2 (32 - k)) ∧ lv_has ls 6 [(5, .int (nI k)), (0, .int p0), (1, .long p1), (3, .long p2)] ∧ va_P D vwCl [] H ∧ va_D A [] ∧ va_S A s.heap H locs) (fun k => 32 - k) 0 ⟨Nat.zero_le _, rfl, lv_sub hl [0, 1, 2, 3] rfl, hP, hD, hS⟩ (fun k ls H locs hI ih => ?_)
  obtain ⟨hk, hq, hl, hP, hD, hS⟩ := hI
  rcases Nat.lt_or_ge k 32 with hkn | hkn
  · refine lv_iload hx hb d_Vol_unlistedFault_3 (lv_at hl 0 rfl) ?_
    refine lv_bipush (v := 32) hx hb d_Vol_unlistedFault_5 (by decide) ?_
    refine lv_icmp_ge (tgt := 45) hx hb d_Vol_unlistedFault_7 (by decide) (fun c7 => absurd c7 (nI_ge (a := k) (b := 32) hkn (by decide))) (fun c7 => ?_)
    refine lv_lload_n hx hb d_Vol_unlistedFault_10 rfl (lv_at hl 2 rfl) ?_
    refine lv_lload_n hx hb d_Vol_unlistedFault_11 rfl (lv_at hl 3 rfl) ?_
    refine lv_ldc2 (v := -1) hx hb hown (hts _ q1_196) d_Vol_unlistedFault_12 ?_
    refine lv_lxor hx hb d_Vol_unlistedFault_15 ?_
    refine lv_land hx hb d_Vol_unlistedFault_16 ?_
    refine lv_lconst (v := 1) hx hb d_Vol_unlistedFault_17 (by decide) ?_
    refine lv_iload hx hb d_Vol_unlistedFault_18 (lv_at hl 0 rfl) ?_
    refine lv_lshl hx hb d_Vol_unlistedFault_20 rfl ?_
    refine lv_land hx hb d_Vol_unlistedFault_21 ?_
    refine lv_lconst (v := 0) hx hb d_Vol_unlistedFault_22 (by decide) ?_
    refine kf_lc_eq (tgt := 39) hx hb d_Vol_unlistedFault_23 d_Vol_unlistedFault_24 (by decide) (fun c23 => ?_) (fun c23 => ?_)
    · refine lv_iinc (v := nI (k + 1)) (lv' := [(5, .int (nI (k + 1))), (0, .int p0), (1, .long p1), (3, .long p2)]) hx hb d_Vol_unlistedFault_39 hl (k := 0) rfl ((nI_succ k).symm) (by decide) rfl (fun ls hl => ?_)
      refine lv_goto (tgt := 3) hx hb d_Vol_unlistedFault_42 (by decide) ?_
      exact ih (k + 1) _ _ _ (by omega) ⟨by omega, by rw [hq, show 32 - k = (32 - (k + 1)) + 1 by omega]; show (if kv_ub p1 p2 (31 - (32 - (k + 1))) then _ else _) = _; rw [show 31 - (32 - (k + 1)) = k by omega, if_pos c23], lv_sub hl [0, 1, 2, 3] rfl, hP, hD, hS⟩
    · refine lv_sipush (v := 2000) hx hb d_Vol_unlistedFault_27 (by decide) ?_
      refine lv_bipush (v := 32) hx hb d_Vol_unlistedFault_30 (by decide) ?_
      refine lv_iload_n hx hb d_Vol_unlistedFault_32 rfl (lv_at hl 1 rfl) ?_
      refine lv_imul hx hb d_Vol_unlistedFault_33 ?_
      refine lv_iadd hx hb d_Vol_unlistedFault_34 ?_
      refine lv_iload hx hb d_Vol_unlistedFault_35 (lv_at hl 0 rfl) ?_
      refine lv_iadd hx hb d_Vol_unlistedFault_37 ?_
      exact kf_ir hx hb hr hlocks hP hD hS (by rw [hq, show 32 - k = (32 - (k + 1)) + 1 by omega]; show _ = (if kv_ub p1 p2 (31 - (32 - (k + 1))) then _ else _); rw [show 31 - (32 - (k + 1)) = k by omega, if_neg c23]) d_Vol_unlistedFault_38
  · refine lv_iload hx hb d_Vol_unlistedFault_3 (lv_at hl 0 rfl) ?_
    refine lv_bipush (v := 32) hx hb d_Vol_unlistedFault_5 (by decide) ?_
    refine lv_icmp_ge (tgt := 45) hx hb d_Vol_unlistedFault_7 (by decide) (fun c7 => ?_) (fun c7 => absurd (nI_le (a := 32) (b := k) hkn (by omega)) c7)
    refine lv_bipush (v := -2) hx hb d_Vol_unlistedFault_45 (by decide) ?_
    exact kf_ir hx hb hr hlocks hP hD hS (by rw [hq, show 32 - k = 0 by omega]; rfl) d_Vol_unlistedFault_47

set_option maxRecDepth 100000 in
set_option maxHeartbeats 4000000 in
theorem c_Vol_readNumbers (l : Launch) (D : va_G) (cB cI : ClassId) (hz : Nat) (h0 : Nat) (fi : Int64) (bl : Int64) (fs : Int64) (sh : Int64) (zz : Int64) (gb : Int64) (gf : Int64) (rb : Int64) (fc : Int32) (gc : Int64) (cb : Int64) (rk : Int64) (h1 : Nat) (h2 : Nat) (f : Nat → Int32) : kf_Ct l y_Vol_readNumbers w_Vol_readNumbers 2 46 0 0 D (kT cB cI) [.ref h0, .ref h1] [(h0, .inr (1, [.long fi, .long bl, .long fs, .long sh, .long zz, .long gb, .long gf, .long rb, .int fc, .long gc, .long cb, .long rk])), (h1, .inr (0, [.ref h2])), (h2, .inl (cB, 1024, .inl f))] hz none (kf_po D [(h0, .inr (1, [.long (lN (ky_le f 0 4)), .long (lN (ky_le f 4 4)), .long (lN (ky_le f 20 4)), .long (lN (ky_le f 24 4)), .long (kv_size f), .long (lN (ky_le f 32 4)), .long (lN (ky_le f 40 4)), .long (lN (ky_le f 88 2)), .int (kv_few f), .long (kv_gc f), .long (kv_cb f), .long (kv_rk f)])), (h1, .inr (0, [.ref h2])), (h2, .inl (cB, 1024, .inl f))]) := by
  refine kf_of (cc := b_Vol_readNumbers) (maxL := 2) (ret := none) (by decide) rfl (Nat.le_of_ble_eq_true rfl) ?_
  intro p e s m below meth c A H locs hx hb hr hml hown hts hlocks hin hP hD hS hA hE ls hl
  have hl : lv_has ls 2 [(0, .ref h0), (1, .ref h1)] := hl
  refine lv_aload_n hx hb d_Vol_readNumbers_0 rfl (lv_at hl 0 rfl) ?_
  refine lv_aload_n hx hb d_Vol_readNumbers_1 rfl (lv_at hl 1 rfl) ?_
  refine lv_iconst (v := 0) hx hb d_Vol_readNumbers_2 (by decide) ?_
  refine lv_iconst (v := 4) hx hb d_Vol_readNumbers_3 (by decide) ?_
  refine kf_ro hP hD hS hA [1, 2] rfl (va_runV (As := [.int 0, .int 4]) (rest := [.ref h0]) ⟨hx, hb, hml, hown, hts⟩ (c_Row_fieldL l D cB cI _ h1 h2 f 0 4 (by decide) (by decide)) ⟨callB_of 2 hts g_Row_field rfl rfl rfl (hts _ q1_2) (hts _ q1_109) h_Row_field ⟨Nat.le_of_ble_eq_true rfl, Nat.le_of_ble_eq_true rfl⟩, (hts _ q1_110), (hts _ q1_111)⟩ ⟨kf_bl, va_recv hE.1 hP (ci := 0) (q0 := 1) rfl rfl, kf_to hP hD hS hA hE [1, 2] rfl rfl⟩ rfl rfl hl.1 rfl (lv_room (Nat.le_of_ble_eq_true rfl)) d_Vol_readNumbers_4 ⟨Nat.zero_le _, Nat.zero_le _⟩) (fun H locs hP hS => ?_)
  refine W.eq (g2 := F0 m 7 ls [.long (lN (ky_le f 0 4)), .ref h0]) rfl ?_
  refine va_put (D := D) (ci := 1) (v := .long (lN (ky_le f 0 4))) (ty := .long) (C := "FieldRows$Volume") (T := F_Vol) (N := 12) hx hb hts ku_Vol t_Vol t_Vol_ok n_Vol hown hE.1 hP hD hS 0 rfl rfl 0 (by decide) (hts _ q1_31) (fun _ h9 => h9) rfl (by decide +kernel) (rfl) (rfl) (Nat.le_of_ble_eq_true rfl) d_Vol_readNumbers_7 (fun H locs hP hD hS => ?_)
  have hP : va_P D vwCl [(h0, .inr (1, [.long (lN (ky_le f 0 4)), .long bl, .long fs, .long sh, .long zz, .long gb, .long gf, .long rb, .int fc, .long gc, .long cb, .long rk])), (h1, .inr (0, [.ref h2])), (h2, .inl (cB, 1024, .inl f))] H := hP
  have hD : va_D A [(h0, .inr (1, [.long (lN (ky_le f 0 4)), .long bl, .long fs, .long sh, .long zz, .long gb, .long gf, .long rb, .int fc, .long gc, .long cb, .long rk])), (h1, .inr (0, [.ref h2])), (h2, .inl (cB, 1024, .inl f))] := hD
  refine lv_aload_n hx hb d_Vol_readNumbers_10 rfl (lv_at hl 0 rfl) ?_
  refine lv_aload_n hx hb d_Vol_readNumbers_11 rfl (lv_at hl 1 rfl) ?_
  refine lv_iconst (v := 4) hx hb d_Vol_readNumbers_12 (by decide) ?_
  refine lv_iconst (v := 4) hx hb d_Vol_readNumbers_13 (by decide) ?_
  refine kf_ro hP hD hS hA [1, 2] rfl (va_runV (As := [.int 4, .int 4]) (rest := [.ref h0]) ⟨hx, hb, hml, hown, hts⟩ (c_Row_fieldL l D cB cI _ h1 h2 f 4 4 (by decide) (by decide)) ⟨callB_of 2 hts g_Row_field rfl rfl rfl (hts _ q1_2) (hts _ q1_109) h_Row_field ⟨Nat.le_of_ble_eq_true rfl, Nat.le_of_ble_eq_true rfl⟩, (hts _ q1_110), (hts _ q1_111)⟩ ⟨kf_bl, va_recv hE.1 hP (ci := 0) (q0 := 1) rfl rfl, kf_to hP hD hS hA hE [1, 2] rfl rfl⟩ rfl rfl hl.1 rfl (lv_room (Nat.le_of_ble_eq_true rfl)) d_Vol_readNumbers_14 ⟨Nat.zero_le _, Nat.zero_le _⟩) (fun H locs hP hS => ?_)
  refine W.eq (g2 := F0 m 17 ls [.long (lN (ky_le f 4 4)), .ref h0]) rfl ?_
  refine va_put (D := D) (ci := 1) (v := .long (lN (ky_le f 4 4))) (ty := .long) (C := "FieldRows$Volume") (T := F_Vol) (N := 12) hx hb hts ku_Vol t_Vol t_Vol_ok n_Vol hown hE.1 hP hD hS 0 rfl rfl 1 (by decide) (hts _ q1_33) (fun _ h9 => h9) rfl (by decide +kernel) (rfl) (rfl) (Nat.le_of_ble_eq_true rfl) d_Vol_readNumbers_17 (fun H locs hP hD hS => ?_)
  have hP : va_P D vwCl [(h0, .inr (1, [.long (lN (ky_le f 0 4)), .long (lN (ky_le f 4 4)), .long fs, .long sh, .long zz, .long gb, .long gf, .long rb, .int fc, .long gc, .long cb, .long rk])), (h1, .inr (0, [.ref h2])), (h2, .inl (cB, 1024, .inl f))] H := hP
  have hD : va_D A [(h0, .inr (1, [.long (lN (ky_le f 0 4)), .long (lN (ky_le f 4 4)), .long fs, .long sh, .long zz, .long gb, .long gf, .long rb, .int fc, .long gc, .long cb, .long rk])), (h1, .inr (0, [.ref h2])), (h2, .inl (cB, 1024, .inl f))] := hD
  refine lv_aload_n hx hb d_Vol_readNumbers_20 rfl (lv_at hl 0 rfl) ?_
  refine lv_aload_n hx hb d_Vol_readNumbers_21 rfl (lv_at hl 1 rfl) ?_
  refine lv_bipush (v := 20) hx hb d_Vol_readNumbers_22 (by decide) ?_
  refine lv_iconst (v := 4) hx hb d_Vol_readNumbers_24 (by decide) ?_
  refine kf_ro hP hD hS hA [1, 2] rfl (va_runV (As := [.int 20, .int 4]) (rest := [.ref h0]) ⟨hx, hb, hml, hown, hts⟩ (c_Row_fieldL l D cB cI _ h1 h2 f 20 4 (by decide) (by decide)) ⟨callB_of 2 hts g_Row_field rfl rfl rfl (hts _ q1_2) (hts _ q1_109) h_Row_field ⟨Nat.le_of_ble_eq_true rfl, Nat.le_of_ble_eq_true rfl⟩, (hts _ q1_110), (hts _ q1_111)⟩ ⟨kf_bl, va_recv hE.1 hP (ci := 0) (q0 := 1) rfl rfl, kf_to hP hD hS hA hE [1, 2] rfl rfl⟩ rfl rfl hl.1 rfl (lv_room (Nat.le_of_ble_eq_true rfl)) d_Vol_readNumbers_25 ⟨Nat.zero_le _, Nat.zero_le _⟩) (fun H locs hP hS => ?_)
  refine W.eq (g2 := F0 m 28 ls [.long (lN (ky_le f 20 4)), .ref h0]) rfl ?_
  refine va_put (D := D) (ci := 1) (v := .long (lN (ky_le f 20 4))) (ty := .long) (C := "FieldRows$Volume") (T := F_Vol) (N := 12) hx hb hts ku_Vol t_Vol t_Vol_ok n_Vol hown hE.1 hP hD hS 0 rfl rfl 2 (by decide) (hts _ q1_34) (fun _ h9 => h9) rfl (by decide +kernel) (rfl) (rfl) (Nat.le_of_ble_eq_true rfl) d_Vol_readNumbers_28 (fun H locs hP hD hS => ?_)
  have hP : va_P D vwCl [(h0, .inr (1, [.long (lN (ky_le f 0 4)), .long (lN (ky_le f 4 4)), .long (lN (ky_le f 20 4)), .long sh, .long zz, .long gb, .long gf, .long rb, .int fc, .long gc, .long cb, .long rk])), (h1, .inr (0, [.ref h2])), (h2, .inl (cB, 1024, .inl f))] H := hP
  have hD : va_D A [(h0, .inr (1, [.long (lN (ky_le f 0 4)), .long (lN (ky_le f 4 4)), .long (lN (ky_le f 20 4)), .long sh, .long zz, .long gb, .long gf, .long rb, .int fc, .long gc, .long cb, .long rk])), (h1, .inr (0, [.ref h2])), (h2, .inl (cB, 1024, .inl f))] := hD
  refine lv_aload_n hx hb d_Vol_readNumbers_31 rfl (lv_at hl 0 rfl) ?_
  refine lv_aload_n hx hb d_Vol_readNumbers_32 rfl (lv_at hl 1 rfl) ?_
  refine lv_bipush (v := 24) hx hb d_Vol_readNumbers_33 (by decide) ?_
  refine lv_iconst (v := 4) hx hb d_Vol_readNumbers_35 (by decide) ?_
  refine kf_ro hP hD hS hA [1, 2] rfl (va_runV (As := [.int 24, .int 4]) (rest := [.ref h0]) ⟨hx, hb, hml, hown, hts⟩ (c_Row_fieldL l D cB cI _ h1 h2 f 24 4 (by decide) (by decide)) ⟨callB_of 2 hts g_Row_field rfl rfl rfl (hts _ q1_2) (hts _ q1_109) h_Row_field ⟨Nat.le_of_ble_eq_true rfl, Nat.le_of_ble_eq_true rfl⟩, (hts _ q1_110), (hts _ q1_111)⟩ ⟨kf_bl, va_recv hE.1 hP (ci := 0) (q0 := 1) rfl rfl, kf_to hP hD hS hA hE [1, 2] rfl rfl⟩ rfl rfl hl.1 rfl (lv_room (Nat.le_of_ble_eq_true rfl)) d_Vol_readNumbers_36 ⟨Nat.zero_le _, Nat.zero_le _⟩) (fun H locs hP hS => ?_)
  refine W.eq (g2 := F0 m 39 ls [.long (lN (ky_le f 24 4)), .ref h0]) rfl ?_
  refine va_put (D := D) (ci := 1) (v := .long (lN (ky_le f 24 4))) (ty := .long) (C := "FieldRows$Volume") (T := F_Vol) (N := 12) hx hb hts ku_Vol t_Vol t_Vol_ok n_Vol hown hE.1 hP hD hS 0 rfl rfl 3 (by decide) (hts _ q1_35) (fun _ h9 => h9) rfl (by decide +kernel) (rfl) (rfl) (Nat.le_of_ble_eq_true rfl) d_Vol_readNumbers_39 (fun H locs hP hD hS => ?_)
  have hP : va_P D vwCl [(h0, .inr (1, [.long (lN (ky_le f 0 4)), .long (lN (ky_le f 4 4)), .long (lN (ky_le f 20 4)), .long (lN (ky_le f 24 4)), .long zz, .long gb, .long gf, .long rb, .int fc, .long gc, .long cb, .long rk])), (h1, .inr (0, [.ref h2])), (h2, .inl (cB, 1024, .inl f))] H := hP
  have hD : va_D A [(h0, .inr (1, [.long (lN (ky_le f 0 4)), .long (lN (ky_le f 4 4)), .long (lN (ky_le f 20 4)), .long (lN (ky_le f 24 4)), .long zz, .long gb, .long gf, .long rb, .int fc, .long gc, .long cb, .long rk])), (h1, .inr (0, [.ref h2])), (h2, .inl (cB, 1024, .inl f))] := hD
  refine lv_aload_n hx hb d_Vol_readNumbers_42 rfl (lv_at hl 0 rfl) ?_
  refine lv_ldc2 (v := 1024) hx hb hown (hts _ q1_114) d_Vol_readNumbers_43 ?_
  refine lv_aload_n hx hb d_Vol_readNumbers_46 rfl (lv_at hl 0 rfl) ?_
  refine va_get (D := D) (ci := 1) (v := .long (lN (ky_le f 24 4))) (C := "FieldRows$Volume") (T := F_Vol) (N := 12) hx hb hts ku_Vol hown hE.1 hP 0 rfl rfl 3 (by decide) (hts _ q1_35) (fun _ h9 => h9) rfl d_Vol_readNumbers_47 ?_
  refine lv_l2i hx hb d_Vol_readNumbers_50 rfl ?_
  refine lv_lshl hx hb d_Vol_readNumbers_51 rfl ?_
  refine kf_tl (y := kv_size f) (rfl) ?_
  refine va_put (D := D) (ci := 1) (v := .long (kv_size f)) (ty := .long) (C := "FieldRows$Volume") (T := F_Vol) (N := 12) hx hb hts ku_Vol t_Vol t_Vol_ok n_Vol hown hE.1 hP hD hS 0 rfl rfl 4 (by decide) (hts _ q1_36) (fun _ h9 => h9) rfl (by decide +kernel) (rfl) (rfl) (Nat.le_of_ble_eq_true rfl) d_Vol_readNumbers_52 (fun H locs hP hD hS => ?_)
  have hP : va_P D vwCl [(h0, .inr (1, [.long (lN (ky_le f 0 4)), .long (lN (ky_le f 4 4)), .long (lN (ky_le f 20 4)), .long (lN (ky_le f 24 4)), .long (kv_size f), .long gb, .long gf, .long rb, .int fc, .long gc, .long cb, .long rk])), (h1, .inr (0, [.ref h2])), (h2, .inl (cB, 1024, .inl f))] H := hP
  have hD : va_D A [(h0, .inr (1, [.long (lN (ky_le f 0 4)), .long (lN (ky_le f 4 4)), .long (lN (ky_le f 20 4)), .long (lN (ky_le f 24 4)), .long (kv_size f), .long gb, .long gf, .long rb, .int fc, .long gc, .long cb, .long rk])), (h1, .inr (0, [.ref h2])), (h2, .inl (cB, 1024, .inl f))] := hD
  refine lv_aload_n hx hb d_Vol_readNumbers_55 rfl (lv_at hl 0 rfl) ?_
  refine lv_aload_n hx hb d_Vol_readNumbers_56 rfl (lv_at hl 1 rfl) ?_
  refine lv_bipush (v := 32) hx hb d_Vol_readNumbers_57 (by decide) ?_
  refine lv_iconst (v := 4) hx hb d_Vol_readNumbers_59 (by decide) ?_
  refine kf_ro hP hD hS hA [1, 2] rfl (va_runV (As := [.int 32, .int 4]) (rest := [.ref h0]) ⟨hx, hb, hml, hown, hts⟩ (c_Row_fieldL l D cB cI _ h1 h2 f 32 4 (by decide) (by decide)) ⟨callB_of 2 hts g_Row_field rfl rfl rfl (hts _ q1_2) (hts _ q1_109) h_Row_field ⟨Nat.le_of_ble_eq_true rfl, Nat.le_of_ble_eq_true rfl⟩, (hts _ q1_110), (hts _ q1_111)⟩ ⟨kf_bl, va_recv hE.1 hP (ci := 0) (q0 := 1) rfl rfl, kf_to hP hD hS hA hE [1, 2] rfl rfl⟩ rfl rfl hl.1 rfl (lv_room (Nat.le_of_ble_eq_true rfl)) d_Vol_readNumbers_60 ⟨Nat.zero_le _, Nat.zero_le _⟩) (fun H locs hP hS => ?_)
  refine W.eq (g2 := F0 m 63 ls [.long (lN (ky_le f 32 4)), .ref h0]) rfl ?_
  refine va_put (D := D) (ci := 1) (v := .long (lN (ky_le f 32 4))) (ty := .long) (C := "FieldRows$Volume") (T := F_Vol) (N := 12) hx hb hts ku_Vol t_Vol t_Vol_ok n_Vol hown hE.1 hP hD hS 0 rfl rfl 5 (by decide) (hts _ q1_38) (fun _ h9 => h9) rfl (by decide +kernel) (rfl) (rfl) (Nat.le_of_ble_eq_true rfl) d_Vol_readNumbers_63 (fun H locs hP hD hS => ?_)
  have hP : va_P D vwCl [(h0, .inr (1, [.long (lN (ky_le f 0 4)), .long (lN (ky_le f 4 4)), .long (lN (ky_le f 20 4)), .long (lN (ky_le f 24 4)), .long (kv_size f), .long (lN (ky_le f 32 4)), .long gf, .long rb, .int fc, .long gc, .long cb, .long rk])), (h1, .inr (0, [.ref h2])), (h2, .inl (cB, 1024, .inl f))] H := hP
  have hD : va_D A [(h0, .inr (1, [.long (lN (ky_le f 0 4)), .long (lN (ky_le f 4 4)), .long (lN (ky_le f 20 4)), .long (lN (ky_le f 24 4)), .long (kv_size f), .long (lN (ky_le f 32 4)), .long gf, .long rb, .int fc, .long gc, .long cb, .long rk])), (h1, .inr (0, [.ref h2])), (h2, .inl (cB, 1024, .inl f))] := hD
  refine lv_aload_n hx hb d_Vol_readNumbers_66 rfl (lv_at hl 0 rfl) ?_
  refine lv_aload_n hx hb d_Vol_readNumbers_67 rfl (lv_at hl 1 rfl) ?_
  refine lv_bipush (v := 40) hx hb d_Vol_readNumbers_68 (by decide) ?_
  refine lv_iconst (v := 4) hx hb d_Vol_readNumbers_70 (by decide) ?_
  refine kf_ro hP hD hS hA [1, 2] rfl (va_runV (As := [.int 40, .int 4]) (rest := [.ref h0]) ⟨hx, hb, hml, hown, hts⟩ (c_Row_fieldL l D cB cI _ h1 h2 f 40 4 (by decide) (by decide)) ⟨callB_of 2 hts g_Row_field rfl rfl rfl (hts _ q1_2) (hts _ q1_109) h_Row_field ⟨Nat.le_of_ble_eq_true rfl, Nat.le_of_ble_eq_true rfl⟩, (hts _ q1_110), (hts _ q1_111)⟩ ⟨kf_bl, va_recv hE.1 hP (ci := 0) (q0 := 1) rfl rfl, kf_to hP hD hS hA hE [1, 2] rfl rfl⟩ rfl rfl hl.1 rfl (lv_room (Nat.le_of_ble_eq_true rfl)) d_Vol_readNumbers_71 ⟨Nat.zero_le _, Nat.zero_le _⟩) (fun H locs hP hS => ?_)
  refine W.eq (g2 := F0 m 74 ls [.long (lN (ky_le f 40 4)), .ref h0]) rfl ?_
  refine va_put (D := D) (ci := 1) (v := .long (lN (ky_le f 40 4))) (ty := .long) (C := "FieldRows$Volume") (T := F_Vol) (N := 12) hx hb hts ku_Vol t_Vol t_Vol_ok n_Vol hown hE.1 hP hD hS 0 rfl rfl 6 (by decide) (hts _ q1_39) (fun _ h9 => h9) rfl (by decide +kernel) (rfl) (rfl) (Nat.le_of_ble_eq_true rfl) d_Vol_readNumbers_74 (fun H locs hP hD hS => ?_)
  have hP : va_P D vwCl [(h0, .inr (1, [.long (lN (ky_le f 0 4)), .long (lN (ky_le f 4 4)), .long (lN (ky_le f 20 4)), .long (lN (ky_le f 24 4)), .long (kv_size f), .long (lN (ky_le f 32 4)), .long (lN (ky_le f 40 4)), .long rb, .int fc, .long gc, .long cb, .long rk])), (h1, .inr (0, [.ref h2])), (h2, .inl (cB, 1024, .inl f))] H := hP
  have hD : va_D A [(h0, .inr (1, [.long (lN (ky_le f 0 4)), .long (lN (ky_le f 4 4)), .long (lN (ky_le f 20 4)), .long (lN (ky_le f 24 4)), .long (kv_size f), .long (lN (ky_le f 32 4)), .long (lN (ky_le f 40 4)), .long rb, .int fc, .long gc, .long cb, .long rk])), (h1, .inr (0, [.ref h2])), (h2, .inl (cB, 1024, .inl f))] := hD
  refine lv_aload_n hx hb d_Vol_readNumbers_77 rfl (lv_at hl 0 rfl) ?_
  refine lv_aload_n hx hb d_Vol_readNumbers_78 rfl (lv_at hl 1 rfl) ?_
  refine lv_bipush (v := 88) hx hb d_Vol_readNumbers_79 (by decide) ?_
  refine lv_iconst (v := 2) hx hb d_Vol_readNumbers_81 (by decide) ?_
  refine kf_ro hP hD hS hA [1, 2] rfl (va_runV (As := [.int 88, .int 2]) (rest := [.ref h0]) ⟨hx, hb, hml, hown, hts⟩ (c_Row_fieldL l D cB cI _ h1 h2 f 88 2 (by decide) (by decide)) ⟨callB_of 2 hts g_Row_field rfl rfl rfl (hts _ q1_2) (hts _ q1_109) h_Row_field ⟨Nat.le_of_ble_eq_true rfl, Nat.le_of_ble_eq_true rfl⟩, (hts _ q1_110), (hts _ q1_111)⟩ ⟨kf_bl, va_recv hE.1 hP (ci := 0) (q0 := 1) rfl rfl, kf_to hP hD hS hA hE [1, 2] rfl rfl⟩ rfl rfl hl.1 rfl (lv_room (Nat.le_of_ble_eq_true rfl)) d_Vol_readNumbers_82 ⟨Nat.zero_le _, Nat.zero_le _⟩) (fun H locs hP hS => ?_)
  refine W.eq (g2 := F0 m 85 ls [.long (lN (ky_le f 88 2)), .ref h0]) rfl ?_
  refine va_put (D := D) (ci := 1) (v := .long (lN (ky_le f 88 2))) (ty := .long) (C := "FieldRows$Volume") (T := F_Vol) (N := 12) hx hb hts ku_Vol t_Vol t_Vol_ok n_Vol hown hE.1 hP hD hS 0 rfl rfl 7 (by decide) (hts _ q1_41) (fun _ h9 => h9) rfl (by decide +kernel) (rfl) (rfl) (Nat.le_of_ble_eq_true rfl) d_Vol_readNumbers_85 (fun H locs hP hD hS => ?_)
  have hP : va_P D vwCl [(h0, .inr (1, [.long (lN (ky_le f 0 4)), .long (lN (ky_le f 4 4)), .long (lN (ky_le f 20 4)), .long (lN (ky_le f 24 4)), .long (kv_size f), .long (lN (ky_le f 32 4)), .long (lN (ky_le f 40 4)), .long (lN (ky_le f 88 2)), .int fc, .long gc, .long cb, .long rk])), (h1, .inr (0, [.ref h2])), (h2, .inl (cB, 1024, .inl f))] H := hP
  have hD : va_D A [(h0, .inr (1, [.long (lN (ky_le f 0 4)), .long (lN (ky_le f 4 4)), .long (lN (ky_le f 20 4)), .long (lN (ky_le f 24 4)), .long (kv_size f), .long (lN (ky_le f 32 4)), .long (lN (ky_le f 40 4)), .long (lN (ky_le f 88 2)), .int fc, .long gc, .long cb, .long rk])), (h1, .inr (0, [.ref h2])), (h2, .inl (cB, 1024, .inl f))] := hD
  refine lv_aload_n hx hb d_Vol_readNumbers_88 rfl (lv_at hl 0 rfl) ?_
  refine lv_aload_n hx hb d_Vol_readNumbers_89 rfl (lv_at hl 1 rfl) ?_
  refine lv_bipush (v := 100) hx hb d_Vol_readNumbers_90 (by decide) ?_
  refine lv_iconst (v := 4) hx hb d_Vol_readNumbers_92 (by decide) ?_
  refine kf_ro hP hD hS hA [1, 2] rfl (va_runV (As := [.int 100, .int 4]) (rest := [.ref h0]) ⟨hx, hb, hml, hown, hts⟩ (c_Row_fieldL l D cB cI _ h1 h2 f 100 4 (by decide) (by decide)) ⟨callB_of 2 hts g_Row_field rfl rfl rfl (hts _ q1_2) (hts _ q1_109) h_Row_field ⟨Nat.le_of_ble_eq_true rfl, Nat.le_of_ble_eq_true rfl⟩, (hts _ q1_110), (hts _ q1_111)⟩ ⟨kf_bl, va_recv hE.1 hP (ci := 0) (q0 := 1) rfl rfl, kf_to hP hD hS hA hE [1, 2] rfl rfl⟩ rfl rfl hl.1 rfl (lv_room (Nat.le_of_ble_eq_true rfl)) d_Vol_readNumbers_93 ⟨Nat.zero_le _, Nat.zero_le _⟩) (fun H locs hP hS => ?_)
  refine W.eq (g2 := F0 m 96 ls [.long (lN (ky_le f 100 4)), .ref h0]) rfl ?_
  refine lv_lconst (v := 1) hx hb d_Vol_readNumbers_96 (by decide) ?_
  refine lv_land hx hb d_Vol_readNumbers_97 ?_
  refine lv_lconst (v := 0) hx hb d_Vol_readNumbers_98 (by decide) ?_
  refine kf_lc_eq (tgt := 107) hx hb d_Vol_readNumbers_99 d_Vol_readNumbers_100 (by decide) (fun c99 => ?_) (fun c99 => ?_)
  · refine lv_iconst (v := 0) hx hb d_Vol_readNumbers_107 (by decide) ?_
    refine kf_ti (y := kv_few f) (kP_f (fun q => q c99)) ?_
    refine va_put (D := D) (ci := 1) (v := .int (kv_few f)) (ty := .boolean) (C := "FieldRows$Volume") (T := F_Vol) (N := 12) hx hb hts ku_Vol t_Vol t_Vol_ok n_Vol hown hE.1 hP hD hS 0 rfl rfl 8 (by decide) (hts _ q1_43) (fun _ h9 => h9) rfl (by decide +kernel) (kP_nar) (kP_fit) (Nat.le_of_ble_eq_true rfl) d_Vol_readNumbers_108 (fun H locs hP hD hS => ?_)
    have hP : va_P D vwCl [(h0, .inr (1, [.long (lN (ky_le f 0 4)), .long (lN (ky_le f 4 4)), .long (lN (ky_le f 20 4)), .long (lN (ky_le f 24 4)), .long (kv_size f), .long (lN (ky_le f 32 4)), .long (lN (ky_le f 40 4)), .long (lN (ky_le f 88 2)), .int (kv_few f), .long gc, .long cb, .long rk])), (h1, .inr (0, [.ref h2])), (h2, .inl (cB, 1024, .inl f))] H := hP
    have hD : va_D A [(h0, .inr (1, [.long (lN (ky_le f 0 4)), .long (lN (ky_le f 4 4)), .long (lN (ky_le f 20 4)), .long (lN (ky_le f 24 4)), .long (kv_size f), .long (lN (ky_le f 32 4)), .long (lN (ky_le f 40 4)), .long (lN (ky_le f 88 2)), .int (kv_few f), .long gc, .long cb, .long rk])), (h1, .inr (0, [.ref h2])), (h2, .inl (cB, 1024, .inl f))] := hD
    refine lv_aload_n hx hb d_Vol_readNumbers_111 rfl (lv_at hl 0 rfl) ?_
    refine lv_aload_n hx hb d_Vol_readNumbers_112 rfl (lv_at hl 0 rfl) ?_
    refine va_get (D := D) (ci := 1) (v := .long (lN (ky_le f 4 4))) (C := "FieldRows$Volume") (T := F_Vol) (N := 12) hx hb hts ku_Vol hown hE.1 hP 0 rfl rfl 1 (by decide) (hts _ q1_33) (fun _ h9 => h9) rfl d_Vol_readNumbers_113 ?_
    refine lv_aload_n hx hb d_Vol_readNumbers_116 rfl (lv_at hl 0 rfl) ?_
    refine va_get (D := D) (ci := 1) (v := .long (lN (ky_le f 20 4))) (C := "FieldRows$Volume") (T := F_Vol) (N := 12) hx hb hts ku_Vol hown hE.1 hP 0 rfl rfl 2 (by decide) (hts _ q1_34) (fun _ h9 => h9) rfl d_Vol_readNumbers_117 ?_
    refine lv_lsub hx hb d_Vol_readNumbers_120 ?_
    refine lv_aload_n hx hb d_Vol_readNumbers_121 rfl (lv_at hl 0 rfl) ?_
    refine va_get (D := D) (ci := 1) (v := .long (lN (ky_le f 32 4))) (C := "FieldRows$Volume") (T := F_Vol) (N := 12) hx hb hts ku_Vol hown hE.1 hP 0 rfl rfl 5 (by decide) (hts _ q1_38) (fun _ h9 => h9) rfl d_Vol_readNumbers_122 ?_
    refine kf_ro hP hD hS hA [] rfl (va_runSN (As := [.long ((lN (ky_le f 4 4)) - (lN (ky_le f 20 4))), .long (lN (ky_le f 32 4))]) (rest := [.ref h0]) ⟨hx, hb, hml, hown, hts⟩ (c_FR_quotientUp l D cB cI _ ((lN (ky_le f 4 4)) - (lN (ky_le f 20 4))) (lN (ky_le f 32 4))) ⟨va_cnB 2 hts g_FR_quotientUp rfl rfl rfl (hE.2.1 _ q1_115) (hts _ q1_1) h_FR_quotientUp ⟨Nat.le_of_ble_eq_true rfl, Nat.le_of_ble_eq_true rfl⟩, (hts _ q1_116), trivial⟩ ⟨kf_bl, kf_to hP hD hS hA hE [] rfl rfl⟩ rfl rfl hl.1 rfl (lv_room (Nat.le_of_ble_eq_true rfl)) d_Vol_readNumbers_125 ⟨Nat.zero_le _, Nat.zero_le _⟩) (fun H locs hP hS => ?_)
    refine W.eq (g2 := F0 m 128 ls [.long (ky_qU ((lN (ky_le f 4 4)) - (lN (ky_le f 20 4))) (lN (ky_le f 32 4))), .ref h0]) rfl ?_
    refine kf_tl (y := kv_gc f) (rfl) ?_
    refine va_put (D := D) (ci := 1) (v := .long (kv_gc f)) (ty := .long) (C := "FieldRows$Volume") (T := F_Vol) (N := 12) hx hb hts ku_Vol t_Vol t_Vol_ok n_Vol hown hE.1 hP hD hS 0 rfl rfl 9 (by decide) (hts _ q1_44) (fun _ h9 => h9) rfl (by decide +kernel) (rfl) (rfl) (Nat.le_of_ble_eq_true rfl) d_Vol_readNumbers_128 (fun H locs hP hD hS => ?_)
    have hP : va_P D vwCl [(h0, .inr (1, [.long (lN (ky_le f 0 4)), .long (lN (ky_le f 4 4)), .long (lN (ky_le f 20 4)), .long (lN (ky_le f 24 4)), .long (kv_size f), .long (lN (ky_le f 32 4)), .long (lN (ky_le f 40 4)), .long (lN (ky_le f 88 2)), .int (kv_few f), .long (kv_gc f), .long cb, .long rk])), (h1, .inr (0, [.ref h2])), (h2, .inl (cB, 1024, .inl f))] H := hP
    have hD : va_D A [(h0, .inr (1, [.long (lN (ky_le f 0 4)), .long (lN (ky_le f 4 4)), .long (lN (ky_le f 20 4)), .long (lN (ky_le f 24 4)), .long (kv_size f), .long (lN (ky_le f 32 4)), .long (lN (ky_le f 40 4)), .long (lN (ky_le f 88 2)), .int (kv_few f), .long (kv_gc f), .long cb, .long rk])), (h1, .inr (0, [.ref h2])), (h2, .inl (cB, 1024, .inl f))] := hD
    refine lv_aload_n hx hb d_Vol_readNumbers_131 rfl (lv_at hl 0 rfl) ?_
    refine lv_lconst (v := 1) hx hb d_Vol_readNumbers_132 (by decide) ?_
    refine lv_aload_n hx hb d_Vol_readNumbers_133 rfl (lv_at hl 0 rfl) ?_
    refine va_get (D := D) (ci := 1) (v := .long (kv_gc f)) (C := "FieldRows$Volume") (T := F_Vol) (N := 12) hx hb hts ku_Vol hown hE.1 hP 0 rfl rfl 9 (by decide) (hts _ q1_44) (fun _ h9 => h9) rfl d_Vol_readNumbers_134 ?_
    refine lv_ldc2 (v := 32) hx hb hown (hts _ q1_121) d_Vol_readNumbers_137 ?_
    refine lv_lmul hx hb d_Vol_readNumbers_140 ?_
    refine lv_aload_n hx hb d_Vol_readNumbers_141 rfl (lv_at hl 0 rfl) ?_
    refine va_get (D := D) (ci := 1) (v := .long (kv_size f)) (C := "FieldRows$Volume") (T := F_Vol) (N := 12) hx hb hts ku_Vol hown hE.1 hP 0 rfl rfl 4 (by decide) (hts _ q1_36) (fun _ h9 => h9) rfl d_Vol_readNumbers_142 ?_
    refine kf_ro hP hD hS hA [] rfl (va_runSN (As := [.long ((kv_gc f) * 32), .long (kv_size f)]) (rest := [.long 1, .ref h0]) ⟨hx, hb, hml, hown, hts⟩ (c_FR_quotientUp l D cB cI _ ((kv_gc f) * 32) (kv_size f)) ⟨va_cnB 2 hts g_FR_quotientUp rfl rfl rfl (hE.2.1 _ q1_115) (hts _ q1_1) h_FR_quotientUp ⟨Nat.le_of_ble_eq_true rfl, Nat.le_of_ble_eq_true rfl⟩, (hts _ q1_116), trivial⟩ ⟨kf_bl, kf_to hP hD hS hA hE [] rfl rfl⟩ rfl rfl hl.1 rfl (lv_room (Nat.le_of_ble_eq_true rfl)) d_Vol_readNumbers_145 ⟨Nat.zero_le _, Nat.zero_le _⟩) (fun H locs hP hS => ?_)
    refine W.eq (g2 := F0 m 148 ls [.long (ky_qU ((kv_gc f) * 32) (kv_size f)), .long 1, .ref h0]) rfl ?_
    refine lv_ladd hx hb d_Vol_readNumbers_148 ?_
    refine kf_tl (y := kv_cb f) (rfl) ?_
    refine va_put (D := D) (ci := 1) (v := .long (kv_cb f)) (ty := .long) (C := "FieldRows$Volume") (T := F_Vol) (N := 12) hx hb hts ku_Vol t_Vol t_Vol_ok n_Vol hown hE.1 hP hD hS 0 rfl rfl 10 (by decide) (hts _ q1_46) (fun _ h9 => h9) rfl (by decide +kernel) (rfl) (rfl) (Nat.le_of_ble_eq_true rfl) d_Vol_readNumbers_149 (fun H locs hP hD hS => ?_)
    have hP : va_P D vwCl [(h0, .inr (1, [.long (lN (ky_le f 0 4)), .long (lN (ky_le f 4 4)), .long (lN (ky_le f 20 4)), .long (lN (ky_le f 24 4)), .long (kv_size f), .long (lN (ky_le f 32 4)), .long (lN (ky_le f 40 4)), .long (lN (ky_le f 88 2)), .int (kv_few f), .long (kv_gc f), .long (kv_cb f), .long rk])), (h1, .inr (0, [.ref h2])), (h2, .inl (cB, 1024, .inl f))] H := hP
    have hD : va_D A [(h0, .inr (1, [.long (lN (ky_le f 0 4)), .long (lN (ky_le f 4 4)), .long (lN (ky_le f 20 4)), .long (lN (ky_le f 24 4)), .long (kv_size f), .long (lN (ky_le f 32 4)), .long (lN (ky_le f 40 4)), .long (lN (ky_le f 88 2)), .int (kv_few f), .long (kv_gc f), .long (kv_cb f), .long rk])), (h1, .inr (0, [.ref h2])), (h2, .inl (cB, 1024, .inl f))] := hD
    refine lv_aload_n hx hb d_Vol_readNumbers_152 rfl (lv_at hl 0 rfl) ?_
    refine lv_aload_n hx hb d_Vol_readNumbers_153 rfl (lv_at hl 0 rfl) ?_
    refine va_get (D := D) (ci := 1) (v := .long (lN (ky_le f 40 4))) (C := "FieldRows$Volume") (T := F_Vol) (N := 12) hx hb hts ku_Vol hown hE.1 hP 0 rfl rfl 6 (by decide) (hts _ q1_39) (fun _ h9 => h9) rfl d_Vol_readNumbers_154 ?_
    refine lv_aload_n hx hb d_Vol_readNumbers_157 rfl (lv_at hl 0 rfl) ?_
    refine va_get (D := D) (ci := 1) (v := .long (lN (ky_le f 88 2))) (C := "FieldRows$Volume") (T := F_Vol) (N := 12) hx hb hts ku_Vol hown hE.1 hP 0 rfl rfl 7 (by decide) (hts _ q1_41) (fun _ h9 => h9) rfl d_Vol_readNumbers_158 ?_
    refine lv_lmul hx hb d_Vol_readNumbers_161 ?_
    refine lv_aload_n hx hb d_Vol_readNumbers_162 rfl (lv_at hl 0 rfl) ?_
    refine va_get (D := D) (ci := 1) (v := .long (kv_size f)) (C := "FieldRows$Volume") (T := F_Vol) (N := 12) hx hb hts ku_Vol hown hE.1 hP 0 rfl rfl 4 (by decide) (hts _ q1_36) (fun _ h9 => h9) rfl d_Vol_readNumbers_163 ?_
    refine kf_ro hP hD hS hA [] rfl (va_runSN (As := [.long ((lN (ky_le f 40 4)) * (lN (ky_le f 88 2))), .long (kv_size f)]) (rest := [.ref h0]) ⟨hx, hb, hml, hown, hts⟩ (c_FR_quotientUp l D cB cI _ ((lN (ky_le f 40 4)) * (lN (ky_le f 88 2))) (kv_size f)) ⟨va_cnB 2 hts g_FR_quotientUp rfl rfl rfl (hE.2.1 _ q1_115) (hts _ q1_1) h_FR_quotientUp ⟨Nat.le_of_ble_eq_true rfl, Nat.le_of_ble_eq_true rfl⟩, (hts _ q1_116), trivial⟩ ⟨kf_bl, kf_to hP hD hS hA hE [] rfl rfl⟩ rfl rfl hl.1 rfl (lv_room (Nat.le_of_ble_eq_true rfl)) d_Vol_readNumbers_166 ⟨Nat.zero_le _, Nat.zero_le _⟩) (fun H locs hP hS => ?_)
    refine W.eq (g2 := F0 m 169 ls [.long (ky_qU ((lN (ky_le f 40 4)) * (lN (ky_le f 88 2))) (kv_size f)), .ref h0]) rfl ?_
    refine kf_tl (y := kv_rk f) (rfl) ?_
    refine va_put (D := D) (ci := 1) (v := .long (kv_rk f)) (ty := .long) (C := "FieldRows$Volume") (T := F_Vol) (N := 12) hx hb hts ku_Vol t_Vol t_Vol_ok n_Vol hown hE.1 hP hD hS 0 rfl rfl 11 (by decide) (hts _ q1_47) (fun _ h9 => h9) rfl (by decide +kernel) (rfl) (rfl) (Nat.le_of_ble_eq_true rfl) d_Vol_readNumbers_169 (fun H locs hP hD hS => ?_)
    have hP : va_P D vwCl [(h0, .inr (1, [.long (lN (ky_le f 0 4)), .long (lN (ky_le f 4 4)), .long (lN (ky_le f 20 4)), .long (lN (ky_le f 24 4)), .long (kv_size f), .long (lN (ky_le f 32 4)), .long (lN (ky_le f 40 4)), .long (lN (ky_le f 88 2)), .int (kv_few f), .long (kv_gc f), .long (kv_cb f), .long (kv_rk f)])), (h1, .inr (0, [.ref h2])), (h2, .inl (cB, 1024, .inl f))] H := hP
    have hD : va_D A [(h0, .inr (1, [.long (lN (ky_le f 0 4)), .long (lN (ky_le f 4 4)), .long (lN (ky_le f 20 4)), .long (lN (ky_le f 24 4)), .long (kv_size f), .long (lN (ky_le f 32 4)), .long (lN (ky_le f 40 4)), .long (lN (ky_le f 88 2)), .int (kv_few f), .long (kv_gc f), .long (kv_cb f), .long (kv_rk f)])), (h1, .inr (0, [.ref h2])), (h2, .inl (cB, 1024, .inl f))] := hD
    exact kf_vr hx hb hr hlocks (kf_poAt hP hD) hS d_Vol_readNumbers_172
  · refine lv_iconst (v := 1) hx hb d_Vol_readNumbers_103 (by decide) ?_
    refine lv_goto (tgt := 108) hx hb d_Vol_readNumbers_104 (by decide) ?_
    refine kf_ti (y := kv_few f) (kP_t c99) ?_
    refine va_put (D := D) (ci := 1) (v := .int (kv_few f)) (ty := .boolean) (C := "FieldRows$Volume") (T := F_Vol) (N := 12) hx hb hts ku_Vol t_Vol t_Vol_ok n_Vol hown hE.1 hP hD hS 0 rfl rfl 8 (by decide) (hts _ q1_43) (fun _ h9 => h9) rfl (by decide +kernel) (kP_nar) (kP_fit) (Nat.le_of_ble_eq_true rfl) d_Vol_readNumbers_108 (fun H locs hP hD hS => ?_)
    have hP : va_P D vwCl [(h0, .inr (1, [.long (lN (ky_le f 0 4)), .long (lN (ky_le f 4 4)), .long (lN (ky_le f 20 4)), .long (lN (ky_le f 24 4)), .long (kv_size f), .long (lN (ky_le f 32 4)), .long (lN (ky_le f 40 4)), .long (lN (ky_le f 88 2)), .int (kv_few f), .long gc, .long cb, .long rk])), (h1, .inr (0, [.ref h2])), (h2, .inl (cB, 1024, .inl f))] H := hP
    have hD : va_D A [(h0, .inr (1, [.long (lN (ky_le f 0 4)), .long (lN (ky_le f 4 4)), .long (lN (ky_le f 20 4)), .long (lN (ky_le f 24 4)), .long (kv_size f), .long (lN (ky_le f 32 4)), .long (lN (ky_le f 40 4)), .long (lN (ky_le f 88 2)), .int (kv_few f), .long gc, .long cb, .long rk])), (h1, .inr (0, [.ref h2])), (h2, .inl (cB, 1024, .inl f))] := hD
    refine lv_aload_n hx hb d_Vol_readNumbers_111 rfl (lv_at hl 0 rfl) ?_
    refine lv_aload_n hx hb d_Vol_readNumbers_112 rfl (lv_at hl 0 rfl) ?_
    refine va_get (D := D) (ci := 1) (v := .long (lN (ky_le f 4 4))) (C := "FieldRows$Volume") (T := F_Vol) (N := 12) hx hb hts ku_Vol hown hE.1 hP 0 rfl rfl 1 (by decide) (hts _ q1_33) (fun _ h9 => h9) rfl d_Vol_readNumbers_113 ?_
    refine lv_aload_n hx hb d_Vol_readNumbers_116 rfl (lv_at hl 0 rfl) ?_
    refine va_get (D := D) (ci := 1) (v := .long (lN (ky_le f 20 4))) (C := "FieldRows$Volume") (T := F_Vol) (N := 12) hx hb hts ku_Vol hown hE.1 hP 0 rfl rfl 2 (by decide) (hts _ q1_34) (fun _ h9 => h9) rfl d_Vol_readNumbers_117 ?_
    refine lv_lsub hx hb d_Vol_readNumbers_120 ?_
    refine lv_aload_n hx hb d_Vol_readNumbers_121 rfl (lv_at hl 0 rfl) ?_
    refine va_get (D := D) (ci := 1) (v := .long (lN (ky_le f 32 4))) (C := "FieldRows$Volume") (T := F_Vol) (N := 12) hx hb hts ku_Vol hown hE.1 hP 0 rfl rfl 5 (by decide) (hts _ q1_38) (fun _ h9 => h9) rfl d_Vol_readNumbers_122 ?_
    refine kf_ro hP hD hS hA [] rfl (va_runSN (As := [.long ((lN (ky_le f 4 4)) - (lN (ky_le f 20 4))), .long (lN (ky_le f 32 4))]) (rest := [.ref h0]) ⟨hx, hb, hml, hown, hts⟩ (c_FR_quotientUp l D cB cI _ ((lN (ky_le f 4 4)) - (lN (ky_le f 20 4))) (lN (ky_le f 32 4))) ⟨va_cnB 2 hts g_FR_quotientUp rfl rfl rfl (hE.2.1 _ q1_115) (hts _ q1_1) h_FR_quotientUp ⟨Nat.le_of_ble_eq_true rfl, Nat.le_of_ble_eq_true rfl⟩, (hts _ q1_116), trivial⟩ ⟨kf_bl, kf_to hP hD hS hA hE [] rfl rfl⟩ rfl rfl hl.1 rfl (lv_room (Nat.le_of_ble_eq_true rfl)) d_Vol_readNumbers_125 ⟨Nat.zero_le _, Nat.zero_le _⟩) (fun H locs hP hS => ?_)
    refine W.eq (g2 := F0 m 128 ls [.long (ky_qU ((lN (ky_le f 4 4)) - (lN (ky_le f 20 4))) (lN (ky_le f 32 4))), .ref h0]) rfl ?_
    refine kf_tl (y := kv_gc f) (rfl) ?_
    refine va_put (D := D) (ci := 1) (v := .long (kv_gc f)) (ty := .long) (C := "FieldRows$Volume") (T := F_Vol) (N := 12) hx hb hts ku_Vol t_Vol t_Vol_ok n_Vol hown hE.1 hP hD hS 0 rfl rfl 9 (by decide) (hts _ q1_44) (fun _ h9 => h9) rfl (by decide +kernel) (rfl) (rfl) (Nat.le_of_ble_eq_true rfl) d_Vol_readNumbers_128 (fun H locs hP hD hS => ?_)
    have hP : va_P D vwCl [(h0, .inr (1, [.long (lN (ky_le f 0 4)), .long (lN (ky_le f 4 4)), .long (lN (ky_le f 20 4)), .long (lN (ky_le f 24 4)), .long (kv_size f), .long (lN (ky_le f 32 4)), .long (lN (ky_le f 40 4)), .long (lN (ky_le f 88 2)), .int (kv_few f), .long (kv_gc f), .long cb, .long rk])), (h1, .inr (0, [.ref h2])), (h2, .inl (cB, 1024, .inl f))] H := hP
    have hD : va_D A [(h0, .inr (1, [.long (lN (ky_le f 0 4)), .long (lN (ky_le f 4 4)), .long (lN (ky_le f 20 4)), .long (lN (ky_le f 24 4)), .long (kv_size f), .long (lN (ky_le f 32 4)), .long (lN (ky_le f 40 4)), .long (lN (ky_le f 88 2)), .int (kv_few f), .long (kv_gc f), .long cb, .long rk])), (h1, .inr (0, [.ref h2])), (h2, .inl (cB, 1024, .inl f))] := hD
    refine lv_aload_n hx hb d_Vol_readNumbers_131 rfl (lv_at hl 0 rfl) ?_
    refine lv_lconst (v := 1) hx hb d_Vol_readNumbers_132 (by decide) ?_
    refine lv_aload_n hx hb d_Vol_readNumbers_133 rfl (lv_at hl 0 rfl) ?_
    refine va_get (D := D) (ci := 1) (v := .long (kv_gc f)) (C := "FieldRows$Volume") (T := F_Vol) (N := 12) hx hb hts ku_Vol hown hE.1 hP 0 rfl rfl 9 (by decide) (hts _ q1_44) (fun _ h9 => h9) rfl d_Vol_readNumbers_134 ?_
    refine lv_ldc2 (v := 32) hx hb hown (hts _ q1_121) d_Vol_readNumbers_137 ?_
    refine lv_lmul hx hb d_Vol_readNumbers_140 ?_
    refine lv_aload_n hx hb d_Vol_readNumbers_141 rfl (lv_at hl 0 rfl) ?_
    refine va_get (D := D) (ci := 1) (v := .long (kv_size f)) (C := "FieldRows$Volume") (T := F_Vol) (N := 12) hx hb hts ku_Vol hown hE.1 hP 0 rfl rfl 4 (by decide) (hts _ q1_36) (fun _ h9 => h9) rfl d_Vol_readNumbers_142 ?_
    refine kf_ro hP hD hS hA [] rfl (va_runSN (As := [.long ((kv_gc f) * 32), .long (kv_size f)]) (rest := [.long 1, .ref h0]) ⟨hx, hb, hml, hown, hts⟩ (c_FR_quotientUp l D cB cI _ ((kv_gc f) * 32) (kv_size f)) ⟨va_cnB 2 hts g_FR_quotientUp rfl rfl rfl (hE.2.1 _ q1_115) (hts _ q1_1) h_FR_quotientUp ⟨Nat.le_of_ble_eq_true rfl, Nat.le_of_ble_eq_true rfl⟩, (hts _ q1_116), trivial⟩ ⟨kf_bl, kf_to hP hD hS hA hE [] rfl rfl⟩ rfl rfl hl.1 rfl (lv_room (Nat.le_of_ble_eq_true rfl)) d_Vol_readNumbers_145 ⟨Nat.zero_le _, Nat.zero_le _⟩) (fun H locs hP hS => ?_)
    refine W.eq (g2 := F0 m 148 ls [.long (ky_qU ((kv_gc f) * 32) (kv_size f)), .long 1, .ref h0]) rfl ?_
    refine lv_ladd hx hb d_Vol_readNumbers_148 ?_
    refine kf_tl (y := kv_cb f) (rfl) ?_
    refine va_put (D := D) (ci := 1) (v := .long (kv_cb f)) (ty := .long) (C := "FieldRows$Volume") (T := F_Vol) (N := 12) hx hb hts ku_Vol t_Vol t_Vol_ok n_Vol hown hE.1 hP hD hS 0 rfl rfl 10 (by decide) (hts _ q1_46) (fun _ h9 => h9) rfl (by decide +kernel) (rfl) (rfl) (Nat.le_of_ble_eq_true rfl) d_Vol_readNumbers_149 (fun H locs hP hD hS => ?_)
    have hP : va_P D vwCl [(h0, .inr (1, [.long (lN (ky_le f 0 4)), .long (lN (ky_le f 4 4)), .long (lN (ky_le f 20 4)), .long (lN (ky_le f 24 4)), .long (kv_size f), .long (lN (ky_le f 32 4)), .long (lN (ky_le f 40 4)), .long (lN (ky_le f 88 2)), .int (kv_few f), .long (kv_gc f), .long (kv_cb f), .long rk])), (h1, .inr (0, [.ref h2])), (h2, .inl (cB, 1024, .inl f))] H := hP
    have hD : va_D A [(h0, .inr (1, [.long (lN (ky_le f 0 4)), .long (lN (ky_le f 4 4)), .long (lN (ky_le f 20 4)), .long (lN (ky_le f 24 4)), .long (kv_size f), .long (lN (ky_le f 32 4)), .long (lN (ky_le f 40 4)), .long (lN (ky_le f 88 2)), .int (kv_few f), .long (kv_gc f), .long (kv_cb f), .long rk])), (h1, .inr (0, [.ref h2])), (h2, .inl (cB, 1024, .inl f))] := hD
    refine lv_aload_n hx hb d_Vol_readNumbers_152 rfl (lv_at hl 0 rfl) ?_
    refine lv_aload_n hx hb d_Vol_readNumbers_153 rfl (lv_at hl 0 rfl) ?_
    refine va_get (D := D) (ci := 1) (v := .long (lN (ky_le f 40 4))) (C := "FieldRows$Volume") (T := F_Vol) (N := 12) hx hb hts ku_Vol hown hE.1 hP 0 rfl rfl 6 (by decide) (hts _ q1_39) (fun _ h9 => h9) rfl d_Vol_readNumbers_154 ?_
    refine lv_aload_n hx hb d_Vol_readNumbers_157 rfl (lv_at hl 0 rfl) ?_
    refine va_get (D := D) (ci := 1) (v := .long (lN (ky_le f 88 2))) (C := "FieldRows$Volume") (T := F_Vol) (N := 12) hx hb hts ku_Vol hown hE.1 hP 0 rfl rfl 7 (by decide) (hts _ q1_41) (fun _ h9 => h9) rfl d_Vol_readNumbers_158 ?_
    refine lv_lmul hx hb d_Vol_readNumbers_161 ?_
    refine lv_aload_n hx hb d_Vol_readNumbers_162 rfl (lv_at hl 0 rfl) ?_
    refine va_get (D := D) (ci := 1) (v := .long (kv_size f)) (C := "FieldRows$Volume") (T := F_Vol) (N := 12) hx hb hts ku_Vol hown hE.1 hP 0 rfl rfl 4 (by decide) (hts _ q1_36) (fun _ h9 => h9) rfl d_Vol_readNumbers_163 ?_
    refine kf_ro hP hD hS hA [] rfl (va_runSN (As := [.long ((lN (ky_le f 40 4)) * (lN (ky_le f 88 2))), .long (kv_size f)]) (rest := [.ref h0]) ⟨hx, hb, hml, hown, hts⟩ (c_FR_quotientUp l D cB cI _ ((lN (ky_le f 40 4)) * (lN (ky_le f 88 2))) (kv_size f)) ⟨va_cnB 2 hts g_FR_quotientUp rfl rfl rfl (hE.2.1 _ q1_115) (hts _ q1_1) h_FR_quotientUp ⟨Nat.le_of_ble_eq_true rfl, Nat.le_of_ble_eq_true rfl⟩, (hts _ q1_116), trivial⟩ ⟨kf_bl, kf_to hP hD hS hA hE [] rfl rfl⟩ rfl rfl hl.1 rfl (lv_room (Nat.le_of_ble_eq_true rfl)) d_Vol_readNumbers_166 ⟨Nat.zero_le _, Nat.zero_le _⟩) (fun H locs hP hS => ?_)
    refine W.eq (g2 := F0 m 169 ls [.long (ky_qU ((lN (ky_le f 40 4)) * (lN (ky_le f 88 2))) (kv_size f)), .ref h0]) rfl ?_
    refine kf_tl (y := kv_rk f) (rfl) ?_
    refine va_put (D := D) (ci := 1) (v := .long (kv_rk f)) (ty := .long) (C := "FieldRows$Volume") (T := F_Vol) (N := 12) hx hb hts ku_Vol t_Vol t_Vol_ok n_Vol hown hE.1 hP hD hS 0 rfl rfl 11 (by decide) (hts _ q1_47) (fun _ h9 => h9) rfl (by decide +kernel) (rfl) (rfl) (Nat.le_of_ble_eq_true rfl) d_Vol_readNumbers_169 (fun H locs hP hD hS => ?_)
    have hP : va_P D vwCl [(h0, .inr (1, [.long (lN (ky_le f 0 4)), .long (lN (ky_le f 4 4)), .long (lN (ky_le f 20 4)), .long (lN (ky_le f 24 4)), .long (kv_size f), .long (lN (ky_le f 32 4)), .long (lN (ky_le f 40 4)), .long (lN (ky_le f 88 2)), .int (kv_few f), .long (kv_gc f), .long (kv_cb f), .long (kv_rk f)])), (h1, .inr (0, [.ref h2])), (h2, .inl (cB, 1024, .inl f))] H := hP
    have hD : va_D A [(h0, .inr (1, [.long (lN (ky_le f 0 4)), .long (lN (ky_le f 4 4)), .long (lN (ky_le f 20 4)), .long (lN (ky_le f 24 4)), .long (kv_size f), .long (lN (ky_le f 32 4)), .long (lN (ky_le f 40 4)), .long (lN (ky_le f 88 2)), .int (kv_few f), .long (kv_gc f), .long (kv_cb f), .long (kv_rk f)])), (h1, .inr (0, [.ref h2])), (h2, .inl (cB, 1024, .inl f))] := hD
    exact kf_vr hx hb hr hlocks (kf_poAt hP hD) hS d_Vol_readNumbers_172

set_option maxRecDepth 100000 in
set_option maxHeartbeats 4000000 in
theorem c_Vol_faultOfForm (l : Launch) (D : va_G) (cB cI : ClassId) (hz : Nat) (h0 : Nat) (fi : Int64) (bl : Int64) (fs : Int64) (sh : Int64) (zz : Int64) (gb : Int64) (gf : Int64) (rb : Int64) (fc : Int32) (gc : Int64) (cb : Int64) (rk : Int64) (h1 : Nat) (h2 : Nat) (f : Nat → Int32) : kf_Ct l y_Vol_faultOfForm w_Vol_faultOfForm 2 46 0 0 D (kT cB cI) [.ref h0, .ref h1] [(h0, .inr (1, [.long fi, .long bl, .long fs, .long sh, .long zz, .long gb, .long gf, .long rb, .int fc, .long gc, .long cb, .long rk])), (h1, .inr (0, [.ref h2])), (h2, .inl (cB, 1024, .inl f))] hz (some (.int (kv_form f sh fs))) (kf_po D [(h0, .inr (1, [.long fi, .long bl, .long fs, .long sh, .long zz, .long gb, .long gf, .long rb, .int fc, .long gc, .long cb, .long rk])), (h1, .inr (0, [.ref h2])), (h2, .inl (cB, 1024, .inl f))]) := by
  refine kf_of (cc := b_Vol_faultOfForm) (maxL := 2) (ret := (some .int)) (by decide) rfl (Nat.le_of_ble_eq_true rfl) ?_
  intro p e s m below meth c A H locs hx hb hr hml hown hts hlocks hin hP hD hS hA hE ls hl
  have hl : lv_has ls 2 [(0, .ref h0), (1, .ref h1)] := hl
  refine lv_aload_n hx hb d_Vol_faultOfForm_0 rfl (lv_at hl 1 rfl) ?_
  refine lv_bipush (v := 56) hx hb d_Vol_faultOfForm_1 (by decide) ?_
  refine lv_iconst (v := 2) hx hb d_Vol_faultOfForm_3 (by decide) ?_
  refine kf_ro hP hD hS hA [1, 2] rfl (va_runV (As := [.int 56, .int 2]) (rest := []) ⟨hx, hb, hml, hown, hts⟩ (c_Row_fieldL l D cB cI _ h1 h2 f 56 2 (by decide) (by decide)) ⟨callB_of 2 hts g_Row_field rfl rfl rfl (hts _ q1_2) (hts _ q1_109) h_Row_field ⟨Nat.le_of_ble_eq_true rfl, Nat.le_of_ble_eq_true rfl⟩, (hts _ q1_110), (hts _ q1_111)⟩ ⟨kf_bl, va_recv hE.1 hP (ci := 0) (q0 := 1) rfl rfl, kf_to hP hD hS hA hE [1, 2] rfl rfl⟩ rfl rfl hl.1 rfl (lv_room (Nat.le_of_ble_eq_true rfl)) d_Vol_faultOfForm_4 ⟨Nat.zero_le _, Nat.zero_le _⟩) (fun H locs hP hS => ?_)
  refine W.eq (g2 := F0 m 7 ls [.long (lN (ky_le f 56 2))]) rfl ?_
  refine lv_ldc2 (v := 61267) hx hb hown (hts _ q1_131) d_Vol_faultOfForm_7 ?_
  refine kf_lc_eq (tgt := 17) hx hb d_Vol_faultOfForm_10 d_Vol_faultOfForm_11 (by decide) (fun c10 => ?_) (fun c10 => ?_)
  · refine lv_aload_n hx hb d_Vol_faultOfForm_17 rfl (lv_at hl 1 rfl) ?_
    refine lv_bipush (v := 76) hx hb d_Vol_faultOfForm_18 (by decide) ?_
    refine lv_iconst (v := 4) hx hb d_Vol_faultOfForm_20 (by decide) ?_
    refine kf_ro hP hD hS hA [1, 2] rfl (va_runV (As := [.int 76, .int 4]) (rest := []) ⟨hx, hb, hml, hown, hts⟩ (c_Row_fieldL l D cB cI _ h1 h2 f 76 4 (by decide) (by decide)) ⟨callB_of 2 hts g_Row_field rfl rfl rfl (hts _ q1_2) (hts _ q1_109) h_Row_field ⟨Nat.le_of_ble_eq_true rfl, Nat.le_of_ble_eq_true rfl⟩, (hts _ q1_110), (hts _ q1_111)⟩ ⟨kf_bl, va_recv hE.1 hP (ci := 0) (q0 := 1) rfl rfl, kf_to hP hD hS hA hE [1, 2] rfl rfl⟩ rfl rfl hl.1 rfl (lv_room (Nat.le_of_ble_eq_true rfl)) d_Vol_faultOfForm_21 ⟨Nat.zero_le _, Nat.zero_le _⟩) (fun H locs hP hS => ?_)
    refine W.eq (g2 := F0 m 24 ls [.long (lN (ky_le f 76 4))]) rfl ?_
    refine lv_lconst (v := 1) hx hb d_Vol_faultOfForm_24 (by decide) ?_
    refine kf_lc_eq (tgt := 32) hx hb d_Vol_faultOfForm_25 d_Vol_faultOfForm_26 (by decide) (fun c25 => ?_) (fun c25 => ?_)
    · refine lv_aload_n hx hb d_Vol_faultOfForm_32 rfl (lv_at hl 0 rfl) ?_
      refine va_get (D := D) (ci := 1) (v := .long sh) (C := "FieldRows$Volume") (T := F_Vol) (N := 12) hx hb hts ku_Vol hown hE.1 hP 0 rfl rfl 3 (by decide) (hts _ q1_35) (fun _ h9 => h9) rfl d_Vol_faultOfForm_33 ?_
      refine lv_ldc2 (v := 2) hx hb hown (hts _ q1_132) d_Vol_faultOfForm_36 ?_
      refine kf_lc_le (tgt := 46) hx hb d_Vol_faultOfForm_39 d_Vol_faultOfForm_40 (by decide) (fun c39 => ?_) (fun c39 => ?_)
      · refine lv_aload_n hx hb d_Vol_faultOfForm_46 rfl (lv_at hl 1 rfl) ?_
        refine lv_bipush (v := 28) hx hb d_Vol_faultOfForm_47 (by decide) ?_
        refine lv_iconst (v := 4) hx hb d_Vol_faultOfForm_49 (by decide) ?_
        refine kf_ro hP hD hS hA [1, 2] rfl (va_runV (As := [.int 28, .int 4]) (rest := []) ⟨hx, hb, hml, hown, hts⟩ (c_Row_fieldL l D cB cI _ h1 h2 f 28 4 (by decide) (by decide)) ⟨callB_of 2 hts g_Row_field rfl rfl rfl (hts _ q1_2) (hts _ q1_109) h_Row_field ⟨Nat.le_of_ble_eq_true rfl, Nat.le_of_ble_eq_true rfl⟩, (hts _ q1_110), (hts _ q1_111)⟩ ⟨kf_bl, va_recv hE.1 hP (ci := 0) (q0 := 1) rfl rfl, kf_to hP hD hS hA hE [1, 2] rfl rfl⟩ rfl rfl hl.1 rfl (lv_room (Nat.le_of_ble_eq_true rfl)) d_Vol_faultOfForm_50 ⟨Nat.zero_le _, Nat.zero_le _⟩) (fun H locs hP hS => ?_)
        refine W.eq (g2 := F0 m 53 ls [.long (lN (ky_le f 28 4))]) rfl ?_
        refine lv_aload_n hx hb d_Vol_faultOfForm_53 rfl (lv_at hl 0 rfl) ?_
        refine va_get (D := D) (ci := 1) (v := .long sh) (C := "FieldRows$Volume") (T := F_Vol) (N := 12) hx hb hts ku_Vol hown hE.1 hP 0 rfl rfl 3 (by decide) (hts _ q1_35) (fun _ h9 => h9) rfl d_Vol_faultOfForm_54 ?_
        refine kf_lc_eq (tgt := 64) hx hb d_Vol_faultOfForm_57 d_Vol_faultOfForm_58 (by decide) (fun c57 => ?_) (fun c57 => ?_)
        · refine lv_aload_n hx hb d_Vol_faultOfForm_64 rfl (lv_at hl 0 rfl) ?_
          refine va_get (D := D) (ci := 1) (v := .long fs) (C := "FieldRows$Volume") (T := F_Vol) (N := 12) hx hb hts ku_Vol hown hE.1 hP 0 rfl rfl 2 (by decide) (hts _ q1_34) (fun _ h9 => h9) rfl d_Vol_faultOfForm_65 ?_
          refine lv_aload_n hx hb d_Vol_faultOfForm_68 rfl (lv_at hl 0 rfl) ?_
          refine va_get (D := D) (ci := 1) (v := .long sh) (C := "FieldRows$Volume") (T := F_Vol) (N := 12) hx hb hts ku_Vol hown hE.1 hP 0 rfl rfl 3 (by decide) (hts _ q1_35) (fun _ h9 => h9) rfl d_Vol_faultOfForm_69 ?_
          refine kf_ro hP hD hS hA [] rfl (va_runSN (As := [.long sh]) (rest := [.long fs]) ⟨hx, hb, hml, hown, hts⟩ (c_FR_firstFor l D cB cI _ sh) ⟨va_cnB 1 hts g_FR_firstFor rfl rfl rfl (hE.2.1 _ q1_133) (hts _ q1_1) h_FR_firstFor ⟨Nat.le_of_ble_eq_true rfl, Nat.le_of_ble_eq_true rfl⟩, (hts _ q1_103), trivial⟩ ⟨kf_bl, kf_to hP hD hS hA hE [] rfl rfl⟩ rfl rfl hl.1 rfl (lv_room (Nat.le_of_ble_eq_true rfl)) d_Vol_faultOfForm_72 ⟨Nat.zero_le _, Nat.zero_le _⟩) (fun H locs hP hS => ?_)
          refine W.eq (g2 := F0 m 75 ls [.int (kP (sh = 0)), .long fs]) rfl ?_
          refine lv_i2l hx hb d_Vol_faultOfForm_75 rfl ?_
          refine kf_lc_ne (tgt := 85) hx hb d_Vol_faultOfForm_76 d_Vol_faultOfForm_77 (by decide) (fun c76 => ?_) (fun c76 => ?_)
          · refine lv_bipush (v := 20) hx hb d_Vol_faultOfForm_85 (by decide) ?_
            exact kf_ir hx hb hr hlocks hP hD hS (by simp [kv_form, c10, c25, c39, c57, c76]) d_Vol_faultOfForm_87
          · refine lv_bipush (v := -2) hx hb d_Vol_faultOfForm_80 (by decide) ?_
            refine lv_goto (tgt := 87) hx hb d_Vol_faultOfForm_82 (by decide) ?_
            exact kf_ir hx hb hr hlocks hP hD hS (by simp [kv_form, c10, c25, c39, c57, c76]) d_Vol_faultOfForm_87
        · refine lv_bipush (v := 28) hx hb d_Vol_faultOfForm_61 (by decide) ?_
          exact kf_ir hx hb hr hlocks hP hD hS (by simp [kv_form, c10, c25, c39, c57]) d_Vol_faultOfForm_63
      · refine lv_bipush (v := 24) hx hb d_Vol_faultOfForm_43 (by decide) ?_
        exact kf_ir hx hb hr hlocks hP hD hS (by simp [kv_form, c10, c25, c39]) d_Vol_faultOfForm_45
    · refine lv_bipush (v := 76) hx hb d_Vol_faultOfForm_29 (by decide) ?_
      exact kf_ir hx hb hr hlocks hP hD hS (by simp [kv_form, c10, c25]) d_Vol_faultOfForm_31
  · refine lv_bipush (v := 56) hx hb d_Vol_faultOfForm_14 (by decide) ?_
    exact kf_ir hx hb hr hlocks hP hD hS (by simp [kv_form, c10]) d_Vol_faultOfForm_16

set_option maxRecDepth 100000 in
set_option maxHeartbeats 4000000 in
theorem c_Vol_faultOfGroupSizes (l : Launch) (D : va_G) (cB cI : ClassId) (hz : Nat) (h0 : Nat) (fi : Int64) (bl : Int64) (fs : Int64) (sh : Int64) (zz : Int64) (gb : Int64) (gf : Int64) (rb : Int64) (fc : Int32) (gc : Int64) (cb : Int64) (rk : Int64) (h1 : Nat) (h2 : Nat) (f : Nat → Int32) : kf_Ct l y_Vol_faultOfGroupSizes w_Vol_faultOfGroupSizes 2 46 0 0 D (kT cB cI) [.ref h0, .ref h1] [(h0, .inr (1, [.long fi, .long bl, .long fs, .long sh, .long zz, .long gb, .long gf, .long rb, .int fc, .long gc, .long cb, .long rk])), (h1, .inr (0, [.ref h2])), (h2, .inl (cB, 1024, .inl f))] hz (some (.int (kv_gs f zz gb rb gf rk))) (kf_po D [(h0, .inr (1, [.long fi, .long bl, .long fs, .long sh, .long zz, .long gb, .long gf, .long rb, .int fc, .long gc, .long cb, .long rk])), (h1, .inr (0, [.ref h2])), (h2, .inl (cB, 1024, .inl f))]) := by
  refine kf_of (cc := b_Vol_faultOfGroupSizes) (maxL := 5) (ret := (some .int)) (by decide) rfl (Nat.le_of_ble_eq_true rfl) ?_
  intro p e s m below meth c A H locs hx hb hr hml hown hts hlocks hin hP hD hS hA hE ls hl
  have hl : lv_has ls 5 [(0, .ref h0), (1, .ref h1)] := hl
  refine lv_ldc2 (v := 8) hx hb hown (hts _ q1_138) d_Vol_faultOfGroupSizes_0 ?_
  refine lv_aload_n hx hb d_Vol_faultOfGroupSizes_3 rfl (lv_at hl 0 rfl) ?_
  refine va_get (D := D) (ci := 1) (v := .long zz) (C := "FieldRows$Volume") (T := F_Vol) (N := 12) hx hb hts ku_Vol hown hE.1 hP 0 rfl rfl 4 (by decide) (hts _ q1_36) (fun _ h9 => h9) rfl d_Vol_faultOfGroupSizes_4 ?_
  refine lv_lmul hx hb d_Vol_faultOfGroupSizes_7 ?_
  refine lv_lstore_n (lv' := [(2, .long (8 * zz)), (0, .ref h0), (1, .ref h1)]) hx hb d_Vol_faultOfGroupSizes_8 rfl hl (by decide) rfl (fun ls hl => ?_)
  refine lv_aload_n hx hb d_Vol_faultOfGroupSizes_9 rfl (lv_at hl 1 rfl) ?_
  refine va_get (D := D) (ci := 1) (v := .long gb) (C := "FieldRows$Volume") (T := F_Vol) (N := 12) hx hb hts ku_Vol hown hE.1 hP 0 rfl rfl 5 (by decide) (hts _ q1_38) (fun _ h9 => h9) rfl d_Vol_faultOfGroupSizes_10 ?_
  refine lv_ldc2 (v := 64) hx hb hown (hts _ q1_139) d_Vol_faultOfGroupSizes_13 ?_
  refine lv_lload_n hx hb d_Vol_faultOfGroupSizes_16 rfl (lv_at hl 0 rfl) ?_
  refine kf_ro hP hD hS hA [] rfl (va_runSN (As := [.long gb, .long 64, .long (8 * zz)]) (rest := []) ⟨hx, hb, hml, hown, hts⟩ (c_FR_isEightfold l D cB cI _ gb 64 (8 * zz)) ⟨va_cnB 3 hts g_FR_isEightfold rfl rfl rfl (hE.2.1 _ q1_140) (hts _ q1_1) h_FR_isEightfold ⟨Nat.le_of_ble_eq_true rfl, Nat.le_of_ble_eq_true rfl⟩, (hts _ q1_141), trivial⟩ ⟨kf_bl, kf_to hP hD hS hA hE [] rfl rfl⟩ rfl rfl hl.1 rfl (lv_room (Nat.le_of_ble_eq_true rfl)) d_Vol_faultOfGroupSizes_17 ⟨Nat.zero_le _, Nat.zero_le _⟩) (fun H locs hP hS => ?_)
  refine W.eq (g2 := F0 m 20 ls [.int (kP (ky_e8P gb 64 (8 * zz)))]) rfl ?_
  refine lv_if_ne (tgt := 26) hx hb d_Vol_faultOfGroupSizes_20 (by decide) (fun c20 => ?_) (fun c20 => ?_)
  · refine lv_aload_n hx hb d_Vol_faultOfGroupSizes_26 rfl (lv_at hl 2 rfl) ?_
    refine lv_bipush (v := 36) hx hb d_Vol_faultOfGroupSizes_27 (by decide) ?_
    refine lv_iconst (v := 4) hx hb d_Vol_faultOfGroupSizes_29 (by decide) ?_
    refine kf_ro hP hD hS hA [1, 2] rfl (va_runV (As := [.int 36, .int 4]) (rest := []) ⟨hx, hb, hml, hown, hts⟩ (c_Row_fieldL l D cB cI _ h1 h2 f 36 4 (by decide) (by decide)) ⟨callB_of 2 hts g_Row_field rfl rfl rfl (hts _ q1_2) (hts _ q1_109) h_Row_field ⟨Nat.le_of_ble_eq_true rfl, Nat.le_of_ble_eq_true rfl⟩, (hts _ q1_110), (hts _ q1_111)⟩ ⟨kf_bl, va_recv hE.1 hP (ci := 0) (q0 := 1) rfl rfl, kf_to hP hD hS hA hE [1, 2] rfl rfl⟩ rfl rfl hl.1 rfl (lv_room (Nat.le_of_ble_eq_true rfl)) d_Vol_faultOfGroupSizes_30 ⟨Nat.zero_le _, Nat.zero_le _⟩) (fun H locs hP hS => ?_)
    refine W.eq (g2 := F0 m 33 ls [.long (lN (ky_le f 36 4))]) rfl ?_
    refine lv_aload_n hx hb d_Vol_faultOfGroupSizes_33 rfl (lv_at hl 1 rfl) ?_
    refine va_get (D := D) (ci := 1) (v := .long gb) (C := "FieldRows$Volume") (T := F_Vol) (N := 12) hx hb hts ku_Vol hown hE.1 hP 0 rfl rfl 5 (by decide) (hts _ q1_38) (fun _ h9 => h9) rfl d_Vol_faultOfGroupSizes_34 ?_
    refine kf_lc_eq (tgt := 44) hx hb d_Vol_faultOfGroupSizes_37 d_Vol_faultOfGroupSizes_38 (by decide) (fun c37 => ?_) (fun c37 => ?_)
    · refine lv_aload_n hx hb d_Vol_faultOfGroupSizes_44 rfl (lv_at hl 1 rfl) ?_
      refine va_get (D := D) (ci := 1) (v := .long rb) (C := "FieldRows$Volume") (T := F_Vol) (N := 12) hx hb hts ku_Vol hown hE.1 hP 0 rfl rfl 7 (by decide) (hts _ q1_41) (fun _ h9 => h9) rfl d_Vol_faultOfGroupSizes_45 ?_
      refine kf_ro hP hD hS hA [] rfl (va_runSN (As := [.long rb]) (rest := []) ⟨hx, hb, hml, hown, hts⟩ (c_FR_isRecordLength l D cB cI _ rb) ⟨va_cnB 1 hts g_FR_isRecordLength rfl rfl rfl (hE.2.1 _ q1_144) (hts _ q1_1) h_FR_isRecordLength ⟨Nat.le_of_ble_eq_true rfl, Nat.le_of_ble_eq_true rfl⟩, (hts _ q1_145), trivial⟩ ⟨kf_bl, kf_to hP hD hS hA hE [] rfl rfl⟩ rfl rfl hl.1 rfl (lv_room (Nat.le_of_ble_eq_true rfl)) d_Vol_faultOfGroupSizes_48 ⟨Nat.zero_le _, Nat.zero_le _⟩) (fun H locs hP hS => ?_)
      refine W.eq (g2 := F0 m 51 ls [.int (kP (ky_rlP rb))]) rfl ?_
      refine lv_if_ne (tgt := 57) hx hb d_Vol_faultOfGroupSizes_51 (by decide) (fun c51 => ?_) (fun c51 => ?_)
      · refine lv_aload_n hx hb d_Vol_faultOfGroupSizes_57 rfl (lv_at hl 1 rfl) ?_
        refine va_get (D := D) (ci := 1) (v := .long rk) (C := "FieldRows$Volume") (T := F_Vol) (N := 12) hx hb hts ku_Vol hown hE.1 hP 0 rfl rfl 11 (by decide) (hts _ q1_47) (fun _ h9 => h9) rfl d_Vol_faultOfGroupSizes_58 ?_
        refine lv_aload_n hx hb d_Vol_faultOfGroupSizes_61 rfl (lv_at hl 1 rfl) ?_
        refine va_get (D := D) (ci := 1) (v := .long zz) (C := "FieldRows$Volume") (T := F_Vol) (N := 12) hx hb hts ku_Vol hown hE.1 hP 0 rfl rfl 4 (by decide) (hts _ q1_36) (fun _ h9 => h9) rfl d_Vol_faultOfGroupSizes_62 ?_
        refine lv_lmul hx hb d_Vol_faultOfGroupSizes_65 ?_
        refine lv_aload_n hx hb d_Vol_faultOfGroupSizes_66 rfl (lv_at hl 1 rfl) ?_
        refine va_get (D := D) (ci := 1) (v := .long gf) (C := "FieldRows$Volume") (T := F_Vol) (N := 12) hx hb hts ku_Vol hown hE.1 hP 0 rfl rfl 6 (by decide) (hts _ q1_39) (fun _ h9 => h9) rfl d_Vol_faultOfGroupSizes_67 ?_
        refine lv_aload_n hx hb d_Vol_faultOfGroupSizes_70 rfl (lv_at hl 1 rfl) ?_
        refine va_get (D := D) (ci := 1) (v := .long rb) (C := "FieldRows$Volume") (T := F_Vol) (N := 12) hx hb hts ku_Vol hown hE.1 hP 0 rfl rfl 7 (by decide) (hts _ q1_41) (fun _ h9 => h9) rfl d_Vol_faultOfGroupSizes_71 ?_
        refine lv_lmul hx hb d_Vol_faultOfGroupSizes_74 ?_
        refine kf_lc_ne (tgt := 83) hx hb d_Vol_faultOfGroupSizes_75 d_Vol_faultOfGroupSizes_76 (by decide) (fun c75 => ?_) (fun c75 => ?_)
        · refine lv_iconst (v := 0) hx hb d_Vol_faultOfGroupSizes_83 (by decide) ?_
          refine lv_istore (lv' := [(4, .int 0), (2, .long (8 * zz)), (0, .ref h0), (1, .ref h1)]) hx hb d_Vol_faultOfGroupSizes_84 hl (by decide) rfl (fun ls hl => ?_)
          refine lv_aload_n hx hb d_Vol_faultOfGroupSizes_86 rfl (lv_at hl 2 rfl) ?_
          refine va_get (D := D) (ci := 1) (v := .long gf) (C := "FieldRows$Volume") (T := F_Vol) (N := 12) hx hb hts ku_Vol hown hE.1 hP 0 rfl rfl 6 (by decide) (hts _ q1_39) (fun _ h9 => h9) rfl d_Vol_faultOfGroupSizes_87 ?_
          refine lv_ldc2 (v := 16) hx hb hown (hts _ q1_151) d_Vol_faultOfGroupSizes_90 ?_
          refine lv_lload_n hx hb d_Vol_faultOfGroupSizes_93 rfl (lv_at hl 1 rfl) ?_
          refine kf_ro hP hD hS hA [] rfl (va_runSN (As := [.long gf, .long 16, .long (8 * zz)]) (rest := []) ⟨hx, hb, hml, hown, hts⟩ (c_FR_isEightfold l D cB cI _ gf 16 (8 * zz)) ⟨va_cnB 3 hts g_FR_isEightfold rfl rfl rfl (hE.2.1 _ q1_140) (hts _ q1_1) h_FR_isEightfold ⟨Nat.le_of_ble_eq_true rfl, Nat.le_of_ble_eq_true rfl⟩, (hts _ q1_141), trivial⟩ ⟨kf_bl, kf_to hP hD hS hA hE [] rfl rfl⟩ rfl rfl hl.1 rfl (lv_room (Nat.le_of_ble_eq_true rfl)) d_Vol_faultOfGroupSizes_94 ⟨Nat.zero_le _, Nat.zero_le _⟩) (fun H locs hP hS => ?_)
          refine W.eq (g2 := F0 m 97 ls [.int (kP (ky_e8P gf 16 (8 * zz)))]) rfl ?_
          refine lv_if_eq (tgt := 110) hx hb d_Vol_faultOfGroupSizes_97 (by decide) (fun c97 => ?_) (fun c97 => ?_)
          · refine lv_bipush (v := 40) hx hb d_Vol_faultOfGroupSizes_110 (by decide) ?_
            have h20 := by first | exact kP_ne c20 | exact kP_eq c20
            have h51 := by first | exact kP_ne c51 | exact kP_eq c51
            have h97 := by first | exact kP_ne c97 | exact kP_eq c97
            exact kf_ir hx hb hr hlocks hP hD hS (by unfold kv_gs; grind) d_Vol_faultOfGroupSizes_112
          · refine lv_iload hx hb d_Vol_faultOfGroupSizes_100 (lv_at hl 0 rfl) ?_
            refine lv_if_eq (tgt := 110) hx hb d_Vol_faultOfGroupSizes_102 (by decide) (fun c102 => ?_) (fun c102 => absurd rfl c102)
            refine lv_bipush (v := 40) hx hb d_Vol_faultOfGroupSizes_110 (by decide) ?_
            have h20 := by first | exact kP_ne c20 | exact kP_eq c20
            have h51 := by first | exact kP_ne c51 | exact kP_eq c51
            have h97 := by first | exact kP_ne c97 | exact kP_eq c97
            exact kf_ir hx hb hr hlocks hP hD hS (by unfold kv_gs; grind) d_Vol_faultOfGroupSizes_112
        · refine lv_iconst (v := 1) hx hb d_Vol_faultOfGroupSizes_79 (by decide) ?_
          refine lv_goto (tgt := 84) hx hb d_Vol_faultOfGroupSizes_80 (by decide) ?_
          refine lv_istore (lv' := [(4, .int 1), (2, .long (8 * zz)), (0, .ref h0), (1, .ref h1)]) hx hb d_Vol_faultOfGroupSizes_84 hl (by decide) rfl (fun ls hl => ?_)
          refine lv_aload_n hx hb d_Vol_faultOfGroupSizes_86 rfl (lv_at hl 2 rfl) ?_
          refine va_get (D := D) (ci := 1) (v := .long gf) (C := "FieldRows$Volume") (T := F_Vol) (N := 12) hx hb hts ku_Vol hown hE.1 hP 0 rfl rfl 6 (by decide) (hts _ q1_39) (fun _ h9 => h9) rfl d_Vol_faultOfGroupSizes_87 ?_
          refine lv_ldc2 (v := 16) hx hb hown (hts _ q1_151) d_Vol_faultOfGroupSizes_90 ?_
          refine lv_lload_n hx hb d_Vol_faultOfGroupSizes_93 rfl (lv_at hl 1 rfl) ?_
          refine kf_ro hP hD hS hA [] rfl (va_runSN (As := [.long gf, .long 16, .long (8 * zz)]) (rest := []) ⟨hx, hb, hml, hown, hts⟩ (c_FR_isEightfold l D cB cI _ gf 16 (8 * zz)) ⟨va_cnB 3 hts g_FR_isEightfold rfl rfl rfl (hE.2.1 _ q1_140) (hts _ q1_1) h_FR_isEightfold ⟨Nat.le_of_ble_eq_true rfl, Nat.le_of_ble_eq_true rfl⟩, (hts _ q1_141), trivial⟩ ⟨kf_bl, kf_to hP hD hS hA hE [] rfl rfl⟩ rfl rfl hl.1 rfl (lv_room (Nat.le_of_ble_eq_true rfl)) d_Vol_faultOfGroupSizes_94 ⟨Nat.zero_le _, Nat.zero_le _⟩) (fun H locs hP hS => ?_)
          refine W.eq (g2 := F0 m 97 ls [.int (kP (ky_e8P gf 16 (8 * zz)))]) rfl ?_
          refine lv_if_eq (tgt := 110) hx hb d_Vol_faultOfGroupSizes_97 (by decide) (fun c97 => ?_) (fun c97 => ?_)
          · refine lv_bipush (v := 40) hx hb d_Vol_faultOfGroupSizes_110 (by decide) ?_
            have h20 := by first | exact kP_ne c20 | exact kP_eq c20
            have h51 := by first | exact kP_ne c51 | exact kP_eq c51
            have h97 := by first | exact kP_ne c97 | exact kP_eq c97
            exact kf_ir hx hb hr hlocks hP hD hS (by unfold kv_gs; grind) d_Vol_faultOfGroupSizes_112
          · refine lv_iload hx hb d_Vol_faultOfGroupSizes_100 (lv_at hl 0 rfl) ?_
            refine lv_if_eq (tgt := 110) hx hb d_Vol_faultOfGroupSizes_102 (by decide) (fun c102 => absurd c102 (by decide)) (fun c102 => ?_)
            refine lv_bipush (v := -2) hx hb d_Vol_faultOfGroupSizes_105 (by decide) ?_
            refine lv_goto (tgt := 112) hx hb d_Vol_faultOfGroupSizes_107 (by decide) ?_
            have h20 := by first | exact kP_ne c20 | exact kP_eq c20
            have h51 := by first | exact kP_ne c51 | exact kP_eq c51
            have h97 := by first | exact kP_ne c97 | exact kP_eq c97
            exact kf_ir hx hb hr hlocks hP hD hS (by unfold kv_gs; grind) d_Vol_faultOfGroupSizes_112
      · refine lv_bipush (v := 88) hx hb d_Vol_faultOfGroupSizes_54 (by decide) ?_
        have h20 := by first | exact kP_ne c20 | exact kP_eq c20
        have h51 := by first | exact kP_ne c51 | exact kP_eq c51
        exact kf_ir hx hb hr hlocks hP hD hS (by unfold kv_gs; grind) d_Vol_faultOfGroupSizes_56
    · refine lv_bipush (v := 36) hx hb d_Vol_faultOfGroupSizes_41 (by decide) ?_
      have h20 := by first | exact kP_ne c20 | exact kP_eq c20
      exact kf_ir hx hb hr hlocks hP hD hS (by unfold kv_gs; grind) d_Vol_faultOfGroupSizes_43
  · refine lv_bipush (v := 32) hx hb d_Vol_faultOfGroupSizes_23 (by decide) ?_
    have h20 := by first | exact kP_ne c20 | exact kP_eq c20
    exact kf_ir hx hb hr hlocks hP hD hS (by unfold kv_gs; grind) d_Vol_faultOfGroupSizes_25

set_option maxRecDepth 100000 in
set_option maxHeartbeats 4000000 in
theorem c_Vol_everyGroupHasRoom (l : Launch) (D : va_G) (cB cI : ClassId) (hz : Nat) (h0 : Nat) (fi : Int64) (bl : Int64) (fs : Int64) (sh : Int64) (zz : Int64) (gb : Int64) (gf : Int64) (rb : Int64) (fc : Int32) (gc : Int64) (cb : Int64) (rk : Int64) : kf_Ct l y_Vol_everyGroupHasRoom w_Vol_everyGroupHasRoom 3 67 0 0 D (kT cB cI) [.ref h0] [(h0, .inr (1, [.long fi, .long bl, .long fs, .long sh, .long zz, .long gb, .long gf, .long rb, .int fc, .long gc, .long cb, .long rk]))] hz (some (.int (kP (kv_rmP bl fs gb gc cb rk fc)))) (kf_po D [(h0, .inr (1, [.long fi, .long bl, .long fs, .long sh, .long zz, .long gb, .long gf, .long rb, .int fc, .long gc, .long cb, .long rk]))]) := by
  refine kf_of (cc := b_Vol_everyGroupHasRoom) (maxL := 2) (ret := (some .boolean)) (by decide) rfl (Nat.le_of_ble_eq_true rfl) ?_
  intro p e s m below meth c A H locs hx hb hr hml hown hts hlocks hin hP hD hS hA hE ls hl
  have hl : lv_has ls 2 [(0, .ref h0)] := hl
  refine lv_aload_n hx hb d_Vol_everyGroupHasRoom_0 rfl (lv_at hl 0 rfl) ?_
  refine va_get (D := D) (ci := 1) (v := .long bl) (C := "FieldRows$Volume") (T := F_Vol) (N := 12) hx hb hts ku_Vol hown hE.1 hP 0 rfl rfl 1 (by decide) (hts _ q1_33) (fun _ h9 => h9) rfl d_Vol_everyGroupHasRoom_1 ?_
  refine lv_aload_n hx hb d_Vol_everyGroupHasRoom_4 rfl (lv_at hl 0 rfl) ?_
  refine va_get (D := D) (ci := 1) (v := .long fs) (C := "FieldRows$Volume") (T := F_Vol) (N := 12) hx hb hts ku_Vol hown hE.1 hP 0 rfl rfl 2 (by decide) (hts _ q1_34) (fun _ h9 => h9) rfl d_Vol_everyGroupHasRoom_5 ?_
  refine kf_lc_le (tgt := 34) hx hb d_Vol_everyGroupHasRoom_8 d_Vol_everyGroupHasRoom_9 (by decide) (fun c8 => ?_) (fun c8 => ?_)
  · refine lv_iconst (v := 0) hx hb d_Vol_everyGroupHasRoom_34 (by decide) ?_
    exact kf_zr hx hb hr hlocks hP hD hS (kP_f (by grind)) (kP_nar) d_Vol_everyGroupHasRoom_35
  · refine lv_aload_n hx hb d_Vol_everyGroupHasRoom_12 rfl (lv_at hl 0 rfl) ?_
    refine va_get (D := D) (ci := 1) (v := .long bl) (C := "FieldRows$Volume") (T := F_Vol) (N := 12) hx hb hts ku_Vol hown hE.1 hP 0 rfl rfl 1 (by decide) (hts _ q1_33) (fun _ h9 => h9) rfl d_Vol_everyGroupHasRoom_13 ?_
    refine lv_ldc2 (v := 16777216) hx hb hown (hts _ q1_156) d_Vol_everyGroupHasRoom_16 ?_
    refine kf_lc_gt (tgt := 34) hx hb d_Vol_everyGroupHasRoom_19 d_Vol_everyGroupHasRoom_20 (by decide) (fun c19 => ?_) (fun c19 => ?_)
    · refine lv_iconst (v := 0) hx hb d_Vol_everyGroupHasRoom_34 (by decide) ?_
      exact kf_zr hx hb hr hlocks hP hD hS (kP_f (by grind)) (kP_nar) d_Vol_everyGroupHasRoom_35
    · refine lv_aload_n hx hb d_Vol_everyGroupHasRoom_23 rfl (lv_at hl 0 rfl) ?_
      refine va_get (D := D) (ci := 1) (v := .long gc) (C := "FieldRows$Volume") (T := F_Vol) (N := 12) hx hb hts ku_Vol hown hE.1 hP 0 rfl rfl 9 (by decide) (hts _ q1_44) (fun _ h9 => h9) rfl d_Vol_everyGroupHasRoom_24 ?_
      refine lv_ldc2 (v := 64) hx hb hown (hts _ q1_139) d_Vol_everyGroupHasRoom_27 ?_
      refine kf_lc_le (tgt := 36) hx hb d_Vol_everyGroupHasRoom_30 d_Vol_everyGroupHasRoom_31 (by decide) (fun c30 => ?_) (fun c30 => ?_)
      · refine lv_iconst (v := 0) hx hb d_Vol_everyGroupHasRoom_36 (by decide) ?_
        refine kf_ti (y := nI 0) (rfl) ?_
        refine lv_istore_n (lv' := [(1, .int (nI 0)), (0, .ref h0)]) hx hb d_Vol_everyGroupHasRoom_37 rfl hl (by decide) rfl (fun ls hl => ?_)
        have h64 := kv_64 c30
        refine kf_loop (σ := Nat) (fun k ls H locs => (k ≤ 64) ∧ (∀ j, j < k → ky_bc fc cb (lN j) + 2 + rk < ky_min gb (bl - (fs + lN j * gb))) ∧ lv_has ls 2 [(1, .int (nI k)), (0, .ref h0)] ∧ va_P D vwCl [(h0, .inr (1, [.long fi, .long bl, .long fs, .long sh, .long zz, .long gb, .long gf, .long rb, .int fc, .long gc, .long cb, .long rk]))] H ∧ va_D A [(h0, .inr (1, [.long fi, .long bl, .long fs, .long sh, .long zz, .long gb, .long gf, .long rb, .int fc, .long gc, .long cb, .long rk]))] ∧ va_S A s.heap H locs) (fun k => 64 - k) 0 ⟨Nat.zero_le _, fun j hj => absurd hj (Nat.not_lt_zero j), lv_sub hl [0, 1] rfl, hP, hD, hS⟩ (fun k ls H locs hI ih => ?_)
        obtain ⟨hk, hno, hl, hP, hD, hS⟩ := hI
        refine lv_iload_n hx hb d_Vol_everyGroupHasRoom_38 rfl (lv_at hl 0 rfl) ?_
        refine lv_i2l hx hb d_Vol_everyGroupHasRoom_39 rfl ?_
        refine kf_tl (y := lN k) (nI_l (by omega)) ?_
        refine lv_aload_n hx hb d_Vol_everyGroupHasRoom_40 rfl (lv_at hl 1 rfl) ?_
        refine va_get (D := D) (ci := 1) (v := .long gc) (C := "FieldRows$Volume") (T := F_Vol) (N := 12) hx hb hts ku_Vol hown hE.1 hP 0 rfl rfl 9 (by decide) (hts _ q1_44) (fun _ h9 => h9) rfl d_Vol_everyGroupHasRoom_41 ?_
        refine kf_lc_ge (tgt := 72) hx hb d_Vol_everyGroupHasRoom_44 d_Vol_everyGroupHasRoom_45 (by decide) (fun c44 => ?_) (fun c44 => ?_)
        · refine lv_iconst (v := 1) hx hb d_Vol_everyGroupHasRoom_72 (by decide) ?_
          exact kf_zr hx hb hr hlocks hP hD hS (kP_t ⟨c8, c19, c30, fun j hj => hno j (Nat.lt_of_lt_of_le hj ((kv_le (by omega)).mp c44))⟩) (kP_nar) d_Vol_everyGroupHasRoom_73
        · have hkg : k < gc.toInt.toNat := Nat.lt_of_not_le (fun q => c44 ((kv_le (by omega)).mpr q))
          refine lv_aload_n hx hb d_Vol_everyGroupHasRoom_48 rfl (lv_at hl 1 rfl) ?_
          refine lv_iload_n hx hb d_Vol_everyGroupHasRoom_49 rfl (lv_at hl 0 rfl) ?_
          refine lv_i2l hx hb d_Vol_everyGroupHasRoom_50 rfl ?_
          refine kf_tl (y := lN k) (nI_l (by omega)) ?_
          refine kf_ro hP hD hS hA [0] rfl (va_runV (As := [.long (lN k)]) (rest := []) ⟨hx, hb, hml, hown, hts⟩ (c_Vol_groupLength l D cB cI _ h0 fi bl fs sh zz gb gf rb fc gc cb rk (lN k)) ⟨callB_of 1 hts g_Vol_groupLength rfl rfl rfl (hts _ q1_3) (hts _ q1_157) h_Vol_groupLength ⟨Nat.le_of_ble_eq_true rfl, Nat.le_of_ble_eq_true rfl⟩, (hts _ q1_158), (hts _ q1_159)⟩ ⟨kf_bl, va_recv hE.1 hP (ci := 1) (q0 := 0) rfl rfl, kf_to hP hD hS hA hE [0] rfl rfl⟩ rfl rfl hl.1 rfl (lv_room (Nat.le_of_ble_eq_true rfl)) d_Vol_everyGroupHasRoom_51 ⟨Nat.zero_le _, Nat.zero_le _⟩) (fun H locs hP hS => ?_)
          refine W.eq (g2 := F0 m 54 ls [.long (ky_min gb (bl - (fs + (lN k) * gb)))]) rfl ?_
          refine lv_aload_n hx hb d_Vol_everyGroupHasRoom_54 rfl (lv_at hl 1 rfl) ?_
          refine lv_iload_n hx hb d_Vol_everyGroupHasRoom_55 rfl (lv_at hl 0 rfl) ?_
          refine lv_i2l hx hb d_Vol_everyGroupHasRoom_56 rfl ?_
          refine kf_tl (y := lN k) (nI_l (by omega)) ?_
          refine kf_ro hP hD hS hA [0] rfl (va_runV (As := [.long (lN k)]) (rest := [.long (ky_min gb (bl - (fs + (lN k) * gb)))]) ⟨hx, hb, hml, hown, hts⟩ (c_Vol_fixedBlocks l D cB cI _ h0 fi bl fs sh zz gb gf rb fc gc cb rk (lN k)) ⟨callB_of 1 hts g_Vol_fixedBlocks rfl rfl rfl (hts _ q1_3) (hts _ q1_168) h_Vol_fixedBlocks ⟨Nat.le_of_ble_eq_true rfl, Nat.le_of_ble_eq_true rfl⟩, (hts _ q1_169), (hts _ q1_170)⟩ ⟨kf_bl, va_recv hE.1 hP (ci := 1) (q0 := 0) rfl rfl, kf_to hP hD hS hA hE [0] rfl rfl⟩ rfl rfl hl.1 rfl (lv_room (Nat.le_of_ble_eq_true rfl)) d_Vol_everyGroupHasRoom_57 ⟨Nat.zero_le _, Nat.zero_le _⟩) (fun H locs hP hS => ?_)
          refine W.eq (g2 := F0 m 60 ls [.long (ky_bc fc cb (lN k) + 2 + rk), .long (ky_min gb (bl - (fs + (lN k) * gb)))]) rfl ?_
          refine kf_lc_gt (tgt := 66) hx hb d_Vol_everyGroupHasRoom_60 d_Vol_everyGroupHasRoom_61 (by decide) (fun c60 => ?_) (fun c60 => ?_)
          · refine lv_iinc (v := nI (k + 1)) (lv' := [(1, .int (nI (k + 1))), (0, .ref h0)]) hx hb d_Vol_everyGroupHasRoom_66 hl (k := 0) rfl ((nI_succ k).symm) (by decide) rfl (fun ls hl => ?_)
            refine lv_goto (tgt := 38) hx hb d_Vol_everyGroupHasRoom_69 (by decide) ?_
            exact ih (k + 1) _ _ _ (by omega) ⟨by omega, fun j hj => by rcases (show j < k ∨ j = k by omega) with q | rfl; exact hno j q; exact c60, lv_sub hl [0, 1] rfl, hP, hD, hS⟩
          · refine lv_iconst (v := 0) hx hb d_Vol_everyGroupHasRoom_64 (by decide) ?_
            exact kf_zr hx hb hr hlocks hP hD hS (kP_f (fun q => c60 (q.2.2.2 k hkg))) (kP_nar) d_Vol_everyGroupHasRoom_65
      · refine lv_iconst (v := 0) hx hb d_Vol_everyGroupHasRoom_34 (by decide) ?_
        exact kf_zr hx hb hr hlocks hP hD hS (kP_f (by grind)) (kP_nar) d_Vol_everyGroupHasRoom_35

set_option maxRecDepth 100000 in
set_option maxHeartbeats 4000000 in
theorem c_Vol_faultOfCounts (l : Launch) (D : va_G) (cB cI : ClassId) (hz : Nat) (h0 : Nat) (fi : Int64) (bl : Int64) (fs : Int64) (sh : Int64) (zz : Int64) (gb : Int64) (gf : Int64) (rb : Int64) (fc : Int32) (gc : Int64) (cb : Int64) (rk : Int64) (h1 : Nat) (h2 : Nat) (f : Nat → Int32) : kf_Ct l y_Vol_faultOfCounts w_Vol_faultOfCounts 2 46 0 0 D (kT cB cI) [.ref h0, .ref h1] [(h0, .inr (1, [.long fi, .long bl, .long fs, .long sh, .long zz, .long gb, .long gf, .long rb, .int fc, .long gc, .long cb, .long rk])), (h1, .inr (0, [.ref h2])), (h2, .inl (cB, 1024, .inl f))] hz (some (.int (kv_ct f fi bl gf gc fc))) (kf_po D [(h0, .inr (1, [.long fi, .long bl, .long fs, .long sh, .long zz, .long gb, .long gf, .long rb, .int fc, .long gc, .long cb, .long rk])), (h1, .inr (0, [.ref h2])), (h2, .inl (cB, 1024, .inl f))]) := by
  refine kf_of (cc := b_Vol_faultOfCounts) (maxL := 8) (ret := (some .int)) (by decide) rfl (Nat.le_of_ble_eq_true rfl) ?_
  intro p e s m below meth c A H locs hx hb hr hml hown hts hlocks hin hP hD hS hA hE ls hl
  have hl : lv_has ls 8 [(0, .ref h0), (1, .ref h1)] := hl
  refine lv_aload_n hx hb d_Vol_faultOfCounts_0 rfl (lv_at hl 0 rfl) ?_
  refine va_get (D := D) (ci := 1) (v := .long fi) (C := "FieldRows$Volume") (T := F_Vol) (N := 12) hx hb hts ku_Vol hown hE.1 hP 0 rfl rfl 0 (by decide) (hts _ q1_31) (fun _ h9 => h9) rfl d_Vol_faultOfCounts_1 ?_
  refine lv_aload_n hx hb d_Vol_faultOfCounts_4 rfl (lv_at hl 0 rfl) ?_
  refine va_get (D := D) (ci := 1) (v := .long gc) (C := "FieldRows$Volume") (T := F_Vol) (N := 12) hx hb hts ku_Vol hown hE.1 hP 0 rfl rfl 9 (by decide) (hts _ q1_44) (fun _ h9 => h9) rfl d_Vol_faultOfCounts_5 ?_
  refine lv_aload_n hx hb d_Vol_faultOfCounts_8 rfl (lv_at hl 0 rfl) ?_
  refine va_get (D := D) (ci := 1) (v := .long gf) (C := "FieldRows$Volume") (T := F_Vol) (N := 12) hx hb hts ku_Vol hown hE.1 hP 0 rfl rfl 6 (by decide) (hts _ q1_39) (fun _ h9 => h9) rfl d_Vol_faultOfCounts_9 ?_
  refine lv_lmul hx hb d_Vol_faultOfCounts_12 ?_
  refine kf_lc_eq (tgt := 19) hx hb d_Vol_faultOfCounts_13 d_Vol_faultOfCounts_14 (by decide) (fun c13 => ?_) (fun c13 => ?_)
  · refine lv_aload_n hx hb d_Vol_faultOfCounts_19 rfl (lv_at hl 1 rfl) ?_
    refine lv_bipush (v := 8) hx hb d_Vol_faultOfCounts_20 (by decide) ?_
    refine lv_iconst (v := 4) hx hb d_Vol_faultOfCounts_22 (by decide) ?_
    refine kf_ro hP hD hS hA [1, 2] rfl (va_runV (As := [.int 8, .int 4]) (rest := []) ⟨hx, hb, hml, hown, hts⟩ (c_Row_fieldL l D cB cI _ h1 h2 f 8 4 (by decide) (by decide)) ⟨callB_of 2 hts g_Row_field rfl rfl rfl (hts _ q1_2) (hts _ q1_109) h_Row_field ⟨Nat.le_of_ble_eq_true rfl, Nat.le_of_ble_eq_true rfl⟩, (hts _ q1_110), (hts _ q1_111)⟩ ⟨kf_bl, va_recv hE.1 hP (ci := 0) (q0 := 1) rfl rfl, kf_to hP hD hS hA hE [1, 2] rfl rfl⟩ rfl rfl hl.1 rfl (lv_room (Nat.le_of_ble_eq_true rfl)) d_Vol_faultOfCounts_23 ⟨Nat.zero_le _, Nat.zero_le _⟩) (fun H locs hP hS => ?_)
    refine W.eq (g2 := F0 m 26 ls [.long (lN (ky_le f 8 4))]) rfl ?_
    refine lv_aload_n hx hb d_Vol_faultOfCounts_26 rfl (lv_at hl 0 rfl) ?_
    refine va_get (D := D) (ci := 1) (v := .long bl) (C := "FieldRows$Volume") (T := F_Vol) (N := 12) hx hb hts ku_Vol hown hE.1 hP 0 rfl rfl 1 (by decide) (hts _ q1_33) (fun _ h9 => h9) rfl d_Vol_faultOfCounts_27 ?_
    refine kf_lc_le (tgt := 37) hx hb d_Vol_faultOfCounts_30 d_Vol_faultOfCounts_31 (by decide) (fun c30 => ?_) (fun c30 => ?_)
    · refine lv_aload_n hx hb d_Vol_faultOfCounts_37 rfl (lv_at hl 1 rfl) ?_
      refine lv_bipush (v := 12) hx hb d_Vol_faultOfCounts_38 (by decide) ?_
      refine lv_iconst (v := 4) hx hb d_Vol_faultOfCounts_40 (by decide) ?_
      refine kf_ro hP hD hS hA [1, 2] rfl (va_runV (As := [.int 12, .int 4]) (rest := []) ⟨hx, hb, hml, hown, hts⟩ (c_Row_fieldL l D cB cI _ h1 h2 f 12 4 (by decide) (by decide)) ⟨callB_of 2 hts g_Row_field rfl rfl rfl (hts _ q1_2) (hts _ q1_109) h_Row_field ⟨Nat.le_of_ble_eq_true rfl, Nat.le_of_ble_eq_true rfl⟩, (hts _ q1_110), (hts _ q1_111)⟩ ⟨kf_bl, va_recv hE.1 hP (ci := 0) (q0 := 1) rfl rfl, kf_to hP hD hS hA hE [1, 2] rfl rfl⟩ rfl rfl hl.1 rfl (lv_room (Nat.le_of_ble_eq_true rfl)) d_Vol_faultOfCounts_41 ⟨Nat.zero_le _, Nat.zero_le _⟩) (fun H locs hP hS => ?_)
      refine W.eq (g2 := F0 m 44 ls [.long (lN (ky_le f 12 4))]) rfl ?_
      refine lv_aload_n hx hb d_Vol_faultOfCounts_44 rfl (lv_at hl 0 rfl) ?_
      refine va_get (D := D) (ci := 1) (v := .long bl) (C := "FieldRows$Volume") (T := F_Vol) (N := 12) hx hb hts ku_Vol hown hE.1 hP 0 rfl rfl 1 (by decide) (hts _ q1_33) (fun _ h9 => h9) rfl d_Vol_faultOfCounts_45 ?_
      refine kf_lc_le (tgt := 55) hx hb d_Vol_faultOfCounts_48 d_Vol_faultOfCounts_49 (by decide) (fun c48 => ?_) (fun c48 => ?_)
      · refine lv_aload_n hx hb d_Vol_faultOfCounts_55 rfl (lv_at hl 1 rfl) ?_
        refine lv_bipush (v := 16) hx hb d_Vol_faultOfCounts_56 (by decide) ?_
        refine lv_iconst (v := 4) hx hb d_Vol_faultOfCounts_58 (by decide) ?_
        refine kf_ro hP hD hS hA [1, 2] rfl (va_runV (As := [.int 16, .int 4]) (rest := []) ⟨hx, hb, hml, hown, hts⟩ (c_Row_fieldL l D cB cI _ h1 h2 f 16 4 (by decide) (by decide)) ⟨callB_of 2 hts g_Row_field rfl rfl rfl (hts _ q1_2) (hts _ q1_109) h_Row_field ⟨Nat.le_of_ble_eq_true rfl, Nat.le_of_ble_eq_true rfl⟩, (hts _ q1_110), (hts _ q1_111)⟩ ⟨kf_bl, va_recv hE.1 hP (ci := 0) (q0 := 1) rfl rfl, kf_to hP hD hS hA hE [1, 2] rfl rfl⟩ rfl rfl hl.1 rfl (lv_room (Nat.le_of_ble_eq_true rfl)) d_Vol_faultOfCounts_59 ⟨Nat.zero_le _, Nat.zero_le _⟩) (fun H locs hP hS => ?_)
        refine W.eq (g2 := F0 m 62 ls [.long (lN (ky_le f 16 4))]) rfl ?_
        refine lv_aload_n hx hb d_Vol_faultOfCounts_62 rfl (lv_at hl 0 rfl) ?_
        refine va_get (D := D) (ci := 1) (v := .long fi) (C := "FieldRows$Volume") (T := F_Vol) (N := 12) hx hb hts ku_Vol hown hE.1 hP 0 rfl rfl 0 (by decide) (hts _ q1_31) (fun _ h9 => h9) rfl d_Vol_faultOfCounts_63 ?_
        refine kf_lc_le (tgt := 73) hx hb d_Vol_faultOfCounts_66 d_Vol_faultOfCounts_67 (by decide) (fun c66 => ?_) (fun c66 => ?_)
        · refine lv_aload_n hx hb d_Vol_faultOfCounts_73 rfl (lv_at hl 1 rfl) ?_
          refine lv_bipush (v := 58) hx hb d_Vol_faultOfCounts_74 (by decide) ?_
          refine lv_iconst (v := 2) hx hb d_Vol_faultOfCounts_76 (by decide) ?_
          refine kf_ro hP hD hS hA [1, 2] rfl (va_runV (As := [.int 58, .int 2]) (rest := []) ⟨hx, hb, hml, hown, hts⟩ (c_Row_fieldL l D cB cI _ h1 h2 f 58 2 (by decide) (by decide)) ⟨callB_of 2 hts g_Row_field rfl rfl rfl (hts _ q1_2) (hts _ q1_109) h_Row_field ⟨Nat.le_of_ble_eq_true rfl, Nat.le_of_ble_eq_true rfl⟩, (hts _ q1_110), (hts _ q1_111)⟩ ⟨kf_bl, va_recv hE.1 hP (ci := 0) (q0 := 1) rfl rfl, kf_to hP hD hS hA hE [1, 2] rfl rfl⟩ rfl rfl hl.1 rfl (lv_room (Nat.le_of_ble_eq_true rfl)) d_Vol_faultOfCounts_77 ⟨Nat.zero_le _, Nat.zero_le _⟩) (fun H locs hP hS => ?_)
          refine W.eq (g2 := F0 m 80 ls [.long (lN (ky_le f 58 2))]) rfl ?_
          refine lv_lstore_n (lv' := [(2, .long (lN (ky_le f 58 2))), (0, .ref h0), (1, .ref h1)]) hx hb d_Vol_faultOfCounts_80 rfl hl (by decide) rfl (fun ls hl => ?_)
          refine lv_lload_n hx hb d_Vol_faultOfCounts_81 rfl (lv_at hl 0 rfl) ?_
          refine lv_lconst (v := 1) hx hb d_Vol_faultOfCounts_82 (by decide) ?_
          refine kf_lc_eq (tgt := 98) hx hb d_Vol_faultOfCounts_83 d_Vol_faultOfCounts_84 (by decide) (fun c83 => ?_) (fun c83 => ?_)
          · refine lv_aload_n hx hb d_Vol_faultOfCounts_98 rfl (lv_at hl 2 rfl) ?_
            refine lv_bipush (v := 84) hx hb d_Vol_faultOfCounts_99 (by decide) ?_
            refine lv_iconst (v := 4) hx hb d_Vol_faultOfCounts_101 (by decide) ?_
            refine kf_ro hP hD hS hA [1, 2] rfl (va_runV (As := [.int 84, .int 4]) (rest := []) ⟨hx, hb, hml, hown, hts⟩ (c_Row_fieldL l D cB cI _ h1 h2 f 84 4 (by decide) (by decide)) ⟨callB_of 2 hts g_Row_field rfl rfl rfl (hts _ q1_2) (hts _ q1_109) h_Row_field ⟨Nat.le_of_ble_eq_true rfl, Nat.le_of_ble_eq_true rfl⟩, (hts _ q1_110), (hts _ q1_111)⟩ ⟨kf_bl, va_recv hE.1 hP (ci := 0) (q0 := 1) rfl rfl, kf_to hP hD hS hA hE [1, 2] rfl rfl⟩ rfl rfl hl.1 rfl (lv_room (Nat.le_of_ble_eq_true rfl)) d_Vol_faultOfCounts_102 ⟨Nat.zero_le _, Nat.zero_le _⟩) (fun H locs hP hS => ?_)
            refine W.eq (g2 := F0 m 105 ls [.long (lN (ky_le f 84 4))]) rfl ?_
            refine lv_lstore (lv' := [(4, .long (lN (ky_le f 84 4))), (2, .long (lN (ky_le f 58 2))), (0, .ref h0), (1, .ref h1)]) hx hb d_Vol_faultOfCounts_105 hl (by decide) rfl (fun ls hl => ?_)
            refine lv_lload hx hb d_Vol_faultOfCounts_107 (lv_at hl 0 rfl) ?_
            refine lv_ldc2 (v := 11) hx hb hown (hts _ q1_187) d_Vol_faultOfCounts_109 ?_
            refine kf_lc_lt (tgt := 126) hx hb d_Vol_faultOfCounts_112 d_Vol_faultOfCounts_113 (by decide) (fun c112 => ?_) (fun c112 => ?_)
            · refine lv_bipush (v := 84) hx hb d_Vol_faultOfCounts_126 (by decide) ?_
              exact kf_ir hx hb hr hlocks hP hD hS (by unfold kv_ct; grind) d_Vol_faultOfCounts_128
            · refine lv_lload hx hb d_Vol_faultOfCounts_116 (lv_at hl 0 rfl) ?_
              refine lv_aload_n hx hb d_Vol_faultOfCounts_118 rfl (lv_at hl 2 rfl) ?_
              refine va_get (D := D) (ci := 1) (v := .long fi) (C := "FieldRows$Volume") (T := F_Vol) (N := 12) hx hb hts ku_Vol hown hE.1 hP 0 rfl rfl 0 (by decide) (hts _ q1_31) (fun _ h9 => h9) rfl d_Vol_faultOfCounts_119 ?_
              refine kf_lc_le (tgt := 129) hx hb d_Vol_faultOfCounts_122 d_Vol_faultOfCounts_123 (by decide) (fun c122 => ?_) (fun c122 => ?_)
              · refine lv_aload_n hx hb d_Vol_faultOfCounts_129 rfl (lv_at hl 3 rfl) ?_
                refine lv_bipush (v := 90) hx hb d_Vol_faultOfCounts_130 (by decide) ?_
                refine lv_iconst (v := 2) hx hb d_Vol_faultOfCounts_132 (by decide) ?_
                refine kf_ro hP hD hS hA [1, 2] rfl (va_runV (As := [.int 90, .int 2]) (rest := []) ⟨hx, hb, hml, hown, hts⟩ (c_Row_fieldL l D cB cI _ h1 h2 f 90 2 (by decide) (by decide)) ⟨callB_of 2 hts g_Row_field rfl rfl rfl (hts _ q1_2) (hts _ q1_109) h_Row_field ⟨Nat.le_of_ble_eq_true rfl, Nat.le_of_ble_eq_true rfl⟩, (hts _ q1_110), (hts _ q1_111)⟩ ⟨kf_bl, va_recv hE.1 hP (ci := 0) (q0 := 1) rfl rfl, kf_to hP hD hS hA hE [1, 2] rfl rfl⟩ rfl rfl hl.1 rfl (lv_room (Nat.le_of_ble_eq_true rfl)) d_Vol_faultOfCounts_133 ⟨Nat.zero_le _, Nat.zero_le _⟩) (fun H locs hP hS => ?_)
                refine W.eq (g2 := F0 m 136 ls [.long (lN (ky_le f 90 2))]) rfl ?_
                refine lv_lstore (lv' := [(6, .long (lN (ky_le f 90 2))), (4, .long (lN (ky_le f 84 4))), (2, .long (lN (ky_le f 58 2))), (0, .ref h0), (1, .ref h1)]) hx hb d_Vol_faultOfCounts_136 hl (by decide) rfl (fun ls hl => ?_)
                refine lv_lload hx hb d_Vol_faultOfCounts_138 (lv_at hl 0 rfl) ?_
                refine lv_aload_n hx hb d_Vol_faultOfCounts_140 rfl (lv_at hl 3 rfl) ?_
                refine va_get (D := D) (ci := 1) (v := .long gc) (C := "FieldRows$Volume") (T := F_Vol) (N := 12) hx hb hts ku_Vol hown hE.1 hP 0 rfl rfl 9 (by decide) (hts _ q1_44) (fun _ h9 => h9) rfl d_Vol_faultOfCounts_141 ?_
                refine kf_lc_ge (tgt := 162) hx hb d_Vol_faultOfCounts_144 d_Vol_faultOfCounts_145 (by decide) (fun c144 => ?_) (fun c144 => ?_)
                · refine lv_bipush (v := 90) hx hb d_Vol_faultOfCounts_162 (by decide) ?_
                  exact kf_ir hx hb hr hlocks hP hD hS (by unfold kv_ct; grind) d_Vol_faultOfCounts_164
                · refine lv_aload_n hx hb d_Vol_faultOfCounts_148 rfl (lv_at hl 3 rfl) ?_
                  refine lv_lload hx hb d_Vol_faultOfCounts_149 (lv_at hl 0 rfl) ?_
                  refine kf_ro hP hD hS hA [0] rfl (va_runV (As := [.long (lN (ky_le f 90 2))]) (rest := []) ⟨hx, hb, hml, hown, hts⟩ (c_Vol_hasCopy l D cB cI _ h0 fi bl fs sh zz gb gf rb fc gc cb rk (lN (ky_le f 90 2))) ⟨callB_of 1 hts g_Vol_hasCopy rfl rfl rfl (hts _ q1_3) (hts _ q1_176) h_Vol_hasCopy ⟨Nat.le_of_ble_eq_true rfl, Nat.le_of_ble_eq_true rfl⟩, (hts _ q1_177), (hts _ q1_178)⟩ ⟨kf_bl, va_recv hE.1 hP (ci := 1) (q0 := 0) rfl rfl, kf_to hP hD hS hA hE [0] rfl rfl⟩ rfl rfl hl.1 rfl (lv_room (Nat.le_of_ble_eq_true rfl)) d_Vol_faultOfCounts_151 ⟨Nat.zero_le _, Nat.zero_le _⟩) (fun H locs hP hS => ?_)
                  refine W.eq (g2 := F0 m 154 ls [.int (kP (ky_hcP fc (lN (ky_le f 90 2))))]) rfl ?_
                  refine lv_if_eq (tgt := 162) hx hb d_Vol_faultOfCounts_154 (by decide) (fun c154 => ?_) (fun c154 => ?_)
                  · refine lv_bipush (v := 90) hx hb d_Vol_faultOfCounts_162 (by decide) ?_
                    have h154 := by first | exact kP_ne c154 | exact kP_eq c154
                    exact kf_ir hx hb hr hlocks hP hD hS (by unfold kv_ct; grind) d_Vol_faultOfCounts_164
                  · refine lv_bipush (v := -2) hx hb d_Vol_faultOfCounts_157 (by decide) ?_
                    refine lv_goto (tgt := 164) hx hb d_Vol_faultOfCounts_159 (by decide) ?_
                    have h154 := by first | exact kP_ne c154 | exact kP_eq c154
                    exact kf_ir hx hb hr hlocks hP hD hS (by unfold kv_ct; grind) d_Vol_faultOfCounts_164
              · refine lv_bipush (v := 84) hx hb d_Vol_faultOfCounts_126 (by decide) ?_
                exact kf_ir hx hb hr hlocks hP hD hS (by unfold kv_ct; grind) d_Vol_faultOfCounts_128
          · refine lv_lload_n hx hb d_Vol_faultOfCounts_87 rfl (lv_at hl 0 rfl) ?_
            refine lv_ldc2 (v := 3) hx hb hown (hts _ q1_186) d_Vol_faultOfCounts_88 ?_
            refine kf_lc_eq (tgt := 98) hx hb d_Vol_faultOfCounts_91 d_Vol_faultOfCounts_92 (by decide) (fun c91 => ?_) (fun c91 => ?_)
            · refine lv_aload_n hx hb d_Vol_faultOfCounts_98 rfl (lv_at hl 2 rfl) ?_
              refine lv_bipush (v := 84) hx hb d_Vol_faultOfCounts_99 (by decide) ?_
              refine lv_iconst (v := 4) hx hb d_Vol_faultOfCounts_101 (by decide) ?_
              refine kf_ro hP hD hS hA [1, 2] rfl (va_runV (As := [.int 84, .int 4]) (rest := []) ⟨hx, hb, hml, hown, hts⟩ (c_Row_fieldL l D cB cI _ h1 h2 f 84 4 (by decide) (by decide)) ⟨callB_of 2 hts g_Row_field rfl rfl rfl (hts _ q1_2) (hts _ q1_109) h_Row_field ⟨Nat.le_of_ble_eq_true rfl, Nat.le_of_ble_eq_true rfl⟩, (hts _ q1_110), (hts _ q1_111)⟩ ⟨kf_bl, va_recv hE.1 hP (ci := 0) (q0 := 1) rfl rfl, kf_to hP hD hS hA hE [1, 2] rfl rfl⟩ rfl rfl hl.1 rfl (lv_room (Nat.le_of_ble_eq_true rfl)) d_Vol_faultOfCounts_102 ⟨Nat.zero_le _, Nat.zero_le _⟩) (fun H locs hP hS => ?_)
              refine W.eq (g2 := F0 m 105 ls [.long (lN (ky_le f 84 4))]) rfl ?_
              refine lv_lstore (lv' := [(4, .long (lN (ky_le f 84 4))), (2, .long (lN (ky_le f 58 2))), (0, .ref h0), (1, .ref h1)]) hx hb d_Vol_faultOfCounts_105 hl (by decide) rfl (fun ls hl => ?_)
              refine lv_lload hx hb d_Vol_faultOfCounts_107 (lv_at hl 0 rfl) ?_
              refine lv_ldc2 (v := 11) hx hb hown (hts _ q1_187) d_Vol_faultOfCounts_109 ?_
              refine kf_lc_lt (tgt := 126) hx hb d_Vol_faultOfCounts_112 d_Vol_faultOfCounts_113 (by decide) (fun c112 => ?_) (fun c112 => ?_)
              · refine lv_bipush (v := 84) hx hb d_Vol_faultOfCounts_126 (by decide) ?_
                exact kf_ir hx hb hr hlocks hP hD hS (by unfold kv_ct; grind) d_Vol_faultOfCounts_128
              · refine lv_lload hx hb d_Vol_faultOfCounts_116 (lv_at hl 0 rfl) ?_
                refine lv_aload_n hx hb d_Vol_faultOfCounts_118 rfl (lv_at hl 2 rfl) ?_
                refine va_get (D := D) (ci := 1) (v := .long fi) (C := "FieldRows$Volume") (T := F_Vol) (N := 12) hx hb hts ku_Vol hown hE.1 hP 0 rfl rfl 0 (by decide) (hts _ q1_31) (fun _ h9 => h9) rfl d_Vol_faultOfCounts_119 ?_
                refine kf_lc_le (tgt := 129) hx hb d_Vol_faultOfCounts_122 d_Vol_faultOfCounts_123 (by decide) (fun c122 => ?_) (fun c122 => ?_)
                · refine lv_aload_n hx hb d_Vol_faultOfCounts_129 rfl (lv_at hl 3 rfl) ?_
                  refine lv_bipush (v := 90) hx hb d_Vol_faultOfCounts_130 (by decide) ?_
                  refine lv_iconst (v := 2) hx hb d_Vol_faultOfCounts_132 (by decide) ?_
                  refine kf_ro hP hD hS hA [1, 2] rfl (va_runV (As := [.int 90, .int 2]) (rest := []) ⟨hx, hb, hml, hown, hts⟩ (c_Row_fieldL l D cB cI _ h1 h2 f 90 2 (by decide) (by decide)) ⟨callB_of 2 hts g_Row_field rfl rfl rfl (hts _ q1_2) (hts _ q1_109) h_Row_field ⟨Nat.le_of_ble_eq_true rfl, Nat.le_of_ble_eq_true rfl⟩, (hts _ q1_110), (hts _ q1_111)⟩ ⟨kf_bl, va_recv hE.1 hP (ci := 0) (q0 := 1) rfl rfl, kf_to hP hD hS hA hE [1, 2] rfl rfl⟩ rfl rfl hl.1 rfl (lv_room (Nat.le_of_ble_eq_true rfl)) d_Vol_faultOfCounts_133 ⟨Nat.zero_le _, Nat.zero_le _⟩) (fun H locs hP hS => ?_)
                  refine W.eq (g2 := F0 m 136 ls [.long (lN (ky_le f 90 2))]) rfl ?_
                  refine lv_lstore (lv' := [(6, .long (lN (ky_le f 90 2))), (4, .long (lN (ky_le f 84 4))), (2, .long (lN (ky_le f 58 2))), (0, .ref h0), (1, .ref h1)]) hx hb d_Vol_faultOfCounts_136 hl (by decide) rfl (fun ls hl => ?_)
                  refine lv_lload hx hb d_Vol_faultOfCounts_138 (lv_at hl 0 rfl) ?_
                  refine lv_aload_n hx hb d_Vol_faultOfCounts_140 rfl (lv_at hl 3 rfl) ?_
                  refine va_get (D := D) (ci := 1) (v := .long gc) (C := "FieldRows$Volume") (T := F_Vol) (N := 12) hx hb hts ku_Vol hown hE.1 hP 0 rfl rfl 9 (by decide) (hts _ q1_44) (fun _ h9 => h9) rfl d_Vol_faultOfCounts_141 ?_
                  refine kf_lc_ge (tgt := 162) hx hb d_Vol_faultOfCounts_144 d_Vol_faultOfCounts_145 (by decide) (fun c144 => ?_) (fun c144 => ?_)
                  · refine lv_bipush (v := 90) hx hb d_Vol_faultOfCounts_162 (by decide) ?_
                    exact kf_ir hx hb hr hlocks hP hD hS (by unfold kv_ct; grind) d_Vol_faultOfCounts_164
                  · refine lv_aload_n hx hb d_Vol_faultOfCounts_148 rfl (lv_at hl 3 rfl) ?_
                    refine lv_lload hx hb d_Vol_faultOfCounts_149 (lv_at hl 0 rfl) ?_
                    refine kf_ro hP hD hS hA [0] rfl (va_runV (As := [.long (lN (ky_le f 90 2))]) (rest := []) ⟨hx, hb, hml, hown, hts⟩ (c_Vol_hasCopy l D cB cI _ h0 fi bl fs sh zz gb gf rb fc gc cb rk (lN (ky_le f 90 2))) ⟨callB_of 1 hts g_Vol_hasCopy rfl rfl rfl (hts _ q1_3) (hts _ q1_176) h_Vol_hasCopy ⟨Nat.le_of_ble_eq_true rfl, Nat.le_of_ble_eq_true rfl⟩, (hts _ q1_177), (hts _ q1_178)⟩ ⟨kf_bl, va_recv hE.1 hP (ci := 1) (q0 := 0) rfl rfl, kf_to hP hD hS hA hE [0] rfl rfl⟩ rfl rfl hl.1 rfl (lv_room (Nat.le_of_ble_eq_true rfl)) d_Vol_faultOfCounts_151 ⟨Nat.zero_le _, Nat.zero_le _⟩) (fun H locs hP hS => ?_)
                    refine W.eq (g2 := F0 m 154 ls [.int (kP (ky_hcP fc (lN (ky_le f 90 2))))]) rfl ?_
                    refine lv_if_eq (tgt := 162) hx hb d_Vol_faultOfCounts_154 (by decide) (fun c154 => ?_) (fun c154 => ?_)
                    · refine lv_bipush (v := 90) hx hb d_Vol_faultOfCounts_162 (by decide) ?_
                      have h154 := by first | exact kP_ne c154 | exact kP_eq c154
                      exact kf_ir hx hb hr hlocks hP hD hS (by unfold kv_ct; grind) d_Vol_faultOfCounts_164
                    · refine lv_bipush (v := -2) hx hb d_Vol_faultOfCounts_157 (by decide) ?_
                      refine lv_goto (tgt := 164) hx hb d_Vol_faultOfCounts_159 (by decide) ?_
                      have h154 := by first | exact kP_ne c154 | exact kP_eq c154
                      exact kf_ir hx hb hr hlocks hP hD hS (by unfold kv_ct; grind) d_Vol_faultOfCounts_164
                · refine lv_bipush (v := 84) hx hb d_Vol_faultOfCounts_126 (by decide) ?_
                  exact kf_ir hx hb hr hlocks hP hD hS (by unfold kv_ct; grind) d_Vol_faultOfCounts_128
            · refine lv_bipush (v := 58) hx hb d_Vol_faultOfCounts_95 (by decide) ?_
              exact kf_ir hx hb hr hlocks hP hD hS (by unfold kv_ct; grind) d_Vol_faultOfCounts_97
        · refine lv_bipush (v := 16) hx hb d_Vol_faultOfCounts_70 (by decide) ?_
          exact kf_ir hx hb hr hlocks hP hD hS (by unfold kv_ct; grind) d_Vol_faultOfCounts_72
      · refine lv_bipush (v := 12) hx hb d_Vol_faultOfCounts_52 (by decide) ?_
        exact kf_ir hx hb hr hlocks hP hD hS (by unfold kv_ct; grind) d_Vol_faultOfCounts_54
    · refine lv_bipush (v := 8) hx hb d_Vol_faultOfCounts_34 (by decide) ?_
      exact kf_ir hx hb hr hlocks hP hD hS (by unfold kv_ct; grind) d_Vol_faultOfCounts_36
  · refine lv_iconst (v := 0) hx hb d_Vol_faultOfCounts_17 (by decide) ?_
    exact kf_ir hx hb hr hlocks hP hD hS (by unfold kv_ct; grind) d_Vol_faultOfCounts_18

set_option maxRecDepth 100000 in
set_option maxHeartbeats 4000000 in
theorem c_Vol_faultOfFeatures (l : Launch) (D : va_G) (cB cI : ClassId) (hz : Nat) (h0 : Nat) (fi : Int64) (bl : Int64) (fs : Int64) (sh : Int64) (zz : Int64) (gb : Int64) (gf : Int64) (rb : Int64) (fc : Int32) (gc : Int64) (cb : Int64) (rk : Int64) (h1 : Nat) (h2 : Nat) (f : Nat → Int32) : kf_Ct l y_Vol_faultOfFeatures w_Vol_faultOfFeatures 2 46 0 0 D (kT cB cI) [.ref h0, .ref h1] [(h0, .inr (1, [.long fi, .long bl, .long fs, .long sh, .long zz, .long gb, .long gf, .long rb, .int fc, .long gc, .long cb, .long rk])), (h1, .inr (0, [.ref h2])), (h2, .inl (cB, 1024, .inl f))] hz (some (.int (kv_ft f))) (kf_po D [(h0, .inr (1, [.long fi, .long bl, .long fs, .long sh, .long zz, .long gb, .long gf, .long rb, .int fc, .long gc, .long cb, .long rk])), (h1, .inr (0, [.ref h2])), (h2, .inl (cB, 1024, .inl f))]) := by
  refine kf_of (cc := b_Vol_faultOfFeatures) (maxL := 5) (ret := (some .int)) (by decide) rfl (Nat.le_of_ble_eq_true rfl) ?_
  intro p e s m below meth c A H locs hx hb hr hml hown hts hlocks hin hP hD hS hA hE ls hl
  have hl : lv_has ls 5 [(0, .ref h0), (1, .ref h1)] := hl
  refine lv_aload_n hx hb d_Vol_faultOfFeatures_0 rfl (lv_at hl 1 rfl) ?_
  refine lv_bipush (v := 96) hx hb d_Vol_faultOfFeatures_1 (by decide) ?_
  refine lv_iconst (v := 4) hx hb d_Vol_faultOfFeatures_3 (by decide) ?_
  refine kf_ro hP hD hS hA [1, 2] rfl (va_runV (As := [.int 96, .int 4]) (rest := []) ⟨hx, hb, hml, hown, hts⟩ (c_Row_fieldL l D cB cI _ h1 h2 f 96 4 (by decide) (by decide)) ⟨callB_of 2 hts g_Row_field rfl rfl rfl (hts _ q1_2) (hts _ q1_109) h_Row_field ⟨Nat.le_of_ble_eq_true rfl, Nat.le_of_ble_eq_true rfl⟩, (hts _ q1_110), (hts _ q1_111)⟩ ⟨kf_bl, va_recv hE.1 hP (ci := 0) (q0 := 1) rfl rfl, kf_to hP hD hS hA hE [1, 2] rfl rfl⟩ rfl rfl hl.1 rfl (lv_room (Nat.le_of_ble_eq_true rfl)) d_Vol_faultOfFeatures_4 ⟨Nat.zero_le _, Nat.zero_le _⟩) (fun H locs hP hS => ?_)
  refine W.eq (g2 := F0 m 7 ls [.long (lN (ky_le f 96 4))]) rfl ?_
  refine lv_lstore_n (lv' := [(2, .long (lN (ky_le f 96 4))), (0, .ref h0), (1, .ref h1)]) hx hb d_Vol_faultOfFeatures_7 rfl hl (by decide) rfl (fun ls hl => ?_)
  refine lv_iconst (v := 0) hx hb d_Vol_faultOfFeatures_8 (by decide) ?_
  refine lv_aload_n hx hb d_Vol_faultOfFeatures_9 rfl (lv_at hl 2 rfl) ?_
  refine lv_bipush (v := 92) hx hb d_Vol_faultOfFeatures_10 (by decide) ?_
  refine lv_iconst (v := 4) hx hb d_Vol_faultOfFeatures_12 (by decide) ?_
  refine kf_ro hP hD hS hA [1, 2] rfl (va_runV (As := [.int 92, .int 4]) (rest := [.int 0]) ⟨hx, hb, hml, hown, hts⟩ (c_Row_fieldL l D cB cI _ h1 h2 f 92 4 (by decide) (by decide)) ⟨callB_of 2 hts g_Row_field rfl rfl rfl (hts _ q1_2) (hts _ q1_109) h_Row_field ⟨Nat.le_of_ble_eq_true rfl, Nat.le_of_ble_eq_true rfl⟩, (hts _ q1_110), (hts _ q1_111)⟩ ⟨kf_bl, va_recv hE.1 hP (ci := 0) (q0 := 1) rfl rfl, kf_to hP hD hS hA hE [1, 2] rfl rfl⟩ rfl rfl hl.1 rfl (lv_room (Nat.le_of_ble_eq_true rfl)) d_Vol_faultOfFeatures_13 ⟨Nat.zero_le _, Nat.zero_le _⟩) (fun H locs hP hS => ?_)
  refine W.eq (g2 := F0 m 16 ls [.long (lN (ky_le f 92 4)), .int 0]) rfl ?_
  refine lv_ldc2 (v := 36) hx hb hown (hts _ q1_192) d_Vol_faultOfFeatures_16 ?_
  refine kf_ro hP hD hS hA [] rfl (va_runS (As := [.int 0, .long (lN (ky_le f 92 4)), .long 36]) (rest := []) ⟨hx, hb, hml, hown, hts⟩ (c_Vol_unlistedFault l D cB cI _ 0 (lN (ky_le f 92 4)) 36) ⟨callB_of 3 hts g_Vol_unlistedFault rfl rfl rfl (hts _ q1_3) (hts _ q1_193) h_Vol_unlistedFault ⟨Nat.le_of_ble_eq_true rfl, Nat.le_of_ble_eq_true rfl⟩, (hts _ q1_194)⟩ ⟨kf_bl, kf_to hP hD hS hA hE [] rfl rfl⟩ rfl rfl hl.1 rfl (lv_room (Nat.le_of_ble_eq_true rfl)) d_Vol_faultOfFeatures_19 ⟨Nat.zero_le _, Nat.zero_le _⟩) (fun H locs hP hS => ?_)
  refine W.eq (g2 := F0 m 22 ls [.int (kv_unl 0 (lN (ky_le f 92 4)) 36 32)]) rfl ?_
  refine lv_istore (lv' := [(4, .int (kv_unl 0 (lN (ky_le f 92 4)) 36 32)), (2, .long (lN (ky_le f 96 4))), (0, .ref h0), (1, .ref h1)]) hx hb d_Vol_faultOfFeatures_22 hl (by decide) rfl (fun ls hl => ?_)
  refine lv_iload hx hb d_Vol_faultOfFeatures_24 (lv_at hl 0 rfl) ?_
  refine lv_bipush (v := -2) hx hb d_Vol_faultOfFeatures_26 (by decide) ?_
  refine lv_icmp_ne (tgt := 41) hx hb d_Vol_faultOfFeatures_28 (by decide) (fun c28 => ?_) (fun c28 => ?_)
  · refine lv_iload hx hb d_Vol_faultOfFeatures_41 (lv_at hl 0 rfl) ?_
    refine lv_bipush (v := -2) hx hb d_Vol_faultOfFeatures_43 (by decide) ?_
    refine lv_icmp_ne (tgt := 64) hx hb d_Vol_faultOfFeatures_45 (by decide) (fun c45 => ?_) (fun c45 => absurd c45 c28)
    refine lv_iload hx hb d_Vol_faultOfFeatures_64 (lv_at hl 0 rfl) ?_
    refine lv_bipush (v := -2) hx hb d_Vol_faultOfFeatures_66 (by decide) ?_
    refine lv_icmp_ne (tgt := 88) hx hb d_Vol_faultOfFeatures_68 (by decide) (fun c68 => ?_) (fun c68 => absurd c68 c28)
    refine lv_iload hx hb d_Vol_faultOfFeatures_88 (lv_at hl 0 rfl) ?_
    exact kf_ir hx hb hr hlocks hP hD hS (by unfold kv_ft; grind) d_Vol_faultOfFeatures_90
  · refine lv_iconst (v := 1) hx hb d_Vol_faultOfFeatures_31 (by decide) ?_
    refine lv_lload_n hx hb d_Vol_faultOfFeatures_32 rfl (lv_at hl 1 rfl) ?_
    refine lv_ldc2 (v := 70) hx hb hown (hts _ q1_197) d_Vol_faultOfFeatures_33 ?_
    refine kf_ro hP hD hS hA [] rfl (va_runS (As := [.int 1, .long (lN (ky_le f 96 4)), .long 70]) (rest := []) ⟨hx, hb, hml, hown, hts⟩ (c_Vol_unlistedFault l D cB cI _ 1 (lN (ky_le f 96 4)) 70) ⟨callB_of 3 hts g_Vol_unlistedFault rfl rfl rfl (hts _ q1_3) (hts _ q1_193) h_Vol_unlistedFault ⟨Nat.le_of_ble_eq_true rfl, Nat.le_of_ble_eq_true rfl⟩, (hts _ q1_194)⟩ ⟨kf_bl, kf_to hP hD hS hA hE [] rfl rfl⟩ rfl rfl hl.1 rfl (lv_room (Nat.le_of_ble_eq_true rfl)) d_Vol_faultOfFeatures_36 ⟨Nat.zero_le _, Nat.zero_le _⟩) (fun H locs hP hS => ?_)
    refine W.eq (g2 := F0 m 39 ls [.int (kv_unl 1 (lN (ky_le f 96 4)) 70 32)]) rfl ?_
    refine lv_istore (lv' := [(4, .int (kv_unl 1 (lN (ky_le f 96 4)) 70 32)), (2, .long (lN (ky_le f 96 4))), (0, .ref h0), (1, .ref h1)]) hx hb d_Vol_faultOfFeatures_39 hl (by decide) rfl (fun ls hl => ?_)
    refine lv_iload hx hb d_Vol_faultOfFeatures_41 (lv_at hl 0 rfl) ?_
    refine lv_bipush (v := -2) hx hb d_Vol_faultOfFeatures_43 (by decide) ?_
    refine lv_icmp_ne (tgt := 64) hx hb d_Vol_faultOfFeatures_45 (by decide) (fun c45 => ?_) (fun c45 => ?_)
    · refine lv_iload hx hb d_Vol_faultOfFeatures_64 (lv_at hl 0 rfl) ?_
      refine lv_bipush (v := -2) hx hb d_Vol_faultOfFeatures_66 (by decide) ?_
      refine lv_icmp_ne (tgt := 88) hx hb d_Vol_faultOfFeatures_68 (by decide) (fun c68 => ?_) (fun c68 => absurd c68 c45)
      refine lv_iload hx hb d_Vol_faultOfFeatures_88 (lv_at hl 0 rfl) ?_
      exact kf_ir hx hb hr hlocks hP hD hS (by unfold kv_ft; grind) d_Vol_faultOfFeatures_90
    · refine lv_lload_n hx hb d_Vol_faultOfFeatures_48 rfl (lv_at hl 1 rfl) ?_
      refine lv_ldc2 (v := 66) hx hb hown (hts _ q1_198) d_Vol_faultOfFeatures_49 ?_
      refine lv_land hx hb d_Vol_faultOfFeatures_52 ?_
      refine lv_ldc2 (v := 66) hx hb hown (hts _ q1_198) d_Vol_faultOfFeatures_53 ?_
      refine kf_lc_eq (tgt := 64) hx hb d_Vol_faultOfFeatures_56 d_Vol_faultOfFeatures_57 (by decide) (fun c56 => ?_) (fun c56 => ?_)
      · refine lv_iload hx hb d_Vol_faultOfFeatures_64 (lv_at hl 0 rfl) ?_
        refine lv_bipush (v := -2) hx hb d_Vol_faultOfFeatures_66 (by decide) ?_
        refine lv_icmp_ne (tgt := 88) hx hb d_Vol_faultOfFeatures_68 (by decide) (fun c68 => absurd c45 c68) (fun c68 => ?_)
        refine lv_iconst (v := 2) hx hb d_Vol_faultOfFeatures_71 (by decide) ?_
        refine lv_aload_n hx hb d_Vol_faultOfFeatures_72 rfl (lv_at hl 3 rfl) ?_
        refine lv_bipush (v := 100) hx hb d_Vol_faultOfFeatures_73 (by decide) ?_
        refine lv_iconst (v := 4) hx hb d_Vol_faultOfFeatures_75 (by decide) ?_
        refine kf_ro hP hD hS hA [1, 2] rfl (va_runV (As := [.int 100, .int 4]) (rest := [.int 2]) ⟨hx, hb, hml, hown, hts⟩ (c_Row_fieldL l D cB cI _ h1 h2 f 100 4 (by decide) (by decide)) ⟨callB_of 2 hts g_Row_field rfl rfl rfl (hts _ q1_2) (hts _ q1_109) h_Row_field ⟨Nat.le_of_ble_eq_true rfl, Nat.le_of_ble_eq_true rfl⟩, (hts _ q1_110), (hts _ q1_111)⟩ ⟨kf_bl, va_recv hE.1 hP (ci := 0) (q0 := 1) rfl rfl, kf_to hP hD hS hA hE [1, 2] rfl rfl⟩ rfl rfl hl.1 rfl (lv_room (Nat.le_of_ble_eq_true rfl)) d_Vol_faultOfFeatures_76 ⟨Nat.zero_le _, Nat.zero_le _⟩) (fun H locs hP hS => ?_)
        refine W.eq (g2 := F0 m 79 ls [.long (lN (ky_le f 100 4)), .int 2]) rfl ?_
        refine lv_ldc2 (v := 3) hx hb hown (hts _ q1_186) d_Vol_faultOfFeatures_79 ?_
        refine kf_ro hP hD hS hA [] rfl (va_runS (As := [.int 2, .long (lN (ky_le f 100 4)), .long 3]) (rest := []) ⟨hx, hb, hml, hown, hts⟩ (c_Vol_unlistedFault l D cB cI _ 2 (lN (ky_le f 100 4)) 3) ⟨callB_of 3 hts g_Vol_unlistedFault rfl rfl rfl (hts _ q1_3) (hts _ q1_193) h_Vol_unlistedFault ⟨Nat.le_of_ble_eq_true rfl, Nat.le_of_ble_eq_true rfl⟩, (hts _ q1_194)⟩ ⟨kf_bl, kf_to hP hD hS hA hE [] rfl rfl⟩ rfl rfl hl.1 rfl (lv_room (Nat.le_of_ble_eq_true rfl)) d_Vol_faultOfFeatures_82 ⟨Nat.zero_le _, Nat.zero_le _⟩) (fun H locs hP hS => ?_)
        refine W.eq (g2 := F0 m 85 ls [.int (kv_unl 2 (lN (ky_le f 100 4)) 3 32)]) rfl ?_
        refine lv_goto (tgt := 90) hx hb d_Vol_faultOfFeatures_85 (by decide) ?_
        exact kf_ir hx hb hr hlocks hP hD hS (by unfold kv_ft; grind) d_Vol_faultOfFeatures_90
      · refine lv_bipush (v := 96) hx hb d_Vol_faultOfFeatures_60 (by decide) ?_
        refine lv_istore (lv' := [(4, .int 96), (2, .long (lN (ky_le f 96 4))), (0, .ref h0), (1, .ref h1)]) hx hb d_Vol_faultOfFeatures_62 hl (by decide) rfl (fun ls hl => ?_)
        refine lv_iload hx hb d_Vol_faultOfFeatures_64 (lv_at hl 0 rfl) ?_
        refine lv_bipush (v := -2) hx hb d_Vol_faultOfFeatures_66 (by decide) ?_
        refine lv_icmp_ne (tgt := 88) hx hb d_Vol_faultOfFeatures_68 (by decide) (fun c68 => ?_) (fun c68 => absurd c68 (by decide))
        refine lv_iload hx hb d_Vol_faultOfFeatures_88 (lv_at hl 0 rfl) ?_
        exact kf_ir hx hb hr hlocks hP hD hS (by unfold kv_ft; grind) d_Vol_faultOfFeatures_90

set_option maxRecDepth 100000 in
set_option maxHeartbeats 4000000 in
theorem c_Vol_faultOfRest (l : Launch) (D : va_G) (cB cI : ClassId) (hz : Nat) (h0 : Nat) (fi : Int64) (bl : Int64) (fs : Int64) (sh : Int64) (zz : Int64) (gb : Int64) (gf : Int64) (rb : Int64) (fc : Int32) (gc : Int64) (cb : Int64) (rk : Int64) (h1 : Nat) (h2 : Nat) (f : Nat → Int32) : kf_Ct l y_Vol_faultOfRest w_Vol_faultOfRest 2 46 0 0 D (kT cB cI) [.ref h0, .ref h1] [(h0, .inr (1, [.long fi, .long bl, .long fs, .long sh, .long zz, .long gb, .long gf, .long rb, .int fc, .long gc, .long cb, .long rk])), (h1, .inr (0, [.ref h2])), (h2, .inl (cB, 1024, .inl f))] hz (some (.int (kv_re f fi))) (kf_po D [(h0, .inr (1, [.long fi, .long bl, .long fs, .long sh, .long zz, .long gb, .long gf, .long rb, .int fc, .long gc, .long cb, .long rk])), (h1, .inr (0, [.ref h2])), (h2, .inl (cB, 1024, .inl f))]) := by
  refine kf_of (cc := b_Vol_faultOfRest) (maxL := 8) (ret := (some .int)) (by decide) rfl (Nat.le_of_ble_eq_true rfl) ?_
  intro p e s m below meth c A H locs hx hb hr hml hown hts hlocks hin hP hD hS hA hE ls hl
  have hl : lv_has ls 8 [(0, .ref h0), (1, .ref h1)] := hl
  refine lv_aload_n hx hb d_Vol_faultOfRest_0 rfl (lv_at hl 1 rfl) ?_
  refine lv_bipush (v := 92) hx hb d_Vol_faultOfRest_1 (by decide) ?_
  refine lv_iconst (v := 4) hx hb d_Vol_faultOfRest_3 (by decide) ?_
  refine kf_ro hP hD hS hA [1, 2] rfl (va_runV (As := [.int 92, .int 4]) (rest := []) ⟨hx, hb, hml, hown, hts⟩ (c_Row_fieldL l D cB cI _ h1 h2 f 92 4 (by decide) (by decide)) ⟨callB_of 2 hts g_Row_field rfl rfl rfl (hts _ q1_2) (hts _ q1_109) h_Row_field ⟨Nat.le_of_ble_eq_true rfl, Nat.le_of_ble_eq_true rfl⟩, (hts _ q1_110), (hts _ q1_111)⟩ ⟨kf_bl, va_recv hE.1 hP (ci := 0) (q0 := 1) rfl rfl, kf_to hP hD hS hA hE [1, 2] rfl rfl⟩ rfl rfl hl.1 rfl (lv_room (Nat.le_of_ble_eq_true rfl)) d_Vol_faultOfRest_4 ⟨Nat.zero_le _, Nat.zero_le _⟩) (fun H locs hP hS => ?_)
  refine W.eq (g2 := F0 m 7 ls [.long (lN (ky_le f 92 4))]) rfl ?_
  refine lv_lstore_n (lv' := [(2, .long (lN (ky_le f 92 4))), (0, .ref h0), (1, .ref h1)]) hx hb d_Vol_faultOfRest_7 rfl hl (by decide) rfl (fun ls hl => ?_)
  refine lv_lload_n hx hb d_Vol_faultOfRest_8 rfl (lv_at hl 0 rfl) ?_
  refine lv_ldc2 (v := 4) hx hb hown (hts _ q1_203) d_Vol_faultOfRest_9 ?_
  refine lv_land hx hb d_Vol_faultOfRest_12 ?_
  refine lv_lconst (v := 0) hx hb d_Vol_faultOfRest_13 (by decide) ?_
  refine kf_lc_eq (tgt := 24) hx hb d_Vol_faultOfRest_14 d_Vol_faultOfRest_15 (by decide) (fun c14 => ?_) (fun c14 => ?_)
  · refine lv_lconst (v := 0) hx hb d_Vol_faultOfRest_24 (by decide) ?_
    refine lv_lstore (lv' := [(4, .long 0), (2, .long (lN (ky_le f 92 4))), (0, .ref h0), (1, .ref h1)]) hx hb d_Vol_faultOfRest_25 hl (by decide) rfl (fun ls hl => ?_)
    refine lv_lload_n hx hb d_Vol_faultOfRest_27 rfl (lv_at hl 1 rfl) ?_
    refine lv_ldc2 (v := 32) hx hb hown (hts _ q1_121) d_Vol_faultOfRest_28 ?_
    refine lv_land hx hb d_Vol_faultOfRest_31 ?_
    refine lv_lconst (v := 0) hx hb d_Vol_faultOfRest_32 (by decide) ?_
    refine kf_lc_eq (tgt := 41) hx hb d_Vol_faultOfRest_33 d_Vol_faultOfRest_34 (by decide) (fun c33 => ?_) (fun c33 => ?_)
    · refine lv_lconst (v := 0) hx hb d_Vol_faultOfRest_41 (by decide) ?_
      refine lv_lstore (lv' := [(6, .long 0), (4, .long 0), (2, .long (lN (ky_le f 92 4))), (0, .ref h0), (1, .ref h1)]) hx hb d_Vol_faultOfRest_42 hl (by decide) rfl (fun ls hl => ?_)
      refine lv_aload_n hx hb d_Vol_faultOfRest_44 rfl (lv_at hl 4 rfl) ?_
      refine lv_sipush (v := 224) hx hb d_Vol_faultOfRest_45 (by decide) ?_
      refine lv_iconst (v := 4) hx hb d_Vol_faultOfRest_48 (by decide) ?_
      refine kf_ro hP hD hS hA [1, 2] rfl (va_runV (As := [.int 224, .int 4]) (rest := []) ⟨hx, hb, hml, hown, hts⟩ (c_Row_fieldL l D cB cI _ h1 h2 f 224 4 (by decide) (by decide)) ⟨callB_of 2 hts g_Row_field rfl rfl rfl (hts _ q1_2) (hts _ q1_109) h_Row_field ⟨Nat.le_of_ble_eq_true rfl, Nat.le_of_ble_eq_true rfl⟩, (hts _ q1_110), (hts _ q1_111)⟩ ⟨kf_bl, va_recv hE.1 hP (ci := 0) (q0 := 1) rfl rfl, kf_to hP hD hS hA hE [1, 2] rfl rfl⟩ rfl rfl hl.1 rfl (lv_room (Nat.le_of_ble_eq_true rfl)) d_Vol_faultOfRest_49 ⟨Nat.zero_le _, Nat.zero_le _⟩) (fun H locs hP hS => ?_)
      refine W.eq (g2 := F0 m 52 ls [.long (lN (ky_le f 224 4))]) rfl ?_
      refine lv_lload hx hb d_Vol_faultOfRest_52 (lv_at hl 1 rfl) ?_
      refine kf_lc_eq (tgt := 62) hx hb d_Vol_faultOfRest_54 d_Vol_faultOfRest_55 (by decide) (fun c54 => ?_) (fun c54 => ?_)
      · refine lv_aload_n hx hb d_Vol_faultOfRest_62 rfl (lv_at hl 4 rfl) ?_
        refine lv_sipush (v := 232) hx hb d_Vol_faultOfRest_63 (by decide) ?_
        refine lv_iconst (v := 4) hx hb d_Vol_faultOfRest_66 (by decide) ?_
        refine kf_ro hP hD hS hA [1, 2] rfl (va_runV (As := [.int 232, .int 4]) (rest := []) ⟨hx, hb, hml, hown, hts⟩ (c_Row_fieldL l D cB cI _ h1 h2 f 232 4 (by decide) (by decide)) ⟨callB_of 2 hts g_Row_field rfl rfl rfl (hts _ q1_2) (hts _ q1_109) h_Row_field ⟨Nat.le_of_ble_eq_true rfl, Nat.le_of_ble_eq_true rfl⟩, (hts _ q1_110), (hts _ q1_111)⟩ ⟨kf_bl, va_recv hE.1 hP (ci := 0) (q0 := 1) rfl rfl, kf_to hP hD hS hA hE [1, 2] rfl rfl⟩ rfl rfl hl.1 rfl (lv_room (Nat.le_of_ble_eq_true rfl)) d_Vol_faultOfRest_67 ⟨Nat.zero_le _, Nat.zero_le _⟩) (fun H locs hP hS => ?_)
        refine W.eq (g2 := F0 m 70 ls [.long (lN (ky_le f 232 4))]) rfl ?_
        refine lv_aload_n hx hb d_Vol_faultOfRest_70 rfl (lv_at hl 3 rfl) ?_
        refine va_get (D := D) (ci := 1) (v := .long fi) (C := "FieldRows$Volume") (T := F_Vol) (N := 12) hx hb hts ku_Vol hown hE.1 hP 0 rfl rfl 0 (by decide) (hts _ q1_31) (fun _ h9 => h9) rfl d_Vol_faultOfRest_71 ?_
        refine kf_lc_le (tgt := 82) hx hb d_Vol_faultOfRest_74 d_Vol_faultOfRest_75 (by decide) (fun c74 => ?_) (fun c74 => ?_)
        · refine lv_aload_n hx hb d_Vol_faultOfRest_82 rfl (lv_at hl 4 rfl) ?_
          refine lv_sipush (v := 252) hx hb d_Vol_faultOfRest_83 (by decide) ?_
          refine lv_iconst (v := 1) hx hb d_Vol_faultOfRest_86 (by decide) ?_
          refine kf_ro hP hD hS hA [1, 2] rfl (va_runV (As := [.int 252, .int 1]) (rest := []) ⟨hx, hb, hml, hown, hts⟩ (c_Row_fieldL l D cB cI _ h1 h2 f 252 1 (by decide) (by decide)) ⟨callB_of 2 hts g_Row_field rfl rfl rfl (hts _ q1_2) (hts _ q1_109) h_Row_field ⟨Nat.le_of_ble_eq_true rfl, Nat.le_of_ble_eq_true rfl⟩, (hts _ q1_110), (hts _ q1_111)⟩ ⟨kf_bl, va_recv hE.1 hP (ci := 0) (q0 := 1) rfl rfl, kf_to hP hD hS hA hE [1, 2] rfl rfl⟩ rfl rfl hl.1 rfl (lv_room (Nat.le_of_ble_eq_true rfl)) d_Vol_faultOfRest_87 ⟨Nat.zero_le _, Nat.zero_le _⟩) (fun H locs hP hS => ?_)
          refine W.eq (g2 := F0 m 90 ls [.long (lN (ky_le f 252 1))]) rfl ?_
          refine lv_lload hx hb d_Vol_faultOfRest_90 (lv_at hl 0 rfl) ?_
          refine kf_lc_eq (tgt := 100) hx hb d_Vol_faultOfRest_92 d_Vol_faultOfRest_93 (by decide) (fun c92 => ?_) (fun c92 => ?_)
          · refine lv_aload_n hx hb d_Vol_faultOfRest_100 rfl (lv_at hl 4 rfl) ?_
            refine lv_sipush (v := 254) hx hb d_Vol_faultOfRest_101 (by decide) ?_
            refine lv_iconst (v := 2) hx hb d_Vol_faultOfRest_104 (by decide) ?_
            refine kf_ro hP hD hS hA [1, 2] rfl (va_runV (As := [.int 254, .int 2]) (rest := []) ⟨hx, hb, hml, hown, hts⟩ (c_Row_fieldL l D cB cI _ h1 h2 f 254 2 (by decide) (by decide)) ⟨callB_of 2 hts g_Row_field rfl rfl rfl (hts _ q1_2) (hts _ q1_109) h_Row_field ⟨Nat.le_of_ble_eq_true rfl, Nat.le_of_ble_eq_true rfl⟩, (hts _ q1_110), (hts _ q1_111)⟩ ⟨kf_bl, va_recv hE.1 hP (ci := 0) (q0 := 1) rfl rfl, kf_to hP hD hS hA hE [1, 2] rfl rfl⟩ rfl rfl hl.1 rfl (lv_room (Nat.le_of_ble_eq_true rfl)) d_Vol_faultOfRest_105 ⟨Nat.zero_le _, Nat.zero_le _⟩) (fun H locs hP hS => ?_)
            refine W.eq (g2 := F0 m 108 ls [.long (lN (ky_le f 254 2))]) rfl ?_
            refine lv_lconst (v := 0) hx hb d_Vol_faultOfRest_108 (by decide) ?_
            refine kf_lc_ne (tgt := 118) hx hb d_Vol_faultOfRest_109 d_Vol_faultOfRest_110 (by decide) (fun c109 => ?_) (fun c109 => ?_)
            · refine lv_sipush (v := 254) hx hb d_Vol_faultOfRest_118 (by decide) ?_
              exact kf_ir hx hb hr hlocks hP hD hS (by unfold kv_re; grind) d_Vol_faultOfRest_121
            · refine lv_bipush (v := -2) hx hb d_Vol_faultOfRest_113 (by decide) ?_
              refine lv_goto (tgt := 121) hx hb d_Vol_faultOfRest_115 (by decide) ?_
              exact kf_ir hx hb hr hlocks hP hD hS (by unfold kv_re; grind) d_Vol_faultOfRest_121
          · refine lv_sipush (v := 252) hx hb d_Vol_faultOfRest_96 (by decide) ?_
            exact kf_ir hx hb hr hlocks hP hD hS (by unfold kv_re; grind) d_Vol_faultOfRest_99
        · refine lv_sipush (v := 232) hx hb d_Vol_faultOfRest_78 (by decide) ?_
          exact kf_ir hx hb hr hlocks hP hD hS (by unfold kv_re; grind) d_Vol_faultOfRest_81
      · refine lv_sipush (v := 224) hx hb d_Vol_faultOfRest_58 (by decide) ?_
        exact kf_ir hx hb hr hlocks hP hD hS (by unfold kv_re; grind) d_Vol_faultOfRest_61
    · refine lv_lconst (v := 1) hx hb d_Vol_faultOfRest_37 (by decide) ?_
      refine lv_goto (tgt := 42) hx hb d_Vol_faultOfRest_38 (by decide) ?_
      refine lv_lstore (lv' := [(6, .long 1), (4, .long 0), (2, .long (lN (ky_le f 92 4))), (0, .ref h0), (1, .ref h1)]) hx hb d_Vol_faultOfRest_42 hl (by decide) rfl (fun ls hl => ?_)
      refine lv_aload_n hx hb d_Vol_faultOfRest_44 rfl (lv_at hl 4 rfl) ?_
      refine lv_sipush (v := 224) hx hb d_Vol_faultOfRest_45 (by decide) ?_
      refine lv_iconst (v := 4) hx hb d_Vol_faultOfRest_48 (by decide) ?_
      refine kf_ro hP hD hS hA [1, 2] rfl (va_runV (As := [.int 224, .int 4]) (rest := []) ⟨hx, hb, hml, hown, hts⟩ (c_Row_fieldL l D cB cI _ h1 h2 f 224 4 (by decide) (by decide)) ⟨callB_of 2 hts g_Row_field rfl rfl rfl (hts _ q1_2) (hts _ q1_109) h_Row_field ⟨Nat.le_of_ble_eq_true rfl, Nat.le_of_ble_eq_true rfl⟩, (hts _ q1_110), (hts _ q1_111)⟩ ⟨kf_bl, va_recv hE.1 hP (ci := 0) (q0 := 1) rfl rfl, kf_to hP hD hS hA hE [1, 2] rfl rfl⟩ rfl rfl hl.1 rfl (lv_room (Nat.le_of_ble_eq_true rfl)) d_Vol_faultOfRest_49 ⟨Nat.zero_le _, Nat.zero_le _⟩) (fun H locs hP hS => ?_)
      refine W.eq (g2 := F0 m 52 ls [.long (lN (ky_le f 224 4))]) rfl ?_
      refine lv_lload hx hb d_Vol_faultOfRest_52 (lv_at hl 1 rfl) ?_
      refine kf_lc_eq (tgt := 62) hx hb d_Vol_faultOfRest_54 d_Vol_faultOfRest_55 (by decide) (fun c54 => ?_) (fun c54 => ?_)
      · refine lv_aload_n hx hb d_Vol_faultOfRest_62 rfl (lv_at hl 4 rfl) ?_
        refine lv_sipush (v := 232) hx hb d_Vol_faultOfRest_63 (by decide) ?_
        refine lv_iconst (v := 4) hx hb d_Vol_faultOfRest_66 (by decide) ?_
        refine kf_ro hP hD hS hA [1, 2] rfl (va_runV (As := [.int 232, .int 4]) (rest := []) ⟨hx, hb, hml, hown, hts⟩ (c_Row_fieldL l D cB cI _ h1 h2 f 232 4 (by decide) (by decide)) ⟨callB_of 2 hts g_Row_field rfl rfl rfl (hts _ q1_2) (hts _ q1_109) h_Row_field ⟨Nat.le_of_ble_eq_true rfl, Nat.le_of_ble_eq_true rfl⟩, (hts _ q1_110), (hts _ q1_111)⟩ ⟨kf_bl, va_recv hE.1 hP (ci := 0) (q0 := 1) rfl rfl, kf_to hP hD hS hA hE [1, 2] rfl rfl⟩ rfl rfl hl.1 rfl (lv_room (Nat.le_of_ble_eq_true rfl)) d_Vol_faultOfRest_67 ⟨Nat.zero_le _, Nat.zero_le _⟩) (fun H locs hP hS => ?_)
        refine W.eq (g2 := F0 m 70 ls [.long (lN (ky_le f 232 4))]) rfl ?_
        refine lv_aload_n hx hb d_Vol_faultOfRest_70 rfl (lv_at hl 3 rfl) ?_
        refine va_get (D := D) (ci := 1) (v := .long fi) (C := "FieldRows$Volume") (T := F_Vol) (N := 12) hx hb hts ku_Vol hown hE.1 hP 0 rfl rfl 0 (by decide) (hts _ q1_31) (fun _ h9 => h9) rfl d_Vol_faultOfRest_71 ?_
        refine kf_lc_le (tgt := 82) hx hb d_Vol_faultOfRest_74 d_Vol_faultOfRest_75 (by decide) (fun c74 => ?_) (fun c74 => ?_)
        · refine lv_aload_n hx hb d_Vol_faultOfRest_82 rfl (lv_at hl 4 rfl) ?_
          refine lv_sipush (v := 252) hx hb d_Vol_faultOfRest_83 (by decide) ?_
          refine lv_iconst (v := 1) hx hb d_Vol_faultOfRest_86 (by decide) ?_
          refine kf_ro hP hD hS hA [1, 2] rfl (va_runV (As := [.int 252, .int 1]) (rest := []) ⟨hx, hb, hml, hown, hts⟩ (c_Row_fieldL l D cB cI _ h1 h2 f 252 1 (by decide) (by decide)) ⟨callB_of 2 hts g_Row_field rfl rfl rfl (hts _ q1_2) (hts _ q1_109) h_Row_field ⟨Nat.le_of_ble_eq_true rfl, Nat.le_of_ble_eq_true rfl⟩, (hts _ q1_110), (hts _ q1_111)⟩ ⟨kf_bl, va_recv hE.1 hP (ci := 0) (q0 := 1) rfl rfl, kf_to hP hD hS hA hE [1, 2] rfl rfl⟩ rfl rfl hl.1 rfl (lv_room (Nat.le_of_ble_eq_true rfl)) d_Vol_faultOfRest_87 ⟨Nat.zero_le _, Nat.zero_le _⟩) (fun H locs hP hS => ?_)
          refine W.eq (g2 := F0 m 90 ls [.long (lN (ky_le f 252 1))]) rfl ?_
          refine lv_lload hx hb d_Vol_faultOfRest_90 (lv_at hl 0 rfl) ?_
          refine kf_lc_eq (tgt := 100) hx hb d_Vol_faultOfRest_92 d_Vol_faultOfRest_93 (by decide) (fun c92 => ?_) (fun c92 => ?_)
          · refine lv_aload_n hx hb d_Vol_faultOfRest_100 rfl (lv_at hl 4 rfl) ?_
            refine lv_sipush (v := 254) hx hb d_Vol_faultOfRest_101 (by decide) ?_
            refine lv_iconst (v := 2) hx hb d_Vol_faultOfRest_104 (by decide) ?_
            refine kf_ro hP hD hS hA [1, 2] rfl (va_runV (As := [.int 254, .int 2]) (rest := []) ⟨hx, hb, hml, hown, hts⟩ (c_Row_fieldL l D cB cI _ h1 h2 f 254 2 (by decide) (by decide)) ⟨callB_of 2 hts g_Row_field rfl rfl rfl (hts _ q1_2) (hts _ q1_109) h_Row_field ⟨Nat.le_of_ble_eq_true rfl, Nat.le_of_ble_eq_true rfl⟩, (hts _ q1_110), (hts _ q1_111)⟩ ⟨kf_bl, va_recv hE.1 hP (ci := 0) (q0 := 1) rfl rfl, kf_to hP hD hS hA hE [1, 2] rfl rfl⟩ rfl rfl hl.1 rfl (lv_room (Nat.le_of_ble_eq_true rfl)) d_Vol_faultOfRest_105 ⟨Nat.zero_le _, Nat.zero_le _⟩) (fun H locs hP hS => ?_)
            refine W.eq (g2 := F0 m 108 ls [.long (lN (ky_le f 254 2))]) rfl ?_
            refine lv_lconst (v := 0) hx hb d_Vol_faultOfRest_108 (by decide) ?_
            refine kf_lc_ne (tgt := 118) hx hb d_Vol_faultOfRest_109 d_Vol_faultOfRest_110 (by decide) (fun c109 => ?_) (fun c109 => ?_)
            · refine lv_sipush (v := 254) hx hb d_Vol_faultOfRest_118 (by decide) ?_
              exact kf_ir hx hb hr hlocks hP hD hS (by unfold kv_re; grind) d_Vol_faultOfRest_121
            · refine lv_bipush (v := -2) hx hb d_Vol_faultOfRest_113 (by decide) ?_
              refine lv_goto (tgt := 121) hx hb d_Vol_faultOfRest_115 (by decide) ?_
              exact kf_ir hx hb hr hlocks hP hD hS (by unfold kv_re; grind) d_Vol_faultOfRest_121
          · refine lv_sipush (v := 252) hx hb d_Vol_faultOfRest_96 (by decide) ?_
            exact kf_ir hx hb hr hlocks hP hD hS (by unfold kv_re; grind) d_Vol_faultOfRest_99
        · refine lv_sipush (v := 232) hx hb d_Vol_faultOfRest_78 (by decide) ?_
          exact kf_ir hx hb hr hlocks hP hD hS (by unfold kv_re; grind) d_Vol_faultOfRest_81
      · refine lv_sipush (v := 224) hx hb d_Vol_faultOfRest_58 (by decide) ?_
        exact kf_ir hx hb hr hlocks hP hD hS (by unfold kv_re; grind) d_Vol_faultOfRest_61
  · refine lv_ldc2 (v := 8) hx hb hown (hts _ q1_138) d_Vol_faultOfRest_18 ?_
    refine lv_goto (tgt := 25) hx hb d_Vol_faultOfRest_21 (by decide) ?_
    refine lv_lstore (lv' := [(4, .long 8), (2, .long (lN (ky_le f 92 4))), (0, .ref h0), (1, .ref h1)]) hx hb d_Vol_faultOfRest_25 hl (by decide) rfl (fun ls hl => ?_)
    refine lv_lload_n hx hb d_Vol_faultOfRest_27 rfl (lv_at hl 1 rfl) ?_
    refine lv_ldc2 (v := 32) hx hb hown (hts _ q1_121) d_Vol_faultOfRest_28 ?_
    refine lv_land hx hb d_Vol_faultOfRest_31 ?_
    refine lv_lconst (v := 0) hx hb d_Vol_faultOfRest_32 (by decide) ?_
    refine kf_lc_eq (tgt := 41) hx hb d_Vol_faultOfRest_33 d_Vol_faultOfRest_34 (by decide) (fun c33 => ?_) (fun c33 => ?_)
    · refine lv_lconst (v := 0) hx hb d_Vol_faultOfRest_41 (by decide) ?_
      refine lv_lstore (lv' := [(6, .long 0), (4, .long 8), (2, .long (lN (ky_le f 92 4))), (0, .ref h0), (1, .ref h1)]) hx hb d_Vol_faultOfRest_42 hl (by decide) rfl (fun ls hl => ?_)
      refine lv_aload_n hx hb d_Vol_faultOfRest_44 rfl (lv_at hl 4 rfl) ?_
      refine lv_sipush (v := 224) hx hb d_Vol_faultOfRest_45 (by decide) ?_
      refine lv_iconst (v := 4) hx hb d_Vol_faultOfRest_48 (by decide) ?_
      refine kf_ro hP hD hS hA [1, 2] rfl (va_runV (As := [.int 224, .int 4]) (rest := []) ⟨hx, hb, hml, hown, hts⟩ (c_Row_fieldL l D cB cI _ h1 h2 f 224 4 (by decide) (by decide)) ⟨callB_of 2 hts g_Row_field rfl rfl rfl (hts _ q1_2) (hts _ q1_109) h_Row_field ⟨Nat.le_of_ble_eq_true rfl, Nat.le_of_ble_eq_true rfl⟩, (hts _ q1_110), (hts _ q1_111)⟩ ⟨kf_bl, va_recv hE.1 hP (ci := 0) (q0 := 1) rfl rfl, kf_to hP hD hS hA hE [1, 2] rfl rfl⟩ rfl rfl hl.1 rfl (lv_room (Nat.le_of_ble_eq_true rfl)) d_Vol_faultOfRest_49 ⟨Nat.zero_le _, Nat.zero_le _⟩) (fun H locs hP hS => ?_)
      refine W.eq (g2 := F0 m 52 ls [.long (lN (ky_le f 224 4))]) rfl ?_
      refine lv_lload hx hb d_Vol_faultOfRest_52 (lv_at hl 1 rfl) ?_
      refine kf_lc_eq (tgt := 62) hx hb d_Vol_faultOfRest_54 d_Vol_faultOfRest_55 (by decide) (fun c54 => ?_) (fun c54 => ?_)
      · refine lv_aload_n hx hb d_Vol_faultOfRest_62 rfl (lv_at hl 4 rfl) ?_
        refine lv_sipush (v := 232) hx hb d_Vol_faultOfRest_63 (by decide) ?_
        refine lv_iconst (v := 4) hx hb d_Vol_faultOfRest_66 (by decide) ?_
        refine kf_ro hP hD hS hA [1, 2] rfl (va_runV (As := [.int 232, .int 4]) (rest := []) ⟨hx, hb, hml, hown, hts⟩ (c_Row_fieldL l D cB cI _ h1 h2 f 232 4 (by decide) (by decide)) ⟨callB_of 2 hts g_Row_field rfl rfl rfl (hts _ q1_2) (hts _ q1_109) h_Row_field ⟨Nat.le_of_ble_eq_true rfl, Nat.le_of_ble_eq_true rfl⟩, (hts _ q1_110), (hts _ q1_111)⟩ ⟨kf_bl, va_recv hE.1 hP (ci := 0) (q0 := 1) rfl rfl, kf_to hP hD hS hA hE [1, 2] rfl rfl⟩ rfl rfl hl.1 rfl (lv_room (Nat.le_of_ble_eq_true rfl)) d_Vol_faultOfRest_67 ⟨Nat.zero_le _, Nat.zero_le _⟩) (fun H locs hP hS => ?_)
        refine W.eq (g2 := F0 m 70 ls [.long (lN (ky_le f 232 4))]) rfl ?_
        refine lv_aload_n hx hb d_Vol_faultOfRest_70 rfl (lv_at hl 3 rfl) ?_
        refine va_get (D := D) (ci := 1) (v := .long fi) (C := "FieldRows$Volume") (T := F_Vol) (N := 12) hx hb hts ku_Vol hown hE.1 hP 0 rfl rfl 0 (by decide) (hts _ q1_31) (fun _ h9 => h9) rfl d_Vol_faultOfRest_71 ?_
        refine kf_lc_le (tgt := 82) hx hb d_Vol_faultOfRest_74 d_Vol_faultOfRest_75 (by decide) (fun c74 => ?_) (fun c74 => ?_)
        · refine lv_aload_n hx hb d_Vol_faultOfRest_82 rfl (lv_at hl 4 rfl) ?_
          refine lv_sipush (v := 252) hx hb d_Vol_faultOfRest_83 (by decide) ?_
          refine lv_iconst (v := 1) hx hb d_Vol_faultOfRest_86 (by decide) ?_
          refine kf_ro hP hD hS hA [1, 2] rfl (va_runV (As := [.int 252, .int 1]) (rest := []) ⟨hx, hb, hml, hown, hts⟩ (c_Row_fieldL l D cB cI _ h1 h2 f 252 1 (by decide) (by decide)) ⟨callB_of 2 hts g_Row_field rfl rfl rfl (hts _ q1_2) (hts _ q1_109) h_Row_field ⟨Nat.le_of_ble_eq_true rfl, Nat.le_of_ble_eq_true rfl⟩, (hts _ q1_110), (hts _ q1_111)⟩ ⟨kf_bl, va_recv hE.1 hP (ci := 0) (q0 := 1) rfl rfl, kf_to hP hD hS hA hE [1, 2] rfl rfl⟩ rfl rfl hl.1 rfl (lv_room (Nat.le_of_ble_eq_true rfl)) d_Vol_faultOfRest_87 ⟨Nat.zero_le _, Nat.zero_le _⟩) (fun H locs hP hS => ?_)
          refine W.eq (g2 := F0 m 90 ls [.long (lN (ky_le f 252 1))]) rfl ?_
          refine lv_lload hx hb d_Vol_faultOfRest_90 (lv_at hl 0 rfl) ?_
          refine kf_lc_eq (tgt := 100) hx hb d_Vol_faultOfRest_92 d_Vol_faultOfRest_93 (by decide) (fun c92 => ?_) (fun c92 => ?_)
          · refine lv_aload_n hx hb d_Vol_faultOfRest_100 rfl (lv_at hl 4 rfl) ?_
            refine lv_sipush (v := 254) hx hb d_Vol_faultOfRest_101 (by decide) ?_
            refine lv_iconst (v := 2) hx hb d_Vol_faultOfRest_104 (by decide) ?_
            refine kf_ro hP hD hS hA [1, 2] rfl (va_runV (As := [.int 254, .int 2]) (rest := []) ⟨hx, hb, hml, hown, hts⟩ (c_Row_fieldL l D cB cI _ h1 h2 f 254 2 (by decide) (by decide)) ⟨callB_of 2 hts g_Row_field rfl rfl rfl (hts _ q1_2) (hts _ q1_109) h_Row_field ⟨Nat.le_of_ble_eq_true rfl, Nat.le_of_ble_eq_true rfl⟩, (hts _ q1_110), (hts _ q1_111)⟩ ⟨kf_bl, va_recv hE.1 hP (ci := 0) (q0 := 1) rfl rfl, kf_to hP hD hS hA hE [1, 2] rfl rfl⟩ rfl rfl hl.1 rfl (lv_room (Nat.le_of_ble_eq_true rfl)) d_Vol_faultOfRest_105 ⟨Nat.zero_le _, Nat.zero_le _⟩) (fun H locs hP hS => ?_)
            refine W.eq (g2 := F0 m 108 ls [.long (lN (ky_le f 254 2))]) rfl ?_
            refine lv_lconst (v := 0) hx hb d_Vol_faultOfRest_108 (by decide) ?_
            refine kf_lc_ne (tgt := 118) hx hb d_Vol_faultOfRest_109 d_Vol_faultOfRest_110 (by decide) (fun c109 => ?_) (fun c109 => ?_)
            · refine lv_sipush (v := 254) hx hb d_Vol_faultOfRest_118 (by decide) ?_
              exact kf_ir hx hb hr hlocks hP hD hS (by unfold kv_re; grind) d_Vol_faultOfRest_121
            · refine lv_bipush (v := -2) hx hb d_Vol_faultOfRest_113 (by decide) ?_
              refine lv_goto (tgt := 121) hx hb d_Vol_faultOfRest_115 (by decide) ?_
              exact kf_ir hx hb hr hlocks hP hD hS (by unfold kv_re; grind) d_Vol_faultOfRest_121
          · refine lv_sipush (v := 252) hx hb d_Vol_faultOfRest_96 (by decide) ?_
            exact kf_ir hx hb hr hlocks hP hD hS (by unfold kv_re; grind) d_Vol_faultOfRest_99
        · refine lv_sipush (v := 232) hx hb d_Vol_faultOfRest_78 (by decide) ?_
          exact kf_ir hx hb hr hlocks hP hD hS (by unfold kv_re; grind) d_Vol_faultOfRest_81
      · refine lv_sipush (v := 224) hx hb d_Vol_faultOfRest_58 (by decide) ?_
        exact kf_ir hx hb hr hlocks hP hD hS (by unfold kv_re; grind) d_Vol_faultOfRest_61
    · refine lv_lconst (v := 1) hx hb d_Vol_faultOfRest_37 (by decide) ?_
      refine lv_goto (tgt := 42) hx hb d_Vol_faultOfRest_38 (by decide) ?_
      refine lv_lstore (lv' := [(6, .long 1), (4, .long 8), (2, .long (lN (ky_le f 92 4))), (0, .ref h0), (1, .ref h1)]) hx hb d_Vol_faultOfRest_42 hl (by decide) rfl (fun ls hl => ?_)
      refine lv_aload_n hx hb d_Vol_faultOfRest_44 rfl (lv_at hl 4 rfl) ?_
      refine lv_sipush (v := 224) hx hb d_Vol_faultOfRest_45 (by decide) ?_
      refine lv_iconst (v := 4) hx hb d_Vol_faultOfRest_48 (by decide) ?_
      refine kf_ro hP hD hS hA [1, 2] rfl (va_runV (As := [.int 224, .int 4]) (rest := []) ⟨hx, hb, hml, hown, hts⟩ (c_Row_fieldL l D cB cI _ h1 h2 f 224 4 (by decide) (by decide)) ⟨callB_of 2 hts g_Row_field rfl rfl rfl (hts _ q1_2) (hts _ q1_109) h_Row_field ⟨Nat.le_of_ble_eq_true rfl, Nat.le_of_ble_eq_true rfl⟩, (hts _ q1_110), (hts _ q1_111)⟩ ⟨kf_bl, va_recv hE.1 hP (ci := 0) (q0 := 1) rfl rfl, kf_to hP hD hS hA hE [1, 2] rfl rfl⟩ rfl rfl hl.1 rfl (lv_room (Nat.le_of_ble_eq_true rfl)) d_Vol_faultOfRest_49 ⟨Nat.zero_le _, Nat.zero_le _⟩) (fun H locs hP hS => ?_)
      refine W.eq (g2 := F0 m 52 ls [.long (lN (ky_le f 224 4))]) rfl ?_
      refine lv_lload hx hb d_Vol_faultOfRest_52 (lv_at hl 1 rfl) ?_
      refine kf_lc_eq (tgt := 62) hx hb d_Vol_faultOfRest_54 d_Vol_faultOfRest_55 (by decide) (fun c54 => ?_) (fun c54 => ?_)
      · refine lv_aload_n hx hb d_Vol_faultOfRest_62 rfl (lv_at hl 4 rfl) ?_
        refine lv_sipush (v := 232) hx hb d_Vol_faultOfRest_63 (by decide) ?_
        refine lv_iconst (v := 4) hx hb d_Vol_faultOfRest_66 (by decide) ?_
        refine kf_ro hP hD hS hA [1, 2] rfl (va_runV (As := [.int 232, .int 4]) (rest := []) ⟨hx, hb, hml, hown, hts⟩ (c_Row_fieldL l D cB cI _ h1 h2 f 232 4 (by decide) (by decide)) ⟨callB_of 2 hts g_Row_field rfl rfl rfl (hts _ q1_2) (hts _ q1_109) h_Row_field ⟨Nat.le_of_ble_eq_true rfl, Nat.le_of_ble_eq_true rfl⟩, (hts _ q1_110), (hts _ q1_111)⟩ ⟨kf_bl, va_recv hE.1 hP (ci := 0) (q0 := 1) rfl rfl, kf_to hP hD hS hA hE [1, 2] rfl rfl⟩ rfl rfl hl.1 rfl (lv_room (Nat.le_of_ble_eq_true rfl)) d_Vol_faultOfRest_67 ⟨Nat.zero_le _, Nat.zero_le _⟩) (fun H locs hP hS => ?_)
        refine W.eq (g2 := F0 m 70 ls [.long (lN (ky_le f 232 4))]) rfl ?_
        refine lv_aload_n hx hb d_Vol_faultOfRest_70 rfl (lv_at hl 3 rfl) ?_
        refine va_get (D := D) (ci := 1) (v := .long fi) (C := "FieldRows$Volume") (T := F_Vol) (N := 12) hx hb hts ku_Vol hown hE.1 hP 0 rfl rfl 0 (by decide) (hts _ q1_31) (fun _ h9 => h9) rfl d_Vol_faultOfRest_71 ?_
        refine kf_lc_le (tgt := 82) hx hb d_Vol_faultOfRest_74 d_Vol_faultOfRest_75 (by decide) (fun c74 => ?_) (fun c74 => ?_)
        · refine lv_aload_n hx hb d_Vol_faultOfRest_82 rfl (lv_at hl 4 rfl) ?_
          refine lv_sipush (v := 252) hx hb d_Vol_faultOfRest_83 (by decide) ?_
          refine lv_iconst (v := 1) hx hb d_Vol_faultOfRest_86 (by decide) ?_
          refine kf_ro hP hD hS hA [1, 2] rfl (va_runV (As := [.int 252, .int 1]) (rest := []) ⟨hx, hb, hml, hown, hts⟩ (c_Row_fieldL l D cB cI _ h1 h2 f 252 1 (by decide) (by decide)) ⟨callB_of 2 hts g_Row_field rfl rfl rfl (hts _ q1_2) (hts _ q1_109) h_Row_field ⟨Nat.le_of_ble_eq_true rfl, Nat.le_of_ble_eq_true rfl⟩, (hts _ q1_110), (hts _ q1_111)⟩ ⟨kf_bl, va_recv hE.1 hP (ci := 0) (q0 := 1) rfl rfl, kf_to hP hD hS hA hE [1, 2] rfl rfl⟩ rfl rfl hl.1 rfl (lv_room (Nat.le_of_ble_eq_true rfl)) d_Vol_faultOfRest_87 ⟨Nat.zero_le _, Nat.zero_le _⟩) (fun H locs hP hS => ?_)
          refine W.eq (g2 := F0 m 90 ls [.long (lN (ky_le f 252 1))]) rfl ?_
          refine lv_lload hx hb d_Vol_faultOfRest_90 (lv_at hl 0 rfl) ?_
          refine kf_lc_eq (tgt := 100) hx hb d_Vol_faultOfRest_92 d_Vol_faultOfRest_93 (by decide) (fun c92 => ?_) (fun c92 => ?_)
          · refine lv_aload_n hx hb d_Vol_faultOfRest_100 rfl (lv_at hl 4 rfl) ?_
            refine lv_sipush (v := 254) hx hb d_Vol_faultOfRest_101 (by decide) ?_
            refine lv_iconst (v := 2) hx hb d_Vol_faultOfRest_104 (by decide) ?_
            refine kf_ro hP hD hS hA [1, 2] rfl (va_runV (As := [.int 254, .int 2]) (rest := []) ⟨hx, hb, hml, hown, hts⟩ (c_Row_fieldL l D cB cI _ h1 h2 f 254 2 (by decide) (by decide)) ⟨callB_of 2 hts g_Row_field rfl rfl rfl (hts _ q1_2) (hts _ q1_109) h_Row_field ⟨Nat.le_of_ble_eq_true rfl, Nat.le_of_ble_eq_true rfl⟩, (hts _ q1_110), (hts _ q1_111)⟩ ⟨kf_bl, va_recv hE.1 hP (ci := 0) (q0 := 1) rfl rfl, kf_to hP hD hS hA hE [1, 2] rfl rfl⟩ rfl rfl hl.1 rfl (lv_room (Nat.le_of_ble_eq_true rfl)) d_Vol_faultOfRest_105 ⟨Nat.zero_le _, Nat.zero_le _⟩) (fun H locs hP hS => ?_)
            refine W.eq (g2 := F0 m 108 ls [.long (lN (ky_le f 254 2))]) rfl ?_
            refine lv_lconst (v := 0) hx hb d_Vol_faultOfRest_108 (by decide) ?_
            refine kf_lc_ne (tgt := 118) hx hb d_Vol_faultOfRest_109 d_Vol_faultOfRest_110 (by decide) (fun c109 => ?_) (fun c109 => ?_)
            · refine lv_sipush (v := 254) hx hb d_Vol_faultOfRest_118 (by decide) ?_
              exact kf_ir hx hb hr hlocks hP hD hS (by unfold kv_re; grind) d_Vol_faultOfRest_121
            · refine lv_bipush (v := -2) hx hb d_Vol_faultOfRest_113 (by decide) ?_
              refine lv_goto (tgt := 121) hx hb d_Vol_faultOfRest_115 (by decide) ?_
              exact kf_ir hx hb hr hlocks hP hD hS (by unfold kv_re; grind) d_Vol_faultOfRest_121
          · refine lv_sipush (v := 252) hx hb d_Vol_faultOfRest_96 (by decide) ?_
            exact kf_ir hx hb hr hlocks hP hD hS (by unfold kv_re; grind) d_Vol_faultOfRest_99
        · refine lv_sipush (v := 232) hx hb d_Vol_faultOfRest_78 (by decide) ?_
          exact kf_ir hx hb hr hlocks hP hD hS (by unfold kv_re; grind) d_Vol_faultOfRest_81
      · refine lv_sipush (v := 224) hx hb d_Vol_faultOfRest_58 (by decide) ?_
        exact kf_ir hx hb hr hlocks hP hD hS (by unfold kv_re; grind) d_Vol_faultOfRest_61

set_option maxRecDepth 100000 in
set_option maxHeartbeats 4000000 in
theorem c_Vol_firstFaultOf (l : Launch) (D : va_G) (cB cI : ClassId) (hz : Nat) (h0 : Nat) (fi : Int64) (bl : Int64) (fs : Int64) (sh : Int64) (zz : Int64) (gb : Int64) (gf : Int64) (rb : Int64) (fc : Int32) (gc : Int64) (cb : Int64) (rk : Int64) (h1 : Nat) (h2 : Nat) (f : Nat → Int32) : kf_Ct l y_Vol_firstFaultOf w_Vol_firstFaultOf 4 88 0 0 D (kT cB cI) [.ref h0, .ref h1] [(h0, .inr (1, [.long fi, .long bl, .long fs, .long sh, .long zz, .long gb, .long gf, .long rb, .int fc, .long gc, .long cb, .long rk])), (h1, .inr (0, [.ref h2])), (h2, .inl (cB, 1024, .inl f))] hz (some (.int (kv_fault f))) (kf_po D [(h0, .inr (1, [.long (lN (ky_le f 0 4)), .long (lN (ky_le f 4 4)), .long (lN (ky_le f 20 4)), .long (lN (ky_le f 24 4)), .long (kv_size f), .long (lN (ky_le f 32 4)), .long (lN (ky_le f 40 4)), .long (lN (ky_le f 88 2)), .int (kv_few f), .long (kv_gc f), .long (kv_cb f), .long (kv_rk f)])), (h1, .inr (0, [.ref h2])), (h2, .inl (cB, 1024, .inl f))]) := by
  refine kf_of (cc := b_Vol_firstFaultOf) (maxL := 3) (ret := (some .int)) (by decide) rfl (Nat.le_of_ble_eq_true rfl) ?_
  intro p e s m below meth c A H locs hx hb hr hml hown hts hlocks hin hP hD hS hA hE ls hl
  have hl : lv_has ls 3 [(0, .ref h0), (1, .ref h1)] := hl
  refine lv_aload_n hx hb d_Vol_firstFaultOf_0 rfl (lv_at hl 0 rfl) ?_
  refine lv_aload_n hx hb d_Vol_firstFaultOf_1 rfl (lv_at hl 1 rfl) ?_
  refine kf_kc (wr := []) (w1 := [(h0, .inr (1, [.long (lN (ky_le f 0 4)), .long (lN (ky_le f 4 4)), .long (lN (ky_le f 20 4)), .long (lN (ky_le f 24 4)), .long (kv_size f), .long (lN (ky_le f 32 4)), .long (lN (ky_le f 40 4)), .long (lN (ky_le f 88 2)), .int (kv_few f), .long (kv_gc f), .long (kv_cb f), .long (kv_rk f)])), (h1, .inr (0, [.ref h2])), (h2, .inl (cB, 1024, .inl f))]) (ws2 := [(h0, .inr (1, [.long (lN (ky_le f 0 4)), .long (lN (ky_le f 4 4)), .long (lN (ky_le f 20 4)), .long (lN (ky_le f 24 4)), .long (kv_size f), .long (lN (ky_le f 32 4)), .long (lN (ky_le f 40 4)), .long (lN (ky_le f 88 2)), .int (kv_few f), .long (kv_gc f), .long (kv_cb f), .long (kv_rk f)])), (h1, .inr (0, [.ref h2])), (h2, .inl (cB, 1024, .inl f))]) hP hD hS hA [0, 1, 2] [] [0, 1, 2] rfl rfl rfl (by decide) rfl rfl (va_runV (As := [.ref h1]) (rest := []) ⟨hx, hb, hml, hown, hts⟩ (c_Vol_readNumbers l D cB cI _ h0 fi bl fs sh zz gb gf rb fc gc cb rk h1 h2 f) ⟨callB_of 1 hts g_Vol_readNumbers rfl rfl rfl (hts _ q1_3) (hts _ q1_126) h_Vol_readNumbers ⟨Nat.le_of_ble_eq_true rfl, Nat.le_of_ble_eq_true rfl⟩, (hts _ q1_106), (hts _ q1_107)⟩ ⟨kf_bl, va_recv hE.1 hP (ci := 1) (q0 := 0) rfl rfl, kf_to hP hD hS hA hE [0, 1, 2] rfl rfl⟩ rfl rfl hl.1 rfl (lv_room (Nat.le_of_ble_eq_true rfl)) d_Vol_firstFaultOf_2 ⟨Nat.zero_le _, Nat.zero_le _⟩) (fun H locs hP hD hS => ?_)
  refine W.eq (g2 := F0 m 5 ls []) rfl ?_
  refine lv_aload_n hx hb d_Vol_firstFaultOf_5 rfl (lv_at hl 0 rfl) ?_
  refine lv_aload_n hx hb d_Vol_firstFaultOf_6 rfl (lv_at hl 1 rfl) ?_
  refine kf_ro hP hD hS hA [0, 1, 2] rfl (va_runV (As := [.ref h1]) (rest := []) ⟨hx, hb, hml, hown, hts⟩ (c_Vol_faultOfForm l D cB cI _ h0 (lN (ky_le f 0 4)) (lN (ky_le f 4 4)) (lN (ky_le f 20 4)) (lN (ky_le f 24 4)) (kv_size f) (lN (ky_le f 32 4)) (lN (ky_le f 40 4)) (lN (ky_le f 88 2)) (kv_few f) (kv_gc f) (kv_cb f) (kv_rk f) h1 h2 f) ⟨callB_of 1 hts g_Vol_faultOfForm rfl rfl rfl (hts _ q1_3) (hts _ q1_127) h_Vol_faultOfForm ⟨Nat.le_of_ble_eq_true rfl, Nat.le_of_ble_eq_true rfl⟩, (hts _ q1_129), (hts _ q0_0)⟩ ⟨kf_bl, va_recv hE.1 hP (ci := 1) (q0 := 0) rfl rfl, kf_to hP hD hS hA hE [0, 1, 2] rfl rfl⟩ rfl rfl hl.1 rfl (lv_room (Nat.le_of_ble_eq_true rfl)) d_Vol_firstFaultOf_7 ⟨Nat.zero_le _, Nat.zero_le _⟩) (fun H locs hP hS => ?_)
  refine W.eq (g2 := F0 m 10 ls [.int (kv_form f (lN (ky_le f 24 4)) (lN (ky_le f 20 4)))]) rfl ?_
  refine lv_istore_n (lv' := [(2, .int (kv_form f (lN (ky_le f 24 4)) (lN (ky_le f 20 4)))), (0, .ref h0), (1, .ref h1)]) hx hb d_Vol_firstFaultOf_10 rfl hl (by decide) rfl (fun ls hl => ?_)
  refine lv_iload_n hx hb d_Vol_firstFaultOf_11 rfl (lv_at hl 0 rfl) ?_
  refine lv_bipush (v := -2) hx hb d_Vol_firstFaultOf_12 (by decide) ?_
  refine lv_icmp_ne (tgt := 23) hx hb d_Vol_firstFaultOf_14 (by decide) (fun c14 => ?_) (fun c14 => ?_)
  · refine lv_iload_n hx hb d_Vol_firstFaultOf_23 rfl (lv_at hl 0 rfl) ?_
    refine lv_bipush (v := -2) hx hb d_Vol_firstFaultOf_24 (by decide) ?_
    refine lv_icmp_ne (tgt := 38) hx hb d_Vol_firstFaultOf_26 (by decide) (fun c26 => ?_) (fun c26 => absurd c26 c14)
    refine lv_iload_n hx hb d_Vol_firstFaultOf_38 rfl (lv_at hl 0 rfl) ?_
    refine lv_bipush (v := -2) hx hb d_Vol_firstFaultOf_39 (by decide) ?_
    refine lv_icmp_ne (tgt := 50) hx hb d_Vol_firstFaultOf_41 (by decide) (fun c41 => ?_) (fun c41 => absurd c41 c14)
    refine lv_iload_n hx hb d_Vol_firstFaultOf_50 rfl (lv_at hl 0 rfl) ?_
    refine lv_bipush (v := -2) hx hb d_Vol_firstFaultOf_51 (by decide) ?_
    refine lv_icmp_ne (tgt := 62) hx hb d_Vol_firstFaultOf_53 (by decide) (fun c53 => ?_) (fun c53 => absurd c53 c14)
    refine lv_iload_n hx hb d_Vol_firstFaultOf_62 rfl (lv_at hl 0 rfl) ?_
    refine lv_bipush (v := -2) hx hb d_Vol_firstFaultOf_63 (by decide) ?_
    refine lv_icmp_ne (tgt := 76) hx hb d_Vol_firstFaultOf_65 (by decide) (fun c65 => ?_) (fun c65 => absurd c65 c14)
    refine lv_iload_n hx hb d_Vol_firstFaultOf_76 rfl (lv_at hl 0 rfl) ?_
    exact kf_ir hx hb hr hlocks hP hD hS (by clear hP hD hS hA hE hts hl; unfold kv_fault; grind) d_Vol_firstFaultOf_77
  · refine lv_aload_n hx hb d_Vol_firstFaultOf_17 rfl (lv_at hl 1 rfl) ?_
    refine lv_aload_n hx hb d_Vol_firstFaultOf_18 rfl (lv_at hl 2 rfl) ?_
    refine kf_ro hP hD hS hA [0, 1, 2] rfl (va_runV (As := [.ref h1]) (rest := []) ⟨hx, hb, hml, hown, hts⟩ (c_Vol_faultOfGroupSizes l D cB cI _ h0 (lN (ky_le f 0 4)) (lN (ky_le f 4 4)) (lN (ky_le f 20 4)) (lN (ky_le f 24 4)) (kv_size f) (lN (ky_le f 32 4)) (lN (ky_le f 40 4)) (lN (ky_le f 88 2)) (kv_few f) (kv_gc f) (kv_cb f) (kv_rk f) h1 h2 f) ⟨callB_of 1 hts g_Vol_faultOfGroupSizes rfl rfl rfl (hts _ q1_3) (hts _ q1_134) h_Vol_faultOfGroupSizes ⟨Nat.le_of_ble_eq_true rfl, Nat.le_of_ble_eq_true rfl⟩, (hts _ q1_136), (hts _ q0_1)⟩ ⟨kf_bl, va_recv hE.1 hP (ci := 1) (q0 := 0) rfl rfl, kf_to hP hD hS hA hE [0, 1, 2] rfl rfl⟩ rfl rfl hl.1 rfl (lv_room (Nat.le_of_ble_eq_true rfl)) d_Vol_firstFaultOf_19 ⟨Nat.zero_le _, Nat.zero_le _⟩) (fun H locs hP hS => ?_)
    refine W.eq (g2 := F0 m 22 ls [.int (kv_gs f (kv_size f) (lN (ky_le f 32 4)) (lN (ky_le f 88 2)) (lN (ky_le f 40 4)) (kv_rk f))]) rfl ?_
    refine lv_istore_n (lv' := [(2, .int (kv_gs f (kv_size f) (lN (ky_le f 32 4)) (lN (ky_le f 88 2)) (lN (ky_le f 40 4)) (kv_rk f))), (0, .ref h0), (1, .ref h1)]) hx hb d_Vol_firstFaultOf_22 rfl hl (by decide) rfl (fun ls hl => ?_)
    refine lv_iload_n hx hb d_Vol_firstFaultOf_23 rfl (lv_at hl 0 rfl) ?_
    refine lv_bipush (v := -2) hx hb d_Vol_firstFaultOf_24 (by decide) ?_
    refine lv_icmp_ne (tgt := 38) hx hb d_Vol_firstFaultOf_26 (by decide) (fun c26 => ?_) (fun c26 => ?_)
    · refine lv_iload_n hx hb d_Vol_firstFaultOf_38 rfl (lv_at hl 0 rfl) ?_
      refine lv_bipush (v := -2) hx hb d_Vol_firstFaultOf_39 (by decide) ?_
      refine lv_icmp_ne (tgt := 50) hx hb d_Vol_firstFaultOf_41 (by decide) (fun c41 => ?_) (fun c41 => absurd c41 c26)
      refine lv_iload_n hx hb d_Vol_firstFaultOf_50 rfl (lv_at hl 0 rfl) ?_
      refine lv_bipush (v := -2) hx hb d_Vol_firstFaultOf_51 (by decide) ?_
      refine lv_icmp_ne (tgt := 62) hx hb d_Vol_firstFaultOf_53 (by decide) (fun c53 => ?_) (fun c53 => absurd c53 c26)
      refine lv_iload_n hx hb d_Vol_firstFaultOf_62 rfl (lv_at hl 0 rfl) ?_
      refine lv_bipush (v := -2) hx hb d_Vol_firstFaultOf_63 (by decide) ?_
      refine lv_icmp_ne (tgt := 76) hx hb d_Vol_firstFaultOf_65 (by decide) (fun c65 => ?_) (fun c65 => absurd c65 c26)
      refine lv_iload_n hx hb d_Vol_firstFaultOf_76 rfl (lv_at hl 0 rfl) ?_
      exact kf_ir hx hb hr hlocks hP hD hS (by clear hP hD hS hA hE hts hl; unfold kv_fault; grind) d_Vol_firstFaultOf_77
    · refine lv_aload_n hx hb d_Vol_firstFaultOf_29 rfl (lv_at hl 1 rfl) ?_
      refine kf_ro hP hD hS hA [0] rfl (va_runV (As := []) (rest := []) ⟨hx, hb, hml, hown, hts⟩ (c_Vol_everyGroupHasRoom l D cB cI _ h0 (lN (ky_le f 0 4)) (lN (ky_le f 4 4)) (lN (ky_le f 20 4)) (lN (ky_le f 24 4)) (kv_size f) (lN (ky_le f 32 4)) (lN (ky_le f 40 4)) (lN (ky_le f 88 2)) (kv_few f) (kv_gc f) (kv_cb f) (kv_rk f)) ⟨callB_of 0 hts g_Vol_everyGroupHasRoom rfl rfl rfl (hts _ q1_3) (hts _ q1_152) h_Vol_everyGroupHasRoom ⟨Nat.le_of_ble_eq_true rfl, Nat.le_of_ble_eq_true rfl⟩, (hts _ q1_154), (hts _ q0_2)⟩ ⟨kf_bl, va_recv hE.1 hP (ci := 1) (q0 := 0) rfl rfl, kf_to hP hD hS hA hE [0] rfl rfl⟩ rfl rfl hl.1 rfl (lv_room (Nat.le_of_ble_eq_true rfl)) d_Vol_firstFaultOf_30 ⟨Nat.zero_le _, Nat.zero_le _⟩) (fun H locs hP hS => ?_)
      refine W.eq (g2 := F0 m 33 ls [.int (kP (kv_rmP (lN (ky_le f 4 4)) (lN (ky_le f 20 4)) (lN (ky_le f 32 4)) (kv_gc f) (kv_cb f) (kv_rk f) (kv_few f)))]) rfl ?_
      refine lv_if_ne (tgt := 38) hx hb d_Vol_firstFaultOf_33 (by decide) (fun c33 => ?_) (fun c33 => ?_)
      · refine lv_iload_n hx hb d_Vol_firstFaultOf_38 rfl (lv_at hl 0 rfl) ?_
        refine lv_bipush (v := -2) hx hb d_Vol_firstFaultOf_39 (by decide) ?_
        refine lv_icmp_ne (tgt := 50) hx hb d_Vol_firstFaultOf_41 (by decide) (fun c41 => absurd c26 c41) (fun c41 => ?_)
        refine lv_aload_n hx hb d_Vol_firstFaultOf_44 rfl (lv_at hl 1 rfl) ?_
        refine lv_aload_n hx hb d_Vol_firstFaultOf_45 rfl (lv_at hl 2 rfl) ?_
        refine kf_ro hP hD hS hA [0, 1, 2] rfl (va_runV (As := [.ref h1]) (rest := []) ⟨hx, hb, hml, hown, hts⟩ (c_Vol_faultOfCounts l D cB cI _ h0 (lN (ky_le f 0 4)) (lN (ky_le f 4 4)) (lN (ky_le f 20 4)) (lN (ky_le f 24 4)) (kv_size f) (lN (ky_le f 32 4)) (lN (ky_le f 40 4)) (lN (ky_le f 88 2)) (kv_few f) (kv_gc f) (kv_cb f) (kv_rk f) h1 h2 f) ⟨callB_of 1 hts g_Vol_faultOfCounts rfl rfl rfl (hts _ q1_3) (hts _ q1_182) h_Vol_faultOfCounts ⟨Nat.le_of_ble_eq_true rfl, Nat.le_of_ble_eq_true rfl⟩, (hts _ q1_184), (hts _ q0_3)⟩ ⟨kf_bl, va_recv hE.1 hP (ci := 1) (q0 := 0) rfl rfl, kf_to hP hD hS hA hE [0, 1, 2] rfl rfl⟩ rfl rfl hl.1 rfl (lv_room (Nat.le_of_ble_eq_true rfl)) d_Vol_firstFaultOf_46 ⟨Nat.zero_le _, Nat.zero_le _⟩) (fun H locs hP hS => ?_)
        refine W.eq (g2 := F0 m 49 ls [.int (kv_ct f (lN (ky_le f 0 4)) (lN (ky_le f 4 4)) (lN (ky_le f 40 4)) (kv_gc f) (kv_few f))]) rfl ?_
        refine lv_istore_n (lv' := [(2, .int (kv_ct f (lN (ky_le f 0 4)) (lN (ky_le f 4 4)) (lN (ky_le f 40 4)) (kv_gc f) (kv_few f))), (0, .ref h0), (1, .ref h1)]) hx hb d_Vol_firstFaultOf_49 rfl hl (by decide) rfl (fun ls hl => ?_)
        refine lv_iload_n hx hb d_Vol_firstFaultOf_50 rfl (lv_at hl 0 rfl) ?_
        refine lv_bipush (v := -2) hx hb d_Vol_firstFaultOf_51 (by decide) ?_
        refine lv_icmp_ne (tgt := 62) hx hb d_Vol_firstFaultOf_53 (by decide) (fun c53 => ?_) (fun c53 => ?_)
        · refine lv_iload_n hx hb d_Vol_firstFaultOf_62 rfl (lv_at hl 0 rfl) ?_
          refine lv_bipush (v := -2) hx hb d_Vol_firstFaultOf_63 (by decide) ?_
          refine lv_icmp_ne (tgt := 76) hx hb d_Vol_firstFaultOf_65 (by decide) (fun c65 => ?_) (fun c65 => absurd c65 c53)
          refine lv_iload_n hx hb d_Vol_firstFaultOf_76 rfl (lv_at hl 0 rfl) ?_
          have h33 := by first | exact kP_ne c33 | exact kP_eq c33
          exact kf_ir hx hb hr hlocks hP hD hS (by clear hP hD hS hA hE hts hl; unfold kv_fault; grind) d_Vol_firstFaultOf_77
        · refine lv_aload_n hx hb d_Vol_firstFaultOf_56 rfl (lv_at hl 1 rfl) ?_
          refine lv_aload_n hx hb d_Vol_firstFaultOf_57 rfl (lv_at hl 2 rfl) ?_
          refine kf_ro hP hD hS hA [0, 1, 2] rfl (va_runV (As := [.ref h1]) (rest := []) ⟨hx, hb, hml, hown, hts⟩ (c_Vol_faultOfFeatures l D cB cI _ h0 (lN (ky_le f 0 4)) (lN (ky_le f 4 4)) (lN (ky_le f 20 4)) (lN (ky_le f 24 4)) (kv_size f) (lN (ky_le f 32 4)) (lN (ky_le f 40 4)) (lN (ky_le f 88 2)) (kv_few f) (kv_gc f) (kv_cb f) (kv_rk f) h1 h2 f) ⟨callB_of 1 hts g_Vol_faultOfFeatures rfl rfl rfl (hts _ q1_3) (hts _ q1_188) h_Vol_faultOfFeatures ⟨Nat.le_of_ble_eq_true rfl, Nat.le_of_ble_eq_true rfl⟩, (hts _ q1_190), (hts _ q0_4)⟩ ⟨kf_bl, va_recv hE.1 hP (ci := 1) (q0 := 0) rfl rfl, kf_to hP hD hS hA hE [0, 1, 2] rfl rfl⟩ rfl rfl hl.1 rfl (lv_room (Nat.le_of_ble_eq_true rfl)) d_Vol_firstFaultOf_58 ⟨Nat.zero_le _, Nat.zero_le _⟩) (fun H locs hP hS => ?_)
          refine W.eq (g2 := F0 m 61 ls [.int (kv_ft f)]) rfl ?_
          refine lv_istore_n (lv' := [(2, .int (kv_ft f)), (0, .ref h0), (1, .ref h1)]) hx hb d_Vol_firstFaultOf_61 rfl hl (by decide) rfl (fun ls hl => ?_)
          refine lv_iload_n hx hb d_Vol_firstFaultOf_62 rfl (lv_at hl 0 rfl) ?_
          refine lv_bipush (v := -2) hx hb d_Vol_firstFaultOf_63 (by decide) ?_
          refine lv_icmp_ne (tgt := 76) hx hb d_Vol_firstFaultOf_65 (by decide) (fun c65 => ?_) (fun c65 => ?_)
          · refine lv_iload_n hx hb d_Vol_firstFaultOf_76 rfl (lv_at hl 0 rfl) ?_
            have h33 := by first | exact kP_ne c33 | exact kP_eq c33
            exact kf_ir hx hb hr hlocks hP hD hS (by clear hP hD hS hA hE hts hl; unfold kv_fault; grind) d_Vol_firstFaultOf_77
          · refine lv_aload_n hx hb d_Vol_firstFaultOf_68 rfl (lv_at hl 1 rfl) ?_
            refine lv_aload_n hx hb d_Vol_firstFaultOf_69 rfl (lv_at hl 2 rfl) ?_
            refine kf_ro hP hD hS hA [0, 1, 2] rfl (va_runV (As := [.ref h1]) (rest := []) ⟨hx, hb, hml, hown, hts⟩ (c_Vol_faultOfRest l D cB cI _ h0 (lN (ky_le f 0 4)) (lN (ky_le f 4 4)) (lN (ky_le f 20 4)) (lN (ky_le f 24 4)) (kv_size f) (lN (ky_le f 32 4)) (lN (ky_le f 40 4)) (lN (ky_le f 88 2)) (kv_few f) (kv_gc f) (kv_cb f) (kv_rk f) h1 h2 f) ⟨callB_of 1 hts g_Vol_faultOfRest rfl rfl rfl (hts _ q1_3) (hts _ q1_199) h_Vol_faultOfRest ⟨Nat.le_of_ble_eq_true rfl, Nat.le_of_ble_eq_true rfl⟩, (hts _ q1_201), (hts _ q0_5)⟩ ⟨kf_bl, va_recv hE.1 hP (ci := 1) (q0 := 0) rfl rfl, kf_to hP hD hS hA hE [0, 1, 2] rfl rfl⟩ rfl rfl hl.1 rfl (lv_room (Nat.le_of_ble_eq_true rfl)) d_Vol_firstFaultOf_70 ⟨Nat.zero_le _, Nat.zero_le _⟩) (fun H locs hP hS => ?_)
            refine W.eq (g2 := F0 m 73 ls [.int (kv_re f (lN (ky_le f 0 4)))]) rfl ?_
            refine lv_goto (tgt := 77) hx hb d_Vol_firstFaultOf_73 (by decide) ?_
            have h33 := by first | exact kP_ne c33 | exact kP_eq c33
            exact kf_ir hx hb hr hlocks hP hD hS (by clear hP hD hS hA hE hts hl; unfold kv_fault; grind) d_Vol_firstFaultOf_77
      · refine lv_iconst (v := 4) hx hb d_Vol_firstFaultOf_36 (by decide) ?_
        refine lv_istore_n (lv' := [(2, .int 4), (0, .ref h0), (1, .ref h1)]) hx hb d_Vol_firstFaultOf_37 rfl hl (by decide) rfl (fun ls hl => ?_)
        refine lv_iload_n hx hb d_Vol_firstFaultOf_38 rfl (lv_at hl 0 rfl) ?_
        refine lv_bipush (v := -2) hx hb d_Vol_firstFaultOf_39 (by decide) ?_
        refine lv_icmp_ne (tgt := 50) hx hb d_Vol_firstFaultOf_41 (by decide) (fun c41 => ?_) (fun c41 => absurd c41 (by decide))
        refine lv_iload_n hx hb d_Vol_firstFaultOf_50 rfl (lv_at hl 0 rfl) ?_
        refine lv_bipush (v := -2) hx hb d_Vol_firstFaultOf_51 (by decide) ?_
        refine lv_icmp_ne (tgt := 62) hx hb d_Vol_firstFaultOf_53 (by decide) (fun c53 => ?_) (fun c53 => absurd c53 (by decide))
        refine lv_iload_n hx hb d_Vol_firstFaultOf_62 rfl (lv_at hl 0 rfl) ?_
        refine lv_bipush (v := -2) hx hb d_Vol_firstFaultOf_63 (by decide) ?_
        refine lv_icmp_ne (tgt := 76) hx hb d_Vol_firstFaultOf_65 (by decide) (fun c65 => ?_) (fun c65 => absurd c65 (by decide))
        refine lv_iload_n hx hb d_Vol_firstFaultOf_76 rfl (lv_at hl 0 rfl) ?_
        have h33 := by first | exact kP_ne c33 | exact kP_eq c33
        exact kf_ir hx hb hr hlocks hP hD hS (by clear hP hD hS hA hE hts hl; unfold kv_fault; grind) d_Vol_firstFaultOf_77
end
section
set_option maxRecDepth 100000 in
set_option maxHeartbeats 4000000 in
theorem c_FR_rowOf_0 (l : Launch) (D : va_G) (cB cI : ClassId) (hz : Nat) (x : Nat) (r0 : Nat) (r1 : Nat) (tr : Nat) (vo : Nat) : kf_Ct l y_FR_rowOf w_FR_rowOf 0 0 0 0 D (kT cB cI) [.ref x, .int 0] [(x, .inr (2, [.ref r0, .ref r1, .ref tr, .ref vo]))] hz (some (.ref r0)) (kf_po D [(x, .inr (2, [.ref r0, .ref r1, .ref tr, .ref vo]))]) := by
  refine kf_of (cc := b_FR_rowOf) (maxL := 2) (ret := (some (.object "FieldRows$Row"))) (by decide) rfl (Nat.le_of_ble_eq_true rfl) ?_
  intro p e s m below meth c A H locs hx hb hr hml hown hts hlocks hin hP hD hS hA hE ls hl
  have hl : lv_has ls 2 [(0, .ref x), (1, .int 0)] := hl
  refine lv_iload_n hx hb d_FR_rowOf_0 rfl (lv_at hl 1 rfl) ?_
  refine lv_if_ne (tgt := 9) hx hb d_FR_rowOf_1 (by decide) (fun c1 => absurd rfl c1) (fun c1 => ?_)
  refine lv_aload_n hx hb d_FR_rowOf_4 rfl (lv_at hl 0 rfl) ?_
  refine va_get (D := D) (ci := 2) (v := .ref r0) (C := "FieldRows") (T := F_FR) (N := 4) hx hb hts ku_FR hown hE.1 hP 0 rfl rfl 0 (by decide) (hts _ q1_208) (fun _ h9 => h9) rfl d_FR_rowOf_5 ?_
  exact kf_ar hx hb hr hlocks (Or.inl ⟨_, rfl⟩) (Or.inr ⟨_, rfl⟩) hP hD hS d_FR_rowOf_8

set_option maxRecDepth 100000 in
set_option maxHeartbeats 4000000 in
theorem c_FR_rowOf_1 (l : Launch) (D : va_G) (cB cI : ClassId) (hz : Nat) (x : Nat) (r0 : Nat) (r1 : Nat) (tr : Nat) (vo : Nat) : kf_Ct l y_FR_rowOf w_FR_rowOf 0 0 0 0 D (kT cB cI) [.ref x, .int 1] [(x, .inr (2, [.ref r0, .ref r1, .ref tr, .ref vo]))] hz (some (.ref r1)) (kf_po D [(x, .inr (2, [.ref r0, .ref r1, .ref tr, .ref vo]))]) := by
  refine kf_of (cc := b_FR_rowOf) (maxL := 2) (ret := (some (.object "FieldRows$Row"))) (by decide) rfl (Nat.le_of_ble_eq_true rfl) ?_
  intro p e s m below meth c A H locs hx hb hr hml hown hts hlocks hin hP hD hS hA hE ls hl
  have hl : lv_has ls 2 [(0, .ref x), (1, .int 1)] := hl
  refine lv_iload_n hx hb d_FR_rowOf_0 rfl (lv_at hl 1 rfl) ?_
  refine lv_if_ne (tgt := 9) hx hb d_FR_rowOf_1 (by decide) (fun c1 => ?_) (fun c1 => absurd c1 (by decide))
  refine lv_iload_n hx hb d_FR_rowOf_9 rfl (lv_at hl 1 rfl) ?_
  refine lv_iconst (v := 1) hx hb d_FR_rowOf_10 (by decide) ?_
  refine lv_icmp_ne (tgt := 21) hx hb d_FR_rowOf_11 (by decide) (fun c11 => absurd rfl c11) (fun c11 => ?_)
  refine lv_aload_n hx hb d_FR_rowOf_14 rfl (lv_at hl 0 rfl) ?_
  refine va_get (D := D) (ci := 2) (v := .ref r1) (C := "FieldRows") (T := F_FR) (N := 4) hx hb hts ku_FR hown hE.1 hP 0 rfl rfl 1 (by decide) (hts _ q1_209) (fun _ h9 => h9) rfl d_FR_rowOf_15 ?_
  refine lv_goto (tgt := 22) hx hb d_FR_rowOf_18 (by decide) ?_
  exact kf_ar hx hb hr hlocks (Or.inl ⟨_, rfl⟩) (Or.inr ⟨_, rfl⟩) hP hD hS d_FR_rowOf_22

set_option maxRecDepth 100000 in
set_option maxHeartbeats 4000000 in
theorem c_FR_rowOf_n (l : Launch) (D : va_G) (cB cI : ClassId) (hz : Nat) (x : Nat) (r0 : Nat) (r1 : Nat) (tr : Nat) (vo : Nat) (p1 : Int32) (hn0 : ¬ p1 = 0) (hn1 : ¬ p1 = 1) : kf_Ct l y_FR_rowOf w_FR_rowOf 0 0 0 0 D (kT cB cI) [.ref x, .int p1] [(x, .inr (2, [.ref r0, .ref r1, .ref tr, .ref vo]))] hz (some (.null)) (kf_po D [(x, .inr (2, [.ref r0, .ref r1, .ref tr, .ref vo]))]) := by
  refine kf_of (cc := b_FR_rowOf) (maxL := 2) (ret := (some (.object "FieldRows$Row"))) (by decide) rfl (Nat.le_of_ble_eq_true rfl) ?_
  intro p e s m below meth c A H locs hx hb hr hml hown hts hlocks hin hP hD hS hA hE ls hl
  have hl : lv_has ls 2 [(0, .ref x), (1, .int p1)] := hl
  refine lv_iload_n hx hb d_FR_rowOf_0 rfl (lv_at hl 1 rfl) ?_
  refine lv_if_ne (tgt := 9) hx hb d_FR_rowOf_1 (by decide) (fun c1 => ?_) (fun c1 => absurd c1 hn0)
  refine lv_iload_n hx hb d_FR_rowOf_9 rfl (lv_at hl 1 rfl) ?_
  refine lv_iconst (v := 1) hx hb d_FR_rowOf_10 (by decide) ?_
  refine lv_icmp_ne (tgt := 21) hx hb d_FR_rowOf_11 (by decide) (fun c11 => ?_) (fun c11 => absurd c11 hn1)
  refine lv_null hx hb d_FR_rowOf_21 ?_
  exact kf_ar hx hb hr hlocks (Or.inl ⟨_, rfl⟩) (Or.inl rfl) hP hD hS d_FR_rowOf_22

set_option maxRecDepth 100000 in
set_option maxHeartbeats 4000000 in
theorem c_FR_isFollowed (l : Launch) (D : va_G) (cB cI : ClassId) (hz : Nat) (p0 : Int32) : kf_Ct l y_FR_isFollowed w_FR_isFollowed 0 0 0 0 D (kT cB cI) [.int p0] [] hz (some (.int (kP (kr_foP p0)))) (kf_po D []) := by
  refine kf_of (cc := b_FR_isFollowed) (maxL := 2) (ret := (some .boolean)) (by decide) rfl (Nat.le_of_ble_eq_true rfl) ?_
  intro p e s m below meth c A H locs hx hb hr hml hown hts hlocks hin hP hD hS hA hE ls hl
  have hl : lv_has ls 2 [(0, .int p0)] := hl
  refine lv_iconst (v := 0) hx hb d_FR_isFollowed_0 (by decide) ?_
  refine kf_ti (y := nI (2 * 0)) (rfl) ?_
  refine lv_istore_n (lv' := [(1, .int (nI (2 * 0))), (0, .int p0)]) hx hb d_FR_isFollowed_1 rfl hl (by decide) rfl (fun ls hl => ?_)
  refine kf_loop (σ := Nat) (fun k ls H locs => (k ≤ 5) ∧ (∀ j, j < k → ¬ (¬ p0 < ky_not (2 * j) ∧ ¬ ky_not (2 * j + 1) < p0)) ∧ lv_has ls 2 [(1, .int (nI (2 * k))), (0, .int p0)] ∧ va_P D vwCl [] H ∧ va_D A [] ∧ va_S A s.heap H locs) (fun k => 5 - k) 0 ⟨Nat.zero_le _, fun j hj => absurd hj (Nat.not_lt_zero j), lv_sub hl [0, 1] rfl, hP, hD, hS⟩ (fun k ls H locs hI ih => ?_)
  obtain ⟨hk, hno, hl, hP, hD, hS⟩ := hI
  rcases Nat.lt_or_ge k 5 with hkn | hkn
  · refine lv_iload_n hx hb d_FR_isFollowed_2 rfl (lv_at hl 0 rfl) ?_
    refine lv_iconst (v := 1) hx hb d_FR_isFollowed_3 (by decide) ?_
    refine lv_iadd hx hb d_FR_isFollowed_4 ?_
    refine kf_ti (y := nI (2 * k + 1)) (nI_1 _) ?_
    obtain ⟨tN, htNZ, htNT⟩ := hE.2.2 kf_zN (by simp [kf_zs])
    refine va_gets hx hb htNZ hS hown (hts _ q2_21) (fun _ h9 => h9) d_FR_isFollowed_5 ?_
    refine va_tlen hx hb htNT hS (v := 10) (by decide) d_FR_isFollowed_8 ?_
    refine lv_icmp_ge (tgt := 40) hx hb d_FR_isFollowed_9 (by decide) (fun c9 => absurd c9 (nI_ge (a := 2 * k + 1) (b := 10) (by omega) (by decide))) (fun c9 => ?_)
    refine lv_iload_n hx hb d_FR_isFollowed_12 rfl (lv_at hl 1 rfl) ?_
    obtain ⟨tN, htNZ, htNT⟩ := hE.2.2 kf_zN (by simp [kf_zs])
    refine va_gets hx hb htNZ hS hown (hts _ q2_21) (fun _ h9 => h9) d_FR_isFollowed_13 ?_
    refine lv_iload_n hx hb d_FR_isFollowed_16 rfl (lv_at hl 0 rfl) ?_
    refine va_ti hx hb htNT hS (vp_in_nI (n := 2 * k) (N := 10) (by omega) (by decide)) (v := .int (ky_not (2 * k))) (by show Value.int (ky_not (nI (2 * k)).toNatClampNeg) = _; rw [nI_clamp (by omega)]) d_FR_isFollowed_17 ?_
    refine lv_icmp_lt (tgt := 34) hx hb d_FR_isFollowed_18 (by decide) (fun c18 => ?_) (fun c18 => ?_)
    · refine lv_iinc (v := nI (2 * (k + 1))) (lv' := [(1, .int (nI (2 * (k + 1)))), (0, .int p0)]) hx hb d_FR_isFollowed_34 hl (k := 0) rfl (by rw [show 2 * (k + 1) = 2 * k + 2 by omega, ← nI_add]; rfl) (by decide) rfl (fun ls hl => ?_)
      refine lv_goto (tgt := 2) hx hb d_FR_isFollowed_37 (by decide) ?_
      exact ih (k + 1) _ _ _ (by omega) ⟨by omega, fun j hj => by rcases (show j < k ∨ j = k by omega) with q | rfl; exact hno j q; exact (fun q => q.1 c18), lv_sub hl [0, 1] rfl, hP, hD, hS⟩
    · refine lv_iload_n hx hb d_FR_isFollowed_21 rfl (lv_at hl 1 rfl) ?_
      obtain ⟨tN, htNZ, htNT⟩ := hE.2.2 kf_zN (by simp [kf_zs])
      refine va_gets hx hb htNZ hS hown (hts _ q2_21) (fun _ h9 => h9) d_FR_isFollowed_22 ?_
      refine lv_iload_n hx hb d_FR_isFollowed_25 rfl (lv_at hl 0 rfl) ?_
      refine lv_iconst (v := 1) hx hb d_FR_isFollowed_26 (by decide) ?_
      refine lv_iadd hx hb d_FR_isFollowed_27 ?_
      refine kf_ti (y := nI (2 * k + 1)) (nI_1 _) ?_
      refine va_ti hx hb htNT hS (vp_in_nI (n := 2 * k + 1) (N := 10) (by omega) (by decide)) (v := .int (ky_not (2 * k + 1))) (by show Value.int (ky_not (nI (2 * k + 1)).toNatClampNeg) = _; rw [nI_clamp (by omega)]) d_FR_isFollowed_28 ?_
      refine lv_icmp_gt (tgt := 34) hx hb d_FR_isFollowed_29 (by decide) (fun c29 => ?_) (fun c29 => ?_)
      · refine lv_iinc (v := nI (2 * (k + 1))) (lv' := [(1, .int (nI (2 * (k + 1)))), (0, .int p0)]) hx hb d_FR_isFollowed_34 hl (k := 0) rfl (by rw [show 2 * (k + 1) = 2 * k + 2 by omega, ← nI_add]; rfl) (by decide) rfl (fun ls hl => ?_)
        refine lv_goto (tgt := 2) hx hb d_FR_isFollowed_37 (by decide) ?_
        exact ih (k + 1) _ _ _ (by omega) ⟨by omega, fun j hj => by rcases (show j < k ∨ j = k by omega) with q | rfl; exact hno j q; exact (fun q => q.2 c29), lv_sub hl [0, 1] rfl, hP, hD, hS⟩
      · refine lv_iconst (v := 0) hx hb d_FR_isFollowed_32 (by decide) ?_
        exact kf_zr hx hb hr hlocks hP hD hS (kP_f (fun q => q k hkn ⟨c18, c29⟩)) (kP_nar) d_FR_isFollowed_33
  · refine lv_iload_n hx hb d_FR_isFollowed_2 rfl (lv_at hl 0 rfl) ?_
    refine lv_iconst (v := 1) hx hb d_FR_isFollowed_3 (by decide) ?_
    refine lv_iadd hx hb d_FR_isFollowed_4 ?_
    refine kf_ti (y := nI (2 * k + 1)) (nI_1 _) ?_
    obtain ⟨tN, htNZ, htNT⟩ := hE.2.2 kf_zN (by simp [kf_zs])
    refine va_gets hx hb htNZ hS hown (hts _ q2_21) (fun _ h9 => h9) d_FR_isFollowed_5 ?_
    refine va_tlen hx hb htNT hS (v := 10) (by decide) d_FR_isFollowed_8 ?_
    refine lv_icmp_ge (tgt := 40) hx hb d_FR_isFollowed_9 (by decide) (fun c9 => ?_) (fun c9 => absurd (nI_le (a := 10) (b := 2 * k + 1) (by omega) (by omega)) c9)
    refine lv_iconst (v := 1) hx hb d_FR_isFollowed_40 (by decide) ?_
    exact kf_zr hx hb hr hlocks hP hD hS (kP_t (fun j hj => hno j (by omega))) (kP_nar) d_FR_isFollowed_41

set_option maxRecDepth 100000 in
set_option maxHeartbeats 4000000 in
theorem c_FR_isGroupOfRightRow (l : Launch) (D : va_G) (cB cI : ClassId) (hz : Nat) (x : Nat) (r0 : Nat) (b0 : Nat) (r1 : Nat) (b1 : Nat) (tr : Nat) (bt : Nat) (vo : Nat) (f0 : Nat → Int32) (f1 : Nat → Int32) (u : (Nat → Int32) × (Nat → Int64) × Int32) (p1 : Int32) : kf_Ct l y_FR_isGroupOfRightRow w_FR_isGroupOfRightRow 5 110 0 0 D (kT cB cI) [.ref x, .int p1] [(x, .inr (2, [.ref r0, .ref r1, .ref tr, .ref vo])), (r0, .inr (0, [.ref b0])), (b0, .inl (cB, 1024, .inl f0)), (r1, .inr (0, [.ref b1])), (b1, .inl (cB, 1024, .inl f1)), (tr, .inr (0, [.ref bt])), (bt, .inl (cB, 1024, .inl u.1)), (vo, .inr (1, [.long (u.2.1 0), .long (u.2.1 1), .long (u.2.1 2), .long (u.2.1 3), .long (u.2.1 4), .long (u.2.1 5), .long (u.2.1 6), .long (u.2.1 7), .int u.2.2, .long (u.2.1 9), .long (u.2.1 10), .long (u.2.1 11)]))] hz (some (.int (kP (kr_grP f0 p1)))) (kf_po D [(x, .inr (2, [.ref r0, .ref r1, .ref tr, .ref vo])), (r0, .inr (0, [.ref b0])), (b0, .inl (cB, 1024, .inl f0)), (r1, .inr (0, [.ref b1])), (b1, .inl (cB, 1024, .inl f1)), (tr, .inr (0, [.ref bt])), (bt, .inl (cB, 1024, .inl u.1)), (vo, .inr (1, [.long (lN (ky_le f0 0 4)), .long (lN (ky_le f0 4 4)), .long (lN (ky_le f0 20 4)), .long (lN (ky_le f0 24 4)), .long (kv_size f0), .long (lN (ky_le f0 32 4)), .long (lN (ky_le f0 40 4)), .long (lN (ky_le f0 88 2)), .int (kv_few f0), .long (kv_gc f0), .long (kv_cb f0), .long (kv_rk f0)]))]) := by
  refine kf_of (cc := b_FR_isGroupOfRightRow) (maxL := 2) (ret := (some .boolean)) (by decide) rfl (Nat.le_of_ble_eq_true rfl) ?_
  intro p e s m below meth c A H locs hx hb hr hml hown hts hlocks hin hP hD hS hA hE ls hl
  have hl : lv_has ls 2 [(0, .ref x), (1, .int p1)] := hl
  refine lv_aload_n hx hb d_FR_isGroupOfRightRow_0 rfl (lv_at hl 0 rfl) ?_
  refine va_get (D := D) (ci := 2) (v := .ref vo) (C := "FieldRows") (T := F_FR) (N := 4) hx hb hts ku_FR hown hE.1 hP 0 rfl rfl 3 (by decide) (hts _ q1_211) (fun _ h9 => h9) rfl d_FR_isGroupOfRightRow_1 ?_
  refine lv_aload_n hx hb d_FR_isGroupOfRightRow_4 rfl (lv_at hl 0 rfl) ?_
  refine va_get (D := D) (ci := 2) (v := .ref r0) (C := "FieldRows") (T := F_FR) (N := 4) hx hb hts ku_FR hown hE.1 hP 0 rfl rfl 0 (by decide) (hts _ q1_208) (fun _ h9 => h9) rfl d_FR_isGroupOfRightRow_5 ?_
  refine kf_kc (wr := [(x, .inr (2, [.ref r0, .ref r1, .ref tr, .ref vo])), (r1, .inr (0, [.ref b1])), (b1, .inl (cB, 1024, .inl f1)), (tr, .inr (0, [.ref bt])), (bt, .inl (cB, 1024, .inl u.1))]) (w1 := [(vo, .inr (1, [.long (lN (ky_le f0 0 4)), .long (lN (ky_le f0 4 4)), .long (lN (ky_le f0 20 4)), .long (lN (ky_le f0 24 4)), .long (kv_size f0), .long (lN (ky_le f0 32 4)), .long (lN (ky_le f0 40 4)), .long (lN (ky_le f0 88 2)), .int (kv_few f0), .long (kv_gc f0), .long (kv_cb f0), .long (kv_rk f0)])), (r0, .inr (0, [.ref b0])), (b0, .inl (cB, 1024, .inl f0))]) (ws2 := [(x, .inr (2, [.ref r0, .ref r1, .ref tr, .ref vo])), (r0, .inr (0, [.ref b0])), (b0, .inl (cB, 1024, .inl f0)), (r1, .inr (0, [.ref b1])), (b1, .inl (cB, 1024, .inl f1)), (tr, .inr (0, [.ref bt])), (bt, .inl (cB, 1024, .inl u.1)), (vo, .inr (1, [.long (lN (ky_le f0 0 4)), .long (lN (ky_le f0 4 4)), .long (lN (ky_le f0 20 4)), .long (lN (ky_le f0 24 4)), .long (kv_size f0), .long (lN (ky_le f0 32 4)), .long (lN (ky_le f0 40 4)), .long (lN (ky_le f0 88 2)), .int (kv_few f0), .long (kv_gc f0), .long (kv_cb f0), .long (kv_rk f0)]))]) hP hD hS hA [7, 1, 2] [0, 3, 4, 5, 6] [0, 6, 7, 1, 2, 3, 4, 5] rfl rfl rfl (by decide) rfl rfl (va_runV (As := [.ref r0]) (rest := []) ⟨hx, hb, hml, hown, hts⟩ (c_Vol_firstFaultOf l D cB cI _ vo (u.2.1 0) (u.2.1 1) (u.2.1 2) (u.2.1 3) (u.2.1 4) (u.2.1 5) (u.2.1 6) (u.2.1 7) u.2.2 (u.2.1 9) (u.2.1 10) (u.2.1 11) r0 b0 f0) ⟨callB_of 1 hts g_Vol_firstFaultOf rfl rfl rfl (hts _ q1_3) (hts _ q1_122) h_Vol_firstFaultOf ⟨Nat.le_of_ble_eq_true rfl, Nat.le_of_ble_eq_true rfl⟩, (hts _ q1_123), (hts _ q1_124)⟩ ⟨kf_bl, va_recv hE.1 hP (ci := 1) (q0 := 7) rfl rfl, kf_to hP hD hS hA hE [7, 1, 2] rfl rfl⟩ rfl rfl hl.1 rfl (lv_room (Nat.le_of_ble_eq_true rfl)) d_FR_isGroupOfRightRow_8 ⟨Nat.zero_le _, Nat.zero_le _⟩) (fun H locs hP hD hS => ?_)
  refine W.eq (g2 := F0 m 11 ls [.int (kv_fault f0)]) rfl ?_
  refine lv_bipush (v := -2) hx hb d_FR_isGroupOfRightRow_11 (by decide) ?_
  refine lv_icmp_ne (tgt := 37) hx hb d_FR_isGroupOfRightRow_13 (by decide) (fun c13 => ?_) (fun c13 => ?_)
  · refine lv_iconst (v := 0) hx hb d_FR_isGroupOfRightRow_37 (by decide) ?_
    exact kf_zr hx hb hr hlocks hP hD hS (kP_f (by clear hP hD hS hA hE hts hl; grind)) (kP_nar) d_FR_isGroupOfRightRow_38
  · refine lv_iload_n hx hb d_FR_isGroupOfRightRow_16 rfl (lv_at hl 1 rfl) ?_
    refine lv_if_lt (tgt := 37) hx hb d_FR_isGroupOfRightRow_17 (by decide) (fun c17 => ?_) (fun c17 => ?_)
    · refine lv_iconst (v := 0) hx hb d_FR_isGroupOfRightRow_37 (by decide) ?_
      exact kf_zr hx hb hr hlocks hP hD hS (kP_f (by clear hP hD hS hA hE hts hl; grind)) (kP_nar) d_FR_isGroupOfRightRow_38
    · refine lv_iload_n hx hb d_FR_isGroupOfRightRow_20 rfl (lv_at hl 1 rfl) ?_
      refine lv_i2l hx hb d_FR_isGroupOfRightRow_21 rfl ?_
      refine lv_aload_n hx hb d_FR_isGroupOfRightRow_22 rfl (lv_at hl 0 rfl) ?_
      refine va_get (D := D) (ci := 2) (v := .ref vo) (C := "FieldRows") (T := F_FR) (N := 4) hx hb hts ku_FR hown hE.1 hP 0 rfl rfl 3 (by decide) (hts _ q1_211) (fun _ h9 => h9) rfl d_FR_isGroupOfRightRow_23 ?_
      refine va_getN (D := D) (ci := 1) (v := .long (kv_gc f0)) (C := "FieldRows$Volume") (T := F_Vol) (N := 12) hx hb hts ku_Vol hown hE.1 hP 7 rfl rfl 9 (by decide) (va_Nw.use rfl (hE.2.1 _ q1_45)) (fun _ h9 => h9) rfl d_FR_isGroupOfRightRow_26 ?_
      refine kf_lc_ge (tgt := 37) hx hb d_FR_isGroupOfRightRow_29 d_FR_isGroupOfRightRow_30 (by decide) (fun c29 => ?_) (fun c29 => ?_)
      · refine lv_iconst (v := 0) hx hb d_FR_isGroupOfRightRow_37 (by decide) ?_
        exact kf_zr hx hb hr hlocks hP hD hS (kP_f (by clear hP hD hS hA hE hts hl; grind)) (kP_nar) d_FR_isGroupOfRightRow_38
      · refine lv_iconst (v := 1) hx hb d_FR_isGroupOfRightRow_33 (by decide) ?_
        refine lv_goto (tgt := 38) hx hb d_FR_isGroupOfRightRow_34 (by decide) ?_
        exact kf_zr hx hb hr hlocks hP hD hS (kP_t (by clear hP hD hS hA hE hts hl; grind)) (kP_nar) d_FR_isGroupOfRightRow_38

set_option maxRecDepth 100000 in
set_option maxHeartbeats 4000000 in
theorem c_FR_get (l : Launch) (D : va_G) (cB cI : ClassId) (hz : Nat) (x : Nat) (r0 : Nat) (b0 : Nat) (r1 : Nat) (b1 : Nat) (tr : Nat) (bt : Nat) (vo : Nat) (f0 : Nat → Int32) (f1 : Nat → Int32) (u : (Nat → Int32) × (Nat → Int64) × Int32) (p1 : Int32) (p2 : Int32) (p3 : Int32) : kf_Ct l y_FR_get w_FR_get 2 46 0 0 D (kT cB cI) [.ref x, .int p1, .int p2, .int p3] [(x, .inr (2, [.ref r0, .ref r1, .ref tr, .ref vo])), (r0, .inr (0, [.ref b0])), (b0, .inl (cB, 1024, .inl f0)), (r1, .inr (0, [.ref b1])), (b1, .inl (cB, 1024, .inl f1)), (tr, .inr (0, [.ref bt])), (bt, .inl (cB, 1024, .inl u.1)), (vo, .inr (1, [.long (u.2.1 0), .long (u.2.1 1), .long (u.2.1 2), .long (u.2.1 3), .long (u.2.1 4), .long (u.2.1 5), .long (u.2.1 6), .long (u.2.1 7), .int u.2.2, .long (u.2.1 9), .long (u.2.1 10), .long (u.2.1 11)]))] hz (some (.long (if p1 = 0 then ky_fl f0 p2 p3 else if p1 = 1 then ky_fl f1 p2 p3 else -1))) (kx_FR D cB x r0 b0 r1 b1 tr bt vo f0 f1) := by
  refine kf_of (cc := b_FR_get) (maxL := 5) (ret := (some .long)) (by decide) rfl (Nat.le_of_ble_eq_true rfl) ?_
  intro p e s m below meth c A H locs hx hb hr hml hown hts hlocks hin hP hD hS hA hE ls hl
  have hl : lv_has ls 5 [(0, .ref x), (1, .int p1), (2, .int p2), (3, .int p3)] := hl
  rcases ky_row p1 with rfl | rfl | ⟨hn0, hn1⟩
  · refine lv_aload_n hx hb d_FR_get_0 rfl (lv_at hl 0 rfl) ?_
    refine lv_iload_n hx hb d_FR_get_1 rfl (lv_at hl 1 rfl) ?_
    refine kf_ro hP hD hS hA [0] rfl (va_runV (As := [.int 0]) (rest := []) ⟨hx, hb, hml, hown, hts⟩ (c_FR_rowOf_0 l D cB cI _ x r0 r1 tr vo) ⟨callB_of 1 hts g_FR_rowOf rfl rfl rfl (hts _ q1_1) (hts _ q1_226) h_FR_rowOf ⟨Nat.le_of_ble_eq_true rfl, Nat.le_of_ble_eq_true rfl⟩, (hts _ q1_228), (hts _ q0_6)⟩ ⟨kf_bl, va_recv hE.1 hP (ci := 2) (q0 := 0) rfl rfl, kf_to hP hD hS hA hE [0] rfl rfl⟩ rfl rfl hl.1 rfl (lv_room (Nat.le_of_ble_eq_true rfl)) d_FR_get_2 ⟨Nat.zero_le _, Nat.zero_le _⟩) (fun H locs hP hS => ?_)
    refine W.eq (g2 := F0 m 5 ls [.ref r0]) rfl ?_
    refine lv_astore (lv' := [(4, .ref r0), (0, .ref x), (1, .int 0), (2, .int p2), (3, .int p3)]) hx hb d_FR_get_5 hl (by decide) rfl (fun ls hl => ?_)
    refine lv_aload hx hb d_FR_get_7 (lv_at hl 0 rfl) ?_
    refine lv_ifnonnull (tgt := 18) hx hb d_FR_get_9 (by decide) ?_
    refine lv_aload hx hb d_FR_get_18 (lv_at hl 0 rfl) ?_
    refine lv_iload_n hx hb d_FR_get_20 rfl (lv_at hl 3 rfl) ?_
    refine lv_iload_n hx hb d_FR_get_21 rfl (lv_at hl 4 rfl) ?_
    refine kf_ro hP hD hS hA [1, 2] rfl (va_runV (As := [.int p2, .int p3]) (rest := []) ⟨hx, hb, hml, hown, hts⟩ (c_Row_field l D cB cI _ r0 b0 f0 p2 p3) ⟨callB_of 2 hts g_Row_field rfl rfl rfl (hts _ q1_2) (hts _ q1_231) h_Row_field ⟨Nat.le_of_ble_eq_true rfl, Nat.le_of_ble_eq_true rfl⟩, (hts _ q1_110), (hts _ q1_111)⟩ ⟨kf_bl, va_recv hE.1 hP (ci := 0) (q0 := 1) rfl rfl, kf_to hP hD hS hA hE [1, 2] rfl rfl⟩ rfl rfl hl.1 rfl (lv_room (Nat.le_of_ble_eq_true rfl)) d_FR_get_22 ⟨Nat.zero_le _, Nat.zero_le _⟩) (fun H locs hP hS => ?_)
    refine W.eq (g2 := F0 m 25 ls [.long (ky_fl f0 p2 p3)]) rfl ?_
    exact kf_lrB hx hb hr hlocks (kx_at hP hD) hS (by rw [if_pos rfl]) d_FR_get_25
  · refine lv_aload_n hx hb d_FR_get_0 rfl (lv_at hl 0 rfl) ?_
    refine lv_iload_n hx hb d_FR_get_1 rfl (lv_at hl 1 rfl) ?_
    refine kf_ro hP hD hS hA [0] rfl (va_runV (As := [.int 1]) (rest := []) ⟨hx, hb, hml, hown, hts⟩ (c_FR_rowOf_1 l D cB cI _ x r0 r1 tr vo) ⟨callB_of 1 hts g_FR_rowOf rfl rfl rfl (hts _ q1_1) (hts _ q1_226) h_FR_rowOf ⟨Nat.le_of_ble_eq_true rfl, Nat.le_of_ble_eq_true rfl⟩, (hts _ q1_228), (hts _ q0_6)⟩ ⟨kf_bl, va_recv hE.1 hP (ci := 2) (q0 := 0) rfl rfl, kf_to hP hD hS hA hE [0] rfl rfl⟩ rfl rfl hl.1 rfl (lv_room (Nat.le_of_ble_eq_true rfl)) d_FR_get_2 ⟨Nat.zero_le _, Nat.zero_le _⟩) (fun H locs hP hS => ?_)
    refine W.eq (g2 := F0 m 5 ls [.ref r1]) rfl ?_
    refine lv_astore (lv' := [(4, .ref r1), (0, .ref x), (1, .int 1), (2, .int p2), (3, .int p3)]) hx hb d_FR_get_5 hl (by decide) rfl (fun ls hl => ?_)
    refine lv_aload hx hb d_FR_get_7 (lv_at hl 0 rfl) ?_
    refine lv_ifnonnull (tgt := 18) hx hb d_FR_get_9 (by decide) ?_
    refine lv_aload hx hb d_FR_get_18 (lv_at hl 0 rfl) ?_
    refine lv_iload_n hx hb d_FR_get_20 rfl (lv_at hl 3 rfl) ?_
    refine lv_iload_n hx hb d_FR_get_21 rfl (lv_at hl 4 rfl) ?_
    refine kf_ro hP hD hS hA [3, 4] rfl (va_runV (As := [.int p2, .int p3]) (rest := []) ⟨hx, hb, hml, hown, hts⟩ (c_Row_field l D cB cI _ r1 b1 f1 p2 p3) ⟨callB_of 2 hts g_Row_field rfl rfl rfl (hts _ q1_2) (hts _ q1_231) h_Row_field ⟨Nat.le_of_ble_eq_true rfl, Nat.le_of_ble_eq_true rfl⟩, (hts _ q1_110), (hts _ q1_111)⟩ ⟨kf_bl, va_recv hE.1 hP (ci := 0) (q0 := 3) rfl rfl, kf_to hP hD hS hA hE [3, 4] rfl rfl⟩ rfl rfl hl.1 rfl (lv_room (Nat.le_of_ble_eq_true rfl)) d_FR_get_22 ⟨Nat.zero_le _, Nat.zero_le _⟩) (fun H locs hP hS => ?_)
    refine W.eq (g2 := F0 m 25 ls [.long (ky_fl f1 p2 p3)]) rfl ?_
    exact kf_lrB hx hb hr hlocks (kx_at hP hD) hS (by rw [if_neg (by decide), if_pos rfl]) d_FR_get_25
  · refine lv_aload_n hx hb d_FR_get_0 rfl (lv_at hl 0 rfl) ?_
    refine lv_iload_n hx hb d_FR_get_1 rfl (lv_at hl 1 rfl) ?_
    refine kf_ro hP hD hS hA [0] rfl (va_runV (As := [.int p1]) (rest := []) ⟨hx, hb, hml, hown, hts⟩ (c_FR_rowOf_n l D cB cI _ x r0 r1 tr vo p1 hn0 hn1) ⟨callB_of 1 hts g_FR_rowOf rfl rfl rfl (hts _ q1_1) (hts _ q1_226) h_FR_rowOf ⟨Nat.le_of_ble_eq_true rfl, Nat.le_of_ble_eq_true rfl⟩, (hts _ q1_228), (hts _ q0_6)⟩ ⟨kf_bl, va_recv hE.1 hP (ci := 2) (q0 := 0) rfl rfl, kf_to hP hD hS hA hE [0] rfl rfl⟩ rfl rfl hl.1 rfl (lv_room (Nat.le_of_ble_eq_true rfl)) d_FR_get_2 ⟨Nat.zero_le _, Nat.zero_le _⟩) (fun H locs hP hS => ?_)
    refine W.eq (g2 := F0 m 5 ls [.null]) rfl ?_
    refine lv_astoreN (lv' := [(4, .null), (0, .ref x), (1, .int p1), (2, .int p2), (3, .int p3)]) hx hb d_FR_get_5 hl (by decide) rfl (fun ls hl => ?_)
    refine lv_aloadN hx hb d_FR_get_7 (lv_at hl 0 rfl) ?_
    refine lv_ifnonnullN hx hb d_FR_get_9 ?_
    refine lv_ldc2 (v := -1) hx hb hown (hts _ q2_0) d_FR_get_12 ?_
    refine lv_goto (tgt := 25) hx hb d_FR_get_15 (by decide) ?_
    exact kf_lrB hx hb hr hlocks (kx_at hP hD) hS (by rw [if_neg hn0, if_neg hn1]) d_FR_get_25

theorem ky_ww_no (f : Nat → Int32) (a n : Int32) (v : Int64) (h : ¬ ky_isFP a n) : ky_ww f a n v = f := if_neg h
set_option maxRecDepth 100000 in
set_option maxHeartbeats 4000000 in
theorem c_FR_put (l : Launch) (D : va_G) (cB cI : ClassId) (hz : Nat) (x : Nat) (r0 : Nat) (b0 : Nat) (r1 : Nat) (b1 : Nat) (tr : Nat) (bt : Nat) (vo : Nat) (f0 : Nat → Int32) (f1 : Nat → Int32) (u : (Nat → Int32) × (Nat → Int64) × Int32) (p1 : Int32) (p2 : Int32) (p3 : Int32) (p4 : Int32) : kf_Ct l y_FR_put w_FR_put 2 46 0 0 D (kT cB cI) [.ref x, .int p1, .int p2, .int p3, .int p4] [(x, .inr (2, [.ref r0, .ref r1, .ref tr, .ref vo])), (r0, .inr (0, [.ref b0])), (b0, .inl (cB, 1024, .inl f0)), (r1, .inr (0, [.ref b1])), (b1, .inl (cB, 1024, .inl f1)), (tr, .inr (0, [.ref bt])), (bt, .inl (cB, 1024, .inl u.1)), (vo, .inr (1, [.long (u.2.1 0), .long (u.2.1 1), .long (u.2.1 2), .long (u.2.1 3), .long (u.2.1 4), .long (u.2.1 5), .long (u.2.1 6), .long (u.2.1 7), .int u.2.2, .long (u.2.1 9), .long (u.2.1 10), .long (u.2.1 11)]))] hz (some (.int (if (p1 = 0 ∨ p1 = 1) ∧ ky_isFP p2 p3 then 0 else -1))) (kx_FR D cB x r0 b0 r1 b1 tr bt vo (if p1 = 0 then ky_ww f0 p2 p3 p4.toInt64 else f0) (if p1 = 1 then ky_ww f1 p2 p3 p4.toInt64 else f1)) := by
  refine kf_of (cc := b_FR_put) (maxL := 6) (ret := (some .int)) (by decide) rfl (Nat.le_of_ble_eq_true rfl) ?_
  intro p e s m below meth c A H locs hx hb hr hml hown hts hlocks hin hP hD hS hA hE ls hl
  have hl : lv_has ls 6 [(0, .ref x), (1, .int p1), (2, .int p2), (3, .int p3), (4, .int p4)] := hl
  rcases ky_row p1 with rfl | rfl | ⟨hn0, hn1⟩
  · refine lv_aload_n hx hb d_FR_put_0 rfl (lv_at hl 0 rfl) ?_
    refine lv_iload_n hx hb d_FR_put_1 rfl (lv_at hl 1 rfl) ?_
    refine kf_ro hP hD hS hA [0] rfl (va_runV (As := [.int 0]) (rest := []) ⟨hx, hb, hml, hown, hts⟩ (c_FR_rowOf_0 l D cB cI _ x r0 r1 tr vo) ⟨callB_of 1 hts g_FR_rowOf rfl rfl rfl (hts _ q1_1) (hts _ q1_226) h_FR_rowOf ⟨Nat.le_of_ble_eq_true rfl, Nat.le_of_ble_eq_true rfl⟩, (hts _ q1_228), (hts _ q0_6)⟩ ⟨kf_bl, va_recv hE.1 hP (ci := 2) (q0 := 0) rfl rfl, kf_to hP hD hS hA hE [0] rfl rfl⟩ rfl rfl hl.1 rfl (lv_room (Nat.le_of_ble_eq_true rfl)) d_FR_put_2 ⟨Nat.zero_le _, Nat.zero_le _⟩) (fun H locs hP hS => ?_)
    refine W.eq (g2 := F0 m 5 ls [.ref r0]) rfl ?_
    refine lv_astore (lv' := [(5, .ref r0), (0, .ref x), (1, .int 0), (2, .int p2), (3, .int p3), (4, .int p4)]) hx hb d_FR_put_5 hl (by decide) rfl (fun ls hl => ?_)
    refine lv_aload hx hb d_FR_put_7 (lv_at hl 0 rfl) ?_
    refine lv_ifnull hx hb d_FR_put_9 ?_
    refine lv_iload_n hx hb d_FR_put_12 rfl (lv_at hl 3 rfl) ?_
    refine lv_iload_n hx hb d_FR_put_13 rfl (lv_at hl 4 rfl) ?_
    refine kf_ro hP hD hS hA [] rfl (va_runS (As := [.int p2, .int p3]) (rest := []) ⟨hx, hb, hml, hown, hts⟩ (c_FR_isField l D cB cI _ p2 p3) ⟨callB_of 2 hts g_FR_isField rfl rfl rfl (hts _ q1_1) (hts _ q1_230) h_FR_isField ⟨Nat.le_of_ble_eq_true rfl, Nat.le_of_ble_eq_true rfl⟩, (hts _ q1_93)⟩ ⟨kf_bl, kf_to hP hD hS hA hE [] rfl rfl⟩ rfl rfl hl.1 rfl (lv_room (Nat.le_of_ble_eq_true rfl)) d_FR_put_14 ⟨Nat.zero_le _, Nat.zero_le _⟩) (fun H locs hP hS => ?_)
    refine W.eq (g2 := F0 m 17 ls [.int (kP (ky_isFP p2 p3))]) rfl ?_
    refine lv_if_ne (tgt := 22) hx hb d_FR_put_17 (by decide) (fun c17 => ?_) (fun c17 => ?_)
    · refine lv_aload hx hb d_FR_put_22 (lv_at hl 0 rfl) ?_
      refine lv_iload_n hx hb d_FR_put_24 rfl (lv_at hl 3 rfl) ?_
      refine lv_iload_n hx hb d_FR_put_25 rfl (lv_at hl 4 rfl) ?_
      refine lv_iload hx hb d_FR_put_26 (lv_at hl 5 rfl) ?_
      refine lv_i2l hx hb d_FR_put_28 rfl ?_
      refine kf_kc (wr := [(x, .inr (2, [.ref r0, .ref r1, .ref tr, .ref vo])), (r1, .inr (0, [.ref b1])), (b1, .inl (cB, 1024, .inl f1)), (tr, .inr (0, [.ref bt])), (bt, .inl (cB, 1024, .inl u.1)), (vo, .inr (1, [.long (u.2.1 0), .long (u.2.1 1), .long (u.2.1 2), .long (u.2.1 3), .long (u.2.1 4), .long (u.2.1 5), .long (u.2.1 6), .long (u.2.1 7), .int u.2.2, .long (u.2.1 9), .long (u.2.1 10), .long (u.2.1 11)]))]) (w1 := [(r0, .inr (0, [.ref b0])), (b0, .inl (cB, 1024, .inl (ky_ww f0 p2 p3 p4.toInt64)))]) (ws2 := [(x, .inr (2, [.ref r0, .ref r1, .ref tr, .ref vo])), (r0, .inr (0, [.ref b0])), (b0, .inl (cB, 1024, .inl (ky_ww f0 p2 p3 p4.toInt64))), (r1, .inr (0, [.ref b1])), (b1, .inl (cB, 1024, .inl f1)), (tr, .inr (0, [.ref bt])), (bt, .inl (cB, 1024, .inl u.1)), (vo, .inr (1, [.long (u.2.1 0), .long (u.2.1 1), .long (u.2.1 2), .long (u.2.1 3), .long (u.2.1 4), .long (u.2.1 5), .long (u.2.1 6), .long (u.2.1 7), .int u.2.2, .long (u.2.1 9), .long (u.2.1 10), .long (u.2.1 11)]))]) hP hD hS hA [1, 2] [0, 3, 4, 5, 6, 7] [0, 6, 7, 1, 2, 3, 4, 5] rfl rfl rfl (by decide) rfl rfl (va_runV (As := [.int p2, .int p3, .long p4.toInt64]) (rest := []) ⟨hx, hb, hml, hown, hts⟩ (c_Row_write l D cB cI _ r0 b0 f0 p2 p3 p4.toInt64) ⟨callB_of 3 hts g_Row_write rfl rfl rfl (hts _ q1_2) (hts _ q1_101) h_Row_write ⟨Nat.le_of_ble_eq_true rfl, Nat.le_of_ble_eq_true rfl⟩, (hts _ q1_89), (hts _ q1_90)⟩ ⟨kf_bl, va_recv hE.1 hP (ci := 0) (q0 := 1) rfl rfl, kf_to hP hD hS hA hE [1, 2] rfl rfl⟩ rfl rfl hl.1 rfl (lv_room (Nat.le_of_ble_eq_true rfl)) d_FR_put_29 ⟨Nat.zero_le _, Nat.zero_le _⟩) (fun H locs hP hD hS => ?_)
      refine W.eq (g2 := F0 m 32 ls []) rfl ?_
      refine lv_iconst (v := 0) hx hb d_FR_put_32 (by decide) ?_
      have hf := kP_ne c17
      simp only [if_pos (rfl : (0 : Int32) = 0), if_neg (show ¬ (0 : Int32) = 1 by decide)]
      exact kf_irB hx hb hr hlocks (kx_at hP hD) hS (by simp [hf]) d_FR_put_33
    · refine lv_iconst (v := -1) hx hb d_FR_put_20 (by decide) ?_
      have hf := kP_eq c17
      have hw := ky_ww_no f0 p2 p3 p4.toInt64 hf
      simp only [if_pos (rfl : (0 : Int32) = 0), if_neg (show ¬ (0 : Int32) = 1 by decide), hw]
      exact kf_irB hx hb hr hlocks (kx_at hP hD) hS (by rw [if_neg (fun q => hf q.2)]) d_FR_put_21
  · refine lv_aload_n hx hb d_FR_put_0 rfl (lv_at hl 0 rfl) ?_
    refine lv_iload_n hx hb d_FR_put_1 rfl (lv_at hl 1 rfl) ?_
    refine kf_ro hP hD hS hA [0] rfl (va_runV (As := [.int 1]) (rest := []) ⟨hx, hb, hml, hown, hts⟩ (c_FR_rowOf_1 l D cB cI _ x r0 r1 tr vo) ⟨callB_of 1 hts g_FR_rowOf rfl rfl rfl (hts _ q1_1) (hts _ q1_226) h_FR_rowOf ⟨Nat.le_of_ble_eq_true rfl, Nat.le_of_ble_eq_true rfl⟩, (hts _ q1_228), (hts _ q0_6)⟩ ⟨kf_bl, va_recv hE.1 hP (ci := 2) (q0 := 0) rfl rfl, kf_to hP hD hS hA hE [0] rfl rfl⟩ rfl rfl hl.1 rfl (lv_room (Nat.le_of_ble_eq_true rfl)) d_FR_put_2 ⟨Nat.zero_le _, Nat.zero_le _⟩) (fun H locs hP hS => ?_)
    refine W.eq (g2 := F0 m 5 ls [.ref r1]) rfl ?_
    refine lv_astore (lv' := [(5, .ref r1), (0, .ref x), (1, .int 1), (2, .int p2), (3, .int p3), (4, .int p4)]) hx hb d_FR_put_5 hl (by decide) rfl (fun ls hl => ?_)
    refine lv_aload hx hb d_FR_put_7 (lv_at hl 0 rfl) ?_
    refine lv_ifnull hx hb d_FR_put_9 ?_
    refine lv_iload_n hx hb d_FR_put_12 rfl (lv_at hl 3 rfl) ?_
    refine lv_iload_n hx hb d_FR_put_13 rfl (lv_at hl 4 rfl) ?_
    refine kf_ro hP hD hS hA [] rfl (va_runS (As := [.int p2, .int p3]) (rest := []) ⟨hx, hb, hml, hown, hts⟩ (c_FR_isField l D cB cI _ p2 p3) ⟨callB_of 2 hts g_FR_isField rfl rfl rfl (hts _ q1_1) (hts _ q1_230) h_FR_isField ⟨Nat.le_of_ble_eq_true rfl, Nat.le_of_ble_eq_true rfl⟩, (hts _ q1_93)⟩ ⟨kf_bl, kf_to hP hD hS hA hE [] rfl rfl⟩ rfl rfl hl.1 rfl (lv_room (Nat.le_of_ble_eq_true rfl)) d_FR_put_14 ⟨Nat.zero_le _, Nat.zero_le _⟩) (fun H locs hP hS => ?_)
    refine W.eq (g2 := F0 m 17 ls [.int (kP (ky_isFP p2 p3))]) rfl ?_
    refine lv_if_ne (tgt := 22) hx hb d_FR_put_17 (by decide) (fun c17 => ?_) (fun c17 => ?_)
    · refine lv_aload hx hb d_FR_put_22 (lv_at hl 0 rfl) ?_
      refine lv_iload_n hx hb d_FR_put_24 rfl (lv_at hl 3 rfl) ?_
      refine lv_iload_n hx hb d_FR_put_25 rfl (lv_at hl 4 rfl) ?_
      refine lv_iload hx hb d_FR_put_26 (lv_at hl 5 rfl) ?_
      refine lv_i2l hx hb d_FR_put_28 rfl ?_
      refine kf_kc (wr := [(x, .inr (2, [.ref r0, .ref r1, .ref tr, .ref vo])), (r0, .inr (0, [.ref b0])), (b0, .inl (cB, 1024, .inl f0)), (tr, .inr (0, [.ref bt])), (bt, .inl (cB, 1024, .inl u.1)), (vo, .inr (1, [.long (u.2.1 0), .long (u.2.1 1), .long (u.2.1 2), .long (u.2.1 3), .long (u.2.1 4), .long (u.2.1 5), .long (u.2.1 6), .long (u.2.1 7), .int u.2.2, .long (u.2.1 9), .long (u.2.1 10), .long (u.2.1 11)]))]) (w1 := [(r1, .inr (0, [.ref b1])), (b1, .inl (cB, 1024, .inl (ky_ww f1 p2 p3 p4.toInt64)))]) (ws2 := [(x, .inr (2, [.ref r0, .ref r1, .ref tr, .ref vo])), (r0, .inr (0, [.ref b0])), (b0, .inl (cB, 1024, .inl f0)), (r1, .inr (0, [.ref b1])), (b1, .inl (cB, 1024, .inl (ky_ww f1 p2 p3 p4.toInt64))), (tr, .inr (0, [.ref bt])), (bt, .inl (cB, 1024, .inl u.1)), (vo, .inr (1, [.long (u.2.1 0), .long (u.2.1 1), .long (u.2.1 2), .long (u.2.1 3), .long (u.2.1 4), .long (u.2.1 5), .long (u.2.1 6), .long (u.2.1 7), .int u.2.2, .long (u.2.1 9), .long (u.2.1 10), .long (u.2.1 11)]))]) hP hD hS hA [3, 4] [0, 1, 2, 5, 6, 7] [0, 1, 2, 6, 7, 3, 4, 5] rfl rfl rfl (by decide) rfl rfl (va_runV (As := [.int p2, .int p3, .long p4.toInt64]) (rest := []) ⟨hx, hb, hml, hown, hts⟩ (c_Row_write l D cB cI _ r1 b1 f1 p2 p3 p4.toInt64) ⟨callB_of 3 hts g_Row_write rfl rfl rfl (hts _ q1_2) (hts _ q1_101) h_Row_write ⟨Nat.le_of_ble_eq_true rfl, Nat.le_of_ble_eq_true rfl⟩, (hts _ q1_89), (hts _ q1_90)⟩ ⟨kf_bl, va_recv hE.1 hP (ci := 0) (q0 := 3) rfl rfl, kf_to hP hD hS hA hE [3, 4] rfl rfl⟩ rfl rfl hl.1 rfl (lv_room (Nat.le_of_ble_eq_true rfl)) d_FR_put_29 ⟨Nat.zero_le _, Nat.zero_le _⟩) (fun H locs hP hD hS => ?_)
      refine W.eq (g2 := F0 m 32 ls []) rfl ?_
      refine lv_iconst (v := 0) hx hb d_FR_put_32 (by decide) ?_
      have hf := kP_ne c17
      simp only [if_pos (rfl : (1 : Int32) = 1), if_neg (show ¬ (1 : Int32) = 0 by decide)]
      exact kf_irB hx hb hr hlocks (kx_at hP hD) hS (by simp [hf]) d_FR_put_33
    · refine lv_iconst (v := -1) hx hb d_FR_put_20 (by decide) ?_
      have hf := kP_eq c17
      have hw := ky_ww_no f1 p2 p3 p4.toInt64 hf
      simp only [if_pos (rfl : (1 : Int32) = 1), if_neg (show ¬ (1 : Int32) = 0 by decide), hw]
      exact kf_irB hx hb hr hlocks (kx_at hP hD) hS (by rw [if_neg (fun q => hf q.2)]) d_FR_put_21
  · refine lv_aload_n hx hb d_FR_put_0 rfl (lv_at hl 0 rfl) ?_
    refine lv_iload_n hx hb d_FR_put_1 rfl (lv_at hl 1 rfl) ?_
    refine kf_ro hP hD hS hA [0] rfl (va_runV (As := [.int p1]) (rest := []) ⟨hx, hb, hml, hown, hts⟩ (c_FR_rowOf_n l D cB cI _ x r0 r1 tr vo p1 hn0 hn1) ⟨callB_of 1 hts g_FR_rowOf rfl rfl rfl (hts _ q1_1) (hts _ q1_226) h_FR_rowOf ⟨Nat.le_of_ble_eq_true rfl, Nat.le_of_ble_eq_true rfl⟩, (hts _ q1_228), (hts _ q0_6)⟩ ⟨kf_bl, va_recv hE.1 hP (ci := 2) (q0 := 0) rfl rfl, kf_to hP hD hS hA hE [0] rfl rfl⟩ rfl rfl hl.1 rfl (lv_room (Nat.le_of_ble_eq_true rfl)) d_FR_put_2 ⟨Nat.zero_le _, Nat.zero_le _⟩) (fun H locs hP hS => ?_)
    refine W.eq (g2 := F0 m 5 ls [.null]) rfl ?_
    refine lv_astoreN (lv' := [(5, .null), (0, .ref x), (1, .int p1), (2, .int p2), (3, .int p3), (4, .int p4)]) hx hb d_FR_put_5 hl (by decide) rfl (fun ls hl => ?_)
    refine lv_aloadN hx hb d_FR_put_7 (lv_at hl 0 rfl) ?_
    refine lv_ifnullN (tgt := 20) hx hb d_FR_put_9 (by decide) ?_
    refine lv_iconst (v := -1) hx hb d_FR_put_20 (by decide) ?_
    simp only [if_neg hn0, if_neg hn1]
    exact kf_irB hx hb hr hlocks (kx_at hP hD) hS (by rw [if_neg (fun q => q.1.elim hn0 hn1)]) d_FR_put_21

set_option maxRecDepth 100000 in
set_option maxHeartbeats 4000000 in
theorem c_FR_poke (l : Launch) (D : va_G) (cB cI : ClassId) (hz : Nat) (x : Nat) (r0 : Nat) (b0 : Nat) (r1 : Nat) (b1 : Nat) (tr : Nat) (bt : Nat) (vo : Nat) (f0 : Nat → Int32) (f1 : Nat → Int32) (u : (Nat → Int32) × (Nat → Int64) × Int32) (p1 : Int32) (p2 : Int32) (p3 : Int32) : kf_Ct l y_FR_poke w_FR_poke 2 46 0 0 D (kT cB cI) [.ref x, .int p1, .int p2, .int p3] [(x, .inr (2, [.ref r0, .ref r1, .ref tr, .ref vo])), (r0, .inr (0, [.ref b0])), (b0, .inl (cB, 1024, .inl f0)), (r1, .inr (0, [.ref b1])), (b1, .inl (cB, 1024, .inl f1)), (tr, .inr (0, [.ref bt])), (bt, .inl (cB, 1024, .inl u.1)), (vo, .inr (1, [.long (u.2.1 0), .long (u.2.1 1), .long (u.2.1 2), .long (u.2.1 3), .long (u.2.1 4), .long (u.2.1 5), .long (u.2.1 6), .long (u.2.1 7), .int u.2.2, .long (u.2.1 9), .long (u.2.1 10), .long (u.2.1 11)]))] hz (some (.int (if p1 = 0 ∧ kr_pokeP p2 p3 then (ky_fl f0 p2 1).toInt32 else if p1 = 1 ∧ kr_pokeP p2 p3 then (ky_fl f1 p2 1).toInt32 else -1))) (kx_FR D cB x r0 b0 r1 b1 tr bt vo (if p1 = 0 ∧ kr_pokeP p2 p3 then ky_ww f0 p2 1 p3.toInt64 else f0) (if p1 = 1 ∧ kr_pokeP p2 p3 then ky_ww f1 p2 1 p3.toInt64 else f1)) := by
  refine kf_of (cc := b_FR_poke) (maxL := 6) (ret := (some .int)) (by decide) rfl (Nat.le_of_ble_eq_true rfl) ?_
  intro p e s m below meth c A H locs hx hb hr hml hown hts hlocks hin hP hD hS hA hE ls hl
  have hl : lv_has ls 6 [(0, .ref x), (1, .int p1), (2, .int p2), (3, .int p3)] := hl
  rcases ky_row p1 with rfl | rfl | ⟨hn0, hn1⟩
  · refine lv_aload_n hx hb d_FR_poke_0 rfl (lv_at hl 0 rfl) ?_
    refine lv_iload_n hx hb d_FR_poke_1 rfl (lv_at hl 1 rfl) ?_
    refine kf_ro hP hD hS hA [0] rfl (va_runV (As := [.int 0]) (rest := []) ⟨hx, hb, hml, hown, hts⟩ (c_FR_rowOf_0 l D cB cI _ x r0 r1 tr vo) ⟨callB_of 1 hts g_FR_rowOf rfl rfl rfl (hts _ q1_1) (hts _ q1_226) h_FR_rowOf ⟨Nat.le_of_ble_eq_true rfl, Nat.le_of_ble_eq_true rfl⟩, (hts _ q1_228), (hts _ q0_6)⟩ ⟨kf_bl, va_recv hE.1 hP (ci := 2) (q0 := 0) rfl rfl, kf_to hP hD hS hA hE [0] rfl rfl⟩ rfl rfl hl.1 rfl (lv_room (Nat.le_of_ble_eq_true rfl)) d_FR_poke_2 ⟨Nat.zero_le _, Nat.zero_le _⟩) (fun H locs hP hS => ?_)
    refine W.eq (g2 := F0 m 5 ls [.ref r0]) rfl ?_
    refine lv_astore (lv' := [(4, .ref r0), (0, .ref x), (1, .int 0), (2, .int p2), (3, .int p3)]) hx hb d_FR_poke_5 hl (by decide) rfl (fun ls hl => ?_)
    refine lv_aload hx hb d_FR_poke_7 (lv_at hl 0 rfl) ?_
    refine lv_ifnull hx hb d_FR_poke_9 ?_
    refine lv_iload_n hx hb d_FR_poke_12 rfl (lv_at hl 3 rfl) ?_
    refine lv_iconst (v := 1) hx hb d_FR_poke_13 (by decide) ?_
    refine kf_ro hP hD hS hA [] rfl (va_runS (As := [.int p2, .int 1]) (rest := []) ⟨hx, hb, hml, hown, hts⟩ (c_FR_isField l D cB cI _ p2 1) ⟨callB_of 2 hts g_FR_isField rfl rfl rfl (hts _ q1_1) (hts _ q1_230) h_FR_isField ⟨Nat.le_of_ble_eq_true rfl, Nat.le_of_ble_eq_true rfl⟩, (hts _ q1_93)⟩ ⟨kf_bl, kf_to hP hD hS hA hE [] rfl rfl⟩ rfl rfl hl.1 rfl (lv_room (Nat.le_of_ble_eq_true rfl)) d_FR_poke_14 ⟨Nat.zero_le _, Nat.zero_le _⟩) (fun H locs hP hS => ?_)
    refine W.eq (g2 := F0 m 17 ls [.int (kP (ky_isFP p2 1))]) rfl ?_
    refine lv_if_eq (tgt := 31) hx hb d_FR_poke_17 (by decide) (fun c17 => ?_) (fun c17 => ?_)
    · refine lv_iconst (v := -1) hx hb d_FR_poke_31 (by decide) ?_
      have hq : ¬ kr_pokeP p2 p3 := fun q => kP_eq c17 q.1
      have hm : ¬ ((0 : Int32) = 0 ∧ kr_pokeP p2 p3) := fun q => hq q.2
      have hp : ¬ ((0 : Int32) = 1 ∧ kr_pokeP p2 p3) := fun q => hq q.2
      repeat rw [if_neg hm]
      repeat rw [if_neg hp]
      exact kf_irB hx hb hr hlocks (kx_at hP hD) hS (rfl) d_FR_poke_32
    · refine lv_iload_n hx hb d_FR_poke_20 rfl (lv_at hl 4 rfl) ?_
      refine lv_if_lt (tgt := 31) hx hb d_FR_poke_21 (by decide) (fun c21 => ?_) (fun c21 => ?_)
      · refine lv_iconst (v := -1) hx hb d_FR_poke_31 (by decide) ?_
        have hq : ¬ kr_pokeP p2 p3 := fun q => q.2.1 c21
        have hm : ¬ ((0 : Int32) = 0 ∧ kr_pokeP p2 p3) := fun q => hq q.2
        have hp : ¬ ((0 : Int32) = 1 ∧ kr_pokeP p2 p3) := fun q => hq q.2
        repeat rw [if_neg hm]
        repeat rw [if_neg hp]
        exact kf_irB hx hb hr hlocks (kx_at hP hD) hS (rfl) d_FR_poke_32
      · refine lv_iload_n hx hb d_FR_poke_24 rfl (lv_at hl 4 rfl) ?_
        refine lv_sipush (v := 255) hx hb d_FR_poke_25 (by decide) ?_
        refine lv_icmp_le (tgt := 33) hx hb d_FR_poke_28 (by decide) (fun c28 => ?_) (fun c28 => ?_)
        · refine lv_aload hx hb d_FR_poke_33 (lv_at hl 0 rfl) ?_
          refine lv_iload_n hx hb d_FR_poke_35 rfl (lv_at hl 3 rfl) ?_
          refine lv_iconst (v := 1) hx hb d_FR_poke_36 (by decide) ?_
          refine kf_ro hP hD hS hA [1, 2] rfl (va_runV (As := [.int p2, .int 1]) (rest := []) ⟨hx, hb, hml, hown, hts⟩ (c_Row_field l D cB cI _ r0 b0 f0 p2 1) ⟨callB_of 2 hts g_Row_field rfl rfl rfl (hts _ q1_2) (hts _ q1_231) h_Row_field ⟨Nat.le_of_ble_eq_true rfl, Nat.le_of_ble_eq_true rfl⟩, (hts _ q1_110), (hts _ q1_111)⟩ ⟨kf_bl, va_recv hE.1 hP (ci := 0) (q0 := 1) rfl rfl, kf_to hP hD hS hA hE [1, 2] rfl rfl⟩ rfl rfl hl.1 rfl (lv_room (Nat.le_of_ble_eq_true rfl)) d_FR_poke_37 ⟨Nat.zero_le _, Nat.zero_le _⟩) (fun H locs hP hS => ?_)
          refine W.eq (g2 := F0 m 40 ls [.long (ky_fl f0 p2 1)]) rfl ?_
          refine lv_l2i hx hb d_FR_poke_40 rfl ?_
          refine lv_istore (lv' := [(5, .int ((ky_fl f0 p2 1).toInt32)), (4, .ref r0), (0, .ref x), (1, .int 0), (2, .int p2), (3, .int p3)]) hx hb d_FR_poke_41 hl (by decide) rfl (fun ls hl => ?_)
          refine lv_aload hx hb d_FR_poke_43 (lv_at hl 1 rfl) ?_
          refine lv_iload_n hx hb d_FR_poke_45 rfl (lv_at hl 4 rfl) ?_
          refine lv_iconst (v := 1) hx hb d_FR_poke_46 (by decide) ?_
          refine lv_iload_n hx hb d_FR_poke_47 rfl (lv_at hl 5 rfl) ?_
          refine lv_i2l hx hb d_FR_poke_48 rfl ?_
          refine kf_kc (wr := [(x, .inr (2, [.ref r0, .ref r1, .ref tr, .ref vo])), (r1, .inr (0, [.ref b1])), (b1, .inl (cB, 1024, .inl f1)), (tr, .inr (0, [.ref bt])), (bt, .inl (cB, 1024, .inl u.1)), (vo, .inr (1, [.long (u.2.1 0), .long (u.2.1 1), .long (u.2.1 2), .long (u.2.1 3), .long (u.2.1 4), .long (u.2.1 5), .long (u.2.1 6), .long (u.2.1 7), .int u.2.2, .long (u.2.1 9), .long (u.2.1 10), .long (u.2.1 11)]))]) (w1 := [(r0, .inr (0, [.ref b0])), (b0, .inl (cB, 1024, .inl (ky_ww f0 p2 1 p3.toInt64)))]) (ws2 := [(x, .inr (2, [.ref r0, .ref r1, .ref tr, .ref vo])), (r0, .inr (0, [.ref b0])), (b0, .inl (cB, 1024, .inl (ky_ww f0 p2 1 p3.toInt64))), (r1, .inr (0, [.ref b1])), (b1, .inl (cB, 1024, .inl f1)), (tr, .inr (0, [.ref bt])), (bt, .inl (cB, 1024, .inl u.1)), (vo, .inr (1, [.long (u.2.1 0), .long (u.2.1 1), .long (u.2.1 2), .long (u.2.1 3), .long (u.2.1 4), .long (u.2.1 5), .long (u.2.1 6), .long (u.2.1 7), .int u.2.2, .long (u.2.1 9), .long (u.2.1 10), .long (u.2.1 11)]))]) hP hD hS hA [1, 2] [0, 3, 4, 5, 6, 7] [0, 6, 7, 1, 2, 3, 4, 5] rfl rfl rfl (by decide) rfl rfl (va_runV (As := [.int p2, .int 1, .long p3.toInt64]) (rest := []) ⟨hx, hb, hml, hown, hts⟩ (c_Row_write l D cB cI _ r0 b0 f0 p2 1 p3.toInt64) ⟨callB_of 3 hts g_Row_write rfl rfl rfl (hts _ q1_2) (hts _ q1_101) h_Row_write ⟨Nat.le_of_ble_eq_true rfl, Nat.le_of_ble_eq_true rfl⟩, (hts _ q1_89), (hts _ q1_90)⟩ ⟨kf_bl, va_recv hE.1 hP (ci := 0) (q0 := 1) rfl rfl, kf_to hP hD hS hA hE [1, 2] rfl rfl⟩ rfl rfl hl.1 rfl (lv_room (Nat.le_of_ble_eq_true rfl)) d_FR_poke_49 ⟨Nat.zero_le _, Nat.zero_le _⟩) (fun H locs hP hD hS => ?_)
          refine W.eq (g2 := F0 m 52 ls []) rfl ?_
          refine lv_iload hx hb d_FR_poke_52 (lv_at hl 0 rfl) ?_
          have hq : kr_pokeP p2 p3 := ⟨kP_ne c17, c21, c28⟩
          have hp : (0 : Int32) = 0 ∧ kr_pokeP p2 p3 := ⟨rfl, hq⟩
          have hm : ¬ ((0 : Int32) = 1 ∧ kr_pokeP p2 p3) := fun q => absurd q.1 (by decide)
          repeat rw [if_pos hp]
          repeat rw [if_neg hm]
          exact kf_irB hx hb hr hlocks (kx_at hP hD) hS (by first | rfl | (rw [if_neg hm, if_pos hp])) d_FR_poke_54
        · refine lv_iconst (v := -1) hx hb d_FR_poke_31 (by decide) ?_
          have hq : ¬ kr_pokeP p2 p3 := fun q => c28 q.2.2
          have hm : ¬ ((0 : Int32) = 0 ∧ kr_pokeP p2 p3) := fun q => hq q.2
          have hp : ¬ ((0 : Int32) = 1 ∧ kr_pokeP p2 p3) := fun q => hq q.2
          repeat rw [if_neg hm]
          repeat rw [if_neg hp]
          exact kf_irB hx hb hr hlocks (kx_at hP hD) hS (rfl) d_FR_poke_32
  · refine lv_aload_n hx hb d_FR_poke_0 rfl (lv_at hl 0 rfl) ?_
    refine lv_iload_n hx hb d_FR_poke_1 rfl (lv_at hl 1 rfl) ?_
    refine kf_ro hP hD hS hA [0] rfl (va_runV (As := [.int 1]) (rest := []) ⟨hx, hb, hml, hown, hts⟩ (c_FR_rowOf_1 l D cB cI _ x r0 r1 tr vo) ⟨callB_of 1 hts g_FR_rowOf rfl rfl rfl (hts _ q1_1) (hts _ q1_226) h_FR_rowOf ⟨Nat.le_of_ble_eq_true rfl, Nat.le_of_ble_eq_true rfl⟩, (hts _ q1_228), (hts _ q0_6)⟩ ⟨kf_bl, va_recv hE.1 hP (ci := 2) (q0 := 0) rfl rfl, kf_to hP hD hS hA hE [0] rfl rfl⟩ rfl rfl hl.1 rfl (lv_room (Nat.le_of_ble_eq_true rfl)) d_FR_poke_2 ⟨Nat.zero_le _, Nat.zero_le _⟩) (fun H locs hP hS => ?_)
    refine W.eq (g2 := F0 m 5 ls [.ref r1]) rfl ?_
    refine lv_astore (lv' := [(4, .ref r1), (0, .ref x), (1, .int 1), (2, .int p2), (3, .int p3)]) hx hb d_FR_poke_5 hl (by decide) rfl (fun ls hl => ?_)
    refine lv_aload hx hb d_FR_poke_7 (lv_at hl 0 rfl) ?_
    refine lv_ifnull hx hb d_FR_poke_9 ?_
    refine lv_iload_n hx hb d_FR_poke_12 rfl (lv_at hl 3 rfl) ?_
    refine lv_iconst (v := 1) hx hb d_FR_poke_13 (by decide) ?_
    refine kf_ro hP hD hS hA [] rfl (va_runS (As := [.int p2, .int 1]) (rest := []) ⟨hx, hb, hml, hown, hts⟩ (c_FR_isField l D cB cI _ p2 1) ⟨callB_of 2 hts g_FR_isField rfl rfl rfl (hts _ q1_1) (hts _ q1_230) h_FR_isField ⟨Nat.le_of_ble_eq_true rfl, Nat.le_of_ble_eq_true rfl⟩, (hts _ q1_93)⟩ ⟨kf_bl, kf_to hP hD hS hA hE [] rfl rfl⟩ rfl rfl hl.1 rfl (lv_room (Nat.le_of_ble_eq_true rfl)) d_FR_poke_14 ⟨Nat.zero_le _, Nat.zero_le _⟩) (fun H locs hP hS => ?_)
    refine W.eq (g2 := F0 m 17 ls [.int (kP (ky_isFP p2 1))]) rfl ?_
    refine lv_if_eq (tgt := 31) hx hb d_FR_poke_17 (by decide) (fun c17 => ?_) (fun c17 => ?_)
    · refine lv_iconst (v := -1) hx hb d_FR_poke_31 (by decide) ?_
      have hq : ¬ kr_pokeP p2 p3 := fun q => kP_eq c17 q.1
      have hm : ¬ ((1 : Int32) = 0 ∧ kr_pokeP p2 p3) := fun q => hq q.2
      have hp : ¬ ((1 : Int32) = 1 ∧ kr_pokeP p2 p3) := fun q => hq q.2
      repeat rw [if_neg hm]
      repeat rw [if_neg hp]
      exact kf_irB hx hb hr hlocks (kx_at hP hD) hS (rfl) d_FR_poke_32
    · refine lv_iload_n hx hb d_FR_poke_20 rfl (lv_at hl 4 rfl) ?_
      refine lv_if_lt (tgt := 31) hx hb d_FR_poke_21 (by decide) (fun c21 => ?_) (fun c21 => ?_)
      · refine lv_iconst (v := -1) hx hb d_FR_poke_31 (by decide) ?_
        have hq : ¬ kr_pokeP p2 p3 := fun q => q.2.1 c21
        have hm : ¬ ((1 : Int32) = 0 ∧ kr_pokeP p2 p3) := fun q => hq q.2
        have hp : ¬ ((1 : Int32) = 1 ∧ kr_pokeP p2 p3) := fun q => hq q.2
        repeat rw [if_neg hm]
        repeat rw [if_neg hp]
        exact kf_irB hx hb hr hlocks (kx_at hP hD) hS (rfl) d_FR_poke_32
      · refine lv_iload_n hx hb d_FR_poke_24 rfl (lv_at hl 4 rfl) ?_
        refine lv_sipush (v := 255) hx hb d_FR_poke_25 (by decide) ?_
        refine lv_icmp_le (tgt := 33) hx hb d_FR_poke_28 (by decide) (fun c28 => ?_) (fun c28 => ?_)
        · refine lv_aload hx hb d_FR_poke_33 (lv_at hl 0 rfl) ?_
          refine lv_iload_n hx hb d_FR_poke_35 rfl (lv_at hl 3 rfl) ?_
          refine lv_iconst (v := 1) hx hb d_FR_poke_36 (by decide) ?_
          refine kf_ro hP hD hS hA [3, 4] rfl (va_runV (As := [.int p2, .int 1]) (rest := []) ⟨hx, hb, hml, hown, hts⟩ (c_Row_field l D cB cI _ r1 b1 f1 p2 1) ⟨callB_of 2 hts g_Row_field rfl rfl rfl (hts _ q1_2) (hts _ q1_231) h_Row_field ⟨Nat.le_of_ble_eq_true rfl, Nat.le_of_ble_eq_true rfl⟩, (hts _ q1_110), (hts _ q1_111)⟩ ⟨kf_bl, va_recv hE.1 hP (ci := 0) (q0 := 3) rfl rfl, kf_to hP hD hS hA hE [3, 4] rfl rfl⟩ rfl rfl hl.1 rfl (lv_room (Nat.le_of_ble_eq_true rfl)) d_FR_poke_37 ⟨Nat.zero_le _, Nat.zero_le _⟩) (fun H locs hP hS => ?_)
          refine W.eq (g2 := F0 m 40 ls [.long (ky_fl f1 p2 1)]) rfl ?_
          refine lv_l2i hx hb d_FR_poke_40 rfl ?_
          refine lv_istore (lv' := [(5, .int ((ky_fl f1 p2 1).toInt32)), (4, .ref r1), (0, .ref x), (1, .int 1), (2, .int p2), (3, .int p3)]) hx hb d_FR_poke_41 hl (by decide) rfl (fun ls hl => ?_)
          refine lv_aload hx hb d_FR_poke_43 (lv_at hl 1 rfl) ?_
          refine lv_iload_n hx hb d_FR_poke_45 rfl (lv_at hl 4 rfl) ?_
          refine lv_iconst (v := 1) hx hb d_FR_poke_46 (by decide) ?_
          refine lv_iload_n hx hb d_FR_poke_47 rfl (lv_at hl 5 rfl) ?_
          refine lv_i2l hx hb d_FR_poke_48 rfl ?_
          refine kf_kc (wr := [(x, .inr (2, [.ref r0, .ref r1, .ref tr, .ref vo])), (r0, .inr (0, [.ref b0])), (b0, .inl (cB, 1024, .inl f0)), (tr, .inr (0, [.ref bt])), (bt, .inl (cB, 1024, .inl u.1)), (vo, .inr (1, [.long (u.2.1 0), .long (u.2.1 1), .long (u.2.1 2), .long (u.2.1 3), .long (u.2.1 4), .long (u.2.1 5), .long (u.2.1 6), .long (u.2.1 7), .int u.2.2, .long (u.2.1 9), .long (u.2.1 10), .long (u.2.1 11)]))]) (w1 := [(r1, .inr (0, [.ref b1])), (b1, .inl (cB, 1024, .inl (ky_ww f1 p2 1 p3.toInt64)))]) (ws2 := [(x, .inr (2, [.ref r0, .ref r1, .ref tr, .ref vo])), (r0, .inr (0, [.ref b0])), (b0, .inl (cB, 1024, .inl f0)), (r1, .inr (0, [.ref b1])), (b1, .inl (cB, 1024, .inl (ky_ww f1 p2 1 p3.toInt64))), (tr, .inr (0, [.ref bt])), (bt, .inl (cB, 1024, .inl u.1)), (vo, .inr (1, [.long (u.2.1 0), .long (u.2.1 1), .long (u.2.1 2), .long (u.2.1 3), .long (u.2.1 4), .long (u.2.1 5), .long (u.2.1 6), .long (u.2.1 7), .int u.2.2, .long (u.2.1 9), .long (u.2.1 10), .long (u.2.1 11)]))]) hP hD hS hA [3, 4] [0, 1, 2, 5, 6, 7] [0, 1, 2, 6, 7, 3, 4, 5] rfl rfl rfl (by decide) rfl rfl (va_runV (As := [.int p2, .int 1, .long p3.toInt64]) (rest := []) ⟨hx, hb, hml, hown, hts⟩ (c_Row_write l D cB cI _ r1 b1 f1 p2 1 p3.toInt64) ⟨callB_of 3 hts g_Row_write rfl rfl rfl (hts _ q1_2) (hts _ q1_101) h_Row_write ⟨Nat.le_of_ble_eq_true rfl, Nat.le_of_ble_eq_true rfl⟩, (hts _ q1_89), (hts _ q1_90)⟩ ⟨kf_bl, va_recv hE.1 hP (ci := 0) (q0 := 3) rfl rfl, kf_to hP hD hS hA hE [3, 4] rfl rfl⟩ rfl rfl hl.1 rfl (lv_room (Nat.le_of_ble_eq_true rfl)) d_FR_poke_49 ⟨Nat.zero_le _, Nat.zero_le _⟩) (fun H locs hP hD hS => ?_)
          refine W.eq (g2 := F0 m 52 ls []) rfl ?_
          refine lv_iload hx hb d_FR_poke_52 (lv_at hl 0 rfl) ?_
          have hq : kr_pokeP p2 p3 := ⟨kP_ne c17, c21, c28⟩
          have hp : (1 : Int32) = 1 ∧ kr_pokeP p2 p3 := ⟨rfl, hq⟩
          have hm : ¬ ((1 : Int32) = 0 ∧ kr_pokeP p2 p3) := fun q => absurd q.1 (by decide)
          repeat rw [if_pos hp]
          repeat rw [if_neg hm]
          exact kf_irB hx hb hr hlocks (kx_at hP hD) hS (by first | rfl | (rw [if_neg hm, if_pos hp])) d_FR_poke_54
        · refine lv_iconst (v := -1) hx hb d_FR_poke_31 (by decide) ?_
          have hq : ¬ kr_pokeP p2 p3 := fun q => c28 q.2.2
          have hm : ¬ ((1 : Int32) = 0 ∧ kr_pokeP p2 p3) := fun q => hq q.2
          have hp : ¬ ((1 : Int32) = 1 ∧ kr_pokeP p2 p3) := fun q => hq q.2
          repeat rw [if_neg hm]
          repeat rw [if_neg hp]
          exact kf_irB hx hb hr hlocks (kx_at hP hD) hS (rfl) d_FR_poke_32
  · refine lv_aload_n hx hb d_FR_poke_0 rfl (lv_at hl 0 rfl) ?_
    refine lv_iload_n hx hb d_FR_poke_1 rfl (lv_at hl 1 rfl) ?_
    refine kf_ro hP hD hS hA [0] rfl (va_runV (As := [.int p1]) (rest := []) ⟨hx, hb, hml, hown, hts⟩ (c_FR_rowOf_n l D cB cI _ x r0 r1 tr vo p1 hn0 hn1) ⟨callB_of 1 hts g_FR_rowOf rfl rfl rfl (hts _ q1_1) (hts _ q1_226) h_FR_rowOf ⟨Nat.le_of_ble_eq_true rfl, Nat.le_of_ble_eq_true rfl⟩, (hts _ q1_228), (hts _ q0_6)⟩ ⟨kf_bl, va_recv hE.1 hP (ci := 2) (q0 := 0) rfl rfl, kf_to hP hD hS hA hE [0] rfl rfl⟩ rfl rfl hl.1 rfl (lv_room (Nat.le_of_ble_eq_true rfl)) d_FR_poke_2 ⟨Nat.zero_le _, Nat.zero_le _⟩) (fun H locs hP hS => ?_)
    refine W.eq (g2 := F0 m 5 ls [.null]) rfl ?_
    refine lv_astoreN (lv' := [(4, .null), (0, .ref x), (1, .int p1), (2, .int p2), (3, .int p3)]) hx hb d_FR_poke_5 hl (by decide) rfl (fun ls hl => ?_)
    refine lv_aloadN hx hb d_FR_poke_7 (lv_at hl 0 rfl) ?_
    refine lv_ifnullN (tgt := 31) hx hb d_FR_poke_9 (by decide) ?_
    refine lv_iconst (v := -1) hx hb d_FR_poke_31 (by decide) ?_
    simp only [if_neg (show ¬ (p1 = 0 ∧ kr_pokeP p2 p3) from fun q => hn0 q.1), if_neg (show ¬ (p1 = 1 ∧ kr_pokeP p2 p3) from fun q => hn1 q.1)]
    exact kf_irB hx hb hr hlocks (kx_at hP hD) hS (rfl) d_FR_poke_32

set_option maxRecDepth 100000 in
set_option maxHeartbeats 4000000 in
theorem c_FR_fault (l : Launch) (D : va_G) (cB cI : ClassId) (hz : Nat) (x : Nat) (r0 : Nat) (b0 : Nat) (r1 : Nat) (b1 : Nat) (tr : Nat) (bt : Nat) (vo : Nat) (f0 : Nat → Int32) (f1 : Nat → Int32) (u : (Nat → Int32) × (Nat → Int64) × Int32) (p1 : Int32) : kf_Ct l y_FR_fault w_FR_fault 5 110 0 0 D (kT cB cI) [.ref x, .int p1] [(x, .inr (2, [.ref r0, .ref r1, .ref tr, .ref vo])), (r0, .inr (0, [.ref b0])), (b0, .inl (cB, 1024, .inl f0)), (r1, .inr (0, [.ref b1])), (b1, .inl (cB, 1024, .inl f1)), (tr, .inr (0, [.ref bt])), (bt, .inl (cB, 1024, .inl u.1)), (vo, .inr (1, [.long (u.2.1 0), .long (u.2.1 1), .long (u.2.1 2), .long (u.2.1 3), .long (u.2.1 4), .long (u.2.1 5), .long (u.2.1 6), .long (u.2.1 7), .int u.2.2, .long (u.2.1 9), .long (u.2.1 10), .long (u.2.1 11)]))] hz (some (.int (if p1 = 0 then kv_fault f0 else if p1 = 1 then kv_fault f1 else -1))) (kx_FR D cB x r0 b0 r1 b1 tr bt vo f0 f1) := by
  refine kf_of (cc := b_FR_fault) (maxL := 3) (ret := (some .int)) (by decide) rfl (Nat.le_of_ble_eq_true rfl) ?_
  intro p e s m below meth c A H locs hx hb hr hml hown hts hlocks hin hP hD hS hA hE ls hl
  have hl : lv_has ls 3 [(0, .ref x), (1, .int p1)] := hl
  rcases ky_row p1 with rfl | rfl | ⟨hn0, hn1⟩
  · refine lv_aload_n hx hb d_FR_fault_0 rfl (lv_at hl 0 rfl) ?_
    refine lv_iload_n hx hb d_FR_fault_1 rfl (lv_at hl 1 rfl) ?_
    refine kf_ro hP hD hS hA [0] rfl (va_runV (As := [.int 0]) (rest := []) ⟨hx, hb, hml, hown, hts⟩ (c_FR_rowOf_0 l D cB cI _ x r0 r1 tr vo) ⟨callB_of 1 hts g_FR_rowOf rfl rfl rfl (hts _ q1_1) (hts _ q1_226) h_FR_rowOf ⟨Nat.le_of_ble_eq_true rfl, Nat.le_of_ble_eq_true rfl⟩, (hts _ q1_228), (hts _ q0_6)⟩ ⟨kf_bl, va_recv hE.1 hP (ci := 2) (q0 := 0) rfl rfl, kf_to hP hD hS hA hE [0] rfl rfl⟩ rfl rfl hl.1 rfl (lv_room (Nat.le_of_ble_eq_true rfl)) d_FR_fault_2 ⟨Nat.zero_le _, Nat.zero_le _⟩) (fun H locs hP hS => ?_)
    refine W.eq (g2 := F0 m 5 ls [.ref r0]) rfl ?_
    refine lv_astore_n (lv' := [(2, .ref r0), (0, .ref x), (1, .int 0)]) hx hb d_FR_fault_5 rfl hl (by decide) rfl (fun ls hl => ?_)
    refine lv_aload_n hx hb d_FR_fault_6 rfl (lv_at hl 0 rfl) ?_
    refine lv_ifnonnull (tgt := 14) hx hb d_FR_fault_7 (by decide) ?_
    refine lv_aload_n hx hb d_FR_fault_14 rfl (lv_at hl 1 rfl) ?_
    refine va_get (D := D) (ci := 2) (v := .ref vo) (C := "FieldRows") (T := F_FR) (N := 4) hx hb hts ku_FR hown hE.1 hP 0 rfl rfl 3 (by decide) (hts _ q1_211) (fun _ h9 => h9) rfl d_FR_fault_15 ?_
    refine lv_aload_n hx hb d_FR_fault_18 rfl (lv_at hl 0 rfl) ?_
    refine kf_kc (wr := [(x, .inr (2, [.ref r0, .ref r1, .ref tr, .ref vo])), (r1, .inr (0, [.ref b1])), (b1, .inl (cB, 1024, .inl f1)), (tr, .inr (0, [.ref bt])), (bt, .inl (cB, 1024, .inl u.1))]) (w1 := [(vo, .inr (1, [.long (lN (ky_le f0 0 4)), .long (lN (ky_le f0 4 4)), .long (lN (ky_le f0 20 4)), .long (lN (ky_le f0 24 4)), .long (kv_size f0), .long (lN (ky_le f0 32 4)), .long (lN (ky_le f0 40 4)), .long (lN (ky_le f0 88 2)), .int (kv_few f0), .long (kv_gc f0), .long (kv_cb f0), .long (kv_rk f0)])), (r0, .inr (0, [.ref b0])), (b0, .inl (cB, 1024, .inl f0))]) (ws2 := [(x, .inr (2, [.ref r0, .ref r1, .ref tr, .ref vo])), (r0, .inr (0, [.ref b0])), (b0, .inl (cB, 1024, .inl f0)), (r1, .inr (0, [.ref b1])), (b1, .inl (cB, 1024, .inl f1)), (tr, .inr (0, [.ref bt])), (bt, .inl (cB, 1024, .inl u.1)), (vo, .inr (1, [.long (lN (ky_le f0 0 4)), .long (lN (ky_le f0 4 4)), .long (lN (ky_le f0 20 4)), .long (lN (ky_le f0 24 4)), .long (kv_size f0), .long (lN (ky_le f0 32 4)), .long (lN (ky_le f0 40 4)), .long (lN (ky_le f0 88 2)), .int (kv_few f0), .long (kv_gc f0), .long (kv_cb f0), .long (kv_rk f0)]))]) hP hD hS hA [7, 1, 2] [0, 3, 4, 5, 6] [0, 6, 7, 1, 2, 3, 4, 5] rfl rfl rfl (by decide) rfl rfl (va_runV (As := [.ref r0]) (rest := []) ⟨hx, hb, hml, hown, hts⟩ (c_Vol_firstFaultOf l D cB cI _ vo (u.2.1 0) (u.2.1 1) (u.2.1 2) (u.2.1 3) (u.2.1 4) (u.2.1 5) (u.2.1 6) (u.2.1 7) u.2.2 (u.2.1 9) (u.2.1 10) (u.2.1 11) r0 b0 f0) ⟨callB_of 1 hts g_Vol_firstFaultOf rfl rfl rfl (hts _ q1_3) (hts _ q1_122) h_Vol_firstFaultOf ⟨Nat.le_of_ble_eq_true rfl, Nat.le_of_ble_eq_true rfl⟩, (hts _ q1_123), (hts _ q1_124)⟩ ⟨kf_bl, va_recv hE.1 hP (ci := 1) (q0 := 7) rfl rfl, kf_to hP hD hS hA hE [7, 1, 2] rfl rfl⟩ rfl rfl hl.1 rfl (lv_room (Nat.le_of_ble_eq_true rfl)) d_FR_fault_19 ⟨Nat.zero_le _, Nat.zero_le _⟩) (fun H locs hP hD hS => ?_)
    refine W.eq (g2 := F0 m 22 ls [.int (kv_fault f0)]) rfl ?_
    exact kf_irB hx hb hr hlocks (kx_at hP hD) hS (by rw [if_pos rfl]) d_FR_fault_22
  · refine lv_aload_n hx hb d_FR_fault_0 rfl (lv_at hl 0 rfl) ?_
    refine lv_iload_n hx hb d_FR_fault_1 rfl (lv_at hl 1 rfl) ?_
    refine kf_ro hP hD hS hA [0] rfl (va_runV (As := [.int 1]) (rest := []) ⟨hx, hb, hml, hown, hts⟩ (c_FR_rowOf_1 l D cB cI _ x r0 r1 tr vo) ⟨callB_of 1 hts g_FR_rowOf rfl rfl rfl (hts _ q1_1) (hts _ q1_226) h_FR_rowOf ⟨Nat.le_of_ble_eq_true rfl, Nat.le_of_ble_eq_true rfl⟩, (hts _ q1_228), (hts _ q0_6)⟩ ⟨kf_bl, va_recv hE.1 hP (ci := 2) (q0 := 0) rfl rfl, kf_to hP hD hS hA hE [0] rfl rfl⟩ rfl rfl hl.1 rfl (lv_room (Nat.le_of_ble_eq_true rfl)) d_FR_fault_2 ⟨Nat.zero_le _, Nat.zero_le _⟩) (fun H locs hP hS => ?_)
    refine W.eq (g2 := F0 m 5 ls [.ref r1]) rfl ?_
    refine lv_astore_n (lv' := [(2, .ref r1), (0, .ref x), (1, .int 1)]) hx hb d_FR_fault_5 rfl hl (by decide) rfl (fun ls hl => ?_)
    refine lv_aload_n hx hb d_FR_fault_6 rfl (lv_at hl 0 rfl) ?_
    refine lv_ifnonnull (tgt := 14) hx hb d_FR_fault_7 (by decide) ?_
    refine lv_aload_n hx hb d_FR_fault_14 rfl (lv_at hl 1 rfl) ?_
    refine va_get (D := D) (ci := 2) (v := .ref vo) (C := "FieldRows") (T := F_FR) (N := 4) hx hb hts ku_FR hown hE.1 hP 0 rfl rfl 3 (by decide) (hts _ q1_211) (fun _ h9 => h9) rfl d_FR_fault_15 ?_
    refine lv_aload_n hx hb d_FR_fault_18 rfl (lv_at hl 0 rfl) ?_
    refine kf_kc (wr := [(x, .inr (2, [.ref r0, .ref r1, .ref tr, .ref vo])), (r0, .inr (0, [.ref b0])), (b0, .inl (cB, 1024, .inl f0)), (tr, .inr (0, [.ref bt])), (bt, .inl (cB, 1024, .inl u.1))]) (w1 := [(vo, .inr (1, [.long (lN (ky_le f1 0 4)), .long (lN (ky_le f1 4 4)), .long (lN (ky_le f1 20 4)), .long (lN (ky_le f1 24 4)), .long (kv_size f1), .long (lN (ky_le f1 32 4)), .long (lN (ky_le f1 40 4)), .long (lN (ky_le f1 88 2)), .int (kv_few f1), .long (kv_gc f1), .long (kv_cb f1), .long (kv_rk f1)])), (r1, .inr (0, [.ref b1])), (b1, .inl (cB, 1024, .inl f1))]) (ws2 := [(x, .inr (2, [.ref r0, .ref r1, .ref tr, .ref vo])), (r0, .inr (0, [.ref b0])), (b0, .inl (cB, 1024, .inl f0)), (r1, .inr (0, [.ref b1])), (b1, .inl (cB, 1024, .inl f1)), (tr, .inr (0, [.ref bt])), (bt, .inl (cB, 1024, .inl u.1)), (vo, .inr (1, [.long (lN (ky_le f1 0 4)), .long (lN (ky_le f1 4 4)), .long (lN (ky_le f1 20 4)), .long (lN (ky_le f1 24 4)), .long (kv_size f1), .long (lN (ky_le f1 32 4)), .long (lN (ky_le f1 40 4)), .long (lN (ky_le f1 88 2)), .int (kv_few f1), .long (kv_gc f1), .long (kv_cb f1), .long (kv_rk f1)]))]) hP hD hS hA [7, 3, 4] [0, 1, 2, 5, 6] [0, 1, 2, 6, 7, 3, 4, 5] rfl rfl rfl (by decide) rfl rfl (va_runV (As := [.ref r1]) (rest := []) ⟨hx, hb, hml, hown, hts⟩ (c_Vol_firstFaultOf l D cB cI _ vo (u.2.1 0) (u.2.1 1) (u.2.1 2) (u.2.1 3) (u.2.1 4) (u.2.1 5) (u.2.1 6) (u.2.1 7) u.2.2 (u.2.1 9) (u.2.1 10) (u.2.1 11) r1 b1 f1) ⟨callB_of 1 hts g_Vol_firstFaultOf rfl rfl rfl (hts _ q1_3) (hts _ q1_122) h_Vol_firstFaultOf ⟨Nat.le_of_ble_eq_true rfl, Nat.le_of_ble_eq_true rfl⟩, (hts _ q1_123), (hts _ q1_124)⟩ ⟨kf_bl, va_recv hE.1 hP (ci := 1) (q0 := 7) rfl rfl, kf_to hP hD hS hA hE [7, 3, 4] rfl rfl⟩ rfl rfl hl.1 rfl (lv_room (Nat.le_of_ble_eq_true rfl)) d_FR_fault_19 ⟨Nat.zero_le _, Nat.zero_le _⟩) (fun H locs hP hD hS => ?_)
    refine W.eq (g2 := F0 m 22 ls [.int (kv_fault f1)]) rfl ?_
    exact kf_irB hx hb hr hlocks (kx_at hP hD) hS (by rw [if_neg (by decide), if_pos rfl]) d_FR_fault_22
  · refine lv_aload_n hx hb d_FR_fault_0 rfl (lv_at hl 0 rfl) ?_
    refine lv_iload_n hx hb d_FR_fault_1 rfl (lv_at hl 1 rfl) ?_
    refine kf_ro hP hD hS hA [0] rfl (va_runV (As := [.int p1]) (rest := []) ⟨hx, hb, hml, hown, hts⟩ (c_FR_rowOf_n l D cB cI _ x r0 r1 tr vo p1 hn0 hn1) ⟨callB_of 1 hts g_FR_rowOf rfl rfl rfl (hts _ q1_1) (hts _ q1_226) h_FR_rowOf ⟨Nat.le_of_ble_eq_true rfl, Nat.le_of_ble_eq_true rfl⟩, (hts _ q1_228), (hts _ q0_6)⟩ ⟨kf_bl, va_recv hE.1 hP (ci := 2) (q0 := 0) rfl rfl, kf_to hP hD hS hA hE [0] rfl rfl⟩ rfl rfl hl.1 rfl (lv_room (Nat.le_of_ble_eq_true rfl)) d_FR_fault_2 ⟨Nat.zero_le _, Nat.zero_le _⟩) (fun H locs hP hS => ?_)
    refine W.eq (g2 := F0 m 5 ls [.null]) rfl ?_
    refine lv_astore_nN (lv' := [(2, .null), (0, .ref x), (1, .int p1)]) hx hb d_FR_fault_5 rfl hl (by decide) rfl (fun ls hl => ?_)
    refine lv_aload_nN hx hb d_FR_fault_6 rfl (lv_at hl 0 rfl) ?_
    refine lv_ifnonnullN hx hb d_FR_fault_7 ?_
    refine lv_iconst (v := -1) hx hb d_FR_fault_10 (by decide) ?_
    refine lv_goto (tgt := 22) hx hb d_FR_fault_11 (by decide) ?_
    exact kf_irB hx hb hr hlocks (kx_at hP hD) hS (by rw [if_neg hn0, if_neg hn1]) d_FR_fault_22

set_option maxRecDepth 100000 in
set_option maxHeartbeats 4000000 in
theorem c_FR_copy (l : Launch) (D : va_G) (cB cI : ClassId) (hz : Nat) (x : Nat) (r0 : Nat) (b0 : Nat) (r1 : Nat) (b1 : Nat) (tr : Nat) (bt : Nat) (vo : Nat) (f0 : Nat → Int32) (f1 : Nat → Int32) (u : (Nat → Int32) × (Nat → Int64) × Int32) (p1 : Int32) : kf_Ct l y_FR_copy w_FR_copy 6 131 0 0 D (kT cB cI) [.ref x, .int p1] [(x, .inr (2, [.ref r0, .ref r1, .ref tr, .ref vo])), (r0, .inr (0, [.ref b0])), (b0, .inl (cB, 1024, .inl f0)), (r1, .inr (0, [.ref b1])), (b1, .inl (cB, 1024, .inl f1)), (tr, .inr (0, [.ref bt])), (bt, .inl (cB, 1024, .inl u.1)), (vo, .inr (1, [.long (u.2.1 0), .long (u.2.1 1), .long (u.2.1 2), .long (u.2.1 3), .long (u.2.1 4), .long (u.2.1 5), .long (u.2.1 6), .long (u.2.1 7), .int u.2.2, .long (u.2.1 9), .long (u.2.1 10), .long (u.2.1 11)]))] hz (some (.int (if kr_grP f0 p1 ∧ ky_hcP (kv_few f0) p1.toInt64 then 0 else -1))) (kx_FR D cB x r0 b0 r1 b1 tr bt vo f0 (if kr_grP f0 p1 ∧ ky_hcP (kv_few f0) p1.toInt64 then ky_wr (ky_cp f1 f0 1024) 90 p1.toInt64 2 else f1)) := by
  refine kf_of (cc := b_FR_copy) (maxL := 2) (ret := (some .int)) (by decide) rfl (Nat.le_of_ble_eq_true rfl) ?_
  intro p e s m below meth c A H locs hx hb hr hml hown hts hlocks hin hP hD hS hA hE ls hl
  have hl : lv_has ls 2 [(0, .ref x), (1, .int p1)] := hl
  refine lv_aload_n hx hb d_FR_copy_0 rfl (lv_at hl 0 rfl) ?_
  refine lv_iload_n hx hb d_FR_copy_1 rfl (lv_at hl 1 rfl) ?_
  refine kf_kc (wr := []) (w1 := [(x, .inr (2, [.ref r0, .ref r1, .ref tr, .ref vo])), (r0, .inr (0, [.ref b0])), (b0, .inl (cB, 1024, .inl f0)), (r1, .inr (0, [.ref b1])), (b1, .inl (cB, 1024, .inl f1)), (tr, .inr (0, [.ref bt])), (bt, .inl (cB, 1024, .inl u.1)), (vo, .inr (1, [.long (lN (ky_le f0 0 4)), .long (lN (ky_le f0 4 4)), .long (lN (ky_le f0 20 4)), .long (lN (ky_le f0 24 4)), .long (kv_size f0), .long (lN (ky_le f0 32 4)), .long (lN (ky_le f0 40 4)), .long (lN (ky_le f0 88 2)), .int (kv_few f0), .long (kv_gc f0), .long (kv_cb f0), .long (kv_rk f0)]))]) (ws2 := [(x, .inr (2, [.ref r0, .ref r1, .ref tr, .ref vo])), (r0, .inr (0, [.ref b0])), (b0, .inl (cB, 1024, .inl f0)), (r1, .inr (0, [.ref b1])), (b1, .inl (cB, 1024, .inl f1)), (tr, .inr (0, [.ref bt])), (bt, .inl (cB, 1024, .inl u.1)), (vo, .inr (1, [.long (lN (ky_le f0 0 4)), .long (lN (ky_le f0 4 4)), .long (lN (ky_le f0 20 4)), .long (lN (ky_le f0 24 4)), .long (kv_size f0), .long (lN (ky_le f0 32 4)), .long (lN (ky_le f0 40 4)), .long (lN (ky_le f0 88 2)), .int (kv_few f0), .long (kv_gc f0), .long (kv_cb f0), .long (kv_rk f0)]))]) hP hD hS hA [0, 1, 2, 3, 4, 5, 6, 7] [] [0, 1, 2, 3, 4, 5, 6, 7] rfl rfl rfl (by decide) rfl rfl (va_runV (As := [.int p1]) (rest := []) ⟨hx, hb, hml, hown, hts⟩ (c_FR_isGroupOfRightRow l D cB cI _ x r0 b0 r1 b1 tr bt vo f0 f1 u p1) ⟨callB_of 1 hts g_FR_isGroupOfRightRow rfl rfl rfl (hts _ q1_1) (hts _ q2_9) h_FR_isGroupOfRightRow ⟨Nat.le_of_ble_eq_true rfl, Nat.le_of_ble_eq_true rfl⟩, (hts _ q2_11), (hts _ q0_7)⟩ ⟨kf_bl, va_recv hE.1 hP (ci := 2) (q0 := 0) rfl rfl, kf_to hP hD hS hA hE [0, 1, 2, 3, 4, 5, 6, 7] rfl rfl⟩ rfl rfl hl.1 rfl (lv_room (Nat.le_of_ble_eq_true rfl)) d_FR_copy_2 ⟨Nat.zero_le _, Nat.zero_le _⟩) (fun H locs hP hD hS => ?_)
  refine W.eq (g2 := F0 m 5 ls [.int (kP (kr_grP f0 p1))]) rfl ?_
  refine lv_if_eq (tgt := 20) hx hb d_FR_copy_5 (by decide) (fun c5 => ?_) (fun c5 => ?_)
  · refine lv_iconst (v := -1) hx hb d_FR_copy_20 (by decide) ?_
    have hq : ¬ (kr_grP f0 p1 ∧ ky_hcP (kv_few f0) p1.toInt64) := fun q => kP_eq c5 q.1
    simp only [if_neg hq]
    exact kf_irB hx hb hr hlocks (kx_at hP hD) hS (rfl) d_FR_copy_21
  · refine lv_aload_n hx hb d_FR_copy_8 rfl (lv_at hl 0 rfl) ?_
    refine va_get (D := D) (ci := 2) (v := .ref vo) (C := "FieldRows") (T := F_FR) (N := 4) hx hb hts ku_FR hown hE.1 hP 0 rfl rfl 3 (by decide) (hts _ q1_211) (fun _ h9 => h9) rfl d_FR_copy_9 ?_
    refine lv_iload_n hx hb d_FR_copy_12 rfl (lv_at hl 1 rfl) ?_
    refine lv_i2l hx hb d_FR_copy_13 rfl ?_
    refine kf_ro hP hD hS hA [7] rfl (va_runV (As := [.long p1.toInt64]) (rest := []) ⟨hx, hb, hml, hown, hts⟩ (c_Vol_hasCopy l D cB cI _ vo (lN (ky_le f0 0 4)) (lN (ky_le f0 4 4)) (lN (ky_le f0 20 4)) (lN (ky_le f0 24 4)) (kv_size f0) (lN (ky_le f0 32 4)) (lN (ky_le f0 40 4)) (lN (ky_le f0 88 2)) (kv_few f0) (kv_gc f0) (kv_cb f0) (kv_rk f0) p1.toInt64) ⟨callB_of 1 hts g_Vol_hasCopy rfl rfl rfl (hts _ q1_3) (hts _ q2_13) h_Vol_hasCopy ⟨Nat.le_of_ble_eq_true rfl, Nat.le_of_ble_eq_true rfl⟩, (hts _ q1_177), (hts _ q1_178)⟩ ⟨kf_bl, va_recv hE.1 hP (ci := 1) (q0 := 7) rfl rfl, kf_to hP hD hS hA hE [7] rfl rfl⟩ rfl rfl hl.1 rfl (lv_room (Nat.le_of_ble_eq_true rfl)) d_FR_copy_14 ⟨Nat.zero_le _, Nat.zero_le _⟩) (fun H locs hP hS => ?_)
    refine W.eq (g2 := F0 m 17 ls [.int (kP (ky_hcP (kv_few f0) p1.toInt64))]) rfl ?_
    refine lv_if_ne (tgt := 22) hx hb d_FR_copy_17 (by decide) (fun c17 => ?_) (fun c17 => ?_)
    · refine lv_aload_n hx hb d_FR_copy_22 rfl (lv_at hl 0 rfl) ?_
      refine va_get (D := D) (ci := 2) (v := .ref r1) (C := "FieldRows") (T := F_FR) (N := 4) hx hb hts ku_FR hown hE.1 hP 0 rfl rfl 1 (by decide) (hts _ q1_209) (fun _ h9 => h9) rfl d_FR_copy_23 ?_
      refine lv_aload_n hx hb d_FR_copy_26 rfl (lv_at hl 0 rfl) ?_
      refine va_get (D := D) (ci := 2) (v := .ref r0) (C := "FieldRows") (T := F_FR) (N := 4) hx hb hts ku_FR hown hE.1 hP 0 rfl rfl 0 (by decide) (hts _ q1_208) (fun _ h9 => h9) rfl d_FR_copy_27 ?_
      refine kf_kc (wr := [(x, .inr (2, [.ref r0, .ref r1, .ref tr, .ref vo])), (tr, .inr (0, [.ref bt])), (bt, .inl (cB, 1024, .inl u.1)), (vo, .inr (1, [.long (lN (ky_le f0 0 4)), .long (lN (ky_le f0 4 4)), .long (lN (ky_le f0 20 4)), .long (lN (ky_le f0 24 4)), .long (kv_size f0), .long (lN (ky_le f0 32 4)), .long (lN (ky_le f0 40 4)), .long (lN (ky_le f0 88 2)), .int (kv_few f0), .long (kv_gc f0), .long (kv_cb f0), .long (kv_rk f0)]))]) (w1 := [(r1, .inr (0, [.ref b1])), (b1, .inl (cB, 1024, .inl (ky_cp f1 f0 1024))), (r0, .inr (0, [.ref b0])), (b0, .inl (cB, 1024, .inl f0))]) (ws2 := [(x, .inr (2, [.ref r0, .ref r1, .ref tr, .ref vo])), (r0, .inr (0, [.ref b0])), (b0, .inl (cB, 1024, .inl f0)), (r1, .inr (0, [.ref b1])), (b1, .inl (cB, 1024, .inl (ky_cp f1 f0 1024))), (tr, .inr (0, [.ref bt])), (bt, .inl (cB, 1024, .inl u.1)), (vo, .inr (1, [.long (lN (ky_le f0 0 4)), .long (lN (ky_le f0 4 4)), .long (lN (ky_le f0 20 4)), .long (lN (ky_le f0 24 4)), .long (kv_size f0), .long (lN (ky_le f0 32 4)), .long (lN (ky_le f0 40 4)), .long (lN (ky_le f0 88 2)), .int (kv_few f0), .long (kv_gc f0), .long (kv_cb f0), .long (kv_rk f0)]))]) hP hD hS hA [3, 4, 1, 2] [0, 5, 6, 7] [0, 6, 7, 4, 5, 1, 2, 3] rfl rfl rfl (by decide) rfl rfl (va_runV (As := [.ref r0]) (rest := []) ⟨hx, hb, hml, hown, hts⟩ (c_Row_takeAll l D cB cI _ r1 b1 f1 r0 b0 f0) ⟨callB_of 1 hts g_Row_takeAll rfl rfl rfl (hts _ q1_2) (hts _ q1_204) h_Row_takeAll ⟨Nat.le_of_ble_eq_true rfl, Nat.le_of_ble_eq_true rfl⟩, (hts _ q1_205), (hts _ q1_206)⟩ ⟨kf_bl, va_recv hE.1 hP (ci := 0) (q0 := 3) rfl rfl, kf_to hP hD hS hA hE [3, 4, 1, 2] rfl rfl⟩ rfl rfl hl.1 rfl (lv_room (Nat.le_of_ble_eq_true rfl)) d_FR_copy_30 ⟨Nat.zero_le _, Nat.zero_le _⟩) (fun H locs hP hD hS => ?_)
      refine W.eq (g2 := F0 m 33 ls []) rfl ?_
      refine lv_aload_n hx hb d_FR_copy_33 rfl (lv_at hl 0 rfl) ?_
      refine va_get (D := D) (ci := 2) (v := .ref r1) (C := "FieldRows") (T := F_FR) (N := 4) hx hb hts ku_FR hown hE.1 hP 0 rfl rfl 1 (by decide) (hts _ q1_209) (fun _ h9 => h9) rfl d_FR_copy_34 ?_
      refine lv_bipush (v := 90) hx hb d_FR_copy_37 (by decide) ?_
      refine lv_iconst (v := 2) hx hb d_FR_copy_39 (by decide) ?_
      refine lv_iload_n hx hb d_FR_copy_40 rfl (lv_at hl 1 rfl) ?_
      refine lv_i2l hx hb d_FR_copy_41 rfl ?_
      refine kf_kc (wr := [(x, .inr (2, [.ref r0, .ref r1, .ref tr, .ref vo])), (r0, .inr (0, [.ref b0])), (b0, .inl (cB, 1024, .inl f0)), (tr, .inr (0, [.ref bt])), (bt, .inl (cB, 1024, .inl u.1)), (vo, .inr (1, [.long (lN (ky_le f0 0 4)), .long (lN (ky_le f0 4 4)), .long (lN (ky_le f0 20 4)), .long (lN (ky_le f0 24 4)), .long (kv_size f0), .long (lN (ky_le f0 32 4)), .long (lN (ky_le f0 40 4)), .long (lN (ky_le f0 88 2)), .int (kv_few f0), .long (kv_gc f0), .long (kv_cb f0), .long (kv_rk f0)]))]) (w1 := [(r1, .inr (0, [.ref b1])), (b1, .inl (cB, 1024, .inl (ky_wr (ky_cp f1 f0 1024) 90 p1.toInt64 2)))]) (ws2 := [(x, .inr (2, [.ref r0, .ref r1, .ref tr, .ref vo])), (r0, .inr (0, [.ref b0])), (b0, .inl (cB, 1024, .inl f0)), (r1, .inr (0, [.ref b1])), (b1, .inl (cB, 1024, .inl (ky_wr (ky_cp f1 f0 1024) 90 p1.toInt64 2))), (tr, .inr (0, [.ref bt])), (bt, .inl (cB, 1024, .inl u.1)), (vo, .inr (1, [.long (lN (ky_le f0 0 4)), .long (lN (ky_le f0 4 4)), .long (lN (ky_le f0 20 4)), .long (lN (ky_le f0 24 4)), .long (kv_size f0), .long (lN (ky_le f0 32 4)), .long (lN (ky_le f0 40 4)), .long (lN (ky_le f0 88 2)), .int (kv_few f0), .long (kv_gc f0), .long (kv_cb f0), .long (kv_rk f0)]))]) hP hD hS hA [3, 4] [0, 1, 2, 5, 6, 7] [0, 1, 2, 6, 7, 3, 4, 5] rfl rfl rfl (by decide) rfl rfl (va_runV (As := [.int 90, .int 2, .long p1.toInt64]) (rest := []) ⟨hx, hb, hml, hown, hts⟩ (c_Row_writeL l D cB cI _ r1 b1 (ky_cp f1 f0 1024) 90 2 p1.toInt64 (by decide) (by decide)) ⟨callB_of 3 hts g_Row_write rfl rfl rfl (hts _ q1_2) (hts _ q1_101) h_Row_write ⟨Nat.le_of_ble_eq_true rfl, Nat.le_of_ble_eq_true rfl⟩, (hts _ q1_89), (hts _ q1_90)⟩ ⟨kf_bl, va_recv hE.1 hP (ci := 0) (q0 := 3) rfl rfl, kf_to hP hD hS hA hE [3, 4] rfl rfl⟩ rfl rfl hl.1 rfl (lv_room (Nat.le_of_ble_eq_true rfl)) d_FR_copy_42 ⟨Nat.zero_le _, Nat.zero_le _⟩) (fun H locs hP hD hS => ?_)
      refine W.eq (g2 := F0 m 45 ls []) rfl ?_
      refine lv_iconst (v := 0) hx hb d_FR_copy_45 (by decide) ?_
      have hq : kr_grP f0 p1 ∧ ky_hcP (kv_few f0) p1.toInt64 := ⟨kP_ne c5, kP_ne c17⟩
      simp only [if_pos hq]
      exact kf_irB hx hb hr hlocks (kx_at hP hD) hS (rfl) d_FR_copy_46
    · refine lv_iconst (v := -1) hx hb d_FR_copy_20 (by decide) ?_
      have hq : ¬ (kr_grP f0 p1 ∧ ky_hcP (kv_few f0) p1.toInt64) := fun q => kP_eq c17 q.2
      simp only [if_neg hq]
      exact kf_irB hx hb hr hlocks (kx_at hP hD) hS (rfl) d_FR_copy_21

set_option maxRecDepth 100000 in
set_option maxHeartbeats 4000000 in
theorem c_FR_groups (l : Launch) (D : va_G) (cB cI : ClassId) (hz : Nat) (x : Nat) (r0 : Nat) (b0 : Nat) (r1 : Nat) (b1 : Nat) (tr : Nat) (bt : Nat) (vo : Nat) (f0 : Nat → Int32) (f1 : Nat → Int32) (u : (Nat → Int32) × (Nat → Int64) × Int32) : kf_Ct l y_FR_groups w_FR_groups 5 110 0 0 D (kT cB cI) [.ref x] [(x, .inr (2, [.ref r0, .ref r1, .ref tr, .ref vo])), (r0, .inr (0, [.ref b0])), (b0, .inl (cB, 1024, .inl f0)), (r1, .inr (0, [.ref b1])), (b1, .inl (cB, 1024, .inl f1)), (tr, .inr (0, [.ref bt])), (bt, .inl (cB, 1024, .inl u.1)), (vo, .inr (1, [.long (u.2.1 0), .long (u.2.1 1), .long (u.2.1 2), .long (u.2.1 3), .long (u.2.1 4), .long (u.2.1 5), .long (u.2.1 6), .long (u.2.1 7), .int u.2.2, .long (u.2.1 9), .long (u.2.1 10), .long (u.2.1 11)]))] hz (some (.int (if kv_fault f0 = -2 then (kv_gc f0).toInt32 else -1))) (kx_FR D cB x r0 b0 r1 b1 tr bt vo f0 f1) := by
  refine kf_of (cc := b_FR_groups) (maxL := 1) (ret := (some .int)) (by decide) rfl (Nat.le_of_ble_eq_true rfl) ?_
  intro p e s m below meth c A H locs hx hb hr hml hown hts hlocks hin hP hD hS hA hE ls hl
  have hl : lv_has ls 1 [(0, .ref x)] := hl
  refine lv_aload_n hx hb d_FR_groups_0 rfl (lv_at hl 0 rfl) ?_
  refine va_get (D := D) (ci := 2) (v := .ref vo) (C := "FieldRows") (T := F_FR) (N := 4) hx hb hts ku_FR hown hE.1 hP 0 rfl rfl 3 (by decide) (hts _ q1_211) (fun _ h9 => h9) rfl d_FR_groups_1 ?_
  refine lv_aload_n hx hb d_FR_groups_4 rfl (lv_at hl 0 rfl) ?_
  refine va_get (D := D) (ci := 2) (v := .ref r0) (C := "FieldRows") (T := F_FR) (N := 4) hx hb hts ku_FR hown hE.1 hP 0 rfl rfl 0 (by decide) (hts _ q1_208) (fun _ h9 => h9) rfl d_FR_groups_5 ?_
  refine kf_kc (wr := [(x, .inr (2, [.ref r0, .ref r1, .ref tr, .ref vo])), (r1, .inr (0, [.ref b1])), (b1, .inl (cB, 1024, .inl f1)), (tr, .inr (0, [.ref bt])), (bt, .inl (cB, 1024, .inl u.1))]) (w1 := [(vo, .inr (1, [.long (lN (ky_le f0 0 4)), .long (lN (ky_le f0 4 4)), .long (lN (ky_le f0 20 4)), .long (lN (ky_le f0 24 4)), .long (kv_size f0), .long (lN (ky_le f0 32 4)), .long (lN (ky_le f0 40 4)), .long (lN (ky_le f0 88 2)), .int (kv_few f0), .long (kv_gc f0), .long (kv_cb f0), .long (kv_rk f0)])), (r0, .inr (0, [.ref b0])), (b0, .inl (cB, 1024, .inl f0))]) (ws2 := [(x, .inr (2, [.ref r0, .ref r1, .ref tr, .ref vo])), (r0, .inr (0, [.ref b0])), (b0, .inl (cB, 1024, .inl f0)), (r1, .inr (0, [.ref b1])), (b1, .inl (cB, 1024, .inl f1)), (tr, .inr (0, [.ref bt])), (bt, .inl (cB, 1024, .inl u.1)), (vo, .inr (1, [.long (lN (ky_le f0 0 4)), .long (lN (ky_le f0 4 4)), .long (lN (ky_le f0 20 4)), .long (lN (ky_le f0 24 4)), .long (kv_size f0), .long (lN (ky_le f0 32 4)), .long (lN (ky_le f0 40 4)), .long (lN (ky_le f0 88 2)), .int (kv_few f0), .long (kv_gc f0), .long (kv_cb f0), .long (kv_rk f0)]))]) hP hD hS hA [7, 1, 2] [0, 3, 4, 5, 6] [0, 6, 7, 1, 2, 3, 4, 5] rfl rfl rfl (by decide) rfl rfl (va_runV (As := [.ref r0]) (rest := []) ⟨hx, hb, hml, hown, hts⟩ (c_Vol_firstFaultOf l D cB cI _ vo (u.2.1 0) (u.2.1 1) (u.2.1 2) (u.2.1 3) (u.2.1 4) (u.2.1 5) (u.2.1 6) (u.2.1 7) u.2.2 (u.2.1 9) (u.2.1 10) (u.2.1 11) r0 b0 f0) ⟨callB_of 1 hts g_Vol_firstFaultOf rfl rfl rfl (hts _ q1_3) (hts _ q1_122) h_Vol_firstFaultOf ⟨Nat.le_of_ble_eq_true rfl, Nat.le_of_ble_eq_true rfl⟩, (hts _ q1_123), (hts _ q1_124)⟩ ⟨kf_bl, va_recv hE.1 hP (ci := 1) (q0 := 7) rfl rfl, kf_to hP hD hS hA hE [7, 1, 2] rfl rfl⟩ rfl rfl hl.1 rfl (lv_room (Nat.le_of_ble_eq_true rfl)) d_FR_groups_8 ⟨Nat.zero_le _, Nat.zero_le _⟩) (fun H locs hP hD hS => ?_)
  refine W.eq (g2 := F0 m 11 ls [.int (kv_fault f0)]) rfl ?_
  refine lv_bipush (v := -2) hx hb d_FR_groups_11 (by decide) ?_
  refine lv_icmp_ne (tgt := 27) hx hb d_FR_groups_13 (by decide) (fun c13 => ?_) (fun c13 => ?_)
  · refine lv_iconst (v := -1) hx hb d_FR_groups_27 (by decide) ?_
    exact kf_irB hx hb hr hlocks (kx_at hP hD) hS (by rw [if_neg c13]) d_FR_groups_28
  · refine lv_aload_n hx hb d_FR_groups_16 rfl (lv_at hl 0 rfl) ?_
    refine va_get (D := D) (ci := 2) (v := .ref vo) (C := "FieldRows") (T := F_FR) (N := 4) hx hb hts ku_FR hown hE.1 hP 0 rfl rfl 3 (by decide) (hts _ q1_211) (fun _ h9 => h9) rfl d_FR_groups_17 ?_
    refine va_getN (D := D) (ci := 1) (v := .long (kv_gc f0)) (C := "FieldRows$Volume") (T := F_Vol) (N := 12) hx hb hts ku_Vol hown hE.1 hP 7 rfl rfl 9 (by decide) (va_Nw.use rfl (hE.2.1 _ q1_45)) (fun _ h9 => h9) rfl d_FR_groups_20 ?_
    refine lv_l2i hx hb d_FR_groups_23 rfl ?_
    refine lv_goto (tgt := 28) hx hb d_FR_groups_24 (by decide) ?_
    exact kf_irB hx hb hr hlocks (kx_at hP hD) hS (by rw [if_pos c13]) d_FR_groups_28

set_option maxRecDepth 100000 in
set_option maxHeartbeats 4000000 in
theorem c_FR_differs (l : Launch) (D : va_G) (cB cI : ClassId) (hz : Nat) (x : Nat) (r0 : Nat) (b0 : Nat) (r1 : Nat) (b1 : Nat) (tr : Nat) (bt : Nat) (vo : Nat) (f0 : Nat → Int32) (f1 : Nat → Int32) (u : (Nat → Int32) × (Nat → Int64) × Int32) : kf_Ct l y_FR_differs w_FR_differs 2 46 0 0 D (kT cB cI) [.ref x] [(x, .inr (2, [.ref r0, .ref r1, .ref tr, .ref vo])), (r0, .inr (0, [.ref b0])), (b0, .inl (cB, 1024, .inl f0)), (r1, .inr (0, [.ref b1])), (b1, .inl (cB, 1024, .inl f1)), (tr, .inr (0, [.ref bt])), (bt, .inl (cB, 1024, .inl u.1)), (vo, .inr (1, [.long (u.2.1 0), .long (u.2.1 1), .long (u.2.1 2), .long (u.2.1 3), .long (u.2.1 4), .long (u.2.1 5), .long (u.2.1 6), .long (u.2.1 7), .int u.2.2, .long (u.2.1 9), .long (u.2.1 10), .long (u.2.1 11)]))] hz (some (.int (kr_df f0 f1 1024))) (kx_FR D cB x r0 b0 r1 b1 tr bt vo f0 f1) := by
  refine kf_of (cc := b_FR_differs) (maxL := 2) (ret := (some .int)) (by decide) rfl (Nat.le_of_ble_eq_true rfl) ?_
  intro p e s m below meth c A H locs hx hb hr hml hown hts hlocks hin hP hD hS hA hE ls hl
  have hl : lv_has ls 2 [(0, .ref x)] := hl
  refine lv_iconst (v := 0) hx hb d_FR_differs_0 (by decide) ?_
  refine kf_ti (y := nI 0) (rfl) ?_
  refine lv_istore_n (lv' := [(1, .int (nI 0)), (0, .ref x)]) hx hb d_FR_differs_1 rfl hl (by decide) rfl (fun ls hl => ?_)
  refine kf_loop (σ := Nat) (fun k ls H locs => (k ≤ 1024) ∧ (kr_df f0 f1 1024 = kr_df f0 f1 (1024 - k)) ∧ lv_has ls 2 [(1, .int (nI k)), (0, .ref x)] ∧ va_P D vwCl [(x, .inr (2, [.ref r0, .ref r1, .ref tr, .ref vo])), (r0, .inr (0, [.ref b0])), (b0, .inl (cB, 1024, .inl f0)), (r1, .inr (0, [.ref b1])), (b1, .inl (cB, 1024, .inl f1)), (tr, .inr (0, [.ref bt])), (bt, .inl (cB, 1024, .inl u.1)), (vo, .inr (1, [.long (u.2.1 0), .long (u.2.1 1), .long (u.2.1 2), .long (u.2.1 3), .long (u.2.1 4), .long (u.2.1 5), .long (u.2.1 6), .long (u.2.1 7), .int u.2.2, .long (u.2.1 9), .long (u.2.1 10), .long (u.2.1 11)]))] H ∧ va_D A [(x, .inr (2, [.ref r0, .ref r1, .ref tr, .ref vo])), (r0, .inr (0, [.ref b0])), (b0, .inl (cB, 1024, .inl f0)), (r1, .inr (0, [.ref b1])), (b1, .inl (cB, 1024, .inl f1)), (tr, .inr (0, [.ref bt])), (bt, .inl (cB, 1024, .inl u.1)), (vo, .inr (1, [.long (u.2.1 0), .long (u.2.1 1), .long (u.2.1 2), .long (u.2.1 3), .long (u.2.1 4), .long (u.2.1 5), .long (u.2.1 6), .long (u.2.1 7), .int u.2.2, .long (u.2.1 9), .long (u.2.1 10), .long (u.2.1 11)]))] ∧ va_S A s.heap H locs) (fun k => 1024 - k) 0 ⟨Nat.zero_le _, rfl, lv_sub hl [0, 1] rfl, hP, hD, hS⟩ (fun k ls H locs hI ih => ?_)
  obtain ⟨hk, hq, hl, hP, hD, hS⟩ := hI
  rcases Nat.lt_or_ge k 1024 with hkn | hkn
  · refine lv_iload_n hx hb d_FR_differs_2 rfl (lv_at hl 0 rfl) ?_
    refine lv_sipush (v := 1024) hx hb d_FR_differs_3 (by decide) ?_
    refine lv_icmp_ge (tgt := 46) hx hb d_FR_differs_6 (by decide) (fun c6 => absurd c6 (nI_ge (a := k) (b := 1024) hkn (by decide))) (fun c6 => ?_)
    refine lv_aload_n hx hb d_FR_differs_9 rfl (lv_at hl 1 rfl) ?_
    refine va_get (D := D) (ci := 2) (v := .ref r0) (C := "FieldRows") (T := F_FR) (N := 4) hx hb hts ku_FR hown hE.1 hP 0 rfl rfl 0 (by decide) (hts _ q1_208) (fun _ h9 => h9) rfl d_FR_differs_10 ?_
    refine lv_iload_n hx hb d_FR_differs_13 rfl (lv_at hl 0 rfl) ?_
    refine lv_iconst (v := 1) hx hb d_FR_differs_14 (by decide) ?_
    refine kf_ro hP hD hS hA [1, 2] rfl (va_runV (As := [.int (nI k), .int 1]) (rest := []) ⟨hx, hb, hml, hown, hts⟩ (c_Row_fieldL l D cB cI _ r0 b0 f0 k 1 (by decide) (by omega)) ⟨callB_of 2 hts g_Row_field rfl rfl rfl (hts _ q1_2) (hts _ q1_231) h_Row_field ⟨Nat.le_of_ble_eq_true rfl, Nat.le_of_ble_eq_true rfl⟩, (hts _ q1_110), (hts _ q1_111)⟩ ⟨kf_bl, va_recv hE.1 hP (ci := 0) (q0 := 1) rfl rfl, kf_to hP hD hS hA hE [1, 2] rfl rfl⟩ rfl rfl hl.1 rfl (lv_room (Nat.le_of_ble_eq_true rfl)) d_FR_differs_15 ⟨Nat.zero_le _, Nat.zero_le _⟩) (fun H locs hP hS => ?_)
    refine W.eq (g2 := F0 m 18 ls [.long (lN (ky_le f0 k 1))]) rfl ?_
    refine lv_aload_n hx hb d_FR_differs_18 rfl (lv_at hl 1 rfl) ?_
    refine va_get (D := D) (ci := 2) (v := .ref r1) (C := "FieldRows") (T := F_FR) (N := 4) hx hb hts ku_FR hown hE.1 hP 0 rfl rfl 1 (by decide) (hts _ q1_209) (fun _ h9 => h9) rfl d_FR_differs_19 ?_
    refine lv_iload_n hx hb d_FR_differs_22 rfl (lv_at hl 0 rfl) ?_
    refine lv_iconst (v := 1) hx hb d_FR_differs_23 (by decide) ?_
    refine kf_ro hP hD hS hA [3, 4] rfl (va_runV (As := [.int (nI k), .int 1]) (rest := [.long (lN (ky_le f0 k 1))]) ⟨hx, hb, hml, hown, hts⟩ (c_Row_fieldL l D cB cI _ r1 b1 f1 k 1 (by decide) (by omega)) ⟨callB_of 2 hts g_Row_field rfl rfl rfl (hts _ q1_2) (hts _ q1_231) h_Row_field ⟨Nat.le_of_ble_eq_true rfl, Nat.le_of_ble_eq_true rfl⟩, (hts _ q1_110), (hts _ q1_111)⟩ ⟨kf_bl, va_recv hE.1 hP (ci := 0) (q0 := 3) rfl rfl, kf_to hP hD hS hA hE [3, 4] rfl rfl⟩ rfl rfl hl.1 rfl (lv_room (Nat.le_of_ble_eq_true rfl)) d_FR_differs_24 ⟨Nat.zero_le _, Nat.zero_le _⟩) (fun H locs hP hS => ?_)
    refine W.eq (g2 := F0 m 27 ls [.long (lN (ky_le f1 k 1)), .long (lN (ky_le f0 k 1))]) rfl ?_
    refine kf_lc_eq (tgt := 40) hx hb d_FR_differs_27 d_FR_differs_28 (by decide) (fun c27 => ?_) (fun c27 => ?_)
    · refine lv_iinc (v := nI (k + 1)) (lv' := [(1, .int (nI (k + 1))), (0, .ref x)]) hx hb d_FR_differs_40 hl (k := 0) rfl ((nI_succ k).symm) (by decide) rfl (fun ls hl => ?_)
      refine lv_goto (tgt := 2) hx hb d_FR_differs_43 (by decide) ?_
      exact ih (k + 1) _ _ _ (by omega) ⟨by omega, by rw [hq, show 1024 - k = (1024 - (k + 1)) + 1 by omega]; show (if lN (ky_le f0 (1023 - (1024 - (k + 1))) 1) = lN (ky_le f1 (1023 - (1024 - (k + 1))) 1) then _ else if kr_foP (nI (1023 - (1024 - (k + 1)))) then _ else _) = _; rw [show 1023 - (1024 - (k + 1)) = k by omega, if_pos c27], lv_sub hl [0, 1] rfl, hP, hD, hS⟩
    · refine lv_iload_n hx hb d_FR_differs_31 rfl (lv_at hl 0 rfl) ?_
      refine kf_ro hP hD hS hA [] rfl (va_runS (As := [.int (nI k)]) (rest := []) ⟨hx, hb, hml, hown, hts⟩ (c_FR_isFollowed l D cB cI _ (nI k)) ⟨callB_of 1 hts g_FR_isFollowed rfl rfl rfl (hts _ q1_1) (hts _ q2_18) h_FR_isFollowed ⟨Nat.le_of_ble_eq_true rfl, Nat.le_of_ble_eq_true rfl⟩, (hts _ q2_19)⟩ ⟨kf_bl, kf_to hP hD hS hA hE [] rfl rfl⟩ rfl rfl hl.1 rfl (lv_room (Nat.le_of_ble_eq_true rfl)) d_FR_differs_32 ⟨Nat.zero_le _, Nat.zero_le _⟩) (fun H locs hP hS => ?_)
      refine W.eq (g2 := F0 m 35 ls [.int (kP (kr_foP (nI k)))]) rfl ?_
      refine lv_if_eq (tgt := 40) hx hb d_FR_differs_35 (by decide) (fun c35 => ?_) (fun c35 => ?_)
      · refine lv_iinc (v := nI (k + 1)) (lv' := [(1, .int (nI (k + 1))), (0, .ref x)]) hx hb d_FR_differs_40 hl (k := 0) rfl ((nI_succ k).symm) (by decide) rfl (fun ls hl => ?_)
        refine lv_goto (tgt := 2) hx hb d_FR_differs_43 (by decide) ?_
        exact ih (k + 1) _ _ _ (by omega) ⟨by omega, by rw [hq, show 1024 - k = (1024 - (k + 1)) + 1 by omega]; show (if lN (ky_le f0 (1023 - (1024 - (k + 1))) 1) = lN (ky_le f1 (1023 - (1024 - (k + 1))) 1) then _ else if kr_foP (nI (1023 - (1024 - (k + 1)))) then _ else _) = _; rw [show 1023 - (1024 - (k + 1)) = k by omega, if_neg c27, if_neg (kP_eq c35)], lv_sub hl [0, 1] rfl, hP, hD, hS⟩
      · refine lv_iload_n hx hb d_FR_differs_38 rfl (lv_at hl 0 rfl) ?_
        exact kf_irB hx hb hr hlocks (kx_at hP hD) hS (by rw [hq, show 1024 - k = (1024 - (k + 1)) + 1 by omega]; show _ = (if lN (ky_le f0 (1023 - (1024 - (k + 1))) 1) = lN (ky_le f1 (1023 - (1024 - (k + 1))) 1) then _ else if kr_foP (nI (1023 - (1024 - (k + 1)))) then _ else _); rw [show 1023 - (1024 - (k + 1)) = k by omega, if_neg c27, if_pos (kP_ne c35)]) d_FR_differs_39
  · refine lv_iload_n hx hb d_FR_differs_2 rfl (lv_at hl 0 rfl) ?_
    refine lv_sipush (v := 1024) hx hb d_FR_differs_3 (by decide) ?_
    refine lv_icmp_ge (tgt := 46) hx hb d_FR_differs_6 (by decide) (fun c6 => ?_) (fun c6 => absurd (nI_le (a := 1024) (b := k) hkn (by omega)) c6)
    refine lv_bipush (v := -2) hx hb d_FR_differs_46 (by decide) ?_
    exact kf_irB hx hb hr hlocks (kx_at hP hD) hS (by rw [hq, show 1024 - k = 0 by omega]; rfl) d_FR_differs_48

set_option maxRecDepth 100000 in
set_option maxHeartbeats 4000000 in
theorem c_FR_where (l : Launch) (D : va_G) (cB cI : ClassId) (hz : Nat) (x : Nat) (r0 : Nat) (b0 : Nat) (r1 : Nat) (b1 : Nat) (tr : Nat) (bt : Nat) (vo : Nat) (f0 : Nat → Int32) (f1 : Nat → Int32) (u : (Nat → Int32) × (Nat → Int64) × Int32) (p1 : Int32) (p2 : Int32) : kf_Ct l y_FR_where w_FR_where 6 131 0 0 D (kT cB cI) [.ref x, .int p1, .int p2] [(x, .inr (2, [.ref r0, .ref r1, .ref tr, .ref vo])), (r0, .inr (0, [.ref b0])), (b0, .inl (cB, 1024, .inl f0)), (r1, .inr (0, [.ref b1])), (b1, .inl (cB, 1024, .inl f1)), (tr, .inr (0, [.ref bt])), (bt, .inl (cB, 1024, .inl u.1)), (vo, .inr (1, [.long (u.2.1 0), .long (u.2.1 1), .long (u.2.1 2), .long (u.2.1 3), .long (u.2.1 4), .long (u.2.1 5), .long (u.2.1 6), .long (u.2.1 7), .int u.2.2, .long (u.2.1 9), .long (u.2.1 10), .long (u.2.1 11)]))] hz (some (.int (kr_where f0 p1 p2))) (kx_FR D cB x r0 b0 r1 b1 tr bt vo f0 f1) := by
  refine kf_of (cc := b_FR_where) (maxL := 3) (ret := (some .int)) (by decide) rfl (Nat.le_of_ble_eq_true rfl) ?_
  intro p e s m below meth c A H locs hx hb hr hml hown hts hlocks hin hP hD hS hA hE ls hl
  have hl : lv_has ls 3 [(0, .ref x), (1, .int p1), (2, .int p2)] := hl
  refine lv_aload_n hx hb d_FR_where_0 rfl (lv_at hl 0 rfl) ?_
  refine lv_iload_n hx hb d_FR_where_1 rfl (lv_at hl 1 rfl) ?_
  refine kf_kc (wr := []) (w1 := [(x, .inr (2, [.ref r0, .ref r1, .ref tr, .ref vo])), (r0, .inr (0, [.ref b0])), (b0, .inl (cB, 1024, .inl f0)), (r1, .inr (0, [.ref b1])), (b1, .inl (cB, 1024, .inl f1)), (tr, .inr (0, [.ref bt])), (bt, .inl (cB, 1024, .inl u.1)), (vo, .inr (1, [.long (lN (ky_le f0 0 4)), .long (lN (ky_le f0 4 4)), .long (lN (ky_le f0 20 4)), .long (lN (ky_le f0 24 4)), .long (kv_size f0), .long (lN (ky_le f0 32 4)), .long (lN (ky_le f0 40 4)), .long (lN (ky_le f0 88 2)), .int (kv_few f0), .long (kv_gc f0), .long (kv_cb f0), .long (kv_rk f0)]))]) (ws2 := [(x, .inr (2, [.ref r0, .ref r1, .ref tr, .ref vo])), (r0, .inr (0, [.ref b0])), (b0, .inl (cB, 1024, .inl f0)), (r1, .inr (0, [.ref b1])), (b1, .inl (cB, 1024, .inl f1)), (tr, .inr (0, [.ref bt])), (bt, .inl (cB, 1024, .inl u.1)), (vo, .inr (1, [.long (lN (ky_le f0 0 4)), .long (lN (ky_le f0 4 4)), .long (lN (ky_le f0 20 4)), .long (lN (ky_le f0 24 4)), .long (kv_size f0), .long (lN (ky_le f0 32 4)), .long (lN (ky_le f0 40 4)), .long (lN (ky_le f0 88 2)), .int (kv_few f0), .long (kv_gc f0), .long (kv_cb f0), .long (kv_rk f0)]))]) hP hD hS hA [0, 1, 2, 3, 4, 5, 6, 7] [] [0, 1, 2, 3, 4, 5, 6, 7] rfl rfl rfl (by decide) rfl rfl (va_runV (As := [.int p1]) (rest := []) ⟨hx, hb, hml, hown, hts⟩ (c_FR_isGroupOfRightRow l D cB cI _ x r0 b0 r1 b1 tr bt vo f0 f1 u p1) ⟨callB_of 1 hts g_FR_isGroupOfRightRow rfl rfl rfl (hts _ q1_1) (hts _ q2_9) h_FR_isGroupOfRightRow ⟨Nat.le_of_ble_eq_true rfl, Nat.le_of_ble_eq_true rfl⟩, (hts _ q2_11), (hts _ q0_7)⟩ ⟨kf_bl, va_recv hE.1 hP (ci := 2) (q0 := 0) rfl rfl, kf_to hP hD hS hA hE [0, 1, 2, 3, 4, 5, 6, 7] rfl rfl⟩ rfl rfl hl.1 rfl (lv_room (Nat.le_of_ble_eq_true rfl)) d_FR_where_2 ⟨Nat.zero_le _, Nat.zero_le _⟩) (fun H locs hP hD hS => ?_)
  refine W.eq (g2 := F0 m 5 ls [.int (kP (kr_grP f0 p1))]) rfl ?_
  refine lv_if_ne (tgt := 10) hx hb d_FR_where_5 (by decide) (fun c5 => ?_) (fun c5 => ?_)
  · refine lv_iload_n hx hb d_FR_where_10 rfl (lv_at hl 2 rfl) ?_
    rcases ky_sw8 p2 with rfl | rfl | rfl | rfl | rfl | rfl | rfl | rfl | hw
    · refine lv_tableIn (off := 45) (tgt := 56) hx hb d_FR_where_11 (by decide) (by decide) (by decide) (by decide) ?_
      refine lv_aload_n hx hb d_FR_where_56 rfl (lv_at hl 0 rfl) ?_
      refine va_get (D := D) (ci := 2) (v := .ref vo) (C := "FieldRows") (T := F_FR) (N := 4) hx hb hts ku_FR hown hE.1 hP 0 rfl rfl 3 (by decide) (hts _ q1_211) (fun _ h9 => h9) rfl d_FR_where_57 ?_
      refine lv_iload_n hx hb d_FR_where_60 rfl (lv_at hl 1 rfl) ?_
      refine lv_i2l hx hb d_FR_where_61 rfl ?_
      refine kf_ro hP hD hS hA [7] rfl (va_runV (As := [.long p1.toInt64]) (rest := []) ⟨hx, hb, hml, hown, hts⟩ (c_Vol_groupStart l D cB cI _ vo (lN (ky_le f0 0 4)) (lN (ky_le f0 4 4)) (lN (ky_le f0 20 4)) (lN (ky_le f0 24 4)) (kv_size f0) (lN (ky_le f0 32 4)) (lN (ky_le f0 40 4)) (lN (ky_le f0 88 2)) (kv_few f0) (kv_gc f0) (kv_cb f0) (kv_rk f0) p1.toInt64) ⟨callB_of 1 hts g_Vol_groupStart rfl rfl rfl (hts _ q1_3) (hts _ q2_31) h_Vol_groupStart ⟨Nat.le_of_ble_eq_true rfl, Nat.le_of_ble_eq_true rfl⟩, (hts _ q1_162), (hts _ q1_163)⟩ ⟨kf_bl, va_recv hE.1 hP (ci := 1) (q0 := 7) rfl rfl, kf_to hP hD hS hA hE [7] rfl rfl⟩ rfl rfl hl.1 rfl (lv_room (Nat.le_of_ble_eq_true rfl)) d_FR_where_62 ⟨Nat.zero_le _, Nat.zero_le _⟩) (fun H locs hP hS => ?_)
      refine W.eq (g2 := F0 m 65 ls [.long ((lN (ky_le f0 20 4)) + p1.toInt64 * (lN (ky_le f0 32 4)))]) rfl ?_
      refine lv_l2i hx hb d_FR_where_65 rfl ?_
      exact kf_irB hx hb hr hlocks (kx_at hP hD) hS (by unfold kr_where; rw [if_neg (fun q => q (kP_ne c5)), if_pos rfl]) d_FR_where_66
    · refine lv_tableIn (off := 56) (tgt := 67) hx hb d_FR_where_11 (by decide) (by decide) (by decide) (by decide) ?_
      refine lv_aload_n hx hb d_FR_where_67 rfl (lv_at hl 0 rfl) ?_
      refine va_get (D := D) (ci := 2) (v := .ref vo) (C := "FieldRows") (T := F_FR) (N := 4) hx hb hts ku_FR hown hE.1 hP 0 rfl rfl 3 (by decide) (hts _ q1_211) (fun _ h9 => h9) rfl d_FR_where_68 ?_
      refine lv_iload_n hx hb d_FR_where_71 rfl (lv_at hl 1 rfl) ?_
      refine lv_i2l hx hb d_FR_where_72 rfl ?_
      refine kf_ro hP hD hS hA [7] rfl (va_runV (As := [.long p1.toInt64]) (rest := []) ⟨hx, hb, hml, hown, hts⟩ (c_Vol_groupLength l D cB cI _ vo (lN (ky_le f0 0 4)) (lN (ky_le f0 4 4)) (lN (ky_le f0 20 4)) (lN (ky_le f0 24 4)) (kv_size f0) (lN (ky_le f0 32 4)) (lN (ky_le f0 40 4)) (lN (ky_le f0 88 2)) (kv_few f0) (kv_gc f0) (kv_cb f0) (kv_rk f0) p1.toInt64) ⟨callB_of 1 hts g_Vol_groupLength rfl rfl rfl (hts _ q1_3) (hts _ q2_32) h_Vol_groupLength ⟨Nat.le_of_ble_eq_true rfl, Nat.le_of_ble_eq_true rfl⟩, (hts _ q1_158), (hts _ q1_159)⟩ ⟨kf_bl, va_recv hE.1 hP (ci := 1) (q0 := 7) rfl rfl, kf_to hP hD hS hA hE [7] rfl rfl⟩ rfl rfl hl.1 rfl (lv_room (Nat.le_of_ble_eq_true rfl)) d_FR_where_73 ⟨Nat.zero_le _, Nat.zero_le _⟩) (fun H locs hP hS => ?_)
      refine W.eq (g2 := F0 m 76 ls [.long (ky_min (lN (ky_le f0 32 4)) ((lN (ky_le f0 4 4)) - ((lN (ky_le f0 20 4)) + p1.toInt64 * (lN (ky_le f0 32 4)))))]) rfl ?_
      refine lv_l2i hx hb d_FR_where_76 rfl ?_
      exact kf_irB hx hb hr hlocks (kx_at hP hD) hS (by unfold kr_where; rw [if_neg (fun q => q (kP_ne c5)), if_neg (by decide), if_pos rfl]) d_FR_where_77
    · refine lv_tableIn (off := 67) (tgt := 78) hx hb d_FR_where_11 (by decide) (by decide) (by decide) (by decide) ?_
      refine lv_aload_n hx hb d_FR_where_78 rfl (lv_at hl 0 rfl) ?_
      refine va_get (D := D) (ci := 2) (v := .ref vo) (C := "FieldRows") (T := F_FR) (N := 4) hx hb hts ku_FR hown hE.1 hP 0 rfl rfl 3 (by decide) (hts _ q1_211) (fun _ h9 => h9) rfl d_FR_where_79 ?_
      refine lv_iload_n hx hb d_FR_where_82 rfl (lv_at hl 1 rfl) ?_
      refine lv_i2l hx hb d_FR_where_83 rfl ?_
      refine kf_ro hP hD hS hA [7] rfl (va_runV (As := [.long p1.toInt64]) (rest := []) ⟨hx, hb, hml, hown, hts⟩ (c_Vol_hasCopy l D cB cI _ vo (lN (ky_le f0 0 4)) (lN (ky_le f0 4 4)) (lN (ky_le f0 20 4)) (lN (ky_le f0 24 4)) (kv_size f0) (lN (ky_le f0 32 4)) (lN (ky_le f0 40 4)) (lN (ky_le f0 88 2)) (kv_few f0) (kv_gc f0) (kv_cb f0) (kv_rk f0) p1.toInt64) ⟨callB_of 1 hts g_Vol_hasCopy rfl rfl rfl (hts _ q1_3) (hts _ q2_13) h_Vol_hasCopy ⟨Nat.le_of_ble_eq_true rfl, Nat.le_of_ble_eq_true rfl⟩, (hts _ q1_177), (hts _ q1_178)⟩ ⟨kf_bl, va_recv hE.1 hP (ci := 1) (q0 := 7) rfl rfl, kf_to hP hD hS hA hE [7] rfl rfl⟩ rfl rfl hl.1 rfl (lv_room (Nat.le_of_ble_eq_true rfl)) d_FR_where_84 ⟨Nat.zero_le _, Nat.zero_le _⟩) (fun H locs hP hS => ?_)
      refine W.eq (g2 := F0 m 87 ls [.int (kP (ky_hcP (kv_few f0) p1.toInt64))]) rfl ?_
      refine lv_if_eq (tgt := 94) hx hb d_FR_where_87 (by decide) (fun c87 => ?_) (fun c87 => ?_)
      · refine lv_iconst (v := 0) hx hb d_FR_where_94 (by decide) ?_
        exact kf_irB hx hb hr hlocks (kx_at hP hD) hS (by unfold kr_where; rw [if_neg (fun q => q (kP_ne c5)), if_neg (by decide), if_neg (by decide), if_pos rfl, if_neg (kP_eq c87)]) d_FR_where_95
      · refine lv_iconst (v := 1) hx hb d_FR_where_90 (by decide) ?_
        refine lv_goto (tgt := 95) hx hb d_FR_where_91 (by decide) ?_
        exact kf_irB hx hb hr hlocks (kx_at hP hD) hS (by unfold kr_where; rw [if_neg (fun q => q (kP_ne c5)), if_neg (by decide), if_neg (by decide), if_pos rfl, if_pos (kP_ne c87)]) d_FR_where_95
    · refine lv_tableIn (off := 85) (tgt := 96) hx hb d_FR_where_11 (by decide) (by decide) (by decide) (by decide) ?_
      refine lv_aload_n hx hb d_FR_where_96 rfl (lv_at hl 0 rfl) ?_
      refine va_get (D := D) (ci := 2) (v := .ref vo) (C := "FieldRows") (T := F_FR) (N := 4) hx hb hts ku_FR hown hE.1 hP 0 rfl rfl 3 (by decide) (hts _ q1_211) (fun _ h9 => h9) rfl d_FR_where_97 ?_
      refine lv_iload_n hx hb d_FR_where_100 rfl (lv_at hl 1 rfl) ?_
      refine lv_i2l hx hb d_FR_where_101 rfl ?_
      refine kf_ro hP hD hS hA [7] rfl (va_runV (As := [.long p1.toInt64]) (rest := []) ⟨hx, hb, hml, hown, hts⟩ (c_Vol_blockBitmap l D cB cI _ vo (lN (ky_le f0 0 4)) (lN (ky_le f0 4 4)) (lN (ky_le f0 20 4)) (lN (ky_le f0 24 4)) (kv_size f0) (lN (ky_le f0 32 4)) (lN (ky_le f0 40 4)) (lN (ky_le f0 88 2)) (kv_few f0) (kv_gc f0) (kv_cb f0) (kv_rk f0) p1.toInt64) ⟨callB_of 1 hts g_Vol_blockBitmap rfl rfl rfl (hts _ q1_3) (hts _ q2_33) h_Vol_blockBitmap ⟨Nat.le_of_ble_eq_true rfl, Nat.le_of_ble_eq_true rfl⟩, (hts _ q2_34), (hts _ q2_35)⟩ ⟨kf_bl, va_recv hE.1 hP (ci := 1) (q0 := 7) rfl rfl, kf_to hP hD hS hA hE [7] rfl rfl⟩ rfl rfl hl.1 rfl (lv_room (Nat.le_of_ble_eq_true rfl)) d_FR_where_102 ⟨Nat.zero_le _, Nat.zero_le _⟩) (fun H locs hP hS => ?_)
      refine W.eq (g2 := F0 m 105 ls [.long ((lN (ky_le f0 20 4)) + p1.toInt64 * (lN (ky_le f0 32 4)) + ky_bc (kv_few f0) (kv_cb f0) p1.toInt64)]) rfl ?_
      refine lv_l2i hx hb d_FR_where_105 rfl ?_
      exact kf_irB hx hb hr hlocks (kx_at hP hD) hS (by unfold kr_where; rw [if_neg (fun q => q (kP_ne c5)), if_neg (by decide), if_neg (by decide), if_neg (by decide), if_pos rfl]) d_FR_where_106
    · refine lv_tableIn (off := 96) (tgt := 107) hx hb d_FR_where_11 (by decide) (by decide) (by decide) (by decide) ?_
      refine lv_aload_n hx hb d_FR_where_107 rfl (lv_at hl 0 rfl) ?_
      refine va_get (D := D) (ci := 2) (v := .ref vo) (C := "FieldRows") (T := F_FR) (N := 4) hx hb hts ku_FR hown hE.1 hP 0 rfl rfl 3 (by decide) (hts _ q1_211) (fun _ h9 => h9) rfl d_FR_where_108 ?_
      refine lv_iload_n hx hb d_FR_where_111 rfl (lv_at hl 1 rfl) ?_
      refine lv_i2l hx hb d_FR_where_112 rfl ?_
      refine kf_ro hP hD hS hA [7] rfl (va_runV (As := [.long p1.toInt64]) (rest := []) ⟨hx, hb, hml, hown, hts⟩ (c_Vol_fileBitmap l D cB cI _ vo (lN (ky_le f0 0 4)) (lN (ky_le f0 4 4)) (lN (ky_le f0 20 4)) (lN (ky_le f0 24 4)) (kv_size f0) (lN (ky_le f0 32 4)) (lN (ky_le f0 40 4)) (lN (ky_le f0 88 2)) (kv_few f0) (kv_gc f0) (kv_cb f0) (kv_rk f0) p1.toInt64) ⟨callB_of 1 hts g_Vol_fileBitmap rfl rfl rfl (hts _ q1_3) (hts _ q2_37) h_Vol_fileBitmap ⟨Nat.le_of_ble_eq_true rfl, Nat.le_of_ble_eq_true rfl⟩, (hts _ q2_38), (hts _ q2_39)⟩ ⟨kf_bl, va_recv hE.1 hP (ci := 1) (q0 := 7) rfl rfl, kf_to hP hD hS hA hE [7] rfl rfl⟩ rfl rfl hl.1 rfl (lv_room (Nat.le_of_ble_eq_true rfl)) d_FR_where_113 ⟨Nat.zero_le _, Nat.zero_le _⟩) (fun H locs hP hS => ?_)
      refine W.eq (g2 := F0 m 116 ls [.long ((lN (ky_le f0 20 4)) + p1.toInt64 * (lN (ky_le f0 32 4)) + ky_bc (kv_few f0) (kv_cb f0) p1.toInt64 + 1)]) rfl ?_
      refine lv_l2i hx hb d_FR_where_116 rfl ?_
      exact kf_irB hx hb hr hlocks (kx_at hP hD) hS (by unfold kr_where; rw [if_neg (fun q => q (kP_ne c5)), if_neg (by decide), if_neg (by decide), if_neg (by decide), if_neg (by decide), if_pos rfl]) d_FR_where_117
    · refine lv_tableIn (off := 107) (tgt := 118) hx hb d_FR_where_11 (by decide) (by decide) (by decide) (by decide) ?_
      refine lv_aload_n hx hb d_FR_where_118 rfl (lv_at hl 0 rfl) ?_
      refine va_get (D := D) (ci := 2) (v := .ref vo) (C := "FieldRows") (T := F_FR) (N := 4) hx hb hts ku_FR hown hE.1 hP 0 rfl rfl 3 (by decide) (hts _ q1_211) (fun _ h9 => h9) rfl d_FR_where_119 ?_
      refine lv_iload_n hx hb d_FR_where_122 rfl (lv_at hl 1 rfl) ?_
      refine lv_i2l hx hb d_FR_where_123 rfl ?_
      refine kf_ro hP hD hS hA [7] rfl (va_runV (As := [.long p1.toInt64]) (rest := []) ⟨hx, hb, hml, hown, hts⟩ (c_Vol_recordStart l D cB cI _ vo (lN (ky_le f0 0 4)) (lN (ky_le f0 4 4)) (lN (ky_le f0 20 4)) (lN (ky_le f0 24 4)) (kv_size f0) (lN (ky_le f0 32 4)) (lN (ky_le f0 40 4)) (lN (ky_le f0 88 2)) (kv_few f0) (kv_gc f0) (kv_cb f0) (kv_rk f0) p1.toInt64) ⟨callB_of 1 hts g_Vol_recordStart rfl rfl rfl (hts _ q1_3) (hts _ q2_42) h_Vol_recordStart ⟨Nat.le_of_ble_eq_true rfl, Nat.le_of_ble_eq_true rfl⟩, (hts _ q2_43), (hts _ q2_44)⟩ ⟨kf_bl, va_recv hE.1 hP (ci := 1) (q0 := 7) rfl rfl, kf_to hP hD hS hA hE [7] rfl rfl⟩ rfl rfl hl.1 rfl (lv_room (Nat.le_of_ble_eq_true rfl)) d_FR_where_124 ⟨Nat.zero_le _, Nat.zero_le _⟩) (fun H locs hP hS => ?_)
      refine W.eq (g2 := F0 m 127 ls [.long ((lN (ky_le f0 20 4)) + p1.toInt64 * (lN (ky_le f0 32 4)) + ky_bc (kv_few f0) (kv_cb f0) p1.toInt64 + 1 + 1)]) rfl ?_
      refine lv_l2i hx hb d_FR_where_127 rfl ?_
      exact kf_irB hx hb hr hlocks (kx_at hP hD) hS (by unfold kr_where; rw [if_neg (fun q => q (kP_ne c5)), if_neg (by decide), if_neg (by decide), if_neg (by decide), if_neg (by decide), if_neg (by decide), if_pos rfl]) d_FR_where_128
    · refine lv_tableIn (off := 118) (tgt := 129) hx hb d_FR_where_11 (by decide) (by decide) (by decide) (by decide) ?_
      refine lv_aload_n hx hb d_FR_where_129 rfl (lv_at hl 0 rfl) ?_
      refine va_get (D := D) (ci := 2) (v := .ref vo) (C := "FieldRows") (T := F_FR) (N := 4) hx hb hts ku_FR hown hE.1 hP 0 rfl rfl 3 (by decide) (hts _ q1_211) (fun _ h9 => h9) rfl d_FR_where_130 ?_
      refine va_getN (D := D) (ci := 1) (v := .long (kv_rk f0)) (C := "FieldRows$Volume") (T := F_Vol) (N := 12) hx hb hts ku_Vol hown hE.1 hP 7 rfl rfl 11 (by decide) (va_Nw.use rfl (hE.2.1 _ q1_48)) (fun _ h9 => h9) rfl d_FR_where_133 ?_
      refine lv_l2i hx hb d_FR_where_136 rfl ?_
      exact kf_irB hx hb hr hlocks (kx_at hP hD) hS (by unfold kr_where; rw [if_neg (fun q => q (kP_ne c5)), if_neg (by decide), if_neg (by decide), if_neg (by decide), if_neg (by decide), if_neg (by decide), if_neg (by decide), if_pos rfl]) d_FR_where_137
    · refine lv_tableIn (off := 127) (tgt := 138) hx hb d_FR_where_11 (by decide) (by decide) (by decide) (by decide) ?_
      refine lv_aload_n hx hb d_FR_where_138 rfl (lv_at hl 0 rfl) ?_
      refine va_get (D := D) (ci := 2) (v := .ref vo) (C := "FieldRows") (T := F_FR) (N := 4) hx hb hts ku_FR hown hE.1 hP 0 rfl rfl 3 (by decide) (hts _ q1_211) (fun _ h9 => h9) rfl d_FR_where_139 ?_
      refine lv_iload_n hx hb d_FR_where_142 rfl (lv_at hl 1 rfl) ?_
      refine lv_i2l hx hb d_FR_where_143 rfl ?_
      refine kf_ro hP hD hS hA [7] rfl (va_runV (As := [.long p1.toInt64]) (rest := []) ⟨hx, hb, hml, hown, hts⟩ (c_Vol_fixedBlocks l D cB cI _ vo (lN (ky_le f0 0 4)) (lN (ky_le f0 4 4)) (lN (ky_le f0 20 4)) (lN (ky_le f0 24 4)) (kv_size f0) (lN (ky_le f0 32 4)) (lN (ky_le f0 40 4)) (lN (ky_le f0 88 2)) (kv_few f0) (kv_gc f0) (kv_cb f0) (kv_rk f0) p1.toInt64) ⟨callB_of 1 hts g_Vol_fixedBlocks rfl rfl rfl (hts _ q1_3) (hts _ q2_47) h_Vol_fixedBlocks ⟨Nat.le_of_ble_eq_true rfl, Nat.le_of_ble_eq_true rfl⟩, (hts _ q1_169), (hts _ q1_170)⟩ ⟨kf_bl, va_recv hE.1 hP (ci := 1) (q0 := 7) rfl rfl, kf_to hP hD hS hA hE [7] rfl rfl⟩ rfl rfl hl.1 rfl (lv_room (Nat.le_of_ble_eq_true rfl)) d_FR_where_144 ⟨Nat.zero_le _, Nat.zero_le _⟩) (fun H locs hP hS => ?_)
      refine W.eq (g2 := F0 m 147 ls [.long (ky_bc (kv_few f0) (kv_cb f0) p1.toInt64 + 2 + (kv_rk f0))]) rfl ?_
      refine lv_l2i hx hb d_FR_where_147 rfl ?_
      exact kf_irB hx hb hr hlocks (kx_at hP hD) hS (by unfold kr_where; rw [if_neg (fun q => q (kP_ne c5)), if_neg (by decide), if_neg (by decide), if_neg (by decide), if_neg (by decide), if_neg (by decide), if_neg (by decide), if_neg (by decide), if_pos rfl]) d_FR_where_148
    · refine lv_tableOut (tgt := 149) hx hb d_FR_where_11 hw.1 (by decide) ?_
      refine lv_iconst (v := -1) hx hb d_FR_where_149 (by decide) ?_
      exact kf_irB hx hb hr hlocks (kx_at hP hD) hS (by unfold kr_where; rw [if_neg (fun q => q (kP_ne c5)), if_neg hw.2.1, if_neg hw.2.2.1, if_neg hw.2.2.2.1, if_neg hw.2.2.2.2.1, if_neg hw.2.2.2.2.2.1, if_neg hw.2.2.2.2.2.2.1, if_neg hw.2.2.2.2.2.2.2.1, if_neg hw.2.2.2.2.2.2.2.2]) d_FR_where_150
  · refine lv_iconst (v := -1) hx hb d_FR_where_8 (by decide) ?_
    exact kf_irB hx hb hr hlocks (kx_at hP hD) hS (by unfold kr_where; rw [if_pos (kP_eq c5)]) d_FR_where_9

set_option maxRecDepth 100000 in
set_option maxHeartbeats 4000000 in
theorem c_FR_record (l : Launch) (D : va_G) (cB cI : ClassId) (hz : Nat) (x : Nat) (r0 : Nat) (b0 : Nat) (r1 : Nat) (b1 : Nat) (tr : Nat) (bt : Nat) (vo : Nat) (f0 : Nat → Int32) (f1 : Nat → Int32) (u : (Nat → Int32) × (Nat → Int64) × Int32) (p1 : Int32) (p2 : Int32) : kf_Ct l y_FR_record w_FR_record 5 111 0 0 D (kT cB cI) [.ref x, .int p1, .int p2] [(x, .inr (2, [.ref r0, .ref r1, .ref tr, .ref vo])), (r0, .inr (0, [.ref b0])), (b0, .inl (cB, 1024, .inl f0)), (r1, .inr (0, [.ref b1])), (b1, .inl (cB, 1024, .inl f1)), (tr, .inr (0, [.ref bt])), (bt, .inl (cB, 1024, .inl u.1)), (vo, .inr (1, [.long (u.2.1 0), .long (u.2.1 1), .long (u.2.1 2), .long (u.2.1 3), .long (u.2.1 4), .long (u.2.1 5), .long (u.2.1 6), .long (u.2.1 7), .int u.2.2, .long (u.2.1 9), .long (u.2.1 10), .long (u.2.1 11)]))] hz (some (.int (kr_record f0 p1 p2))) (kx_FR D cB x r0 b0 r1 b1 tr bt vo f0 f1) := by
  refine kf_of (cc := b_FR_record) (maxL := 11) (ret := (some .int)) (by decide) rfl (Nat.le_of_ble_eq_true rfl) ?_
  intro p e s m below meth c A H locs hx hb hr hml hown hts hlocks hin hP hD hS hA hE ls hl
  have hl : lv_has ls 11 [(0, .ref x), (1, .int p1), (2, .int p2)] := hl
  refine lv_aload_n hx hb d_FR_record_0 rfl (lv_at hl 0 rfl) ?_
  refine va_get (D := D) (ci := 2) (v := .ref vo) (C := "FieldRows") (T := F_FR) (N := 4) hx hb hts ku_FR hown hE.1 hP 0 rfl rfl 3 (by decide) (hts _ q1_211) (fun _ h9 => h9) rfl d_FR_record_1 ?_
  refine lv_aload_n hx hb d_FR_record_4 rfl (lv_at hl 0 rfl) ?_
  refine va_get (D := D) (ci := 2) (v := .ref r0) (C := "FieldRows") (T := F_FR) (N := 4) hx hb hts ku_FR hown hE.1 hP 0 rfl rfl 0 (by decide) (hts _ q1_208) (fun _ h9 => h9) rfl d_FR_record_5 ?_
  refine kf_kc (wr := [(x, .inr (2, [.ref r0, .ref r1, .ref tr, .ref vo])), (r1, .inr (0, [.ref b1])), (b1, .inl (cB, 1024, .inl f1)), (tr, .inr (0, [.ref bt])), (bt, .inl (cB, 1024, .inl u.1))]) (w1 := [(vo, .inr (1, [.long (lN (ky_le f0 0 4)), .long (lN (ky_le f0 4 4)), .long (lN (ky_le f0 20 4)), .long (lN (ky_le f0 24 4)), .long (kv_size f0), .long (lN (ky_le f0 32 4)), .long (lN (ky_le f0 40 4)), .long (lN (ky_le f0 88 2)), .int (kv_few f0), .long (kv_gc f0), .long (kv_cb f0), .long (kv_rk f0)])), (r0, .inr (0, [.ref b0])), (b0, .inl (cB, 1024, .inl f0))]) (ws2 := [(x, .inr (2, [.ref r0, .ref r1, .ref tr, .ref vo])), (r0, .inr (0, [.ref b0])), (b0, .inl (cB, 1024, .inl f0)), (r1, .inr (0, [.ref b1])), (b1, .inl (cB, 1024, .inl f1)), (tr, .inr (0, [.ref bt])), (bt, .inl (cB, 1024, .inl u.1)), (vo, .inr (1, [.long (lN (ky_le f0 0 4)), .long (lN (ky_le f0 4 4)), .long (lN (ky_le f0 20 4)), .long (lN (ky_le f0 24 4)), .long (kv_size f0), .long (lN (ky_le f0 32 4)), .long (lN (ky_le f0 40 4)), .long (lN (ky_le f0 88 2)), .int (kv_few f0), .long (kv_gc f0), .long (kv_cb f0), .long (kv_rk f0)]))]) hP hD hS hA [7, 1, 2] [0, 3, 4, 5, 6] [0, 6, 7, 1, 2, 3, 4, 5] rfl rfl rfl (by decide) rfl rfl (va_runV (As := [.ref r0]) (rest := []) ⟨hx, hb, hml, hown, hts⟩ (c_Vol_firstFaultOf l D cB cI _ vo (u.2.1 0) (u.2.1 1) (u.2.1 2) (u.2.1 3) (u.2.1 4) (u.2.1 5) (u.2.1 6) (u.2.1 7) u.2.2 (u.2.1 9) (u.2.1 10) (u.2.1 11) r0 b0 f0) ⟨callB_of 1 hts g_Vol_firstFaultOf rfl rfl rfl (hts _ q1_3) (hts _ q1_122) h_Vol_firstFaultOf ⟨Nat.le_of_ble_eq_true rfl, Nat.le_of_ble_eq_true rfl⟩, (hts _ q1_123), (hts _ q1_124)⟩ ⟨kf_bl, va_recv hE.1 hP (ci := 1) (q0 := 7) rfl rfl, kf_to hP hD hS hA hE [7, 1, 2] rfl rfl⟩ rfl rfl hl.1 rfl (lv_room (Nat.le_of_ble_eq_true rfl)) d_FR_record_8 ⟨Nat.zero_le _, Nat.zero_le _⟩) (fun H locs hP hD hS => ?_)
  refine W.eq (g2 := F0 m 11 ls [.int (kv_fault f0)]) rfl ?_
  refine lv_bipush (v := -2) hx hb d_FR_record_11 (by decide) ?_
  refine lv_icmp_ne (tgt := 34) hx hb d_FR_record_13 (by decide) (fun c13 => ?_) (fun c13 => ?_)
  · refine lv_iconst (v := -1) hx hb d_FR_record_34 (by decide) ?_
    have hq : ¬ kv_fault f0 = -2 ∨ p1 < 1 ∨ ¬ p1.toInt64 ≤ lN (ky_le f0 0 4) := Or.inl c13
    exact kf_irB hx hb hr hlocks (kx_at hP hD) hS (by unfold kr_record; rw [if_pos hq]) d_FR_record_35
  · refine lv_iload_n hx hb d_FR_record_16 rfl (lv_at hl 1 rfl) ?_
    refine lv_iconst (v := 1) hx hb d_FR_record_17 (by decide) ?_
    refine lv_icmp_lt (tgt := 34) hx hb d_FR_record_18 (by decide) (fun c18 => ?_) (fun c18 => ?_)
    · refine lv_iconst (v := -1) hx hb d_FR_record_34 (by decide) ?_
      have hq : ¬ kv_fault f0 = -2 ∨ p1 < 1 ∨ ¬ p1.toInt64 ≤ lN (ky_le f0 0 4) := Or.inr (Or.inl c18)
      exact kf_irB hx hb hr hlocks (kx_at hP hD) hS (by unfold kr_record; rw [if_pos hq]) d_FR_record_35
    · refine lv_iload_n hx hb d_FR_record_21 rfl (lv_at hl 1 rfl) ?_
      refine lv_i2l hx hb d_FR_record_22 rfl ?_
      refine lv_aload_n hx hb d_FR_record_23 rfl (lv_at hl 0 rfl) ?_
      refine va_get (D := D) (ci := 2) (v := .ref vo) (C := "FieldRows") (T := F_FR) (N := 4) hx hb hts ku_FR hown hE.1 hP 0 rfl rfl 3 (by decide) (hts _ q1_211) (fun _ h9 => h9) rfl d_FR_record_24 ?_
      refine va_getN (D := D) (ci := 1) (v := .long (lN (ky_le f0 0 4))) (C := "FieldRows$Volume") (T := F_Vol) (N := 12) hx hb hts ku_Vol hown hE.1 hP 7 rfl rfl 0 (by decide) (va_Nw.use rfl (hE.2.1 _ q1_32)) (fun _ h9 => h9) rfl d_FR_record_27 ?_
      refine kf_lc_le (tgt := 36) hx hb d_FR_record_30 d_FR_record_31 (by decide) (fun c30 => ?_) (fun c30 => ?_)
      · refine lv_iload_n hx hb d_FR_record_36 rfl (lv_at hl 1 rfl) ?_
        refine lv_i2l hx hb d_FR_record_37 rfl ?_
        refine lv_lconst (v := 1) hx hb d_FR_record_38 (by decide) ?_
        refine lv_lsub hx hb d_FR_record_39 ?_
        refine lv_lstore_n (lv' := [(3, .long (p1.toInt64 - 1)), (0, .ref x), (1, .int p1), (2, .int p2)]) hx hb d_FR_record_40 rfl hl (by decide) rfl (fun ls hl => ?_)
        refine lv_lload_n hx hb d_FR_record_41 rfl (lv_at hl 0 rfl) ?_
        refine lv_aload_n hx hb d_FR_record_42 rfl (lv_at hl 1 rfl) ?_
        refine va_get (D := D) (ci := 2) (v := .ref vo) (C := "FieldRows") (T := F_FR) (N := 4) hx hb hts ku_FR hown hE.1 hP 0 rfl rfl 3 (by decide) (hts _ q1_211) (fun _ h9 => h9) rfl d_FR_record_43 ?_
        refine va_getN (D := D) (ci := 1) (v := .long (lN (ky_le f0 40 4))) (C := "FieldRows$Volume") (T := F_Vol) (N := 12) hx hb hts ku_Vol hown hE.1 hP 7 rfl rfl 6 (by decide) (va_Nw.use rfl (hE.2.1 _ q1_40)) (fun _ h9 => h9) rfl d_FR_record_46 ?_
        refine kf_ro hP hD hS hA [] rfl (va_runS (As := [.long (p1.toInt64 - 1), .long (lN (ky_le f0 40 4))]) (rest := []) ⟨hx, hb, hml, hown, hts⟩ (c_FR_quotient l D cB cI _ (p1.toInt64 - 1) (lN (ky_le f0 40 4))) ⟨callB_of 2 hts g_FR_quotient rfl rfl rfl (hts _ q1_1) (hts _ q1_118) h_FR_quotient ⟨Nat.le_of_ble_eq_true rfl, Nat.le_of_ble_eq_true rfl⟩, (hts _ q1_119)⟩ ⟨kf_bl, kf_to hP hD hS hA hE [] rfl rfl⟩ rfl rfl hl.1 rfl (lv_room (Nat.le_of_ble_eq_true rfl)) d_FR_record_49 ⟨Nat.zero_le _, Nat.zero_le _⟩) (fun H locs hP hS => ?_)
        refine W.eq (g2 := F0 m 52 ls [.long (ky_q (p1.toInt64 - 1) (lN (ky_le f0 40 4)))]) rfl ?_
        refine kf_tl (y := kr_g f0 p1) (rfl) ?_
        refine lv_lstore (lv' := [(5, .long (kr_g f0 p1)), (3, .long (p1.toInt64 - 1)), (0, .ref x), (1, .int p1), (2, .int p2)]) hx hb d_FR_record_52 hl (by decide) rfl (fun ls hl => ?_)
        refine lv_lload_n hx hb d_FR_record_54 rfl (lv_at hl 1 rfl) ?_
        refine lv_lload hx hb d_FR_record_55 (lv_at hl 0 rfl) ?_
        refine lv_aload_n hx hb d_FR_record_57 rfl (lv_at hl 2 rfl) ?_
        refine va_get (D := D) (ci := 2) (v := .ref vo) (C := "FieldRows") (T := F_FR) (N := 4) hx hb hts ku_FR hown hE.1 hP 0 rfl rfl 3 (by decide) (hts _ q1_211) (fun _ h9 => h9) rfl d_FR_record_58 ?_
        refine va_getN (D := D) (ci := 1) (v := .long (lN (ky_le f0 40 4))) (C := "FieldRows$Volume") (T := F_Vol) (N := 12) hx hb hts ku_Vol hown hE.1 hP 7 rfl rfl 6 (by decide) (va_Nw.use rfl (hE.2.1 _ q1_40)) (fun _ h9 => h9) rfl d_FR_record_61 ?_
        refine lv_lmul hx hb d_FR_record_64 ?_
        refine lv_lsub hx hb d_FR_record_65 ?_
        refine lv_aload_n hx hb d_FR_record_66 rfl (lv_at hl 2 rfl) ?_
        refine va_get (D := D) (ci := 2) (v := .ref vo) (C := "FieldRows") (T := F_FR) (N := 4) hx hb hts ku_FR hown hE.1 hP 0 rfl rfl 3 (by decide) (hts _ q1_211) (fun _ h9 => h9) rfl d_FR_record_67 ?_
        refine va_getN (D := D) (ci := 1) (v := .long (lN (ky_le f0 88 2))) (C := "FieldRows$Volume") (T := F_Vol) (N := 12) hx hb hts ku_Vol hown hE.1 hP 7 rfl rfl 7 (by decide) (va_Nw.use rfl (hE.2.1 _ q1_42)) (fun _ h9 => h9) rfl d_FR_record_70 ?_
        refine lv_lmul hx hb d_FR_record_73 ?_
        refine kf_tl (y := kr_by f0 p1) (rfl) ?_
        refine lv_lstore (lv' := [(7, .long (kr_by f0 p1)), (5, .long (kr_g f0 p1)), (3, .long (p1.toInt64 - 1)), (0, .ref x), (1, .int p1), (2, .int p2)]) hx hb d_FR_record_74 hl (by decide) rfl (fun ls hl => ?_)
        refine lv_lload hx hb d_FR_record_76 (lv_at hl 0 rfl) ?_
        refine lv_aload_n hx hb d_FR_record_78 rfl (lv_at hl 3 rfl) ?_
        refine va_get (D := D) (ci := 2) (v := .ref vo) (C := "FieldRows") (T := F_FR) (N := 4) hx hb hts ku_FR hown hE.1 hP 0 rfl rfl 3 (by decide) (hts _ q1_211) (fun _ h9 => h9) rfl d_FR_record_79 ?_
        refine va_getN (D := D) (ci := 1) (v := .long (kv_size f0)) (C := "FieldRows$Volume") (T := F_Vol) (N := 12) hx hb hts ku_Vol hown hE.1 hP 7 rfl rfl 4 (by decide) (va_Nw.use rfl (hE.2.1 _ q1_37)) (fun _ h9 => h9) rfl d_FR_record_82 ?_
        refine kf_ro hP hD hS hA [] rfl (va_runS (As := [.long (kr_by f0 p1), .long (kv_size f0)]) (rest := []) ⟨hx, hb, hml, hown, hts⟩ (c_FR_quotient l D cB cI _ (kr_by f0 p1) (kv_size f0)) ⟨callB_of 2 hts g_FR_quotient rfl rfl rfl (hts _ q1_1) (hts _ q1_118) h_FR_quotient ⟨Nat.le_of_ble_eq_true rfl, Nat.le_of_ble_eq_true rfl⟩, (hts _ q1_119)⟩ ⟨kf_bl, kf_to hP hD hS hA hE [] rfl rfl⟩ rfl rfl hl.1 rfl (lv_room (Nat.le_of_ble_eq_true rfl)) d_FR_record_85 ⟨Nat.zero_le _, Nat.zero_le _⟩) (fun H locs hP hS => ?_)
        refine W.eq (g2 := F0 m 88 ls [.long (ky_q (kr_by f0 p1) (kv_size f0))]) rfl ?_
        refine kf_tl (y := kr_bl f0 p1) (rfl) ?_
        refine lv_lstore (lv' := [(9, .long (kr_bl f0 p1)), (7, .long (kr_by f0 p1)), (5, .long (kr_g f0 p1)), (3, .long (p1.toInt64 - 1)), (0, .ref x), (1, .int p1), (2, .int p2)]) hx hb d_FR_record_88 hl (by decide) rfl (fun ls hl => ?_)
        refine lv_iload_n hx hb d_FR_record_90 rfl (lv_at hl 6 rfl) ?_
        refine lv_if_eq (tgt := 110) hx hb d_FR_record_91 (by decide) (fun c91 => ?_) (fun c91 => ?_)
        · refine lv_aload_n hx hb d_FR_record_110 rfl (lv_at hl 4 rfl) ?_
          refine va_get (D := D) (ci := 2) (v := .ref vo) (C := "FieldRows") (T := F_FR) (N := 4) hx hb hts ku_FR hown hE.1 hP 0 rfl rfl 3 (by decide) (hts _ q1_211) (fun _ h9 => h9) rfl d_FR_record_111 ?_
          refine lv_lload hx hb d_FR_record_114 (lv_at hl 2 rfl) ?_
          refine kf_ro hP hD hS hA [7] rfl (va_runV (As := [.long (kr_g f0 p1)]) (rest := []) ⟨hx, hb, hml, hown, hts⟩ (c_Vol_recordStart l D cB cI _ vo (lN (ky_le f0 0 4)) (lN (ky_le f0 4 4)) (lN (ky_le f0 20 4)) (lN (ky_le f0 24 4)) (kv_size f0) (lN (ky_le f0 32 4)) (lN (ky_le f0 40 4)) (lN (ky_le f0 88 2)) (kv_few f0) (kv_gc f0) (kv_cb f0) (kv_rk f0) (kr_g f0 p1)) ⟨callB_of 1 hts g_Vol_recordStart rfl rfl rfl (hts _ q1_3) (hts _ q2_42) h_Vol_recordStart ⟨Nat.le_of_ble_eq_true rfl, Nat.le_of_ble_eq_true rfl⟩, (hts _ q2_43), (hts _ q2_44)⟩ ⟨kf_bl, va_recv hE.1 hP (ci := 1) (q0 := 7) rfl rfl, kf_to hP hD hS hA hE [7] rfl rfl⟩ rfl rfl hl.1 rfl (lv_room (Nat.le_of_ble_eq_true rfl)) d_FR_record_116 ⟨Nat.zero_le _, Nat.zero_le _⟩) (fun H locs hP hS => ?_)
          refine W.eq (g2 := F0 m 119 ls [.long ((lN (ky_le f0 20 4)) + (kr_g f0 p1) * (lN (ky_le f0 32 4)) + ky_bc (kv_few f0) (kv_cb f0) (kr_g f0 p1) + 1 + 1)]) rfl ?_
          refine lv_lload hx hb d_FR_record_119 (lv_at hl 0 rfl) ?_
          refine lv_ladd hx hb d_FR_record_121 ?_
          refine lv_l2i hx hb d_FR_record_122 rfl ?_
          exact kf_irB hx hb hr hlocks (kx_at hP hD) hS (by unfold kr_record; rw [if_neg (fun q => q.elim (fun z => z c13) (fun z => z.elim c18 (fun y => y c30))), if_pos c91]) d_FR_record_123
        · refine lv_lload hx hb d_FR_record_94 (lv_at hl 1 rfl) ?_
          refine lv_lload hx hb d_FR_record_96 (lv_at hl 0 rfl) ?_
          refine lv_aload_n hx hb d_FR_record_98 rfl (lv_at hl 4 rfl) ?_
          refine va_get (D := D) (ci := 2) (v := .ref vo) (C := "FieldRows") (T := F_FR) (N := 4) hx hb hts ku_FR hown hE.1 hP 0 rfl rfl 3 (by decide) (hts _ q1_211) (fun _ h9 => h9) rfl d_FR_record_99 ?_
          refine va_getN (D := D) (ci := 1) (v := .long (kv_size f0)) (C := "FieldRows$Volume") (T := F_Vol) (N := 12) hx hb hts ku_Vol hown hE.1 hP 7 rfl rfl 4 (by decide) (va_Nw.use rfl (hE.2.1 _ q1_37)) (fun _ h9 => h9) rfl d_FR_record_102 ?_
          refine lv_lmul hx hb d_FR_record_105 ?_
          refine lv_lsub hx hb d_FR_record_106 ?_
          refine lv_goto (tgt := 122) hx hb d_FR_record_107 (by decide) ?_
          refine lv_l2i hx hb d_FR_record_122 rfl ?_
          exact kf_irB hx hb hr hlocks (kx_at hP hD) hS (by unfold kr_record; rw [if_neg (fun q => q.elim (fun z => z c13) (fun z => z.elim c18 (fun y => y c30))), if_neg c91]) d_FR_record_123
      · refine lv_iconst (v := -1) hx hb d_FR_record_34 (by decide) ?_
        have hq : ¬ kv_fault f0 = -2 ∨ p1 < 1 ∨ ¬ p1.toInt64 ≤ lN (ky_le f0 0 4) := Or.inr (Or.inr c30)
        exact kf_irB hx hb hr hlocks (kx_at hP hD) hS (by unfold kr_record; rw [if_pos hq]) d_FR_record_35

set_option maxRecDepth 100000 in
set_option maxHeartbeats 4000000 in
theorem c_FR_lay (l : Launch) (D : va_G) (cB cI : ClassId) (hz : Nat) (x : Nat) (r0 : Nat) (b0 : Nat) (r1 : Nat) (b1 : Nat) (tr : Nat) (bt : Nat) (vo : Nat) (f0 : Nat → Int32) (f1 : Nat → Int32) (u : (Nat → Int32) × (Nat → Int64) × Int32) (p1 : Int32) (p2 : Int32) (p3 : Int32) (p4 : Int32) (p5 : Int32) : kf_Ct l y_FR_lay w_FR_lay 5 110 0 0 D (kT cB cI) [.ref x, .int p1, .int p2, .int p3, .int p4, .int p5] [(x, .inr (2, [.ref r0, .ref r1, .ref tr, .ref vo])), (r0, .inr (0, [.ref b0])), (b0, .inl (cB, 1024, .inl f0)), (r1, .inr (0, [.ref b1])), (b1, .inl (cB, 1024, .inl f1)), (tr, .inr (0, [.ref bt])), (bt, .inl (cB, 1024, .inl u.1)), (vo, .inr (1, [.long (u.2.1 0), .long (u.2.1 1), .long (u.2.1 2), .long (u.2.1 3), .long (u.2.1 4), .long (u.2.1 5), .long (u.2.1 6), .long (u.2.1 7), .int u.2.2, .long (u.2.1 9), .long (u.2.1 10), .long (u.2.1 11)]))] hz (some (.int (if kl_P u.1 p1 p2 p3 p4 p5 then (kv_gc (kl_T u.1 p1 p2 p3 p4 p5)).toInt32 else -1))) (kx_FR D cB x r0 b0 r1 b1 tr bt vo (if kl_P u.1 p1 p2 p3 p4 p5 then ky_cp f0 (kl_T u.1 p1 p2 p3 p4 p5) 1024 else f0) (if kl_P u.1 p1 p2 p3 p4 p5 then ky_cp f1 (kl_T u.1 p1 p2 p3 p4 p5) 1024 else f1)) := by
  refine kf_of (cc := b_FR_lay) (maxL := 6) (ret := (some .int)) (by decide) rfl (Nat.le_of_ble_eq_true rfl) ?_
  intro p e s m below meth c A H locs hx hb hr hml hown hts hlocks hin hP hD hS hA hE ls hl
  have hl : lv_has ls 6 [(0, .ref x), (1, .int p1), (2, .int p2), (3, .int p3), (4, .int p4), (5, .int p5)] := hl
  refine lv_iload hx hb d_FR_lay_0 (lv_at hl 4 rfl) ?_
  refine lv_if_lt (tgt := 12) hx hb d_FR_lay_2 (by decide) (fun c2 => ?_) (fun c2 => ?_)
  · refine lv_iconst (v := -1) hx hb d_FR_lay_12 (by decide) ?_
    have hq : ¬ kl_P u.1 p1 p2 p3 p4 p5 := fun q => q.1 c2
    simp only [if_neg hq]
    exact kf_irB hx hb hr hlocks (kx_at hP hD) hS (rfl) d_FR_lay_13
  · refine lv_iload hx hb d_FR_lay_5 (lv_at hl 4 rfl) ?_
    refine lv_ldc (v := 65535) hx hb hown (hts _ q1_78) d_FR_lay_7 ?_
    refine lv_icmp_le (tgt := 14) hx hb d_FR_lay_9 (by decide) (fun c9 => ?_) (fun c9 => ?_)
    · refine lv_aload_n hx hb d_FR_lay_14 rfl (lv_at hl 0 rfl) ?_
      refine va_get (D := D) (ci := 2) (v := .ref tr) (C := "FieldRows") (T := F_FR) (N := 4) hx hb hts ku_FR hown hE.1 hP 0 rfl rfl 2 (by decide) (hts _ q1_210) (fun _ h9 => h9) rfl d_FR_lay_15 ?_
      refine kf_kc (wr := [(x, .inr (2, [.ref r0, .ref r1, .ref tr, .ref vo])), (r0, .inr (0, [.ref b0])), (b0, .inl (cB, 1024, .inl f0)), (r1, .inr (0, [.ref b1])), (b1, .inl (cB, 1024, .inl f1)), (vo, .inr (1, [.long (u.2.1 0), .long (u.2.1 1), .long (u.2.1 2), .long (u.2.1 3), .long (u.2.1 4), .long (u.2.1 5), .long (u.2.1 6), .long (u.2.1 7), .int u.2.2, .long (u.2.1 9), .long (u.2.1 10), .long (u.2.1 11)]))]) (w1 := [(tr, .inr (0, [.ref bt])), (bt, .inl (cB, 1024, .inl (ky_cp u.1 (fun _ => 0) 1024)))]) (ws2 := [(x, .inr (2, [.ref r0, .ref r1, .ref tr, .ref vo])), (r0, .inr (0, [.ref b0])), (b0, .inl (cB, 1024, .inl f0)), (r1, .inr (0, [.ref b1])), (b1, .inl (cB, 1024, .inl f1)), (tr, .inr (0, [.ref bt])), (bt, .inl (cB, 1024, .inl (ky_cp u.1 (fun _ => 0) 1024))), (vo, .inr (1, [.long (u.2.1 0), .long (u.2.1 1), .long (u.2.1 2), .long (u.2.1 3), .long (u.2.1 4), .long (u.2.1 5), .long (u.2.1 6), .long (u.2.1 7), .int u.2.2, .long (u.2.1 9), .long (u.2.1 10), .long (u.2.1 11)]))]) hP hD hS hA [5, 6] [0, 1, 2, 3, 4, 7] [0, 1, 2, 3, 4, 6, 7, 5] rfl rfl rfl (by decide) rfl rfl (va_runV (As := []) (rest := []) ⟨hx, hb, hml, hown, hts⟩ (c_Row_clear l D cB cI _ tr bt u.1) ⟨callB_of 0 hts g_Row_clear rfl rfl rfl (hts _ q1_2) (hts _ q1_79) h_Row_clear ⟨Nat.le_of_ble_eq_true rfl, Nat.le_of_ble_eq_true rfl⟩, (hts _ q1_80), (hts _ q1_81)⟩ ⟨kf_bl, va_recv hE.1 hP (ci := 0) (q0 := 5) rfl rfl, kf_to hP hD hS hA hE [5, 6] rfl rfl⟩ rfl rfl hl.1 rfl (lv_room (Nat.le_of_ble_eq_true rfl)) d_FR_lay_18 ⟨Nat.zero_le _, Nat.zero_le _⟩) (fun H locs hP hD hS => ?_)
      refine W.eq (g2 := F0 m 21 ls []) rfl ?_
      refine lv_aload_n hx hb d_FR_lay_21 rfl (lv_at hl 0 rfl) ?_
      refine va_get (D := D) (ci := 2) (v := .ref tr) (C := "FieldRows") (T := F_FR) (N := 4) hx hb hts ku_FR hown hE.1 hP 0 rfl rfl 2 (by decide) (hts _ q1_210) (fun _ h9 => h9) rfl d_FR_lay_22 ?_
      refine kf_kc (wr := [(x, .inr (2, [.ref r0, .ref r1, .ref tr, .ref vo])), (r0, .inr (0, [.ref b0])), (b0, .inl (cB, 1024, .inl f0)), (r1, .inr (0, [.ref b1])), (b1, .inl (cB, 1024, .inl f1)), (vo, .inr (1, [.long (u.2.1 0), .long (u.2.1 1), .long (u.2.1 2), .long (u.2.1 3), .long (u.2.1 4), .long (u.2.1 5), .long (u.2.1 6), .long (u.2.1 7), .int u.2.2, .long (u.2.1 9), .long (u.2.1 10), .long (u.2.1 11)]))]) (w1 := [(tr, .inr (0, [.ref bt])), (bt, .inl (cB, 1024, .inl (ky_wc (ky_cp u.1 (fun _ => 0) 1024))))]) (ws2 := [(x, .inr (2, [.ref r0, .ref r1, .ref tr, .ref vo])), (r0, .inr (0, [.ref b0])), (b0, .inl (cB, 1024, .inl f0)), (r1, .inr (0, [.ref b1])), (b1, .inl (cB, 1024, .inl f1)), (tr, .inr (0, [.ref bt])), (bt, .inl (cB, 1024, .inl (ky_wc (ky_cp u.1 (fun _ => 0) 1024)))), (vo, .inr (1, [.long (u.2.1 0), .long (u.2.1 1), .long (u.2.1 2), .long (u.2.1 3), .long (u.2.1 4), .long (u.2.1 5), .long (u.2.1 6), .long (u.2.1 7), .int u.2.2, .long (u.2.1 9), .long (u.2.1 10), .long (u.2.1 11)]))]) hP hD hS hA [5, 6] [0, 1, 2, 3, 4, 7] [0, 1, 2, 3, 4, 6, 7, 5] rfl rfl rfl (by decide) rfl rfl (va_runV (As := []) (rest := []) ⟨hx, hb, hml, hown, hts⟩ (c_Row_writeConstants l D cB cI _ tr bt (ky_cp u.1 (fun _ => 0) 1024)) ⟨callB_of 0 hts g_Row_writeConstants rfl rfl rfl (hts _ q1_2) (hts _ q1_83) h_Row_writeConstants ⟨Nat.le_of_ble_eq_true rfl, Nat.le_of_ble_eq_true rfl⟩, (hts _ q1_84), (hts _ q1_85)⟩ ⟨kf_bl, va_recv hE.1 hP (ci := 0) (q0 := 5) rfl rfl, kf_to hP hD hS hA hE [5, 6] rfl rfl⟩ rfl rfl hl.1 rfl (lv_room (Nat.le_of_ble_eq_true rfl)) d_FR_lay_25 ⟨Nat.zero_le _, Nat.zero_le _⟩) (fun H locs hP hD hS => ?_)
      refine W.eq (g2 := F0 m 28 ls []) rfl ?_
      refine lv_aload_n hx hb d_FR_lay_28 rfl (lv_at hl 0 rfl) ?_
      refine va_get (D := D) (ci := 2) (v := .ref tr) (C := "FieldRows") (T := F_FR) (N := 4) hx hb hts ku_FR hown hE.1 hP 0 rfl rfl 2 (by decide) (hts _ q1_210) (fun _ h9 => h9) rfl d_FR_lay_29 ?_
      refine lv_iconst (v := 4) hx hb d_FR_lay_32 (by decide) ?_
      refine lv_iconst (v := 4) hx hb d_FR_lay_33 (by decide) ?_
      refine lv_iload_n hx hb d_FR_lay_34 rfl (lv_at hl 1 rfl) ?_
      refine lv_i2l hx hb d_FR_lay_35 rfl ?_
      refine kf_kc (wr := [(x, .inr (2, [.ref r0, .ref r1, .ref tr, .ref vo])), (r0, .inr (0, [.ref b0])), (b0, .inl (cB, 1024, .inl f0)), (r1, .inr (0, [.ref b1])), (b1, .inl (cB, 1024, .inl f1)), (vo, .inr (1, [.long (u.2.1 0), .long (u.2.1 1), .long (u.2.1 2), .long (u.2.1 3), .long (u.2.1 4), .long (u.2.1 5), .long (u.2.1 6), .long (u.2.1 7), .int u.2.2, .long (u.2.1 9), .long (u.2.1 10), .long (u.2.1 11)]))]) (w1 := [(tr, .inr (0, [.ref bt])), (bt, .inl (cB, 1024, .inl (ky_wr (ky_wc (ky_cp u.1 (fun _ => 0) 1024)) 4 p1.toInt64 4)))]) (ws2 := [(x, .inr (2, [.ref r0, .ref r1, .ref tr, .ref vo])), (r0, .inr (0, [.ref b0])), (b0, .inl (cB, 1024, .inl f0)), (r1, .inr (0, [.ref b1])), (b1, .inl (cB, 1024, .inl f1)), (tr, .inr (0, [.ref bt])), (bt, .inl (cB, 1024, .inl (ky_wr (ky_wc (ky_cp u.1 (fun _ => 0) 1024)) 4 p1.toInt64 4))), (vo, .inr (1, [.long (u.2.1 0), .long (u.2.1 1), .long (u.2.1 2), .long (u.2.1 3), .long (u.2.1 4), .long (u.2.1 5), .long (u.2.1 6), .long (u.2.1 7), .int u.2.2, .long (u.2.1 9), .long (u.2.1 10), .long (u.2.1 11)]))]) hP hD hS hA [5, 6] [0, 1, 2, 3, 4, 7] [0, 1, 2, 3, 4, 6, 7, 5] rfl rfl rfl (by decide) rfl rfl (va_runV (As := [.int 4, .int 4, .long p1.toInt64]) (rest := []) ⟨hx, hb, hml, hown, hts⟩ (c_Row_writeL l D cB cI _ tr bt (ky_wc (ky_cp u.1 (fun _ => 0) 1024)) 4 4 p1.toInt64 (by decide) (by decide)) ⟨callB_of 3 hts g_Row_write rfl rfl rfl (hts _ q1_2) (hts _ q1_101) h_Row_write ⟨Nat.le_of_ble_eq_true rfl, Nat.le_of_ble_eq_true rfl⟩, (hts _ q1_89), (hts _ q1_90)⟩ ⟨kf_bl, va_recv hE.1 hP (ci := 0) (q0 := 5) rfl rfl, kf_to hP hD hS hA hE [5, 6] rfl rfl⟩ rfl rfl hl.1 rfl (lv_room (Nat.le_of_ble_eq_true rfl)) d_FR_lay_36 ⟨Nat.zero_le _, Nat.zero_le _⟩) (fun H locs hP hD hS => ?_)
      refine W.eq (g2 := F0 m 39 ls []) rfl ?_
      refine lv_aload_n hx hb d_FR_lay_39 rfl (lv_at hl 0 rfl) ?_
      refine va_get (D := D) (ci := 2) (v := .ref tr) (C := "FieldRows") (T := F_FR) (N := 4) hx hb hts ku_FR hown hE.1 hP 0 rfl rfl 2 (by decide) (hts _ q1_210) (fun _ h9 => h9) rfl d_FR_lay_40 ?_
      refine lv_bipush (v := 20) hx hb d_FR_lay_43 (by decide) ?_
      refine lv_iconst (v := 4) hx hb d_FR_lay_45 (by decide) ?_
      refine lv_iload hx hb d_FR_lay_46 (lv_at hl 5 rfl) ?_
      refine lv_i2l hx hb d_FR_lay_48 rfl ?_
      refine kf_ro hP hD hS hA [] rfl (va_runS (As := [.long p5.toInt64]) (rest := [.int 4, .int 20, .ref tr]) ⟨hx, hb, hml, hown, hts⟩ (c_FR_firstFor l D cB cI _ p5.toInt64) ⟨callB_of 1 hts g_FR_firstFor rfl rfl rfl (hts _ q1_1) (hts _ q1_102) h_FR_firstFor ⟨Nat.le_of_ble_eq_true rfl, Nat.le_of_ble_eq_true rfl⟩, (hts _ q1_103)⟩ ⟨kf_bl, kf_to hP hD hS hA hE [] rfl rfl⟩ rfl rfl hl.1 rfl (lv_room (Nat.le_of_ble_eq_true rfl)) d_FR_lay_49 ⟨Nat.zero_le _, Nat.zero_le _⟩) (fun H locs hP hS => ?_)
      refine W.eq (g2 := F0 m 52 ls [.int (kP (p5.toInt64 = 0)), .int 4, .int 20, .ref tr]) rfl ?_
      refine lv_i2l hx hb d_FR_lay_52 rfl ?_
      refine kf_kc (wr := [(x, .inr (2, [.ref r0, .ref r1, .ref tr, .ref vo])), (r0, .inr (0, [.ref b0])), (b0, .inl (cB, 1024, .inl f0)), (r1, .inr (0, [.ref b1])), (b1, .inl (cB, 1024, .inl f1)), (vo, .inr (1, [.long (u.2.1 0), .long (u.2.1 1), .long (u.2.1 2), .long (u.2.1 3), .long (u.2.1 4), .long (u.2.1 5), .long (u.2.1 6), .long (u.2.1 7), .int u.2.2, .long (u.2.1 9), .long (u.2.1 10), .long (u.2.1 11)]))]) (w1 := [(tr, .inr (0, [.ref bt])), (bt, .inl (cB, 1024, .inl (ky_wr (ky_wr (ky_wc (ky_cp u.1 (fun _ => 0) 1024)) 4 p1.toInt64 4) 20 ((kP (p5.toInt64 = 0)).toInt64) 4)))]) (ws2 := [(x, .inr (2, [.ref r0, .ref r1, .ref tr, .ref vo])), (r0, .inr (0, [.ref b0])), (b0, .inl (cB, 1024, .inl f0)), (r1, .inr (0, [.ref b1])), (b1, .inl (cB, 1024, .inl f1)), (tr, .inr (0, [.ref bt])), (bt, .inl (cB, 1024, .inl (ky_wr (ky_wr (ky_wc (ky_cp u.1 (fun _ => 0) 1024)) 4 p1.toInt64 4) 20 ((kP (p5.toInt64 = 0)).toInt64) 4))), (vo, .inr (1, [.long (u.2.1 0), .long (u.2.1 1), .long (u.2.1 2), .long (u.2.1 3), .long (u.2.1 4), .long (u.2.1 5), .long (u.2.1 6), .long (u.2.1 7), .int u.2.2, .long (u.2.1 9), .long (u.2.1 10), .long (u.2.1 11)]))]) hP hD hS hA [5, 6] [0, 1, 2, 3, 4, 7] [0, 1, 2, 3, 4, 6, 7, 5] rfl rfl rfl (by decide) rfl rfl (va_runV (As := [.int 20, .int 4, .long ((kP (p5.toInt64 = 0)).toInt64)]) (rest := []) ⟨hx, hb, hml, hown, hts⟩ (c_Row_writeL l D cB cI _ tr bt (ky_wr (ky_wc (ky_cp u.1 (fun _ => 0) 1024)) 4 p1.toInt64 4) 20 4 ((kP (p5.toInt64 = 0)).toInt64) (by decide) (by decide)) ⟨callB_of 3 hts g_Row_write rfl rfl rfl (hts _ q1_2) (hts _ q1_101) h_Row_write ⟨Nat.le_of_ble_eq_true rfl, Nat.le_of_ble_eq_true rfl⟩, (hts _ q1_89), (hts _ q1_90)⟩ ⟨kf_bl, va_recv hE.1 hP (ci := 0) (q0 := 5) rfl rfl, kf_to hP hD hS hA hE [5, 6] rfl rfl⟩ rfl rfl hl.1 rfl (lv_room (Nat.le_of_ble_eq_true rfl)) d_FR_lay_53 ⟨Nat.zero_le _, Nat.zero_le _⟩) (fun H locs hP hD hS => ?_)
      refine W.eq (g2 := F0 m 56 ls []) rfl ?_
      refine lv_aload_n hx hb d_FR_lay_56 rfl (lv_at hl 0 rfl) ?_
      refine va_get (D := D) (ci := 2) (v := .ref tr) (C := "FieldRows") (T := F_FR) (N := 4) hx hb hts ku_FR hown hE.1 hP 0 rfl rfl 2 (by decide) (hts _ q1_210) (fun _ h9 => h9) rfl d_FR_lay_57 ?_
      refine lv_bipush (v := 24) hx hb d_FR_lay_60 (by decide) ?_
      refine lv_iconst (v := 4) hx hb d_FR_lay_62 (by decide) ?_
      refine lv_iload hx hb d_FR_lay_63 (lv_at hl 5 rfl) ?_
      refine lv_i2l hx hb d_FR_lay_65 rfl ?_
      refine kf_kc (wr := [(x, .inr (2, [.ref r0, .ref r1, .ref tr, .ref vo])), (r0, .inr (0, [.ref b0])), (b0, .inl (cB, 1024, .inl f0)), (r1, .inr (0, [.ref b1])), (b1, .inl (cB, 1024, .inl f1)), (vo, .inr (1, [.long (u.2.1 0), .long (u.2.1 1), .long (u.2.1 2), .long (u.2.1 3), .long (u.2.1 4), .long (u.2.1 5), .long (u.2.1 6), .long (u.2.1 7), .int u.2.2, .long (u.2.1 9), .long (u.2.1 10), .long (u.2.1 11)]))]) (w1 := [(tr, .inr (0, [.ref bt])), (bt, .inl (cB, 1024, .inl (ky_wr (ky_wr (ky_wr (ky_wc (ky_cp u.1 (fun _ => 0) 1024)) 4 p1.toInt64 4) 20 ((kP (p5.toInt64 = 0)).toInt64) 4) 24 p5.toInt64 4)))]) (ws2 := [(x, .inr (2, [.ref r0, .ref r1, .ref tr, .ref vo])), (r0, .inr (0, [.ref b0])), (b0, .inl (cB, 1024, .inl f0)), (r1, .inr (0, [.ref b1])), (b1, .inl (cB, 1024, .inl f1)), (tr, .inr (0, [.ref bt])), (bt, .inl (cB, 1024, .inl (ky_wr (ky_wr (ky_wr (ky_wc (ky_cp u.1 (fun _ => 0) 1024)) 4 p1.toInt64 4) 20 ((kP (p5.toInt64 = 0)).toInt64) 4) 24 p5.toInt64 4))), (vo, .inr (1, [.long (u.2.1 0), .long (u.2.1 1), .long (u.2.1 2), .long (u.2.1 3), .long (u.2.1 4), .long (u.2.1 5), .long (u.2.1 6), .long (u.2.1 7), .int u.2.2, .long (u.2.1 9), .long (u.2.1 10), .long (u.2.1 11)]))]) hP hD hS hA [5, 6] [0, 1, 2, 3, 4, 7] [0, 1, 2, 3, 4, 6, 7, 5] rfl rfl rfl (by decide) rfl rfl (va_runV (As := [.int 24, .int 4, .long p5.toInt64]) (rest := []) ⟨hx, hb, hml, hown, hts⟩ (c_Row_writeL l D cB cI _ tr bt (ky_wr (ky_wr (ky_wc (ky_cp u.1 (fun _ => 0) 1024)) 4 p1.toInt64 4) 20 ((kP (p5.toInt64 = 0)).toInt64) 4) 24 4 p5.toInt64 (by decide) (by decide)) ⟨callB_of 3 hts g_Row_write rfl rfl rfl (hts _ q1_2) (hts _ q1_101) h_Row_write ⟨Nat.le_of_ble_eq_true rfl, Nat.le_of_ble_eq_true rfl⟩, (hts _ q1_89), (hts _ q1_90)⟩ ⟨kf_bl, va_recv hE.1 hP (ci := 0) (q0 := 5) rfl rfl, kf_to hP hD hS hA hE [5, 6] rfl rfl⟩ rfl rfl hl.1 rfl (lv_room (Nat.le_of_ble_eq_true rfl)) d_FR_lay_66 ⟨Nat.zero_le _, Nat.zero_le _⟩) (fun H locs hP hD hS => ?_)
      refine W.eq (g2 := F0 m 69 ls []) rfl ?_
      refine lv_aload_n hx hb d_FR_lay_69 rfl (lv_at hl 0 rfl) ?_
      refine va_get (D := D) (ci := 2) (v := .ref tr) (C := "FieldRows") (T := F_FR) (N := 4) hx hb hts ku_FR hown hE.1 hP 0 rfl rfl 2 (by decide) (hts _ q1_210) (fun _ h9 => h9) rfl d_FR_lay_70 ?_
      refine lv_bipush (v := 28) hx hb d_FR_lay_73 (by decide) ?_
      refine lv_iconst (v := 4) hx hb d_FR_lay_75 (by decide) ?_
      refine lv_iload hx hb d_FR_lay_76 (lv_at hl 5 rfl) ?_
      refine lv_i2l hx hb d_FR_lay_78 rfl ?_
      refine kf_kc (wr := [(x, .inr (2, [.ref r0, .ref r1, .ref tr, .ref vo])), (r0, .inr (0, [.ref b0])), (b0, .inl (cB, 1024, .inl f0)), (r1, .inr (0, [.ref b1])), (b1, .inl (cB, 1024, .inl f1)), (vo, .inr (1, [.long (u.2.1 0), .long (u.2.1 1), .long (u.2.1 2), .long (u.2.1 3), .long (u.2.1 4), .long (u.2.1 5), .long (u.2.1 6), .long (u.2.1 7), .int u.2.2, .long (u.2.1 9), .long (u.2.1 10), .long (u.2.1 11)]))]) (w1 := [(tr, .inr (0, [.ref bt])), (bt, .inl (cB, 1024, .inl (ky_wr (ky_wr (ky_wr (ky_wr (ky_wc (ky_cp u.1 (fun _ => 0) 1024)) 4 p1.toInt64 4) 20 ((kP (p5.toInt64 = 0)).toInt64) 4) 24 p5.toInt64 4) 28 p5.toInt64 4)))]) (ws2 := [(x, .inr (2, [.ref r0, .ref r1, .ref tr, .ref vo])), (r0, .inr (0, [.ref b0])), (b0, .inl (cB, 1024, .inl f0)), (r1, .inr (0, [.ref b1])), (b1, .inl (cB, 1024, .inl f1)), (tr, .inr (0, [.ref bt])), (bt, .inl (cB, 1024, .inl (ky_wr (ky_wr (ky_wr (ky_wr (ky_wc (ky_cp u.1 (fun _ => 0) 1024)) 4 p1.toInt64 4) 20 ((kP (p5.toInt64 = 0)).toInt64) 4) 24 p5.toInt64 4) 28 p5.toInt64 4))), (vo, .inr (1, [.long (u.2.1 0), .long (u.2.1 1), .long (u.2.1 2), .long (u.2.1 3), .long (u.2.1 4), .long (u.2.1 5), .long (u.2.1 6), .long (u.2.1 7), .int u.2.2, .long (u.2.1 9), .long (u.2.1 10), .long (u.2.1 11)]))]) hP hD hS hA [5, 6] [0, 1, 2, 3, 4, 7] [0, 1, 2, 3, 4, 6, 7, 5] rfl rfl rfl (by decide) rfl rfl (va_runV (As := [.int 28, .int 4, .long p5.toInt64]) (rest := []) ⟨hx, hb, hml, hown, hts⟩ (c_Row_writeL l D cB cI _ tr bt (ky_wr (ky_wr (ky_wr (ky_wc (ky_cp u.1 (fun _ => 0) 1024)) 4 p1.toInt64 4) 20 ((kP (p5.toInt64 = 0)).toInt64) 4) 24 p5.toInt64 4) 28 4 p5.toInt64 (by decide) (by decide)) ⟨callB_of 3 hts g_Row_write rfl rfl rfl (hts _ q1_2) (hts _ q1_101) h_Row_write ⟨Nat.le_of_ble_eq_true rfl, Nat.le_of_ble_eq_true rfl⟩, (hts _ q1_89), (hts _ q1_90)⟩ ⟨kf_bl, va_recv hE.1 hP (ci := 0) (q0 := 5) rfl rfl, kf_to hP hD hS hA hE [5, 6] rfl rfl⟩ rfl rfl hl.1 rfl (lv_room (Nat.le_of_ble_eq_true rfl)) d_FR_lay_79 ⟨Nat.zero_le _, Nat.zero_le _⟩) (fun H locs hP hD hS => ?_)
      refine W.eq (g2 := F0 m 82 ls []) rfl ?_
      refine lv_aload_n hx hb d_FR_lay_82 rfl (lv_at hl 0 rfl) ?_
      refine va_get (D := D) (ci := 2) (v := .ref tr) (C := "FieldRows") (T := F_FR) (N := 4) hx hb hts ku_FR hown hE.1 hP 0 rfl rfl 2 (by decide) (hts _ q1_210) (fun _ h9 => h9) rfl d_FR_lay_83 ?_
      refine lv_bipush (v := 32) hx hb d_FR_lay_86 (by decide) ?_
      refine lv_iconst (v := 4) hx hb d_FR_lay_88 (by decide) ?_
      refine lv_iload_n hx hb d_FR_lay_89 rfl (lv_at hl 2 rfl) ?_
      refine lv_i2l hx hb d_FR_lay_90 rfl ?_
      refine kf_kc (wr := [(x, .inr (2, [.ref r0, .ref r1, .ref tr, .ref vo])), (r0, .inr (0, [.ref b0])), (b0, .inl (cB, 1024, .inl f0)), (r1, .inr (0, [.ref b1])), (b1, .inl (cB, 1024, .inl f1)), (vo, .inr (1, [.long (u.2.1 0), .long (u.2.1 1), .long (u.2.1 2), .long (u.2.1 3), .long (u.2.1 4), .long (u.2.1 5), .long (u.2.1 6), .long (u.2.1 7), .int u.2.2, .long (u.2.1 9), .long (u.2.1 10), .long (u.2.1 11)]))]) (w1 := [(tr, .inr (0, [.ref bt])), (bt, .inl (cB, 1024, .inl (ky_wr (ky_wr (ky_wr (ky_wr (ky_wr (ky_wc (ky_cp u.1 (fun _ => 0) 1024)) 4 p1.toInt64 4) 20 ((kP (p5.toInt64 = 0)).toInt64) 4) 24 p5.toInt64 4) 28 p5.toInt64 4) 32 p2.toInt64 4)))]) (ws2 := [(x, .inr (2, [.ref r0, .ref r1, .ref tr, .ref vo])), (r0, .inr (0, [.ref b0])), (b0, .inl (cB, 1024, .inl f0)), (r1, .inr (0, [.ref b1])), (b1, .inl (cB, 1024, .inl f1)), (tr, .inr (0, [.ref bt])), (bt, .inl (cB, 1024, .inl (ky_wr (ky_wr (ky_wr (ky_wr (ky_wr (ky_wc (ky_cp u.1 (fun _ => 0) 1024)) 4 p1.toInt64 4) 20 ((kP (p5.toInt64 = 0)).toInt64) 4) 24 p5.toInt64 4) 28 p5.toInt64 4) 32 p2.toInt64 4))), (vo, .inr (1, [.long (u.2.1 0), .long (u.2.1 1), .long (u.2.1 2), .long (u.2.1 3), .long (u.2.1 4), .long (u.2.1 5), .long (u.2.1 6), .long (u.2.1 7), .int u.2.2, .long (u.2.1 9), .long (u.2.1 10), .long (u.2.1 11)]))]) hP hD hS hA [5, 6] [0, 1, 2, 3, 4, 7] [0, 1, 2, 3, 4, 6, 7, 5] rfl rfl rfl (by decide) rfl rfl (va_runV (As := [.int 32, .int 4, .long p2.toInt64]) (rest := []) ⟨hx, hb, hml, hown, hts⟩ (c_Row_writeL l D cB cI _ tr bt (ky_wr (ky_wr (ky_wr (ky_wr (ky_wc (ky_cp u.1 (fun _ => 0) 1024)) 4 p1.toInt64 4) 20 ((kP (p5.toInt64 = 0)).toInt64) 4) 24 p5.toInt64 4) 28 p5.toInt64 4) 32 4 p2.toInt64 (by decide) (by decide)) ⟨callB_of 3 hts g_Row_write rfl rfl rfl (hts _ q1_2) (hts _ q1_101) h_Row_write ⟨Nat.le_of_ble_eq_true rfl, Nat.le_of_ble_eq_true rfl⟩, (hts _ q1_89), (hts _ q1_90)⟩ ⟨kf_bl, va_recv hE.1 hP (ci := 0) (q0 := 5) rfl rfl, kf_to hP hD hS hA hE [5, 6] rfl rfl⟩ rfl rfl hl.1 rfl (lv_room (Nat.le_of_ble_eq_true rfl)) d_FR_lay_91 ⟨Nat.zero_le _, Nat.zero_le _⟩) (fun H locs hP hD hS => ?_)
      refine W.eq (g2 := F0 m 94 ls []) rfl ?_
      refine lv_aload_n hx hb d_FR_lay_94 rfl (lv_at hl 0 rfl) ?_
      refine va_get (D := D) (ci := 2) (v := .ref tr) (C := "FieldRows") (T := F_FR) (N := 4) hx hb hts ku_FR hown hE.1 hP 0 rfl rfl 2 (by decide) (hts _ q1_210) (fun _ h9 => h9) rfl d_FR_lay_95 ?_
      refine lv_bipush (v := 36) hx hb d_FR_lay_98 (by decide) ?_
      refine lv_iconst (v := 4) hx hb d_FR_lay_100 (by decide) ?_
      refine lv_iload_n hx hb d_FR_lay_101 rfl (lv_at hl 2 rfl) ?_
      refine lv_i2l hx hb d_FR_lay_102 rfl ?_
      refine kf_kc (wr := [(x, .inr (2, [.ref r0, .ref r1, .ref tr, .ref vo])), (r0, .inr (0, [.ref b0])), (b0, .inl (cB, 1024, .inl f0)), (r1, .inr (0, [.ref b1])), (b1, .inl (cB, 1024, .inl f1)), (vo, .inr (1, [.long (u.2.1 0), .long (u.2.1 1), .long (u.2.1 2), .long (u.2.1 3), .long (u.2.1 4), .long (u.2.1 5), .long (u.2.1 6), .long (u.2.1 7), .int u.2.2, .long (u.2.1 9), .long (u.2.1 10), .long (u.2.1 11)]))]) (w1 := [(tr, .inr (0, [.ref bt])), (bt, .inl (cB, 1024, .inl (ky_wr (ky_wr (ky_wr (ky_wr (ky_wr (ky_wr (ky_wc (ky_cp u.1 (fun _ => 0) 1024)) 4 p1.toInt64 4) 20 ((kP (p5.toInt64 = 0)).toInt64) 4) 24 p5.toInt64 4) 28 p5.toInt64 4) 32 p2.toInt64 4) 36 p2.toInt64 4)))]) (ws2 := [(x, .inr (2, [.ref r0, .ref r1, .ref tr, .ref vo])), (r0, .inr (0, [.ref b0])), (b0, .inl (cB, 1024, .inl f0)), (r1, .inr (0, [.ref b1])), (b1, .inl (cB, 1024, .inl f1)), (tr, .inr (0, [.ref bt])), (bt, .inl (cB, 1024, .inl (ky_wr (ky_wr (ky_wr (ky_wr (ky_wr (ky_wr (ky_wc (ky_cp u.1 (fun _ => 0) 1024)) 4 p1.toInt64 4) 20 ((kP (p5.toInt64 = 0)).toInt64) 4) 24 p5.toInt64 4) 28 p5.toInt64 4) 32 p2.toInt64 4) 36 p2.toInt64 4))), (vo, .inr (1, [.long (u.2.1 0), .long (u.2.1 1), .long (u.2.1 2), .long (u.2.1 3), .long (u.2.1 4), .long (u.2.1 5), .long (u.2.1 6), .long (u.2.1 7), .int u.2.2, .long (u.2.1 9), .long (u.2.1 10), .long (u.2.1 11)]))]) hP hD hS hA [5, 6] [0, 1, 2, 3, 4, 7] [0, 1, 2, 3, 4, 6, 7, 5] rfl rfl rfl (by decide) rfl rfl (va_runV (As := [.int 36, .int 4, .long p2.toInt64]) (rest := []) ⟨hx, hb, hml, hown, hts⟩ (c_Row_writeL l D cB cI _ tr bt (ky_wr (ky_wr (ky_wr (ky_wr (ky_wr (ky_wc (ky_cp u.1 (fun _ => 0) 1024)) 4 p1.toInt64 4) 20 ((kP (p5.toInt64 = 0)).toInt64) 4) 24 p5.toInt64 4) 28 p5.toInt64 4) 32 p2.toInt64 4) 36 4 p2.toInt64 (by decide) (by decide)) ⟨callB_of 3 hts g_Row_write rfl rfl rfl (hts _ q1_2) (hts _ q1_101) h_Row_write ⟨Nat.le_of_ble_eq_true rfl, Nat.le_of_ble_eq_true rfl⟩, (hts _ q1_89), (hts _ q1_90)⟩ ⟨kf_bl, va_recv hE.1 hP (ci := 0) (q0 := 5) rfl rfl, kf_to hP hD hS hA hE [5, 6] rfl rfl⟩ rfl rfl hl.1 rfl (lv_room (Nat.le_of_ble_eq_true rfl)) d_FR_lay_103 ⟨Nat.zero_le _, Nat.zero_le _⟩) (fun H locs hP hD hS => ?_)
      refine W.eq (g2 := F0 m 106 ls []) rfl ?_
      refine lv_aload_n hx hb d_FR_lay_106 rfl (lv_at hl 0 rfl) ?_
      refine va_get (D := D) (ci := 2) (v := .ref tr) (C := "FieldRows") (T := F_FR) (N := 4) hx hb hts ku_FR hown hE.1 hP 0 rfl rfl 2 (by decide) (hts _ q1_210) (fun _ h9 => h9) rfl d_FR_lay_107 ?_
      refine lv_bipush (v := 40) hx hb d_FR_lay_110 (by decide) ?_
      refine lv_iconst (v := 4) hx hb d_FR_lay_112 (by decide) ?_
      refine lv_iload_n hx hb d_FR_lay_113 rfl (lv_at hl 3 rfl) ?_
      refine lv_i2l hx hb d_FR_lay_114 rfl ?_
      refine kf_kc (wr := [(x, .inr (2, [.ref r0, .ref r1, .ref tr, .ref vo])), (r0, .inr (0, [.ref b0])), (b0, .inl (cB, 1024, .inl f0)), (r1, .inr (0, [.ref b1])), (b1, .inl (cB, 1024, .inl f1)), (vo, .inr (1, [.long (u.2.1 0), .long (u.2.1 1), .long (u.2.1 2), .long (u.2.1 3), .long (u.2.1 4), .long (u.2.1 5), .long (u.2.1 6), .long (u.2.1 7), .int u.2.2, .long (u.2.1 9), .long (u.2.1 10), .long (u.2.1 11)]))]) (w1 := [(tr, .inr (0, [.ref bt])), (bt, .inl (cB, 1024, .inl (ky_wr (ky_wr (ky_wr (ky_wr (ky_wr (ky_wr (ky_wr (ky_wc (ky_cp u.1 (fun _ => 0) 1024)) 4 p1.toInt64 4) 20 ((kP (p5.toInt64 = 0)).toInt64) 4) 24 p5.toInt64 4) 28 p5.toInt64 4) 32 p2.toInt64 4) 36 p2.toInt64 4) 40 p3.toInt64 4)))]) (ws2 := [(x, .inr (2, [.ref r0, .ref r1, .ref tr, .ref vo])), (r0, .inr (0, [.ref b0])), (b0, .inl (cB, 1024, .inl f0)), (r1, .inr (0, [.ref b1])), (b1, .inl (cB, 1024, .inl f1)), (tr, .inr (0, [.ref bt])), (bt, .inl (cB, 1024, .inl (ky_wr (ky_wr (ky_wr (ky_wr (ky_wr (ky_wr (ky_wr (ky_wc (ky_cp u.1 (fun _ => 0) 1024)) 4 p1.toInt64 4) 20 ((kP (p5.toInt64 = 0)).toInt64) 4) 24 p5.toInt64 4) 28 p5.toInt64 4) 32 p2.toInt64 4) 36 p2.toInt64 4) 40 p3.toInt64 4))), (vo, .inr (1, [.long (u.2.1 0), .long (u.2.1 1), .long (u.2.1 2), .long (u.2.1 3), .long (u.2.1 4), .long (u.2.1 5), .long (u.2.1 6), .long (u.2.1 7), .int u.2.2, .long (u.2.1 9), .long (u.2.1 10), .long (u.2.1 11)]))]) hP hD hS hA [5, 6] [0, 1, 2, 3, 4, 7] [0, 1, 2, 3, 4, 6, 7, 5] rfl rfl rfl (by decide) rfl rfl (va_runV (As := [.int 40, .int 4, .long p3.toInt64]) (rest := []) ⟨hx, hb, hml, hown, hts⟩ (c_Row_writeL l D cB cI _ tr bt (ky_wr (ky_wr (ky_wr (ky_wr (ky_wr (ky_wr (ky_wc (ky_cp u.1 (fun _ => 0) 1024)) 4 p1.toInt64 4) 20 ((kP (p5.toInt64 = 0)).toInt64) 4) 24 p5.toInt64 4) 28 p5.toInt64 4) 32 p2.toInt64 4) 36 p2.toInt64 4) 40 4 p3.toInt64 (by decide) (by decide)) ⟨callB_of 3 hts g_Row_write rfl rfl rfl (hts _ q1_2) (hts _ q1_101) h_Row_write ⟨Nat.le_of_ble_eq_true rfl, Nat.le_of_ble_eq_true rfl⟩, (hts _ q1_89), (hts _ q1_90)⟩ ⟨kf_bl, va_recv hE.1 hP (ci := 0) (q0 := 5) rfl rfl, kf_to hP hD hS hA hE [5, 6] rfl rfl⟩ rfl rfl hl.1 rfl (lv_room (Nat.le_of_ble_eq_true rfl)) d_FR_lay_115 ⟨Nat.zero_le _, Nat.zero_le _⟩) (fun H locs hP hD hS => ?_)
      refine W.eq (g2 := F0 m 118 ls []) rfl ?_
      refine lv_aload_n hx hb d_FR_lay_118 rfl (lv_at hl 0 rfl) ?_
      refine va_get (D := D) (ci := 2) (v := .ref tr) (C := "FieldRows") (T := F_FR) (N := 4) hx hb hts ku_FR hown hE.1 hP 0 rfl rfl 2 (by decide) (hts _ q1_210) (fun _ h9 => h9) rfl d_FR_lay_119 ?_
      refine lv_bipush (v := 88) hx hb d_FR_lay_122 (by decide) ?_
      refine lv_iconst (v := 2) hx hb d_FR_lay_124 (by decide) ?_
      refine lv_iload hx hb d_FR_lay_125 (lv_at hl 4 rfl) ?_
      refine lv_i2l hx hb d_FR_lay_127 rfl ?_
      refine kf_kc (wr := [(x, .inr (2, [.ref r0, .ref r1, .ref tr, .ref vo])), (r0, .inr (0, [.ref b0])), (b0, .inl (cB, 1024, .inl f0)), (r1, .inr (0, [.ref b1])), (b1, .inl (cB, 1024, .inl f1)), (vo, .inr (1, [.long (u.2.1 0), .long (u.2.1 1), .long (u.2.1 2), .long (u.2.1 3), .long (u.2.1 4), .long (u.2.1 5), .long (u.2.1 6), .long (u.2.1 7), .int u.2.2, .long (u.2.1 9), .long (u.2.1 10), .long (u.2.1 11)]))]) (w1 := [(tr, .inr (0, [.ref bt])), (bt, .inl (cB, 1024, .inl (ky_wr (ky_wr (ky_wr (ky_wr (ky_wr (ky_wr (ky_wr (ky_wr (ky_wc (ky_cp u.1 (fun _ => 0) 1024)) 4 p1.toInt64 4) 20 ((kP (p5.toInt64 = 0)).toInt64) 4) 24 p5.toInt64 4) 28 p5.toInt64 4) 32 p2.toInt64 4) 36 p2.toInt64 4) 40 p3.toInt64 4) 88 p4.toInt64 2)))]) (ws2 := [(x, .inr (2, [.ref r0, .ref r1, .ref tr, .ref vo])), (r0, .inr (0, [.ref b0])), (b0, .inl (cB, 1024, .inl f0)), (r1, .inr (0, [.ref b1])), (b1, .inl (cB, 1024, .inl f1)), (tr, .inr (0, [.ref bt])), (bt, .inl (cB, 1024, .inl (ky_wr (ky_wr (ky_wr (ky_wr (ky_wr (ky_wr (ky_wr (ky_wr (ky_wc (ky_cp u.1 (fun _ => 0) 1024)) 4 p1.toInt64 4) 20 ((kP (p5.toInt64 = 0)).toInt64) 4) 24 p5.toInt64 4) 28 p5.toInt64 4) 32 p2.toInt64 4) 36 p2.toInt64 4) 40 p3.toInt64 4) 88 p4.toInt64 2))), (vo, .inr (1, [.long (u.2.1 0), .long (u.2.1 1), .long (u.2.1 2), .long (u.2.1 3), .long (u.2.1 4), .long (u.2.1 5), .long (u.2.1 6), .long (u.2.1 7), .int u.2.2, .long (u.2.1 9), .long (u.2.1 10), .long (u.2.1 11)]))]) hP hD hS hA [5, 6] [0, 1, 2, 3, 4, 7] [0, 1, 2, 3, 4, 6, 7, 5] rfl rfl rfl (by decide) rfl rfl (va_runV (As := [.int 88, .int 2, .long p4.toInt64]) (rest := []) ⟨hx, hb, hml, hown, hts⟩ (c_Row_writeL l D cB cI _ tr bt (ky_wr (ky_wr (ky_wr (ky_wr (ky_wr (ky_wr (ky_wr (ky_wc (ky_cp u.1 (fun _ => 0) 1024)) 4 p1.toInt64 4) 20 ((kP (p5.toInt64 = 0)).toInt64) 4) 24 p5.toInt64 4) 28 p5.toInt64 4) 32 p2.toInt64 4) 36 p2.toInt64 4) 40 p3.toInt64 4) 88 2 p4.toInt64 (by decide) (by decide)) ⟨callB_of 3 hts g_Row_write rfl rfl rfl (hts _ q1_2) (hts _ q1_101) h_Row_write ⟨Nat.le_of_ble_eq_true rfl, Nat.le_of_ble_eq_true rfl⟩, (hts _ q1_89), (hts _ q1_90)⟩ ⟨kf_bl, va_recv hE.1 hP (ci := 0) (q0 := 5) rfl rfl, kf_to hP hD hS hA hE [5, 6] rfl rfl⟩ rfl rfl hl.1 rfl (lv_room (Nat.le_of_ble_eq_true rfl)) d_FR_lay_128 ⟨Nat.zero_le _, Nat.zero_le _⟩) (fun H locs hP hD hS => ?_)
      refine W.eq (g2 := F0 m 131 ls []) rfl ?_
      have eT1 : ky_wr (ky_wr (ky_wr (ky_wr (ky_wr (ky_wr (ky_wr (ky_wr (ky_wc (ky_cp u.1 (fun _ => 0) 1024)) 4 p1.toInt64 4) 20 ((kP (p5.toInt64 = 0)).toInt64) 4) 24 p5.toInt64 4) 28 p5.toInt64 4) 32 p2.toInt64 4) 36 p2.toInt64 4) 40 p3.toInt64 4) 88 p4.toInt64 2 = kl_T1 u.1 p1 p2 p3 p4 p5 := rfl
      rw [eT1] at hP hD
      refine lv_aload_n hx hb d_FR_lay_131 rfl (lv_at hl 0 rfl) ?_
      refine va_get (D := D) (ci := 2) (v := .ref vo) (C := "FieldRows") (T := F_FR) (N := 4) hx hb hts ku_FR hown hE.1 hP 0 rfl rfl 3 (by decide) (hts _ q1_211) (fun _ h9 => h9) rfl d_FR_lay_132 ?_
      refine lv_aload_n hx hb d_FR_lay_135 rfl (lv_at hl 0 rfl) ?_
      refine va_get (D := D) (ci := 2) (v := .ref tr) (C := "FieldRows") (T := F_FR) (N := 4) hx hb hts ku_FR hown hE.1 hP 0 rfl rfl 2 (by decide) (hts _ q1_210) (fun _ h9 => h9) rfl d_FR_lay_136 ?_
      refine kf_kc (wr := [(x, .inr (2, [.ref r0, .ref r1, .ref tr, .ref vo])), (r0, .inr (0, [.ref b0])), (b0, .inl (cB, 1024, .inl f0)), (r1, .inr (0, [.ref b1])), (b1, .inl (cB, 1024, .inl f1))]) (w1 := [(vo, .inr (1, [.long (lN (ky_le (kl_T1 u.1 p1 p2 p3 p4 p5) 0 4)), .long (lN (ky_le (kl_T1 u.1 p1 p2 p3 p4 p5) 4 4)), .long (lN (ky_le (kl_T1 u.1 p1 p2 p3 p4 p5) 20 4)), .long (lN (ky_le (kl_T1 u.1 p1 p2 p3 p4 p5) 24 4)), .long (kv_size (kl_T1 u.1 p1 p2 p3 p4 p5)), .long (lN (ky_le (kl_T1 u.1 p1 p2 p3 p4 p5) 32 4)), .long (lN (ky_le (kl_T1 u.1 p1 p2 p3 p4 p5) 40 4)), .long (lN (ky_le (kl_T1 u.1 p1 p2 p3 p4 p5) 88 2)), .int (kv_few (kl_T1 u.1 p1 p2 p3 p4 p5)), .long (kv_gc (kl_T1 u.1 p1 p2 p3 p4 p5)), .long (kv_cb (kl_T1 u.1 p1 p2 p3 p4 p5)), .long (kv_rk (kl_T1 u.1 p1 p2 p3 p4 p5))])), (tr, .inr (0, [.ref bt])), (bt, .inl (cB, 1024, .inl (kl_T1 u.1 p1 p2 p3 p4 p5)))]) (ws2 := [(x, .inr (2, [.ref r0, .ref r1, .ref tr, .ref vo])), (r0, .inr (0, [.ref b0])), (b0, .inl (cB, 1024, .inl f0)), (r1, .inr (0, [.ref b1])), (b1, .inl (cB, 1024, .inl f1)), (tr, .inr (0, [.ref bt])), (bt, .inl (cB, 1024, .inl (kl_T1 u.1 p1 p2 p3 p4 p5))), (vo, .inr (1, [.long (lN (ky_le (kl_T1 u.1 p1 p2 p3 p4 p5) 0 4)), .long (lN (ky_le (kl_T1 u.1 p1 p2 p3 p4 p5) 4 4)), .long (lN (ky_le (kl_T1 u.1 p1 p2 p3 p4 p5) 20 4)), .long (lN (ky_le (kl_T1 u.1 p1 p2 p3 p4 p5) 24 4)), .long (kv_size (kl_T1 u.1 p1 p2 p3 p4 p5)), .long (lN (ky_le (kl_T1 u.1 p1 p2 p3 p4 p5) 32 4)), .long (lN (ky_le (kl_T1 u.1 p1 p2 p3 p4 p5) 40 4)), .long (lN (ky_le (kl_T1 u.1 p1 p2 p3 p4 p5) 88 2)), .int (kv_few (kl_T1 u.1 p1 p2 p3 p4 p5)), .long (kv_gc (kl_T1 u.1 p1 p2 p3 p4 p5)), .long (kv_cb (kl_T1 u.1 p1 p2 p3 p4 p5)), .long (kv_rk (kl_T1 u.1 p1 p2 p3 p4 p5))]))]) hP hD hS hA [7, 5, 6] [0, 1, 2, 3, 4] [0, 1, 2, 3, 4, 6, 7, 5] rfl rfl rfl (by decide) rfl rfl (va_runV (As := [.ref tr]) (rest := []) ⟨hx, hb, hml, hown, hts⟩ (c_Vol_readNumbers l D cB cI _ vo (u.2.1 0) (u.2.1 1) (u.2.1 2) (u.2.1 3) (u.2.1 4) (u.2.1 5) (u.2.1 6) (u.2.1 7) u.2.2 (u.2.1 9) (u.2.1 10) (u.2.1 11) tr bt (kl_T1 u.1 p1 p2 p3 p4 p5)) ⟨callB_of 1 hts g_Vol_readNumbers rfl rfl rfl (hts _ q1_3) (hts _ q1_105) h_Vol_readNumbers ⟨Nat.le_of_ble_eq_true rfl, Nat.le_of_ble_eq_true rfl⟩, (hts _ q1_106), (hts _ q1_107)⟩ ⟨kf_bl, va_recv hE.1 hP (ci := 1) (q0 := 7) rfl rfl, kf_to hP hD hS hA hE [7, 5, 6] rfl rfl⟩ rfl rfl hl.1 rfl (lv_room (Nat.le_of_ble_eq_true rfl)) d_FR_lay_139 ⟨Nat.zero_le _, Nat.zero_le _⟩) (fun H locs hP hD hS => ?_)
      refine W.eq (g2 := F0 m 142 ls []) rfl ?_
      refine lv_aload_n hx hb d_FR_lay_142 rfl (lv_at hl 0 rfl) ?_
      refine va_get (D := D) (ci := 2) (v := .ref tr) (C := "FieldRows") (T := F_FR) (N := 4) hx hb hts ku_FR hown hE.1 hP 0 rfl rfl 2 (by decide) (hts _ q1_210) (fun _ h9 => h9) rfl d_FR_lay_143 ?_
      refine lv_iconst (v := 0) hx hb d_FR_lay_146 (by decide) ?_
      refine lv_iconst (v := 4) hx hb d_FR_lay_147 (by decide) ?_
      refine lv_aload_n hx hb d_FR_lay_148 rfl (lv_at hl 0 rfl) ?_
      refine va_get (D := D) (ci := 2) (v := .ref vo) (C := "FieldRows") (T := F_FR) (N := 4) hx hb hts ku_FR hown hE.1 hP 0 rfl rfl 3 (by decide) (hts _ q1_211) (fun _ h9 => h9) rfl d_FR_lay_149 ?_
      refine va_getN (D := D) (ci := 1) (v := .long (kv_gc (kl_T1 u.1 p1 p2 p3 p4 p5))) (C := "FieldRows$Volume") (T := F_Vol) (N := 12) hx hb hts ku_Vol hown hE.1 hP 7 rfl rfl 9 (by decide) (va_Nw.use rfl (hE.2.1 _ q1_45)) (fun _ h9 => h9) rfl d_FR_lay_152 ?_
      refine lv_iload_n hx hb d_FR_lay_155 rfl (lv_at hl 3 rfl) ?_
      refine lv_i2l hx hb d_FR_lay_156 rfl ?_
      refine lv_lmul hx hb d_FR_lay_157 ?_
      refine kf_kc (wr := [(x, .inr (2, [.ref r0, .ref r1, .ref tr, .ref vo])), (r0, .inr (0, [.ref b0])), (b0, .inl (cB, 1024, .inl f0)), (r1, .inr (0, [.ref b1])), (b1, .inl (cB, 1024, .inl f1)), (vo, .inr (1, [.long (lN (ky_le (kl_T1 u.1 p1 p2 p3 p4 p5) 0 4)), .long (lN (ky_le (kl_T1 u.1 p1 p2 p3 p4 p5) 4 4)), .long (lN (ky_le (kl_T1 u.1 p1 p2 p3 p4 p5) 20 4)), .long (lN (ky_le (kl_T1 u.1 p1 p2 p3 p4 p5) 24 4)), .long (kv_size (kl_T1 u.1 p1 p2 p3 p4 p5)), .long (lN (ky_le (kl_T1 u.1 p1 p2 p3 p4 p5) 32 4)), .long (lN (ky_le (kl_T1 u.1 p1 p2 p3 p4 p5) 40 4)), .long (lN (ky_le (kl_T1 u.1 p1 p2 p3 p4 p5) 88 2)), .int (kv_few (kl_T1 u.1 p1 p2 p3 p4 p5)), .long (kv_gc (kl_T1 u.1 p1 p2 p3 p4 p5)), .long (kv_cb (kl_T1 u.1 p1 p2 p3 p4 p5)), .long (kv_rk (kl_T1 u.1 p1 p2 p3 p4 p5))]))]) (w1 := [(tr, .inr (0, [.ref bt])), (bt, .inl (cB, 1024, .inl (ky_wr (kl_T1 u.1 p1 p2 p3 p4 p5) 0 ((kv_gc (kl_T1 u.1 p1 p2 p3 p4 p5)) * p3.toInt64) 4)))]) (ws2 := [(x, .inr (2, [.ref r0, .ref r1, .ref tr, .ref vo])), (r0, .inr (0, [.ref b0])), (b0, .inl (cB, 1024, .inl f0)), (r1, .inr (0, [.ref b1])), (b1, .inl (cB, 1024, .inl f1)), (tr, .inr (0, [.ref bt])), (bt, .inl (cB, 1024, .inl (ky_wr (kl_T1 u.1 p1 p2 p3 p4 p5) 0 ((kv_gc (kl_T1 u.1 p1 p2 p3 p4 p5)) * p3.toInt64) 4))), (vo, .inr (1, [.long (lN (ky_le (kl_T1 u.1 p1 p2 p3 p4 p5) 0 4)), .long (lN (ky_le (kl_T1 u.1 p1 p2 p3 p4 p5) 4 4)), .long (lN (ky_le (kl_T1 u.1 p1 p2 p3 p4 p5) 20 4)), .long (lN (ky_le (kl_T1 u.1 p1 p2 p3 p4 p5) 24 4)), .long (kv_size (kl_T1 u.1 p1 p2 p3 p4 p5)), .long (lN (ky_le (kl_T1 u.1 p1 p2 p3 p4 p5) 32 4)), .long (lN (ky_le (kl_T1 u.1 p1 p2 p3 p4 p5) 40 4)), .long (lN (ky_le (kl_T1 u.1 p1 p2 p3 p4 p5) 88 2)), .int (kv_few (kl_T1 u.1 p1 p2 p3 p4 p5)), .long (kv_gc (kl_T1 u.1 p1 p2 p3 p4 p5)), .long (kv_cb (kl_T1 u.1 p1 p2 p3 p4 p5)), .long (kv_rk (kl_T1 u.1 p1 p2 p3 p4 p5))]))]) hP hD hS hA [5, 6] [0, 1, 2, 3, 4, 7] [0, 1, 2, 3, 4, 6, 7, 5] rfl rfl rfl (by decide) rfl rfl (va_runV (As := [.int 0, .int 4, .long ((kv_gc (kl_T1 u.1 p1 p2 p3 p4 p5)) * p3.toInt64)]) (rest := []) ⟨hx, hb, hml, hown, hts⟩ (c_Row_writeL l D cB cI _ tr bt (kl_T1 u.1 p1 p2 p3 p4 p5) 0 4 ((kv_gc (kl_T1 u.1 p1 p2 p3 p4 p5)) * p3.toInt64) (by decide) (by decide)) ⟨callB_of 3 hts g_Row_write rfl rfl rfl (hts _ q1_2) (hts _ q1_101) h_Row_write ⟨Nat.le_of_ble_eq_true rfl, Nat.le_of_ble_eq_true rfl⟩, (hts _ q1_89), (hts _ q1_90)⟩ ⟨kf_bl, va_recv hE.1 hP (ci := 0) (q0 := 5) rfl rfl, kf_to hP hD hS hA hE [5, 6] rfl rfl⟩ rfl rfl hl.1 rfl (lv_room (Nat.le_of_ble_eq_true rfl)) d_FR_lay_158 ⟨Nat.zero_le _, Nat.zero_le _⟩) (fun H locs hP hD hS => ?_)
      refine W.eq (g2 := F0 m 161 ls []) rfl ?_
      have eT : ky_wr (kl_T1 u.1 p1 p2 p3 p4 p5) 0 ((kv_gc (kl_T1 u.1 p1 p2 p3 p4 p5)) * p3.toInt64) 4 = kl_T u.1 p1 p2 p3 p4 p5 := rfl
      rw [eT] at hP hD
      refine lv_aload_n hx hb d_FR_lay_161 rfl (lv_at hl 0 rfl) ?_
      refine va_get (D := D) (ci := 2) (v := .ref vo) (C := "FieldRows") (T := F_FR) (N := 4) hx hb hts ku_FR hown hE.1 hP 0 rfl rfl 3 (by decide) (hts _ q1_211) (fun _ h9 => h9) rfl d_FR_lay_162 ?_
      refine lv_aload_n hx hb d_FR_lay_165 rfl (lv_at hl 0 rfl) ?_
      refine va_get (D := D) (ci := 2) (v := .ref tr) (C := "FieldRows") (T := F_FR) (N := 4) hx hb hts ku_FR hown hE.1 hP 0 rfl rfl 2 (by decide) (hts _ q1_210) (fun _ h9 => h9) rfl d_FR_lay_166 ?_
      refine kf_kc (wr := [(x, .inr (2, [.ref r0, .ref r1, .ref tr, .ref vo])), (r0, .inr (0, [.ref b0])), (b0, .inl (cB, 1024, .inl f0)), (r1, .inr (0, [.ref b1])), (b1, .inl (cB, 1024, .inl f1))]) (w1 := [(vo, .inr (1, [.long (lN (ky_le (kl_T u.1 p1 p2 p3 p4 p5) 0 4)), .long (lN (ky_le (kl_T u.1 p1 p2 p3 p4 p5) 4 4)), .long (lN (ky_le (kl_T u.1 p1 p2 p3 p4 p5) 20 4)), .long (lN (ky_le (kl_T u.1 p1 p2 p3 p4 p5) 24 4)), .long (kv_size (kl_T u.1 p1 p2 p3 p4 p5)), .long (lN (ky_le (kl_T u.1 p1 p2 p3 p4 p5) 32 4)), .long (lN (ky_le (kl_T u.1 p1 p2 p3 p4 p5) 40 4)), .long (lN (ky_le (kl_T u.1 p1 p2 p3 p4 p5) 88 2)), .int (kv_few (kl_T u.1 p1 p2 p3 p4 p5)), .long (kv_gc (kl_T u.1 p1 p2 p3 p4 p5)), .long (kv_cb (kl_T u.1 p1 p2 p3 p4 p5)), .long (kv_rk (kl_T u.1 p1 p2 p3 p4 p5))])), (tr, .inr (0, [.ref bt])), (bt, .inl (cB, 1024, .inl (kl_T u.1 p1 p2 p3 p4 p5)))]) (ws2 := [(x, .inr (2, [.ref r0, .ref r1, .ref tr, .ref vo])), (r0, .inr (0, [.ref b0])), (b0, .inl (cB, 1024, .inl f0)), (r1, .inr (0, [.ref b1])), (b1, .inl (cB, 1024, .inl f1)), (tr, .inr (0, [.ref bt])), (bt, .inl (cB, 1024, .inl (kl_T u.1 p1 p2 p3 p4 p5))), (vo, .inr (1, [.long (lN (ky_le (kl_T u.1 p1 p2 p3 p4 p5) 0 4)), .long (lN (ky_le (kl_T u.1 p1 p2 p3 p4 p5) 4 4)), .long (lN (ky_le (kl_T u.1 p1 p2 p3 p4 p5) 20 4)), .long (lN (ky_le (kl_T u.1 p1 p2 p3 p4 p5) 24 4)), .long (kv_size (kl_T u.1 p1 p2 p3 p4 p5)), .long (lN (ky_le (kl_T u.1 p1 p2 p3 p4 p5) 32 4)), .long (lN (ky_le (kl_T u.1 p1 p2 p3 p4 p5) 40 4)), .long (lN (ky_le (kl_T u.1 p1 p2 p3 p4 p5) 88 2)), .int (kv_few (kl_T u.1 p1 p2 p3 p4 p5)), .long (kv_gc (kl_T u.1 p1 p2 p3 p4 p5)), .long (kv_cb (kl_T u.1 p1 p2 p3 p4 p5)), .long (kv_rk (kl_T u.1 p1 p2 p3 p4 p5))]))]) hP hD hS hA [7, 5, 6] [0, 1, 2, 3, 4] [0, 1, 2, 3, 4, 6, 7, 5] rfl rfl rfl (by decide) rfl rfl (va_runV (As := [.ref tr]) (rest := []) ⟨hx, hb, hml, hown, hts⟩ (c_Vol_firstFaultOf l D cB cI _ vo (lN (ky_le (kl_T1 u.1 p1 p2 p3 p4 p5) 0 4)) (lN (ky_le (kl_T1 u.1 p1 p2 p3 p4 p5) 4 4)) (lN (ky_le (kl_T1 u.1 p1 p2 p3 p4 p5) 20 4)) (lN (ky_le (kl_T1 u.1 p1 p2 p3 p4 p5) 24 4)) (kv_size (kl_T1 u.1 p1 p2 p3 p4 p5)) (lN (ky_le (kl_T1 u.1 p1 p2 p3 p4 p5) 32 4)) (lN (ky_le (kl_T1 u.1 p1 p2 p3 p4 p5) 40 4)) (lN (ky_le (kl_T1 u.1 p1 p2 p3 p4 p5) 88 2)) (kv_few (kl_T1 u.1 p1 p2 p3 p4 p5)) (kv_gc (kl_T1 u.1 p1 p2 p3 p4 p5)) (kv_cb (kl_T1 u.1 p1 p2 p3 p4 p5)) (kv_rk (kl_T1 u.1 p1 p2 p3 p4 p5)) tr bt (kl_T u.1 p1 p2 p3 p4 p5)) ⟨callB_of 1 hts g_Vol_firstFaultOf rfl rfl rfl (hts _ q1_3) (hts _ q1_122) h_Vol_firstFaultOf ⟨Nat.le_of_ble_eq_true rfl, Nat.le_of_ble_eq_true rfl⟩, (hts _ q1_123), (hts _ q1_124)⟩ ⟨kf_bl, va_recv hE.1 hP (ci := 1) (q0 := 7) rfl rfl, kf_to hP hD hS hA hE [7, 5, 6] rfl rfl⟩ rfl rfl hl.1 rfl (lv_room (Nat.le_of_ble_eq_true rfl)) d_FR_lay_169 ⟨Nat.zero_le _, Nat.zero_le _⟩) (fun H locs hP hD hS => ?_)
      refine W.eq (g2 := F0 m 172 ls [.int (kv_fault (kl_T u.1 p1 p2 p3 p4 p5))]) rfl ?_
      refine lv_bipush (v := -2) hx hb d_FR_lay_172 (by decide) ?_
      refine lv_icmp_eq (tgt := 179) hx hb d_FR_lay_174 (by decide) (fun c174 => ?_) (fun c174 => ?_)
      · refine lv_aload_n hx hb d_FR_lay_179 rfl (lv_at hl 0 rfl) ?_
        refine va_get (D := D) (ci := 2) (v := .ref r0) (C := "FieldRows") (T := F_FR) (N := 4) hx hb hts ku_FR hown hE.1 hP 0 rfl rfl 0 (by decide) (hts _ q1_208) (fun _ h9 => h9) rfl d_FR_lay_180 ?_
        refine lv_aload_n hx hb d_FR_lay_183 rfl (lv_at hl 0 rfl) ?_
        refine va_get (D := D) (ci := 2) (v := .ref tr) (C := "FieldRows") (T := F_FR) (N := 4) hx hb hts ku_FR hown hE.1 hP 0 rfl rfl 2 (by decide) (hts _ q1_210) (fun _ h9 => h9) rfl d_FR_lay_184 ?_
        refine kf_kc (wr := [(x, .inr (2, [.ref r0, .ref r1, .ref tr, .ref vo])), (r1, .inr (0, [.ref b1])), (b1, .inl (cB, 1024, .inl f1)), (vo, .inr (1, [.long (lN (ky_le (kl_T u.1 p1 p2 p3 p4 p5) 0 4)), .long (lN (ky_le (kl_T u.1 p1 p2 p3 p4 p5) 4 4)), .long (lN (ky_le (kl_T u.1 p1 p2 p3 p4 p5) 20 4)), .long (lN (ky_le (kl_T u.1 p1 p2 p3 p4 p5) 24 4)), .long (kv_size (kl_T u.1 p1 p2 p3 p4 p5)), .long (lN (ky_le (kl_T u.1 p1 p2 p3 p4 p5) 32 4)), .long (lN (ky_le (kl_T u.1 p1 p2 p3 p4 p5) 40 4)), .long (lN (ky_le (kl_T u.1 p1 p2 p3 p4 p5) 88 2)), .int (kv_few (kl_T u.1 p1 p2 p3 p4 p5)), .long (kv_gc (kl_T u.1 p1 p2 p3 p4 p5)), .long (kv_cb (kl_T u.1 p1 p2 p3 p4 p5)), .long (kv_rk (kl_T u.1 p1 p2 p3 p4 p5))]))]) (w1 := [(r0, .inr (0, [.ref b0])), (b0, .inl (cB, 1024, .inl (ky_cp f0 (kl_T u.1 p1 p2 p3 p4 p5) 1024))), (tr, .inr (0, [.ref bt])), (bt, .inl (cB, 1024, .inl (kl_T u.1 p1 p2 p3 p4 p5)))]) (ws2 := [(x, .inr (2, [.ref r0, .ref r1, .ref tr, .ref vo])), (r0, .inr (0, [.ref b0])), (b0, .inl (cB, 1024, .inl (ky_cp f0 (kl_T u.1 p1 p2 p3 p4 p5) 1024))), (r1, .inr (0, [.ref b1])), (b1, .inl (cB, 1024, .inl f1)), (tr, .inr (0, [.ref bt])), (bt, .inl (cB, 1024, .inl (kl_T u.1 p1 p2 p3 p4 p5))), (vo, .inr (1, [.long (lN (ky_le (kl_T u.1 p1 p2 p3 p4 p5) 0 4)), .long (lN (ky_le (kl_T u.1 p1 p2 p3 p4 p5) 4 4)), .long (lN (ky_le (kl_T u.1 p1 p2 p3 p4 p5) 20 4)), .long (lN (ky_le (kl_T u.1 p1 p2 p3 p4 p5) 24 4)), .long (kv_size (kl_T u.1 p1 p2 p3 p4 p5)), .long (lN (ky_le (kl_T u.1 p1 p2 p3 p4 p5) 32 4)), .long (lN (ky_le (kl_T u.1 p1 p2 p3 p4 p5) 40 4)), .long (lN (ky_le (kl_T u.1 p1 p2 p3 p4 p5) 88 2)), .int (kv_few (kl_T u.1 p1 p2 p3 p4 p5)), .long (kv_gc (kl_T u.1 p1 p2 p3 p4 p5)), .long (kv_cb (kl_T u.1 p1 p2 p3 p4 p5)), .long (kv_rk (kl_T u.1 p1 p2 p3 p4 p5))]))]) hP hD hS hA [1, 2, 5, 6] [0, 3, 4, 7] [0, 4, 5, 1, 2, 6, 7, 3] rfl rfl rfl (by decide) rfl rfl (va_runV (As := [.ref tr]) (rest := []) ⟨hx, hb, hml, hown, hts⟩ (c_Row_takeAll l D cB cI _ r0 b0 f0 tr bt (kl_T u.1 p1 p2 p3 p4 p5)) ⟨callB_of 1 hts g_Row_takeAll rfl rfl rfl (hts _ q1_2) (hts _ q1_204) h_Row_takeAll ⟨Nat.le_of_ble_eq_true rfl, Nat.le_of_ble_eq_true rfl⟩, (hts _ q1_205), (hts _ q1_206)⟩ ⟨kf_bl, va_recv hE.1 hP (ci := 0) (q0 := 1) rfl rfl, kf_to hP hD hS hA hE [1, 2, 5, 6] rfl rfl⟩ rfl rfl hl.1 rfl (lv_room (Nat.le_of_ble_eq_true rfl)) d_FR_lay_187 ⟨Nat.zero_le _, Nat.zero_le _⟩) (fun H locs hP hD hS => ?_)
        refine W.eq (g2 := F0 m 190 ls []) rfl ?_
        refine lv_aload_n hx hb d_FR_lay_190 rfl (lv_at hl 0 rfl) ?_
        refine va_get (D := D) (ci := 2) (v := .ref r1) (C := "FieldRows") (T := F_FR) (N := 4) hx hb hts ku_FR hown hE.1 hP 0 rfl rfl 1 (by decide) (hts _ q1_209) (fun _ h9 => h9) rfl d_FR_lay_191 ?_
        refine lv_aload_n hx hb d_FR_lay_194 rfl (lv_at hl 0 rfl) ?_
        refine va_get (D := D) (ci := 2) (v := .ref tr) (C := "FieldRows") (T := F_FR) (N := 4) hx hb hts ku_FR hown hE.1 hP 0 rfl rfl 2 (by decide) (hts _ q1_210) (fun _ h9 => h9) rfl d_FR_lay_195 ?_
        refine kf_kc (wr := [(x, .inr (2, [.ref r0, .ref r1, .ref tr, .ref vo])), (r0, .inr (0, [.ref b0])), (b0, .inl (cB, 1024, .inl (ky_cp f0 (kl_T u.1 p1 p2 p3 p4 p5) 1024))), (vo, .inr (1, [.long (lN (ky_le (kl_T u.1 p1 p2 p3 p4 p5) 0 4)), .long (lN (ky_le (kl_T u.1 p1 p2 p3 p4 p5) 4 4)), .long (lN (ky_le (kl_T u.1 p1 p2 p3 p4 p5) 20 4)), .long (lN (ky_le (kl_T u.1 p1 p2 p3 p4 p5) 24 4)), .long (kv_size (kl_T u.1 p1 p2 p3 p4 p5)), .long (lN (ky_le (kl_T u.1 p1 p2 p3 p4 p5) 32 4)), .long (lN (ky_le (kl_T u.1 p1 p2 p3 p4 p5) 40 4)), .long (lN (ky_le (kl_T u.1 p1 p2 p3 p4 p5) 88 2)), .int (kv_few (kl_T u.1 p1 p2 p3 p4 p5)), .long (kv_gc (kl_T u.1 p1 p2 p3 p4 p5)), .long (kv_cb (kl_T u.1 p1 p2 p3 p4 p5)), .long (kv_rk (kl_T u.1 p1 p2 p3 p4 p5))]))]) (w1 := [(r1, .inr (0, [.ref b1])), (b1, .inl (cB, 1024, .inl (ky_cp f1 (kl_T u.1 p1 p2 p3 p4 p5) 1024))), (tr, .inr (0, [.ref bt])), (bt, .inl (cB, 1024, .inl (kl_T u.1 p1 p2 p3 p4 p5)))]) (ws2 := [(x, .inr (2, [.ref r0, .ref r1, .ref tr, .ref vo])), (r0, .inr (0, [.ref b0])), (b0, .inl (cB, 1024, .inl (ky_cp f0 (kl_T u.1 p1 p2 p3 p4 p5) 1024))), (r1, .inr (0, [.ref b1])), (b1, .inl (cB, 1024, .inl (ky_cp f1 (kl_T u.1 p1 p2 p3 p4 p5) 1024))), (tr, .inr (0, [.ref bt])), (bt, .inl (cB, 1024, .inl (kl_T u.1 p1 p2 p3 p4 p5))), (vo, .inr (1, [.long (lN (ky_le (kl_T u.1 p1 p2 p3 p4 p5) 0 4)), .long (lN (ky_le (kl_T u.1 p1 p2 p3 p4 p5) 4 4)), .long (lN (ky_le (kl_T u.1 p1 p2 p3 p4 p5) 20 4)), .long (lN (ky_le (kl_T u.1 p1 p2 p3 p4 p5) 24 4)), .long (kv_size (kl_T u.1 p1 p2 p3 p4 p5)), .long (lN (ky_le (kl_T u.1 p1 p2 p3 p4 p5) 32 4)), .long (lN (ky_le (kl_T u.1 p1 p2 p3 p4 p5) 40 4)), .long (lN (ky_le (kl_T u.1 p1 p2 p3 p4 p5) 88 2)), .int (kv_few (kl_T u.1 p1 p2 p3 p4 p5)), .long (kv_gc (kl_T u.1 p1 p2 p3 p4 p5)), .long (kv_cb (kl_T u.1 p1 p2 p3 p4 p5)), .long (kv_rk (kl_T u.1 p1 p2 p3 p4 p5))]))]) hP hD hS hA [3, 4, 5, 6] [0, 1, 2, 7] [0, 1, 2, 4, 5, 6, 7, 3] rfl rfl rfl (by decide) rfl rfl (va_runV (As := [.ref tr]) (rest := []) ⟨hx, hb, hml, hown, hts⟩ (c_Row_takeAll l D cB cI _ r1 b1 f1 tr bt (kl_T u.1 p1 p2 p3 p4 p5)) ⟨callB_of 1 hts g_Row_takeAll rfl rfl rfl (hts _ q1_2) (hts _ q1_204) h_Row_takeAll ⟨Nat.le_of_ble_eq_true rfl, Nat.le_of_ble_eq_true rfl⟩, (hts _ q1_205), (hts _ q1_206)⟩ ⟨kf_bl, va_recv hE.1 hP (ci := 0) (q0 := 3) rfl rfl, kf_to hP hD hS hA hE [3, 4, 5, 6] rfl rfl⟩ rfl rfl hl.1 rfl (lv_room (Nat.le_of_ble_eq_true rfl)) d_FR_lay_198 ⟨Nat.zero_le _, Nat.zero_le _⟩) (fun H locs hP hD hS => ?_)
        refine W.eq (g2 := F0 m 201 ls []) rfl ?_
        refine lv_aload_n hx hb d_FR_lay_201 rfl (lv_at hl 0 rfl) ?_
        refine va_get (D := D) (ci := 2) (v := .ref vo) (C := "FieldRows") (T := F_FR) (N := 4) hx hb hts ku_FR hown hE.1 hP 0 rfl rfl 3 (by decide) (hts _ q1_211) (fun _ h9 => h9) rfl d_FR_lay_202 ?_
        refine va_getN (D := D) (ci := 1) (v := .long (kv_gc (kl_T u.1 p1 p2 p3 p4 p5))) (C := "FieldRows$Volume") (T := F_Vol) (N := 12) hx hb hts ku_Vol hown hE.1 hP 7 rfl rfl 9 (by decide) (va_Nw.use rfl (hE.2.1 _ q1_45)) (fun _ h9 => h9) rfl d_FR_lay_205 ?_
        refine lv_l2i hx hb d_FR_lay_208 rfl ?_
        have hq : kl_P u.1 p1 p2 p3 p4 p5 := ⟨c2, c9, c174⟩
        simp only [if_pos hq]
        exact kf_irB hx hb hr hlocks (kx_at hP hD) hS (rfl) d_FR_lay_209
      · refine lv_iconst (v := -1) hx hb d_FR_lay_177 (by decide) ?_
        have hq : ¬ kl_P u.1 p1 p2 p3 p4 p5 := fun q => c174 q.2.2
        simp only [if_neg hq]
        exact kf_irB hx hb hr hlocks (kx_at hP hD) hS (rfl) d_FR_lay_178
    · refine lv_iconst (v := -1) hx hb d_FR_lay_12 (by decide) ?_
      have hq : ¬ kl_P u.1 p1 p2 p3 p4 p5 := fun q => c9 q.2.1
      simp only [if_neg hq]
      exact kf_irB hx hb hr hlocks (kx_at hP hD) hS (rfl) d_FR_lay_13
end
section
def km_ok (f : Nat → Int32) : Prop := ∀ j, j < 1024 → f j = nI (ky_by f j)
def km_b (v : Int64) (k : Nat) : Int32 := ((v >>> ((8 * nI k).toInt64 &&& 63)) &&& 255).toInt32
def km_st (f : Nat → Int32) (a : Nat) (v : Int64) : Nat → Nat → Int32
  | 0 => f
  | n + 1 => upd (km_st f a v n) (a + n) (km_b v n)
theorem km_and255 (x : Int64) : x &&& 255 = lN (x.toBitVec.toNat % 256) := by
  obtain ⟨n, hn, rfl⟩ := wb_of x
  rw [wb_tn hn]
  exact wb_mask (k := 8) hn (by decide)
theorem km_bEq (v : Int64) (k : Nat) (hk : k < 8) : km_b v k = nI (v.toBitVec.toNat / 256 ^ k % 256) := by
  unfold km_b
  rw [km_and255, lN_i]
  congr 1
  apply Nat.eq_of_testBit_eq
  intro j
  rw [show (256 : Nat) = 2 ^ 8 from rfl, Nat.testBit_mod_two_pow, Nat.testBit_mod_two_pow, ← Nat.pow_mul, Nat.testBit_div_two_pow]
  by_cases hj : j < 8
  · rw [BitVec.testBit_toNat, BitVec.testBit_toNat, Int64.toBitVec_shiftRight, BitVec.getLsbD_sshiftRight', ky_sh k hk]
    have h1 : 8 * k + j < 64 := by omega
    have h4 : ¬ 64 ≤ j := by omega
    simp [hj, h1, h4, Nat.add_comm]
    intro h5
    omega
  · simp [hj]
theorem km_nB {m : Nat} (h : m < 256) : (nI m).toBitVec.toNat % 256 = m := by
  rw [pk_tn (by omega)]
  exact Nat.mod_eq_of_lt h
theorem km_stBy (f : Nat → Int32) (a : Nat) (v : Int64) : ∀ n, n ≤ 8 → ∀ j, ky_by (km_st f a v n) j = if a ≤ j ∧ j < a + n then v.toBitVec.toNat / 256 ^ (j - a) % 256 else ky_by f j := by
  intro n
  induction n with
  | zero => intro _ j; rw [if_neg (by omega)]; rfl
  | succ n ih =>
    intro hn j
    show ky_by (upd (km_st f a v n) (a + n) (km_b v n)) j = _
    by_cases h : j = a + n
    · subst h
      rw [if_pos (by omega), show a + n - a = n by omega]
      show (upd (km_st f a v n) (a + n) (km_b v n) (a + n)).toBitVec.toNat % 256 = _
      rw [pk_us, km_bEq v n (by omega), km_nB (Nat.mod_lt _ (by decide))]
    · have e1 : ky_by (upd (km_st f a v n) (a + n) (km_b v n)) j = ky_by (km_st f a v n) j := by
        show (upd (km_st f a v n) (a + n) (km_b v n) j).toBitVec.toNat % 256 = _
        rw [pk_un h]
        rfl
      rw [e1, ih (by omega) j]
      by_cases h2 : a ≤ j ∧ j < a + n
      · rw [if_pos h2, if_pos (by omega)]
      · rw [if_neg h2, if_neg (by omega)]
theorem km_stOk {f : Nat → Int32} (h : km_ok f) (a : Nat) (v : Int64) : ∀ n, n ≤ 8 → km_ok (km_st f a v n) := by
  intro n
  induction n with
  | zero => intro _; exact h
  | succ n ih =>
    intro hn j hj
    show upd (km_st f a v n) (a + n) (km_b v n) j = nI ((upd (km_st f a v n) (a + n) (km_b v n) j).toBitVec.toNat % 256)
    by_cases h2 : j = a + n
    · subst h2
      rw [pk_us, km_bEq v n (by omega), km_nB (Nat.mod_lt _ (by decide))]
    · rw [pk_un h2]
      exact ih (by omega) j hj
abbrev km_hasP (f : Nat → Int32) (a b : Nat) : Prop := ky_le f a 4 / 2 ^ b % 2 = 1
theorem km_sh : ∀ b, b < 32 → (((nI b).toInt64 &&& 63).toBitVec.smod 64).toNat = b := by decide +kernel
theorem km_has_eq {v b : Nat} (hv : v < 2 ^ 32) (hb : b < 32) : (lN v >>> ((nI b).toInt64 &&& 63)) &&& 1 = 1 ↔ v / 2 ^ b % 2 = 1 := by
  have e : lN v >>> ((nI b).toInt64 &&& 63) = lN (v / 2 ^ b) := by
    have hd : v / 2 ^ b ≤ v := Nat.div_le_self _ _
    apply Int64.toInt_inj.mp
    have e1 : (lN v >>> ((nI b).toInt64 &&& 63)).toInt = (lN v).toInt >>> b := by
      rw [← Int64.toInt_toBitVec, Int64.toBitVec_shiftRight, BitVec.sshiftRight_eq', BitVec.toInt_sshiftRight, km_sh b hb]
      rfl
    rw [e1, pk_lT (by omega), pk_lT (by omega), Int.shiftRight_eq_div_pow]
    norm_cast
  have hd : v / 2 ^ b ≤ v := Nat.div_le_self _ _
  rw [e, wb_a1 (by omega)]
  have h2 : v / 2 ^ b % 2 < 2 := Nat.mod_lt _ (by decide)
  exact lN_eq (b := 1) (by omega) (by decide)
abbrev km_powP (q n : Nat) : Prop := n = 1 ∨ n = q ∨ n = q * q ∨ n = q * q * q
theorem km_powJ {q n j : Nat} (hq : q = 3 ∨ q = 5 ∨ q = 7) (hn : n < 64) (hlt : ∀ i, i < j → q ^ i < n) : j ≤ 4 := by
  rcases Nat.lt_or_ge 4 j with h | h
  · have h1 := hlt 4 h
    rcases hq with rfl | rfl | rfl <;> omega
  · exact h
theorem km_powE {q n j : Nat} (hq : q = 3 ∨ q = 5 ∨ q = 7) (hn : n < 64) (hlt : ∀ i, i < j → q ^ i < n) (hge : n ≤ q ^ j) : q ^ j = n ↔ km_powP q n := by
  have hj := km_powJ hq hn hlt
  have a0 := hlt 0
  have a1 := hlt 1
  have a2 := hlt 2
  have a3 := hlt 3
  rcases (show j = 0 ∨ j = 1 ∨ j = 2 ∨ j = 3 ∨ j = 4 by omega) with rfl | rfl | rfl | rfl | rfl <;> rcases hq with rfl | rfl | rfl <;> simp at a0 a1 a2 a3 hge ⊢ <;> omega
abbrev km_hcP (f : Nat → Int32) (n : Nat) : Prop := ¬ km_hasP f 100 0 ∨ n < 2 ∨ km_powP 3 n ∨ km_powP 5 n ∨ km_powP 7 n
def km_hd (f : Nat → Int32) (n : Nat) : Int64 := if km_hcP f n then kv_cb f else 0
abbrev km_inP (v lo hi : Int64) : Prop := ¬ v < lo ∧ ¬ hi < v
theorem km_size {f : Nat → Int32} (h : lN (ky_le f 24 4) ≤ 2) : ∃ s, s ≤ 2 ∧ ky_le f 24 4 = s ∧ kv_size f = lN (1024 * 2 ^ s) := by
  have h1 := ky_le_lt f 4 24
  have h2 : ky_le f 24 4 ≤ 2 := (pk_lLE (b := 2) (by omega) (by decide)).mp h
  refine ⟨ky_le f 24 4, h2, rfl, ?_⟩
  unfold kv_size
  rw [lN_i]
  exact wb_shl 1024 (by omega)
theorem km_size1 {f : Nat → Int32} (h : lN (ky_le f 24 4) ≤ 2) : 1 ≤ kv_size f := by
  obtain ⟨s, hs, -, e⟩ := km_size h
  rw [e]
  rcases (show s = 0 ∨ s = 1 ∨ s = 2 by omega) with rfl | rfl | rfl <;> decide
theorem km_ne0 {x : Int64} (h : 1 ≤ x) : ¬ x = 0 := fun q => by
  rw [q] at h
  exact absurd h (by decide)
def km_sz (f : Nat → Int32) : Int32 :=
  if ¬ lN (ky_le f 56 2) = 61267 then 56 else if ¬ lN (ky_le f 76 4) = 1 then 76 else if ¬ lN (ky_le f 24 4) ≤ 2 then 24 else if ¬ lN (ky_le f 28 4) = lN (ky_le f 24 4) then 28
  else if ¬ lN (ky_le f 20 4) = (if lN (ky_le f 24 4) = 0 then 1 else 0) then 20
  else if ¬ (km_inP (lN (ky_le f 32 4)) 64 (8 * kv_size f) ∧ lN (ky_le f 32 4) - lN (ky_le f 32 4) / 8 * 8 = 0) then 32
  else if ¬ lN (ky_le f 36 4) = lN (ky_le f 32 4) then 36 else if ¬ ky_rlP (lN (ky_le f 88 2)) then 88
  else if km_inP (lN (ky_le f 40 4)) 16 (8 * kv_size f) ∧ lN (ky_le f 40 4) - lN (ky_le f 40 4) / 8 * 8 = 0 ∧ lN (ky_le f 40 4) * lN (ky_le f 88 2) - lN (ky_le f 40 4) * lN (ky_le f 88 2) / kv_size f * kv_size f = 0 then -2 else 40
abbrev km_fxP (f : Nat → Int32) (k : Nat) : Prop := km_hd f k + 2 + kv_rk f < ky_min (lN (ky_le f 32 4)) (lN (ky_le f 4 4) - (lN (ky_le f 20 4) + lN k * lN (ky_le f 32 4)))
abbrev km_rmP (f : Nat → Int32) : Prop := ¬ lN (ky_le f 4 4) ≤ lN (ky_le f 20 4) ∧ ¬ 16777216 < lN (ky_le f 4 4) ∧ kv_gc f ≤ 64 ∧ ∀ k, k < (kv_gc f).toInt.toNat → km_fxP f k
def km_ct (f : Nat → Int32) : Int32 :=
  if ¬ km_rmP f then 4 else if ¬ lN (ky_le f 0 4) = kv_gc f * lN (ky_le f 40 4) then 0 else if ¬ lN (ky_le f 8 4) ≤ lN (ky_le f 4 4) then 8 else if ¬ lN (ky_le f 12 4) ≤ lN (ky_le f 4 4) then 12 else if ¬ lN (ky_le f 16 4) ≤ lN (ky_le f 0 4) then 16
  else if ¬ (lN (ky_le f 58 2) = 1 ∨ lN (ky_le f 58 2) = 3) then 58 else if ¬ km_inP (lN (ky_le f 84 4)) 11 (lN (ky_le f 0 4)) then 84
  else if ¬ kv_gc f ≤ lN (ky_le f 90 2) ∧ km_hcP f (ky_le f 90 2) then -2 else 90
abbrev km_liP (w b : Int32) : Prop := (w = 0 ∧ (b = 2 ∨ b = 5)) ∨ (¬ w = 0 ∧ w = 1 ∧ (b = 1 ∨ b = 2 ∨ b = 6)) ∨ (¬ w = 0 ∧ ¬ w = 1 ∧ ¬ 2 ≤ b)
def km_inn (f : Nat → Int32) (w : Nat) (z : Int32) : Nat → Int32
  | 0 => z
  | n + 1 => if km_hasP f (92 + 4 * w) (31 - n) ∧ ¬ km_liP (nI w) (nI (31 - n)) then 2000 + 32 * nI w + nI (31 - n) else km_inn f w z n
def km_out (f : Nat → Int32) : Nat → Int32
  | 0 => -2
  | n + 1 => km_inn f (2 - n) (if 2 - n = 1 ∧ (¬ km_hasP f 96 1 ∨ ¬ km_hasP f 96 6) then 96 else km_out f n) 32
def km_re (f : Nat → Int32) : Int32 :=
  if ¬ lN (ky_le f 224 4) = (if km_hasP f 92 2 then 8 else 0) then 224 else if ¬ lN (ky_le f 232 4) ≤ lN (ky_le f 0 4) then 232 else if ¬ lN (ky_le f 252 1) = (if km_hasP f 92 5 then 1 else 0) then 252 else if lN (ky_le f 254 2) = 0 then -2 else 254
def km_fault (f : Nat → Int32) : Int32 :=
  if ¬ km_sz f = -2 then km_sz f else if ¬ km_ct f = -2 then km_ct f else if ¬ km_out f 3 = -2 then km_out f 3 else km_re f
theorem km_szI {f : Nat → Int32} (h : km_sz f = -2) : lN (ky_le f 24 4) ≤ 2 ∧ 1 ≤ lN (ky_le f 32 4) := by
  unfold km_sz at h
  have h24 : lN (ky_le f 24 4) ≤ 2 := by
    by_cases q : lN (ky_le f 24 4) ≤ 2
    · exact q
    · exfalso
      simp only [if_pos q] at h
      revert h
      split
      · decide
      · split <;> decide
  have h32 : ¬ lN (ky_le f 32 4) < 64 := by
    intro q
    have q2 : ¬ (km_inP (lN (ky_le f 32 4)) 64 (8 * kv_size f) ∧ lN (ky_le f 32 4) - lN (ky_le f 32 4) / 8 * 8 = 0) := fun z => z.1.1 q
    simp only [if_pos q2] at h
    revert h
    repeat' split
    all_goals decide
  refine ⟨h24, ?_⟩
  have h1 := ky_le_lt f 4 32
  have h2 : ¬ ky_le f 32 4 < 64 := fun q => h32 ((pk_lLT (b := 64) (by omega) (by decide)).mpr q)
  exact (pk_lLE (a := 1) (by decide) (by omega)).mpr (by omega)
theorem km_ctI {f : Nat → Int32} (h : km_ct f = -2) : km_rmP f := by
  by_cases q : km_rmP f
  · exact q
  · exfalso
    unfold km_ct at h
    rw [if_pos q] at h
    exact absurd h (by decide)
theorem km_fI {f : Nat → Int32} (h : km_fault f = -2) : km_sz f = -2 ∧ km_ct f = -2 ∧ km_out f 3 = -2 ∧ km_re f = -2 := by
  unfold km_fault at h
  by_cases h1 : km_sz f = -2
  · rw [if_neg (fun q => q h1)] at h
    by_cases h2 : km_ct f = -2
    · rw [if_neg (fun q => q h2)] at h
      by_cases h3 : km_out f 3 = -2
      · rw [if_neg (fun q => q h3)] at h
        exact ⟨h1, h2, h3, h⟩
      · rw [if_pos h3] at h
        exact absurd h h3
    · rw [if_pos h2] at h
      exact absurd h h2
  · rw [if_pos h1] at h
    exact absurd h h1
end
section
set_option maxRecDepth 100000 in
set_option maxHeartbeats 4000000 in
theorem c_Mo_isRow (l : Launch) (D : va_G) (cB cI : ClassId) (hz : Nat) (p0 : Int32) : kf_Ct l y_Mo_isRow w_Mo_isRow 0 0 0 0 D (kT cB cI) [.int p0] [] hz (some (.int (kP (p0 = 0 ∨ p0 = 1)))) (kf_po D []) := by
  refine kf_of (cc := b_Mo_isRow) (maxL := 1) (ret := (some .boolean)) (by decide) rfl (Nat.le_of_ble_eq_true rfl) ?_
  intro p e s m below meth c A H locs hx hb hr hml hown hts hlocks hin hP hD hS hA hE ls hl
  have hl : lv_has ls 1 [(0, .int p0)] := hl
  refine lv_iload_n hx hb d_Mo_isRow_0 rfl (lv_at hl 0 rfl) ?_
  refine lv_if_eq (tgt := 9) hx hb d_Mo_isRow_1 (by decide) (fun c1 => ?_) (fun c1 => ?_)
  · refine lv_iconst (v := 1) hx hb d_Mo_isRow_9 (by decide) ?_
    refine lv_goto (tgt := 14) hx hb d_Mo_isRow_10 (by decide) ?_
    exact kf_zr hx hb hr hlocks hP hD hS (kP_t (by grind)) (kP_nar) d_Mo_isRow_14
  · refine lv_iload_n hx hb d_Mo_isRow_4 rfl (lv_at hl 0 rfl) ?_
    refine lv_iconst (v := 1) hx hb d_Mo_isRow_5 (by decide) ?_
    refine lv_icmp_ne (tgt := 13) hx hb d_Mo_isRow_6 (by decide) (fun c6 => ?_) (fun c6 => ?_)
    · refine lv_iconst (v := 0) hx hb d_Mo_isRow_13 (by decide) ?_
      exact kf_zr hx hb hr hlocks hP hD hS (kP_f (by grind)) (kP_nar) d_Mo_isRow_14
    · refine lv_iconst (v := 1) hx hb d_Mo_isRow_9 (by decide) ?_
      refine lv_goto (tgt := 14) hx hb d_Mo_isRow_10 (by decide) ?_
      exact kf_zr hx hb hr hlocks hP hD hS (kP_t (by grind)) (kP_nar) d_Mo_isRow_14

set_option maxRecDepth 100000 in
set_option maxHeartbeats 4000000 in
theorem c_Mo_up (l : Launch) (D : va_G) (cB cI : ClassId) (hz : Nat) (p0 : Int64) (p1 : Int64) (hb1 : 1 ≤ p1) : kf_Ct l y_Mo_up w_Mo_up 0 0 0 0 D (kT cB cI) [.long p0, .long p1] [] hz (some (.long (ky_qU p0 p1))) (kf_po D []) := by
  refine kf_of (cc := b_Mo_up) (maxL := 4) (ret := (some .long)) (by decide) rfl (Nat.le_of_ble_eq_true rfl) ?_
  intro p e s m below meth c A H locs hx hb hr hml hown hts hlocks hin hP hD hS hA hE ls hl
  have hl : lv_has ls 4 [(0, .long p0), (2, .long p1)] := hl
  refine lv_lload_n hx hb d_Mo_up_0 rfl (lv_at hl 0 rfl) ?_
  refine lv_lload_n hx hb d_Mo_up_1 rfl (lv_at hl 1 rfl) ?_
  refine lv_ladd hx hb d_Mo_up_2 ?_
  refine lv_lconst (v := 1) hx hb d_Mo_up_3 (by decide) ?_
  refine lv_lsub hx hb d_Mo_up_4 ?_
  refine lv_lload_n hx hb d_Mo_up_5 rfl (lv_at hl 1 rfl) ?_
  refine lv_ldiv hx hb d_Mo_up_6 (km_ne0 hb1) ?_
  exact kf_lr hx hb hr hlocks hP hD hS (by unfold ky_qU ky_q; rw [if_pos hb1]) d_Mo_up_7

set_option maxRecDepth 100000 in
set_option maxHeartbeats 4000000 in
theorem c_Mo_isIn (l : Launch) (D : va_G) (cB cI : ClassId) (hz : Nat) (p0 : Int64) (p1 : Int64) (p2 : Int64) : kf_Ct l y_Mo_isIn w_Mo_isIn 0 0 0 0 D (kT cB cI) [.long p0, .long p1, .long p2] [] hz (some (.int (kP (km_inP p0 p1 p2)))) (kf_po D []) := by
  refine kf_of (cc := b_Mo_isIn) (maxL := 6) (ret := (some .boolean)) (by decide) rfl (Nat.le_of_ble_eq_true rfl) ?_
  intro p e s m below meth c A H locs hx hb hr hml hown hts hlocks hin hP hD hS hA hE ls hl
  have hl : lv_has ls 6 [(0, .long p0), (2, .long p1), (4, .long p2)] := hl
  refine lv_lload_n hx hb d_Mo_isIn_0 rfl (lv_at hl 0 rfl) ?_
  refine lv_lload_n hx hb d_Mo_isIn_1 rfl (lv_at hl 1 rfl) ?_
  refine kf_lc_lt (tgt := 17) hx hb d_Mo_isIn_2 d_Mo_isIn_3 (by decide) (fun c2 => ?_) (fun c2 => ?_)
  · refine lv_iconst (v := 0) hx hb d_Mo_isIn_17 (by decide) ?_
    exact kf_zr hx hb hr hlocks hP hD hS (kP_f (by grind)) (kP_nar) d_Mo_isIn_18
  · refine lv_lload_n hx hb d_Mo_isIn_6 rfl (lv_at hl 0 rfl) ?_
    refine lv_lload hx hb d_Mo_isIn_7 (lv_at hl 2 rfl) ?_
    refine kf_lc_gt (tgt := 17) hx hb d_Mo_isIn_9 d_Mo_isIn_10 (by decide) (fun c9 => ?_) (fun c9 => ?_)
    · refine lv_iconst (v := 0) hx hb d_Mo_isIn_17 (by decide) ?_
      exact kf_zr hx hb hr hlocks hP hD hS (kP_f (by grind)) (kP_nar) d_Mo_isIn_18
    · refine lv_iconst (v := 1) hx hb d_Mo_isIn_13 (by decide) ?_
      refine lv_goto (tgt := 18) hx hb d_Mo_isIn_14 (by decide) ?_
      exact kf_zr hx hb hr hlocks hP hD hS (kP_t (by grind)) (kP_nar) d_Mo_isIn_18

set_option maxRecDepth 100000 in
set_option maxHeartbeats 4000000 in
theorem c_Mo_field (l : Launch) (D : va_G) (cB cI : ClassId) (hz : Nat) (h1 : Nat) (f : Nat → Int32) (hf : km_ok f) (a : Nat) (n : Nat) (han : a + n ≤ 1024) : kf_Ct l y_Mo_field w_Mo_field 0 0 0 0 D (kT cB cI) [.ref h1, .int (nI a), .int (nI n)] [(h1, .inl (cI, 1024, .inl f))] hz (some (.long (lN (ky_le f a n)))) (kf_po D [(h1, .inl (cI, 1024, .inl f))]) := by
  refine kf_of (cc := b_Mo_field) (maxL := 6) (ret := (some .long)) (by decide) rfl (Nat.le_of_ble_eq_true rfl) ?_
  intro p e s m below meth c A H locs hx hb hr hml hown hts hlocks hin hP hD hS hA hE ls hl
  have hl : lv_has ls 6 [(0, .ref h1), (1, .int (nI a)), (2, .int (nI n))] := hl
  refine lv_lconst (v := 0) hx hb d_Mo_field_0 (by decide) ?_
  refine kf_tl (y := lN (ky_le f (a + n) (n - n))) (by rw [Nat.sub_self]; rfl) ?_
  refine lv_lstore_n (lv' := [(3, .long (lN (ky_le f (a + n) (n - n)))), (0, .ref h1), (1, .int (nI a)), (2, .int (nI n))]) hx hb d_Mo_field_1 rfl hl (by decide) rfl (fun ls hl => ?_)
  refine lv_iload_n hx hb d_Mo_field_2 rfl (lv_at hl 3 rfl) ?_
  refine lv_iconst (v := 1) hx hb d_Mo_field_3 (by decide) ?_
  refine lv_isub hx hb d_Mo_field_4 ?_
  refine lv_istore (lv' := [(5, .int ((nI n) - 1)), (3, .long (lN (ky_le f (a + n) (n - n)))), (0, .ref h1), (1, .int (nI a)), (2, .int (nI n))]) hx hb d_Mo_field_5 hl (by decide) rfl (fun ls hl => ?_)
  refine kf_loop (σ := Nat) (fun k ls H locs => (k ≤ n) ∧ lv_has ls 6 [(5, .int (nI k - 1)), (3, .long (lN (ky_le f (a + k) (n - k)))), (0, .ref h1), (1, .int (nI a)), (2, .int (nI n))] ∧ va_P D vwCl [(h1, .inl (cI, 1024, .inl f))] H ∧ va_D A [(h1, .inl (cI, 1024, .inl f))] ∧ va_S A s.heap H locs) (fun k => k) n ⟨Nat.le_refl n, lv_sub hl [0, 1, 2, 3, 4] rfl, hP, hD, hS⟩ (fun k ls H locs hI ih => ?_)
  obtain ⟨hk, hl, hP, hD, hS⟩ := hI
  rcases k with _ | k
  · refine lv_iload hx hb d_Mo_field_7 (lv_at hl 0 rfl) ?_
    refine lv_if_lt (tgt := 32) hx hb d_Mo_field_9 (by decide) (fun c9 => ?_) (fun c9 => absurd (by decide) c9)
    refine lv_lload_n hx hb d_Mo_field_32 rfl (lv_at hl 1 rfl) ?_
    exact kf_lr hx hb hr hlocks hP hD hS (rfl) d_Mo_field_33
  · refine lv_iload hx hb d_Mo_field_7 (lv_at hl 0 rfl) ?_
    refine lv_if_lt (tgt := 32) hx hb d_Mo_field_9 (by decide) (fun c9 => absurd c9 (by rw [nI_pred]; exact nI_pos (by omega))) (fun c9 => ?_)
    refine lv_ldc2 (v := 256) hx hb hown (hts _ q2_79) d_Mo_field_12 ?_
    refine lv_lload_n hx hb d_Mo_field_15 rfl (lv_at hl 1 rfl) ?_
    refine lv_lmul hx hb d_Mo_field_16 ?_
    refine lv_aload_n hx hb d_Mo_field_17 rfl (lv_at hl 2 rfl) ?_
    refine lv_iload_n hx hb d_Mo_field_18 rfl (lv_at hl 3 rfl) ?_
    refine lv_iload hx hb d_Mo_field_19 (lv_at hl 0 rfl) ?_
    refine lv_iadd hx hb d_Mo_field_21 ?_
    refine kf_ti (y := nI (a + k)) (by rw [nI_pred, nI_add]) ?_
    refine va_iald hx hb hE.1 hP 0 1 rfl rfl (vp_in_nI (by omega) (by decide)) d_Mo_field_22 ?_
    refine kf_ti (y := nI (ky_by f (a + k))) (by rw [nI_clamp (by omega)]; exact hf (a + k) (by omega)) ?_
    refine lv_i2l hx hb d_Mo_field_23 rfl ?_
    refine lv_ladd hx hb d_Mo_field_24 ?_
    refine kf_tl (y := lN (ky_le f (a + k) (n - k))) (by rw [nI_l (Nat.lt_trans (ky_by_lt f _) (by decide)), show (256 : Int64) = lN 256 from rfl, lN_mul, lN_add, show n - k = (n - (k + 1)) + 1 by omega]; congr 1; show 256 * ky_le f (a + (k + 1)) (n - (k + 1)) + ky_by f (a + k) = ky_by f (a + k) + 256 * ky_le f (a + k + 1) (n - (k + 1)); rw [Nat.add_comm]; rfl) ?_
    refine lv_lstore_n (lv' := [(3, .long (lN (ky_le f (a + k) (n - k)))), (5, .int (nI (k + 1) - 1)), (0, .ref h1), (1, .int (nI a)), (2, .int (nI n))]) hx hb d_Mo_field_25 rfl hl (by decide) rfl (fun ls hl => ?_)
    refine lv_iinc (v := nI k - 1) (lv' := [(5, .int (nI k - 1)), (3, .long (lN (ky_le f (a + k) (n - k)))), (0, .ref h1), (1, .int (nI a)), (2, .int (nI n))]) hx hb d_Mo_field_26 hl (k := 1) rfl (by rw [nI_pred, Int32.sub_eq_add_neg]; rfl) (by decide) rfl (fun ls hl => ?_)
    refine lv_goto (tgt := 7) hx hb d_Mo_field_29 (by decide) ?_
    exact ih k _ _ _ (by omega) ⟨by omega, lv_sub hl [0, 1, 2, 3, 4] rfl, hP, hD, hS⟩

set_option maxRecDepth 100000 in
set_option maxHeartbeats 4000000 in
theorem c_Mo_set (l : Launch) (D : va_G) (cB cI : ClassId) (hz : Nat) (h1 : Nat) (f : Nat → Int32) (a : Nat) (n : Nat) (v : Int64) (han : a + n ≤ 1024) : kf_Ct l y_Mo_set w_Mo_set 0 0 0 0 D (kT cB cI) [.ref h1, .int (nI a), .int (nI n), .long v] [(h1, .inl (cI, 1024, .inl f))] hz none (kf_po D [(h1, .inl (cI, 1024, .inl (km_st f a v n)))]) := by
  refine kf_of (cc := b_Mo_set) (maxL := 6) (ret := none) (by decide) rfl (Nat.le_of_ble_eq_true rfl) ?_
  intro p e s m below meth c A H locs hx hb hr hml hown hts hlocks hin hP hD hS hA hE ls hl
  have hl : lv_has ls 6 [(0, .ref h1), (1, .int (nI a)), (2, .int (nI n)), (3, .long v)] := hl
  refine lv_iconst (v := 0) hx hb d_Mo_set_0 (by decide) ?_
  refine kf_ti (y := nI 0) (rfl) ?_
  refine lv_istore (lv' := [(5, .int (nI 0)), (0, .ref h1), (1, .int (nI a)), (2, .int (nI n)), (3, .long v)]) hx hb d_Mo_set_1 hl (by decide) rfl (fun ls hl => ?_)
  refine kf_loop (σ := Nat) (fun k ls H locs => (k ≤ n) ∧ lv_has ls 6 [(5, .int (nI k)), (0, .ref h1), (1, .int (nI a)), (2, .int (nI n)), (3, .long v)] ∧ va_P D vwCl [(h1, .inl (cI, 1024, .inl (km_st f a v k)))] H ∧ va_D A [(h1, .inl (cI, 1024, .inl (km_st f a v k)))] ∧ va_S A s.heap H locs) (fun k => n - k) 0 ⟨Nat.zero_le n, lv_sub hl [0, 1, 2, 3, 4] rfl, hP, hD, hS⟩ (fun k ls H locs hI ih => ?_)
  obtain ⟨hk, hl, hP, hD, hS⟩ := hI
  rcases Nat.lt_or_ge k n with hkn | hkn
  · refine lv_iload hx hb d_Mo_set_3 (lv_at hl 0 rfl) ?_
    refine lv_iload_n hx hb d_Mo_set_5 rfl (lv_at hl 3 rfl) ?_
    refine lv_icmp_ge (tgt := 33) hx hb d_Mo_set_6 (by decide) (fun c6 => absurd c6 (nI_ge hkn (by omega))) (fun c6 => ?_)
    refine lv_aload_n hx hb d_Mo_set_9 rfl (lv_at hl 1 rfl) ?_
    refine lv_iload_n hx hb d_Mo_set_10 rfl (lv_at hl 2 rfl) ?_
    refine lv_iload hx hb d_Mo_set_11 (lv_at hl 0 rfl) ?_
    refine lv_iadd hx hb d_Mo_set_13 ?_
    refine kf_ti (y := nI (a + k)) (nI_add a k) ?_
    refine lv_lload_n hx hb d_Mo_set_14 rfl (lv_at hl 4 rfl) ?_
    refine lv_bipush (v := 8) hx hb d_Mo_set_15 (by decide) ?_
    refine lv_iload hx hb d_Mo_set_17 (lv_at hl 0 rfl) ?_
    refine lv_imul hx hb d_Mo_set_19 ?_
    refine lv_lshr hx hb d_Mo_set_20 rfl ?_
    refine lv_ldc2 (v := 255) hx hb hown (hts _ q2_65) d_Mo_set_21 ?_
    refine lv_land hx hb d_Mo_set_24 ?_
    refine lv_l2i hx hb d_Mo_set_25 rfl ?_
    refine va_iast hx hb hE.1 hP hD hS 0 1 rfl rfl (vp_in_nI (by omega) (by decide)) d_Mo_set_26 (fun H locs hP hD hS => ?_)
    have ef : upd (km_st f a v k) (nI (a + k)).toNatClampNeg (((v >>> ((8 * (nI k)).toInt64 &&& 63)) &&& 255).toInt32) = km_st f a v (k + 1) := by rw [nI_clamp (by omega)]; rfl
    rw [ef] at hP hD
    have hP : va_P D vwCl [(h1, .inl (cI, 1024, .inl (km_st f a v (k + 1))))] H := hP
    have hD : va_D A [(h1, .inl (cI, 1024, .inl (km_st f a v (k + 1))))] := hD
    refine lv_iinc (v := nI (k + 1)) (lv' := [(5, .int (nI (k + 1))), (0, .ref h1), (1, .int (nI a)), (2, .int (nI n)), (3, .long v)]) hx hb d_Mo_set_27 hl (k := 0) rfl ((nI_succ k).symm) (by decide) rfl (fun ls hl => ?_)
    refine lv_goto (tgt := 3) hx hb d_Mo_set_30 (by decide) ?_
    exact ih (k + 1) _ _ _ (by omega) ⟨by omega, lv_sub hl [0, 1, 2, 3, 4] rfl, hP, hD, hS⟩
  · refine lv_iload hx hb d_Mo_set_3 (lv_at hl 0 rfl) ?_
    refine lv_iload_n hx hb d_Mo_set_5 rfl (lv_at hl 3 rfl) ?_
    refine lv_icmp_ge (tgt := 33) hx hb d_Mo_set_6 (by decide) (fun c6 => ?_) (fun c6 => absurd (nI_le hkn (by omega)) c6)
    obtain rfl : k = n := by omega
    exact kf_vr hx hb hr hlocks (kf_poAt hP hD) hS d_Mo_set_33

set_option maxRecDepth 100000 in
set_option maxHeartbeats 4000000 in
theorem c_Mo_has (l : Launch) (D : va_G) (cB cI : ClassId) (hz : Nat) (h1 : Nat) (f : Nat → Int32) (hf : km_ok f) (a : Nat) (b : Nat) (ha : a + 4 ≤ 1024) (hb32 : b < 32) : kf_Ct l y_Mo_has w_Mo_has 1 25 0 0 D (kT cB cI) [.ref h1, .int (nI a), .int (nI b)] [(h1, .inl (cI, 1024, .inl f))] hz (some (.int (kP (km_hasP f a b)))) (kf_po D [(h1, .inl (cI, 1024, .inl f))]) := by
  refine kf_of (cc := b_Mo_has) (maxL := 3) (ret := (some .boolean)) (by decide) rfl (Nat.le_of_ble_eq_true rfl) ?_
  intro p e s m below meth c A H locs hx hb hr hml hown hts hlocks hin hP hD hS hA hE ls hl
  have hl : lv_has ls 3 [(0, .ref h1), (1, .int (nI a)), (2, .int (nI b))] := hl
  refine lv_aload_n hx hb d_Mo_has_0 rfl (lv_at hl 0 rfl) ?_
  refine lv_iload_n hx hb d_Mo_has_1 rfl (lv_at hl 1 rfl) ?_
  refine lv_iconst (v := 4) hx hb d_Mo_has_2 (by decide) ?_
  refine kf_ro hP hD hS hA [0] rfl (va_runS (As := [.ref h1, .int (nI a), .int 4]) (rest := []) ⟨hx, hb, hml, hown, hts⟩ (c_Mo_field l D cB cI _ h1 f hf a 4 (by omega)) ⟨callB_of 3 hts g_Mo_field rfl rfl rfl (hts _ q1_5) (hts _ q2_76) h_Mo_field ⟨Nat.le_of_ble_eq_true rfl, Nat.le_of_ble_eq_true rfl⟩, (hts _ q2_77)⟩ ⟨kf_bl, kf_to hP hD hS hA hE [0] rfl rfl⟩ rfl rfl hl.1 rfl (lv_room (Nat.le_of_ble_eq_true rfl)) d_Mo_has_3 ⟨Nat.zero_le _, Nat.zero_le _⟩) (fun H locs hP hS => ?_)
  refine W.eq (g2 := F0 m 6 ls [.long (lN (ky_le f a 4))]) rfl ?_
  refine lv_iload_n hx hb d_Mo_has_6 rfl (lv_at hl 2 rfl) ?_
  refine lv_lshr hx hb d_Mo_has_7 rfl ?_
  refine lv_lconst (v := 1) hx hb d_Mo_has_8 (by decide) ?_
  refine lv_land hx hb d_Mo_has_9 ?_
  refine lv_lconst (v := 1) hx hb d_Mo_has_10 (by decide) ?_
  refine kf_lc_ne (tgt := 19) hx hb d_Mo_has_11 d_Mo_has_12 (by decide) (fun c11 => ?_) (fun c11 => ?_)
  · refine lv_iconst (v := 0) hx hb d_Mo_has_19 (by decide) ?_
    exact kf_zr hx hb hr hlocks hP hD hS (kP_f (fun q => c11 ((km_has_eq (Nat.lt_of_lt_of_le (ky_le_lt f 4 a) (by decide)) hb32).mpr q))) (kP_nar) d_Mo_has_20
  · refine lv_iconst (v := 1) hx hb d_Mo_has_15 (by decide) ?_
    refine lv_goto (tgt := 20) hx hb d_Mo_has_16 (by decide) ?_
    exact kf_zr hx hb hr hlocks hP hD hS (kP_t ((km_has_eq (Nat.lt_of_lt_of_le (ky_le_lt f 4 a) (by decide)) hb32).mp c11)) (kP_nar) d_Mo_has_20

set_option maxRecDepth 100000 in
set_option maxHeartbeats 4000000 in
theorem c_Mo_sizeOf (l : Launch) (D : va_G) (cB cI : ClassId) (hz : Nat) (h1 : Nat) (f : Nat → Int32) (hf : km_ok f) : kf_Ct l y_Mo_sizeOf w_Mo_sizeOf 1 25 0 0 D (kT cB cI) [.ref h1] [(h1, .inl (cI, 1024, .inl f))] hz (some (.long (kv_size f))) (kf_po D [(h1, .inl (cI, 1024, .inl f))]) := by
  refine kf_of (cc := b_Mo_sizeOf) (maxL := 1) (ret := (some .long)) (by decide) rfl (Nat.le_of_ble_eq_true rfl) ?_
  intro p e s m below meth c A H locs hx hb hr hml hown hts hlocks hin hP hD hS hA hE ls hl
  have hl : lv_has ls 1 [(0, .ref h1)] := hl
  refine lv_ldc2 (v := 1024) hx hb hown (hts _ q2_93) d_Mo_sizeOf_0 ?_
  refine lv_aload_n hx hb d_Mo_sizeOf_3 rfl (lv_at hl 0 rfl) ?_
  refine lv_bipush (v := 24) hx hb d_Mo_sizeOf_4 (by decide) ?_
  refine lv_iconst (v := 4) hx hb d_Mo_sizeOf_6 (by decide) ?_
  refine kf_ro hP hD hS hA [0] rfl (va_runS (As := [.ref h1, .int 24, .int 4]) (rest := [.long 1024]) ⟨hx, hb, hml, hown, hts⟩ (c_Mo_field l D cB cI _ h1 f hf 24 4 (by decide)) ⟨callB_of 3 hts g_Mo_field rfl rfl rfl (hts _ q1_5) (hts _ q2_76) h_Mo_field ⟨Nat.le_of_ble_eq_true rfl, Nat.le_of_ble_eq_true rfl⟩, (hts _ q2_77)⟩ ⟨kf_bl, kf_to hP hD hS hA hE [0] rfl rfl⟩ rfl rfl hl.1 rfl (lv_room (Nat.le_of_ble_eq_true rfl)) d_Mo_sizeOf_7 ⟨Nat.zero_le _, Nat.zero_le _⟩) (fun H locs hP hS => ?_)
  refine W.eq (g2 := F0 m 10 ls [.long (lN (ky_le f 24 4)), .long 1024]) rfl ?_
  refine lv_l2i hx hb d_Mo_sizeOf_10 rfl ?_
  refine lv_lshl hx hb d_Mo_sizeOf_11 rfl ?_
  exact kf_lr hx hb hr hlocks hP hD hS (rfl) d_Mo_sizeOf_12

set_option maxRecDepth 100000 in
set_option maxHeartbeats 4000000 in
theorem c_Mo_groupsOf (l : Launch) (D : va_G) (cB cI : ClassId) (hz : Nat) (h1 : Nat) (f : Nat → Int32) (hf : km_ok f) (h32 : 1 ≤ lN (ky_le f 32 4)) : kf_Ct l y_Mo_groupsOf w_Mo_groupsOf 1 25 0 0 D (kT cB cI) [.ref h1] [(h1, .inl (cI, 1024, .inl f))] hz (some (.long (kv_gc f))) (kf_po D [(h1, .inl (cI, 1024, .inl f))]) := by
  refine kf_of (cc := b_Mo_groupsOf) (maxL := 1) (ret := (some .long)) (by decide) rfl (Nat.le_of_ble_eq_true rfl) ?_
  intro p e s m below meth c A H locs hx hb hr hml hown hts hlocks hin hP hD hS hA hE ls hl
  have hl : lv_has ls 1 [(0, .ref h1)] := hl
  refine lv_aload_n hx hb d_Mo_groupsOf_0 rfl (lv_at hl 0 rfl) ?_
  refine lv_iconst (v := 4) hx hb d_Mo_groupsOf_1 (by decide) ?_
  refine lv_iconst (v := 4) hx hb d_Mo_groupsOf_2 (by decide) ?_
  refine kf_ro hP hD hS hA [0] rfl (va_runS (As := [.ref h1, .int 4, .int 4]) (rest := []) ⟨hx, hb, hml, hown, hts⟩ (c_Mo_field l D cB cI _ h1 f hf 4 4 (by decide)) ⟨callB_of 3 hts g_Mo_field rfl rfl rfl (hts _ q1_5) (hts _ q2_76) h_Mo_field ⟨Nat.le_of_ble_eq_true rfl, Nat.le_of_ble_eq_true rfl⟩, (hts _ q2_77)⟩ ⟨kf_bl, kf_to hP hD hS hA hE [0] rfl rfl⟩ rfl rfl hl.1 rfl (lv_room (Nat.le_of_ble_eq_true rfl)) d_Mo_groupsOf_3 ⟨Nat.zero_le _, Nat.zero_le _⟩) (fun H locs hP hS => ?_)
  refine W.eq (g2 := F0 m 6 ls [.long (lN (ky_le f 4 4))]) rfl ?_
  refine lv_aload_n hx hb d_Mo_groupsOf_6 rfl (lv_at hl 0 rfl) ?_
  refine lv_bipush (v := 20) hx hb d_Mo_groupsOf_7 (by decide) ?_
  refine lv_iconst (v := 4) hx hb d_Mo_groupsOf_9 (by decide) ?_
  refine kf_ro hP hD hS hA [0] rfl (va_runS (As := [.ref h1, .int 20, .int 4]) (rest := [.long (lN (ky_le f 4 4))]) ⟨hx, hb, hml, hown, hts⟩ (c_Mo_field l D cB cI _ h1 f hf 20 4 (by decide)) ⟨callB_of 3 hts g_Mo_field rfl rfl rfl (hts _ q1_5) (hts _ q2_76) h_Mo_field ⟨Nat.le_of_ble_eq_true rfl, Nat.le_of_ble_eq_true rfl⟩, (hts _ q2_77)⟩ ⟨kf_bl, kf_to hP hD hS hA hE [0] rfl rfl⟩ rfl rfl hl.1 rfl (lv_room (Nat.le_of_ble_eq_true rfl)) d_Mo_groupsOf_10 ⟨Nat.zero_le _, Nat.zero_le _⟩) (fun H locs hP hS => ?_)
  refine W.eq (g2 := F0 m 13 ls [.long (lN (ky_le f 20 4)), .long (lN (ky_le f 4 4))]) rfl ?_
  refine lv_lsub hx hb d_Mo_groupsOf_13 ?_
  refine lv_aload_n hx hb d_Mo_groupsOf_14 rfl (lv_at hl 0 rfl) ?_
  refine lv_bipush (v := 32) hx hb d_Mo_groupsOf_15 (by decide) ?_
  refine lv_iconst (v := 4) hx hb d_Mo_groupsOf_17 (by decide) ?_
  refine kf_ro hP hD hS hA [0] rfl (va_runS (As := [.ref h1, .int 32, .int 4]) (rest := [.long ((lN (ky_le f 4 4)) - (lN (ky_le f 20 4)))]) ⟨hx, hb, hml, hown, hts⟩ (c_Mo_field l D cB cI _ h1 f hf 32 4 (by decide)) ⟨callB_of 3 hts g_Mo_field rfl rfl rfl (hts _ q1_5) (hts _ q2_76) h_Mo_field ⟨Nat.le_of_ble_eq_true rfl, Nat.le_of_ble_eq_true rfl⟩, (hts _ q2_77)⟩ ⟨kf_bl, kf_to hP hD hS hA hE [0] rfl rfl⟩ rfl rfl hl.1 rfl (lv_room (Nat.le_of_ble_eq_true rfl)) d_Mo_groupsOf_18 ⟨Nat.zero_le _, Nat.zero_le _⟩) (fun H locs hP hS => ?_)
  refine W.eq (g2 := F0 m 21 ls [.long (lN (ky_le f 32 4)), .long ((lN (ky_le f 4 4)) - (lN (ky_le f 20 4)))]) rfl ?_
  refine kf_ro hP hD hS hA [] rfl (va_runS (As := [.long ((lN (ky_le f 4 4)) - (lN (ky_le f 20 4))), .long (lN (ky_le f 32 4))]) (rest := []) ⟨hx, hb, hml, hown, hts⟩ (c_Mo_up l D cB cI _ ((lN (ky_le f 4 4)) - (lN (ky_le f 20 4))) (lN (ky_le f 32 4)) h32) ⟨callB_of 2 hts g_Mo_up rfl rfl rfl (hts _ q1_5) (hts _ q2_80) h_Mo_up ⟨Nat.le_of_ble_eq_true rfl, Nat.le_of_ble_eq_true rfl⟩, (hts _ q2_81)⟩ ⟨kf_bl, kf_to hP hD hS hA hE [] rfl rfl⟩ rfl rfl hl.1 rfl (lv_room (Nat.le_of_ble_eq_true rfl)) d_Mo_groupsOf_21 ⟨Nat.zero_le _, Nat.zero_le _⟩) (fun H locs hP hS => ?_)
  refine W.eq (g2 := F0 m 24 ls [.long (ky_qU ((lN (ky_le f 4 4)) - (lN (ky_le f 20 4))) (lN (ky_le f 32 4)))]) rfl ?_
  exact kf_lr hx hb hr hlocks hP hD hS (rfl) d_Mo_groupsOf_24

set_option maxRecDepth 100000 in
set_option maxHeartbeats 4000000 in
theorem c_Mo_isPower (l : Launch) (D : va_G) (cB cI : ClassId) (hz : Nat) (n : Nat) (q : Nat) (hn : n < 64) (hq : q = 3 ∨ q = 5 ∨ q = 7) : kf_Ct l y_Mo_isPower w_Mo_isPower 0 0 0 0 D (kT cB cI) [.long (lN n), .long (lN q)] [] hz (some (.int (kP (km_powP q n)))) (kf_po D []) := by
  refine kf_of (cc := b_Mo_isPower) (maxL := 6) (ret := (some .boolean)) (by decide) rfl (Nat.le_of_ble_eq_true rfl) ?_
  intro p e s m below meth c A H locs hx hb hr hml hown hts hlocks hin hP hD hS hA hE ls hl
  have hl : lv_has ls 6 [(0, .long (lN n)), (2, .long (lN q))] := hl
  refine lv_lconst (v := 1) hx hb d_Mo_isPower_0 (by decide) ?_
  refine kf_tl (y := lN (q ^ 0)) (rfl) ?_
  refine lv_lstore (lv' := [(4, .long (lN (q ^ 0))), (0, .long (lN n)), (2, .long (lN q))]) hx hb d_Mo_isPower_1 hl (by decide) rfl (fun ls hl => ?_)
  refine kf_loop (σ := Nat) (fun k ls H locs => (∀ i, i < k → q ^ i < n) ∧ lv_has ls 6 [(4, .long (lN (q ^ k))), (0, .long (lN n)), (2, .long (lN q))] ∧ va_P D vwCl [] H ∧ va_D A [] ∧ va_S A s.heap H locs) (fun k => 5 - k) 0 ⟨fun i hi => absurd hi (Nat.not_lt_zero i), lv_sub hl [0, 1, 2] rfl, hP, hD, hS⟩ (fun k ls H locs hI ih => ?_)
  obtain ⟨hno, hl, hP, hD, hS⟩ := hI
  have hk4 := km_powJ hq hn hno
  have hk5 : q ^ k < 2 ^ 31 := Nat.lt_of_le_of_lt (Nat.pow_le_pow_right (by omega) hk4) (by rcases hq with rfl | rfl | rfl <;> decide)
  refine lv_lload hx hb d_Mo_isPower_3 (lv_at hl 0 rfl) ?_
  refine lv_lload_n hx hb d_Mo_isPower_5 rfl (lv_at hl 1 rfl) ?_
  refine kf_lc_ge (tgt := 19) hx hb d_Mo_isPower_6 d_Mo_isPower_7 (by decide) (fun c6 => ?_) (fun c6 => ?_)
  · refine lv_lload hx hb d_Mo_isPower_19 (lv_at hl 0 rfl) ?_
    refine lv_lload_n hx hb d_Mo_isPower_21 rfl (lv_at hl 1 rfl) ?_
    refine kf_lc_ne (tgt := 30) hx hb d_Mo_isPower_22 d_Mo_isPower_23 (by decide) (fun c22 => ?_) (fun c22 => ?_)
    · refine lv_iconst (v := 0) hx hb d_Mo_isPower_30 (by decide) ?_
      exact kf_zr hx hb hr hlocks hP hD hS (kP_f (fun z => c22 ((lN_eq hk5 (by omega)).mpr ((km_powE hq hn hno ((lN_le (by omega) hk5).mp c6)).mpr z)))) (kP_nar) d_Mo_isPower_31
    · refine lv_iconst (v := 1) hx hb d_Mo_isPower_26 (by decide) ?_
      refine lv_goto (tgt := 31) hx hb d_Mo_isPower_27 (by decide) ?_
      exact kf_zr hx hb hr hlocks hP hD hS (kP_t ((km_powE hq hn hno ((lN_le (by omega) hk5).mp c6)).mp ((lN_eq hk5 (by omega)).mp c22))) (kP_nar) d_Mo_isPower_31
  · have hlt : q ^ k < n := Nat.lt_of_not_le (fun z => c6 ((lN_le (by omega) hk5).mpr z))
    refine lv_lload hx hb d_Mo_isPower_10 (lv_at hl 0 rfl) ?_
    refine lv_lload_n hx hb d_Mo_isPower_12 rfl (lv_at hl 2 rfl) ?_
    refine lv_lmul hx hb d_Mo_isPower_13 ?_
    refine kf_tl (y := lN (q ^ (k + 1))) (by rw [lN_mul, ← Nat.pow_succ]) ?_
    refine lv_lstore (lv' := [(4, .long (lN (q ^ (k + 1)))), (0, .long (lN n)), (2, .long (lN q))]) hx hb d_Mo_isPower_14 hl (by decide) rfl (fun ls hl => ?_)
    refine lv_goto (tgt := 3) hx hb d_Mo_isPower_16 (by decide) ?_
    exact ih (k + 1) _ _ _ (by have := km_powJ hq hn (fun i (hi : i < k + 1) => by rcases (show i < k ∨ i = k by omega) with z | rfl; exact hno i z; exact hlt); omega) ⟨fun i hi => by rcases (show i < k ∨ i = k by omega) with z | rfl; exact hno i z; exact hlt, lv_sub hl [0, 1, 2] rfl, hP, hD, hS⟩

set_option maxRecDepth 100000 in
set_option maxHeartbeats 4000000 in
theorem c_Mo_hasCopy (l : Launch) (D : va_G) (cB cI : ClassId) (hz : Nat) (h1 : Nat) (f : Nat → Int32) (hf : km_ok f) (n : Nat) (hn : n < 64) : kf_Ct l y_Mo_hasCopy w_Mo_hasCopy 2 47 0 0 D (kT cB cI) [.ref h1, .long (lN n)] [(h1, .inl (cI, 1024, .inl f))] hz (some (.int (kP (km_hcP f n)))) (kf_po D [(h1, .inl (cI, 1024, .inl f))]) := by
  refine kf_of (cc := b_Mo_hasCopy) (maxL := 3) (ret := (some .boolean)) (by decide) rfl (Nat.le_of_ble_eq_true rfl) ?_
  intro p e s m below meth c A H locs hx hb hr hml hown hts hlocks hin hP hD hS hA hE ls hl
  have hl : lv_has ls 3 [(0, .ref h1), (1, .long (lN n))] := hl
  refine lv_aload_n hx hb d_Mo_hasCopy_0 rfl (lv_at hl 0 rfl) ?_
  refine lv_bipush (v := 100) hx hb d_Mo_hasCopy_1 (by decide) ?_
  refine lv_iconst (v := 0) hx hb d_Mo_hasCopy_3 (by decide) ?_
  refine kf_ro hP hD hS hA [0] rfl (va_runS (As := [.ref h1, .int 100, .int 0]) (rest := []) ⟨hx, hb, hml, hown, hts⟩ (c_Mo_has l D cB cI _ h1 f hf 100 0 (by decide) (by decide)) ⟨callB_of 3 hts g_Mo_has rfl rfl rfl (hts _ q1_5) (hts _ q2_123) h_Mo_has ⟨Nat.le_of_ble_eq_true rfl, Nat.le_of_ble_eq_true rfl⟩, (hts _ q2_124)⟩ ⟨kf_bl, kf_to hP hD hS hA hE [0] rfl rfl⟩ rfl rfl hl.1 rfl (lv_room (Nat.le_of_ble_eq_true rfl)) d_Mo_hasCopy_4 ⟨Nat.zero_le _, Nat.zero_le _⟩) (fun H locs hP hS => ?_)
  refine W.eq (g2 := F0 m 7 ls [.int (kP (km_hasP f 100 0))]) rfl ?_
  refine lv_if_eq (tgt := 48) hx hb d_Mo_hasCopy_7 (by decide) (fun c7 => ?_) (fun c7 => ?_)
  · refine lv_iconst (v := 1) hx hb d_Mo_hasCopy_48 (by decide) ?_
    refine lv_goto (tgt := 53) hx hb d_Mo_hasCopy_49 (by decide) ?_
    have hc7 := by first | exact kP_ne c7 | exact kP_eq c7
    exact kf_zr hx hb hr hlocks hP hD hS (kP_t (by clear hP hD hS hA hE hts hl; grind)) (kP_nar) d_Mo_hasCopy_53
  · refine lv_lload_n hx hb d_Mo_hasCopy_10 rfl (lv_at hl 1 rfl) ?_
    refine lv_ldc2 (v := 2) hx hb hown (hts _ q2_89) d_Mo_hasCopy_11 ?_
    refine kf_lc_lt (tgt := 48) hx hb d_Mo_hasCopy_14 d_Mo_hasCopy_15 (by decide) (fun c14 => ?_) (fun c14 => ?_)
    · refine lv_iconst (v := 1) hx hb d_Mo_hasCopy_48 (by decide) ?_
      refine lv_goto (tgt := 53) hx hb d_Mo_hasCopy_49 (by decide) ?_
      have hc7 := by first | exact kP_ne c7 | exact kP_eq c7
      have hc14 : n < 2 := (lN_lt (b := 2) (by omega) (by decide)).mp c14
      exact kf_zr hx hb hr hlocks hP hD hS (kP_t (by clear hP hD hS hA hE hts hl; grind)) (kP_nar) d_Mo_hasCopy_53
    · refine lv_lload_n hx hb d_Mo_hasCopy_18 rfl (lv_at hl 1 rfl) ?_
      refine lv_ldc2 (v := 3) hx hb hown (hts _ q2_71) d_Mo_hasCopy_19 ?_
      refine kf_ro hP hD hS hA [] rfl (va_runS (As := [.long (lN n), .long 3]) (rest := []) ⟨hx, hb, hml, hown, hts⟩ (c_Mo_isPower l D cB cI _ n 3 hn (by decide)) ⟨callB_of 2 hts g_Mo_isPower rfl rfl rfl (hts _ q1_5) (hts _ q2_126) h_Mo_isPower ⟨Nat.le_of_ble_eq_true rfl, Nat.le_of_ble_eq_true rfl⟩, (hts _ q2_127)⟩ ⟨kf_bl, kf_to hP hD hS hA hE [] rfl rfl⟩ rfl rfl hl.1 rfl (lv_room (Nat.le_of_ble_eq_true rfl)) d_Mo_hasCopy_22 ⟨Nat.zero_le _, Nat.zero_le _⟩) (fun H locs hP hS => ?_)
      refine W.eq (g2 := F0 m 25 ls [.int (kP (km_powP 3 n))]) rfl ?_
      refine lv_if_ne (tgt := 48) hx hb d_Mo_hasCopy_25 (by decide) (fun c25 => ?_) (fun c25 => ?_)
      · refine lv_iconst (v := 1) hx hb d_Mo_hasCopy_48 (by decide) ?_
        refine lv_goto (tgt := 53) hx hb d_Mo_hasCopy_49 (by decide) ?_
        have hc7 := by first | exact kP_ne c7 | exact kP_eq c7
        have hc25 := by first | exact kP_ne c25 | exact kP_eq c25
        have hc14 : ¬ n < 2 := fun z => c14 ((lN_lt (b := 2) (by omega) (by decide)).mpr z)
        exact kf_zr hx hb hr hlocks hP hD hS (kP_t (by clear hP hD hS hA hE hts hl; grind)) (kP_nar) d_Mo_hasCopy_53
      · refine lv_lload_n hx hb d_Mo_hasCopy_28 rfl (lv_at hl 1 rfl) ?_
        refine lv_ldc2 (v := 5) hx hb hown (hts _ q2_129) d_Mo_hasCopy_29 ?_
        refine kf_ro hP hD hS hA [] rfl (va_runS (As := [.long (lN n), .long 5]) (rest := []) ⟨hx, hb, hml, hown, hts⟩ (c_Mo_isPower l D cB cI _ n 5 hn (by decide)) ⟨callB_of 2 hts g_Mo_isPower rfl rfl rfl (hts _ q1_5) (hts _ q2_126) h_Mo_isPower ⟨Nat.le_of_ble_eq_true rfl, Nat.le_of_ble_eq_true rfl⟩, (hts _ q2_127)⟩ ⟨kf_bl, kf_to hP hD hS hA hE [] rfl rfl⟩ rfl rfl hl.1 rfl (lv_room (Nat.le_of_ble_eq_true rfl)) d_Mo_hasCopy_32 ⟨Nat.zero_le _, Nat.zero_le _⟩) (fun H locs hP hS => ?_)
        refine W.eq (g2 := F0 m 35 ls [.int (kP (km_powP 5 n))]) rfl ?_
        refine lv_if_ne (tgt := 48) hx hb d_Mo_hasCopy_35 (by decide) (fun c35 => ?_) (fun c35 => ?_)
        · refine lv_iconst (v := 1) hx hb d_Mo_hasCopy_48 (by decide) ?_
          refine lv_goto (tgt := 53) hx hb d_Mo_hasCopy_49 (by decide) ?_
          have hc7 := by first | exact kP_ne c7 | exact kP_eq c7
          have hc25 := by first | exact kP_ne c25 | exact kP_eq c25
          have hc35 := by first | exact kP_ne c35 | exact kP_eq c35
          have hc14 : ¬ n < 2 := fun z => c14 ((lN_lt (b := 2) (by omega) (by decide)).mpr z)
          exact kf_zr hx hb hr hlocks hP hD hS (kP_t (by clear hP hD hS hA hE hts hl; grind)) (kP_nar) d_Mo_hasCopy_53
        · refine lv_lload_n hx hb d_Mo_hasCopy_38 rfl (lv_at hl 1 rfl) ?_
          refine lv_ldc2 (v := 7) hx hb hown (hts _ q2_130) d_Mo_hasCopy_39 ?_
          refine kf_ro hP hD hS hA [] rfl (va_runS (As := [.long (lN n), .long 7]) (rest := []) ⟨hx, hb, hml, hown, hts⟩ (c_Mo_isPower l D cB cI _ n 7 hn (by decide)) ⟨callB_of 2 hts g_Mo_isPower rfl rfl rfl (hts _ q1_5) (hts _ q2_126) h_Mo_isPower ⟨Nat.le_of_ble_eq_true rfl, Nat.le_of_ble_eq_true rfl⟩, (hts _ q2_127)⟩ ⟨kf_bl, kf_to hP hD hS hA hE [] rfl rfl⟩ rfl rfl hl.1 rfl (lv_room (Nat.le_of_ble_eq_true rfl)) d_Mo_hasCopy_42 ⟨Nat.zero_le _, Nat.zero_le _⟩) (fun H locs hP hS => ?_)
          refine W.eq (g2 := F0 m 45 ls [.int (kP (km_powP 7 n))]) rfl ?_
          refine lv_if_eq (tgt := 52) hx hb d_Mo_hasCopy_45 (by decide) (fun c45 => ?_) (fun c45 => ?_)
          · refine lv_iconst (v := 0) hx hb d_Mo_hasCopy_52 (by decide) ?_
            have hc7 := by first | exact kP_ne c7 | exact kP_eq c7
            have hc25 := by first | exact kP_ne c25 | exact kP_eq c25
            have hc35 := by first | exact kP_ne c35 | exact kP_eq c35
            have hc45 := by first | exact kP_ne c45 | exact kP_eq c45
            have hc14 : ¬ n < 2 := fun z => c14 ((lN_lt (b := 2) (by omega) (by decide)).mpr z)
            exact kf_zr hx hb hr hlocks hP hD hS (kP_f (by clear hP hD hS hA hE hts hl; grind)) (kP_nar) d_Mo_hasCopy_53
          · refine lv_iconst (v := 1) hx hb d_Mo_hasCopy_48 (by decide) ?_
            refine lv_goto (tgt := 53) hx hb d_Mo_hasCopy_49 (by decide) ?_
            have hc7 := by first | exact kP_ne c7 | exact kP_eq c7
            have hc25 := by first | exact kP_ne c25 | exact kP_eq c25
            have hc35 := by first | exact kP_ne c35 | exact kP_eq c35
            have hc45 := by first | exact kP_ne c45 | exact kP_eq c45
            have hc14 : ¬ n < 2 := fun z => c14 ((lN_lt (b := 2) (by omega) (by decide)).mpr z)
            exact kf_zr hx hb hr hlocks hP hD hS (kP_t (by clear hP hD hS hA hE hts hl; grind)) (kP_nar) d_Mo_hasCopy_53

set_option maxRecDepth 100000 in
set_option maxHeartbeats 4000000 in
theorem c_Mo_beginOf (l : Launch) (D : va_G) (cB cI : ClassId) (hz : Nat) (h1 : Nat) (f : Nat → Int32) (hf : km_ok f) (g : Int64) : kf_Ct l y_Mo_beginOf w_Mo_beginOf 1 25 0 0 D (kT cB cI) [.ref h1, .long g] [(h1, .inl (cI, 1024, .inl f))] hz (some (.long (lN (ky_le f 20 4) + g * lN (ky_le f 32 4)))) (kf_po D [(h1, .inl (cI, 1024, .inl f))]) := by
  refine kf_of (cc := b_Mo_beginOf) (maxL := 3) (ret := (some .long)) (by decide) rfl (Nat.le_of_ble_eq_true rfl) ?_
  intro p e s m below meth c A H locs hx hb hr hml hown hts hlocks hin hP hD hS hA hE ls hl
  have hl : lv_has ls 3 [(0, .ref h1), (1, .long g)] := hl
  refine lv_aload_n hx hb d_Mo_beginOf_0 rfl (lv_at hl 0 rfl) ?_
  refine lv_bipush (v := 20) hx hb d_Mo_beginOf_1 (by decide) ?_
  refine lv_iconst (v := 4) hx hb d_Mo_beginOf_3 (by decide) ?_
  refine kf_ro hP hD hS hA [0] rfl (va_runS (As := [.ref h1, .int 20, .int 4]) (rest := []) ⟨hx, hb, hml, hown, hts⟩ (c_Mo_field l D cB cI _ h1 f hf 20 4 (by decide)) ⟨callB_of 3 hts g_Mo_field rfl rfl rfl (hts _ q1_5) (hts _ q2_76) h_Mo_field ⟨Nat.le_of_ble_eq_true rfl, Nat.le_of_ble_eq_true rfl⟩, (hts _ q2_77)⟩ ⟨kf_bl, kf_to hP hD hS hA hE [0] rfl rfl⟩ rfl rfl hl.1 rfl (lv_room (Nat.le_of_ble_eq_true rfl)) d_Mo_beginOf_4 ⟨Nat.zero_le _, Nat.zero_le _⟩) (fun H locs hP hS => ?_)
  refine W.eq (g2 := F0 m 7 ls [.long (lN (ky_le f 20 4))]) rfl ?_
  refine lv_lload_n hx hb d_Mo_beginOf_7 rfl (lv_at hl 1 rfl) ?_
  refine lv_aload_n hx hb d_Mo_beginOf_8 rfl (lv_at hl 0 rfl) ?_
  refine lv_bipush (v := 32) hx hb d_Mo_beginOf_9 (by decide) ?_
  refine lv_iconst (v := 4) hx hb d_Mo_beginOf_11 (by decide) ?_
  refine kf_ro hP hD hS hA [0] rfl (va_runS (As := [.ref h1, .int 32, .int 4]) (rest := [.long g, .long (lN (ky_le f 20 4))]) ⟨hx, hb, hml, hown, hts⟩ (c_Mo_field l D cB cI _ h1 f hf 32 4 (by decide)) ⟨callB_of 3 hts g_Mo_field rfl rfl rfl (hts _ q1_5) (hts _ q2_76) h_Mo_field ⟨Nat.le_of_ble_eq_true rfl, Nat.le_of_ble_eq_true rfl⟩, (hts _ q2_77)⟩ ⟨kf_bl, kf_to hP hD hS hA hE [0] rfl rfl⟩ rfl rfl hl.1 rfl (lv_room (Nat.le_of_ble_eq_true rfl)) d_Mo_beginOf_12 ⟨Nat.zero_le _, Nat.zero_le _⟩) (fun H locs hP hS => ?_)
  refine W.eq (g2 := F0 m 15 ls [.long (lN (ky_le f 32 4)), .long g, .long (lN (ky_le f 20 4))]) rfl ?_
  refine lv_lmul hx hb d_Mo_beginOf_15 ?_
  refine lv_ladd hx hb d_Mo_beginOf_16 ?_
  exact kf_lr hx hb hr hlocks hP hD hS (rfl) d_Mo_beginOf_17

set_option maxRecDepth 100000 in
set_option maxHeartbeats 4000000 in
theorem c_Mo_blocksOf (l : Launch) (D : va_G) (cB cI : ClassId) (hz : Nat) (h1 : Nat) (f : Nat → Int32) (hf : km_ok f) (g : Int64) : kf_Ct l y_Mo_blocksOf w_Mo_blocksOf 2 47 0 0 D (kT cB cI) [.ref h1, .long g] [(h1, .inl (cI, 1024, .inl f))] hz (some (.long (ky_min (lN (ky_le f 32 4)) (lN (ky_le f 4 4) - (lN (ky_le f 20 4) + g * lN (ky_le f 32 4)))))) (kf_po D [(h1, .inl (cI, 1024, .inl f))]) := by
  refine kf_of (cc := b_Mo_blocksOf) (maxL := 5) (ret := (some .long)) (by decide) rfl (Nat.le_of_ble_eq_true rfl) ?_
  intro p e s m below meth c A H locs hx hb hr hml hown hts hlocks hin hP hD hS hA hE ls hl
  have hl : lv_has ls 5 [(0, .ref h1), (1, .long g)] := hl
  refine lv_aload_n hx hb d_Mo_blocksOf_0 rfl (lv_at hl 0 rfl) ?_
  refine lv_iconst (v := 4) hx hb d_Mo_blocksOf_1 (by decide) ?_
  refine lv_iconst (v := 4) hx hb d_Mo_blocksOf_2 (by decide) ?_
  refine kf_ro hP hD hS hA [0] rfl (va_runS (As := [.ref h1, .int 4, .int 4]) (rest := []) ⟨hx, hb, hml, hown, hts⟩ (c_Mo_field l D cB cI _ h1 f hf 4 4 (by decide)) ⟨callB_of 3 hts g_Mo_field rfl rfl rfl (hts _ q1_5) (hts _ q2_76) h_Mo_field ⟨Nat.le_of_ble_eq_true rfl, Nat.le_of_ble_eq_true rfl⟩, (hts _ q2_77)⟩ ⟨kf_bl, kf_to hP hD hS hA hE [0] rfl rfl⟩ rfl rfl hl.1 rfl (lv_room (Nat.le_of_ble_eq_true rfl)) d_Mo_blocksOf_3 ⟨Nat.zero_le _, Nat.zero_le _⟩) (fun H locs hP hS => ?_)
  refine W.eq (g2 := F0 m 6 ls [.long (lN (ky_le f 4 4))]) rfl ?_
  refine lv_aload_n hx hb d_Mo_blocksOf_6 rfl (lv_at hl 0 rfl) ?_
  refine lv_lload_n hx hb d_Mo_blocksOf_7 rfl (lv_at hl 1 rfl) ?_
  refine kf_ro hP hD hS hA [0] rfl (va_runS (As := [.ref h1, .long g]) (rest := [.long (lN (ky_le f 4 4))]) ⟨hx, hb, hml, hown, hts⟩ (c_Mo_beginOf l D cB cI _ h1 f hf g ) ⟨callB_of 2 hts g_Mo_beginOf rfl rfl rfl (hts _ q1_5) (hts _ q2_111) h_Mo_beginOf ⟨Nat.le_of_ble_eq_true rfl, Nat.le_of_ble_eq_true rfl⟩, (hts _ q2_112)⟩ ⟨kf_bl, kf_to hP hD hS hA hE [0] rfl rfl⟩ rfl rfl hl.1 rfl (lv_room (Nat.le_of_ble_eq_true rfl)) d_Mo_blocksOf_8 ⟨Nat.zero_le _, Nat.zero_le _⟩) (fun H locs hP hS => ?_)
  refine W.eq (g2 := F0 m 11 ls [.long (lN (ky_le f 20 4) + g * lN (ky_le f 32 4)), .long (lN (ky_le f 4 4))]) rfl ?_
  refine lv_lsub hx hb d_Mo_blocksOf_11 ?_
  refine lv_lstore_n (lv' := [(3, .long ((lN (ky_le f 4 4)) - (lN (ky_le f 20 4) + g * lN (ky_le f 32 4)))), (0, .ref h1), (1, .long g)]) hx hb d_Mo_blocksOf_12 rfl hl (by decide) rfl (fun ls hl => ?_)
  refine lv_lload_n hx hb d_Mo_blocksOf_13 rfl (lv_at hl 0 rfl) ?_
  refine lv_aload_n hx hb d_Mo_blocksOf_14 rfl (lv_at hl 1 rfl) ?_
  refine lv_bipush (v := 32) hx hb d_Mo_blocksOf_15 (by decide) ?_
  refine lv_iconst (v := 4) hx hb d_Mo_blocksOf_17 (by decide) ?_
  refine kf_ro hP hD hS hA [0] rfl (va_runS (As := [.ref h1, .int 32, .int 4]) (rest := [.long ((lN (ky_le f 4 4)) - (lN (ky_le f 20 4) + g * lN (ky_le f 32 4)))]) ⟨hx, hb, hml, hown, hts⟩ (c_Mo_field l D cB cI _ h1 f hf 32 4 (by decide)) ⟨callB_of 3 hts g_Mo_field rfl rfl rfl (hts _ q1_5) (hts _ q2_76) h_Mo_field ⟨Nat.le_of_ble_eq_true rfl, Nat.le_of_ble_eq_true rfl⟩, (hts _ q2_77)⟩ ⟨kf_bl, kf_to hP hD hS hA hE [0] rfl rfl⟩ rfl rfl hl.1 rfl (lv_room (Nat.le_of_ble_eq_true rfl)) d_Mo_blocksOf_18 ⟨Nat.zero_le _, Nat.zero_le _⟩) (fun H locs hP hS => ?_)
  refine W.eq (g2 := F0 m 21 ls [.long (lN (ky_le f 32 4)), .long ((lN (ky_le f 4 4)) - (lN (ky_le f 20 4) + g * lN (ky_le f 32 4)))]) rfl ?_
  refine kf_lc_ge (tgt := 29) hx hb d_Mo_blocksOf_21 d_Mo_blocksOf_22 (by decide) (fun c21 => ?_) (fun c21 => ?_)
  · refine lv_aload_n hx hb d_Mo_blocksOf_29 rfl (lv_at hl 1 rfl) ?_
    refine lv_bipush (v := 32) hx hb d_Mo_blocksOf_30 (by decide) ?_
    refine lv_iconst (v := 4) hx hb d_Mo_blocksOf_32 (by decide) ?_
    refine kf_ro hP hD hS hA [0] rfl (va_runS (As := [.ref h1, .int 32, .int 4]) (rest := []) ⟨hx, hb, hml, hown, hts⟩ (c_Mo_field l D cB cI _ h1 f hf 32 4 (by decide)) ⟨callB_of 3 hts g_Mo_field rfl rfl rfl (hts _ q1_5) (hts _ q2_76) h_Mo_field ⟨Nat.le_of_ble_eq_true rfl, Nat.le_of_ble_eq_true rfl⟩, (hts _ q2_77)⟩ ⟨kf_bl, kf_to hP hD hS hA hE [0] rfl rfl⟩ rfl rfl hl.1 rfl (lv_room (Nat.le_of_ble_eq_true rfl)) d_Mo_blocksOf_33 ⟨Nat.zero_le _, Nat.zero_le _⟩) (fun H locs hP hS => ?_)
    refine W.eq (g2 := F0 m 36 ls [.long (lN (ky_le f 32 4))]) rfl ?_
    exact kf_lr hx hb hr hlocks hP hD hS (by unfold ky_min; rw [if_neg (fun z => Int64.not_le.mpr z c21)]) d_Mo_blocksOf_36
  · refine lv_lload_n hx hb d_Mo_blocksOf_25 rfl (lv_at hl 0 rfl) ?_
    refine lv_goto (tgt := 36) hx hb d_Mo_blocksOf_26 (by decide) ?_
    exact kf_lr hx hb hr hlocks hP hD hS (by unfold ky_min; rw [if_pos (Int64.not_le.mp c21)]) d_Mo_blocksOf_36

set_option maxRecDepth 100000 in
set_option maxHeartbeats 4000000 in
theorem c_Mo_recordBlocks (l : Launch) (D : va_G) (cB cI : ClassId) (hz : Nat) (h1 : Nat) (f : Nat → Int32) (hf : km_ok f) (hsz : 1 ≤ kv_size f) : kf_Ct l y_Mo_recordBlocks w_Mo_recordBlocks 2 45 0 0 D (kT cB cI) [.ref h1] [(h1, .inl (cI, 1024, .inl f))] hz (some (.long (kv_rk f))) (kf_po D [(h1, .inl (cI, 1024, .inl f))]) := by
  refine kf_of (cc := b_Mo_recordBlocks) (maxL := 1) (ret := (some .long)) (by decide) rfl (Nat.le_of_ble_eq_true rfl) ?_
  intro p e s m below meth c A H locs hx hb hr hml hown hts hlocks hin hP hD hS hA hE ls hl
  have hl : lv_has ls 1 [(0, .ref h1)] := hl
  refine lv_aload_n hx hb d_Mo_recordBlocks_0 rfl (lv_at hl 0 rfl) ?_
  refine lv_bipush (v := 40) hx hb d_Mo_recordBlocks_1 (by decide) ?_
  refine lv_iconst (v := 4) hx hb d_Mo_recordBlocks_3 (by decide) ?_
  refine kf_ro hP hD hS hA [0] rfl (va_runS (As := [.ref h1, .int 40, .int 4]) (rest := []) ⟨hx, hb, hml, hown, hts⟩ (c_Mo_field l D cB cI _ h1 f hf 40 4 (by decide)) ⟨callB_of 3 hts g_Mo_field rfl rfl rfl (hts _ q1_5) (hts _ q2_76) h_Mo_field ⟨Nat.le_of_ble_eq_true rfl, Nat.le_of_ble_eq_true rfl⟩, (hts _ q2_77)⟩ ⟨kf_bl, kf_to hP hD hS hA hE [0] rfl rfl⟩ rfl rfl hl.1 rfl (lv_room (Nat.le_of_ble_eq_true rfl)) d_Mo_recordBlocks_4 ⟨Nat.zero_le _, Nat.zero_le _⟩) (fun H locs hP hS => ?_)
  refine W.eq (g2 := F0 m 7 ls [.long (lN (ky_le f 40 4))]) rfl ?_
  refine lv_aload_n hx hb d_Mo_recordBlocks_7 rfl (lv_at hl 0 rfl) ?_
  refine lv_bipush (v := 88) hx hb d_Mo_recordBlocks_8 (by decide) ?_
  refine lv_iconst (v := 2) hx hb d_Mo_recordBlocks_10 (by decide) ?_
  refine kf_ro hP hD hS hA [0] rfl (va_runS (As := [.ref h1, .int 88, .int 2]) (rest := [.long (lN (ky_le f 40 4))]) ⟨hx, hb, hml, hown, hts⟩ (c_Mo_field l D cB cI _ h1 f hf 88 2 (by decide)) ⟨callB_of 3 hts g_Mo_field rfl rfl rfl (hts _ q1_5) (hts _ q2_76) h_Mo_field ⟨Nat.le_of_ble_eq_true rfl, Nat.le_of_ble_eq_true rfl⟩, (hts _ q2_77)⟩ ⟨kf_bl, kf_to hP hD hS hA hE [0] rfl rfl⟩ rfl rfl hl.1 rfl (lv_room (Nat.le_of_ble_eq_true rfl)) d_Mo_recordBlocks_11 ⟨Nat.zero_le _, Nat.zero_le _⟩) (fun H locs hP hS => ?_)
  refine W.eq (g2 := F0 m 14 ls [.long (lN (ky_le f 88 2)), .long (lN (ky_le f 40 4))]) rfl ?_
  refine lv_lmul hx hb d_Mo_recordBlocks_14 ?_
  refine lv_aload_n hx hb d_Mo_recordBlocks_15 rfl (lv_at hl 0 rfl) ?_
  refine kf_ro hP hD hS hA [0] rfl (va_runS (As := [.ref h1]) (rest := [.long ((lN (ky_le f 40 4)) * (lN (ky_le f 88 2)))]) ⟨hx, hb, hml, hown, hts⟩ (c_Mo_sizeOf l D cB cI _ h1 f hf  ) ⟨callB_of 1 hts g_Mo_sizeOf rfl rfl rfl (hts _ q1_5) (hts _ q2_90) h_Mo_sizeOf ⟨Nat.le_of_ble_eq_true rfl, Nat.le_of_ble_eq_true rfl⟩, (hts _ q2_91)⟩ ⟨kf_bl, kf_to hP hD hS hA hE [0] rfl rfl⟩ rfl rfl hl.1 rfl (lv_room (Nat.le_of_ble_eq_true rfl)) d_Mo_recordBlocks_16 ⟨Nat.zero_le _, Nat.zero_le _⟩) (fun H locs hP hS => ?_)
  refine W.eq (g2 := F0 m 19 ls [.long (kv_size f), .long ((lN (ky_le f 40 4)) * (lN (ky_le f 88 2)))]) rfl ?_
  refine kf_ro hP hD hS hA [] rfl (va_runS (As := [.long ((lN (ky_le f 40 4)) * (lN (ky_le f 88 2))), .long (kv_size f)]) (rest := []) ⟨hx, hb, hml, hown, hts⟩ (c_Mo_up l D cB cI _ ((lN (ky_le f 40 4)) * (lN (ky_le f 88 2))) (kv_size f) hsz) ⟨callB_of 2 hts g_Mo_up rfl rfl rfl (hts _ q1_5) (hts _ q2_80) h_Mo_up ⟨Nat.le_of_ble_eq_true rfl, Nat.le_of_ble_eq_true rfl⟩, (hts _ q2_81)⟩ ⟨kf_bl, kf_to hP hD hS hA hE [] rfl rfl⟩ rfl rfl hl.1 rfl (lv_room (Nat.le_of_ble_eq_true rfl)) d_Mo_recordBlocks_19 ⟨Nat.zero_le _, Nat.zero_le _⟩) (fun H locs hP hS => ?_)
  refine W.eq (g2 := F0 m 22 ls [.long (ky_qU ((lN (ky_le f 40 4)) * (lN (ky_le f 88 2))) (kv_size f))]) rfl ?_
  exact kf_lr hx hb hr hlocks hP hD hS (rfl) d_Mo_recordBlocks_22

set_option maxRecDepth 100000 in
set_option maxHeartbeats 4000000 in
theorem c_Mo_headOf (l : Launch) (D : va_G) (cB cI : ClassId) (hz : Nat) (h1 : Nat) (f : Nat → Int32) (hf : km_ok f) (n : Nat) (hn : n < 64) (h32 : 1 ≤ lN (ky_le f 32 4)) (hsz : 1 ≤ kv_size f) : kf_Ct l y_Mo_headOf w_Mo_headOf 3 69 0 0 D (kT cB cI) [.ref h1, .long (lN n)] [(h1, .inl (cI, 1024, .inl f))] hz (some (.long (km_hd f n))) (kf_po D [(h1, .inl (cI, 1024, .inl f))]) := by
  refine kf_of (cc := b_Mo_headOf) (maxL := 3) (ret := (some .long)) (by decide) rfl (Nat.le_of_ble_eq_true rfl) ?_
  intro p e s m below meth c A H locs hx hb hr hml hown hts hlocks hin hP hD hS hA hE ls hl
  have hl : lv_has ls 3 [(0, .ref h1), (1, .long (lN n))] := hl
  refine lv_aload_n hx hb d_Mo_headOf_0 rfl (lv_at hl 0 rfl) ?_
  refine lv_lload_n hx hb d_Mo_headOf_1 rfl (lv_at hl 1 rfl) ?_
  refine kf_ro hP hD hS hA [0] rfl (va_runS (As := [.ref h1, .long (lN n)]) (rest := []) ⟨hx, hb, hml, hown, hts⟩ (c_Mo_hasCopy l D cB cI _ h1 f hf n hn) ⟨callB_of 2 hts g_Mo_hasCopy rfl rfl rfl (hts _ q1_5) (hts _ q2_120) h_Mo_hasCopy ⟨Nat.le_of_ble_eq_true rfl, Nat.le_of_ble_eq_true rfl⟩, (hts _ q2_121)⟩ ⟨kf_bl, kf_to hP hD hS hA hE [0] rfl rfl⟩ rfl rfl hl.1 rfl (lv_room (Nat.le_of_ble_eq_true rfl)) d_Mo_headOf_2 ⟨Nat.zero_le _, Nat.zero_le _⟩) (fun H locs hP hS => ?_)
  refine W.eq (g2 := F0 m 5 ls [.int (kP (km_hcP f n))]) rfl ?_
  refine lv_if_eq (tgt := 28) hx hb d_Mo_headOf_5 (by decide) (fun c5 => ?_) (fun c5 => ?_)
  · refine lv_lconst (v := 0) hx hb d_Mo_headOf_28 (by decide) ?_
    exact kf_lr hx hb hr hlocks hP hD hS (by unfold km_hd; rw [if_neg (kP_eq c5)]) d_Mo_headOf_29
  · refine lv_lconst (v := 1) hx hb d_Mo_headOf_8 (by decide) ?_
    refine lv_ldc2 (v := 32) hx hb hown (hts _ q2_131) d_Mo_headOf_9 ?_
    refine lv_aload_n hx hb d_Mo_headOf_12 rfl (lv_at hl 0 rfl) ?_
    refine kf_ro hP hD hS hA [0] rfl (va_runS (As := [.ref h1]) (rest := [.long 32, .long 1]) ⟨hx, hb, hml, hown, hts⟩ (c_Mo_groupsOf l D cB cI _ h1 f hf  h32) ⟨callB_of 1 hts g_Mo_groupsOf rfl rfl rfl (hts _ q1_5) (hts _ q2_73) h_Mo_groupsOf ⟨Nat.le_of_ble_eq_true rfl, Nat.le_of_ble_eq_true rfl⟩, (hts _ q2_74)⟩ ⟨kf_bl, kf_to hP hD hS hA hE [0] rfl rfl⟩ rfl rfl hl.1 rfl (lv_room (Nat.le_of_ble_eq_true rfl)) d_Mo_headOf_13 ⟨Nat.zero_le _, Nat.zero_le _⟩) (fun H locs hP hS => ?_)
    refine W.eq (g2 := F0 m 16 ls [.long (kv_gc f), .long 32, .long 1]) rfl ?_
    refine lv_lmul hx hb d_Mo_headOf_16 ?_
    refine lv_aload_n hx hb d_Mo_headOf_17 rfl (lv_at hl 0 rfl) ?_
    refine kf_ro hP hD hS hA [0] rfl (va_runS (As := [.ref h1]) (rest := [.long (32 * (kv_gc f)), .long 1]) ⟨hx, hb, hml, hown, hts⟩ (c_Mo_sizeOf l D cB cI _ h1 f hf  ) ⟨callB_of 1 hts g_Mo_sizeOf rfl rfl rfl (hts _ q1_5) (hts _ q2_90) h_Mo_sizeOf ⟨Nat.le_of_ble_eq_true rfl, Nat.le_of_ble_eq_true rfl⟩, (hts _ q2_91)⟩ ⟨kf_bl, kf_to hP hD hS hA hE [0] rfl rfl⟩ rfl rfl hl.1 rfl (lv_room (Nat.le_of_ble_eq_true rfl)) d_Mo_headOf_18 ⟨Nat.zero_le _, Nat.zero_le _⟩) (fun H locs hP hS => ?_)
    refine W.eq (g2 := F0 m 21 ls [.long (kv_size f), .long (32 * (kv_gc f)), .long 1]) rfl ?_
    refine kf_ro hP hD hS hA [] rfl (va_runS (As := [.long (32 * (kv_gc f)), .long (kv_size f)]) (rest := [.long 1]) ⟨hx, hb, hml, hown, hts⟩ (c_Mo_up l D cB cI _ (32 * (kv_gc f)) (kv_size f) hsz) ⟨callB_of 2 hts g_Mo_up rfl rfl rfl (hts _ q1_5) (hts _ q2_80) h_Mo_up ⟨Nat.le_of_ble_eq_true rfl, Nat.le_of_ble_eq_true rfl⟩, (hts _ q2_81)⟩ ⟨kf_bl, kf_to hP hD hS hA hE [] rfl rfl⟩ rfl rfl hl.1 rfl (lv_room (Nat.le_of_ble_eq_true rfl)) d_Mo_headOf_21 ⟨Nat.zero_le _, Nat.zero_le _⟩) (fun H locs hP hS => ?_)
    refine W.eq (g2 := F0 m 24 ls [.long (ky_qU (32 * (kv_gc f)) (kv_size f)), .long 1]) rfl ?_
    refine lv_ladd hx hb d_Mo_headOf_24 ?_
    refine lv_goto (tgt := 29) hx hb d_Mo_headOf_25 (by decide) ?_
    exact kf_lr hx hb hr hlocks hP hD hS (by unfold km_hd; rw [if_pos (kP_ne c5)]; unfold kv_cb; rw [Int64.mul_comm]) d_Mo_headOf_29

set_option maxRecDepth 100000 in
set_option maxHeartbeats 4000000 in
theorem c_Mo_fixedOf (l : Launch) (D : va_G) (cB cI : ClassId) (hz : Nat) (h1 : Nat) (f : Nat → Int32) (hf : km_ok f) (n : Nat) (hn : n < 64) (h32 : 1 ≤ lN (ky_le f 32 4)) (hsz : 1 ≤ kv_size f) : kf_Ct l y_Mo_fixedOf w_Mo_fixedOf 4 91 0 0 D (kT cB cI) [.ref h1, .long (lN n)] [(h1, .inl (cI, 1024, .inl f))] hz (some (.long (km_hd f n + 2 + kv_rk f))) (kf_po D [(h1, .inl (cI, 1024, .inl f))]) := by
  refine kf_of (cc := b_Mo_fixedOf) (maxL := 3) (ret := (some .long)) (by decide) rfl (Nat.le_of_ble_eq_true rfl) ?_
  intro p e s m below meth c A H locs hx hb hr hml hown hts hlocks hin hP hD hS hA hE ls hl
  have hl : lv_has ls 3 [(0, .ref h1), (1, .long (lN n))] := hl
  refine lv_aload_n hx hb d_Mo_fixedOf_0 rfl (lv_at hl 0 rfl) ?_
  refine lv_lload_n hx hb d_Mo_fixedOf_1 rfl (lv_at hl 1 rfl) ?_
  refine kf_ro hP hD hS hA [0] rfl (va_runS (As := [.ref h1, .long (lN n)]) (rest := []) ⟨hx, hb, hml, hown, hts⟩ (c_Mo_headOf l D cB cI _ h1 f hf n hn h32 hsz) ⟨callB_of 2 hts g_Mo_headOf rfl rfl rfl (hts _ q1_5) (hts _ q2_117) h_Mo_headOf ⟨Nat.le_of_ble_eq_true rfl, Nat.le_of_ble_eq_true rfl⟩, (hts _ q2_118)⟩ ⟨kf_bl, kf_to hP hD hS hA hE [0] rfl rfl⟩ rfl rfl hl.1 rfl (lv_room (Nat.le_of_ble_eq_true rfl)) d_Mo_fixedOf_2 ⟨Nat.zero_le _, Nat.zero_le _⟩) (fun H locs hP hS => ?_)
  refine W.eq (g2 := F0 m 5 ls [.long (km_hd f n)]) rfl ?_
  refine lv_ldc2 (v := 2) hx hb hown (hts _ q2_89) d_Mo_fixedOf_5 ?_
  refine lv_ladd hx hb d_Mo_fixedOf_8 ?_
  refine lv_aload_n hx hb d_Mo_fixedOf_9 rfl (lv_at hl 0 rfl) ?_
  refine kf_ro hP hD hS hA [0] rfl (va_runS (As := [.ref h1]) (rest := [.long ((km_hd f n) + 2)]) ⟨hx, hb, hml, hown, hts⟩ (c_Mo_recordBlocks l D cB cI _ h1 f hf  hsz) ⟨callB_of 1 hts g_Mo_recordBlocks rfl rfl rfl (hts _ q1_5) (hts _ q2_132) h_Mo_recordBlocks ⟨Nat.le_of_ble_eq_true rfl, Nat.le_of_ble_eq_true rfl⟩, (hts _ q2_133)⟩ ⟨kf_bl, kf_to hP hD hS hA hE [0] rfl rfl⟩ rfl rfl hl.1 rfl (lv_room (Nat.le_of_ble_eq_true rfl)) d_Mo_fixedOf_10 ⟨Nat.zero_le _, Nat.zero_le _⟩) (fun H locs hP hS => ?_)
  refine W.eq (g2 := F0 m 13 ls [.long (kv_rk f), .long ((km_hd f n) + 2)]) rfl ?_
  refine lv_ladd hx hb d_Mo_fixedOf_13 ?_
  exact kf_lr hx hb hr hlocks hP hD hS (rfl) d_Mo_fixedOf_14

set_option maxRecDepth 100000 in
set_option maxHeartbeats 4000000 in
theorem c_Mo_faultOfSizes (l : Launch) (D : va_G) (cB cI : ClassId) (hz : Nat) (h1 : Nat) (f : Nat → Int32) (hf : km_ok f) : kf_Ct l y_Mo_faultOfSizes w_Mo_faultOfSizes 2 45 0 0 D (kT cB cI) [.ref h1] [(h1, .inl (cI, 1024, .inl f))] hz (some (.int (km_sz f))) (kf_po D [(h1, .inl (cI, 1024, .inl f))]) := by
  refine kf_of (cc := b_Mo_faultOfSizes) (maxL := 11) (ret := (some .int)) (by decide) rfl (Nat.le_of_ble_eq_true rfl) ?_
  intro p e s m below meth c A H locs hx hb hr hml hown hts hlocks hin hP hD hS hA hE ls hl
  have hl : lv_has ls 11 [(0, .ref h1)] := hl
  refine lv_aload_n hx hb d_Mo_faultOfSizes_0 rfl (lv_at hl 0 rfl) ?_
  refine lv_bipush (v := 56) hx hb d_Mo_faultOfSizes_1 (by decide) ?_
  refine lv_iconst (v := 2) hx hb d_Mo_faultOfSizes_3 (by decide) ?_
  refine kf_ro hP hD hS hA [0] rfl (va_runS (As := [.ref h1, .int 56, .int 2]) (rest := []) ⟨hx, hb, hml, hown, hts⟩ (c_Mo_field l D cB cI _ h1 f hf 56 2 (by decide)) ⟨callB_of 3 hts g_Mo_field rfl rfl rfl (hts _ q1_5) (hts _ q2_76) h_Mo_field ⟨Nat.le_of_ble_eq_true rfl, Nat.le_of_ble_eq_true rfl⟩, (hts _ q2_77)⟩ ⟨kf_bl, kf_to hP hD hS hA hE [0] rfl rfl⟩ rfl rfl hl.1 rfl (lv_room (Nat.le_of_ble_eq_true rfl)) d_Mo_faultOfSizes_4 ⟨Nat.zero_le _, Nat.zero_le _⟩) (fun H locs hP hS => ?_)
  refine W.eq (g2 := F0 m 7 ls [.long (lN (ky_le f 56 2))]) rfl ?_
  refine lv_ldc2 (v := 61267) hx hb hown (hts _ q2_67) d_Mo_faultOfSizes_7 ?_
  refine kf_lc_eq (tgt := 17) hx hb d_Mo_faultOfSizes_10 d_Mo_faultOfSizes_11 (by decide) (fun c10 => ?_) (fun c10 => ?_)
  · refine lv_aload_n hx hb d_Mo_faultOfSizes_17 rfl (lv_at hl 0 rfl) ?_
    refine lv_bipush (v := 76) hx hb d_Mo_faultOfSizes_18 (by decide) ?_
    refine lv_iconst (v := 4) hx hb d_Mo_faultOfSizes_20 (by decide) ?_
    refine kf_ro hP hD hS hA [0] rfl (va_runS (As := [.ref h1, .int 76, .int 4]) (rest := []) ⟨hx, hb, hml, hown, hts⟩ (c_Mo_field l D cB cI _ h1 f hf 76 4 (by decide)) ⟨callB_of 3 hts g_Mo_field rfl rfl rfl (hts _ q1_5) (hts _ q2_76) h_Mo_field ⟨Nat.le_of_ble_eq_true rfl, Nat.le_of_ble_eq_true rfl⟩, (hts _ q2_77)⟩ ⟨kf_bl, kf_to hP hD hS hA hE [0] rfl rfl⟩ rfl rfl hl.1 rfl (lv_room (Nat.le_of_ble_eq_true rfl)) d_Mo_faultOfSizes_21 ⟨Nat.zero_le _, Nat.zero_le _⟩) (fun H locs hP hS => ?_)
    refine W.eq (g2 := F0 m 24 ls [.long (lN (ky_le f 76 4))]) rfl ?_
    refine lv_lconst (v := 1) hx hb d_Mo_faultOfSizes_24 (by decide) ?_
    refine kf_lc_eq (tgt := 32) hx hb d_Mo_faultOfSizes_25 d_Mo_faultOfSizes_26 (by decide) (fun c25 => ?_) (fun c25 => ?_)
    · refine lv_aload_n hx hb d_Mo_faultOfSizes_32 rfl (lv_at hl 0 rfl) ?_
      refine lv_bipush (v := 24) hx hb d_Mo_faultOfSizes_33 (by decide) ?_
      refine lv_iconst (v := 4) hx hb d_Mo_faultOfSizes_35 (by decide) ?_
      refine kf_ro hP hD hS hA [0] rfl (va_runS (As := [.ref h1, .int 24, .int 4]) (rest := []) ⟨hx, hb, hml, hown, hts⟩ (c_Mo_field l D cB cI _ h1 f hf 24 4 (by decide)) ⟨callB_of 3 hts g_Mo_field rfl rfl rfl (hts _ q1_5) (hts _ q2_76) h_Mo_field ⟨Nat.le_of_ble_eq_true rfl, Nat.le_of_ble_eq_true rfl⟩, (hts _ q2_77)⟩ ⟨kf_bl, kf_to hP hD hS hA hE [0] rfl rfl⟩ rfl rfl hl.1 rfl (lv_room (Nat.le_of_ble_eq_true rfl)) d_Mo_faultOfSizes_36 ⟨Nat.zero_le _, Nat.zero_le _⟩) (fun H locs hP hS => ?_)
      refine W.eq (g2 := F0 m 39 ls [.long (lN (ky_le f 24 4))]) rfl ?_
      refine lv_lstore_n (lv' := [(1, .long (lN (ky_le f 24 4))), (0, .ref h1)]) hx hb d_Mo_faultOfSizes_39 rfl hl (by decide) rfl (fun ls hl => ?_)
      refine lv_lload_n hx hb d_Mo_faultOfSizes_40 rfl (lv_at hl 0 rfl) ?_
      refine lv_ldc2 (v := 2) hx hb hown (hts _ q2_89) d_Mo_faultOfSizes_41 ?_
      refine kf_lc_le (tgt := 51) hx hb d_Mo_faultOfSizes_44 d_Mo_faultOfSizes_45 (by decide) (fun c44 => ?_) (fun c44 => ?_)
      · refine lv_aload_n hx hb d_Mo_faultOfSizes_51 rfl (lv_at hl 1 rfl) ?_
        refine lv_bipush (v := 28) hx hb d_Mo_faultOfSizes_52 (by decide) ?_
        refine lv_iconst (v := 4) hx hb d_Mo_faultOfSizes_54 (by decide) ?_
        refine kf_ro hP hD hS hA [0] rfl (va_runS (As := [.ref h1, .int 28, .int 4]) (rest := []) ⟨hx, hb, hml, hown, hts⟩ (c_Mo_field l D cB cI _ h1 f hf 28 4 (by decide)) ⟨callB_of 3 hts g_Mo_field rfl rfl rfl (hts _ q1_5) (hts _ q2_76) h_Mo_field ⟨Nat.le_of_ble_eq_true rfl, Nat.le_of_ble_eq_true rfl⟩, (hts _ q2_77)⟩ ⟨kf_bl, kf_to hP hD hS hA hE [0] rfl rfl⟩ rfl rfl hl.1 rfl (lv_room (Nat.le_of_ble_eq_true rfl)) d_Mo_faultOfSizes_55 ⟨Nat.zero_le _, Nat.zero_le _⟩) (fun H locs hP hS => ?_)
        refine W.eq (g2 := F0 m 58 ls [.long (lN (ky_le f 28 4))]) rfl ?_
        refine lv_lload_n hx hb d_Mo_faultOfSizes_58 rfl (lv_at hl 0 rfl) ?_
        refine kf_lc_eq (tgt := 66) hx hb d_Mo_faultOfSizes_59 d_Mo_faultOfSizes_60 (by decide) (fun c59 => ?_) (fun c59 => ?_)
        · refine lv_aload_n hx hb d_Mo_faultOfSizes_66 rfl (lv_at hl 1 rfl) ?_
          refine lv_bipush (v := 20) hx hb d_Mo_faultOfSizes_67 (by decide) ?_
          refine lv_iconst (v := 4) hx hb d_Mo_faultOfSizes_69 (by decide) ?_
          refine kf_ro hP hD hS hA [0] rfl (va_runS (As := [.ref h1, .int 20, .int 4]) (rest := []) ⟨hx, hb, hml, hown, hts⟩ (c_Mo_field l D cB cI _ h1 f hf 20 4 (by decide)) ⟨callB_of 3 hts g_Mo_field rfl rfl rfl (hts _ q1_5) (hts _ q2_76) h_Mo_field ⟨Nat.le_of_ble_eq_true rfl, Nat.le_of_ble_eq_true rfl⟩, (hts _ q2_77)⟩ ⟨kf_bl, kf_to hP hD hS hA hE [0] rfl rfl⟩ rfl rfl hl.1 rfl (lv_room (Nat.le_of_ble_eq_true rfl)) d_Mo_faultOfSizes_70 ⟨Nat.zero_le _, Nat.zero_le _⟩) (fun H locs hP hS => ?_)
          refine W.eq (g2 := F0 m 73 ls [.long (lN (ky_le f 20 4))]) rfl ?_
          refine lv_lload_n hx hb d_Mo_faultOfSizes_73 rfl (lv_at hl 0 rfl) ?_
          refine lv_lconst (v := 0) hx hb d_Mo_faultOfSizes_74 (by decide) ?_
          refine kf_lc_ne (tgt := 83) hx hb d_Mo_faultOfSizes_75 d_Mo_faultOfSizes_76 (by decide) (fun c75 => ?_) (fun c75 => ?_)
          · refine lv_lconst (v := 0) hx hb d_Mo_faultOfSizes_83 (by decide) ?_
            refine kf_lc_eq (tgt := 91) hx hb d_Mo_faultOfSizes_84 d_Mo_faultOfSizes_85 (by decide) (fun c84 => ?_) (fun c84 => ?_)
            · refine lv_aload_n hx hb d_Mo_faultOfSizes_91 rfl (lv_at hl 1 rfl) ?_
              refine kf_ro hP hD hS hA [0] rfl (va_runS (As := [.ref h1]) (rest := []) ⟨hx, hb, hml, hown, hts⟩ (c_Mo_sizeOf l D cB cI _ h1 f hf  ) ⟨callB_of 1 hts g_Mo_sizeOf rfl rfl rfl (hts _ q1_5) (hts _ q2_90) h_Mo_sizeOf ⟨Nat.le_of_ble_eq_true rfl, Nat.le_of_ble_eq_true rfl⟩, (hts _ q2_91)⟩ ⟨kf_bl, kf_to hP hD hS hA hE [0] rfl rfl⟩ rfl rfl hl.1 rfl (lv_room (Nat.le_of_ble_eq_true rfl)) d_Mo_faultOfSizes_92 ⟨Nat.zero_le _, Nat.zero_le _⟩) (fun H locs hP hS => ?_)
              refine W.eq (g2 := F0 m 95 ls [.long (kv_size f)]) rfl ?_
              refine lv_lstore_n (lv' := [(3, .long (kv_size f)), (1, .long (lN (ky_le f 24 4))), (0, .ref h1)]) hx hb d_Mo_faultOfSizes_95 rfl hl (by decide) rfl (fun ls hl => ?_)
              refine lv_aload_n hx hb d_Mo_faultOfSizes_96 rfl (lv_at hl 2 rfl) ?_
              refine lv_bipush (v := 32) hx hb d_Mo_faultOfSizes_97 (by decide) ?_
              refine lv_iconst (v := 4) hx hb d_Mo_faultOfSizes_99 (by decide) ?_
              refine kf_ro hP hD hS hA [0] rfl (va_runS (As := [.ref h1, .int 32, .int 4]) (rest := []) ⟨hx, hb, hml, hown, hts⟩ (c_Mo_field l D cB cI _ h1 f hf 32 4 (by decide)) ⟨callB_of 3 hts g_Mo_field rfl rfl rfl (hts _ q1_5) (hts _ q2_76) h_Mo_field ⟨Nat.le_of_ble_eq_true rfl, Nat.le_of_ble_eq_true rfl⟩, (hts _ q2_77)⟩ ⟨kf_bl, kf_to hP hD hS hA hE [0] rfl rfl⟩ rfl rfl hl.1 rfl (lv_room (Nat.le_of_ble_eq_true rfl)) d_Mo_faultOfSizes_100 ⟨Nat.zero_le _, Nat.zero_le _⟩) (fun H locs hP hS => ?_)
              refine W.eq (g2 := F0 m 103 ls [.long (lN (ky_le f 32 4))]) rfl ?_
              refine lv_lstore (lv' := [(5, .long (lN (ky_le f 32 4))), (3, .long (kv_size f)), (1, .long (lN (ky_le f 24 4))), (0, .ref h1)]) hx hb d_Mo_faultOfSizes_103 hl (by decide) rfl (fun ls hl => ?_)
              refine lv_lload hx hb d_Mo_faultOfSizes_105 (lv_at hl 0 rfl) ?_
              refine lv_ldc2 (v := 64) hx hb hown (hts _ q2_94) d_Mo_faultOfSizes_107 ?_
              refine lv_ldc2 (v := 8) hx hb hown (hts _ q2_72) d_Mo_faultOfSizes_110 ?_
              refine lv_lload_n hx hb d_Mo_faultOfSizes_113 rfl (lv_at hl 1 rfl) ?_
              refine lv_lmul hx hb d_Mo_faultOfSizes_114 ?_
              refine kf_ro hP hD hS hA [] rfl (va_runS (As := [.long (lN (ky_le f 32 4)), .long 64, .long (8 * (kv_size f))]) (rest := []) ⟨hx, hb, hml, hown, hts⟩ (c_Mo_isIn l D cB cI _ (lN (ky_le f 32 4)) 64 (8 * (kv_size f))) ⟨callB_of 3 hts g_Mo_isIn rfl rfl rfl (hts _ q1_5) (hts _ q2_95) h_Mo_isIn ⟨Nat.le_of_ble_eq_true rfl, Nat.le_of_ble_eq_true rfl⟩, (hts _ q2_96)⟩ ⟨kf_bl, kf_to hP hD hS hA hE [] rfl rfl⟩ rfl rfl hl.1 rfl (lv_room (Nat.le_of_ble_eq_true rfl)) d_Mo_faultOfSizes_115 ⟨Nat.zero_le _, Nat.zero_le _⟩) (fun H locs hP hS => ?_)
              refine W.eq (g2 := F0 m 118 ls [.int (kP (km_inP (lN (ky_le f 32 4)) 64 (8 * (kv_size f))))]) rfl ?_
              refine lv_if_eq (tgt := 132) hx hb d_Mo_faultOfSizes_118 (by decide) (fun c118 => ?_) (fun c118 => ?_)
              · refine lv_bipush (v := 32) hx hb d_Mo_faultOfSizes_132 (by decide) ?_
                have hc118 := by first | exact kP_ne c118 | exact kP_eq c118
                exact kf_ir hx hb hr hlocks hP hD hS (by clear hP hD hS hA hE hts hl; unfold km_sz; grind) d_Mo_faultOfSizes_134
              · refine lv_lload hx hb d_Mo_faultOfSizes_121 (lv_at hl 0 rfl) ?_
                refine lv_ldc2 (v := 8) hx hb hown (hts _ q2_72) d_Mo_faultOfSizes_123 ?_
                refine lv_lrem hx hb d_Mo_faultOfSizes_126 (by decide) ?_
                refine lv_lconst (v := 0) hx hb d_Mo_faultOfSizes_127 (by decide) ?_
                refine kf_lc_eq (tgt := 135) hx hb d_Mo_faultOfSizes_128 d_Mo_faultOfSizes_129 (by decide) (fun c128 => ?_) (fun c128 => ?_)
                · refine lv_aload_n hx hb d_Mo_faultOfSizes_135 rfl (lv_at hl 3 rfl) ?_
                  refine lv_bipush (v := 36) hx hb d_Mo_faultOfSizes_136 (by decide) ?_
                  refine lv_iconst (v := 4) hx hb d_Mo_faultOfSizes_138 (by decide) ?_
                  refine kf_ro hP hD hS hA [0] rfl (va_runS (As := [.ref h1, .int 36, .int 4]) (rest := []) ⟨hx, hb, hml, hown, hts⟩ (c_Mo_field l D cB cI _ h1 f hf 36 4 (by decide)) ⟨callB_of 3 hts g_Mo_field rfl rfl rfl (hts _ q1_5) (hts _ q2_76) h_Mo_field ⟨Nat.le_of_ble_eq_true rfl, Nat.le_of_ble_eq_true rfl⟩, (hts _ q2_77)⟩ ⟨kf_bl, kf_to hP hD hS hA hE [0] rfl rfl⟩ rfl rfl hl.1 rfl (lv_room (Nat.le_of_ble_eq_true rfl)) d_Mo_faultOfSizes_139 ⟨Nat.zero_le _, Nat.zero_le _⟩) (fun H locs hP hS => ?_)
                  refine W.eq (g2 := F0 m 142 ls [.long (lN (ky_le f 36 4))]) rfl ?_
                  refine lv_lload hx hb d_Mo_faultOfSizes_142 (lv_at hl 0 rfl) ?_
                  refine kf_lc_eq (tgt := 151) hx hb d_Mo_faultOfSizes_144 d_Mo_faultOfSizes_145 (by decide) (fun c144 => ?_) (fun c144 => ?_)
                  · refine lv_aload_n hx hb d_Mo_faultOfSizes_151 rfl (lv_at hl 3 rfl) ?_
                    refine lv_bipush (v := 88) hx hb d_Mo_faultOfSizes_152 (by decide) ?_
                    refine lv_iconst (v := 2) hx hb d_Mo_faultOfSizes_154 (by decide) ?_
                    refine kf_ro hP hD hS hA [0] rfl (va_runS (As := [.ref h1, .int 88, .int 2]) (rest := []) ⟨hx, hb, hml, hown, hts⟩ (c_Mo_field l D cB cI _ h1 f hf 88 2 (by decide)) ⟨callB_of 3 hts g_Mo_field rfl rfl rfl (hts _ q1_5) (hts _ q2_76) h_Mo_field ⟨Nat.le_of_ble_eq_true rfl, Nat.le_of_ble_eq_true rfl⟩, (hts _ q2_77)⟩ ⟨kf_bl, kf_to hP hD hS hA hE [0] rfl rfl⟩ rfl rfl hl.1 rfl (lv_room (Nat.le_of_ble_eq_true rfl)) d_Mo_faultOfSizes_155 ⟨Nat.zero_le _, Nat.zero_le _⟩) (fun H locs hP hS => ?_)
                    refine W.eq (g2 := F0 m 158 ls [.long (lN (ky_le f 88 2))]) rfl ?_
                    refine lv_lstore (lv' := [(7, .long (lN (ky_le f 88 2))), (5, .long (lN (ky_le f 32 4))), (3, .long (kv_size f)), (1, .long (lN (ky_le f 24 4))), (0, .ref h1)]) hx hb d_Mo_faultOfSizes_158 hl (by decide) rfl (fun ls hl => ?_)
                    refine lv_lload hx hb d_Mo_faultOfSizes_160 (lv_at hl 0 rfl) ?_
                    refine lv_ldc2 (v := 128) hx hb hown (hts _ q2_98) d_Mo_faultOfSizes_162 ?_
                    refine kf_lc_eq (tgt := 199) hx hb d_Mo_faultOfSizes_165 d_Mo_faultOfSizes_166 (by decide) (fun c165 => ?_) (fun c165 => ?_)
                    · refine lv_aload_n hx hb d_Mo_faultOfSizes_199 rfl (lv_at hl 4 rfl) ?_
                      refine lv_bipush (v := 40) hx hb d_Mo_faultOfSizes_200 (by decide) ?_
                      refine lv_iconst (v := 4) hx hb d_Mo_faultOfSizes_202 (by decide) ?_
                      refine kf_ro hP hD hS hA [0] rfl (va_runS (As := [.ref h1, .int 40, .int 4]) (rest := []) ⟨hx, hb, hml, hown, hts⟩ (c_Mo_field l D cB cI _ h1 f hf 40 4 (by decide)) ⟨callB_of 3 hts g_Mo_field rfl rfl rfl (hts _ q1_5) (hts _ q2_76) h_Mo_field ⟨Nat.le_of_ble_eq_true rfl, Nat.le_of_ble_eq_true rfl⟩, (hts _ q2_77)⟩ ⟨kf_bl, kf_to hP hD hS hA hE [0] rfl rfl⟩ rfl rfl hl.1 rfl (lv_room (Nat.le_of_ble_eq_true rfl)) d_Mo_faultOfSizes_203 ⟨Nat.zero_le _, Nat.zero_le _⟩) (fun H locs hP hS => ?_)
                      refine W.eq (g2 := F0 m 206 ls [.long (lN (ky_le f 40 4))]) rfl ?_
                      refine lv_lstore (lv' := [(9, .long (lN (ky_le f 40 4))), (7, .long (lN (ky_le f 88 2))), (5, .long (lN (ky_le f 32 4))), (3, .long (kv_size f)), (1, .long (lN (ky_le f 24 4))), (0, .ref h1)]) hx hb d_Mo_faultOfSizes_206 hl (by decide) rfl (fun ls hl => ?_)
                      refine lv_lload hx hb d_Mo_faultOfSizes_208 (lv_at hl 0 rfl) ?_
                      refine lv_ldc2 (v := 16) hx hb hown (hts _ q2_100) d_Mo_faultOfSizes_210 ?_
                      refine lv_ldc2 (v := 8) hx hb hown (hts _ q2_72) d_Mo_faultOfSizes_213 ?_
                      refine lv_lload_n hx hb d_Mo_faultOfSizes_216 rfl (lv_at hl 3 rfl) ?_
                      refine lv_lmul hx hb d_Mo_faultOfSizes_217 ?_
                      refine kf_ro hP hD hS hA [] rfl (va_runS (As := [.long (lN (ky_le f 40 4)), .long 16, .long (8 * (kv_size f))]) (rest := []) ⟨hx, hb, hml, hown, hts⟩ (c_Mo_isIn l D cB cI _ (lN (ky_le f 40 4)) 16 (8 * (kv_size f))) ⟨callB_of 3 hts g_Mo_isIn rfl rfl rfl (hts _ q1_5) (hts _ q2_95) h_Mo_isIn ⟨Nat.le_of_ble_eq_true rfl, Nat.le_of_ble_eq_true rfl⟩, (hts _ q2_96)⟩ ⟨kf_bl, kf_to hP hD hS hA hE [] rfl rfl⟩ rfl rfl hl.1 rfl (lv_room (Nat.le_of_ble_eq_true rfl)) d_Mo_faultOfSizes_218 ⟨Nat.zero_le _, Nat.zero_le _⟩) (fun H locs hP hS => ?_)
                      refine W.eq (g2 := F0 m 221 ls [.int (kP (km_inP (lN (ky_le f 40 4)) 16 (8 * (kv_size f))))]) rfl ?_
                      refine lv_if_eq (tgt := 252) hx hb d_Mo_faultOfSizes_221 (by decide) (fun c221 => ?_) (fun c221 => ?_)
                      · refine lv_bipush (v := 40) hx hb d_Mo_faultOfSizes_252 (by decide) ?_
                        have hc118 := by first | exact kP_ne c118 | exact kP_eq c118
                        have hc221 := by first | exact kP_ne c221 | exact kP_eq c221
                        exact kf_ir hx hb hr hlocks hP hD hS (by clear hP hD hS hA hE hts hl; unfold km_sz; grind) d_Mo_faultOfSizes_254
                      · refine lv_lload hx hb d_Mo_faultOfSizes_224 (lv_at hl 0 rfl) ?_
                        refine lv_ldc2 (v := 8) hx hb hown (hts _ q2_72) d_Mo_faultOfSizes_226 ?_
                        refine lv_lrem hx hb d_Mo_faultOfSizes_229 (by decide) ?_
                        refine lv_lconst (v := 0) hx hb d_Mo_faultOfSizes_230 (by decide) ?_
                        refine kf_lc_ne (tgt := 252) hx hb d_Mo_faultOfSizes_231 d_Mo_faultOfSizes_232 (by decide) (fun c231 => ?_) (fun c231 => ?_)
                        · refine lv_bipush (v := 40) hx hb d_Mo_faultOfSizes_252 (by decide) ?_
                          have hc118 := by first | exact kP_ne c118 | exact kP_eq c118
                          have hc221 := by first | exact kP_ne c221 | exact kP_eq c221
                          exact kf_ir hx hb hr hlocks hP hD hS (by clear hP hD hS hA hE hts hl; unfold km_sz; grind) d_Mo_faultOfSizes_254
                        · refine lv_lload hx hb d_Mo_faultOfSizes_235 (lv_at hl 0 rfl) ?_
                          refine lv_lload hx hb d_Mo_faultOfSizes_237 (lv_at hl 1 rfl) ?_
                          refine lv_lmul hx hb d_Mo_faultOfSizes_239 ?_
                          refine lv_lload_n hx hb d_Mo_faultOfSizes_240 rfl (lv_at hl 3 rfl) ?_
                          refine lv_lrem hx hb d_Mo_faultOfSizes_241 (km_ne0 (km_size1 c44)) ?_
                          refine lv_lconst (v := 0) hx hb d_Mo_faultOfSizes_242 (by decide) ?_
                          refine kf_lc_ne (tgt := 252) hx hb d_Mo_faultOfSizes_243 d_Mo_faultOfSizes_244 (by decide) (fun c243 => ?_) (fun c243 => ?_)
                          · refine lv_bipush (v := 40) hx hb d_Mo_faultOfSizes_252 (by decide) ?_
                            have hc118 := by first | exact kP_ne c118 | exact kP_eq c118
                            have hc221 := by first | exact kP_ne c221 | exact kP_eq c221
                            exact kf_ir hx hb hr hlocks hP hD hS (by clear hP hD hS hA hE hts hl; unfold km_sz; grind) d_Mo_faultOfSizes_254
                          · refine lv_bipush (v := -2) hx hb d_Mo_faultOfSizes_247 (by decide) ?_
                            refine lv_goto (tgt := 254) hx hb d_Mo_faultOfSizes_249 (by decide) ?_
                            have hc118 := by first | exact kP_ne c118 | exact kP_eq c118
                            have hc221 := by first | exact kP_ne c221 | exact kP_eq c221
                            exact kf_ir hx hb hr hlocks hP hD hS (by clear hP hD hS hA hE hts hl; unfold km_sz; grind) d_Mo_faultOfSizes_254
                    · refine lv_lload hx hb d_Mo_faultOfSizes_169 (lv_at hl 0 rfl) ?_
                      refine lv_ldc2 (v := 256) hx hb hown (hts _ q2_79) d_Mo_faultOfSizes_171 ?_
                      refine kf_lc_eq (tgt := 199) hx hb d_Mo_faultOfSizes_174 d_Mo_faultOfSizes_175 (by decide) (fun c174 => ?_) (fun c174 => ?_)
                      · refine lv_aload_n hx hb d_Mo_faultOfSizes_199 rfl (lv_at hl 4 rfl) ?_
                        refine lv_bipush (v := 40) hx hb d_Mo_faultOfSizes_200 (by decide) ?_
                        refine lv_iconst (v := 4) hx hb d_Mo_faultOfSizes_202 (by decide) ?_
                        refine kf_ro hP hD hS hA [0] rfl (va_runS (As := [.ref h1, .int 40, .int 4]) (rest := []) ⟨hx, hb, hml, hown, hts⟩ (c_Mo_field l D cB cI _ h1 f hf 40 4 (by decide)) ⟨callB_of 3 hts g_Mo_field rfl rfl rfl (hts _ q1_5) (hts _ q2_76) h_Mo_field ⟨Nat.le_of_ble_eq_true rfl, Nat.le_of_ble_eq_true rfl⟩, (hts _ q2_77)⟩ ⟨kf_bl, kf_to hP hD hS hA hE [0] rfl rfl⟩ rfl rfl hl.1 rfl (lv_room (Nat.le_of_ble_eq_true rfl)) d_Mo_faultOfSizes_203 ⟨Nat.zero_le _, Nat.zero_le _⟩) (fun H locs hP hS => ?_)
                        refine W.eq (g2 := F0 m 206 ls [.long (lN (ky_le f 40 4))]) rfl ?_
                        refine lv_lstore (lv' := [(9, .long (lN (ky_le f 40 4))), (7, .long (lN (ky_le f 88 2))), (5, .long (lN (ky_le f 32 4))), (3, .long (kv_size f)), (1, .long (lN (ky_le f 24 4))), (0, .ref h1)]) hx hb d_Mo_faultOfSizes_206 hl (by decide) rfl (fun ls hl => ?_)
                        refine lv_lload hx hb d_Mo_faultOfSizes_208 (lv_at hl 0 rfl) ?_
                        refine lv_ldc2 (v := 16) hx hb hown (hts _ q2_100) d_Mo_faultOfSizes_210 ?_
                        refine lv_ldc2 (v := 8) hx hb hown (hts _ q2_72) d_Mo_faultOfSizes_213 ?_
                        refine lv_lload_n hx hb d_Mo_faultOfSizes_216 rfl (lv_at hl 3 rfl) ?_
                        refine lv_lmul hx hb d_Mo_faultOfSizes_217 ?_
                        refine kf_ro hP hD hS hA [] rfl (va_runS (As := [.long (lN (ky_le f 40 4)), .long 16, .long (8 * (kv_size f))]) (rest := []) ⟨hx, hb, hml, hown, hts⟩ (c_Mo_isIn l D cB cI _ (lN (ky_le f 40 4)) 16 (8 * (kv_size f))) ⟨callB_of 3 hts g_Mo_isIn rfl rfl rfl (hts _ q1_5) (hts _ q2_95) h_Mo_isIn ⟨Nat.le_of_ble_eq_true rfl, Nat.le_of_ble_eq_true rfl⟩, (hts _ q2_96)⟩ ⟨kf_bl, kf_to hP hD hS hA hE [] rfl rfl⟩ rfl rfl hl.1 rfl (lv_room (Nat.le_of_ble_eq_true rfl)) d_Mo_faultOfSizes_218 ⟨Nat.zero_le _, Nat.zero_le _⟩) (fun H locs hP hS => ?_)
                        refine W.eq (g2 := F0 m 221 ls [.int (kP (km_inP (lN (ky_le f 40 4)) 16 (8 * (kv_size f))))]) rfl ?_
                        refine lv_if_eq (tgt := 252) hx hb d_Mo_faultOfSizes_221 (by decide) (fun c221 => ?_) (fun c221 => ?_)
                        · refine lv_bipush (v := 40) hx hb d_Mo_faultOfSizes_252 (by decide) ?_
                          have hc118 := by first | exact kP_ne c118 | exact kP_eq c118
                          have hc221 := by first | exact kP_ne c221 | exact kP_eq c221
                          exact kf_ir hx hb hr hlocks hP hD hS (by clear hP hD hS hA hE hts hl; unfold km_sz; grind) d_Mo_faultOfSizes_254
                        · refine lv_lload hx hb d_Mo_faultOfSizes_224 (lv_at hl 0 rfl) ?_
                          refine lv_ldc2 (v := 8) hx hb hown (hts _ q2_72) d_Mo_faultOfSizes_226 ?_
                          refine lv_lrem hx hb d_Mo_faultOfSizes_229 (by decide) ?_
                          refine lv_lconst (v := 0) hx hb d_Mo_faultOfSizes_230 (by decide) ?_
                          refine kf_lc_ne (tgt := 252) hx hb d_Mo_faultOfSizes_231 d_Mo_faultOfSizes_232 (by decide) (fun c231 => ?_) (fun c231 => ?_)
                          · refine lv_bipush (v := 40) hx hb d_Mo_faultOfSizes_252 (by decide) ?_
                            have hc118 := by first | exact kP_ne c118 | exact kP_eq c118
                            have hc221 := by first | exact kP_ne c221 | exact kP_eq c221
                            exact kf_ir hx hb hr hlocks hP hD hS (by clear hP hD hS hA hE hts hl; unfold km_sz; grind) d_Mo_faultOfSizes_254
                          · refine lv_lload hx hb d_Mo_faultOfSizes_235 (lv_at hl 0 rfl) ?_
                            refine lv_lload hx hb d_Mo_faultOfSizes_237 (lv_at hl 1 rfl) ?_
                            refine lv_lmul hx hb d_Mo_faultOfSizes_239 ?_
                            refine lv_lload_n hx hb d_Mo_faultOfSizes_240 rfl (lv_at hl 3 rfl) ?_
                            refine lv_lrem hx hb d_Mo_faultOfSizes_241 (km_ne0 (km_size1 c44)) ?_
                            refine lv_lconst (v := 0) hx hb d_Mo_faultOfSizes_242 (by decide) ?_
                            refine kf_lc_ne (tgt := 252) hx hb d_Mo_faultOfSizes_243 d_Mo_faultOfSizes_244 (by decide) (fun c243 => ?_) (fun c243 => ?_)
                            · refine lv_bipush (v := 40) hx hb d_Mo_faultOfSizes_252 (by decide) ?_
                              have hc118 := by first | exact kP_ne c118 | exact kP_eq c118
                              have hc221 := by first | exact kP_ne c221 | exact kP_eq c221
                              exact kf_ir hx hb hr hlocks hP hD hS (by clear hP hD hS hA hE hts hl; unfold km_sz; grind) d_Mo_faultOfSizes_254
                            · refine lv_bipush (v := -2) hx hb d_Mo_faultOfSizes_247 (by decide) ?_
                              refine lv_goto (tgt := 254) hx hb d_Mo_faultOfSizes_249 (by decide) ?_
                              have hc118 := by first | exact kP_ne c118 | exact kP_eq c118
                              have hc221 := by first | exact kP_ne c221 | exact kP_eq c221
                              exact kf_ir hx hb hr hlocks hP hD hS (by clear hP hD hS hA hE hts hl; unfold km_sz; grind) d_Mo_faultOfSizes_254
                      · refine lv_lload hx hb d_Mo_faultOfSizes_178 (lv_at hl 0 rfl) ?_
                        refine lv_ldc2 (v := 512) hx hb hown (hts _ q2_99) d_Mo_faultOfSizes_180 ?_
                        refine kf_lc_eq (tgt := 199) hx hb d_Mo_faultOfSizes_183 d_Mo_faultOfSizes_184 (by decide) (fun c183 => ?_) (fun c183 => ?_)
                        · refine lv_aload_n hx hb d_Mo_faultOfSizes_199 rfl (lv_at hl 4 rfl) ?_
                          refine lv_bipush (v := 40) hx hb d_Mo_faultOfSizes_200 (by decide) ?_
                          refine lv_iconst (v := 4) hx hb d_Mo_faultOfSizes_202 (by decide) ?_
                          refine kf_ro hP hD hS hA [0] rfl (va_runS (As := [.ref h1, .int 40, .int 4]) (rest := []) ⟨hx, hb, hml, hown, hts⟩ (c_Mo_field l D cB cI _ h1 f hf 40 4 (by decide)) ⟨callB_of 3 hts g_Mo_field rfl rfl rfl (hts _ q1_5) (hts _ q2_76) h_Mo_field ⟨Nat.le_of_ble_eq_true rfl, Nat.le_of_ble_eq_true rfl⟩, (hts _ q2_77)⟩ ⟨kf_bl, kf_to hP hD hS hA hE [0] rfl rfl⟩ rfl rfl hl.1 rfl (lv_room (Nat.le_of_ble_eq_true rfl)) d_Mo_faultOfSizes_203 ⟨Nat.zero_le _, Nat.zero_le _⟩) (fun H locs hP hS => ?_)
                          refine W.eq (g2 := F0 m 206 ls [.long (lN (ky_le f 40 4))]) rfl ?_
                          refine lv_lstore (lv' := [(9, .long (lN (ky_le f 40 4))), (7, .long (lN (ky_le f 88 2))), (5, .long (lN (ky_le f 32 4))), (3, .long (kv_size f)), (1, .long (lN (ky_le f 24 4))), (0, .ref h1)]) hx hb d_Mo_faultOfSizes_206 hl (by decide) rfl (fun ls hl => ?_)
                          refine lv_lload hx hb d_Mo_faultOfSizes_208 (lv_at hl 0 rfl) ?_
                          refine lv_ldc2 (v := 16) hx hb hown (hts _ q2_100) d_Mo_faultOfSizes_210 ?_
                          refine lv_ldc2 (v := 8) hx hb hown (hts _ q2_72) d_Mo_faultOfSizes_213 ?_
                          refine lv_lload_n hx hb d_Mo_faultOfSizes_216 rfl (lv_at hl 3 rfl) ?_
                          refine lv_lmul hx hb d_Mo_faultOfSizes_217 ?_
                          refine kf_ro hP hD hS hA [] rfl (va_runS (As := [.long (lN (ky_le f 40 4)), .long 16, .long (8 * (kv_size f))]) (rest := []) ⟨hx, hb, hml, hown, hts⟩ (c_Mo_isIn l D cB cI _ (lN (ky_le f 40 4)) 16 (8 * (kv_size f))) ⟨callB_of 3 hts g_Mo_isIn rfl rfl rfl (hts _ q1_5) (hts _ q2_95) h_Mo_isIn ⟨Nat.le_of_ble_eq_true rfl, Nat.le_of_ble_eq_true rfl⟩, (hts _ q2_96)⟩ ⟨kf_bl, kf_to hP hD hS hA hE [] rfl rfl⟩ rfl rfl hl.1 rfl (lv_room (Nat.le_of_ble_eq_true rfl)) d_Mo_faultOfSizes_218 ⟨Nat.zero_le _, Nat.zero_le _⟩) (fun H locs hP hS => ?_)
                          refine W.eq (g2 := F0 m 221 ls [.int (kP (km_inP (lN (ky_le f 40 4)) 16 (8 * (kv_size f))))]) rfl ?_
                          refine lv_if_eq (tgt := 252) hx hb d_Mo_faultOfSizes_221 (by decide) (fun c221 => ?_) (fun c221 => ?_)
                          · refine lv_bipush (v := 40) hx hb d_Mo_faultOfSizes_252 (by decide) ?_
                            have hc118 := by first | exact kP_ne c118 | exact kP_eq c118
                            have hc221 := by first | exact kP_ne c221 | exact kP_eq c221
                            exact kf_ir hx hb hr hlocks hP hD hS (by clear hP hD hS hA hE hts hl; unfold km_sz; grind) d_Mo_faultOfSizes_254
                          · refine lv_lload hx hb d_Mo_faultOfSizes_224 (lv_at hl 0 rfl) ?_
                            refine lv_ldc2 (v := 8) hx hb hown (hts _ q2_72) d_Mo_faultOfSizes_226 ?_
                            refine lv_lrem hx hb d_Mo_faultOfSizes_229 (by decide) ?_
                            refine lv_lconst (v := 0) hx hb d_Mo_faultOfSizes_230 (by decide) ?_
                            refine kf_lc_ne (tgt := 252) hx hb d_Mo_faultOfSizes_231 d_Mo_faultOfSizes_232 (by decide) (fun c231 => ?_) (fun c231 => ?_)
                            · refine lv_bipush (v := 40) hx hb d_Mo_faultOfSizes_252 (by decide) ?_
                              have hc118 := by first | exact kP_ne c118 | exact kP_eq c118
                              have hc221 := by first | exact kP_ne c221 | exact kP_eq c221
                              exact kf_ir hx hb hr hlocks hP hD hS (by clear hP hD hS hA hE hts hl; unfold km_sz; grind) d_Mo_faultOfSizes_254
                            · refine lv_lload hx hb d_Mo_faultOfSizes_235 (lv_at hl 0 rfl) ?_
                              refine lv_lload hx hb d_Mo_faultOfSizes_237 (lv_at hl 1 rfl) ?_
                              refine lv_lmul hx hb d_Mo_faultOfSizes_239 ?_
                              refine lv_lload_n hx hb d_Mo_faultOfSizes_240 rfl (lv_at hl 3 rfl) ?_
                              refine lv_lrem hx hb d_Mo_faultOfSizes_241 (km_ne0 (km_size1 c44)) ?_
                              refine lv_lconst (v := 0) hx hb d_Mo_faultOfSizes_242 (by decide) ?_
                              refine kf_lc_ne (tgt := 252) hx hb d_Mo_faultOfSizes_243 d_Mo_faultOfSizes_244 (by decide) (fun c243 => ?_) (fun c243 => ?_)
                              · refine lv_bipush (v := 40) hx hb d_Mo_faultOfSizes_252 (by decide) ?_
                                have hc118 := by first | exact kP_ne c118 | exact kP_eq c118
                                have hc221 := by first | exact kP_ne c221 | exact kP_eq c221
                                exact kf_ir hx hb hr hlocks hP hD hS (by clear hP hD hS hA hE hts hl; unfold km_sz; grind) d_Mo_faultOfSizes_254
                              · refine lv_bipush (v := -2) hx hb d_Mo_faultOfSizes_247 (by decide) ?_
                                refine lv_goto (tgt := 254) hx hb d_Mo_faultOfSizes_249 (by decide) ?_
                                have hc118 := by first | exact kP_ne c118 | exact kP_eq c118
                                have hc221 := by first | exact kP_ne c221 | exact kP_eq c221
                                exact kf_ir hx hb hr hlocks hP hD hS (by clear hP hD hS hA hE hts hl; unfold km_sz; grind) d_Mo_faultOfSizes_254
                        · refine lv_lload hx hb d_Mo_faultOfSizes_187 (lv_at hl 0 rfl) ?_
                          refine lv_ldc2 (v := 1024) hx hb hown (hts _ q2_93) d_Mo_faultOfSizes_189 ?_
                          refine kf_lc_eq (tgt := 199) hx hb d_Mo_faultOfSizes_192 d_Mo_faultOfSizes_193 (by decide) (fun c192 => ?_) (fun c192 => ?_)
                          · refine lv_aload_n hx hb d_Mo_faultOfSizes_199 rfl (lv_at hl 4 rfl) ?_
                            refine lv_bipush (v := 40) hx hb d_Mo_faultOfSizes_200 (by decide) ?_
                            refine lv_iconst (v := 4) hx hb d_Mo_faultOfSizes_202 (by decide) ?_
                            refine kf_ro hP hD hS hA [0] rfl (va_runS (As := [.ref h1, .int 40, .int 4]) (rest := []) ⟨hx, hb, hml, hown, hts⟩ (c_Mo_field l D cB cI _ h1 f hf 40 4 (by decide)) ⟨callB_of 3 hts g_Mo_field rfl rfl rfl (hts _ q1_5) (hts _ q2_76) h_Mo_field ⟨Nat.le_of_ble_eq_true rfl, Nat.le_of_ble_eq_true rfl⟩, (hts _ q2_77)⟩ ⟨kf_bl, kf_to hP hD hS hA hE [0] rfl rfl⟩ rfl rfl hl.1 rfl (lv_room (Nat.le_of_ble_eq_true rfl)) d_Mo_faultOfSizes_203 ⟨Nat.zero_le _, Nat.zero_le _⟩) (fun H locs hP hS => ?_)
                            refine W.eq (g2 := F0 m 206 ls [.long (lN (ky_le f 40 4))]) rfl ?_
                            refine lv_lstore (lv' := [(9, .long (lN (ky_le f 40 4))), (7, .long (lN (ky_le f 88 2))), (5, .long (lN (ky_le f 32 4))), (3, .long (kv_size f)), (1, .long (lN (ky_le f 24 4))), (0, .ref h1)]) hx hb d_Mo_faultOfSizes_206 hl (by decide) rfl (fun ls hl => ?_)
                            refine lv_lload hx hb d_Mo_faultOfSizes_208 (lv_at hl 0 rfl) ?_
                            refine lv_ldc2 (v := 16) hx hb hown (hts _ q2_100) d_Mo_faultOfSizes_210 ?_
                            refine lv_ldc2 (v := 8) hx hb hown (hts _ q2_72) d_Mo_faultOfSizes_213 ?_
                            refine lv_lload_n hx hb d_Mo_faultOfSizes_216 rfl (lv_at hl 3 rfl) ?_
                            refine lv_lmul hx hb d_Mo_faultOfSizes_217 ?_
                            refine kf_ro hP hD hS hA [] rfl (va_runS (As := [.long (lN (ky_le f 40 4)), .long 16, .long (8 * (kv_size f))]) (rest := []) ⟨hx, hb, hml, hown, hts⟩ (c_Mo_isIn l D cB cI _ (lN (ky_le f 40 4)) 16 (8 * (kv_size f))) ⟨callB_of 3 hts g_Mo_isIn rfl rfl rfl (hts _ q1_5) (hts _ q2_95) h_Mo_isIn ⟨Nat.le_of_ble_eq_true rfl, Nat.le_of_ble_eq_true rfl⟩, (hts _ q2_96)⟩ ⟨kf_bl, kf_to hP hD hS hA hE [] rfl rfl⟩ rfl rfl hl.1 rfl (lv_room (Nat.le_of_ble_eq_true rfl)) d_Mo_faultOfSizes_218 ⟨Nat.zero_le _, Nat.zero_le _⟩) (fun H locs hP hS => ?_)
                            refine W.eq (g2 := F0 m 221 ls [.int (kP (km_inP (lN (ky_le f 40 4)) 16 (8 * (kv_size f))))]) rfl ?_
                            refine lv_if_eq (tgt := 252) hx hb d_Mo_faultOfSizes_221 (by decide) (fun c221 => ?_) (fun c221 => ?_)
                            · refine lv_bipush (v := 40) hx hb d_Mo_faultOfSizes_252 (by decide) ?_
                              have hc118 := by first | exact kP_ne c118 | exact kP_eq c118
                              have hc221 := by first | exact kP_ne c221 | exact kP_eq c221
                              exact kf_ir hx hb hr hlocks hP hD hS (by clear hP hD hS hA hE hts hl; unfold km_sz; grind) d_Mo_faultOfSizes_254
                            · refine lv_lload hx hb d_Mo_faultOfSizes_224 (lv_at hl 0 rfl) ?_
                              refine lv_ldc2 (v := 8) hx hb hown (hts _ q2_72) d_Mo_faultOfSizes_226 ?_
                              refine lv_lrem hx hb d_Mo_faultOfSizes_229 (by decide) ?_
                              refine lv_lconst (v := 0) hx hb d_Mo_faultOfSizes_230 (by decide) ?_
                              refine kf_lc_ne (tgt := 252) hx hb d_Mo_faultOfSizes_231 d_Mo_faultOfSizes_232 (by decide) (fun c231 => ?_) (fun c231 => ?_)
                              · refine lv_bipush (v := 40) hx hb d_Mo_faultOfSizes_252 (by decide) ?_
                                have hc118 := by first | exact kP_ne c118 | exact kP_eq c118
                                have hc221 := by first | exact kP_ne c221 | exact kP_eq c221
                                exact kf_ir hx hb hr hlocks hP hD hS (by clear hP hD hS hA hE hts hl; unfold km_sz; grind) d_Mo_faultOfSizes_254
                              · refine lv_lload hx hb d_Mo_faultOfSizes_235 (lv_at hl 0 rfl) ?_
                                refine lv_lload hx hb d_Mo_faultOfSizes_237 (lv_at hl 1 rfl) ?_
                                refine lv_lmul hx hb d_Mo_faultOfSizes_239 ?_
                                refine lv_lload_n hx hb d_Mo_faultOfSizes_240 rfl (lv_at hl 3 rfl) ?_
                                refine lv_lrem hx hb d_Mo_faultOfSizes_241 (km_ne0 (km_size1 c44)) ?_
                                refine lv_lconst (v := 0) hx hb d_Mo_faultOfSizes_242 (by decide) ?_
                                refine kf_lc_ne (tgt := 252) hx hb d_Mo_faultOfSizes_243 d_Mo_faultOfSizes_244 (by decide) (fun c243 => ?_) (fun c243 => ?_)
                                · refine lv_bipush (v := 40) hx hb d_Mo_faultOfSizes_252 (by decide) ?_
                                  have hc118 := by first | exact kP_ne c118 | exact kP_eq c118
                                  have hc221 := by first | exact kP_ne c221 | exact kP_eq c221
                                  exact kf_ir hx hb hr hlocks hP hD hS (by clear hP hD hS hA hE hts hl; unfold km_sz; grind) d_Mo_faultOfSizes_254
                                · refine lv_bipush (v := -2) hx hb d_Mo_faultOfSizes_247 (by decide) ?_
                                  refine lv_goto (tgt := 254) hx hb d_Mo_faultOfSizes_249 (by decide) ?_
                                  have hc118 := by first | exact kP_ne c118 | exact kP_eq c118
                                  have hc221 := by first | exact kP_ne c221 | exact kP_eq c221
                                  exact kf_ir hx hb hr hlocks hP hD hS (by clear hP hD hS hA hE hts hl; unfold km_sz; grind) d_Mo_faultOfSizes_254
                          · refine lv_bipush (v := 88) hx hb d_Mo_faultOfSizes_196 (by decide) ?_
                            have hc118 := by first | exact kP_ne c118 | exact kP_eq c118
                            exact kf_ir hx hb hr hlocks hP hD hS (by clear hP hD hS hA hE hts hl; unfold km_sz; grind) d_Mo_faultOfSizes_198
                  · refine lv_bipush (v := 36) hx hb d_Mo_faultOfSizes_148 (by decide) ?_
                    have hc118 := by first | exact kP_ne c118 | exact kP_eq c118
                    exact kf_ir hx hb hr hlocks hP hD hS (by clear hP hD hS hA hE hts hl; unfold km_sz; grind) d_Mo_faultOfSizes_150
                · refine lv_bipush (v := 32) hx hb d_Mo_faultOfSizes_132 (by decide) ?_
                  have hc118 := by first | exact kP_ne c118 | exact kP_eq c118
                  exact kf_ir hx hb hr hlocks hP hD hS (by clear hP hD hS hA hE hts hl; unfold km_sz; grind) d_Mo_faultOfSizes_134
            · refine lv_bipush (v := 20) hx hb d_Mo_faultOfSizes_88 (by decide) ?_
              exact kf_ir hx hb hr hlocks hP hD hS (by clear hP hD hS hA hE hts hl; unfold km_sz; grind) d_Mo_faultOfSizes_90
          · refine lv_lconst (v := 1) hx hb d_Mo_faultOfSizes_79 (by decide) ?_
            refine lv_goto (tgt := 84) hx hb d_Mo_faultOfSizes_80 (by decide) ?_
            refine kf_lc_eq (tgt := 91) hx hb d_Mo_faultOfSizes_84 d_Mo_faultOfSizes_85 (by decide) (fun c84 => ?_) (fun c84 => ?_)
            · refine lv_aload_n hx hb d_Mo_faultOfSizes_91 rfl (lv_at hl 1 rfl) ?_
              refine kf_ro hP hD hS hA [0] rfl (va_runS (As := [.ref h1]) (rest := []) ⟨hx, hb, hml, hown, hts⟩ (c_Mo_sizeOf l D cB cI _ h1 f hf  ) ⟨callB_of 1 hts g_Mo_sizeOf rfl rfl rfl (hts _ q1_5) (hts _ q2_90) h_Mo_sizeOf ⟨Nat.le_of_ble_eq_true rfl, Nat.le_of_ble_eq_true rfl⟩, (hts _ q2_91)⟩ ⟨kf_bl, kf_to hP hD hS hA hE [0] rfl rfl⟩ rfl rfl hl.1 rfl (lv_room (Nat.le_of_ble_eq_true rfl)) d_Mo_faultOfSizes_92 ⟨Nat.zero_le _, Nat.zero_le _⟩) (fun H locs hP hS => ?_)
              refine W.eq (g2 := F0 m 95 ls [.long (kv_size f)]) rfl ?_
              refine lv_lstore_n (lv' := [(3, .long (kv_size f)), (1, .long (lN (ky_le f 24 4))), (0, .ref h1)]) hx hb d_Mo_faultOfSizes_95 rfl hl (by decide) rfl (fun ls hl => ?_)
              refine lv_aload_n hx hb d_Mo_faultOfSizes_96 rfl (lv_at hl 2 rfl) ?_
              refine lv_bipush (v := 32) hx hb d_Mo_faultOfSizes_97 (by decide) ?_
              refine lv_iconst (v := 4) hx hb d_Mo_faultOfSizes_99 (by decide) ?_
              refine kf_ro hP hD hS hA [0] rfl (va_runS (As := [.ref h1, .int 32, .int 4]) (rest := []) ⟨hx, hb, hml, hown, hts⟩ (c_Mo_field l D cB cI _ h1 f hf 32 4 (by decide)) ⟨callB_of 3 hts g_Mo_field rfl rfl rfl (hts _ q1_5) (hts _ q2_76) h_Mo_field ⟨Nat.le_of_ble_eq_true rfl, Nat.le_of_ble_eq_true rfl⟩, (hts _ q2_77)⟩ ⟨kf_bl, kf_to hP hD hS hA hE [0] rfl rfl⟩ rfl rfl hl.1 rfl (lv_room (Nat.le_of_ble_eq_true rfl)) d_Mo_faultOfSizes_100 ⟨Nat.zero_le _, Nat.zero_le _⟩) (fun H locs hP hS => ?_)
              refine W.eq (g2 := F0 m 103 ls [.long (lN (ky_le f 32 4))]) rfl ?_
              refine lv_lstore (lv' := [(5, .long (lN (ky_le f 32 4))), (3, .long (kv_size f)), (1, .long (lN (ky_le f 24 4))), (0, .ref h1)]) hx hb d_Mo_faultOfSizes_103 hl (by decide) rfl (fun ls hl => ?_)
              refine lv_lload hx hb d_Mo_faultOfSizes_105 (lv_at hl 0 rfl) ?_
              refine lv_ldc2 (v := 64) hx hb hown (hts _ q2_94) d_Mo_faultOfSizes_107 ?_
              refine lv_ldc2 (v := 8) hx hb hown (hts _ q2_72) d_Mo_faultOfSizes_110 ?_
              refine lv_lload_n hx hb d_Mo_faultOfSizes_113 rfl (lv_at hl 1 rfl) ?_
              refine lv_lmul hx hb d_Mo_faultOfSizes_114 ?_
              refine kf_ro hP hD hS hA [] rfl (va_runS (As := [.long (lN (ky_le f 32 4)), .long 64, .long (8 * (kv_size f))]) (rest := []) ⟨hx, hb, hml, hown, hts⟩ (c_Mo_isIn l D cB cI _ (lN (ky_le f 32 4)) 64 (8 * (kv_size f))) ⟨callB_of 3 hts g_Mo_isIn rfl rfl rfl (hts _ q1_5) (hts _ q2_95) h_Mo_isIn ⟨Nat.le_of_ble_eq_true rfl, Nat.le_of_ble_eq_true rfl⟩, (hts _ q2_96)⟩ ⟨kf_bl, kf_to hP hD hS hA hE [] rfl rfl⟩ rfl rfl hl.1 rfl (lv_room (Nat.le_of_ble_eq_true rfl)) d_Mo_faultOfSizes_115 ⟨Nat.zero_le _, Nat.zero_le _⟩) (fun H locs hP hS => ?_)
              refine W.eq (g2 := F0 m 118 ls [.int (kP (km_inP (lN (ky_le f 32 4)) 64 (8 * (kv_size f))))]) rfl ?_
              refine lv_if_eq (tgt := 132) hx hb d_Mo_faultOfSizes_118 (by decide) (fun c118 => ?_) (fun c118 => ?_)
              · refine lv_bipush (v := 32) hx hb d_Mo_faultOfSizes_132 (by decide) ?_
                have hc118 := by first | exact kP_ne c118 | exact kP_eq c118
                exact kf_ir hx hb hr hlocks hP hD hS (by clear hP hD hS hA hE hts hl; unfold km_sz; grind) d_Mo_faultOfSizes_134
              · refine lv_lload hx hb d_Mo_faultOfSizes_121 (lv_at hl 0 rfl) ?_
                refine lv_ldc2 (v := 8) hx hb hown (hts _ q2_72) d_Mo_faultOfSizes_123 ?_
                refine lv_lrem hx hb d_Mo_faultOfSizes_126 (by decide) ?_
                refine lv_lconst (v := 0) hx hb d_Mo_faultOfSizes_127 (by decide) ?_
                refine kf_lc_eq (tgt := 135) hx hb d_Mo_faultOfSizes_128 d_Mo_faultOfSizes_129 (by decide) (fun c128 => ?_) (fun c128 => ?_)
                · refine lv_aload_n hx hb d_Mo_faultOfSizes_135 rfl (lv_at hl 3 rfl) ?_
                  refine lv_bipush (v := 36) hx hb d_Mo_faultOfSizes_136 (by decide) ?_
                  refine lv_iconst (v := 4) hx hb d_Mo_faultOfSizes_138 (by decide) ?_
                  refine kf_ro hP hD hS hA [0] rfl (va_runS (As := [.ref h1, .int 36, .int 4]) (rest := []) ⟨hx, hb, hml, hown, hts⟩ (c_Mo_field l D cB cI _ h1 f hf 36 4 (by decide)) ⟨callB_of 3 hts g_Mo_field rfl rfl rfl (hts _ q1_5) (hts _ q2_76) h_Mo_field ⟨Nat.le_of_ble_eq_true rfl, Nat.le_of_ble_eq_true rfl⟩, (hts _ q2_77)⟩ ⟨kf_bl, kf_to hP hD hS hA hE [0] rfl rfl⟩ rfl rfl hl.1 rfl (lv_room (Nat.le_of_ble_eq_true rfl)) d_Mo_faultOfSizes_139 ⟨Nat.zero_le _, Nat.zero_le _⟩) (fun H locs hP hS => ?_)
                  refine W.eq (g2 := F0 m 142 ls [.long (lN (ky_le f 36 4))]) rfl ?_
                  refine lv_lload hx hb d_Mo_faultOfSizes_142 (lv_at hl 0 rfl) ?_
                  refine kf_lc_eq (tgt := 151) hx hb d_Mo_faultOfSizes_144 d_Mo_faultOfSizes_145 (by decide) (fun c144 => ?_) (fun c144 => ?_)
                  · refine lv_aload_n hx hb d_Mo_faultOfSizes_151 rfl (lv_at hl 3 rfl) ?_
                    refine lv_bipush (v := 88) hx hb d_Mo_faultOfSizes_152 (by decide) ?_
                    refine lv_iconst (v := 2) hx hb d_Mo_faultOfSizes_154 (by decide) ?_
                    refine kf_ro hP hD hS hA [0] rfl (va_runS (As := [.ref h1, .int 88, .int 2]) (rest := []) ⟨hx, hb, hml, hown, hts⟩ (c_Mo_field l D cB cI _ h1 f hf 88 2 (by decide)) ⟨callB_of 3 hts g_Mo_field rfl rfl rfl (hts _ q1_5) (hts _ q2_76) h_Mo_field ⟨Nat.le_of_ble_eq_true rfl, Nat.le_of_ble_eq_true rfl⟩, (hts _ q2_77)⟩ ⟨kf_bl, kf_to hP hD hS hA hE [0] rfl rfl⟩ rfl rfl hl.1 rfl (lv_room (Nat.le_of_ble_eq_true rfl)) d_Mo_faultOfSizes_155 ⟨Nat.zero_le _, Nat.zero_le _⟩) (fun H locs hP hS => ?_)
                    refine W.eq (g2 := F0 m 158 ls [.long (lN (ky_le f 88 2))]) rfl ?_
                    refine lv_lstore (lv' := [(7, .long (lN (ky_le f 88 2))), (5, .long (lN (ky_le f 32 4))), (3, .long (kv_size f)), (1, .long (lN (ky_le f 24 4))), (0, .ref h1)]) hx hb d_Mo_faultOfSizes_158 hl (by decide) rfl (fun ls hl => ?_)
                    refine lv_lload hx hb d_Mo_faultOfSizes_160 (lv_at hl 0 rfl) ?_
                    refine lv_ldc2 (v := 128) hx hb hown (hts _ q2_98) d_Mo_faultOfSizes_162 ?_
                    refine kf_lc_eq (tgt := 199) hx hb d_Mo_faultOfSizes_165 d_Mo_faultOfSizes_166 (by decide) (fun c165 => ?_) (fun c165 => ?_)
                    · refine lv_aload_n hx hb d_Mo_faultOfSizes_199 rfl (lv_at hl 4 rfl) ?_
                      refine lv_bipush (v := 40) hx hb d_Mo_faultOfSizes_200 (by decide) ?_
                      refine lv_iconst (v := 4) hx hb d_Mo_faultOfSizes_202 (by decide) ?_
                      refine kf_ro hP hD hS hA [0] rfl (va_runS (As := [.ref h1, .int 40, .int 4]) (rest := []) ⟨hx, hb, hml, hown, hts⟩ (c_Mo_field l D cB cI _ h1 f hf 40 4 (by decide)) ⟨callB_of 3 hts g_Mo_field rfl rfl rfl (hts _ q1_5) (hts _ q2_76) h_Mo_field ⟨Nat.le_of_ble_eq_true rfl, Nat.le_of_ble_eq_true rfl⟩, (hts _ q2_77)⟩ ⟨kf_bl, kf_to hP hD hS hA hE [0] rfl rfl⟩ rfl rfl hl.1 rfl (lv_room (Nat.le_of_ble_eq_true rfl)) d_Mo_faultOfSizes_203 ⟨Nat.zero_le _, Nat.zero_le _⟩) (fun H locs hP hS => ?_)
                      refine W.eq (g2 := F0 m 206 ls [.long (lN (ky_le f 40 4))]) rfl ?_
                      refine lv_lstore (lv' := [(9, .long (lN (ky_le f 40 4))), (7, .long (lN (ky_le f 88 2))), (5, .long (lN (ky_le f 32 4))), (3, .long (kv_size f)), (1, .long (lN (ky_le f 24 4))), (0, .ref h1)]) hx hb d_Mo_faultOfSizes_206 hl (by decide) rfl (fun ls hl => ?_)
                      refine lv_lload hx hb d_Mo_faultOfSizes_208 (lv_at hl 0 rfl) ?_
                      refine lv_ldc2 (v := 16) hx hb hown (hts _ q2_100) d_Mo_faultOfSizes_210 ?_
                      refine lv_ldc2 (v := 8) hx hb hown (hts _ q2_72) d_Mo_faultOfSizes_213 ?_
                      refine lv_lload_n hx hb d_Mo_faultOfSizes_216 rfl (lv_at hl 3 rfl) ?_
                      refine lv_lmul hx hb d_Mo_faultOfSizes_217 ?_
                      refine kf_ro hP hD hS hA [] rfl (va_runS (As := [.long (lN (ky_le f 40 4)), .long 16, .long (8 * (kv_size f))]) (rest := []) ⟨hx, hb, hml, hown, hts⟩ (c_Mo_isIn l D cB cI _ (lN (ky_le f 40 4)) 16 (8 * (kv_size f))) ⟨callB_of 3 hts g_Mo_isIn rfl rfl rfl (hts _ q1_5) (hts _ q2_95) h_Mo_isIn ⟨Nat.le_of_ble_eq_true rfl, Nat.le_of_ble_eq_true rfl⟩, (hts _ q2_96)⟩ ⟨kf_bl, kf_to hP hD hS hA hE [] rfl rfl⟩ rfl rfl hl.1 rfl (lv_room (Nat.le_of_ble_eq_true rfl)) d_Mo_faultOfSizes_218 ⟨Nat.zero_le _, Nat.zero_le _⟩) (fun H locs hP hS => ?_)
                      refine W.eq (g2 := F0 m 221 ls [.int (kP (km_inP (lN (ky_le f 40 4)) 16 (8 * (kv_size f))))]) rfl ?_
                      refine lv_if_eq (tgt := 252) hx hb d_Mo_faultOfSizes_221 (by decide) (fun c221 => ?_) (fun c221 => ?_)
                      · refine lv_bipush (v := 40) hx hb d_Mo_faultOfSizes_252 (by decide) ?_
                        have hc118 := by first | exact kP_ne c118 | exact kP_eq c118
                        have hc221 := by first | exact kP_ne c221 | exact kP_eq c221
                        exact kf_ir hx hb hr hlocks hP hD hS (by clear hP hD hS hA hE hts hl; unfold km_sz; grind) d_Mo_faultOfSizes_254
                      · refine lv_lload hx hb d_Mo_faultOfSizes_224 (lv_at hl 0 rfl) ?_
                        refine lv_ldc2 (v := 8) hx hb hown (hts _ q2_72) d_Mo_faultOfSizes_226 ?_
                        refine lv_lrem hx hb d_Mo_faultOfSizes_229 (by decide) ?_
                        refine lv_lconst (v := 0) hx hb d_Mo_faultOfSizes_230 (by decide) ?_
                        refine kf_lc_ne (tgt := 252) hx hb d_Mo_faultOfSizes_231 d_Mo_faultOfSizes_232 (by decide) (fun c231 => ?_) (fun c231 => ?_)
                        · refine lv_bipush (v := 40) hx hb d_Mo_faultOfSizes_252 (by decide) ?_
                          have hc118 := by first | exact kP_ne c118 | exact kP_eq c118
                          have hc221 := by first | exact kP_ne c221 | exact kP_eq c221
                          exact kf_ir hx hb hr hlocks hP hD hS (by clear hP hD hS hA hE hts hl; unfold km_sz; grind) d_Mo_faultOfSizes_254
                        · refine lv_lload hx hb d_Mo_faultOfSizes_235 (lv_at hl 0 rfl) ?_
                          refine lv_lload hx hb d_Mo_faultOfSizes_237 (lv_at hl 1 rfl) ?_
                          refine lv_lmul hx hb d_Mo_faultOfSizes_239 ?_
                          refine lv_lload_n hx hb d_Mo_faultOfSizes_240 rfl (lv_at hl 3 rfl) ?_
                          refine lv_lrem hx hb d_Mo_faultOfSizes_241 (km_ne0 (km_size1 c44)) ?_
                          refine lv_lconst (v := 0) hx hb d_Mo_faultOfSizes_242 (by decide) ?_
                          refine kf_lc_ne (tgt := 252) hx hb d_Mo_faultOfSizes_243 d_Mo_faultOfSizes_244 (by decide) (fun c243 => ?_) (fun c243 => ?_)
                          · refine lv_bipush (v := 40) hx hb d_Mo_faultOfSizes_252 (by decide) ?_
                            have hc118 := by first | exact kP_ne c118 | exact kP_eq c118
                            have hc221 := by first | exact kP_ne c221 | exact kP_eq c221
                            exact kf_ir hx hb hr hlocks hP hD hS (by clear hP hD hS hA hE hts hl; unfold km_sz; grind) d_Mo_faultOfSizes_254
                          · refine lv_bipush (v := -2) hx hb d_Mo_faultOfSizes_247 (by decide) ?_
                            refine lv_goto (tgt := 254) hx hb d_Mo_faultOfSizes_249 (by decide) ?_
                            have hc118 := by first | exact kP_ne c118 | exact kP_eq c118
                            have hc221 := by first | exact kP_ne c221 | exact kP_eq c221
                            exact kf_ir hx hb hr hlocks hP hD hS (by clear hP hD hS hA hE hts hl; unfold km_sz; grind) d_Mo_faultOfSizes_254
                    · refine lv_lload hx hb d_Mo_faultOfSizes_169 (lv_at hl 0 rfl) ?_
                      refine lv_ldc2 (v := 256) hx hb hown (hts _ q2_79) d_Mo_faultOfSizes_171 ?_
                      refine kf_lc_eq (tgt := 199) hx hb d_Mo_faultOfSizes_174 d_Mo_faultOfSizes_175 (by decide) (fun c174 => ?_) (fun c174 => ?_)
                      · refine lv_aload_n hx hb d_Mo_faultOfSizes_199 rfl (lv_at hl 4 rfl) ?_
                        refine lv_bipush (v := 40) hx hb d_Mo_faultOfSizes_200 (by decide) ?_
                        refine lv_iconst (v := 4) hx hb d_Mo_faultOfSizes_202 (by decide) ?_
                        refine kf_ro hP hD hS hA [0] rfl (va_runS (As := [.ref h1, .int 40, .int 4]) (rest := []) ⟨hx, hb, hml, hown, hts⟩ (c_Mo_field l D cB cI _ h1 f hf 40 4 (by decide)) ⟨callB_of 3 hts g_Mo_field rfl rfl rfl (hts _ q1_5) (hts _ q2_76) h_Mo_field ⟨Nat.le_of_ble_eq_true rfl, Nat.le_of_ble_eq_true rfl⟩, (hts _ q2_77)⟩ ⟨kf_bl, kf_to hP hD hS hA hE [0] rfl rfl⟩ rfl rfl hl.1 rfl (lv_room (Nat.le_of_ble_eq_true rfl)) d_Mo_faultOfSizes_203 ⟨Nat.zero_le _, Nat.zero_le _⟩) (fun H locs hP hS => ?_)
                        refine W.eq (g2 := F0 m 206 ls [.long (lN (ky_le f 40 4))]) rfl ?_
                        refine lv_lstore (lv' := [(9, .long (lN (ky_le f 40 4))), (7, .long (lN (ky_le f 88 2))), (5, .long (lN (ky_le f 32 4))), (3, .long (kv_size f)), (1, .long (lN (ky_le f 24 4))), (0, .ref h1)]) hx hb d_Mo_faultOfSizes_206 hl (by decide) rfl (fun ls hl => ?_)
                        refine lv_lload hx hb d_Mo_faultOfSizes_208 (lv_at hl 0 rfl) ?_
                        refine lv_ldc2 (v := 16) hx hb hown (hts _ q2_100) d_Mo_faultOfSizes_210 ?_
                        refine lv_ldc2 (v := 8) hx hb hown (hts _ q2_72) d_Mo_faultOfSizes_213 ?_
                        refine lv_lload_n hx hb d_Mo_faultOfSizes_216 rfl (lv_at hl 3 rfl) ?_
                        refine lv_lmul hx hb d_Mo_faultOfSizes_217 ?_
                        refine kf_ro hP hD hS hA [] rfl (va_runS (As := [.long (lN (ky_le f 40 4)), .long 16, .long (8 * (kv_size f))]) (rest := []) ⟨hx, hb, hml, hown, hts⟩ (c_Mo_isIn l D cB cI _ (lN (ky_le f 40 4)) 16 (8 * (kv_size f))) ⟨callB_of 3 hts g_Mo_isIn rfl rfl rfl (hts _ q1_5) (hts _ q2_95) h_Mo_isIn ⟨Nat.le_of_ble_eq_true rfl, Nat.le_of_ble_eq_true rfl⟩, (hts _ q2_96)⟩ ⟨kf_bl, kf_to hP hD hS hA hE [] rfl rfl⟩ rfl rfl hl.1 rfl (lv_room (Nat.le_of_ble_eq_true rfl)) d_Mo_faultOfSizes_218 ⟨Nat.zero_le _, Nat.zero_le _⟩) (fun H locs hP hS => ?_)
                        refine W.eq (g2 := F0 m 221 ls [.int (kP (km_inP (lN (ky_le f 40 4)) 16 (8 * (kv_size f))))]) rfl ?_
                        refine lv_if_eq (tgt := 252) hx hb d_Mo_faultOfSizes_221 (by decide) (fun c221 => ?_) (fun c221 => ?_)
                        · refine lv_bipush (v := 40) hx hb d_Mo_faultOfSizes_252 (by decide) ?_
                          have hc118 := by first | exact kP_ne c118 | exact kP_eq c118
                          have hc221 := by first | exact kP_ne c221 | exact kP_eq c221
                          exact kf_ir hx hb hr hlocks hP hD hS (by clear hP hD hS hA hE hts hl; unfold km_sz; grind) d_Mo_faultOfSizes_254
                        · refine lv_lload hx hb d_Mo_faultOfSizes_224 (lv_at hl 0 rfl) ?_
                          refine lv_ldc2 (v := 8) hx hb hown (hts _ q2_72) d_Mo_faultOfSizes_226 ?_
                          refine lv_lrem hx hb d_Mo_faultOfSizes_229 (by decide) ?_
                          refine lv_lconst (v := 0) hx hb d_Mo_faultOfSizes_230 (by decide) ?_
                          refine kf_lc_ne (tgt := 252) hx hb d_Mo_faultOfSizes_231 d_Mo_faultOfSizes_232 (by decide) (fun c231 => ?_) (fun c231 => ?_)
                          · refine lv_bipush (v := 40) hx hb d_Mo_faultOfSizes_252 (by decide) ?_
                            have hc118 := by first | exact kP_ne c118 | exact kP_eq c118
                            have hc221 := by first | exact kP_ne c221 | exact kP_eq c221
                            exact kf_ir hx hb hr hlocks hP hD hS (by clear hP hD hS hA hE hts hl; unfold km_sz; grind) d_Mo_faultOfSizes_254
                          · refine lv_lload hx hb d_Mo_faultOfSizes_235 (lv_at hl 0 rfl) ?_
                            refine lv_lload hx hb d_Mo_faultOfSizes_237 (lv_at hl 1 rfl) ?_
                            refine lv_lmul hx hb d_Mo_faultOfSizes_239 ?_
                            refine lv_lload_n hx hb d_Mo_faultOfSizes_240 rfl (lv_at hl 3 rfl) ?_
                            refine lv_lrem hx hb d_Mo_faultOfSizes_241 (km_ne0 (km_size1 c44)) ?_
                            refine lv_lconst (v := 0) hx hb d_Mo_faultOfSizes_242 (by decide) ?_
                            refine kf_lc_ne (tgt := 252) hx hb d_Mo_faultOfSizes_243 d_Mo_faultOfSizes_244 (by decide) (fun c243 => ?_) (fun c243 => ?_)
                            · refine lv_bipush (v := 40) hx hb d_Mo_faultOfSizes_252 (by decide) ?_
                              have hc118 := by first | exact kP_ne c118 | exact kP_eq c118
                              have hc221 := by first | exact kP_ne c221 | exact kP_eq c221
                              exact kf_ir hx hb hr hlocks hP hD hS (by clear hP hD hS hA hE hts hl; unfold km_sz; grind) d_Mo_faultOfSizes_254
                            · refine lv_bipush (v := -2) hx hb d_Mo_faultOfSizes_247 (by decide) ?_
                              refine lv_goto (tgt := 254) hx hb d_Mo_faultOfSizes_249 (by decide) ?_
                              have hc118 := by first | exact kP_ne c118 | exact kP_eq c118
                              have hc221 := by first | exact kP_ne c221 | exact kP_eq c221
                              exact kf_ir hx hb hr hlocks hP hD hS (by clear hP hD hS hA hE hts hl; unfold km_sz; grind) d_Mo_faultOfSizes_254
                      · refine lv_lload hx hb d_Mo_faultOfSizes_178 (lv_at hl 0 rfl) ?_
                        refine lv_ldc2 (v := 512) hx hb hown (hts _ q2_99) d_Mo_faultOfSizes_180 ?_
                        refine kf_lc_eq (tgt := 199) hx hb d_Mo_faultOfSizes_183 d_Mo_faultOfSizes_184 (by decide) (fun c183 => ?_) (fun c183 => ?_)
                        · refine lv_aload_n hx hb d_Mo_faultOfSizes_199 rfl (lv_at hl 4 rfl) ?_
                          refine lv_bipush (v := 40) hx hb d_Mo_faultOfSizes_200 (by decide) ?_
                          refine lv_iconst (v := 4) hx hb d_Mo_faultOfSizes_202 (by decide) ?_
                          refine kf_ro hP hD hS hA [0] rfl (va_runS (As := [.ref h1, .int 40, .int 4]) (rest := []) ⟨hx, hb, hml, hown, hts⟩ (c_Mo_field l D cB cI _ h1 f hf 40 4 (by decide)) ⟨callB_of 3 hts g_Mo_field rfl rfl rfl (hts _ q1_5) (hts _ q2_76) h_Mo_field ⟨Nat.le_of_ble_eq_true rfl, Nat.le_of_ble_eq_true rfl⟩, (hts _ q2_77)⟩ ⟨kf_bl, kf_to hP hD hS hA hE [0] rfl rfl⟩ rfl rfl hl.1 rfl (lv_room (Nat.le_of_ble_eq_true rfl)) d_Mo_faultOfSizes_203 ⟨Nat.zero_le _, Nat.zero_le _⟩) (fun H locs hP hS => ?_)
                          refine W.eq (g2 := F0 m 206 ls [.long (lN (ky_le f 40 4))]) rfl ?_
                          refine lv_lstore (lv' := [(9, .long (lN (ky_le f 40 4))), (7, .long (lN (ky_le f 88 2))), (5, .long (lN (ky_le f 32 4))), (3, .long (kv_size f)), (1, .long (lN (ky_le f 24 4))), (0, .ref h1)]) hx hb d_Mo_faultOfSizes_206 hl (by decide) rfl (fun ls hl => ?_)
                          refine lv_lload hx hb d_Mo_faultOfSizes_208 (lv_at hl 0 rfl) ?_
                          refine lv_ldc2 (v := 16) hx hb hown (hts _ q2_100) d_Mo_faultOfSizes_210 ?_
                          refine lv_ldc2 (v := 8) hx hb hown (hts _ q2_72) d_Mo_faultOfSizes_213 ?_
                          refine lv_lload_n hx hb d_Mo_faultOfSizes_216 rfl (lv_at hl 3 rfl) ?_
                          refine lv_lmul hx hb d_Mo_faultOfSizes_217 ?_
                          refine kf_ro hP hD hS hA [] rfl (va_runS (As := [.long (lN (ky_le f 40 4)), .long 16, .long (8 * (kv_size f))]) (rest := []) ⟨hx, hb, hml, hown, hts⟩ (c_Mo_isIn l D cB cI _ (lN (ky_le f 40 4)) 16 (8 * (kv_size f))) ⟨callB_of 3 hts g_Mo_isIn rfl rfl rfl (hts _ q1_5) (hts _ q2_95) h_Mo_isIn ⟨Nat.le_of_ble_eq_true rfl, Nat.le_of_ble_eq_true rfl⟩, (hts _ q2_96)⟩ ⟨kf_bl, kf_to hP hD hS hA hE [] rfl rfl⟩ rfl rfl hl.1 rfl (lv_room (Nat.le_of_ble_eq_true rfl)) d_Mo_faultOfSizes_218 ⟨Nat.zero_le _, Nat.zero_le _⟩) (fun H locs hP hS => ?_)
                          refine W.eq (g2 := F0 m 221 ls [.int (kP (km_inP (lN (ky_le f 40 4)) 16 (8 * (kv_size f))))]) rfl ?_
                          refine lv_if_eq (tgt := 252) hx hb d_Mo_faultOfSizes_221 (by decide) (fun c221 => ?_) (fun c221 => ?_)
                          · refine lv_bipush (v := 40) hx hb d_Mo_faultOfSizes_252 (by decide) ?_
                            have hc118 := by first | exact kP_ne c118 | exact kP_eq c118
                            have hc221 := by first | exact kP_ne c221 | exact kP_eq c221
                            exact kf_ir hx hb hr hlocks hP hD hS (by clear hP hD hS hA hE hts hl; unfold km_sz; grind) d_Mo_faultOfSizes_254
                          · refine lv_lload hx hb d_Mo_faultOfSizes_224 (lv_at hl 0 rfl) ?_
                            refine lv_ldc2 (v := 8) hx hb hown (hts _ q2_72) d_Mo_faultOfSizes_226 ?_
                            refine lv_lrem hx hb d_Mo_faultOfSizes_229 (by decide) ?_
                            refine lv_lconst (v := 0) hx hb d_Mo_faultOfSizes_230 (by decide) ?_
                            refine kf_lc_ne (tgt := 252) hx hb d_Mo_faultOfSizes_231 d_Mo_faultOfSizes_232 (by decide) (fun c231 => ?_) (fun c231 => ?_)
                            · refine lv_bipush (v := 40) hx hb d_Mo_faultOfSizes_252 (by decide) ?_
                              have hc118 := by first | exact kP_ne c118 | exact kP_eq c118
                              have hc221 := by first | exact kP_ne c221 | exact kP_eq c221
                              exact kf_ir hx hb hr hlocks hP hD hS (by clear hP hD hS hA hE hts hl; unfold km_sz; grind) d_Mo_faultOfSizes_254
                            · refine lv_lload hx hb d_Mo_faultOfSizes_235 (lv_at hl 0 rfl) ?_
                              refine lv_lload hx hb d_Mo_faultOfSizes_237 (lv_at hl 1 rfl) ?_
                              refine lv_lmul hx hb d_Mo_faultOfSizes_239 ?_
                              refine lv_lload_n hx hb d_Mo_faultOfSizes_240 rfl (lv_at hl 3 rfl) ?_
                              refine lv_lrem hx hb d_Mo_faultOfSizes_241 (km_ne0 (km_size1 c44)) ?_
                              refine lv_lconst (v := 0) hx hb d_Mo_faultOfSizes_242 (by decide) ?_
                              refine kf_lc_ne (tgt := 252) hx hb d_Mo_faultOfSizes_243 d_Mo_faultOfSizes_244 (by decide) (fun c243 => ?_) (fun c243 => ?_)
                              · refine lv_bipush (v := 40) hx hb d_Mo_faultOfSizes_252 (by decide) ?_
                                have hc118 := by first | exact kP_ne c118 | exact kP_eq c118
                                have hc221 := by first | exact kP_ne c221 | exact kP_eq c221
                                exact kf_ir hx hb hr hlocks hP hD hS (by clear hP hD hS hA hE hts hl; unfold km_sz; grind) d_Mo_faultOfSizes_254
                              · refine lv_bipush (v := -2) hx hb d_Mo_faultOfSizes_247 (by decide) ?_
                                refine lv_goto (tgt := 254) hx hb d_Mo_faultOfSizes_249 (by decide) ?_
                                have hc118 := by first | exact kP_ne c118 | exact kP_eq c118
                                have hc221 := by first | exact kP_ne c221 | exact kP_eq c221
                                exact kf_ir hx hb hr hlocks hP hD hS (by clear hP hD hS hA hE hts hl; unfold km_sz; grind) d_Mo_faultOfSizes_254
                        · refine lv_lload hx hb d_Mo_faultOfSizes_187 (lv_at hl 0 rfl) ?_
                          refine lv_ldc2 (v := 1024) hx hb hown (hts _ q2_93) d_Mo_faultOfSizes_189 ?_
                          refine kf_lc_eq (tgt := 199) hx hb d_Mo_faultOfSizes_192 d_Mo_faultOfSizes_193 (by decide) (fun c192 => ?_) (fun c192 => ?_)
                          · refine lv_aload_n hx hb d_Mo_faultOfSizes_199 rfl (lv_at hl 4 rfl) ?_
                            refine lv_bipush (v := 40) hx hb d_Mo_faultOfSizes_200 (by decide) ?_
                            refine lv_iconst (v := 4) hx hb d_Mo_faultOfSizes_202 (by decide) ?_
                            refine kf_ro hP hD hS hA [0] rfl (va_runS (As := [.ref h1, .int 40, .int 4]) (rest := []) ⟨hx, hb, hml, hown, hts⟩ (c_Mo_field l D cB cI _ h1 f hf 40 4 (by decide)) ⟨callB_of 3 hts g_Mo_field rfl rfl rfl (hts _ q1_5) (hts _ q2_76) h_Mo_field ⟨Nat.le_of_ble_eq_true rfl, Nat.le_of_ble_eq_true rfl⟩, (hts _ q2_77)⟩ ⟨kf_bl, kf_to hP hD hS hA hE [0] rfl rfl⟩ rfl rfl hl.1 rfl (lv_room (Nat.le_of_ble_eq_true rfl)) d_Mo_faultOfSizes_203 ⟨Nat.zero_le _, Nat.zero_le _⟩) (fun H locs hP hS => ?_)
                            refine W.eq (g2 := F0 m 206 ls [.long (lN (ky_le f 40 4))]) rfl ?_
                            refine lv_lstore (lv' := [(9, .long (lN (ky_le f 40 4))), (7, .long (lN (ky_le f 88 2))), (5, .long (lN (ky_le f 32 4))), (3, .long (kv_size f)), (1, .long (lN (ky_le f 24 4))), (0, .ref h1)]) hx hb d_Mo_faultOfSizes_206 hl (by decide) rfl (fun ls hl => ?_)
                            refine lv_lload hx hb d_Mo_faultOfSizes_208 (lv_at hl 0 rfl) ?_
                            refine lv_ldc2 (v := 16) hx hb hown (hts _ q2_100) d_Mo_faultOfSizes_210 ?_
                            refine lv_ldc2 (v := 8) hx hb hown (hts _ q2_72) d_Mo_faultOfSizes_213 ?_
                            refine lv_lload_n hx hb d_Mo_faultOfSizes_216 rfl (lv_at hl 3 rfl) ?_
                            refine lv_lmul hx hb d_Mo_faultOfSizes_217 ?_
                            refine kf_ro hP hD hS hA [] rfl (va_runS (As := [.long (lN (ky_le f 40 4)), .long 16, .long (8 * (kv_size f))]) (rest := []) ⟨hx, hb, hml, hown, hts⟩ (c_Mo_isIn l D cB cI _ (lN (ky_le f 40 4)) 16 (8 * (kv_size f))) ⟨callB_of 3 hts g_Mo_isIn rfl rfl rfl (hts _ q1_5) (hts _ q2_95) h_Mo_isIn ⟨Nat.le_of_ble_eq_true rfl, Nat.le_of_ble_eq_true rfl⟩, (hts _ q2_96)⟩ ⟨kf_bl, kf_to hP hD hS hA hE [] rfl rfl⟩ rfl rfl hl.1 rfl (lv_room (Nat.le_of_ble_eq_true rfl)) d_Mo_faultOfSizes_218 ⟨Nat.zero_le _, Nat.zero_le _⟩) (fun H locs hP hS => ?_)
                            refine W.eq (g2 := F0 m 221 ls [.int (kP (km_inP (lN (ky_le f 40 4)) 16 (8 * (kv_size f))))]) rfl ?_
                            refine lv_if_eq (tgt := 252) hx hb d_Mo_faultOfSizes_221 (by decide) (fun c221 => ?_) (fun c221 => ?_)
                            · refine lv_bipush (v := 40) hx hb d_Mo_faultOfSizes_252 (by decide) ?_
                              have hc118 := by first | exact kP_ne c118 | exact kP_eq c118
                              have hc221 := by first | exact kP_ne c221 | exact kP_eq c221
                              exact kf_ir hx hb hr hlocks hP hD hS (by clear hP hD hS hA hE hts hl; unfold km_sz; grind) d_Mo_faultOfSizes_254
                            · refine lv_lload hx hb d_Mo_faultOfSizes_224 (lv_at hl 0 rfl) ?_
                              refine lv_ldc2 (v := 8) hx hb hown (hts _ q2_72) d_Mo_faultOfSizes_226 ?_
                              refine lv_lrem hx hb d_Mo_faultOfSizes_229 (by decide) ?_
                              refine lv_lconst (v := 0) hx hb d_Mo_faultOfSizes_230 (by decide) ?_
                              refine kf_lc_ne (tgt := 252) hx hb d_Mo_faultOfSizes_231 d_Mo_faultOfSizes_232 (by decide) (fun c231 => ?_) (fun c231 => ?_)
                              · refine lv_bipush (v := 40) hx hb d_Mo_faultOfSizes_252 (by decide) ?_
                                have hc118 := by first | exact kP_ne c118 | exact kP_eq c118
                                have hc221 := by first | exact kP_ne c221 | exact kP_eq c221
                                exact kf_ir hx hb hr hlocks hP hD hS (by clear hP hD hS hA hE hts hl; unfold km_sz; grind) d_Mo_faultOfSizes_254
                              · refine lv_lload hx hb d_Mo_faultOfSizes_235 (lv_at hl 0 rfl) ?_
                                refine lv_lload hx hb d_Mo_faultOfSizes_237 (lv_at hl 1 rfl) ?_
                                refine lv_lmul hx hb d_Mo_faultOfSizes_239 ?_
                                refine lv_lload_n hx hb d_Mo_faultOfSizes_240 rfl (lv_at hl 3 rfl) ?_
                                refine lv_lrem hx hb d_Mo_faultOfSizes_241 (km_ne0 (km_size1 c44)) ?_
                                refine lv_lconst (v := 0) hx hb d_Mo_faultOfSizes_242 (by decide) ?_
                                refine kf_lc_ne (tgt := 252) hx hb d_Mo_faultOfSizes_243 d_Mo_faultOfSizes_244 (by decide) (fun c243 => ?_) (fun c243 => ?_)
                                · refine lv_bipush (v := 40) hx hb d_Mo_faultOfSizes_252 (by decide) ?_
                                  have hc118 := by first | exact kP_ne c118 | exact kP_eq c118
                                  have hc221 := by first | exact kP_ne c221 | exact kP_eq c221
                                  exact kf_ir hx hb hr hlocks hP hD hS (by clear hP hD hS hA hE hts hl; unfold km_sz; grind) d_Mo_faultOfSizes_254
                                · refine lv_bipush (v := -2) hx hb d_Mo_faultOfSizes_247 (by decide) ?_
                                  refine lv_goto (tgt := 254) hx hb d_Mo_faultOfSizes_249 (by decide) ?_
                                  have hc118 := by first | exact kP_ne c118 | exact kP_eq c118
                                  have hc221 := by first | exact kP_ne c221 | exact kP_eq c221
                                  exact kf_ir hx hb hr hlocks hP hD hS (by clear hP hD hS hA hE hts hl; unfold km_sz; grind) d_Mo_faultOfSizes_254
                          · refine lv_bipush (v := 88) hx hb d_Mo_faultOfSizes_196 (by decide) ?_
                            have hc118 := by first | exact kP_ne c118 | exact kP_eq c118
                            exact kf_ir hx hb hr hlocks hP hD hS (by clear hP hD hS hA hE hts hl; unfold km_sz; grind) d_Mo_faultOfSizes_198
                  · refine lv_bipush (v := 36) hx hb d_Mo_faultOfSizes_148 (by decide) ?_
                    have hc118 := by first | exact kP_ne c118 | exact kP_eq c118
                    exact kf_ir hx hb hr hlocks hP hD hS (by clear hP hD hS hA hE hts hl; unfold km_sz; grind) d_Mo_faultOfSizes_150
                · refine lv_bipush (v := 32) hx hb d_Mo_faultOfSizes_132 (by decide) ?_
                  have hc118 := by first | exact kP_ne c118 | exact kP_eq c118
                  exact kf_ir hx hb hr hlocks hP hD hS (by clear hP hD hS hA hE hts hl; unfold km_sz; grind) d_Mo_faultOfSizes_134
            · refine lv_bipush (v := 20) hx hb d_Mo_faultOfSizes_88 (by decide) ?_
              exact kf_ir hx hb hr hlocks hP hD hS (by clear hP hD hS hA hE hts hl; unfold km_sz; grind) d_Mo_faultOfSizes_90
        · refine lv_bipush (v := 28) hx hb d_Mo_faultOfSizes_63 (by decide) ?_
          exact kf_ir hx hb hr hlocks hP hD hS (by clear hP hD hS hA hE hts hl; unfold km_sz; grind) d_Mo_faultOfSizes_65
      · refine lv_bipush (v := 24) hx hb d_Mo_faultOfSizes_48 (by decide) ?_
        exact kf_ir hx hb hr hlocks hP hD hS (by clear hP hD hS hA hE hts hl; unfold km_sz; grind) d_Mo_faultOfSizes_50
    · refine lv_bipush (v := 76) hx hb d_Mo_faultOfSizes_29 (by decide) ?_
      exact kf_ir hx hb hr hlocks hP hD hS (by clear hP hD hS hA hE hts hl; unfold km_sz; grind) d_Mo_faultOfSizes_31
  · refine lv_bipush (v := 56) hx hb d_Mo_faultOfSizes_14 (by decide) ?_
    exact kf_ir hx hb hr hlocks hP hD hS (by clear hP hD hS hA hE hts hl; unfold km_sz; grind) d_Mo_faultOfSizes_16
end
