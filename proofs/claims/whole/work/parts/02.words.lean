def kf_nwOk : Cond → Bool
  | .fieldLinkNest _ _ _ _ _ _ => true
  | .methodLinkNest _ _ _ _ => true
  | _ => false
def kf_nw : List Cond := lw_tbl.filter kf_nwOk
theorem kf_nw1 {w : Cond} (i : Nat) (h : tables_1_1[i]? = some w) (g : kf_nwOk w = true) : w ∈ kf_nw := List.mem_filter.mpr ⟨List.mem_append_right _ (List.mem_append_left _ (List.mem_of_getElem? h)), g⟩
theorem kf_nw2 {w : Cond} (i : Nat) (h : tables_1_2[i]? = some w) (g : kf_nwOk w = true) : w ∈ kf_nw := List.mem_filter.mpr ⟨List.mem_append_right _ (List.mem_append_right _ (List.mem_of_getElem? h)), g⟩
theorem kf_nwAll : ∀ w ∈ kf_nw, kf_nwOk w = true := fun w h => (List.mem_filter.mp h).2
theorem kf_nwTab : ∀ w ∈ kf_nw, w.onTables = true := fun w h => by
  have h := kf_nwAll w h
  cases w <;> first | rfl | exact absurd h (by simp [kf_nwOk])
theorem q1_0 {c : Cond} : (Jvm.Cond.initialized "FieldRowsLaw") ∈ c :: kw_ := kw_1 0 rfl rfl
theorem q1_1 {c : Cond} : (Jvm.Cond.initialized "FieldRows") ∈ c :: kw_ := kw_1 1 rfl rfl
theorem q1_2 {c : Cond} : (Jvm.Cond.initialized "FieldRows$Row") ∈ c :: kw_ := kw_1 2 rfl rfl
theorem q1_3 {c : Cond} : (Jvm.Cond.initialized "FieldRows$Volume") ∈ c :: kw_ := kw_1 3 rfl rfl
theorem q1_4 {c : Cond} : (Jvm.Cond.initialized "java/lang/Math") ∈ c :: kw_ := kw_1 4 rfl rfl
theorem q1_5 {c : Cond} : (Jvm.Cond.initialized "FieldRowsModel") ∈ c :: kw_ := kw_1 5 rfl rfl
theorem q1_6 {c : Cond} : (Jvm.Cond.classLink "FieldRowsLaw" (7 : Nat) "FieldRows") ∈ c :: kw_ := kw_1 6 rfl rfl
theorem q1_7 {c : Cond} : (Jvm.Cond.instantiable "FieldRows" (4 : Nat)) ∈ c :: kw_ := kw_1 7 rfl rfl
theorem q1_8 {c : Cond} : (Jvm.Cond.methodLink "FieldRowsLaw" (9 : Nat) ({ cls := "FieldRows", name := "<init>", desc := "()V" } : Jvm.MethodName)) ∈ c :: kw_ := kw_1 8 rfl rfl
theorem q1_9 {c : Cond} : (Jvm.Cond.instanceMethod ({ cls := "FieldRows", name := "<init>", desc := "()V" } : Jvm.MethodName)) ∈ c :: kw_ := kw_1 9 rfl rfl
theorem q1_10 {c : Cond} : (Jvm.Cond.code ({ cls := "FieldRows", name := "<init>", desc := "()V" } : Jvm.MethodName) prog_1_method_1_code (1 : Nat) (Option.none : Option Jvm.ClassFile.FieldType)) ∈ c :: kw_ := kw_1 10 rfl rfl
theorem q1_11 {c : Cond} : (Jvm.Cond.methodLink "FieldRows" (3 : Nat) ({ cls := "java/lang/Object", name := "<init>", desc := "()V" } : Jvm.MethodName)) ∈ c :: kw_ := kw_1 11 rfl rfl
theorem q1_12 {c : Cond} : (Jvm.Cond.instanceMethod ({ cls := "java/lang/Object", name := "<init>", desc := "()V" } : Jvm.MethodName)) ∈ c :: kw_ := kw_1 12 rfl rfl
theorem q1_13 {c : Cond} : (Jvm.Cond.code ({ cls := "java/lang/Object", name := "<init>", desc := "()V" } : Jvm.MethodName) object_method_1_code (1 : Nat) (Option.none : Option Jvm.ClassFile.FieldType)) ∈ c :: kw_ := kw_1 13 rfl rfl
theorem q1_14 {c : Cond} : (Jvm.Cond.classLink "FieldRows" (9 : Nat) "FieldRows$Row") ∈ c :: kw_ := kw_1 14 rfl rfl
theorem q1_15 {c : Cond} : (Jvm.Cond.instantiable "FieldRows$Row" (1 : Nat)) ∈ c :: kw_ := kw_1 15 rfl rfl
theorem q1_17 {c : Cond} : (Jvm.Cond.instanceMethod ({ cls := "FieldRows$Row", name := "<init>", desc := "()V" } : Jvm.MethodName)) ∈ c :: kw_ := kw_1 17 rfl rfl
theorem q1_18 {c : Cond} : (Jvm.Cond.code ({ cls := "FieldRows$Row", name := "<init>", desc := "()V" } : Jvm.MethodName) prog_2_method_1_code (1 : Nat) (Option.none : Option Jvm.ClassFile.FieldType)) ∈ c :: kw_ := kw_1 18 rfl rfl
theorem q1_19 {c : Cond} : (Jvm.Cond.methodLink "FieldRows$Row" (3 : Nat) ({ cls := "java/lang/Object", name := "<init>", desc := "()V" } : Jvm.MethodName)) ∈ c :: kw_ := kw_1 19 rfl rfl
theorem q1_20 {c : Cond} : (Jvm.Cond.fieldLink "FieldRows$Row" (9 : Nat) "FieldRows$Row" "bytes" "[B") ∈ c :: kw_ := kw_1 20 rfl rfl
theorem q1_21 {c : Cond} : (Jvm.Cond.laysFinal "FieldRows$Row" "FieldRows$Row" "bytes" "[B") ∈ c :: kw_ := kw_1 21 rfl rfl
theorem q1_24 {c : Cond} : (Jvm.Cond.arrayClass Jvm.ClassFile.FieldType.byte) ∈ c :: kw_ := kw_1 24 rfl rfl
theorem q1_25 {c : Cond} : (Jvm.Cond.classLink "FieldRows" (22 : Nat) "FieldRows$Volume") ∈ c :: kw_ := kw_1 25 rfl rfl
theorem q1_26 {c : Cond} : (Jvm.Cond.instantiable "FieldRows$Volume" (12 : Nat)) ∈ c :: kw_ := kw_1 26 rfl rfl
theorem q1_28 {c : Cond} : (Jvm.Cond.instanceMethod ({ cls := "FieldRows$Volume", name := "<init>", desc := "()V" } : Jvm.MethodName)) ∈ c :: kw_ := kw_1 28 rfl rfl
theorem q1_29 {c : Cond} : (Jvm.Cond.code ({ cls := "FieldRows$Volume", name := "<init>", desc := "()V" } : Jvm.MethodName) prog_3_method_1_code (1 : Nat) (Option.none : Option Jvm.ClassFile.FieldType)) ∈ c :: kw_ := kw_1 29 rfl rfl
theorem q1_30 {c : Cond} : (Jvm.Cond.methodLink "FieldRows$Volume" (3 : Nat) ({ cls := "java/lang/Object", name := "<init>", desc := "()V" } : Jvm.MethodName)) ∈ c :: kw_ := kw_1 30 rfl rfl
theorem q1_31 {c : Cond} : (Jvm.Cond.fieldLink "FieldRows$Volume" (15 : Nat) "FieldRows$Volume" "files" "J") ∈ c :: kw_ := kw_1 31 rfl rfl
theorem q1_33 {c : Cond} : (Jvm.Cond.fieldLink "FieldRows$Volume" (21 : Nat) "FieldRows$Volume" "blocks" "J") ∈ c :: kw_ := kw_1 33 rfl rfl
theorem q1_34 {c : Cond} : (Jvm.Cond.fieldLink "FieldRows$Volume" (24 : Nat) "FieldRows$Volume" "first" "J") ∈ c :: kw_ := kw_1 34 rfl rfl
theorem q1_35 {c : Cond} : (Jvm.Cond.fieldLink "FieldRows$Volume" (27 : Nat) "FieldRows$Volume" "shift" "J") ∈ c :: kw_ := kw_1 35 rfl rfl
theorem q1_36 {c : Cond} : (Jvm.Cond.fieldLink "FieldRows$Volume" (32 : Nat) "FieldRows$Volume" "size" "J") ∈ c :: kw_ := kw_1 36 rfl rfl
theorem q1_38 {c : Cond} : (Jvm.Cond.fieldLink "FieldRows$Volume" (35 : Nat) "FieldRows$Volume" "groupBlocks" "J") ∈ c :: kw_ := kw_1 38 rfl rfl
theorem q1_39 {c : Cond} : (Jvm.Cond.fieldLink "FieldRows$Volume" (38 : Nat) "FieldRows$Volume" "groupFiles" "J") ∈ c :: kw_ := kw_1 39 rfl rfl
theorem q1_41 {c : Cond} : (Jvm.Cond.fieldLink "FieldRows$Volume" (41 : Nat) "FieldRows$Volume" "recordBytes" "J") ∈ c :: kw_ := kw_1 41 rfl rfl
theorem q1_43 {c : Cond} : (Jvm.Cond.fieldLink "FieldRows$Volume" (44 : Nat) "FieldRows$Volume" "fewCopies" "Z") ∈ c :: kw_ := kw_1 43 rfl rfl
theorem q1_44 {c : Cond} : (Jvm.Cond.fieldLink "FieldRows$Volume" (52 : Nat) "FieldRows$Volume" "groupCount" "J") ∈ c :: kw_ := kw_1 44 rfl rfl
theorem q1_46 {c : Cond} : (Jvm.Cond.fieldLink "FieldRows$Volume" (57 : Nat) "FieldRows$Volume" "copyBlocks" "J") ∈ c :: kw_ := kw_1 46 rfl rfl
theorem q1_47 {c : Cond} : (Jvm.Cond.fieldLink "FieldRows$Volume" (60 : Nat) "FieldRows$Volume" "recordBlocks" "J") ∈ c :: kw_ := kw_1 47 rfl rfl
theorem q1_49 {c : Cond} : (Jvm.Cond.lays "FieldRows$Volume" "FieldRows$Volume" "files" "J") ∈ c :: kw_ := kw_1 49 rfl rfl
theorem q1_51 {c : Cond} : (Jvm.Cond.lays "FieldRows$Volume" "FieldRows$Volume" "blocks" "J") ∈ c :: kw_ := kw_1 51 rfl rfl
theorem q1_53 {c : Cond} : (Jvm.Cond.lays "FieldRows$Volume" "FieldRows$Volume" "first" "J") ∈ c :: kw_ := kw_1 53 rfl rfl
theorem q1_55 {c : Cond} : (Jvm.Cond.lays "FieldRows$Volume" "FieldRows$Volume" "shift" "J") ∈ c :: kw_ := kw_1 55 rfl rfl
theorem q1_57 {c : Cond} : (Jvm.Cond.lays "FieldRows$Volume" "FieldRows$Volume" "size" "J") ∈ c :: kw_ := kw_1 57 rfl rfl
theorem q1_59 {c : Cond} : (Jvm.Cond.lays "FieldRows$Volume" "FieldRows$Volume" "groupBlocks" "J") ∈ c :: kw_ := kw_1 59 rfl rfl
theorem q1_61 {c : Cond} : (Jvm.Cond.lays "FieldRows$Volume" "FieldRows$Volume" "groupFiles" "J") ∈ c :: kw_ := kw_1 61 rfl rfl
theorem q1_63 {c : Cond} : (Jvm.Cond.lays "FieldRows$Volume" "FieldRows$Volume" "recordBytes" "J") ∈ c :: kw_ := kw_1 63 rfl rfl
theorem q1_65 {c : Cond} : (Jvm.Cond.lays "FieldRows$Volume" "FieldRows$Volume" "fewCopies" "Z") ∈ c :: kw_ := kw_1 65 rfl rfl
theorem q1_67 {c : Cond} : (Jvm.Cond.lays "FieldRows$Volume" "FieldRows$Volume" "groupCount" "J") ∈ c :: kw_ := kw_1 67 rfl rfl
theorem q1_69 {c : Cond} : (Jvm.Cond.lays "FieldRows$Volume" "FieldRows$Volume" "copyBlocks" "J") ∈ c :: kw_ := kw_1 69 rfl rfl
theorem q1_71 {c : Cond} : (Jvm.Cond.lays "FieldRows$Volume" "FieldRows$Volume" "recordBlocks" "J") ∈ c :: kw_ := kw_1 71 rfl rfl
theorem q1_74 {c : Cond} : (Jvm.Cond.methodLink "FieldRows" (29 : Nat) ({ cls := "FieldRows", name := "lay", desc := "(IIIII)I" } : Jvm.MethodName)) ∈ c :: kw_ := kw_1 74 rfl rfl
theorem q1_75 {c : Cond} : (Jvm.Cond.instanceMethod ({ cls := "FieldRows", name := "lay", desc := "(IIIII)I" } : Jvm.MethodName)) ∈ c :: kw_ := kw_1 75 rfl rfl
theorem q1_76 {c : Cond} : (Jvm.Cond.selects "FieldRows" ({ cls := "FieldRows", name := "lay", desc := "(IIIII)I" } : Jvm.MethodName) ({ cls := "FieldRows", name := "lay", desc := "(IIIII)I" } : Jvm.MethodName)) ∈ c :: kw_ := kw_1 76 rfl rfl
theorem q1_77 {c : Cond} : (Jvm.Cond.code ({ cls := "FieldRows", name := "lay", desc := "(IIIII)I" } : Jvm.MethodName) prog_1_method_2_code (6 : Nat) (Option.some Jvm.ClassFile.FieldType.int)) ∈ c :: kw_ := kw_1 77 rfl rfl
theorem q1_78 {c : Cond} : (Jvm.Cond.constant "FieldRows" (33 : Nat) (65535 : Int32)) ∈ c :: kw_ := kw_1 78 rfl rfl
theorem q1_79 {c : Cond} : (Jvm.Cond.methodLink "FieldRows" (34 : Nat) ({ cls := "FieldRows$Row", name := "clear", desc := "()V" } : Jvm.MethodName)) ∈ c :: kw_ := kw_1 79 rfl rfl
theorem q1_80 {c : Cond} : (Jvm.Cond.instanceMethod ({ cls := "FieldRows$Row", name := "clear", desc := "()V" } : Jvm.MethodName)) ∈ c :: kw_ := kw_1 80 rfl rfl
theorem q1_81 {c : Cond} : (Jvm.Cond.selects "FieldRows$Row" ({ cls := "FieldRows$Row", name := "clear", desc := "()V" } : Jvm.MethodName) ({ cls := "FieldRows$Row", name := "clear", desc := "()V" } : Jvm.MethodName)) ∈ c :: kw_ := kw_1 81 rfl rfl
theorem q1_82 {c : Cond} : (Jvm.Cond.code ({ cls := "FieldRows$Row", name := "clear", desc := "()V" } : Jvm.MethodName) prog_2_method_2_code (2 : Nat) (Option.none : Option Jvm.ClassFile.FieldType)) ∈ c :: kw_ := kw_1 82 rfl rfl
theorem q1_83 {c : Cond} : (Jvm.Cond.methodLink "FieldRows" (37 : Nat) ({ cls := "FieldRows$Row", name := "writeConstants", desc := "()V" } : Jvm.MethodName)) ∈ c :: kw_ := kw_1 83 rfl rfl
theorem q1_84 {c : Cond} : (Jvm.Cond.instanceMethod ({ cls := "FieldRows$Row", name := "writeConstants", desc := "()V" } : Jvm.MethodName)) ∈ c :: kw_ := kw_1 84 rfl rfl
theorem q1_85 {c : Cond} : (Jvm.Cond.selects "FieldRows$Row" ({ cls := "FieldRows$Row", name := "writeConstants", desc := "()V" } : Jvm.MethodName) ({ cls := "FieldRows$Row", name := "writeConstants", desc := "()V" } : Jvm.MethodName)) ∈ c :: kw_ := kw_1 85 rfl rfl
theorem q1_86 {c : Cond} : (Jvm.Cond.code ({ cls := "FieldRows$Row", name := "writeConstants", desc := "()V" } : Jvm.MethodName) prog_2_method_6_code (1 : Nat) (Option.none : Option Jvm.ClassFile.FieldType)) ∈ c :: kw_ := kw_1 86 rfl rfl
theorem q1_87 {c : Cond} : (Jvm.Cond.constantLong "FieldRows$Row" (21 : Nat) (65535 : Int64)) ∈ c :: kw_ := kw_1 87 rfl rfl
theorem q1_88 {c : Cond} : (Jvm.Cond.methodLink "FieldRows$Row" (23 : Nat) ({ cls := "FieldRows$Row", name := "write", desc := "(IIJ)V" } : Jvm.MethodName)) ∈ c :: kw_ := kw_1 88 rfl rfl
theorem q1_89 {c : Cond} : (Jvm.Cond.instanceMethod ({ cls := "FieldRows$Row", name := "write", desc := "(IIJ)V" } : Jvm.MethodName)) ∈ c :: kw_ := kw_1 89 rfl rfl
theorem q1_90 {c : Cond} : (Jvm.Cond.selects "FieldRows$Row" ({ cls := "FieldRows$Row", name := "write", desc := "(IIJ)V" } : Jvm.MethodName) ({ cls := "FieldRows$Row", name := "write", desc := "(IIJ)V" } : Jvm.MethodName)) ∈ c :: kw_ := kw_1 90 rfl rfl
theorem q1_91 {c : Cond} : (Jvm.Cond.code ({ cls := "FieldRows$Row", name := "write", desc := "(IIJ)V" } : Jvm.MethodName) prog_2_method_5_code (6 : Nat) (Option.none : Option Jvm.ClassFile.FieldType)) ∈ c :: kw_ := kw_1 91 rfl rfl
theorem q1_93 {c : Cond} : (Jvm.Cond.static ({ cls := "FieldRows", name := "isField", desc := "(II)Z" } : Jvm.MethodName)) ∈ c :: kw_ := kw_1 93 rfl rfl
theorem q1_94 {c : Cond} : (Jvm.Cond.code ({ cls := "FieldRows", name := "isField", desc := "(II)Z" } : Jvm.MethodName) prog_1_method_14_code (2 : Nat) (Option.some Jvm.ClassFile.FieldType.boolean)) ∈ c :: kw_ := kw_1 94 rfl rfl
theorem q1_95 {c : Cond} : (Jvm.Cond.constantLong "FieldRows$Row" (27 : Nat) (61267 : Int64)) ∈ c :: kw_ := kw_1 95 rfl rfl
theorem q1_96 {c : Cond} : (Jvm.Cond.constantLong "FieldRows$Row" (29 : Nat) (11 : Int64)) ∈ c :: kw_ := kw_1 96 rfl rfl
theorem q1_97 {c : Cond} : (Jvm.Cond.constantLong "FieldRows$Row" (31 : Nat) (36 : Int64)) ∈ c :: kw_ := kw_1 97 rfl rfl
theorem q1_98 {c : Cond} : (Jvm.Cond.constantLong "FieldRows$Row" (33 : Nat) (66 : Int64)) ∈ c :: kw_ := kw_1 98 rfl rfl
theorem q1_99 {c : Cond} : (Jvm.Cond.constantLong "FieldRows$Row" (35 : Nat) (3 : Int64)) ∈ c :: kw_ := kw_1 99 rfl rfl
theorem q1_100 {c : Cond} : (Jvm.Cond.constantLong "FieldRows$Row" (37 : Nat) (8 : Int64)) ∈ c :: kw_ := kw_1 100 rfl rfl
theorem q1_101 {c : Cond} : (Jvm.Cond.methodLink "FieldRows" (40 : Nat) ({ cls := "FieldRows$Row", name := "write", desc := "(IIJ)V" } : Jvm.MethodName)) ∈ c :: kw_ := kw_1 101 rfl rfl
theorem q1_102 {c : Cond} : (Jvm.Cond.methodLink "FieldRows" (44 : Nat) ({ cls := "FieldRows", name := "firstFor", desc := "(J)I" } : Jvm.MethodName)) ∈ c :: kw_ := kw_1 102 rfl rfl
theorem q1_103 {c : Cond} : (Jvm.Cond.static ({ cls := "FieldRows", name := "firstFor", desc := "(J)I" } : Jvm.MethodName)) ∈ c :: kw_ := kw_1 103 rfl rfl
theorem q1_104 {c : Cond} : (Jvm.Cond.code ({ cls := "FieldRows", name := "firstFor", desc := "(J)I" } : Jvm.MethodName) prog_1_method_16_code (2 : Nat) (Option.some Jvm.ClassFile.FieldType.int)) ∈ c :: kw_ := kw_1 104 rfl rfl
theorem q1_105 {c : Cond} : (Jvm.Cond.methodLink "FieldRows" (48 : Nat) ({ cls := "FieldRows$Volume", name := "readNumbers", desc := "(LFieldRows$Row;)V" } : Jvm.MethodName)) ∈ c :: kw_ := kw_1 105 rfl rfl
theorem q1_106 {c : Cond} : (Jvm.Cond.instanceMethod ({ cls := "FieldRows$Volume", name := "readNumbers", desc := "(LFieldRows$Row;)V" } : Jvm.MethodName)) ∈ c :: kw_ := kw_1 106 rfl rfl
theorem q1_107 {c : Cond} : (Jvm.Cond.selects "FieldRows$Volume" ({ cls := "FieldRows$Volume", name := "readNumbers", desc := "(LFieldRows$Row;)V" } : Jvm.MethodName) ({ cls := "FieldRows$Volume", name := "readNumbers", desc := "(LFieldRows$Row;)V" } : Jvm.MethodName)) ∈ c :: kw_ := kw_1 107 rfl rfl
theorem q1_108 {c : Cond} : (Jvm.Cond.code ({ cls := "FieldRows$Volume", name := "readNumbers", desc := "(LFieldRows$Row;)V" } : Jvm.MethodName) prog_3_method_2_code (2 : Nat) (Option.none : Option Jvm.ClassFile.FieldType)) ∈ c :: kw_ := kw_1 108 rfl rfl
theorem q1_109 {c : Cond} : (Jvm.Cond.methodLink "FieldRows$Volume" (9 : Nat) ({ cls := "FieldRows$Row", name := "field", desc := "(II)J" } : Jvm.MethodName)) ∈ c :: kw_ := kw_1 109 rfl rfl
theorem q1_110 {c : Cond} : (Jvm.Cond.instanceMethod ({ cls := "FieldRows$Row", name := "field", desc := "(II)J" } : Jvm.MethodName)) ∈ c :: kw_ := kw_1 110 rfl rfl
theorem q1_111 {c : Cond} : (Jvm.Cond.selects "FieldRows$Row" ({ cls := "FieldRows$Row", name := "field", desc := "(II)J" } : Jvm.MethodName) ({ cls := "FieldRows$Row", name := "field", desc := "(II)J" } : Jvm.MethodName)) ∈ c :: kw_ := kw_1 111 rfl rfl
theorem q1_112 {c : Cond} : (Jvm.Cond.code ({ cls := "FieldRows$Row", name := "field", desc := "(II)J" } : Jvm.MethodName) prog_2_method_4_code (6 : Nat) (Option.some Jvm.ClassFile.FieldType.long)) ∈ c :: kw_ := kw_1 112 rfl rfl
theorem q1_113 {c : Cond} : (Jvm.Cond.constantLong "FieldRows$Row" (19 : Nat) (-1 : Int64)) ∈ c :: kw_ := kw_1 113 rfl rfl
theorem q1_114 {c : Cond} : (Jvm.Cond.constantLong "FieldRows$Volume" (30 : Nat) (1024 : Int64)) ∈ c :: kw_ := kw_1 114 rfl rfl
theorem q1_116 {c : Cond} : (Jvm.Cond.static ({ cls := "FieldRows", name := "quotientUp", desc := "(JJ)J" } : Jvm.MethodName)) ∈ c :: kw_ := kw_1 116 rfl rfl
theorem q1_117 {c : Cond} : (Jvm.Cond.code ({ cls := "FieldRows", name := "quotientUp", desc := "(JJ)J" } : Jvm.MethodName) prog_1_method_20_code (4 : Nat) (Option.some Jvm.ClassFile.FieldType.long)) ∈ c :: kw_ := kw_1 117 rfl rfl
theorem q1_118 {c : Cond} : (Jvm.Cond.methodLink "FieldRows" (116 : Nat) ({ cls := "FieldRows", name := "quotient", desc := "(JJ)J" } : Jvm.MethodName)) ∈ c :: kw_ := kw_1 118 rfl rfl
theorem q1_119 {c : Cond} : (Jvm.Cond.static ({ cls := "FieldRows", name := "quotient", desc := "(JJ)J" } : Jvm.MethodName)) ∈ c :: kw_ := kw_1 119 rfl rfl
theorem q1_120 {c : Cond} : (Jvm.Cond.code ({ cls := "FieldRows", name := "quotient", desc := "(JJ)J" } : Jvm.MethodName) prog_1_method_19_code (4 : Nat) (Option.some Jvm.ClassFile.FieldType.long)) ∈ c :: kw_ := kw_1 120 rfl rfl
theorem q1_121 {c : Cond} : (Jvm.Cond.constantLong "FieldRows$Volume" (55 : Nat) (32 : Int64)) ∈ c :: kw_ := kw_1 121 rfl rfl
theorem q1_122 {c : Cond} : (Jvm.Cond.methodLink "FieldRows" (56 : Nat) ({ cls := "FieldRows$Volume", name := "firstFaultOf", desc := "(LFieldRows$Row;)I" } : Jvm.MethodName)) ∈ c :: kw_ := kw_1 122 rfl rfl
theorem q1_123 {c : Cond} : (Jvm.Cond.instanceMethod ({ cls := "FieldRows$Volume", name := "firstFaultOf", desc := "(LFieldRows$Row;)I" } : Jvm.MethodName)) ∈ c :: kw_ := kw_1 123 rfl rfl
theorem q1_124 {c : Cond} : (Jvm.Cond.selects "FieldRows$Volume" ({ cls := "FieldRows$Volume", name := "firstFaultOf", desc := "(LFieldRows$Row;)I" } : Jvm.MethodName) ({ cls := "FieldRows$Volume", name := "firstFaultOf", desc := "(LFieldRows$Row;)I" } : Jvm.MethodName)) ∈ c :: kw_ := kw_1 124 rfl rfl
theorem q1_125 {c : Cond} : (Jvm.Cond.code ({ cls := "FieldRows$Volume", name := "firstFaultOf", desc := "(LFieldRows$Row;)I" } : Jvm.MethodName) prog_3_method_11_code (3 : Nat) (Option.some Jvm.ClassFile.FieldType.int)) ∈ c :: kw_ := kw_1 125 rfl rfl
theorem q1_126 {c : Cond} : (Jvm.Cond.methodLink "FieldRows$Volume" (91 : Nat) ({ cls := "FieldRows$Volume", name := "readNumbers", desc := "(LFieldRows$Row;)V" } : Jvm.MethodName)) ∈ c :: kw_ := kw_1 126 rfl rfl
theorem q1_127 {c : Cond} : (Jvm.Cond.methodLink "FieldRows$Volume" (95 : Nat) ({ cls := "FieldRows$Volume", name := "faultOfForm", desc := "(LFieldRows$Row;)I" } : Jvm.MethodName)) ∈ c :: kw_ := kw_1 127 rfl rfl
theorem q1_129 {c : Cond} : (Jvm.Cond.instanceMethod ({ cls := "FieldRows$Volume", name := "faultOfForm", desc := "(LFieldRows$Row;)I" } : Jvm.MethodName)) ∈ c :: kw_ := kw_1 129 rfl rfl
theorem q1_130 {c : Cond} : (Jvm.Cond.code ({ cls := "FieldRows$Volume", name := "faultOfForm", desc := "(LFieldRows$Row;)I" } : Jvm.MethodName) prog_3_method_12_code (2 : Nat) (Option.some Jvm.ClassFile.FieldType.int)) ∈ c :: kw_ := kw_1 130 rfl rfl
theorem q1_131 {c : Cond} : (Jvm.Cond.constantLong "FieldRows$Volume" (115 : Nat) (61267 : Int64)) ∈ c :: kw_ := kw_1 131 rfl rfl
theorem q1_132 {c : Cond} : (Jvm.Cond.constantLong "FieldRows$Volume" (89 : Nat) (2 : Int64)) ∈ c :: kw_ := kw_1 132 rfl rfl
theorem q1_134 {c : Cond} : (Jvm.Cond.methodLink "FieldRows$Volume" (99 : Nat) ({ cls := "FieldRows$Volume", name := "faultOfGroupSizes", desc := "(LFieldRows$Row;)I" } : Jvm.MethodName)) ∈ c :: kw_ := kw_1 134 rfl rfl
theorem q1_136 {c : Cond} : (Jvm.Cond.instanceMethod ({ cls := "FieldRows$Volume", name := "faultOfGroupSizes", desc := "(LFieldRows$Row;)I" } : Jvm.MethodName)) ∈ c :: kw_ := kw_1 136 rfl rfl
theorem q1_137 {c : Cond} : (Jvm.Cond.code ({ cls := "FieldRows$Volume", name := "faultOfGroupSizes", desc := "(LFieldRows$Row;)I" } : Jvm.MethodName) prog_3_method_13_code (5 : Nat) (Option.some Jvm.ClassFile.FieldType.int)) ∈ c :: kw_ := kw_1 137 rfl rfl
theorem q1_138 {c : Cond} : (Jvm.Cond.constantLong "FieldRows$Volume" (121 : Nat) (8 : Int64)) ∈ c :: kw_ := kw_1 138 rfl rfl
theorem q1_139 {c : Cond} : (Jvm.Cond.constantLong "FieldRows$Volume" (123 : Nat) (64 : Int64)) ∈ c :: kw_ := kw_1 139 rfl rfl
theorem q1_141 {c : Cond} : (Jvm.Cond.static ({ cls := "FieldRows", name := "isEightfold", desc := "(JJJ)Z" } : Jvm.MethodName)) ∈ c :: kw_ := kw_1 141 rfl rfl
theorem q1_142 {c : Cond} : (Jvm.Cond.code ({ cls := "FieldRows", name := "isEightfold", desc := "(JJJ)Z" } : Jvm.MethodName) prog_1_method_17_code (6 : Nat) (Option.some Jvm.ClassFile.FieldType.boolean)) ∈ c :: kw_ := kw_1 142 rfl rfl
theorem q1_143 {c : Cond} : (Jvm.Cond.constantLong "FieldRows" (130 : Nat) (7 : Int64)) ∈ c :: kw_ := kw_1 143 rfl rfl
theorem q1_145 {c : Cond} : (Jvm.Cond.static ({ cls := "FieldRows", name := "isRecordLength", desc := "(J)Z" } : Jvm.MethodName)) ∈ c :: kw_ := kw_1 145 rfl rfl
theorem q1_146 {c : Cond} : (Jvm.Cond.code ({ cls := "FieldRows", name := "isRecordLength", desc := "(J)Z" } : Jvm.MethodName) prog_1_method_18_code (2 : Nat) (Option.some Jvm.ClassFile.FieldType.boolean)) ∈ c :: kw_ := kw_1 146 rfl rfl
theorem q1_147 {c : Cond} : (Jvm.Cond.constantLong "FieldRows" (132 : Nat) (128 : Int64)) ∈ c :: kw_ := kw_1 147 rfl rfl
theorem q1_148 {c : Cond} : (Jvm.Cond.constantLong "FieldRows" (134 : Nat) (256 : Int64)) ∈ c :: kw_ := kw_1 148 rfl rfl
theorem q1_149 {c : Cond} : (Jvm.Cond.constantLong "FieldRows" (136 : Nat) (512 : Int64)) ∈ c :: kw_ := kw_1 149 rfl rfl
theorem q1_150 {c : Cond} : (Jvm.Cond.constantLong "FieldRows" (138 : Nat) (1024 : Int64)) ∈ c :: kw_ := kw_1 150 rfl rfl
theorem q1_151 {c : Cond} : (Jvm.Cond.constantLong "FieldRows$Volume" (132 : Nat) (16 : Int64)) ∈ c :: kw_ := kw_1 151 rfl rfl
theorem q1_152 {c : Cond} : (Jvm.Cond.methodLink "FieldRows$Volume" (102 : Nat) ({ cls := "FieldRows$Volume", name := "everyGroupHasRoom", desc := "()Z" } : Jvm.MethodName)) ∈ c :: kw_ := kw_1 152 rfl rfl
theorem q1_154 {c : Cond} : (Jvm.Cond.instanceMethod ({ cls := "FieldRows$Volume", name := "everyGroupHasRoom", desc := "()Z" } : Jvm.MethodName)) ∈ c :: kw_ := kw_1 154 rfl rfl
theorem q1_155 {c : Cond} : (Jvm.Cond.code ({ cls := "FieldRows$Volume", name := "everyGroupHasRoom", desc := "()Z" } : Jvm.MethodName) prog_3_method_14_code (2 : Nat) (Option.some Jvm.ClassFile.FieldType.boolean)) ∈ c :: kw_ := kw_1 155 rfl rfl
theorem q1_156 {c : Cond} : (Jvm.Cond.constantLong "FieldRows$Volume" (134 : Nat) (16777216 : Int64)) ∈ c :: kw_ := kw_1 156 rfl rfl
theorem q1_157 {c : Cond} : (Jvm.Cond.methodLink "FieldRows$Volume" (136 : Nat) ({ cls := "FieldRows$Volume", name := "groupLength", desc := "(J)J" } : Jvm.MethodName)) ∈ c :: kw_ := kw_1 157 rfl rfl
theorem q1_158 {c : Cond} : (Jvm.Cond.instanceMethod ({ cls := "FieldRows$Volume", name := "groupLength", desc := "(J)J" } : Jvm.MethodName)) ∈ c :: kw_ := kw_1 158 rfl rfl
theorem q1_159 {c : Cond} : (Jvm.Cond.selects "FieldRows$Volume" ({ cls := "FieldRows$Volume", name := "groupLength", desc := "(J)J" } : Jvm.MethodName) ({ cls := "FieldRows$Volume", name := "groupLength", desc := "(J)J" } : Jvm.MethodName)) ∈ c :: kw_ := kw_1 159 rfl rfl
theorem q1_160 {c : Cond} : (Jvm.Cond.code ({ cls := "FieldRows$Volume", name := "groupLength", desc := "(J)J" } : Jvm.MethodName) prog_3_method_4_code (3 : Nat) (Option.some Jvm.ClassFile.FieldType.long)) ∈ c :: kw_ := kw_1 160 rfl rfl
theorem q1_161 {c : Cond} : (Jvm.Cond.methodLink "FieldRows$Volume" (63 : Nat) ({ cls := "FieldRows$Volume", name := "groupStart", desc := "(J)J" } : Jvm.MethodName)) ∈ c :: kw_ := kw_1 161 rfl rfl
theorem q1_162 {c : Cond} : (Jvm.Cond.instanceMethod ({ cls := "FieldRows$Volume", name := "groupStart", desc := "(J)J" } : Jvm.MethodName)) ∈ c :: kw_ := kw_1 162 rfl rfl
theorem q1_163 {c : Cond} : (Jvm.Cond.selects "FieldRows$Volume" ({ cls := "FieldRows$Volume", name := "groupStart", desc := "(J)J" } : Jvm.MethodName) ({ cls := "FieldRows$Volume", name := "groupStart", desc := "(J)J" } : Jvm.MethodName)) ∈ c :: kw_ := kw_1 163 rfl rfl
theorem q1_164 {c : Cond} : (Jvm.Cond.code ({ cls := "FieldRows$Volume", name := "groupStart", desc := "(J)J" } : Jvm.MethodName) prog_3_method_3_code (3 : Nat) (Option.some Jvm.ClassFile.FieldType.long)) ∈ c :: kw_ := kw_1 164 rfl rfl
theorem q1_165 {c : Cond} : (Jvm.Cond.methodLink "FieldRows$Volume" (67 : Nat) ({ cls := "java/lang/Math", name := "min", desc := "(JJ)J" } : Jvm.MethodName)) ∈ c :: kw_ := kw_1 165 rfl rfl
theorem q1_166 {c : Cond} : (Jvm.Cond.static ({ cls := "java/lang/Math", name := "min", desc := "(JJ)J" } : Jvm.MethodName)) ∈ c :: kw_ := kw_1 166 rfl rfl
theorem q1_167 {c : Cond} : (Jvm.Cond.code ({ cls := "java/lang/Math", name := "min", desc := "(JJ)J" } : Jvm.MethodName) prog_6_method_70_code (4 : Nat) (Option.some Jvm.ClassFile.FieldType.long)) ∈ c :: kw_ := kw_1 167 rfl rfl
theorem q1_168 {c : Cond} : (Jvm.Cond.methodLink "FieldRows$Volume" (139 : Nat) ({ cls := "FieldRows$Volume", name := "fixedBlocks", desc := "(J)J" } : Jvm.MethodName)) ∈ c :: kw_ := kw_1 168 rfl rfl
theorem q1_169 {c : Cond} : (Jvm.Cond.instanceMethod ({ cls := "FieldRows$Volume", name := "fixedBlocks", desc := "(J)J" } : Jvm.MethodName)) ∈ c :: kw_ := kw_1 169 rfl rfl
theorem q1_170 {c : Cond} : (Jvm.Cond.selects "FieldRows$Volume" ({ cls := "FieldRows$Volume", name := "fixedBlocks", desc := "(J)J" } : Jvm.MethodName) ({ cls := "FieldRows$Volume", name := "fixedBlocks", desc := "(J)J" } : Jvm.MethodName)) ∈ c :: kw_ := kw_1 170 rfl rfl
theorem q1_171 {c : Cond} : (Jvm.Cond.code ({ cls := "FieldRows$Volume", name := "fixedBlocks", desc := "(J)J" } : Jvm.MethodName) prog_3_method_10_code (3 : Nat) (Option.some Jvm.ClassFile.FieldType.long)) ∈ c :: kw_ := kw_1 171 rfl rfl
theorem q1_172 {c : Cond} : (Jvm.Cond.methodLink "FieldRows$Volume" (80 : Nat) ({ cls := "FieldRows$Volume", name := "blocksOfCopy", desc := "(J)J" } : Jvm.MethodName)) ∈ c :: kw_ := kw_1 172 rfl rfl
theorem q1_173 {c : Cond} : (Jvm.Cond.instanceMethod ({ cls := "FieldRows$Volume", name := "blocksOfCopy", desc := "(J)J" } : Jvm.MethodName)) ∈ c :: kw_ := kw_1 173 rfl rfl
theorem q1_174 {c : Cond} : (Jvm.Cond.selects "FieldRows$Volume" ({ cls := "FieldRows$Volume", name := "blocksOfCopy", desc := "(J)J" } : Jvm.MethodName) ({ cls := "FieldRows$Volume", name := "blocksOfCopy", desc := "(J)J" } : Jvm.MethodName)) ∈ c :: kw_ := kw_1 174 rfl rfl
theorem q1_175 {c : Cond} : (Jvm.Cond.code ({ cls := "FieldRows$Volume", name := "blocksOfCopy", desc := "(J)J" } : Jvm.MethodName) prog_3_method_6_code (3 : Nat) (Option.some Jvm.ClassFile.FieldType.long)) ∈ c :: kw_ := kw_1 175 rfl rfl
theorem q1_176 {c : Cond} : (Jvm.Cond.methodLink "FieldRows$Volume" (76 : Nat) ({ cls := "FieldRows$Volume", name := "hasCopy", desc := "(J)Z" } : Jvm.MethodName)) ∈ c :: kw_ := kw_1 176 rfl rfl
theorem q1_177 {c : Cond} : (Jvm.Cond.instanceMethod ({ cls := "FieldRows$Volume", name := "hasCopy", desc := "(J)Z" } : Jvm.MethodName)) ∈ c :: kw_ := kw_1 177 rfl rfl
theorem q1_178 {c : Cond} : (Jvm.Cond.selects "FieldRows$Volume" ({ cls := "FieldRows$Volume", name := "hasCopy", desc := "(J)Z" } : Jvm.MethodName) ({ cls := "FieldRows$Volume", name := "hasCopy", desc := "(J)Z" } : Jvm.MethodName)) ∈ c :: kw_ := kw_1 178 rfl rfl
theorem q1_179 {c : Cond} : (Jvm.Cond.code ({ cls := "FieldRows$Volume", name := "hasCopy", desc := "(J)Z" } : Jvm.MethodName) prog_3_method_5_code (4 : Nat) (Option.some Jvm.ClassFile.FieldType.boolean)) ∈ c :: kw_ := kw_1 179 rfl rfl
theorem q1_182 {c : Cond} : (Jvm.Cond.methodLink "FieldRows$Volume" (106 : Nat) ({ cls := "FieldRows$Volume", name := "faultOfCounts", desc := "(LFieldRows$Row;)I" } : Jvm.MethodName)) ∈ c :: kw_ := kw_1 182 rfl rfl
theorem q1_184 {c : Cond} : (Jvm.Cond.instanceMethod ({ cls := "FieldRows$Volume", name := "faultOfCounts", desc := "(LFieldRows$Row;)I" } : Jvm.MethodName)) ∈ c :: kw_ := kw_1 184 rfl rfl
theorem q1_185 {c : Cond} : (Jvm.Cond.code ({ cls := "FieldRows$Volume", name := "faultOfCounts", desc := "(LFieldRows$Row;)I" } : Jvm.MethodName) prog_3_method_15_code (8 : Nat) (Option.some Jvm.ClassFile.FieldType.int)) ∈ c :: kw_ := kw_1 185 rfl rfl
theorem q1_186 {c : Cond} : (Jvm.Cond.constantLong "FieldRows$Volume" (142 : Nat) (3 : Int64)) ∈ c :: kw_ := kw_1 186 rfl rfl
theorem q1_187 {c : Cond} : (Jvm.Cond.constantLong "FieldRows$Volume" (144 : Nat) (11 : Int64)) ∈ c :: kw_ := kw_1 187 rfl rfl
theorem q1_188 {c : Cond} : (Jvm.Cond.methodLink "FieldRows$Volume" (109 : Nat) ({ cls := "FieldRows$Volume", name := "faultOfFeatures", desc := "(LFieldRows$Row;)I" } : Jvm.MethodName)) ∈ c :: kw_ := kw_1 188 rfl rfl
theorem q1_190 {c : Cond} : (Jvm.Cond.instanceMethod ({ cls := "FieldRows$Volume", name := "faultOfFeatures", desc := "(LFieldRows$Row;)I" } : Jvm.MethodName)) ∈ c :: kw_ := kw_1 190 rfl rfl
theorem q1_191 {c : Cond} : (Jvm.Cond.code ({ cls := "FieldRows$Volume", name := "faultOfFeatures", desc := "(LFieldRows$Row;)I" } : Jvm.MethodName) prog_3_method_16_code (5 : Nat) (Option.some Jvm.ClassFile.FieldType.int)) ∈ c :: kw_ := kw_1 191 rfl rfl
theorem q1_192 {c : Cond} : (Jvm.Cond.constantLong "FieldRows$Volume" (146 : Nat) (36 : Int64)) ∈ c :: kw_ := kw_1 192 rfl rfl
theorem q1_193 {c : Cond} : (Jvm.Cond.methodLink "FieldRows$Volume" (148 : Nat) ({ cls := "FieldRows$Volume", name := "unlistedFault", desc := "(IJJ)I" } : Jvm.MethodName)) ∈ c :: kw_ := kw_1 193 rfl rfl
theorem q1_194 {c : Cond} : (Jvm.Cond.static ({ cls := "FieldRows$Volume", name := "unlistedFault", desc := "(IJJ)I" } : Jvm.MethodName)) ∈ c :: kw_ := kw_1 194 rfl rfl
theorem q1_195 {c : Cond} : (Jvm.Cond.code ({ cls := "FieldRows$Volume", name := "unlistedFault", desc := "(IJJ)I" } : Jvm.MethodName) prog_3_method_17_code (6 : Nat) (Option.some Jvm.ClassFile.FieldType.int)) ∈ c :: kw_ := kw_1 195 rfl rfl
theorem q1_196 {c : Cond} : (Jvm.Cond.constantLong "FieldRows$Volume" (156 : Nat) (-1 : Int64)) ∈ c :: kw_ := kw_1 196 rfl rfl
theorem q1_197 {c : Cond} : (Jvm.Cond.constantLong "FieldRows$Volume" (152 : Nat) (70 : Int64)) ∈ c :: kw_ := kw_1 197 rfl rfl
theorem q1_198 {c : Cond} : (Jvm.Cond.constantLong "FieldRows$Volume" (154 : Nat) (66 : Int64)) ∈ c :: kw_ := kw_1 198 rfl rfl
theorem q1_199 {c : Cond} : (Jvm.Cond.methodLink "FieldRows$Volume" (112 : Nat) ({ cls := "FieldRows$Volume", name := "faultOfRest", desc := "(LFieldRows$Row;)I" } : Jvm.MethodName)) ∈ c :: kw_ := kw_1 199 rfl rfl
theorem q1_201 {c : Cond} : (Jvm.Cond.instanceMethod ({ cls := "FieldRows$Volume", name := "faultOfRest", desc := "(LFieldRows$Row;)I" } : Jvm.MethodName)) ∈ c :: kw_ := kw_1 201 rfl rfl
theorem q1_202 {c : Cond} : (Jvm.Cond.code ({ cls := "FieldRows$Volume", name := "faultOfRest", desc := "(LFieldRows$Row;)I" } : Jvm.MethodName) prog_3_method_18_code (8 : Nat) (Option.some Jvm.ClassFile.FieldType.int)) ∈ c :: kw_ := kw_1 202 rfl rfl
theorem q1_203 {c : Cond} : (Jvm.Cond.constantLong "FieldRows$Volume" (158 : Nat) (4 : Int64)) ∈ c :: kw_ := kw_1 203 rfl rfl
theorem q1_204 {c : Cond} : (Jvm.Cond.methodLink "FieldRows" (60 : Nat) ({ cls := "FieldRows$Row", name := "takeAll", desc := "(LFieldRows$Row;)V" } : Jvm.MethodName)) ∈ c :: kw_ := kw_1 204 rfl rfl
theorem q1_205 {c : Cond} : (Jvm.Cond.instanceMethod ({ cls := "FieldRows$Row", name := "takeAll", desc := "(LFieldRows$Row;)V" } : Jvm.MethodName)) ∈ c :: kw_ := kw_1 205 rfl rfl
theorem q1_206 {c : Cond} : (Jvm.Cond.selects "FieldRows$Row" ({ cls := "FieldRows$Row", name := "takeAll", desc := "(LFieldRows$Row;)V" } : Jvm.MethodName) ({ cls := "FieldRows$Row", name := "takeAll", desc := "(LFieldRows$Row;)V" } : Jvm.MethodName)) ∈ c :: kw_ := kw_1 206 rfl rfl
theorem q1_207 {c : Cond} : (Jvm.Cond.code ({ cls := "FieldRows$Row", name := "takeAll", desc := "(LFieldRows$Row;)V" } : Jvm.MethodName) prog_2_method_3_code (3 : Nat) (Option.none : Option Jvm.ClassFile.FieldType)) ∈ c :: kw_ := kw_1 207 rfl rfl
theorem q1_208 {c : Cond} : (Jvm.Cond.fieldLink "FieldRows" (12 : Nat) "FieldRows" "row0" "LFieldRows$Row;") ∈ c :: kw_ := kw_1 208 rfl rfl
theorem q1_209 {c : Cond} : (Jvm.Cond.fieldLink "FieldRows" (16 : Nat) "FieldRows" "row1" "LFieldRows$Row;") ∈ c :: kw_ := kw_1 209 rfl rfl
theorem q1_210 {c : Cond} : (Jvm.Cond.fieldLink "FieldRows" (19 : Nat) "FieldRows" "trial" "LFieldRows$Row;") ∈ c :: kw_ := kw_1 210 rfl rfl
theorem q1_211 {c : Cond} : (Jvm.Cond.fieldLink "FieldRows" (25 : Nat) "FieldRows" "volume" "LFieldRows$Volume;") ∈ c :: kw_ := kw_1 211 rfl rfl
theorem q1_212 {c : Cond} : (Jvm.Cond.laysFinal "FieldRows" "FieldRows" "row0" "LFieldRows$Row;") ∈ c :: kw_ := kw_1 212 rfl rfl
theorem q1_214 {c : Cond} : (Jvm.Cond.laysFinal "FieldRows" "FieldRows" "row1" "LFieldRows$Row;") ∈ c :: kw_ := kw_1 214 rfl rfl
theorem q1_216 {c : Cond} : (Jvm.Cond.laysFinal "FieldRows" "FieldRows" "trial" "LFieldRows$Row;") ∈ c :: kw_ := kw_1 216 rfl rfl
theorem q1_218 {c : Cond} : (Jvm.Cond.laysFinal "FieldRows" "FieldRows" "volume" "LFieldRows$Volume;") ∈ c :: kw_ := kw_1 218 rfl rfl
theorem q1_221 {c : Cond} : (Jvm.Cond.methodLink "FieldRowsLaw" (13 : Nat) ({ cls := "FieldRows", name := "lay", desc := "(IIIII)I" } : Jvm.MethodName)) ∈ c :: kw_ := kw_1 221 rfl rfl
theorem q1_222 {c : Cond} : (Jvm.Cond.methodLink "FieldRowsLaw" (18 : Nat) ({ cls := "FieldRows", name := "poke", desc := "(III)I" } : Jvm.MethodName)) ∈ c :: kw_ := kw_1 222 rfl rfl
theorem q1_223 {c : Cond} : (Jvm.Cond.instanceMethod ({ cls := "FieldRows", name := "poke", desc := "(III)I" } : Jvm.MethodName)) ∈ c :: kw_ := kw_1 223 rfl rfl
theorem q1_224 {c : Cond} : (Jvm.Cond.selects "FieldRows" ({ cls := "FieldRows", name := "poke", desc := "(III)I" } : Jvm.MethodName) ({ cls := "FieldRows", name := "poke", desc := "(III)I" } : Jvm.MethodName)) ∈ c :: kw_ := kw_1 224 rfl rfl
theorem q1_225 {c : Cond} : (Jvm.Cond.code ({ cls := "FieldRows", name := "poke", desc := "(III)I" } : Jvm.MethodName) prog_1_method_3_code (6 : Nat) (Option.some Jvm.ClassFile.FieldType.int)) ∈ c :: kw_ := kw_1 225 rfl rfl
theorem q1_226 {c : Cond} : (Jvm.Cond.methodLink "FieldRows" (63 : Nat) ({ cls := "FieldRows", name := "rowOf", desc := "(I)LFieldRows$Row;" } : Jvm.MethodName)) ∈ c :: kw_ := kw_1 226 rfl rfl
theorem q1_228 {c : Cond} : (Jvm.Cond.instanceMethod ({ cls := "FieldRows", name := "rowOf", desc := "(I)LFieldRows$Row;" } : Jvm.MethodName)) ∈ c :: kw_ := kw_1 228 rfl rfl
theorem q1_229 {c : Cond} : (Jvm.Cond.code ({ cls := "FieldRows", name := "rowOf", desc := "(I)LFieldRows$Row;" } : Jvm.MethodName) prog_1_method_12_code (2 : Nat) (Option.some (Jvm.ClassFile.FieldType.object "FieldRows$Row"))) ∈ c :: kw_ := kw_1 229 rfl rfl
theorem q1_230 {c : Cond} : (Jvm.Cond.methodLink "FieldRows" (67 : Nat) ({ cls := "FieldRows", name := "isField", desc := "(II)Z" } : Jvm.MethodName)) ∈ c :: kw_ := kw_1 230 rfl rfl
theorem q1_231 {c : Cond} : (Jvm.Cond.methodLink "FieldRows" (71 : Nat) ({ cls := "FieldRows$Row", name := "field", desc := "(II)J" } : Jvm.MethodName)) ∈ c :: kw_ := kw_1 231 rfl rfl
theorem q1_232 {c : Cond} : (Jvm.Cond.methodLink "FieldRowsLaw" (23 : Nat) ({ cls := "FieldRows", name := "put", desc := "(IIII)I" } : Jvm.MethodName)) ∈ c :: kw_ := kw_1 232 rfl rfl
theorem q1_233 {c : Cond} : (Jvm.Cond.instanceMethod ({ cls := "FieldRows", name := "put", desc := "(IIII)I" } : Jvm.MethodName)) ∈ c :: kw_ := kw_1 233 rfl rfl
theorem q1_234 {c : Cond} : (Jvm.Cond.selects "FieldRows" ({ cls := "FieldRows", name := "put", desc := "(IIII)I" } : Jvm.MethodName) ({ cls := "FieldRows", name := "put", desc := "(IIII)I" } : Jvm.MethodName)) ∈ c :: kw_ := kw_1 234 rfl rfl
theorem q1_235 {c : Cond} : (Jvm.Cond.code ({ cls := "FieldRows", name := "put", desc := "(IIII)I" } : Jvm.MethodName) prog_1_method_4_code (6 : Nat) (Option.some Jvm.ClassFile.FieldType.int)) ∈ c :: kw_ := kw_1 235 rfl rfl
theorem q1_236 {c : Cond} : (Jvm.Cond.methodLink "FieldRowsLaw" (28 : Nat) ({ cls := "FieldRows", name := "get", desc := "(III)J" } : Jvm.MethodName)) ∈ c :: kw_ := kw_1 236 rfl rfl
theorem q1_237 {c : Cond} : (Jvm.Cond.instanceMethod ({ cls := "FieldRows", name := "get", desc := "(III)J" } : Jvm.MethodName)) ∈ c :: kw_ := kw_1 237 rfl rfl
theorem q1_238 {c : Cond} : (Jvm.Cond.selects "FieldRows" ({ cls := "FieldRows", name := "get", desc := "(III)J" } : Jvm.MethodName) ({ cls := "FieldRows", name := "get", desc := "(III)J" } : Jvm.MethodName)) ∈ c :: kw_ := kw_1 238 rfl rfl
theorem q1_239 {c : Cond} : (Jvm.Cond.code ({ cls := "FieldRows", name := "get", desc := "(III)J" } : Jvm.MethodName) prog_1_method_5_code (5 : Nat) (Option.some Jvm.ClassFile.FieldType.long)) ∈ c :: kw_ := kw_1 239 rfl rfl
theorem q2_0 {c : Cond} : (Jvm.Cond.constantLong "FieldRows" (75 : Nat) (-1 : Int64)) ∈ c :: kw_ := kw_2 0 rfl rfl
theorem q2_1 {c : Cond} : (Jvm.Cond.methodLink "FieldRowsLaw" (33 : Nat) ({ cls := "FieldRows", name := "fault", desc := "(I)I" } : Jvm.MethodName)) ∈ c :: kw_ := kw_2 1 rfl rfl
theorem q2_2 {c : Cond} : (Jvm.Cond.instanceMethod ({ cls := "FieldRows", name := "fault", desc := "(I)I" } : Jvm.MethodName)) ∈ c :: kw_ := kw_2 2 rfl rfl
theorem q2_3 {c : Cond} : (Jvm.Cond.selects "FieldRows" ({ cls := "FieldRows", name := "fault", desc := "(I)I" } : Jvm.MethodName) ({ cls := "FieldRows", name := "fault", desc := "(I)I" } : Jvm.MethodName)) ∈ c :: kw_ := kw_2 3 rfl rfl
theorem q2_4 {c : Cond} : (Jvm.Cond.code ({ cls := "FieldRows", name := "fault", desc := "(I)I" } : Jvm.MethodName) prog_1_method_6_code (3 : Nat) (Option.some Jvm.ClassFile.FieldType.int)) ∈ c :: kw_ := kw_2 4 rfl rfl
theorem q2_5 {c : Cond} : (Jvm.Cond.methodLink "FieldRowsLaw" (38 : Nat) ({ cls := "FieldRows", name := "copy", desc := "(I)I" } : Jvm.MethodName)) ∈ c :: kw_ := kw_2 5 rfl rfl
theorem q2_6 {c : Cond} : (Jvm.Cond.instanceMethod ({ cls := "FieldRows", name := "copy", desc := "(I)I" } : Jvm.MethodName)) ∈ c :: kw_ := kw_2 6 rfl rfl
theorem q2_7 {c : Cond} : (Jvm.Cond.selects "FieldRows" ({ cls := "FieldRows", name := "copy", desc := "(I)I" } : Jvm.MethodName) ({ cls := "FieldRows", name := "copy", desc := "(I)I" } : Jvm.MethodName)) ∈ c :: kw_ := kw_2 7 rfl rfl
theorem q2_8 {c : Cond} : (Jvm.Cond.code ({ cls := "FieldRows", name := "copy", desc := "(I)I" } : Jvm.MethodName) prog_1_method_7_code (2 : Nat) (Option.some Jvm.ClassFile.FieldType.int)) ∈ c :: kw_ := kw_2 8 rfl rfl
theorem q2_9 {c : Cond} : (Jvm.Cond.methodLink "FieldRows" (77 : Nat) ({ cls := "FieldRows", name := "isGroupOfRightRow", desc := "(I)Z" } : Jvm.MethodName)) ∈ c :: kw_ := kw_2 9 rfl rfl
theorem q2_11 {c : Cond} : (Jvm.Cond.instanceMethod ({ cls := "FieldRows", name := "isGroupOfRightRow", desc := "(I)Z" } : Jvm.MethodName)) ∈ c :: kw_ := kw_2 11 rfl rfl
theorem q2_12 {c : Cond} : (Jvm.Cond.code ({ cls := "FieldRows", name := "isGroupOfRightRow", desc := "(I)Z" } : Jvm.MethodName) prog_1_method_13_code (2 : Nat) (Option.some Jvm.ClassFile.FieldType.boolean)) ∈ c :: kw_ := kw_2 12 rfl rfl
theorem q2_13 {c : Cond} : (Jvm.Cond.methodLink "FieldRows" (81 : Nat) ({ cls := "FieldRows$Volume", name := "hasCopy", desc := "(J)Z" } : Jvm.MethodName)) ∈ c :: kw_ := kw_2 13 rfl rfl
theorem q2_14 {c : Cond} : (Jvm.Cond.methodLink "FieldRowsLaw" (42 : Nat) ({ cls := "FieldRows", name := "differs", desc := "()I" } : Jvm.MethodName)) ∈ c :: kw_ := kw_2 14 rfl rfl
theorem q2_15 {c : Cond} : (Jvm.Cond.instanceMethod ({ cls := "FieldRows", name := "differs", desc := "()I" } : Jvm.MethodName)) ∈ c :: kw_ := kw_2 15 rfl rfl
theorem q2_16 {c : Cond} : (Jvm.Cond.selects "FieldRows" ({ cls := "FieldRows", name := "differs", desc := "()I" } : Jvm.MethodName) ({ cls := "FieldRows", name := "differs", desc := "()I" } : Jvm.MethodName)) ∈ c :: kw_ := kw_2 16 rfl rfl
theorem q2_17 {c : Cond} : (Jvm.Cond.code ({ cls := "FieldRows", name := "differs", desc := "()I" } : Jvm.MethodName) prog_1_method_8_code (2 : Nat) (Option.some Jvm.ClassFile.FieldType.int)) ∈ c :: kw_ := kw_2 17 rfl rfl
theorem q2_18 {c : Cond} : (Jvm.Cond.methodLink "FieldRows" (85 : Nat) ({ cls := "FieldRows", name := "isFollowed", desc := "(I)Z" } : Jvm.MethodName)) ∈ c :: kw_ := kw_2 18 rfl rfl
theorem q2_19 {c : Cond} : (Jvm.Cond.static ({ cls := "FieldRows", name := "isFollowed", desc := "(I)Z" } : Jvm.MethodName)) ∈ c :: kw_ := kw_2 19 rfl rfl
theorem q2_20 {c : Cond} : (Jvm.Cond.code ({ cls := "FieldRows", name := "isFollowed", desc := "(I)Z" } : Jvm.MethodName) prog_1_method_15_code (2 : Nat) (Option.some Jvm.ClassFile.FieldType.boolean)) ∈ c :: kw_ := kw_2 20 rfl rfl
theorem q2_21 {c : Cond} : (Jvm.Cond.fieldLink "FieldRows" (126 : Nat) "FieldRows" "NOT_FOLLOWED" "[I") ∈ c :: kw_ := kw_2 21 rfl rfl
theorem q2_23 {c : Cond} : (Jvm.Cond.methodLink "FieldRowsLaw" (47 : Nat) ({ cls := "FieldRows", name := "groups", desc := "()I" } : Jvm.MethodName)) ∈ c :: kw_ := kw_2 23 rfl rfl
theorem q2_24 {c : Cond} : (Jvm.Cond.instanceMethod ({ cls := "FieldRows", name := "groups", desc := "()I" } : Jvm.MethodName)) ∈ c :: kw_ := kw_2 24 rfl rfl
theorem q2_25 {c : Cond} : (Jvm.Cond.selects "FieldRows" ({ cls := "FieldRows", name := "groups", desc := "()I" } : Jvm.MethodName) ({ cls := "FieldRows", name := "groups", desc := "()I" } : Jvm.MethodName)) ∈ c :: kw_ := kw_2 25 rfl rfl
theorem q2_26 {c : Cond} : (Jvm.Cond.code ({ cls := "FieldRows", name := "groups", desc := "()I" } : Jvm.MethodName) prog_1_method_9_code (1 : Nat) (Option.some Jvm.ClassFile.FieldType.int)) ∈ c :: kw_ := kw_2 26 rfl rfl
theorem q2_27 {c : Cond} : (Jvm.Cond.methodLink "FieldRowsLaw" (51 : Nat) ({ cls := "FieldRows", name := "where", desc := "(II)I" } : Jvm.MethodName)) ∈ c :: kw_ := kw_2 27 rfl rfl
theorem q2_28 {c : Cond} : (Jvm.Cond.instanceMethod ({ cls := "FieldRows", name := "where", desc := "(II)I" } : Jvm.MethodName)) ∈ c :: kw_ := kw_2 28 rfl rfl
theorem q2_29 {c : Cond} : (Jvm.Cond.selects "FieldRows" ({ cls := "FieldRows", name := "where", desc := "(II)I" } : Jvm.MethodName) ({ cls := "FieldRows", name := "where", desc := "(II)I" } : Jvm.MethodName)) ∈ c :: kw_ := kw_2 29 rfl rfl
theorem q2_30 {c : Cond} : (Jvm.Cond.code ({ cls := "FieldRows", name := "where", desc := "(II)I" } : Jvm.MethodName) prog_1_method_10_code (3 : Nat) (Option.some Jvm.ClassFile.FieldType.int)) ∈ c :: kw_ := kw_2 30 rfl rfl
theorem q2_31 {c : Cond} : (Jvm.Cond.methodLink "FieldRows" (88 : Nat) ({ cls := "FieldRows$Volume", name := "groupStart", desc := "(J)J" } : Jvm.MethodName)) ∈ c :: kw_ := kw_2 31 rfl rfl
theorem q2_32 {c : Cond} : (Jvm.Cond.methodLink "FieldRows" (92 : Nat) ({ cls := "FieldRows$Volume", name := "groupLength", desc := "(J)J" } : Jvm.MethodName)) ∈ c :: kw_ := kw_2 32 rfl rfl
theorem q2_33 {c : Cond} : (Jvm.Cond.methodLink "FieldRows" (95 : Nat) ({ cls := "FieldRows$Volume", name := "blockBitmap", desc := "(J)J" } : Jvm.MethodName)) ∈ c :: kw_ := kw_2 33 rfl rfl
theorem q2_34 {c : Cond} : (Jvm.Cond.instanceMethod ({ cls := "FieldRows$Volume", name := "blockBitmap", desc := "(J)J" } : Jvm.MethodName)) ∈ c :: kw_ := kw_2 34 rfl rfl
theorem q2_35 {c : Cond} : (Jvm.Cond.selects "FieldRows$Volume" ({ cls := "FieldRows$Volume", name := "blockBitmap", desc := "(J)J" } : Jvm.MethodName) ({ cls := "FieldRows$Volume", name := "blockBitmap", desc := "(J)J" } : Jvm.MethodName)) ∈ c :: kw_ := kw_2 35 rfl rfl
theorem q2_36 {c : Cond} : (Jvm.Cond.code ({ cls := "FieldRows$Volume", name := "blockBitmap", desc := "(J)J" } : Jvm.MethodName) prog_3_method_7_code (3 : Nat) (Option.some Jvm.ClassFile.FieldType.long)) ∈ c :: kw_ := kw_2 36 rfl rfl
theorem q2_37 {c : Cond} : (Jvm.Cond.methodLink "FieldRows" (98 : Nat) ({ cls := "FieldRows$Volume", name := "fileBitmap", desc := "(J)J" } : Jvm.MethodName)) ∈ c :: kw_ := kw_2 37 rfl rfl
theorem q2_38 {c : Cond} : (Jvm.Cond.instanceMethod ({ cls := "FieldRows$Volume", name := "fileBitmap", desc := "(J)J" } : Jvm.MethodName)) ∈ c :: kw_ := kw_2 38 rfl rfl
theorem q2_39 {c : Cond} : (Jvm.Cond.selects "FieldRows$Volume" ({ cls := "FieldRows$Volume", name := "fileBitmap", desc := "(J)J" } : Jvm.MethodName) ({ cls := "FieldRows$Volume", name := "fileBitmap", desc := "(J)J" } : Jvm.MethodName)) ∈ c :: kw_ := kw_2 39 rfl rfl
theorem q2_40 {c : Cond} : (Jvm.Cond.code ({ cls := "FieldRows$Volume", name := "fileBitmap", desc := "(J)J" } : Jvm.MethodName) prog_3_method_8_code (3 : Nat) (Option.some Jvm.ClassFile.FieldType.long)) ∈ c :: kw_ := kw_2 40 rfl rfl
theorem q2_41 {c : Cond} : (Jvm.Cond.methodLink "FieldRows$Volume" (83 : Nat) ({ cls := "FieldRows$Volume", name := "blockBitmap", desc := "(J)J" } : Jvm.MethodName)) ∈ c :: kw_ := kw_2 41 rfl rfl
theorem q2_42 {c : Cond} : (Jvm.Cond.methodLink "FieldRows" (101 : Nat) ({ cls := "FieldRows$Volume", name := "recordStart", desc := "(J)J" } : Jvm.MethodName)) ∈ c :: kw_ := kw_2 42 rfl rfl
theorem q2_43 {c : Cond} : (Jvm.Cond.instanceMethod ({ cls := "FieldRows$Volume", name := "recordStart", desc := "(J)J" } : Jvm.MethodName)) ∈ c :: kw_ := kw_2 43 rfl rfl
theorem q2_44 {c : Cond} : (Jvm.Cond.selects "FieldRows$Volume" ({ cls := "FieldRows$Volume", name := "recordStart", desc := "(J)J" } : Jvm.MethodName) ({ cls := "FieldRows$Volume", name := "recordStart", desc := "(J)J" } : Jvm.MethodName)) ∈ c :: kw_ := kw_2 44 rfl rfl
theorem q2_45 {c : Cond} : (Jvm.Cond.code ({ cls := "FieldRows$Volume", name := "recordStart", desc := "(J)J" } : Jvm.MethodName) prog_3_method_9_code (3 : Nat) (Option.some Jvm.ClassFile.FieldType.long)) ∈ c :: kw_ := kw_2 45 rfl rfl
theorem q2_46 {c : Cond} : (Jvm.Cond.methodLink "FieldRows$Volume" (86 : Nat) ({ cls := "FieldRows$Volume", name := "fileBitmap", desc := "(J)J" } : Jvm.MethodName)) ∈ c :: kw_ := kw_2 46 rfl rfl
theorem q2_47 {c : Cond} : (Jvm.Cond.methodLink "FieldRows" (107 : Nat) ({ cls := "FieldRows$Volume", name := "fixedBlocks", desc := "(J)J" } : Jvm.MethodName)) ∈ c :: kw_ := kw_2 47 rfl rfl
theorem q2_48 {c : Cond} : (Jvm.Cond.methodLink "FieldRowsLaw" (56 : Nat) ({ cls := "FieldRows", name := "record", desc := "(IZ)I" } : Jvm.MethodName)) ∈ c :: kw_ := kw_2 48 rfl rfl
theorem q2_49 {c : Cond} : (Jvm.Cond.instanceMethod ({ cls := "FieldRows", name := "record", desc := "(IZ)I" } : Jvm.MethodName)) ∈ c :: kw_ := kw_2 49 rfl rfl
theorem q2_50 {c : Cond} : (Jvm.Cond.selects "FieldRows" ({ cls := "FieldRows", name := "record", desc := "(IZ)I" } : Jvm.MethodName) ({ cls := "FieldRows", name := "record", desc := "(IZ)I" } : Jvm.MethodName)) ∈ c :: kw_ := kw_2 50 rfl rfl
theorem q2_51 {c : Cond} : (Jvm.Cond.code ({ cls := "FieldRows", name := "record", desc := "(IZ)I" } : Jvm.MethodName) prog_1_method_11_code (11 : Nat) (Option.some Jvm.ClassFile.FieldType.int)) ∈ c :: kw_ := kw_2 51 rfl rfl
theorem q2_52 {c : Cond} : (Jvm.Cond.classLink "FieldRowsLaw" (10 : Nat) "FieldRowsModel") ∈ c :: kw_ := kw_2 52 rfl rfl
theorem q2_53 {c : Cond} : (Jvm.Cond.instantiable "FieldRowsModel" (3 : Nat)) ∈ c :: kw_ := kw_2 53 rfl rfl
theorem q2_54 {c : Cond} : (Jvm.Cond.methodLink "FieldRowsLaw" (12 : Nat) ({ cls := "FieldRowsModel", name := "<init>", desc := "()V" } : Jvm.MethodName)) ∈ c :: kw_ := kw_2 54 rfl rfl
theorem q2_55 {c : Cond} : (Jvm.Cond.instanceMethod ({ cls := "FieldRowsModel", name := "<init>", desc := "()V" } : Jvm.MethodName)) ∈ c :: kw_ := kw_2 55 rfl rfl
theorem q2_56 {c : Cond} : (Jvm.Cond.code ({ cls := "FieldRowsModel", name := "<init>", desc := "()V" } : Jvm.MethodName) prog_5_method_1_code (2 : Nat) (Option.none : Option Jvm.ClassFile.FieldType)) ∈ c :: kw_ := kw_2 56 rfl rfl
theorem q2_57 {c : Cond} : (Jvm.Cond.methodLink "FieldRowsModel" (1 : Nat) ({ cls := "java/lang/Object", name := "<init>", desc := "()V" } : Jvm.MethodName)) ∈ c :: kw_ := kw_2 57 rfl rfl
theorem q2_58 {c : Cond} : (Jvm.Cond.methodLink "FieldRowsModel" (19 : Nat) ({ cls := "FieldRowsModel", name := "lay", desc := "(IIIII)I" } : Jvm.MethodName)) ∈ c :: kw_ := kw_2 58 rfl rfl
theorem q2_59 {c : Cond} : (Jvm.Cond.instanceMethod ({ cls := "FieldRowsModel", name := "lay", desc := "(IIIII)I" } : Jvm.MethodName)) ∈ c :: kw_ := kw_2 59 rfl rfl
theorem q2_60 {c : Cond} : (Jvm.Cond.selects "FieldRowsModel" ({ cls := "FieldRowsModel", name := "lay", desc := "(IIIII)I" } : Jvm.MethodName) ({ cls := "FieldRowsModel", name := "lay", desc := "(IIIII)I" } : Jvm.MethodName)) ∈ c :: kw_ := kw_2 60 rfl rfl
theorem q2_61 {c : Cond} : (Jvm.Cond.code ({ cls := "FieldRowsModel", name := "lay", desc := "(IIIII)I" } : Jvm.MethodName) prog_5_method_27_code (7 : Nat) (Option.some Jvm.ClassFile.FieldType.int)) ∈ c :: kw_ := kw_2 61 rfl rfl
theorem q2_62 {c : Cond} : (Jvm.Cond.methodLink "FieldRowsModel" (126 : Nat) ({ cls := "FieldRowsModel", name := "set", desc := "([IIIJ)V" } : Jvm.MethodName)) ∈ c :: kw_ := kw_2 62 rfl rfl
theorem q2_63 {c : Cond} : (Jvm.Cond.static ({ cls := "FieldRowsModel", name := "set", desc := "([IIIJ)V" } : Jvm.MethodName)) ∈ c :: kw_ := kw_2 63 rfl rfl
theorem q2_64 {c : Cond} : (Jvm.Cond.code ({ cls := "FieldRowsModel", name := "set", desc := "([IIIJ)V" } : Jvm.MethodName) prog_5_method_6_code (6 : Nat) (Option.none : Option Jvm.ClassFile.FieldType)) ∈ c :: kw_ := kw_2 64 rfl rfl
theorem q2_65 {c : Cond} : (Jvm.Cond.constantLong "FieldRowsModel" (25 : Nat) (255 : Int64)) ∈ c :: kw_ := kw_2 65 rfl rfl
theorem q2_66 {c : Cond} : (Jvm.Cond.constantLong "FieldRowsModel" (130 : Nat) (65535 : Int64)) ∈ c :: kw_ := kw_2 66 rfl rfl
theorem q2_67 {c : Cond} : (Jvm.Cond.constantLong "FieldRowsModel" (76 : Nat) (61267 : Int64)) ∈ c :: kw_ := kw_2 67 rfl rfl
theorem q2_68 {c : Cond} : (Jvm.Cond.constantLong "FieldRowsModel" (104 : Nat) (11 : Int64)) ∈ c :: kw_ := kw_2 68 rfl rfl
theorem q2_69 {c : Cond} : (Jvm.Cond.constantLong "FieldRowsModel" (132 : Nat) (36 : Int64)) ∈ c :: kw_ := kw_2 69 rfl rfl
theorem q2_70 {c : Cond} : (Jvm.Cond.constantLong "FieldRowsModel" (134 : Nat) (66 : Int64)) ∈ c :: kw_ := kw_2 70 rfl rfl
theorem q2_71 {c : Cond} : (Jvm.Cond.constantLong "FieldRowsModel" (43 : Nat) (3 : Int64)) ∈ c :: kw_ := kw_2 71 rfl rfl
theorem q2_72 {c : Cond} : (Jvm.Cond.constantLong "FieldRowsModel" (80 : Nat) (8 : Int64)) ∈ c :: kw_ := kw_2 72 rfl rfl
theorem q2_73 {c : Cond} : (Jvm.Cond.methodLink "FieldRowsModel" (63 : Nat) ({ cls := "FieldRowsModel", name := "groupsOf", desc := "([I)J" } : Jvm.MethodName)) ∈ c :: kw_ := kw_2 73 rfl rfl
theorem q2_74 {c : Cond} : (Jvm.Cond.static ({ cls := "FieldRowsModel", name := "groupsOf", desc := "([I)J" } : Jvm.MethodName)) ∈ c :: kw_ := kw_2 74 rfl rfl
theorem q2_75 {c : Cond} : (Jvm.Cond.code ({ cls := "FieldRowsModel", name := "groupsOf", desc := "([I)J" } : Jvm.MethodName) prog_5_method_10_code (1 : Nat) (Option.some Jvm.ClassFile.FieldType.long)) ∈ c :: kw_ := kw_2 75 rfl rfl
theorem q2_76 {c : Cond} : (Jvm.Cond.methodLink "FieldRowsModel" (27 : Nat) ({ cls := "FieldRowsModel", name := "field", desc := "([III)J" } : Jvm.MethodName)) ∈ c :: kw_ := kw_2 76 rfl rfl
theorem q2_77 {c : Cond} : (Jvm.Cond.static ({ cls := "FieldRowsModel", name := "field", desc := "([III)J" } : Jvm.MethodName)) ∈ c :: kw_ := kw_2 77 rfl rfl
theorem q2_78 {c : Cond} : (Jvm.Cond.code ({ cls := "FieldRowsModel", name := "field", desc := "([III)J" } : Jvm.MethodName) prog_5_method_5_code (6 : Nat) (Option.some Jvm.ClassFile.FieldType.long)) ∈ c :: kw_ := kw_2 78 rfl rfl
theorem q2_79 {c : Cond} : (Jvm.Cond.constantLong "FieldRowsModel" (23 : Nat) (256 : Int64)) ∈ c :: kw_ := kw_2 79 rfl rfl
theorem q2_80 {c : Cond} : (Jvm.Cond.methodLink "FieldRowsModel" (33 : Nat) ({ cls := "FieldRowsModel", name := "up", desc := "(JJ)J" } : Jvm.MethodName)) ∈ c :: kw_ := kw_2 80 rfl rfl
theorem q2_81 {c : Cond} : (Jvm.Cond.static ({ cls := "FieldRowsModel", name := "up", desc := "(JJ)J" } : Jvm.MethodName)) ∈ c :: kw_ := kw_2 81 rfl rfl
theorem q2_82 {c : Cond} : (Jvm.Cond.code ({ cls := "FieldRowsModel", name := "up", desc := "(JJ)J" } : Jvm.MethodName) prog_5_method_8_code (4 : Nat) (Option.some Jvm.ClassFile.FieldType.long)) ∈ c :: kw_ := kw_2 82 rfl rfl
theorem q2_83 {c : Cond} : (Jvm.Cond.methodLink "FieldRowsModel" (123 : Nat) ({ cls := "FieldRowsModel", name := "faultOf", desc := "([I)I" } : Jvm.MethodName)) ∈ c :: kw_ := kw_2 83 rfl rfl
theorem q2_84 {c : Cond} : (Jvm.Cond.static ({ cls := "FieldRowsModel", name := "faultOf", desc := "([I)I" } : Jvm.MethodName)) ∈ c :: kw_ := kw_2 84 rfl rfl
theorem q2_85 {c : Cond} : (Jvm.Cond.code ({ cls := "FieldRowsModel", name := "faultOf", desc := "([I)I" } : Jvm.MethodName) prog_5_method_25_code (2 : Nat) (Option.some Jvm.ClassFile.FieldType.int)) ∈ c :: kw_ := kw_2 85 rfl rfl
theorem q2_86 {c : Cond} : (Jvm.Cond.methodLink "FieldRowsModel" (110 : Nat) ({ cls := "FieldRowsModel", name := "faultOfSizes", desc := "([I)I" } : Jvm.MethodName)) ∈ c :: kw_ := kw_2 86 rfl rfl
theorem q2_87 {c : Cond} : (Jvm.Cond.static ({ cls := "FieldRowsModel", name := "faultOfSizes", desc := "([I)I" } : Jvm.MethodName)) ∈ c :: kw_ := kw_2 87 rfl rfl
theorem q2_88 {c : Cond} : (Jvm.Cond.code ({ cls := "FieldRowsModel", name := "faultOfSizes", desc := "([I)I" } : Jvm.MethodName) prog_5_method_19_code (11 : Nat) (Option.some Jvm.ClassFile.FieldType.int)) ∈ c :: kw_ := kw_2 88 rfl rfl
theorem q2_89 {c : Cond} : (Jvm.Cond.constantLong "FieldRowsModel" (41 : Nat) (2 : Int64)) ∈ c :: kw_ := kw_2 89 rfl rfl
theorem q2_90 {c : Cond} : (Jvm.Cond.methodLink "FieldRowsModel" (67 : Nat) ({ cls := "FieldRowsModel", name := "sizeOf", desc := "([I)J" } : Jvm.MethodName)) ∈ c :: kw_ := kw_2 90 rfl rfl
theorem q2_91 {c : Cond} : (Jvm.Cond.static ({ cls := "FieldRowsModel", name := "sizeOf", desc := "([I)J" } : Jvm.MethodName)) ∈ c :: kw_ := kw_2 91 rfl rfl
theorem q2_92 {c : Cond} : (Jvm.Cond.code ({ cls := "FieldRowsModel", name := "sizeOf", desc := "([I)J" } : Jvm.MethodName) prog_5_method_9_code (1 : Nat) (Option.some Jvm.ClassFile.FieldType.long)) ∈ c :: kw_ := kw_2 92 rfl rfl
theorem q2_93 {c : Cond} : (Jvm.Cond.constantLong "FieldRowsModel" (31 : Nat) (1024 : Int64)) ∈ c :: kw_ := kw_2 93 rfl rfl
theorem q2_94 {c : Cond} : (Jvm.Cond.constantLong "FieldRowsModel" (78 : Nat) (64 : Int64)) ∈ c :: kw_ := kw_2 94 rfl rfl
theorem q2_95 {c : Cond} : (Jvm.Cond.methodLink "FieldRowsModel" (82 : Nat) ({ cls := "FieldRowsModel", name := "isIn", desc := "(JJJ)Z" } : Jvm.MethodName)) ∈ c :: kw_ := kw_2 95 rfl rfl
theorem q2_96 {c : Cond} : (Jvm.Cond.static ({ cls := "FieldRowsModel", name := "isIn", desc := "(JJJ)Z" } : Jvm.MethodName)) ∈ c :: kw_ := kw_2 96 rfl rfl
theorem q2_97 {c : Cond} : (Jvm.Cond.code ({ cls := "FieldRowsModel", name := "isIn", desc := "(JJJ)Z" } : Jvm.MethodName) prog_5_method_18_code (6 : Nat) (Option.some Jvm.ClassFile.FieldType.boolean)) ∈ c :: kw_ := kw_2 97 rfl rfl
theorem q2_98 {c : Cond} : (Jvm.Cond.constantLong "FieldRowsModel" (86 : Nat) (128 : Int64)) ∈ c :: kw_ := kw_2 98 rfl rfl
theorem q2_99 {c : Cond} : (Jvm.Cond.constantLong "FieldRowsModel" (88 : Nat) (512 : Int64)) ∈ c :: kw_ := kw_2 99 rfl rfl
theorem q2_100 {c : Cond} : (Jvm.Cond.constantLong "FieldRowsModel" (90 : Nat) (16 : Int64)) ∈ c :: kw_ := kw_2 100 rfl rfl
theorem q2_101 {c : Cond} : (Jvm.Cond.methodLink "FieldRowsModel" (114 : Nat) ({ cls := "FieldRowsModel", name := "faultOfCounts", desc := "([I)I" } : Jvm.MethodName)) ∈ c :: kw_ := kw_2 101 rfl rfl
theorem q2_102 {c : Cond} : (Jvm.Cond.static ({ cls := "FieldRowsModel", name := "faultOfCounts", desc := "([I)I" } : Jvm.MethodName)) ∈ c :: kw_ := kw_2 102 rfl rfl
theorem q2_103 {c : Cond} : (Jvm.Cond.code ({ cls := "FieldRowsModel", name := "faultOfCounts", desc := "([I)I" } : Jvm.MethodName) prog_5_method_21_code (7 : Nat) (Option.some Jvm.ClassFile.FieldType.int)) ∈ c :: kw_ := kw_2 103 rfl rfl
theorem q2_104 {c : Cond} : (Jvm.Cond.methodLink "FieldRowsModel" (100 : Nat) ({ cls := "FieldRowsModel", name := "areBlocksRight", desc := "([I)Z" } : Jvm.MethodName)) ∈ c :: kw_ := kw_2 104 rfl rfl
theorem q2_105 {c : Cond} : (Jvm.Cond.static ({ cls := "FieldRowsModel", name := "areBlocksRight", desc := "([I)Z" } : Jvm.MethodName)) ∈ c :: kw_ := kw_2 105 rfl rfl
theorem q2_106 {c : Cond} : (Jvm.Cond.code ({ cls := "FieldRowsModel", name := "areBlocksRight", desc := "([I)Z" } : Jvm.MethodName) prog_5_method_20_code (6 : Nat) (Option.some Jvm.ClassFile.FieldType.boolean)) ∈ c :: kw_ := kw_2 106 rfl rfl
theorem q2_107 {c : Cond} : (Jvm.Cond.constantLong "FieldRowsModel" (92 : Nat) (16777216 : Int64)) ∈ c :: kw_ := kw_2 107 rfl rfl
theorem q2_108 {c : Cond} : (Jvm.Cond.methodLink "FieldRowsModel" (94 : Nat) ({ cls := "FieldRowsModel", name := "blocksOf", desc := "([IJ)J" } : Jvm.MethodName)) ∈ c :: kw_ := kw_2 108 rfl rfl
theorem q2_109 {c : Cond} : (Jvm.Cond.static ({ cls := "FieldRowsModel", name := "blocksOf", desc := "([IJ)J" } : Jvm.MethodName)) ∈ c :: kw_ := kw_2 109 rfl rfl
theorem q2_110 {c : Cond} : (Jvm.Cond.code ({ cls := "FieldRowsModel", name := "blocksOf", desc := "([IJ)J" } : Jvm.MethodName) prog_5_method_14_code (5 : Nat) (Option.some Jvm.ClassFile.FieldType.long)) ∈ c :: kw_ := kw_2 110 rfl rfl
theorem q2_111 {c : Cond} : (Jvm.Cond.methodLink "FieldRowsModel" (53 : Nat) ({ cls := "FieldRowsModel", name := "beginOf", desc := "([IJ)J" } : Jvm.MethodName)) ∈ c :: kw_ := kw_2 111 rfl rfl
theorem q2_112 {c : Cond} : (Jvm.Cond.static ({ cls := "FieldRowsModel", name := "beginOf", desc := "([IJ)J" } : Jvm.MethodName)) ∈ c :: kw_ := kw_2 112 rfl rfl
theorem q2_113 {c : Cond} : (Jvm.Cond.code ({ cls := "FieldRowsModel", name := "beginOf", desc := "([IJ)J" } : Jvm.MethodName) prog_5_method_13_code (3 : Nat) (Option.some Jvm.ClassFile.FieldType.long)) ∈ c :: kw_ := kw_2 113 rfl rfl
theorem q2_114 {c : Cond} : (Jvm.Cond.methodLink "FieldRowsModel" (97 : Nat) ({ cls := "FieldRowsModel", name := "fixedOf", desc := "([IJ)J" } : Jvm.MethodName)) ∈ c :: kw_ := kw_2 114 rfl rfl
theorem q2_115 {c : Cond} : (Jvm.Cond.static ({ cls := "FieldRowsModel", name := "fixedOf", desc := "([IJ)J" } : Jvm.MethodName)) ∈ c :: kw_ := kw_2 115 rfl rfl
theorem q2_116 {c : Cond} : (Jvm.Cond.code ({ cls := "FieldRowsModel", name := "fixedOf", desc := "([IJ)J" } : Jvm.MethodName) prog_5_method_17_code (3 : Nat) (Option.some Jvm.ClassFile.FieldType.long)) ∈ c :: kw_ := kw_2 116 rfl rfl
theorem q2_117 {c : Cond} : (Jvm.Cond.methodLink "FieldRowsModel" (70 : Nat) ({ cls := "FieldRowsModel", name := "headOf", desc := "([IJ)J" } : Jvm.MethodName)) ∈ c :: kw_ := kw_2 117 rfl rfl
theorem q2_118 {c : Cond} : (Jvm.Cond.static ({ cls := "FieldRowsModel", name := "headOf", desc := "([IJ)J" } : Jvm.MethodName)) ∈ c :: kw_ := kw_2 118 rfl rfl
theorem q2_119 {c : Cond} : (Jvm.Cond.code ({ cls := "FieldRowsModel", name := "headOf", desc := "([IJ)J" } : Jvm.MethodName) prog_5_method_15_code (3 : Nat) (Option.some Jvm.ClassFile.FieldType.long)) ∈ c :: kw_ := kw_2 119 rfl rfl
theorem q2_120 {c : Cond} : (Jvm.Cond.methodLink "FieldRowsModel" (57 : Nat) ({ cls := "FieldRowsModel", name := "hasCopy", desc := "([IJ)Z" } : Jvm.MethodName)) ∈ c :: kw_ := kw_2 120 rfl rfl
theorem q2_121 {c : Cond} : (Jvm.Cond.static ({ cls := "FieldRowsModel", name := "hasCopy", desc := "([IJ)Z" } : Jvm.MethodName)) ∈ c :: kw_ := kw_2 121 rfl rfl
theorem q2_122 {c : Cond} : (Jvm.Cond.code ({ cls := "FieldRowsModel", name := "hasCopy", desc := "([IJ)Z" } : Jvm.MethodName) prog_5_method_12_code (3 : Nat) (Option.some Jvm.ClassFile.FieldType.boolean)) ∈ c :: kw_ := kw_2 122 rfl rfl
theorem q2_123 {c : Cond} : (Jvm.Cond.methodLink "FieldRowsModel" (37 : Nat) ({ cls := "FieldRowsModel", name := "has", desc := "([III)Z" } : Jvm.MethodName)) ∈ c :: kw_ := kw_2 123 rfl rfl
theorem q2_124 {c : Cond} : (Jvm.Cond.static ({ cls := "FieldRowsModel", name := "has", desc := "([III)Z" } : Jvm.MethodName)) ∈ c :: kw_ := kw_2 124 rfl rfl
theorem q2_125 {c : Cond} : (Jvm.Cond.code ({ cls := "FieldRowsModel", name := "has", desc := "([III)Z" } : Jvm.MethodName) prog_5_method_7_code (3 : Nat) (Option.some Jvm.ClassFile.FieldType.boolean)) ∈ c :: kw_ := kw_2 125 rfl rfl
theorem q2_126 {c : Cond} : (Jvm.Cond.methodLink "FieldRowsModel" (45 : Nat) ({ cls := "FieldRowsModel", name := "isPower", desc := "(JJ)Z" } : Jvm.MethodName)) ∈ c :: kw_ := kw_2 126 rfl rfl
theorem q2_127 {c : Cond} : (Jvm.Cond.static ({ cls := "FieldRowsModel", name := "isPower", desc := "(JJ)Z" } : Jvm.MethodName)) ∈ c :: kw_ := kw_2 127 rfl rfl
theorem q2_128 {c : Cond} : (Jvm.Cond.code ({ cls := "FieldRowsModel", name := "isPower", desc := "(JJ)Z" } : Jvm.MethodName) prog_5_method_11_code (6 : Nat) (Option.some Jvm.ClassFile.FieldType.boolean)) ∈ c :: kw_ := kw_2 128 rfl rfl
theorem q2_129 {c : Cond} : (Jvm.Cond.constantLong "FieldRowsModel" (49 : Nat) (5 : Int64)) ∈ c :: kw_ := kw_2 129 rfl rfl
theorem q2_130 {c : Cond} : (Jvm.Cond.constantLong "FieldRowsModel" (51 : Nat) (7 : Int64)) ∈ c :: kw_ := kw_2 130 rfl rfl
theorem q2_131 {c : Cond} : (Jvm.Cond.constantLong "FieldRowsModel" (61 : Nat) (32 : Int64)) ∈ c :: kw_ := kw_2 131 rfl rfl
theorem q2_132 {c : Cond} : (Jvm.Cond.methodLink "FieldRowsModel" (73 : Nat) ({ cls := "FieldRowsModel", name := "recordBlocks", desc := "([I)J" } : Jvm.MethodName)) ∈ c :: kw_ := kw_2 132 rfl rfl
theorem q2_133 {c : Cond} : (Jvm.Cond.static ({ cls := "FieldRowsModel", name := "recordBlocks", desc := "([I)J" } : Jvm.MethodName)) ∈ c :: kw_ := kw_2 133 rfl rfl
theorem q2_134 {c : Cond} : (Jvm.Cond.code ({ cls := "FieldRowsModel", name := "recordBlocks", desc := "([I)J" } : Jvm.MethodName) prog_5_method_16_code (1 : Nat) (Option.some Jvm.ClassFile.FieldType.long)) ∈ c :: kw_ := kw_2 134 rfl rfl
theorem q2_135 {c : Cond} : (Jvm.Cond.methodLink "FieldRowsModel" (117 : Nat) ({ cls := "FieldRowsModel", name := "faultOfFeatures", desc := "([I)I" } : Jvm.MethodName)) ∈ c :: kw_ := kw_2 135 rfl rfl
theorem q2_136 {c : Cond} : (Jvm.Cond.static ({ cls := "FieldRowsModel", name := "faultOfFeatures", desc := "([I)I" } : Jvm.MethodName)) ∈ c :: kw_ := kw_2 136 rfl rfl
theorem q2_137 {c : Cond} : (Jvm.Cond.code ({ cls := "FieldRowsModel", name := "faultOfFeatures", desc := "([I)I" } : Jvm.MethodName) prog_5_method_23_code (3 : Nat) (Option.some Jvm.ClassFile.FieldType.int)) ∈ c :: kw_ := kw_2 137 rfl rfl
theorem q2_138 {c : Cond} : (Jvm.Cond.methodLink "FieldRowsModel" (106 : Nat) ({ cls := "FieldRowsModel", name := "isListed", desc := "(II)Z" } : Jvm.MethodName)) ∈ c :: kw_ := kw_2 138 rfl rfl
theorem q2_139 {c : Cond} : (Jvm.Cond.static ({ cls := "FieldRowsModel", name := "isListed", desc := "(II)Z" } : Jvm.MethodName)) ∈ c :: kw_ := kw_2 139 rfl rfl
theorem q2_140 {c : Cond} : (Jvm.Cond.code ({ cls := "FieldRowsModel", name := "isListed", desc := "(II)Z" } : Jvm.MethodName) prog_5_method_22_code (2 : Nat) (Option.some Jvm.ClassFile.FieldType.boolean)) ∈ c :: kw_ := kw_2 140 rfl rfl
theorem q2_141 {c : Cond} : (Jvm.Cond.methodLink "FieldRowsModel" (120 : Nat) ({ cls := "FieldRowsModel", name := "faultOfRest", desc := "([I)I" } : Jvm.MethodName)) ∈ c :: kw_ := kw_2 141 rfl rfl
theorem q2_142 {c : Cond} : (Jvm.Cond.static ({ cls := "FieldRowsModel", name := "faultOfRest", desc := "([I)I" } : Jvm.MethodName)) ∈ c :: kw_ := kw_2 142 rfl rfl
theorem q2_143 {c : Cond} : (Jvm.Cond.code ({ cls := "FieldRowsModel", name := "faultOfRest", desc := "([I)I" } : Jvm.MethodName) prog_5_method_24_code (1 : Nat) (Option.some Jvm.ClassFile.FieldType.int)) ∈ c :: kw_ := kw_2 143 rfl rfl
theorem q2_144 {c : Cond} : (Jvm.Cond.fieldLink "FieldRowsModel" (7 : Nat) "FieldRowsModel" "first" "[I") ∈ c :: kw_ := kw_2 144 rfl rfl
theorem q2_145 {c : Cond} : (Jvm.Cond.fieldLink "FieldRowsModel" (13 : Nat) "FieldRowsModel" "second" "[I") ∈ c :: kw_ := kw_2 145 rfl rfl
theorem q2_146 {c : Cond} : (Jvm.Cond.fieldLink "FieldRowsModel" (16 : Nat) "FieldRowsModel" "draft" "[I") ∈ c :: kw_ := kw_2 146 rfl rfl
theorem q2_147 {c : Cond} : (Jvm.Cond.laysFinal "FieldRowsModel" "FieldRowsModel" "first" "[I") ∈ c :: kw_ := kw_2 147 rfl rfl
theorem q2_149 {c : Cond} : (Jvm.Cond.laysFinal "FieldRowsModel" "FieldRowsModel" "second" "[I") ∈ c :: kw_ := kw_2 149 rfl rfl
theorem q2_151 {c : Cond} : (Jvm.Cond.laysFinal "FieldRowsModel" "FieldRowsModel" "draft" "[I") ∈ c :: kw_ := kw_2 151 rfl rfl
theorem q2_154 {c : Cond} : (Jvm.Cond.arrayClass Jvm.ClassFile.FieldType.int) ∈ c :: kw_ := kw_2 154 rfl rfl
theorem q2_155 {c : Cond} : (Jvm.Cond.methodLink "FieldRowsLaw" (17 : Nat) ({ cls := "FieldRowsModel", name := "lay", desc := "(IIIII)I" } : Jvm.MethodName)) ∈ c :: kw_ := kw_2 155 rfl rfl
theorem q2_156 {c : Cond} : (Jvm.Cond.methodLink "FieldRowsLaw" (22 : Nat) ({ cls := "FieldRowsModel", name := "poke", desc := "(III)I" } : Jvm.MethodName)) ∈ c :: kw_ := kw_2 156 rfl rfl
theorem q2_157 {c : Cond} : (Jvm.Cond.instanceMethod ({ cls := "FieldRowsModel", name := "poke", desc := "(III)I" } : Jvm.MethodName)) ∈ c :: kw_ := kw_2 157 rfl rfl
theorem q2_158 {c : Cond} : (Jvm.Cond.selects "FieldRowsModel" ({ cls := "FieldRowsModel", name := "poke", desc := "(III)I" } : Jvm.MethodName) ({ cls := "FieldRowsModel", name := "poke", desc := "(III)I" } : Jvm.MethodName)) ∈ c :: kw_ := kw_2 158 rfl rfl
theorem q2_159 {c : Cond} : (Jvm.Cond.code ({ cls := "FieldRowsModel", name := "poke", desc := "(III)I" } : Jvm.MethodName) prog_5_method_28_code (5 : Nat) (Option.some Jvm.ClassFile.FieldType.int)) ∈ c :: kw_ := kw_2 159 rfl rfl
theorem q2_160 {c : Cond} : (Jvm.Cond.methodLink "FieldRowsModel" (136 : Nat) ({ cls := "FieldRowsModel", name := "isRow", desc := "(I)Z" } : Jvm.MethodName)) ∈ c :: kw_ := kw_2 160 rfl rfl
theorem q2_161 {c : Cond} : (Jvm.Cond.static ({ cls := "FieldRowsModel", name := "isRow", desc := "(I)Z" } : Jvm.MethodName)) ∈ c :: kw_ := kw_2 161 rfl rfl
theorem q2_162 {c : Cond} : (Jvm.Cond.code ({ cls := "FieldRowsModel", name := "isRow", desc := "(I)Z" } : Jvm.MethodName) prog_5_method_4_code (1 : Nat) (Option.some Jvm.ClassFile.FieldType.boolean)) ∈ c :: kw_ := kw_2 162 rfl rfl
theorem q2_163 {c : Cond} : (Jvm.Cond.methodLink "FieldRowsModel" (140 : Nat) ({ cls := "FieldRowsModel", name := "rowOf", desc := "(I)[I" } : Jvm.MethodName)) ∈ c :: kw_ := kw_2 163 rfl rfl
theorem q2_165 {c : Cond} : (Jvm.Cond.instanceMethod ({ cls := "FieldRowsModel", name := "rowOf", desc := "(I)[I" } : Jvm.MethodName)) ∈ c :: kw_ := kw_2 165 rfl rfl
theorem q2_166 {c : Cond} : (Jvm.Cond.code ({ cls := "FieldRowsModel", name := "rowOf", desc := "(I)[I" } : Jvm.MethodName) prog_5_method_3_code (2 : Nat) (Option.some (Jvm.ClassFile.FieldType.array Jvm.ClassFile.FieldType.int))) ∈ c :: kw_ := kw_2 166 rfl rfl
theorem q2_167 {c : Cond} : (Jvm.Cond.methodLink "FieldRowsLaw" (27 : Nat) ({ cls := "FieldRowsModel", name := "put", desc := "(IIII)I" } : Jvm.MethodName)) ∈ c :: kw_ := kw_2 167 rfl rfl
theorem q2_168 {c : Cond} : (Jvm.Cond.instanceMethod ({ cls := "FieldRowsModel", name := "put", desc := "(IIII)I" } : Jvm.MethodName)) ∈ c :: kw_ := kw_2 168 rfl rfl
theorem q2_169 {c : Cond} : (Jvm.Cond.selects "FieldRowsModel" ({ cls := "FieldRowsModel", name := "put", desc := "(IIII)I" } : Jvm.MethodName) ({ cls := "FieldRowsModel", name := "put", desc := "(IIII)I" } : Jvm.MethodName)) ∈ c :: kw_ := kw_2 169 rfl rfl
theorem q2_170 {c : Cond} : (Jvm.Cond.code ({ cls := "FieldRowsModel", name := "put", desc := "(IIII)I" } : Jvm.MethodName) prog_5_method_30_code (5 : Nat) (Option.some Jvm.ClassFile.FieldType.int)) ∈ c :: kw_ := kw_2 170 rfl rfl
theorem q2_171 {c : Cond} : (Jvm.Cond.methodLink "FieldRowsModel" (144 : Nat) ({ cls := "FieldRowsModel", name := "isField", desc := "(III)Z" } : Jvm.MethodName)) ∈ c :: kw_ := kw_2 171 rfl rfl
theorem q2_172 {c : Cond} : (Jvm.Cond.static ({ cls := "FieldRowsModel", name := "isField", desc := "(III)Z" } : Jvm.MethodName)) ∈ c :: kw_ := kw_2 172 rfl rfl
theorem q2_173 {c : Cond} : (Jvm.Cond.code ({ cls := "FieldRowsModel", name := "isField", desc := "(III)Z" } : Jvm.MethodName) prog_5_method_29_code (3 : Nat) (Option.some Jvm.ClassFile.FieldType.boolean)) ∈ c :: kw_ := kw_2 173 rfl rfl
theorem q2_174 {c : Cond} : (Jvm.Cond.methodLink "FieldRowsLaw" (32 : Nat) ({ cls := "FieldRowsModel", name := "get", desc := "(III)J" } : Jvm.MethodName)) ∈ c :: kw_ := kw_2 174 rfl rfl
theorem q2_175 {c : Cond} : (Jvm.Cond.instanceMethod ({ cls := "FieldRowsModel", name := "get", desc := "(III)J" } : Jvm.MethodName)) ∈ c :: kw_ := kw_2 175 rfl rfl
theorem q2_176 {c : Cond} : (Jvm.Cond.selects "FieldRowsModel" ({ cls := "FieldRowsModel", name := "get", desc := "(III)J" } : Jvm.MethodName) ({ cls := "FieldRowsModel", name := "get", desc := "(III)J" } : Jvm.MethodName)) ∈ c :: kw_ := kw_2 176 rfl rfl
theorem q2_177 {c : Cond} : (Jvm.Cond.code ({ cls := "FieldRowsModel", name := "get", desc := "(III)J" } : Jvm.MethodName) prog_5_method_31_code (4 : Nat) (Option.some Jvm.ClassFile.FieldType.long)) ∈ c :: kw_ := kw_2 177 rfl rfl
theorem q2_178 {c : Cond} : (Jvm.Cond.constantLong "FieldRowsModel" (148 : Nat) (-1 : Int64)) ∈ c :: kw_ := kw_2 178 rfl rfl
theorem q2_179 {c : Cond} : (Jvm.Cond.methodLink "FieldRowsLaw" (37 : Nat) ({ cls := "FieldRowsModel", name := "fault", desc := "(I)I" } : Jvm.MethodName)) ∈ c :: kw_ := kw_2 179 rfl rfl
theorem q2_180 {c : Cond} : (Jvm.Cond.instanceMethod ({ cls := "FieldRowsModel", name := "fault", desc := "(I)I" } : Jvm.MethodName)) ∈ c :: kw_ := kw_2 180 rfl rfl
theorem q2_181 {c : Cond} : (Jvm.Cond.selects "FieldRowsModel" ({ cls := "FieldRowsModel", name := "fault", desc := "(I)I" } : Jvm.MethodName) ({ cls := "FieldRowsModel", name := "fault", desc := "(I)I" } : Jvm.MethodName)) ∈ c :: kw_ := kw_2 181 rfl rfl
theorem q2_182 {c : Cond} : (Jvm.Cond.code ({ cls := "FieldRowsModel", name := "fault", desc := "(I)I" } : Jvm.MethodName) prog_5_method_32_code (2 : Nat) (Option.some Jvm.ClassFile.FieldType.int)) ∈ c :: kw_ := kw_2 182 rfl rfl
theorem q2_183 {c : Cond} : (Jvm.Cond.methodLink "FieldRowsLaw" (41 : Nat) ({ cls := "FieldRowsModel", name := "copy", desc := "(I)I" } : Jvm.MethodName)) ∈ c :: kw_ := kw_2 183 rfl rfl
theorem q2_184 {c : Cond} : (Jvm.Cond.instanceMethod ({ cls := "FieldRowsModel", name := "copy", desc := "(I)I" } : Jvm.MethodName)) ∈ c :: kw_ := kw_2 184 rfl rfl
theorem q2_185 {c : Cond} : (Jvm.Cond.selects "FieldRowsModel" ({ cls := "FieldRowsModel", name := "copy", desc := "(I)I" } : Jvm.MethodName) ({ cls := "FieldRowsModel", name := "copy", desc := "(I)I" } : Jvm.MethodName)) ∈ c :: kw_ := kw_2 185 rfl rfl
theorem q2_186 {c : Cond} : (Jvm.Cond.code ({ cls := "FieldRowsModel", name := "copy", desc := "(I)I" } : Jvm.MethodName) prog_5_method_33_code (3 : Nat) (Option.some Jvm.ClassFile.FieldType.int)) ∈ c :: kw_ := kw_2 186 rfl rfl
theorem q2_187 {c : Cond} : (Jvm.Cond.methodLink "FieldRowsModel" (150 : Nat) ({ cls := "FieldRowsModel", name := "isRight", desc := "()Z" } : Jvm.MethodName)) ∈ c :: kw_ := kw_2 187 rfl rfl
theorem q2_189 {c : Cond} : (Jvm.Cond.instanceMethod ({ cls := "FieldRowsModel", name := "isRight", desc := "()Z" } : Jvm.MethodName)) ∈ c :: kw_ := kw_2 189 rfl rfl
theorem q2_190 {c : Cond} : (Jvm.Cond.code ({ cls := "FieldRowsModel", name := "isRight", desc := "()Z" } : Jvm.MethodName) prog_5_method_26_code (1 : Nat) (Option.some Jvm.ClassFile.FieldType.boolean)) ∈ c :: kw_ := kw_2 190 rfl rfl
theorem q2_191 {c : Cond} : (Jvm.Cond.methodLink "FieldRowsLaw" (46 : Nat) ({ cls := "FieldRowsModel", name := "differs", desc := "()I" } : Jvm.MethodName)) ∈ c :: kw_ := kw_2 191 rfl rfl
theorem q2_192 {c : Cond} : (Jvm.Cond.instanceMethod ({ cls := "FieldRowsModel", name := "differs", desc := "()I" } : Jvm.MethodName)) ∈ c :: kw_ := kw_2 192 rfl rfl
theorem q2_193 {c : Cond} : (Jvm.Cond.selects "FieldRowsModel" ({ cls := "FieldRowsModel", name := "differs", desc := "()I" } : Jvm.MethodName) ({ cls := "FieldRowsModel", name := "differs", desc := "()I" } : Jvm.MethodName)) ∈ c :: kw_ := kw_2 193 rfl rfl
theorem q2_194 {c : Cond} : (Jvm.Cond.code ({ cls := "FieldRowsModel", name := "differs", desc := "()I" } : Jvm.MethodName) prog_5_method_35_code (2 : Nat) (Option.some Jvm.ClassFile.FieldType.int)) ∈ c :: kw_ := kw_2 194 rfl rfl
theorem q2_195 {c : Cond} : (Jvm.Cond.methodLink "FieldRowsModel" (174 : Nat) ({ cls := "FieldRowsModel", name := "mayDiffer", desc := "(I)Z" } : Jvm.MethodName)) ∈ c :: kw_ := kw_2 195 rfl rfl
theorem q2_196 {c : Cond} : (Jvm.Cond.static ({ cls := "FieldRowsModel", name := "mayDiffer", desc := "(I)Z" } : Jvm.MethodName)) ∈ c :: kw_ := kw_2 196 rfl rfl
theorem q2_197 {c : Cond} : (Jvm.Cond.code ({ cls := "FieldRowsModel", name := "mayDiffer", desc := "(I)Z" } : Jvm.MethodName) prog_5_method_34_code (1 : Nat) (Option.some Jvm.ClassFile.FieldType.boolean)) ∈ c :: kw_ := kw_2 197 rfl rfl
theorem q2_198 {c : Cond} : (Jvm.Cond.constantLong "FieldRowsModel" (154 : Nat) (12 : Int64)) ∈ c :: kw_ := kw_2 198 rfl rfl
theorem q2_199 {c : Cond} : (Jvm.Cond.constantLong "FieldRowsModel" (156 : Nat) (19 : Int64)) ∈ c :: kw_ := kw_2 199 rfl rfl
theorem q2_200 {c : Cond} : (Jvm.Cond.constantLong "FieldRowsModel" (158 : Nat) (44 : Int64)) ∈ c :: kw_ := kw_2 200 rfl rfl
theorem q2_201 {c : Cond} : (Jvm.Cond.constantLong "FieldRowsModel" (160 : Nat) (53 : Int64)) ∈ c :: kw_ := kw_2 201 rfl rfl
theorem q2_202 {c : Cond} : (Jvm.Cond.constantLong "FieldRowsModel" (162 : Nat) (58 : Int64)) ∈ c :: kw_ := kw_2 202 rfl rfl
theorem q2_203 {c : Cond} : (Jvm.Cond.constantLong "FieldRowsModel" (164 : Nat) (59 : Int64)) ∈ c :: kw_ := kw_2 203 rfl rfl
theorem q2_204 {c : Cond} : (Jvm.Cond.constantLong "FieldRowsModel" (166 : Nat) (90 : Int64)) ∈ c :: kw_ := kw_2 204 rfl rfl
theorem q2_205 {c : Cond} : (Jvm.Cond.constantLong "FieldRowsModel" (168 : Nat) (91 : Int64)) ∈ c :: kw_ := kw_2 205 rfl rfl
theorem q2_206 {c : Cond} : (Jvm.Cond.constantLong "FieldRowsModel" (170 : Nat) (232 : Int64)) ∈ c :: kw_ := kw_2 206 rfl rfl
theorem q2_207 {c : Cond} : (Jvm.Cond.constantLong "FieldRowsModel" (172 : Nat) (235 : Int64)) ∈ c :: kw_ := kw_2 207 rfl rfl
theorem q2_208 {c : Cond} : (Jvm.Cond.methodLink "FieldRowsLaw" (50 : Nat) ({ cls := "FieldRowsModel", name := "groups", desc := "()I" } : Jvm.MethodName)) ∈ c :: kw_ := kw_2 208 rfl rfl
theorem q2_209 {c : Cond} : (Jvm.Cond.instanceMethod ({ cls := "FieldRowsModel", name := "groups", desc := "()I" } : Jvm.MethodName)) ∈ c :: kw_ := kw_2 209 rfl rfl
theorem q2_210 {c : Cond} : (Jvm.Cond.selects "FieldRowsModel" ({ cls := "FieldRowsModel", name := "groups", desc := "()I" } : Jvm.MethodName) ({ cls := "FieldRowsModel", name := "groups", desc := "()I" } : Jvm.MethodName)) ∈ c :: kw_ := kw_2 210 rfl rfl
theorem q2_211 {c : Cond} : (Jvm.Cond.code ({ cls := "FieldRowsModel", name := "groups", desc := "()I" } : Jvm.MethodName) prog_5_method_36_code (1 : Nat) (Option.some Jvm.ClassFile.FieldType.int)) ∈ c :: kw_ := kw_2 211 rfl rfl
theorem q2_212 {c : Cond} : (Jvm.Cond.methodLink "FieldRowsLaw" (55 : Nat) ({ cls := "FieldRowsModel", name := "where", desc := "(II)I" } : Jvm.MethodName)) ∈ c :: kw_ := kw_2 212 rfl rfl
theorem q2_213 {c : Cond} : (Jvm.Cond.instanceMethod ({ cls := "FieldRowsModel", name := "where", desc := "(II)I" } : Jvm.MethodName)) ∈ c :: kw_ := kw_2 213 rfl rfl
theorem q2_214 {c : Cond} : (Jvm.Cond.selects "FieldRowsModel" ({ cls := "FieldRowsModel", name := "where", desc := "(II)I" } : Jvm.MethodName) ({ cls := "FieldRowsModel", name := "where", desc := "(II)I" } : Jvm.MethodName)) ∈ c :: kw_ := kw_2 214 rfl rfl
theorem q2_215 {c : Cond} : (Jvm.Cond.code ({ cls := "FieldRowsModel", name := "where", desc := "(II)I" } : Jvm.MethodName) prog_5_method_37_code (7 : Nat) (Option.some Jvm.ClassFile.FieldType.int)) ∈ c :: kw_ := kw_2 215 rfl rfl
theorem q2_216 {c : Cond} : (Jvm.Cond.methodLink "FieldRowsLaw" (60 : Nat) ({ cls := "FieldRowsModel", name := "record", desc := "(IZ)I" } : Jvm.MethodName)) ∈ c :: kw_ := kw_2 216 rfl rfl
theorem q2_217 {c : Cond} : (Jvm.Cond.instanceMethod ({ cls := "FieldRowsModel", name := "record", desc := "(IZ)I" } : Jvm.MethodName)) ∈ c :: kw_ := kw_2 217 rfl rfl
theorem q2_218 {c : Cond} : (Jvm.Cond.selects "FieldRowsModel" ({ cls := "FieldRowsModel", name := "record", desc := "(IZ)I" } : Jvm.MethodName) ({ cls := "FieldRowsModel", name := "record", desc := "(IZ)I" } : Jvm.MethodName)) ∈ c :: kw_ := kw_2 218 rfl rfl
theorem q2_219 {c : Cond} : (Jvm.Cond.code ({ cls := "FieldRowsModel", name := "record", desc := "(IZ)I" } : Jvm.MethodName) prog_5_method_38_code (9 : Nat) (Option.some Jvm.ClassFile.FieldType.int)) ∈ c :: kw_ := kw_2 219 rfl rfl
theorem q2_220 {c : Cond} : (Jvm.Cond.methodLink "FieldRowsModel" (177 : Nat) ({ cls := "FieldRowsModel", name := "where", desc := "(II)I" } : Jvm.MethodName)) ∈ c :: kw_ := kw_2 220 rfl rfl
theorem q0_0 {c : Cond} : (Cond.selects "FieldRows$Volume" ⟨"FieldRows$Volume", "faultOfForm", "(LFieldRows$Row;)I"⟩ ⟨"FieldRows$Volume", "faultOfForm", "(LFieldRows$Row;)I"⟩) ∈ c :: kw_ := kw_0 0 rfl rfl
theorem q0_1 {c : Cond} : (Cond.selects "FieldRows$Volume" ⟨"FieldRows$Volume", "faultOfGroupSizes", "(LFieldRows$Row;)I"⟩ ⟨"FieldRows$Volume", "faultOfGroupSizes", "(LFieldRows$Row;)I"⟩) ∈ c :: kw_ := kw_0 1 rfl rfl
theorem q0_2 {c : Cond} : (Cond.selects "FieldRows$Volume" ⟨"FieldRows$Volume", "everyGroupHasRoom", "()Z"⟩ ⟨"FieldRows$Volume", "everyGroupHasRoom", "()Z"⟩) ∈ c :: kw_ := kw_0 2 rfl rfl
theorem q0_3 {c : Cond} : (Cond.selects "FieldRows$Volume" ⟨"FieldRows$Volume", "faultOfCounts", "(LFieldRows$Row;)I"⟩ ⟨"FieldRows$Volume", "faultOfCounts", "(LFieldRows$Row;)I"⟩) ∈ c :: kw_ := kw_0 3 rfl rfl
theorem q0_4 {c : Cond} : (Cond.selects "FieldRows$Volume" ⟨"FieldRows$Volume", "faultOfFeatures", "(LFieldRows$Row;)I"⟩ ⟨"FieldRows$Volume", "faultOfFeatures", "(LFieldRows$Row;)I"⟩) ∈ c :: kw_ := kw_0 4 rfl rfl
theorem q0_5 {c : Cond} : (Cond.selects "FieldRows$Volume" ⟨"FieldRows$Volume", "faultOfRest", "(LFieldRows$Row;)I"⟩ ⟨"FieldRows$Volume", "faultOfRest", "(LFieldRows$Row;)I"⟩) ∈ c :: kw_ := kw_0 5 rfl rfl
theorem q0_6 {c : Cond} : (Cond.selects "FieldRows" ⟨"FieldRows", "rowOf", "(I)LFieldRows$Row;"⟩ ⟨"FieldRows", "rowOf", "(I)LFieldRows$Row;"⟩) ∈ c :: kw_ := kw_0 6 rfl rfl
theorem q0_7 {c : Cond} : (Cond.selects "FieldRows" ⟨"FieldRows", "isGroupOfRightRow", "(I)Z"⟩ ⟨"FieldRows", "isGroupOfRightRow", "(I)Z"⟩) ∈ c :: kw_ := kw_0 7 rfl rfl
theorem q0_8 {c : Cond} : (Cond.selects "FieldRowsModel" ⟨"FieldRowsModel", "rowOf", "(I)[I"⟩ ⟨"FieldRowsModel", "rowOf", "(I)[I"⟩) ∈ c :: kw_ := kw_0 8 rfl rfl
theorem q0_9 {c : Cond} : (Cond.selects "FieldRowsModel" ⟨"FieldRowsModel", "isRight", "()Z"⟩ ⟨"FieldRowsModel", "isRight", "()Z"⟩) ∈ c :: kw_ := kw_0 9 rfl rfl
theorem q1_16 : (Jvm.Cond.methodLinkNest "FieldRows" (11 : Nat) ({ cls := "FieldRows$Row", name := "<init>", desc := "()V" } : Jvm.MethodName) "FieldRows") ∈ kf_nw := kf_nw1 16 rfl rfl
theorem q1_27 : (Jvm.Cond.methodLinkNest "FieldRows" (24 : Nat) ({ cls := "FieldRows$Volume", name := "<init>", desc := "()V" } : Jvm.MethodName) "FieldRows") ∈ kf_nw := kf_nw1 27 rfl rfl
theorem q1_32 : (Jvm.Cond.fieldLinkNest "FieldRows" (110 : Nat) "FieldRows$Volume" "files" "J" "FieldRows") ∈ kf_nw := kf_nw1 32 rfl rfl
theorem q1_37 : (Jvm.Cond.fieldLinkNest "FieldRows" (123 : Nat) "FieldRows$Volume" "size" "J" "FieldRows") ∈ kf_nw := kf_nw1 37 rfl rfl
theorem q1_40 : (Jvm.Cond.fieldLinkNest "FieldRows" (113 : Nat) "FieldRows$Volume" "groupFiles" "J" "FieldRows") ∈ kf_nw := kf_nw1 40 rfl rfl
theorem q1_42 : (Jvm.Cond.fieldLinkNest "FieldRows" (120 : Nat) "FieldRows$Volume" "recordBytes" "J" "FieldRows") ∈ kf_nw := kf_nw1 42 rfl rfl
theorem q1_45 : (Jvm.Cond.fieldLinkNest "FieldRows" (52 : Nat) "FieldRows$Volume" "groupCount" "J" "FieldRows") ∈ kf_nw := kf_nw1 45 rfl rfl
theorem q1_48 : (Jvm.Cond.fieldLinkNest "FieldRows" (104 : Nat) "FieldRows$Volume" "recordBlocks" "J" "FieldRows") ∈ kf_nw := kf_nw1 48 rfl rfl
theorem q1_92 : (Jvm.Cond.methodLinkNest "FieldRows$Row" (15 : Nat) ({ cls := "FieldRows", name := "isField", desc := "(II)Z" } : Jvm.MethodName) "FieldRows") ∈ kf_nw := kf_nw1 92 rfl rfl
theorem q1_115 : (Jvm.Cond.methodLinkNest "FieldRows$Volume" (48 : Nat) ({ cls := "FieldRows", name := "quotientUp", desc := "(JJ)J" } : Jvm.MethodName) "FieldRows") ∈ kf_nw := kf_nw1 115 rfl rfl
theorem q1_133 : (Jvm.Cond.methodLinkNest "FieldRows$Volume" (117 : Nat) ({ cls := "FieldRows", name := "firstFor", desc := "(J)I" } : Jvm.MethodName) "FieldRows") ∈ kf_nw := kf_nw1 133 rfl rfl
theorem q1_140 : (Jvm.Cond.methodLinkNest "FieldRows$Volume" (125 : Nat) ({ cls := "FieldRows", name := "isEightfold", desc := "(JJJ)Z" } : Jvm.MethodName) "FieldRows") ∈ kf_nw := kf_nw1 140 rfl rfl
theorem q1_144 : (Jvm.Cond.methodLinkNest "FieldRows$Volume" (129 : Nat) ({ cls := "FieldRows", name := "isRecordLength", desc := "(J)Z" } : Jvm.MethodName) "FieldRows") ∈ kf_nw := kf_nw1 144 rfl rfl
theorem q1_180 : (Jvm.Cond.fieldLinkNest "FieldRows$Volume" (72 : Nat) "FieldRows" "FEW_COPIES" "[I" "FieldRows") ∈ kf_nw := kf_nw1 180 rfl rfl

theorem ku_Row {c : Cond} : ∀ w ∈ u_ws "FieldRows$Row" F_Row 1, w ∈ c :: kw_ := by
  intro w hw
  obtain ⟨k, hk, rfl⟩ := List.mem_map.mp hw
  have hk := List.mem_range.mp hk
  obtain rfl : k = 0 := by omega
  exact q1_21
theorem ku_Vol {c : Cond} : ∀ w ∈ u_ws "FieldRows$Volume" F_Vol 12, w ∈ c :: kw_ := by
  intro w hw
  obtain ⟨k, hk, rfl⟩ := List.mem_map.mp hw
  have hk := List.mem_range.mp hk
  rcases (show k = 0 ∨ k = 1 ∨ k = 2 ∨ k = 3 ∨ k = 4 ∨ k = 5 ∨ k = 6 ∨ k = 7 ∨ k = 8 ∨ k = 9 ∨ k = 10 ∨ k = 11 by omega) with rfl | rfl | rfl | rfl | rfl | rfl | rfl | rfl | rfl | rfl | rfl | rfl
  · exact q1_49
  · exact q1_51
  · exact q1_53
  · exact q1_55
  · exact q1_57
  · exact q1_59
  · exact q1_61
  · exact q1_63
  · exact q1_65
  · exact q1_67
  · exact q1_69
  · exact q1_71
theorem ku_FR {c : Cond} : ∀ w ∈ u_ws "FieldRows" F_FR 4, w ∈ c :: kw_ := by
  intro w hw
  obtain ⟨k, hk, rfl⟩ := List.mem_map.mp hw
  have hk := List.mem_range.mp hk
  rcases (show k = 0 ∨ k = 1 ∨ k = 2 ∨ k = 3 by omega) with rfl | rfl | rfl | rfl
  · exact q1_212
  · exact q1_214
  · exact q1_216
  · exact q1_218
theorem ku_Mo {c : Cond} : ∀ w ∈ u_ws "FieldRowsModel" F_Mo 3, w ∈ c :: kw_ := by
  intro w hw
  obtain ⟨k, hk, rfl⟩ := List.mem_map.mp hw
  have hk := List.mem_range.mp hk
  rcases (show k = 0 ∨ k = 1 ∨ k = 2 by omega) with rfl | rfl | rfl
  · exact q2_147
  · exact q2_149
  · exact q2_151

