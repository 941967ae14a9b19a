abbrev zy_Line_init : MethodName := ⟨"GridRouter$Line", "<init>", "()V"⟩
abbrev zc_Line_init : ByteArray := prog_5_method_1_code
abbrev zy_Nets_init : MethodName := ⟨"GridRouter$Nets", "<init>", "(LGridRouter$Grid;)V"⟩
abbrev zc_Nets_init : ByteArray := prog_6_method_1_code
abbrev zy_Layout_init : MethodName := ⟨"GridRouter$Layout", "<init>", "(LGridRouter$Grid;LGridRouter$Nets;)V"⟩
abbrev zc_Layout_init : ByteArray := prog_4_method_1_code
abbrev zy_Rules_init : MethodName := ⟨"GridRouter$Rules", "<init>", "(LGridRouter$Grid;LGridRouter$Nets;LGridRouter$Layout;Z)V"⟩
abbrev zc_Rules_init : ByteArray := prog_8_method_1_code
abbrev zy_Checker_init : MethodName := ⟨"GridRouter$Checker", "<init>", "(LGridRouter$Grid;LGridRouter$Nets;LGridRouter$Layout;LGridRouter$Rules;)V"⟩
abbrev zc_Checker_init : ByteArray := prog_2_method_1_code
abbrev zy_WayFinder_init : MethodName := ⟨"GridRouter$WayFinder", "<init>", "(LGridRouter$Grid;LGridRouter$Nets;LGridRouter$Rules;I)V"⟩
abbrev zc_WayFinder_init : ByteArray := prog_10_method_1_code
abbrev zy_Router_init : MethodName := ⟨"GridRouter$Router", "<init>", "(LGridRouter$Grid;LGridRouter$Nets;LGridRouter$Layout;LGridRouter$Rules;LGridRouter$Checker;I)V"⟩
abbrev zc_Router_init : ByteArray := prog_7_method_1_code
abbrev zy_Shapes_init : MethodName := ⟨"GridRouter$Shapes", "<init>", "(LGridRouter$Grid;LGridRouter$Layout;)V"⟩
abbrev zc_Shapes_init : ByteArray := prog_9_method_1_code
abbrev zy_fill : MethodName := ⟨"java/util/Arrays", "fill", "([II)V"⟩
abbrev zc_fill : ByteArray := prog_22_method_103_code
theorem zdd_fill : zy_fill.cls ≠ "java/lang/invoke/MethodHandle" ∧ zy_fill.cls ≠ "java/lang/invoke/VarHandle" ∧ (parseMethodDescriptor zy_fill.desc).map (fun d => d.parameters.length) = some 2 := by decide +kernel
theorem zdd_Line_init : zy_Line_init.cls ≠ "java/lang/invoke/MethodHandle" ∧ zy_Line_init.cls ≠ "java/lang/invoke/VarHandle" ∧ (parseMethodDescriptor zy_Line_init.desc).map (fun d => d.parameters.length) = some 0 := by decide +kernel
theorem zdd_Nets_init : zy_Nets_init.cls ≠ "java/lang/invoke/MethodHandle" ∧ zy_Nets_init.cls ≠ "java/lang/invoke/VarHandle" ∧ (parseMethodDescriptor zy_Nets_init.desc).map (fun d => d.parameters.length) = some 1 := by decide +kernel
theorem zdd_Layout_init : zy_Layout_init.cls ≠ "java/lang/invoke/MethodHandle" ∧ zy_Layout_init.cls ≠ "java/lang/invoke/VarHandle" ∧ (parseMethodDescriptor zy_Layout_init.desc).map (fun d => d.parameters.length) = some 2 := by decide +kernel
theorem zdd_Rules_init : zy_Rules_init.cls ≠ "java/lang/invoke/MethodHandle" ∧ zy_Rules_init.cls ≠ "java/lang/invoke/VarHandle" ∧ (parseMethodDescriptor zy_Rules_init.desc).map (fun d => d.parameters.length) = some 4 := by decide +kernel
theorem zdd_Checker_init : zy_Checker_init.cls ≠ "java/lang/invoke/MethodHandle" ∧ zy_Checker_init.cls ≠ "java/lang/invoke/VarHandle" ∧ (parseMethodDescriptor zy_Checker_init.desc).map (fun d => d.parameters.length) = some 4 := by decide +kernel
theorem zdd_WayFinder_init : zy_WayFinder_init.cls ≠ "java/lang/invoke/MethodHandle" ∧ zy_WayFinder_init.cls ≠ "java/lang/invoke/VarHandle" ∧ (parseMethodDescriptor zy_WayFinder_init.desc).map (fun d => d.parameters.length) = some 4 := by decide +kernel
theorem zdd_Router_init : zy_Router_init.cls ≠ "java/lang/invoke/MethodHandle" ∧ zy_Router_init.cls ≠ "java/lang/invoke/VarHandle" ∧ (parseMethodDescriptor zy_Router_init.desc).map (fun d => d.parameters.length) = some 6 := by decide +kernel
theorem zdd_Shapes_init : zy_Shapes_init.cls ≠ "java/lang/invoke/MethodHandle" ∧ zy_Shapes_init.cls ≠ "java/lang/invoke/VarHandle" ∧ (parseMethodDescriptor zy_Shapes_init.desc).map (fun d => d.parameters.length) = some 2 := by decide +kernel
theorem tk_4 : (Jvm.Cond.initialized "java/util/Arrays") ∈ zq_T := zq_tm 4 (by decide +kernel) (by decide +kernel)
theorem tk_27 : (Jvm.Cond.instanceMethod ({ cls := "java/lang/Object", name := "<init>", desc := "()V" } : Jvm.MethodName)) ∈ zq_T := zq_tm 27 (by decide +kernel) (by decide +kernel)
theorem tk_28 : (Jvm.Cond.code ({ cls := "java/lang/Object", name := "<init>", desc := "()V" } : Jvm.MethodName) object_method_1_code (1 : Nat) (Option.none : Option Jvm.ClassFile.FieldType)) ∈ zq_T := zq_tm 28 (by decide +kernel) (by decide +kernel)
theorem tk_43 : (Jvm.Cond.fieldLink "GridRouter$Layout" (29 : Nat) "GridRouter$Grid" "area" "I") ∈ zq_T := zq_tm 43 (by decide +kernel) (by decide +kernel)
theorem tk_46 : (Jvm.Cond.fieldLink "GridRouter$Rules" (27 : Nat) "GridRouter$Grid" "cells" "I") ∈ zq_T := zq_tm 46 (by decide +kernel) (by decide +kernel)
theorem tk_48 : (Jvm.Cond.fieldLink "GridRouter$Nets" (26 : Nat) "GridRouter$Grid" "cells" "I") ∈ zq_T := zq_tm 48 (by decide +kernel) (by decide +kernel)
theorem tk_75 : (Jvm.Cond.arrayClass Jvm.ClassFile.FieldType.int) ∈ zq_T := zq_tm 75 (by decide +kernel) (by decide +kernel)
theorem tk_81 : (Jvm.Cond.methodLink "GridRouter$Nets" (3 : Nat) ({ cls := "java/lang/Object", name := "<init>", desc := "()V" } : Jvm.MethodName)) ∈ zq_T := zq_tm 81 (by decide +kernel) (by decide +kernel)
theorem tk_82 : (Jvm.Cond.methodLink "GridRouter$Nets" (34 : Nat) ({ cls := "java/util/Arrays", name := "fill", desc := "([II)V" } : Jvm.MethodName)) ∈ zq_T := zq_tm 82 (by decide +kernel) (by decide +kernel)
theorem tk_83 : (Jvm.Cond.static ({ cls := "java/util/Arrays", name := "fill", desc := "([II)V" } : Jvm.MethodName)) ∈ zq_T := zq_tm 83 (by decide +kernel) (by decide +kernel)
theorem tk_84 : (Jvm.Cond.code ({ cls := "java/util/Arrays", name := "fill", desc := "([II)V" } : Jvm.MethodName) prog_22_method_103_code (4 : Nat) (Option.none : Option Jvm.ClassFile.FieldType)) ∈ zq_T := zq_tm 84 (by decide +kernel) (by decide +kernel)
theorem tk_119 : (Jvm.Cond.methodLink "GridRouter$Layout" (3 : Nat) ({ cls := "java/lang/Object", name := "<init>", desc := "()V" } : Jvm.MethodName)) ∈ zq_T := zq_tm 119 (by decide +kernel) (by decide +kernel)
theorem tk_120 : (Jvm.Cond.methodLink "GridRouter$Layout" (36 : Nat) ({ cls := "java/util/Arrays", name := "fill", desc := "([II)V" } : Jvm.MethodName)) ∈ zq_T := zq_tm 120 (by decide +kernel) (by decide +kernel)
theorem tk_142 : (Jvm.Cond.arrayClass Jvm.ClassFile.FieldType.boolean) ∈ zq_T := zq_tm 142 (by decide +kernel) (by decide +kernel)
theorem tk_148 : (Jvm.Cond.methodLink "GridRouter$Rules" (3 : Nat) ({ cls := "java/lang/Object", name := "<init>", desc := "()V" } : Jvm.MethodName)) ∈ zq_T := zq_tm 148 (by decide +kernel) (by decide +kernel)
theorem tk_174 : (Jvm.Cond.methodLink "GridRouter$Checker" (3 : Nat) ({ cls := "java/lang/Object", name := "<init>", desc := "()V" } : Jvm.MethodName)) ∈ zq_T := zq_tm 174 (by decide +kernel) (by decide +kernel)
theorem tk_202 : (Jvm.Cond.methodLink "GridRouter$Router" (3 : Nat) ({ cls := "java/lang/Object", name := "<init>", desc := "()V" } : Jvm.MethodName)) ∈ zq_T := zq_tm 202 (by decide +kernel) (by decide +kernel)
theorem tk_203 : (Jvm.Cond.classLink "GridRouter$Router" (9 : Nat) "GridRouter$Line") ∈ zq_T := zq_tm 203 (by decide +kernel) (by decide +kernel)
theorem tk_204 : (Jvm.Cond.instantiable "GridRouter$Line" (2 : Nat)) ∈ zq_T := zq_tm 204 (by decide +kernel) (by decide +kernel)
theorem tk_206 : (Jvm.Cond.instanceMethod ({ cls := "GridRouter$Line", name := "<init>", desc := "()V" } : Jvm.MethodName)) ∈ zq_T := zq_tm 206 (by decide +kernel) (by decide +kernel)
theorem tk_207 : (Jvm.Cond.code ({ cls := "GridRouter$Line", name := "<init>", desc := "()V" } : Jvm.MethodName) prog_5_method_1_code (1 : Nat) (Option.none : Option Jvm.ClassFile.FieldType)) ∈ zq_T := zq_tm 207 (by decide +kernel) (by decide +kernel)
theorem tk_208 : (Jvm.Cond.methodLink "GridRouter$Line" (3 : Nat) ({ cls := "java/lang/Object", name := "<init>", desc := "()V" } : Jvm.MethodName)) ∈ zq_T := zq_tm 208 (by decide +kernel) (by decide +kernel)
theorem tk_216 : (Jvm.Cond.classLink "GridRouter$Router" (42 : Nat) "GridRouter$WayFinder") ∈ zq_T := zq_tm 216 (by decide +kernel) (by decide +kernel)
theorem tk_217 : (Jvm.Cond.instantiable "GridRouter$WayFinder" (12 : Nat)) ∈ zq_T := zq_tm 217 (by decide +kernel) (by decide +kernel)
theorem tk_218 : (Jvm.Cond.methodLink "GridRouter$Router" (44 : Nat) ({ cls := "GridRouter$WayFinder", name := "<init>", desc := "(LGridRouter$Grid;LGridRouter$Nets;LGridRouter$Rules;I)V" } : Jvm.MethodName)) ∈ zq_T := zq_tm 218 (by decide +kernel) (by decide +kernel)
theorem tk_219 : (Jvm.Cond.instanceMethod ({ cls := "GridRouter$WayFinder", name := "<init>", desc := "(LGridRouter$Grid;LGridRouter$Nets;LGridRouter$Rules;I)V" } : Jvm.MethodName)) ∈ zq_T := zq_tm 219 (by decide +kernel) (by decide +kernel)
theorem tk_220 : (Jvm.Cond.code ({ cls := "GridRouter$WayFinder", name := "<init>", desc := "(LGridRouter$Grid;LGridRouter$Nets;LGridRouter$Rules;I)V" } : Jvm.MethodName) prog_10_method_1_code (5 : Nat) (Option.none : Option Jvm.ClassFile.FieldType)) ∈ zq_T := zq_tm 220 (by decide +kernel) (by decide +kernel)
theorem tk_221 : (Jvm.Cond.methodLink "GridRouter$WayFinder" (3 : Nat) ({ cls := "java/lang/Object", name := "<init>", desc := "()V" } : Jvm.MethodName)) ∈ zq_T := zq_tm 221 (by decide +kernel) (by decide +kernel)
theorem tk_291 : (Jvm.Cond.methodLink "GridRouter$Shapes" (3 : Nat) ({ cls := "java/lang/Object", name := "<init>", desc := "()V" } : Jvm.MethodName)) ∈ zq_T := zq_tm 291 (by decide +kernel) (by decide +kernel)
theorem zd_Line_init_0 : decode zc_Line_init 0 = .ok (.aload_n 0, 1) := by decide +kernel
theorem zd_Line_init_1 : decode zc_Line_init 1 = .ok (.invokespecial 3, 3) := by decide +kernel
theorem zd_Line_init_4 : decode zc_Line_init 4 = .ok (.aload_n 0, 1) := by decide +kernel
theorem zd_Line_init_5 : decode zc_Line_init 5 = .ok (.bipush 6, 2) := by decide +kernel
theorem zd_Line_init_7 : decode zc_Line_init 7 = .ok (.newarray .int, 2) := by decide +kernel
theorem zd_Line_init_9 : decode zc_Line_init 9 = .ok (.putfield 9, 3) := by decide +kernel
theorem zd_Line_init_12 : decode zc_Line_init 12 = .ok (.aload_n 0, 1) := by decide +kernel
theorem zd_Line_init_13 : decode zc_Line_init 13 = .ok (.iconst 0, 1) := by decide +kernel
theorem zd_Line_init_14 : decode zc_Line_init 14 = .ok (.putfield 15, 3) := by decide +kernel
theorem zd_Line_init_17 : decode zc_Line_init 17 = .ok (.return_, 1) := by decide +kernel
theorem zd_Nets_init_0 : decode zc_Nets_init 0 = .ok (.aload_n 0, 1) := by decide +kernel
theorem zd_Nets_init_1 : decode zc_Nets_init 1 = .ok (.invokespecial 3, 3) := by decide +kernel
theorem zd_Nets_init_4 : decode zc_Nets_init 4 = .ok (.aload_n 0, 1) := by decide +kernel
theorem zd_Nets_init_5 : decode zc_Nets_init 5 = .ok (.bipush 6, 2) := by decide +kernel
theorem zd_Nets_init_7 : decode zc_Nets_init 7 = .ok (.newarray .int, 2) := by decide +kernel
theorem zd_Nets_init_9 : decode zc_Nets_init 9 = .ok (.putfield 9, 3) := by decide +kernel
theorem zd_Nets_init_12 : decode zc_Nets_init 12 = .ok (.aload_n 0, 1) := by decide +kernel
theorem zd_Nets_init_13 : decode zc_Nets_init 13 = .ok (.bipush 6, 2) := by decide +kernel
theorem zd_Nets_init_15 : decode zc_Nets_init 15 = .ok (.newarray .int, 2) := by decide +kernel
theorem zd_Nets_init_17 : decode zc_Nets_init 17 = .ok (.putfield 15, 3) := by decide +kernel
theorem zd_Nets_init_20 : decode zc_Nets_init 20 = .ok (.aload_n 0, 1) := by decide +kernel
theorem zd_Nets_init_21 : decode zc_Nets_init 21 = .ok (.iconst 0, 1) := by decide +kernel
theorem zd_Nets_init_22 : decode zc_Nets_init 22 = .ok (.putfield 18, 3) := by decide +kernel
theorem zd_Nets_init_25 : decode zc_Nets_init 25 = .ok (.aload_n 0, 1) := by decide +kernel
theorem zd_Nets_init_26 : decode zc_Nets_init 26 = .ok (.aload_n 1, 1) := by decide +kernel
theorem zd_Nets_init_27 : decode zc_Nets_init 27 = .ok (.putfield 22, 3) := by decide +kernel
theorem zd_Nets_init_30 : decode zc_Nets_init 30 = .ok (.aload_n 0, 1) := by decide +kernel
theorem zd_Nets_init_31 : decode zc_Nets_init 31 = .ok (.aload_n 1, 1) := by decide +kernel
theorem zd_Nets_init_32 : decode zc_Nets_init 32 = .ok (.getfield 26, 3) := by decide +kernel
theorem zd_Nets_init_35 : decode zc_Nets_init 35 = .ok (.newarray .int, 2) := by decide +kernel
theorem zd_Nets_init_37 : decode zc_Nets_init 37 = .ok (.putfield 31, 3) := by decide +kernel
theorem zd_Nets_init_40 : decode zc_Nets_init 40 = .ok (.aload_n 0, 1) := by decide +kernel
theorem zd_Nets_init_41 : decode zc_Nets_init 41 = .ok (.getfield 31, 3) := by decide +kernel
theorem zd_Nets_init_44 : decode zc_Nets_init 44 = .ok (.iconst (-1), 1) := by decide +kernel
theorem zd_Nets_init_45 : decode zc_Nets_init 45 = .ok (.invokestatic 34, 3) := by decide +kernel
theorem zd_Nets_init_48 : decode zc_Nets_init 48 = .ok (.return_, 1) := by decide +kernel
theorem zd_Layout_init_0 : decode zc_Layout_init 0 = .ok (.aload_n 0, 1) := by decide +kernel
theorem zd_Layout_init_1 : decode zc_Layout_init 1 = .ok (.invokespecial 3, 3) := by decide +kernel
theorem zd_Layout_init_4 : decode zc_Layout_init 4 = .ok (.aload_n 0, 1) := by decide +kernel
theorem zd_Layout_init_5 : decode zc_Layout_init 5 = .ok (.aload_n 1, 1) := by decide +kernel
theorem zd_Layout_init_6 : decode zc_Layout_init 6 = .ok (.putfield 9, 3) := by decide +kernel
theorem zd_Layout_init_9 : decode zc_Layout_init 9 = .ok (.aload_n 0, 1) := by decide +kernel
theorem zd_Layout_init_10 : decode zc_Layout_init 10 = .ok (.aload_n 2, 1) := by decide +kernel
theorem zd_Layout_init_11 : decode zc_Layout_init 11 = .ok (.putfield 15, 3) := by decide +kernel
theorem zd_Layout_init_14 : decode zc_Layout_init 14 = .ok (.aload_n 0, 1) := by decide +kernel
theorem zd_Layout_init_15 : decode zc_Layout_init 15 = .ok (.aload_n 1, 1) := by decide +kernel
theorem zd_Layout_init_16 : decode zc_Layout_init 16 = .ok (.getfield 19, 3) := by decide +kernel
theorem zd_Layout_init_19 : decode zc_Layout_init 19 = .ok (.newarray .int, 2) := by decide +kernel
theorem zd_Layout_init_21 : decode zc_Layout_init 21 = .ok (.putfield 25, 3) := by decide +kernel
theorem zd_Layout_init_24 : decode zc_Layout_init 24 = .ok (.aload_n 0, 1) := by decide +kernel
theorem zd_Layout_init_25 : decode zc_Layout_init 25 = .ok (.aload_n 1, 1) := by decide +kernel
theorem zd_Layout_init_26 : decode zc_Layout_init 26 = .ok (.getfield 29, 3) := by decide +kernel
theorem zd_Layout_init_29 : decode zc_Layout_init 29 = .ok (.newarray .boolean, 2) := by decide +kernel
theorem zd_Layout_init_31 : decode zc_Layout_init 31 = .ok (.putfield 32, 3) := by decide +kernel
theorem zd_Layout_init_34 : decode zc_Layout_init 34 = .ok (.aload_n 0, 1) := by decide +kernel
theorem zd_Layout_init_35 : decode zc_Layout_init 35 = .ok (.getfield 25, 3) := by decide +kernel
theorem zd_Layout_init_38 : decode zc_Layout_init 38 = .ok (.iconst (-1), 1) := by decide +kernel
theorem zd_Layout_init_39 : decode zc_Layout_init 39 = .ok (.invokestatic 36, 3) := by decide +kernel
theorem zd_Layout_init_42 : decode zc_Layout_init 42 = .ok (.return_, 1) := by decide +kernel
theorem zd_Rules_init_0 : decode zc_Rules_init 0 = .ok (.aload_n 0, 1) := by decide +kernel
theorem zd_Rules_init_1 : decode zc_Rules_init 1 = .ok (.invokespecial 3, 3) := by decide +kernel
theorem zd_Rules_init_4 : decode zc_Rules_init 4 = .ok (.aload_n 0, 1) := by decide +kernel
theorem zd_Rules_init_5 : decode zc_Rules_init 5 = .ok (.aload_n 1, 1) := by decide +kernel
theorem zd_Rules_init_6 : decode zc_Rules_init 6 = .ok (.putfield 9, 3) := by decide +kernel
theorem zd_Rules_init_9 : decode zc_Rules_init 9 = .ok (.aload_n 0, 1) := by decide +kernel
theorem zd_Rules_init_10 : decode zc_Rules_init 10 = .ok (.aload_n 2, 1) := by decide +kernel
theorem zd_Rules_init_11 : decode zc_Rules_init 11 = .ok (.putfield 15, 3) := by decide +kernel
theorem zd_Rules_init_14 : decode zc_Rules_init 14 = .ok (.aload_n 0, 1) := by decide +kernel
theorem zd_Rules_init_15 : decode zc_Rules_init 15 = .ok (.aload_n 3, 1) := by decide +kernel
theorem zd_Rules_init_16 : decode zc_Rules_init 16 = .ok (.putfield 19, 3) := by decide +kernel
theorem zd_Rules_init_19 : decode zc_Rules_init 19 = .ok (.aload_n 0, 1) := by decide +kernel
theorem zd_Rules_init_20 : decode zc_Rules_init 20 = .ok (.iload 4, 2) := by decide +kernel
theorem zd_Rules_init_22 : decode zc_Rules_init 22 = .ok (.putfield 23, 3) := by decide +kernel
theorem zd_Rules_init_25 : decode zc_Rules_init 25 = .ok (.aload_n 0, 1) := by decide +kernel
theorem zd_Rules_init_26 : decode zc_Rules_init 26 = .ok (.aload_n 1, 1) := by decide +kernel
theorem zd_Rules_init_27 : decode zc_Rules_init 27 = .ok (.getfield 27, 3) := by decide +kernel
theorem zd_Rules_init_30 : decode zc_Rules_init 30 = .ok (.newarray .boolean, 2) := by decide +kernel
theorem zd_Rules_init_32 : decode zc_Rules_init 32 = .ok (.putfield 33, 3) := by decide +kernel
theorem zd_Rules_init_35 : decode zc_Rules_init 35 = .ok (.return_, 1) := by decide +kernel
theorem zd_Checker_init_0 : decode zc_Checker_init 0 = .ok (.aload_n 0, 1) := by decide +kernel
theorem zd_Checker_init_1 : decode zc_Checker_init 1 = .ok (.invokespecial 3, 3) := by decide +kernel
theorem zd_Checker_init_4 : decode zc_Checker_init 4 = .ok (.aload_n 0, 1) := by decide +kernel
theorem zd_Checker_init_5 : decode zc_Checker_init 5 = .ok (.iconst 0, 1) := by decide +kernel
theorem zd_Checker_init_6 : decode zc_Checker_init 6 = .ok (.putfield 9, 3) := by decide +kernel
theorem zd_Checker_init_9 : decode zc_Checker_init 9 = .ok (.aload_n 0, 1) := by decide +kernel
theorem zd_Checker_init_10 : decode zc_Checker_init 10 = .ok (.aload_n 1, 1) := by decide +kernel
theorem zd_Checker_init_11 : decode zc_Checker_init 11 = .ok (.putfield 15, 3) := by decide +kernel
theorem zd_Checker_init_14 : decode zc_Checker_init 14 = .ok (.aload_n 0, 1) := by decide +kernel
theorem zd_Checker_init_15 : decode zc_Checker_init 15 = .ok (.aload_n 2, 1) := by decide +kernel
theorem zd_Checker_init_16 : decode zc_Checker_init 16 = .ok (.putfield 19, 3) := by decide +kernel
theorem zd_Checker_init_19 : decode zc_Checker_init 19 = .ok (.aload_n 0, 1) := by decide +kernel
theorem zd_Checker_init_20 : decode zc_Checker_init 20 = .ok (.aload_n 3, 1) := by decide +kernel
theorem zd_Checker_init_21 : decode zc_Checker_init 21 = .ok (.putfield 23, 3) := by decide +kernel
theorem zd_Checker_init_24 : decode zc_Checker_init 24 = .ok (.aload_n 0, 1) := by decide +kernel
theorem zd_Checker_init_25 : decode zc_Checker_init 25 = .ok (.aload 4, 2) := by decide +kernel
theorem zd_Checker_init_27 : decode zc_Checker_init 27 = .ok (.putfield 27, 3) := by decide +kernel
theorem zd_Checker_init_30 : decode zc_Checker_init 30 = .ok (.aload_n 0, 1) := by decide +kernel
theorem zd_Checker_init_31 : decode zc_Checker_init 31 = .ok (.aload_n 1, 1) := by decide +kernel
theorem zd_Checker_init_32 : decode zc_Checker_init 32 = .ok (.getfield 31, 3) := by decide +kernel
theorem zd_Checker_init_35 : decode zc_Checker_init 35 = .ok (.newarray .int, 2) := by decide +kernel
theorem zd_Checker_init_37 : decode zc_Checker_init 37 = .ok (.putfield 36, 3) := by decide +kernel
theorem zd_Checker_init_40 : decode zc_Checker_init 40 = .ok (.aload_n 0, 1) := by decide +kernel
theorem zd_Checker_init_41 : decode zc_Checker_init 41 = .ok (.aload_n 1, 1) := by decide +kernel
theorem zd_Checker_init_42 : decode zc_Checker_init 42 = .ok (.getfield 31, 3) := by decide +kernel
theorem zd_Checker_init_45 : decode zc_Checker_init 45 = .ok (.newarray .boolean, 2) := by decide +kernel
theorem zd_Checker_init_47 : decode zc_Checker_init 47 = .ok (.putfield 40, 3) := by decide +kernel
theorem zd_Checker_init_50 : decode zc_Checker_init 50 = .ok (.return_, 1) := by decide +kernel
theorem zd_WayFinder_init_0 : decode zc_WayFinder_init 0 = .ok (.aload_n 0, 1) := by decide +kernel
theorem zd_WayFinder_init_1 : decode zc_WayFinder_init 1 = .ok (.invokespecial 3, 3) := by decide +kernel
theorem zd_WayFinder_init_4 : decode zc_WayFinder_init 4 = .ok (.aload_n 0, 1) := by decide +kernel
theorem zd_WayFinder_init_5 : decode zc_WayFinder_init 5 = .ok (.iconst 0, 1) := by decide +kernel
theorem zd_WayFinder_init_6 : decode zc_WayFinder_init 6 = .ok (.putfield 9, 3) := by decide +kernel
theorem zd_WayFinder_init_9 : decode zc_WayFinder_init 9 = .ok (.aload_n 0, 1) := by decide +kernel
theorem zd_WayFinder_init_10 : decode zc_WayFinder_init 10 = .ok (.iconst 0, 1) := by decide +kernel
theorem zd_WayFinder_init_11 : decode zc_WayFinder_init 11 = .ok (.putfield 15, 3) := by decide +kernel
theorem zd_WayFinder_init_14 : decode zc_WayFinder_init 14 = .ok (.aload_n 0, 1) := by decide +kernel
theorem zd_WayFinder_init_15 : decode zc_WayFinder_init 15 = .ok (.iconst 0, 1) := by decide +kernel
theorem zd_WayFinder_init_16 : decode zc_WayFinder_init 16 = .ok (.putfield 18, 3) := by decide +kernel
theorem zd_WayFinder_init_19 : decode zc_WayFinder_init 19 = .ok (.aload_n 0, 1) := by decide +kernel
theorem zd_WayFinder_init_20 : decode zc_WayFinder_init 20 = .ok (.aload_n 1, 1) := by decide +kernel
theorem zd_WayFinder_init_21 : decode zc_WayFinder_init 21 = .ok (.putfield 21, 3) := by decide +kernel
theorem zd_WayFinder_init_24 : decode zc_WayFinder_init 24 = .ok (.aload_n 0, 1) := by decide +kernel
theorem zd_WayFinder_init_25 : decode zc_WayFinder_init 25 = .ok (.aload_n 2, 1) := by decide +kernel
theorem zd_WayFinder_init_26 : decode zc_WayFinder_init 26 = .ok (.putfield 25, 3) := by decide +kernel
theorem zd_WayFinder_init_29 : decode zc_WayFinder_init 29 = .ok (.aload_n 0, 1) := by decide +kernel
theorem zd_WayFinder_init_30 : decode zc_WayFinder_init 30 = .ok (.aload_n 3, 1) := by decide +kernel
theorem zd_WayFinder_init_31 : decode zc_WayFinder_init 31 = .ok (.putfield 29, 3) := by decide +kernel
theorem zd_WayFinder_init_34 : decode zc_WayFinder_init 34 = .ok (.aload_n 0, 1) := by decide +kernel
theorem zd_WayFinder_init_35 : decode zc_WayFinder_init 35 = .ok (.iload 4, 2) := by decide +kernel
theorem zd_WayFinder_init_37 : decode zc_WayFinder_init 37 = .ok (.putfield 33, 3) := by decide +kernel
theorem zd_WayFinder_init_40 : decode zc_WayFinder_init 40 = .ok (.aload_n 0, 1) := by decide +kernel
theorem zd_WayFinder_init_41 : decode zc_WayFinder_init 41 = .ok (.aload_n 1, 1) := by decide +kernel
theorem zd_WayFinder_init_42 : decode zc_WayFinder_init 42 = .ok (.getfield 36, 3) := by decide +kernel
theorem zd_WayFinder_init_45 : decode zc_WayFinder_init 45 = .ok (.newarray .int, 2) := by decide +kernel
theorem zd_WayFinder_init_47 : decode zc_WayFinder_init 47 = .ok (.putfield 41, 3) := by decide +kernel
theorem zd_WayFinder_init_50 : decode zc_WayFinder_init 50 = .ok (.aload_n 0, 1) := by decide +kernel
theorem zd_WayFinder_init_51 : decode zc_WayFinder_init 51 = .ok (.aload_n 1, 1) := by decide +kernel
theorem zd_WayFinder_init_52 : decode zc_WayFinder_init 52 = .ok (.getfield 36, 3) := by decide +kernel
theorem zd_WayFinder_init_55 : decode zc_WayFinder_init 55 = .ok (.newarray .int, 2) := by decide +kernel
theorem zd_WayFinder_init_57 : decode zc_WayFinder_init 57 = .ok (.putfield 45, 3) := by decide +kernel
theorem zd_WayFinder_init_60 : decode zc_WayFinder_init 60 = .ok (.aload_n 0, 1) := by decide +kernel
theorem zd_WayFinder_init_61 : decode zc_WayFinder_init 61 = .ok (.aload_n 1, 1) := by decide +kernel
theorem zd_WayFinder_init_62 : decode zc_WayFinder_init 62 = .ok (.getfield 36, 3) := by decide +kernel
theorem zd_WayFinder_init_65 : decode zc_WayFinder_init 65 = .ok (.newarray .int, 2) := by decide +kernel
theorem zd_WayFinder_init_67 : decode zc_WayFinder_init 67 = .ok (.putfield 48, 3) := by decide +kernel
theorem zd_WayFinder_init_70 : decode zc_WayFinder_init 70 = .ok (.aload_n 0, 1) := by decide +kernel
theorem zd_WayFinder_init_71 : decode zc_WayFinder_init 71 = .ok (.aload_n 1, 1) := by decide +kernel
theorem zd_WayFinder_init_72 : decode zc_WayFinder_init 72 = .ok (.getfield 36, 3) := by decide +kernel
theorem zd_WayFinder_init_75 : decode zc_WayFinder_init 75 = .ok (.newarray .int, 2) := by decide +kernel
theorem zd_WayFinder_init_77 : decode zc_WayFinder_init 77 = .ok (.putfield 51, 3) := by decide +kernel
theorem zd_WayFinder_init_80 : decode zc_WayFinder_init 80 = .ok (.aload_n 0, 1) := by decide +kernel
theorem zd_WayFinder_init_81 : decode zc_WayFinder_init 81 = .ok (.aload_n 1, 1) := by decide +kernel
theorem zd_WayFinder_init_82 : decode zc_WayFinder_init 82 = .ok (.getfield 36, 3) := by decide +kernel
theorem zd_WayFinder_init_85 : decode zc_WayFinder_init 85 = .ok (.newarray .boolean, 2) := by decide +kernel
theorem zd_WayFinder_init_87 : decode zc_WayFinder_init 87 = .ok (.putfield 54, 3) := by decide +kernel
theorem zd_WayFinder_init_90 : decode zc_WayFinder_init 90 = .ok (.return_, 1) := by decide +kernel
theorem zd_Router_init_0 : decode zc_Router_init 0 = .ok (.aload_n 0, 1) := by decide +kernel
theorem zd_Router_init_1 : decode zc_Router_init 1 = .ok (.invokespecial 3, 3) := by decide +kernel
theorem zd_Router_init_4 : decode zc_Router_init 4 = .ok (.aload_n 0, 1) := by decide +kernel
theorem zd_Router_init_5 : decode zc_Router_init 5 = .ok (.new 9, 3) := by decide +kernel
theorem zd_Router_init_8 : decode zc_Router_init 8 = .ok (.dup, 1) := by decide +kernel
theorem zd_Router_init_9 : decode zc_Router_init 9 = .ok (.invokespecial 11, 3) := by decide +kernel
theorem zd_Router_init_12 : decode zc_Router_init 12 = .ok (.putfield 12, 3) := by decide +kernel
theorem zd_Router_init_15 : decode zc_Router_init 15 = .ok (.aload_n 0, 1) := by decide +kernel
theorem zd_Router_init_16 : decode zc_Router_init 16 = .ok (.bipush 6, 2) := by decide +kernel
theorem zd_Router_init_18 : decode zc_Router_init 18 = .ok (.newarray .boolean, 2) := by decide +kernel
theorem zd_Router_init_20 : decode zc_Router_init 20 = .ok (.putfield 18, 3) := by decide +kernel
theorem zd_Router_init_23 : decode zc_Router_init 23 = .ok (.aload_n 0, 1) := by decide +kernel
theorem zd_Router_init_24 : decode zc_Router_init 24 = .ok (.aload_n 1, 1) := by decide +kernel
theorem zd_Router_init_25 : decode zc_Router_init 25 = .ok (.putfield 22, 3) := by decide +kernel
theorem zd_Router_init_28 : decode zc_Router_init 28 = .ok (.aload_n 0, 1) := by decide +kernel
theorem zd_Router_init_29 : decode zc_Router_init 29 = .ok (.aload_n 2, 1) := by decide +kernel
theorem zd_Router_init_30 : decode zc_Router_init 30 = .ok (.putfield 26, 3) := by decide +kernel
theorem zd_Router_init_33 : decode zc_Router_init 33 = .ok (.aload_n 0, 1) := by decide +kernel
theorem zd_Router_init_34 : decode zc_Router_init 34 = .ok (.aload_n 3, 1) := by decide +kernel
theorem zd_Router_init_35 : decode zc_Router_init 35 = .ok (.putfield 30, 3) := by decide +kernel
theorem zd_Router_init_38 : decode zc_Router_init 38 = .ok (.aload_n 0, 1) := by decide +kernel
theorem zd_Router_init_39 : decode zc_Router_init 39 = .ok (.aload 4, 2) := by decide +kernel
theorem zd_Router_init_41 : decode zc_Router_init 41 = .ok (.putfield 34, 3) := by decide +kernel
theorem zd_Router_init_44 : decode zc_Router_init 44 = .ok (.aload_n 0, 1) := by decide +kernel
theorem zd_Router_init_45 : decode zc_Router_init 45 = .ok (.aload 5, 2) := by decide +kernel
theorem zd_Router_init_47 : decode zc_Router_init 47 = .ok (.putfield 38, 3) := by decide +kernel
theorem zd_Router_init_50 : decode zc_Router_init 50 = .ok (.aload_n 0, 1) := by decide +kernel
theorem zd_Router_init_51 : decode zc_Router_init 51 = .ok (.new 42, 3) := by decide +kernel
theorem zd_Router_init_54 : decode zc_Router_init 54 = .ok (.dup, 1) := by decide +kernel
theorem zd_Router_init_55 : decode zc_Router_init 55 = .ok (.aload_n 1, 1) := by decide +kernel
theorem zd_Router_init_56 : decode zc_Router_init 56 = .ok (.aload_n 2, 1) := by decide +kernel
theorem zd_Router_init_57 : decode zc_Router_init 57 = .ok (.aload 4, 2) := by decide +kernel
theorem zd_Router_init_59 : decode zc_Router_init 59 = .ok (.iload 6, 2) := by decide +kernel
theorem zd_Router_init_61 : decode zc_Router_init 61 = .ok (.invokespecial 44, 3) := by decide +kernel
theorem zd_Router_init_64 : decode zc_Router_init 64 = .ok (.putfield 47, 3) := by decide +kernel
theorem zd_Router_init_67 : decode zc_Router_init 67 = .ok (.return_, 1) := by decide +kernel
theorem zd_Shapes_init_0 : decode zc_Shapes_init 0 = .ok (.aload_n 0, 1) := by decide +kernel
theorem zd_Shapes_init_1 : decode zc_Shapes_init 1 = .ok (.invokespecial 3, 3) := by decide +kernel
theorem zd_Shapes_init_4 : decode zc_Shapes_init 4 = .ok (.aload_n 0, 1) := by decide +kernel
theorem zd_Shapes_init_5 : decode zc_Shapes_init 5 = .ok (.aload_n 1, 1) := by decide +kernel
theorem zd_Shapes_init_6 : decode zc_Shapes_init 6 = .ok (.putfield 9, 3) := by decide +kernel
theorem zd_Shapes_init_9 : decode zc_Shapes_init 9 = .ok (.aload_n 0, 1) := by decide +kernel
theorem zd_Shapes_init_10 : decode zc_Shapes_init 10 = .ok (.aload_n 2, 1) := by decide +kernel
theorem zd_Shapes_init_11 : decode zc_Shapes_init 11 = .ok (.putfield 15, 3) := by decide +kernel
theorem zd_Shapes_init_14 : decode zc_Shapes_init 14 = .ok (.return_, 1) := by decide +kernel
theorem zd_fill_0 : decode zc_fill 0 = .ok (.iconst 0, 1) := by decide +kernel
theorem zd_fill_1 : decode zc_fill 1 = .ok (.istore_n 2, 1) := by decide +kernel
theorem zd_fill_2 : decode zc_fill 2 = .ok (.aload_n 0, 1) := by decide +kernel
theorem zd_fill_3 : decode zc_fill 3 = .ok (.arraylength, 1) := by decide +kernel
theorem zd_fill_4 : decode zc_fill 4 = .ok (.istore_n 3, 1) := by decide +kernel
theorem zd_fill_5 : decode zc_fill 5 = .ok (.iload_n 2, 1) := by decide +kernel
theorem zd_fill_6 : decode zc_fill 6 = .ok (.iload_n 3, 1) := by decide +kernel
theorem zd_fill_7 : decode zc_fill 7 = .ok (.if_icmp .ge 13, 3) := by decide +kernel
theorem zd_fill_10 : decode zc_fill 10 = .ok (.aload_n 0, 1) := by decide +kernel
theorem zd_fill_11 : decode zc_fill 11 = .ok (.iload_n 2, 1) := by decide +kernel
theorem zd_fill_12 : decode zc_fill 12 = .ok (.iload_n 1, 1) := by decide +kernel
theorem zd_fill_13 : decode zc_fill 13 = .ok (.iastore, 1) := by decide +kernel
theorem zd_fill_14 : decode zc_fill 14 = .ok (.iinc 2 1, 3) := by decide +kernel
theorem zd_fill_17 : decode zc_fill 17 = .ok (.goto (-12), 3) := by decide +kernel
theorem zd_fill_20 : decode zc_fill 20 = .ok (.return_, 1) := by decide +kernel
