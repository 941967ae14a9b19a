abbrev zy_Line_init : MethodName := ⟨"GridRouter$Line", "<init>", "()V"⟩
abbrev zc_Line_init : ByteArray := prog_5_method_1_code
abbrev zy_Nets_init : MethodName := ⟨"GridRouter$Nets", "<init>", "(LGridRouter$Grid;)V"⟩
abbrev zc_Nets_init : ByteArray := prog_6_method_1_code
abbrev zy_Layout_init : MethodName := ⟨"GridRouter$Layout", "<init>", "(LGridRouter$Grid;LGridRouter$Nets;)V"⟩
abbrev zc_Layout_init : ByteArray := prog_4_method_1_code
abbrev zy_Rules_init : MethodName := ⟨"GridRouter$Rules", "<init>", "(LGridRouter$Grid;LGridRouter$Nets;LGridRouter$Layout;Z)V"⟩
abbrev zc_Rules_init : ByteArray := prog_8_method_1_code
abbrev zy_Checker_init : MethodName := ⟨"GridRouter$Checker", "<init>", "(LGridRouter$Grid;LGridRouter$Nets;LGridRouter$Layout;LGridRouter$Rules;)V"⟩
abbrev zc_Checker_init : ByteArray := prog_2_method_1_code
abbrev zy_WayFinder_init : MethodName := ⟨"GridRouter$WayFinder", "<init>", "(LGridRouter$Grid;LGridRouter$Nets;LGridRouter$Rules;I)V"⟩
abbrev zc_WayFinder_init : ByteArray := prog_10_method_1_code
abbrev zy_Router_init : MethodName := ⟨"GridRouter$Router", "<init>", "(LGridRouter$Grid;LGridRouter$Nets;LGridRouter$Layout;LGridRouter$Rules;LGridRouter$Checker;I)V"⟩
abbrev zc_Router_init : ByteArray := prog_7_method_1_code
abbrev zy_Shapes_init : MethodName := ⟨"GridRouter$Shapes", "<init>", "(LGridRouter$Grid;LGridRouter$Layout;)V"⟩
abbrev zc_Shapes_init : ByteArray := prog_9_method_1_code
abbrev zy_Grid_init : MethodName := ⟨"GridRouter$Grid", "<init>", "(II)V"⟩
abbrev zc_Grid_init : ByteArray := prog_3_method_1_code
abbrev zy_Gr_init : MethodName := ⟨"GridRouter", "<init>", "(IIII)V"⟩
abbrev zc_Gr_init : ByteArray := prog_1_method_1_code
abbrev zy_Mo_init : MethodName := ⟨"GridRouterModel", "<init>", "(IIII)V"⟩
abbrev zc_Mo_init : ByteArray := prog_12_method_1_code
abbrev zy_fill : MethodName := ⟨"java/util/Arrays", "fill", "([II)V"⟩
abbrev zc_fill : ByteArray := prog_22_method_103_code
abbrev zy_La_scr : MethodName := ⟨"GridRouterLaw", "cell", "([II)I"⟩
abbrev zc_La_scr : ByteArray := method_2_code
theorem zdd_fill : zy_fill.cls ≠ "java/lang/invoke/MethodHandle" ∧ zy_fill.cls ≠ "java/lang/invoke/VarHandle" ∧ (parseMethodDescriptor zy_fill.desc).map (fun d => d.parameters.length) = some 2 := by decide +kernel
theorem zdd_La_scr : zy_La_scr.cls ≠ "java/lang/invoke/MethodHandle" ∧ zy_La_scr.cls ≠ "java/lang/invoke/VarHandle" ∧ (parseMethodDescriptor zy_La_scr.desc).map (fun d => d.parameters.length) = some 2 := by decide +kernel
theorem zdd_Line_init : zy_Line_init.cls ≠ "java/lang/invoke/MethodHandle" ∧ zy_Line_init.cls ≠ "java/lang/invoke/VarHandle" ∧ (parseMethodDescriptor zy_Line_init.desc).map (fun d => d.parameters.length) = some 0 := by decide +kernel
theorem zdd_Nets_init : zy_Nets_init.cls ≠ "java/lang/invoke/MethodHandle" ∧ zy_Nets_init.cls ≠ "java/lang/invoke/VarHandle" ∧ (parseMethodDescriptor zy_Nets_init.desc).map (fun d => d.parameters.length) = some 1 := by decide +kernel
theorem zdd_Layout_init : zy_Layout_init.cls ≠ "java/lang/invoke/MethodHandle" ∧ zy_Layout_init.cls ≠ "java/lang/invoke/VarHandle" ∧ (parseMethodDescriptor zy_Layout_init.desc).map (fun d => d.parameters.length) = some 2 := by decide +kernel
theorem zdd_Rules_init : zy_Rules_init.cls ≠ "java/lang/invoke/MethodHandle" ∧ zy_Rules_init.cls ≠ "java/lang/invoke/VarHandle" ∧ (parseMethodDescriptor zy_Rules_init.desc).map (fun d => d.parameters.length) = some 4 := by decide +kernel
theorem zdd_Checker_init : zy_Checker_init.cls ≠ "java/lang/invoke/MethodHandle" ∧ zy_Checker_init.cls ≠ "java/lang/invoke/VarHandle" ∧ (parseMethodDescriptor zy_Checker_init.desc).map (fun d => d.parameters.length) = some 4 := by decide +kernel
theorem zdd_WayFinder_init : zy_WayFinder_init.cls ≠ "java/lang/invoke/MethodHandle" ∧ zy_WayFinder_init.cls ≠ "java/lang/invoke/VarHandle" ∧ (parseMethodDescriptor zy_WayFinder_init.desc).map (fun d => d.parameters.length) = some 4 := by decide +kernel
theorem zdd_Router_init : zy_Router_init.cls ≠ "java/lang/invoke/MethodHandle" ∧ zy_Router_init.cls ≠ "java/lang/invoke/VarHandle" ∧ (parseMethodDescriptor zy_Router_init.desc).map (fun d => d.parameters.length) = some 6 := by decide +kernel
theorem zdd_Shapes_init : zy_Shapes_init.cls ≠ "java/lang/invoke/MethodHandle" ∧ zy_Shapes_init.cls ≠ "java/lang/invoke/VarHandle" ∧ (parseMethodDescriptor zy_Shapes_init.desc).map (fun d => d.parameters.length) = some 2 := by decide +kernel
theorem zdd_Grid_init : zy_Grid_init.cls ≠ "java/lang/invoke/MethodHandle" ∧ zy_Grid_init.cls ≠ "java/lang/invoke/VarHandle" ∧ (parseMethodDescriptor zy_Grid_init.desc).map (fun d => d.parameters.length) = some 2 := by decide +kernel
theorem zdd_Gr_init : zy_Gr_init.cls ≠ "java/lang/invoke/MethodHandle" ∧ zy_Gr_init.cls ≠ "java/lang/invoke/VarHandle" ∧ (parseMethodDescriptor zy_Gr_init.desc).map (fun d => d.parameters.length) = some 4 := by decide +kernel
theorem zdd_Mo_init : zy_Mo_init.cls ≠ "java/lang/invoke/MethodHandle" ∧ zy_Mo_init.cls ≠ "java/lang/invoke/VarHandle" ∧ (parseMethodDescriptor zy_Mo_init.desc).map (fun d => d.parameters.length) = some 4 := by decide +kernel
theorem tk_4 : (Jvm.Cond.initialized "java/util/Arrays") ∈ zq_T := zq_tm 4 (by decide +kernel) (by decide +kernel)
theorem tk_21 : (Jvm.Cond.classLink "GridRouterLaw" (8 : Nat) "GridRouter") ∈ zq_T := zq_tm 21 (by decide +kernel) (by decide +kernel)
theorem tk_22 : (Jvm.Cond.instantiable "GridRouter" (7 : Nat)) ∈ zq_T := zq_tm 22 (by decide +kernel) (by decide +kernel)
theorem tk_23 : (Jvm.Cond.methodLink "GridRouterLaw" (65 : Nat) ({ cls := "GridRouter", name := "<init>", desc := "(IIII)V" } : Jvm.MethodName)) ∈ zq_T := zq_tm 23 (by decide +kernel) (by decide +kernel)
theorem tk_24 : (Jvm.Cond.instanceMethod ({ cls := "GridRouter", name := "<init>", desc := "(IIII)V" } : Jvm.MethodName)) ∈ zq_T := zq_tm 24 (by decide +kernel) (by decide +kernel)
theorem tk_25 : (Jvm.Cond.code ({ cls := "GridRouter", name := "<init>", desc := "(IIII)V" } : Jvm.MethodName) prog_1_method_1_code (5 : Nat) (Option.none : Option Jvm.ClassFile.FieldType)) ∈ zq_T := zq_tm 25 (by decide +kernel) (by decide +kernel)
theorem tk_26 : (Jvm.Cond.methodLink "GridRouter" (1 : Nat) ({ cls := "java/lang/Object", name := "<init>", desc := "()V" } : Jvm.MethodName)) ∈ zq_T := zq_tm 26 (by decide +kernel) (by decide +kernel)
theorem tk_27 : (Jvm.Cond.instanceMethod ({ cls := "java/lang/Object", name := "<init>", desc := "()V" } : Jvm.MethodName)) ∈ zq_T := zq_tm 27 (by decide +kernel) (by decide +kernel)
theorem tk_28 : (Jvm.Cond.code ({ cls := "java/lang/Object", name := "<init>", desc := "()V" } : Jvm.MethodName) object_method_1_code (1 : Nat) (Option.none : Option Jvm.ClassFile.FieldType)) ∈ zq_T := zq_tm 28 (by decide +kernel) (by decide +kernel)
theorem tk_29 : (Jvm.Cond.classLink "GridRouter" (7 : Nat) "GridRouter$Grid") ∈ zq_T := zq_tm 29 (by decide +kernel) (by decide +kernel)
theorem tk_30 : (Jvm.Cond.instantiable "GridRouter$Grid" (7 : Nat)) ∈ zq_T := zq_tm 30 (by decide +kernel) (by decide +kernel)
theorem tk_31 : (Jvm.Cond.methodLink "GridRouter" (9 : Nat) ({ cls := "GridRouter$Grid", name := "<init>", desc := "(II)V" } : Jvm.MethodName)) ∈ zq_T := zq_tm 31 (by decide +kernel) (by decide +kernel)
theorem tk_32 : (Jvm.Cond.instanceMethod ({ cls := "GridRouter$Grid", name := "<init>", desc := "(II)V" } : Jvm.MethodName)) ∈ zq_T := zq_tm 32 (by decide +kernel) (by decide +kernel)
theorem tk_33 : (Jvm.Cond.code ({ cls := "GridRouter$Grid", name := "<init>", desc := "(II)V" } : Jvm.MethodName) prog_3_method_1_code (7 : Nat) (Option.none : Option Jvm.ClassFile.FieldType)) ∈ zq_T := zq_tm 33 (by decide +kernel) (by decide +kernel)
theorem tk_34 : (Jvm.Cond.methodLink "GridRouter$Grid" (3 : Nat) ({ cls := "java/lang/Object", name := "<init>", desc := "()V" } : Jvm.MethodName)) ∈ zq_T := zq_tm 34 (by decide +kernel) (by decide +kernel)
theorem tk_35 : (Jvm.Cond.methodLink "GridRouter$Grid" (34 : Nat) ({ cls := "GridRouter$Grid", name := "link", desc := "(III)V" } : Jvm.MethodName)) ∈ zq_T := zq_tm 35 (by decide +kernel) (by decide +kernel)
theorem tk_37 : (Jvm.Cond.instanceMethod ({ cls := "GridRouter$Grid", name := "link", desc := "(III)V" } : Jvm.MethodName)) ∈ zq_T := zq_tm 37 (by decide +kernel) (by decide +kernel)
theorem tk_38 : (Jvm.Cond.code ({ cls := "GridRouter$Grid", name := "link", desc := "(III)V" } : Jvm.MethodName) prog_3_method_2_code (5 : Nat) (Option.none : Option Jvm.ClassFile.FieldType)) ∈ zq_T := zq_tm 38 (by decide +kernel) (by decide +kernel)
theorem tk_43 : (Jvm.Cond.fieldLink "GridRouter$Layout" (29 : Nat) "GridRouter$Grid" "area" "I") ∈ zq_T := zq_tm 43 (by decide +kernel) (by decide +kernel)
theorem tk_46 : (Jvm.Cond.fieldLink "GridRouter$Rules" (27 : Nat) "GridRouter$Grid" "cells" "I") ∈ zq_T := zq_tm 46 (by decide +kernel) (by decide +kernel)
theorem tk_47 : (Jvm.Cond.fieldLink "GridRouter$Grid" (21 : Nat) "GridRouter$Grid" "cells" "I") ∈ zq_T := zq_tm 47 (by decide +kernel) (by decide +kernel)
theorem tk_48 : (Jvm.Cond.fieldLink "GridRouter$Nets" (26 : Nat) "GridRouter$Grid" "cells" "I") ∈ zq_T := zq_tm 48 (by decide +kernel) (by decide +kernel)
theorem tk_52 : (Jvm.Cond.fieldLink "GridRouter$Grid" (24 : Nat) "GridRouter$Grid" "xOf" "[I") ∈ zq_T := zq_tm 52 (by decide +kernel) (by decide +kernel)
theorem tk_55 : (Jvm.Cond.fieldLink "GridRouter$Grid" (28 : Nat) "GridRouter$Grid" "yOf" "[I") ∈ zq_T := zq_tm 55 (by decide +kernel) (by decide +kernel)
theorem tk_75 : (Jvm.Cond.arrayClass Jvm.ClassFile.FieldType.int) ∈ zq_T := zq_tm 75 (by decide +kernel) (by decide +kernel)
theorem tk_76 : (Jvm.Cond.classLink "GridRouter" (18 : Nat) "GridRouter$Nets") ∈ zq_T := zq_tm 76 (by decide +kernel) (by decide +kernel)
theorem tk_77 : (Jvm.Cond.instantiable "GridRouter$Nets" (5 : Nat)) ∈ zq_T := zq_tm 77 (by decide +kernel) (by decide +kernel)
theorem tk_78 : (Jvm.Cond.methodLink "GridRouter" (20 : Nat) ({ cls := "GridRouter$Nets", name := "<init>", desc := "(LGridRouter$Grid;)V" } : Jvm.MethodName)) ∈ zq_T := zq_tm 78 (by decide +kernel) (by decide +kernel)
theorem tk_79 : (Jvm.Cond.instanceMethod ({ cls := "GridRouter$Nets", name := "<init>", desc := "(LGridRouter$Grid;)V" } : Jvm.MethodName)) ∈ zq_T := zq_tm 79 (by decide +kernel) (by decide +kernel)
theorem tk_80 : (Jvm.Cond.code ({ cls := "GridRouter$Nets", name := "<init>", desc := "(LGridRouter$Grid;)V" } : Jvm.MethodName) prog_6_method_1_code (2 : Nat) (Option.none : Option Jvm.ClassFile.FieldType)) ∈ zq_T := zq_tm 80 (by decide +kernel) (by decide +kernel)
theorem tk_81 : (Jvm.Cond.methodLink "GridRouter$Nets" (3 : Nat) ({ cls := "java/lang/Object", name := "<init>", desc := "()V" } : Jvm.MethodName)) ∈ zq_T := zq_tm 81 (by decide +kernel) (by decide +kernel)
theorem tk_82 : (Jvm.Cond.methodLink "GridRouter$Nets" (34 : Nat) ({ cls := "java/util/Arrays", name := "fill", desc := "([II)V" } : Jvm.MethodName)) ∈ zq_T := zq_tm 82 (by decide +kernel) (by decide +kernel)
theorem tk_83 : (Jvm.Cond.static ({ cls := "java/util/Arrays", name := "fill", desc := "([II)V" } : Jvm.MethodName)) ∈ zq_T := zq_tm 83 (by decide +kernel) (by decide +kernel)
theorem tk_84 : (Jvm.Cond.code ({ cls := "java/util/Arrays", name := "fill", desc := "([II)V" } : Jvm.MethodName) prog_22_method_103_code (4 : Nat) (Option.none : Option Jvm.ClassFile.FieldType)) ∈ zq_T := zq_tm 84 (by decide +kernel) (by decide +kernel)
theorem tk_114 : (Jvm.Cond.classLink "GridRouter" (27 : Nat) "GridRouter$Layout") ∈ zq_T := zq_tm 114 (by decide +kernel) (by decide +kernel)
theorem tk_115 : (Jvm.Cond.instantiable "GridRouter$Layout" (4 : Nat)) ∈ zq_T := zq_tm 115 (by decide +kernel) (by decide +kernel)
theorem tk_116 : (Jvm.Cond.methodLink "GridRouter" (29 : Nat) ({ cls := "GridRouter$Layout", name := "<init>", desc := "(LGridRouter$Grid;LGridRouter$Nets;)V" } : Jvm.MethodName)) ∈ zq_T := zq_tm 116 (by decide +kernel) (by decide +kernel)
theorem tk_117 : (Jvm.Cond.instanceMethod ({ cls := "GridRouter$Layout", name := "<init>", desc := "(LGridRouter$Grid;LGridRouter$Nets;)V" } : Jvm.MethodName)) ∈ zq_T := zq_tm 117 (by decide +kernel) (by decide +kernel)
theorem tk_118 : (Jvm.Cond.code ({ cls := "GridRouter$Layout", name := "<init>", desc := "(LGridRouter$Grid;LGridRouter$Nets;)V" } : Jvm.MethodName) prog_4_method_1_code (3 : Nat) (Option.none : Option Jvm.ClassFile.FieldType)) ∈ zq_T := zq_tm 118 (by decide +kernel) (by decide +kernel)
theorem tk_119 : (Jvm.Cond.methodLink "GridRouter$Layout" (3 : Nat) ({ cls := "java/lang/Object", name := "<init>", desc := "()V" } : Jvm.MethodName)) ∈ zq_T := zq_tm 119 (by decide +kernel) (by decide +kernel)
theorem tk_120 : (Jvm.Cond.methodLink "GridRouter$Layout" (36 : Nat) ({ cls := "java/util/Arrays", name := "fill", desc := "([II)V" } : Jvm.MethodName)) ∈ zq_T := zq_tm 120 (by decide +kernel) (by decide +kernel)
theorem tk_142 : (Jvm.Cond.arrayClass Jvm.ClassFile.FieldType.boolean) ∈ zq_T := zq_tm 142 (by decide +kernel) (by decide +kernel)
theorem tk_143 : (Jvm.Cond.classLink "GridRouter" (36 : Nat) "GridRouter$Rules") ∈ zq_T := zq_tm 143 (by decide +kernel) (by decide +kernel)
theorem tk_144 : (Jvm.Cond.instantiable "GridRouter$Rules" (5 : Nat)) ∈ zq_T := zq_tm 144 (by decide +kernel) (by decide +kernel)
theorem tk_145 : (Jvm.Cond.methodLink "GridRouter" (38 : Nat) ({ cls := "GridRouter$Rules", name := "<init>", desc := "(LGridRouter$Grid;LGridRouter$Nets;LGridRouter$Layout;Z)V" } : Jvm.MethodName)) ∈ zq_T := zq_tm 145 (by decide +kernel) (by decide +kernel)
theorem tk_146 : (Jvm.Cond.instanceMethod ({ cls := "GridRouter$Rules", name := "<init>", desc := "(LGridRouter$Grid;LGridRouter$Nets;LGridRouter$Layout;Z)V" } : Jvm.MethodName)) ∈ zq_T := zq_tm 146 (by decide +kernel) (by decide +kernel)
theorem tk_147 : (Jvm.Cond.code ({ cls := "GridRouter$Rules", name := "<init>", desc := "(LGridRouter$Grid;LGridRouter$Nets;LGridRouter$Layout;Z)V" } : Jvm.MethodName) prog_8_method_1_code (5 : Nat) (Option.none : Option Jvm.ClassFile.FieldType)) ∈ zq_T := zq_tm 147 (by decide +kernel) (by decide +kernel)
theorem tk_148 : (Jvm.Cond.methodLink "GridRouter$Rules" (3 : Nat) ({ cls := "java/lang/Object", name := "<init>", desc := "()V" } : Jvm.MethodName)) ∈ zq_T := zq_tm 148 (by decide +kernel) (by decide +kernel)
theorem tk_169 : (Jvm.Cond.classLink "GridRouter" (45 : Nat) "GridRouter$Checker") ∈ zq_T := zq_tm 169 (by decide +kernel) (by decide +kernel)
theorem tk_170 : (Jvm.Cond.instantiable "GridRouter$Checker" (7 : Nat)) ∈ zq_T := zq_tm 170 (by decide +kernel) (by decide +kernel)
theorem tk_171 : (Jvm.Cond.methodLink "GridRouter" (47 : Nat) ({ cls := "GridRouter$Checker", name := "<init>", desc := "(LGridRouter$Grid;LGridRouter$Nets;LGridRouter$Layout;LGridRouter$Rules;)V" } : Jvm.MethodName)) ∈ zq_T := zq_tm 171 (by decide +kernel) (by decide +kernel)
theorem tk_172 : (Jvm.Cond.instanceMethod ({ cls := "GridRouter$Checker", name := "<init>", desc := "(LGridRouter$Grid;LGridRouter$Nets;LGridRouter$Layout;LGridRouter$Rules;)V" } : Jvm.MethodName)) ∈ zq_T := zq_tm 172 (by decide +kernel) (by decide +kernel)
theorem tk_173 : (Jvm.Cond.code ({ cls := "GridRouter$Checker", name := "<init>", desc := "(LGridRouter$Grid;LGridRouter$Nets;LGridRouter$Layout;LGridRouter$Rules;)V" } : Jvm.MethodName) prog_2_method_1_code (5 : Nat) (Option.none : Option Jvm.ClassFile.FieldType)) ∈ zq_T := zq_tm 173 (by decide +kernel) (by decide +kernel)
theorem tk_174 : (Jvm.Cond.methodLink "GridRouter$Checker" (3 : Nat) ({ cls := "java/lang/Object", name := "<init>", desc := "()V" } : Jvm.MethodName)) ∈ zq_T := zq_tm 174 (by decide +kernel) (by decide +kernel)
theorem tk_197 : (Jvm.Cond.classLink "GridRouter" (54 : Nat) "GridRouter$Router") ∈ zq_T := zq_tm 197 (by decide +kernel) (by decide +kernel)
theorem tk_198 : (Jvm.Cond.instantiable "GridRouter$Router" (8 : Nat)) ∈ zq_T := zq_tm 198 (by decide +kernel) (by decide +kernel)
theorem tk_199 : (Jvm.Cond.methodLink "GridRouter" (56 : Nat) ({ cls := "GridRouter$Router", name := "<init>", desc := "(LGridRouter$Grid;LGridRouter$Nets;LGridRouter$Layout;LGridRouter$Rules;LGridRouter$Checker;I)V" } : Jvm.MethodName)) ∈ zq_T := zq_tm 199 (by decide +kernel) (by decide +kernel)
theorem tk_200 : (Jvm.Cond.instanceMethod ({ cls := "GridRouter$Router", name := "<init>", desc := "(LGridRouter$Grid;LGridRouter$Nets;LGridRouter$Layout;LGridRouter$Rules;LGridRouter$Checker;I)V" } : Jvm.MethodName)) ∈ zq_T := zq_tm 200 (by decide +kernel) (by decide +kernel)
theorem tk_201 : (Jvm.Cond.code ({ cls := "GridRouter$Router", name := "<init>", desc := "(LGridRouter$Grid;LGridRouter$Nets;LGridRouter$Layout;LGridRouter$Rules;LGridRouter$Checker;I)V" } : Jvm.MethodName) prog_7_method_1_code (7 : Nat) (Option.none : Option Jvm.ClassFile.FieldType)) ∈ zq_T := zq_tm 201 (by decide +kernel) (by decide +kernel)
theorem tk_202 : (Jvm.Cond.methodLink "GridRouter$Router" (3 : Nat) ({ cls := "java/lang/Object", name := "<init>", desc := "()V" } : Jvm.MethodName)) ∈ zq_T := zq_tm 202 (by decide +kernel) (by decide +kernel)
theorem tk_203 : (Jvm.Cond.classLink "GridRouter$Router" (9 : Nat) "GridRouter$Line") ∈ zq_T := zq_tm 203 (by decide +kernel) (by decide +kernel)
theorem tk_204 : (Jvm.Cond.instantiable "GridRouter$Line" (2 : Nat)) ∈ zq_T := zq_tm 204 (by decide +kernel) (by decide +kernel)
theorem tk_206 : (Jvm.Cond.instanceMethod ({ cls := "GridRouter$Line", name := "<init>", desc := "()V" } : Jvm.MethodName)) ∈ zq_T := zq_tm 206 (by decide +kernel) (by decide +kernel)
theorem tk_207 : (Jvm.Cond.code ({ cls := "GridRouter$Line", name := "<init>", desc := "()V" } : Jvm.MethodName) prog_5_method_1_code (1 : Nat) (Option.none : Option Jvm.ClassFile.FieldType)) ∈ zq_T := zq_tm 207 (by decide +kernel) (by decide +kernel)
theorem tk_208 : (Jvm.Cond.methodLink "GridRouter$Line" (3 : Nat) ({ cls := "java/lang/Object", name := "<init>", desc := "()V" } : Jvm.MethodName)) ∈ zq_T := zq_tm 208 (by decide +kernel) (by decide +kernel)
theorem tk_216 : (Jvm.Cond.classLink "GridRouter$Router" (42 : Nat) "GridRouter$WayFinder") ∈ zq_T := zq_tm 216 (by decide +kernel) (by decide +kernel)
theorem tk_217 : (Jvm.Cond.instantiable "GridRouter$WayFinder" (12 : Nat)) ∈ zq_T := zq_tm 217 (by decide +kernel) (by decide +kernel)
theorem tk_218 : (Jvm.Cond.methodLink "GridRouter$Router" (44 : Nat) ({ cls := "GridRouter$WayFinder", name := "<init>", desc := "(LGridRouter$Grid;LGridRouter$Nets;LGridRouter$Rules;I)V" } : Jvm.MethodName)) ∈ zq_T := zq_tm 218 (by decide +kernel) (by decide +kernel)
theorem tk_219 : (Jvm.Cond.instanceMethod ({ cls := "GridRouter$WayFinder", name := "<init>", desc := "(LGridRouter$Grid;LGridRouter$Nets;LGridRouter$Rules;I)V" } : Jvm.MethodName)) ∈ zq_T := zq_tm 219 (by decide +kernel) (by decide +kernel)
theorem tk_220 : (Jvm.Cond.code ({ cls := "GridRouter$WayFinder", name := "<init>", desc := "(LGridRouter$Grid;LGridRouter$Nets;LGridRouter$Rules;I)V" } : Jvm.MethodName) prog_10_method_1_code (5 : Nat) (Option.none : Option Jvm.ClassFile.FieldType)) ∈ zq_T := zq_tm 220 (by decide +kernel) (by decide +kernel)
theorem tk_221 : (Jvm.Cond.methodLink "GridRouter$WayFinder" (3 : Nat) ({ cls := "java/lang/Object", name := "<init>", desc := "()V" } : Jvm.MethodName)) ∈ zq_T := zq_tm 221 (by decide +kernel) (by decide +kernel)
theorem tk_286 : (Jvm.Cond.classLink "GridRouter" (63 : Nat) "GridRouter$Shapes") ∈ zq_T := zq_tm 286 (by decide +kernel) (by decide +kernel)
theorem tk_287 : (Jvm.Cond.instantiable "GridRouter$Shapes" (2 : Nat)) ∈ zq_T := zq_tm 287 (by decide +kernel) (by decide +kernel)
theorem tk_288 : (Jvm.Cond.methodLink "GridRouter" (65 : Nat) ({ cls := "GridRouter$Shapes", name := "<init>", desc := "(LGridRouter$Grid;LGridRouter$Layout;)V" } : Jvm.MethodName)) ∈ zq_T := zq_tm 288 (by decide +kernel) (by decide +kernel)
theorem tk_289 : (Jvm.Cond.instanceMethod ({ cls := "GridRouter$Shapes", name := "<init>", desc := "(LGridRouter$Grid;LGridRouter$Layout;)V" } : Jvm.MethodName)) ∈ zq_T := zq_tm 289 (by decide +kernel) (by decide +kernel)
theorem tk_290 : (Jvm.Cond.code ({ cls := "GridRouter$Shapes", name := "<init>", desc := "(LGridRouter$Grid;LGridRouter$Layout;)V" } : Jvm.MethodName) prog_9_method_1_code (3 : Nat) (Option.none : Option Jvm.ClassFile.FieldType)) ∈ zq_T := zq_tm 290 (by decide +kernel) (by decide +kernel)
theorem tk_291 : (Jvm.Cond.methodLink "GridRouter$Shapes" (3 : Nat) ({ cls := "java/lang/Object", name := "<init>", desc := "()V" } : Jvm.MethodName)) ∈ zq_T := zq_tm 291 (by decide +kernel) (by decide +kernel)
theorem tk_337 : (Jvm.Cond.methodLink "GridRouterLaw" (60 : Nat) ({ cls := "GridRouterLaw", name := "cell", desc := "([II)I" } : Jvm.MethodName)) ∈ zq_T := zq_tm 337 (by decide +kernel) (by decide +kernel)
theorem tk_338 : (Jvm.Cond.static ({ cls := "GridRouterLaw", name := "cell", desc := "([II)I" } : Jvm.MethodName)) ∈ zq_T := zq_tm 338 (by decide +kernel) (by decide +kernel)
theorem tk_339 : (Jvm.Cond.code ({ cls := "GridRouterLaw", name := "cell", desc := "([II)I" } : Jvm.MethodName) method_2_code (2 : Nat) (Option.some Jvm.ClassFile.FieldType.int)) ∈ zq_T := zq_tm 339 (by decide +kernel) (by decide +kernel)
theorem tk_757 : (Jvm.Cond.classLink "GridRouterLaw" (67 : Nat) "GridRouterModel") ∈ zq_T := zq_tm 757 (by decide +kernel) (by decide +kernel)
theorem tk_758 : (Jvm.Cond.instantiable "GridRouterModel" (19 : Nat)) ∈ zq_T := zq_tm 758 (by decide +kernel) (by decide +kernel)
theorem tk_759 : (Jvm.Cond.methodLink "GridRouterLaw" (69 : Nat) ({ cls := "GridRouterModel", name := "<init>", desc := "(IIII)V" } : Jvm.MethodName)) ∈ zq_T := zq_tm 759 (by decide +kernel) (by decide +kernel)
theorem tk_760 : (Jvm.Cond.instanceMethod ({ cls := "GridRouterModel", name := "<init>", desc := "(IIII)V" } : Jvm.MethodName)) ∈ zq_T := zq_tm 760 (by decide +kernel) (by decide +kernel)
theorem tk_761 : (Jvm.Cond.code ({ cls := "GridRouterModel", name := "<init>", desc := "(IIII)V" } : Jvm.MethodName) prog_12_method_1_code (6 : Nat) (Option.none : Option Jvm.ClassFile.FieldType)) ∈ zq_T := zq_tm 761 (by decide +kernel) (by decide +kernel)
theorem tk_762 : (Jvm.Cond.methodLink "GridRouterModel" (1 : Nat) ({ cls := "java/lang/Object", name := "<init>", desc := "()V" } : Jvm.MethodName)) ∈ zq_T := zq_tm 762 (by decide +kernel) (by decide +kernel)
theorem tk_984 : (Jvm.Cond.arrayClass Jvm.ClassFile.FieldType.long) ∈ zq_T := zq_tm 984 (by decide +kernel) (by decide +kernel)
theorem ts_0 : Cond.selects "GridRouter$Grid" ({ cls := "GridRouter$Grid", name := "link", desc := "(III)V" } : Jvm.MethodName) ({ cls := "GridRouter$Grid", name := "link", desc := "(III)V" } : Jvm.MethodName) ∈ zq_T := zq_ts 0 (by decide +kernel) (by decide +kernel)
theorem zd_Line_init_0 : decode zc_Line_init 0 = .ok (.aload_n 0, 1) := by decide +kernel
theorem zd_Line_init_1 : decode zc_Line_init 1 = .ok (.invokespecial 3, 3) := by decide +kernel
theorem zd_Line_init_4 : decode zc_Line_init 4 = .ok (.aload_n 0, 1) := by decide +kernel
theorem zd_Line_init_5 : decode zc_Line_init 5 = .ok (.bipush 6, 2) := by decide +kernel
theorem zd_Line_init_7 : decode zc_Line_init 7 = .ok (.newarray .int, 2) := by decide +kernel
theorem zd_Line_init_9 : decode zc_Line_init 9 = .ok (.putfield 9, 3) := by decide +kernel
theorem zd_Line_init_12 : decode zc_Line_init 12 = .ok (.aload_n 0, 1) := by decide +kernel
theorem zd_Line_init_13 : decode zc_Line_init 13 = .ok (.iconst 0, 1) := by decide +kernel
theorem zd_Line_init_14 : decode zc_Line_init 14 = .ok (.putfield 15, 3) := by decide +kernel
theorem zd_Line_init_17 : decode zc_Line_init 17 = .ok (.return_, 1) := by decide +kernel
theorem zd_Nets_init_0 : decode zc_Nets_init 0 = .ok (.aload_n 0, 1) := by decide +kernel
theorem zd_Nets_init_1 : decode zc_Nets_init 1 = .ok (.invokespecial 3, 3) := by decide +kernel
theorem zd_Nets_init_4 : decode zc_Nets_init 4 = .ok (.aload_n 0, 1) := by decide +kernel
theorem zd_Nets_init_5 : decode zc_Nets_init 5 = .ok (.bipush 6, 2) := by decide +kernel
theorem zd_Nets_init_7 : decode zc_Nets_init 7 = .ok (.newarray .int, 2) := by decide +kernel
theorem zd_Nets_init_9 : decode zc_Nets_init 9 = .ok (.putfield 9, 3) := by decide +kernel
theorem zd_Nets_init_12 : decode zc_Nets_init 12 = .ok (.aload_n 0, 1) := by decide +kernel
theorem zd_Nets_init_13 : decode zc_Nets_init 13 = .ok (.bipush 6, 2) := by decide +kernel
theorem zd_Nets_init_15 : decode zc_Nets_init 15 = .ok (.newarray .int, 2) := by decide +kernel
theorem zd_Nets_init_17 : decode zc_Nets_init 17 = .ok (.putfield 15, 3) := by decide +kernel
theorem zd_Nets_init_20 : decode zc_Nets_init 20 = .ok (.aload_n 0, 1) := by decide +kernel
theorem zd_Nets_init_21 : decode zc_Nets_init 21 = .ok (.iconst 0, 1) := by decide +kernel
theorem zd_Nets_init_22 : decode zc_Nets_init 22 = .ok (.putfield 18, 3) := by decide +kernel
theorem zd_Nets_init_25 : decode zc_Nets_init 25 = .ok (.aload_n 0, 1) := by decide +kernel
theorem zd_Nets_init_26 : decode zc_Nets_init 26 = .ok (.aload_n 1, 1) := by decide +kernel
theorem zd_Nets_init_27 : decode zc_Nets_init 27 = .ok (.putfield 22, 3) := by decide +kernel
theorem zd_Nets_init_30 : decode zc_Nets_init 30 = .ok (.aload_n 0, 1) := by decide +kernel
theorem zd_Nets_init_31 : decode zc_Nets_init 31 = .ok (.aload_n 1, 1) := by decide +kernel
theorem zd_Nets_init_32 : decode zc_Nets_init 32 = .ok (.getfield 26, 3) := by decide +kernel
theorem zd_Nets_init_35 : decode zc_Nets_init 35 = .ok (.newarray .int, 2) := by decide +kernel
theorem zd_Nets_init_37 : decode zc_Nets_init 37 = .ok (.putfield 31, 3) := by decide +kernel
theorem zd_Nets_init_40 : decode zc_Nets_init 40 = .ok (.aload_n 0, 1) := by decide +kernel
theorem zd_Nets_init_41 : decode zc_Nets_init 41 = .ok (.getfield 31, 3) := by decide +kernel
theorem zd_Nets_init_44 : decode zc_Nets_init 44 = .ok (.iconst (-1), 1) := by decide +kernel
theorem zd_Nets_init_45 : decode zc_Nets_init 45 = .ok (.invokestatic 34, 3) := by decide +kernel
theorem zd_Nets_init_48 : decode zc_Nets_init 48 = .ok (.return_, 1) := by decide +kernel
theorem zd_Layout_init_0 : decode zc_Layout_init 0 = .ok (.aload_n 0, 1) := by decide +kernel
theorem zd_Layout_init_1 : decode zc_Layout_init 1 = .ok (.invokespecial 3, 3) := by decide +kernel
theorem zd_Layout_init_4 : decode zc_Layout_init 4 = .ok (.aload_n 0, 1) := by decide +kernel
theorem zd_Layout_init_5 : decode zc_Layout_init 5 = .ok (.aload_n 1, 1) := by decide +kernel
theorem zd_Layout_init_6 : decode zc_Layout_init 6 = .ok (.putfield 9, 3) := by decide +kernel
theorem zd_Layout_init_9 : decode zc_Layout_init 9 = .ok (.aload_n 0, 1) := by decide +kernel
theorem zd_Layout_init_10 : decode zc_Layout_init 10 = .ok (.aload_n 2, 1) := by decide +kernel
theorem zd_Layout_init_11 : decode zc_Layout_init 11 = .ok (.putfield 15, 3) := by decide +kernel
theorem zd_Layout_init_14 : decode zc_Layout_init 14 = .ok (.aload_n 0, 1) := by decide +kernel
theorem zd_Layout_init_15 : decode zc_Layout_init 15 = .ok (.aload_n 1, 1) := by decide +kernel
theorem zd_Layout_init_16 : decode zc_Layout_init 16 = .ok (.getfield 19, 3) := by decide +kernel
theorem zd_Layout_init_19 : decode zc_Layout_init 19 = .ok (.newarray .int, 2) := by decide +kernel
theorem zd_Layout_init_21 : decode zc_Layout_init 21 = .ok (.putfield 25, 3) := by decide +kernel
theorem zd_Layout_init_24 : decode zc_Layout_init 24 = .ok (.aload_n 0, 1) := by decide +kernel
theorem zd_Layout_init_25 : decode zc_Layout_init 25 = .ok (.aload_n 1, 1) := by decide +kernel
theorem zd_Layout_init_26 : decode zc_Layout_init 26 = .ok (.getfield 29, 3) := by decide +kernel
theorem zd_Layout_init_29 : decode zc_Layout_init 29 = .ok (.newarray .boolean, 2) := by decide +kernel
theorem zd_Layout_init_31 : decode zc_Layout_init 31 = .ok (.putfield 32, 3) := by decide +kernel
theorem zd_Layout_init_34 : decode zc_Layout_init 34 = .ok (.aload_n 0, 1) := by decide +kernel
theorem zd_Layout_init_35 : decode zc_Layout_init 35 = .ok (.getfield 25, 3) := by decide +kernel
theorem zd_Layout_init_38 : decode zc_Layout_init 38 = .ok (.iconst (-1), 1) := by decide +kernel
theorem zd_Layout_init_39 : decode zc_Layout_init 39 = .ok (.invokestatic 36, 3) := by decide +kernel
theorem zd_Layout_init_42 : decode zc_Layout_init 42 = .ok (.return_, 1) := by decide +kernel
theorem zd_Rules_init_0 : decode zc_Rules_init 0 = .ok (.aload_n 0, 1) := by decide +kernel
theorem zd_Rules_init_1 : decode zc_Rules_init 1 = .ok (.invokespecial 3, 3) := by decide +kernel
theorem zd_Rules_init_4 : decode zc_Rules_init 4 = .ok (.aload_n 0, 1) := by decide +kernel
theorem zd_Rules_init_5 : decode zc_Rules_init 5 = .ok (.aload_n 1, 1) := by decide +kernel
theorem zd_Rules_init_6 : decode zc_Rules_init 6 = .ok (.putfield 9, 3) := by decide +kernel
theorem zd_Rules_init_9 : decode zc_Rules_init 9 = .ok (.aload_n 0, 1) := by decide +kernel
theorem zd_Rules_init_10 : decode zc_Rules_init 10 = .ok (.aload_n 2, 1) := by decide +kernel
theorem zd_Rules_init_11 : decode zc_Rules_init 11 = .ok (.putfield 15, 3) := by decide +kernel
theorem zd_Rules_init_14 : decode zc_Rules_init 14 = .ok (.aload_n 0, 1) := by decide +kernel
theorem zd_Rules_init_15 : decode zc_Rules_init 15 = .ok (.aload_n 3, 1) := by decide +kernel
theorem zd_Rules_init_16 : decode zc_Rules_init 16 = .ok (.putfield 19, 3) := by decide +kernel
theorem zd_Rules_init_19 : decode zc_Rules_init 19 = .ok (.aload_n 0, 1) := by decide +kernel
theorem zd_Rules_init_20 : decode zc_Rules_init 20 = .ok (.iload 4, 2) := by decide +kernel
theorem zd_Rules_init_22 : decode zc_Rules_init 22 = .ok (.putfield 23, 3) := by decide +kernel
theorem zd_Rules_init_25 : decode zc_Rules_init 25 = .ok (.aload_n 0, 1) := by decide +kernel
theorem zd_Rules_init_26 : decode zc_Rules_init 26 = .ok (.aload_n 1, 1) := by decide +kernel
theorem zd_Rules_init_27 : decode zc_Rules_init 27 = .ok (.getfield 27, 3) := by decide +kernel
theorem zd_Rules_init_30 : decode zc_Rules_init 30 = .ok (.newarray .boolean, 2) := by decide +kernel
theorem zd_Rules_init_32 : decode zc_Rules_init 32 = .ok (.putfield 33, 3) := by decide +kernel
theorem zd_Rules_init_35 : decode zc_Rules_init 35 = .ok (.return_, 1) := by decide +kernel
theorem zd_Checker_init_0 : decode zc_Checker_init 0 = .ok (.aload_n 0, 1) := by decide +kernel
theorem zd_Checker_init_1 : decode zc_Checker_init 1 = .ok (.invokespecial 3, 3) := by decide +kernel
theorem zd_Checker_init_4 : decode zc_Checker_init 4 = .ok (.aload_n 0, 1) := by decide +kernel
theorem zd_Checker_init_5 : decode zc_Checker_init 5 = .ok (.iconst 0, 1) := by decide +kernel
theorem zd_Checker_init_6 : decode zc_Checker_init 6 = .ok (.putfield 9, 3) := by decide +kernel
theorem zd_Checker_init_9 : decode zc_Checker_init 9 = .ok (.aload_n 0, 1) := by decide +kernel
theorem zd_Checker_init_10 : decode zc_Checker_init 10 = .ok (.aload_n 1, 1) := by decide +kernel
theorem zd_Checker_init_11 : decode zc_Checker_init 11 = .ok (.putfield 15, 3) := by decide +kernel
theorem zd_Checker_init_14 : decode zc_Checker_init 14 = .ok (.aload_n 0, 1) := by decide +kernel
theorem zd_Checker_init_15 : decode zc_Checker_init 15 = .ok (.aload_n 2, 1) := by decide +kernel
theorem zd_Checker_init_16 : decode zc_Checker_init 16 = .ok (.putfield 19, 3) := by decide +kernel
theorem zd_Checker_init_19 : decode zc_Checker_init 19 = .ok (.aload_n 0, 1) := by decide +kernel
theorem zd_Checker_init_20 : decode zc_Checker_init 20 = .ok (.aload_n 3, 1) := by decide +kernel
theorem zd_Checker_init_21 : decode zc_Checker_init 21 = .ok (.putfield 23, 3) := by decide +kernel
theorem zd_Checker_init_24 : decode zc_Checker_init 24 = .ok (.aload_n 0, 1) := by decide +kernel
theorem zd_Checker_init_25 : decode zc_Checker_init 25 = .ok (.aload 4, 2) := by decide +kernel
theorem zd_Checker_init_27 : decode zc_Checker_init 27 = .ok (.putfield 27, 3) := by decide +kernel
theorem zd_Checker_init_30 : decode zc_Checker_init 30 = .ok (.aload_n 0, 1) := by decide +kernel
theorem zd_Checker_init_31 : decode zc_Checker_init 31 = .ok (.aload_n 1, 1) := by decide +kernel
theorem zd_Checker_init_32 : decode zc_Checker_init 32 = .ok (.getfield 31, 3) := by decide +kernel
theorem zd_Checker_init_35 : decode zc_Checker_init 35 = .ok (.newarray .int, 2) := by decide +kernel
theorem zd_Checker_init_37 : decode zc_Checker_init 37 = .ok (.putfield 36, 3) := by decide +kernel
theorem zd_Checker_init_40 : decode zc_Checker_init 40 = .ok (.aload_n 0, 1) := by decide +kernel
theorem zd_Checker_init_41 : decode zc_Checker_init 41 = .ok (.aload_n 1, 1) := by decide +kernel
theorem zd_Checker_init_42 : decode zc_Checker_init 42 = .ok (.getfield 31, 3) := by decide +kernel
theorem zd_Checker_init_45 : decode zc_Checker_init 45 = .ok (.newarray .boolean, 2) := by decide +kernel
theorem zd_Checker_init_47 : decode zc_Checker_init 47 = .ok (.putfield 40, 3) := by decide +kernel
theorem zd_Checker_init_50 : decode zc_Checker_init 50 = .ok (.return_, 1) := by decide +kernel
theorem zd_WayFinder_init_0 : decode zc_WayFinder_init 0 = .ok (.aload_n 0, 1) := by decide +kernel
theorem zd_WayFinder_init_1 : decode zc_WayFinder_init 1 = .ok (.invokespecial 3, 3) := by decide +kernel
theorem zd_WayFinder_init_4 : decode zc_WayFinder_init 4 = .ok (.aload_n 0, 1) := by decide +kernel
theorem zd_WayFinder_init_5 : decode zc_WayFinder_init 5 = .ok (.iconst 0, 1) := by decide +kernel
theorem zd_WayFinder_init_6 : decode zc_WayFinder_init 6 = .ok (.putfield 9, 3) := by decide +kernel
theorem zd_WayFinder_init_9 : decode zc_WayFinder_init 9 = .ok (.aload_n 0, 1) := by decide +kernel
theorem zd_WayFinder_init_10 : decode zc_WayFinder_init 10 = .ok (.iconst 0, 1) := by decide +kernel
theorem zd_WayFinder_init_11 : decode zc_WayFinder_init 11 = .ok (.putfield 15, 3) := by decide +kernel
theorem zd_WayFinder_init_14 : decode zc_WayFinder_init 14 = .ok (.aload_n 0, 1) := by decide +kernel
theorem zd_WayFinder_init_15 : decode zc_WayFinder_init 15 = .ok (.iconst 0, 1) := by decide +kernel
theorem zd_WayFinder_init_16 : decode zc_WayFinder_init 16 = .ok (.putfield 18, 3) := by decide +kernel
theorem zd_WayFinder_init_19 : decode zc_WayFinder_init 19 = .ok (.aload_n 0, 1) := by decide +kernel
theorem zd_WayFinder_init_20 : decode zc_WayFinder_init 20 = .ok (.aload_n 1, 1) := by decide +kernel
theorem zd_WayFinder_init_21 : decode zc_WayFinder_init 21 = .ok (.putfield 21, 3) := by decide +kernel
theorem zd_WayFinder_init_24 : decode zc_WayFinder_init 24 = .ok (.aload_n 0, 1) := by decide +kernel
theorem zd_WayFinder_init_25 : decode zc_WayFinder_init 25 = .ok (.aload_n 2, 1) := by decide +kernel
theorem zd_WayFinder_init_26 : decode zc_WayFinder_init 26 = .ok (.putfield 25, 3) := by decide +kernel
theorem zd_WayFinder_init_29 : decode zc_WayFinder_init 29 = .ok (.aload_n 0, 1) := by decide +kernel
theorem zd_WayFinder_init_30 : decode zc_WayFinder_init 30 = .ok (.aload_n 3, 1) := by decide +kernel
theorem zd_WayFinder_init_31 : decode zc_WayFinder_init 31 = .ok (.putfield 29, 3) := by decide +kernel
theorem zd_WayFinder_init_34 : decode zc_WayFinder_init 34 = .ok (.aload_n 0, 1) := by decide +kernel
theorem zd_WayFinder_init_35 : decode zc_WayFinder_init 35 = .ok (.iload 4, 2) := by decide +kernel
theorem zd_WayFinder_init_37 : decode zc_WayFinder_init 37 = .ok (.putfield 33, 3) := by decide +kernel
theorem zd_WayFinder_init_40 : decode zc_WayFinder_init 40 = .ok (.aload_n 0, 1) := by decide +kernel
theorem zd_WayFinder_init_41 : decode zc_WayFinder_init 41 = .ok (.aload_n 1, 1) := by decide +kernel
theorem zd_WayFinder_init_42 : decode zc_WayFinder_init 42 = .ok (.getfield 36, 3) := by decide +kernel
theorem zd_WayFinder_init_45 : decode zc_WayFinder_init 45 = .ok (.newarray .int, 2) := by decide +kernel
theorem zd_WayFinder_init_47 : decode zc_WayFinder_init 47 = .ok (.putfield 41, 3) := by decide +kernel
theorem zd_WayFinder_init_50 : decode zc_WayFinder_init 50 = .ok (.aload_n 0, 1) := by decide +kernel
theorem zd_WayFinder_init_51 : decode zc_WayFinder_init 51 = .ok (.aload_n 1, 1) := by decide +kernel
theorem zd_WayFinder_init_52 : decode zc_WayFinder_init 52 = .ok (.getfield 36, 3) := by decide +kernel
theorem zd_WayFinder_init_55 : decode zc_WayFinder_init 55 = .ok (.newarray .int, 2) := by decide +kernel
theorem zd_WayFinder_init_57 : decode zc_WayFinder_init 57 = .ok (.putfield 45, 3) := by decide +kernel
theorem zd_WayFinder_init_60 : decode zc_WayFinder_init 60 = .ok (.aload_n 0, 1) := by decide +kernel
theorem zd_WayFinder_init_61 : decode zc_WayFinder_init 61 = .ok (.aload_n 1, 1) := by decide +kernel
theorem zd_WayFinder_init_62 : decode zc_WayFinder_init 62 = .ok (.getfield 36, 3) := by decide +kernel
theorem zd_WayFinder_init_65 : decode zc_WayFinder_init 65 = .ok (.newarray .int, 2) := by decide +kernel
theorem zd_WayFinder_init_67 : decode zc_WayFinder_init 67 = .ok (.putfield 48, 3) := by decide +kernel
theorem zd_WayFinder_init_70 : decode zc_WayFinder_init 70 = .ok (.aload_n 0, 1) := by decide +kernel
theorem zd_WayFinder_init_71 : decode zc_WayFinder_init 71 = .ok (.aload_n 1, 1) := by decide +kernel
theorem zd_WayFinder_init_72 : decode zc_WayFinder_init 72 = .ok (.getfield 36, 3) := by decide +kernel
theorem zd_WayFinder_init_75 : decode zc_WayFinder_init 75 = .ok (.newarray .int, 2) := by decide +kernel
theorem zd_WayFinder_init_77 : decode zc_WayFinder_init 77 = .ok (.putfield 51, 3) := by decide +kernel
theorem zd_WayFinder_init_80 : decode zc_WayFinder_init 80 = .ok (.aload_n 0, 1) := by decide +kernel
theorem zd_WayFinder_init_81 : decode zc_WayFinder_init 81 = .ok (.aload_n 1, 1) := by decide +kernel
theorem zd_WayFinder_init_82 : decode zc_WayFinder_init 82 = .ok (.getfield 36, 3) := by decide +kernel
theorem zd_WayFinder_init_85 : decode zc_WayFinder_init 85 = .ok (.newarray .boolean, 2) := by decide +kernel
theorem zd_WayFinder_init_87 : decode zc_WayFinder_init 87 = .ok (.putfield 54, 3) := by decide +kernel
theorem zd_WayFinder_init_90 : decode zc_WayFinder_init 90 = .ok (.return_, 1) := by decide +kernel
theorem zd_Router_init_0 : decode zc_Router_init 0 = .ok (.aload_n 0, 1) := by decide +kernel
theorem zd_Router_init_1 : decode zc_Router_init 1 = .ok (.invokespecial 3, 3) := by decide +kernel
theorem zd_Router_init_4 : decode zc_Router_init 4 = .ok (.aload_n 0, 1) := by decide +kernel
theorem zd_Router_init_5 : decode zc_Router_init 5 = .ok (.new 9, 3) := by decide +kernel
theorem zd_Router_init_8 : decode zc_Router_init 8 = .ok (.dup, 1) := by decide +kernel
theorem zd_Router_init_9 : decode zc_Router_init 9 = .ok (.invokespecial 11, 3) := by decide +kernel
theorem zd_Router_init_12 : decode zc_Router_init 12 = .ok (.putfield 12, 3) := by decide +kernel
theorem zd_Router_init_15 : decode zc_Router_init 15 = .ok (.aload_n 0, 1) := by decide +kernel
theorem zd_Router_init_16 : decode zc_Router_init 16 = .ok (.bipush 6, 2) := by decide +kernel
theorem zd_Router_init_18 : decode zc_Router_init 18 = .ok (.newarray .boolean, 2) := by decide +kernel
theorem zd_Router_init_20 : decode zc_Router_init 20 = .ok (.putfield 18, 3) := by decide +kernel
theorem zd_Router_init_23 : decode zc_Router_init 23 = .ok (.aload_n 0, 1) := by decide +kernel
theorem zd_Router_init_24 : decode zc_Router_init 24 = .ok (.aload_n 1, 1) := by decide +kernel
theorem zd_Router_init_25 : decode zc_Router_init 25 = .ok (.putfield 22, 3) := by decide +kernel
theorem zd_Router_init_28 : decode zc_Router_init 28 = .ok (.aload_n 0, 1) := by decide +kernel
theorem zd_Router_init_29 : decode zc_Router_init 29 = .ok (.aload_n 2, 1) := by decide +kernel
theorem zd_Router_init_30 : decode zc_Router_init 30 = .ok (.putfield 26, 3) := by decide +kernel
theorem zd_Router_init_33 : decode zc_Router_init 33 = .ok (.aload_n 0, 1) := by decide +kernel
theorem zd_Router_init_34 : decode zc_Router_init 34 = .ok (.aload_n 3, 1) := by decide +kernel
theorem zd_Router_init_35 : decode zc_Router_init 35 = .ok (.putfield 30, 3) := by decide +kernel
theorem zd_Router_init_38 : decode zc_Router_init 38 = .ok (.aload_n 0, 1) := by decide +kernel
theorem zd_Router_init_39 : decode zc_Router_init 39 = .ok (.aload 4, 2) := by decide +kernel
theorem zd_Router_init_41 : decode zc_Router_init 41 = .ok (.putfield 34, 3) := by decide +kernel
theorem zd_Router_init_44 : decode zc_Router_init 44 = .ok (.aload_n 0, 1) := by decide +kernel
theorem zd_Router_init_45 : decode zc_Router_init 45 = .ok (.aload 5, 2) := by decide +kernel
theorem zd_Router_init_47 : decode zc_Router_init 47 = .ok (.putfield 38, 3) := by decide +kernel
theorem zd_Router_init_50 : decode zc_Router_init 50 = .ok (.aload_n 0, 1) := by decide +kernel
theorem zd_Router_init_51 : decode zc_Router_init 51 = .ok (.new 42, 3) := by decide +kernel
theorem zd_Router_init_54 : decode zc_Router_init 54 = .ok (.dup, 1) := by decide +kernel
theorem zd_Router_init_55 : decode zc_Router_init 55 = .ok (.aload_n 1, 1) := by decide +kernel
theorem zd_Router_init_56 : decode zc_Router_init 56 = .ok (.aload_n 2, 1) := by decide +kernel
theorem zd_Router_init_57 : decode zc_Router_init 57 = .ok (.aload 4, 2) := by decide +kernel
theorem zd_Router_init_59 : decode zc_Router_init 59 = .ok (.iload 6, 2) := by decide +kernel
theorem zd_Router_init_61 : decode zc_Router_init 61 = .ok (.invokespecial 44, 3) := by decide +kernel
theorem zd_Router_init_64 : decode zc_Router_init 64 = .ok (.putfield 47, 3) := by decide +kernel
theorem zd_Router_init_67 : decode zc_Router_init 67 = .ok (.return_, 1) := by decide +kernel
theorem zd_Shapes_init_0 : decode zc_Shapes_init 0 = .ok (.aload_n 0, 1) := by decide +kernel
theorem zd_Shapes_init_1 : decode zc_Shapes_init 1 = .ok (.invokespecial 3, 3) := by decide +kernel
theorem zd_Shapes_init_4 : decode zc_Shapes_init 4 = .ok (.aload_n 0, 1) := by decide +kernel
theorem zd_Shapes_init_5 : decode zc_Shapes_init 5 = .ok (.aload_n 1, 1) := by decide +kernel
theorem zd_Shapes_init_6 : decode zc_Shapes_init 6 = .ok (.putfield 9, 3) := by decide +kernel
theorem zd_Shapes_init_9 : decode zc_Shapes_init 9 = .ok (.aload_n 0, 1) := by decide +kernel
theorem zd_Shapes_init_10 : decode zc_Shapes_init 10 = .ok (.aload_n 2, 1) := by decide +kernel
theorem zd_Shapes_init_11 : decode zc_Shapes_init 11 = .ok (.putfield 15, 3) := by decide +kernel
theorem zd_Shapes_init_14 : decode zc_Shapes_init 14 = .ok (.return_, 1) := by decide +kernel
theorem zd_Grid_init_86 : decode zc_Grid_init 86 = .ok (.iload 6, 2) := by decide +kernel
theorem zd_Grid_init_88 : decode zc_Grid_init 88 = .ok (.iload_n 1, 1) := by decide +kernel
theorem zd_Grid_init_89 : decode zc_Grid_init 89 = .ok (.if_icmp .ge 37, 3) := by decide +kernel
theorem zd_Grid_init_92 : decode zc_Grid_init 92 = .ok (.aload_n 0, 1) := by decide +kernel
theorem zd_Grid_init_93 : decode zc_Grid_init 93 = .ok (.getfield 24, 3) := by decide +kernel
theorem zd_Grid_init_96 : decode zc_Grid_init 96 = .ok (.iload_n 3, 1) := by decide +kernel
theorem zd_Grid_init_97 : decode zc_Grid_init 97 = .ok (.iload 6, 2) := by decide +kernel
theorem zd_Grid_init_99 : decode zc_Grid_init 99 = .ok (.iastore, 1) := by decide +kernel
theorem zd_Grid_init_100 : decode zc_Grid_init 100 = .ok (.aload_n 0, 1) := by decide +kernel
theorem zd_Grid_init_101 : decode zc_Grid_init 101 = .ok (.getfield 28, 3) := by decide +kernel
theorem zd_Grid_init_104 : decode zc_Grid_init 104 = .ok (.iload_n 3, 1) := by decide +kernel
theorem zd_Grid_init_105 : decode zc_Grid_init 105 = .ok (.iload 5, 2) := by decide +kernel
theorem zd_Grid_init_107 : decode zc_Grid_init 107 = .ok (.iastore, 1) := by decide +kernel
theorem zd_Grid_init_108 : decode zc_Grid_init 108 = .ok (.aload_n 0, 1) := by decide +kernel
theorem zd_Grid_init_109 : decode zc_Grid_init 109 = .ok (.iload_n 3, 1) := by decide +kernel
theorem zd_Grid_init_110 : decode zc_Grid_init 110 = .ok (.iload 6, 2) := by decide +kernel
theorem zd_Grid_init_112 : decode zc_Grid_init 112 = .ok (.iload 5, 2) := by decide +kernel
theorem zd_Grid_init_114 : decode zc_Grid_init 114 = .ok (.invokevirtual 34, 3) := by decide +kernel
theorem zd_Grid_init_117 : decode zc_Grid_init 117 = .ok (.iinc 3 1, 3) := by decide +kernel
theorem zd_Grid_init_120 : decode zc_Grid_init 120 = .ok (.iinc 6 1, 3) := by decide +kernel
theorem zd_Grid_init_123 : decode zc_Grid_init 123 = .ok (.goto (-37), 3) := by decide +kernel
theorem zd_Grid_init_77 : decode zc_Grid_init 77 = .ok (.iload 5, 2) := by decide +kernel
theorem zd_Grid_init_79 : decode zc_Grid_init 79 = .ok (.iload_n 2, 1) := by decide +kernel
theorem zd_Grid_init_80 : decode zc_Grid_init 80 = .ok (.if_icmp .ge 52, 3) := by decide +kernel
theorem zd_Grid_init_83 : decode zc_Grid_init 83 = .ok (.iconst 0, 1) := by decide +kernel
theorem zd_Grid_init_84 : decode zc_Grid_init 84 = .ok (.istore 6, 2) := by decide +kernel
theorem zd_Grid_init_126 : decode zc_Grid_init 126 = .ok (.iinc 5 1, 3) := by decide +kernel
theorem zd_Grid_init_129 : decode zc_Grid_init 129 = .ok (.goto (-52), 3) := by decide +kernel
theorem zd_Grid_init_68 : decode zc_Grid_init 68 = .ok (.iload 4, 2) := by decide +kernel
theorem zd_Grid_init_70 : decode zc_Grid_init 70 = .ok (.iconst 2, 1) := by decide +kernel
theorem zd_Grid_init_71 : decode zc_Grid_init 71 = .ok (.if_icmp .ge 67, 3) := by decide +kernel
theorem zd_Grid_init_138 : decode zc_Grid_init 138 = .ok (.return_, 1) := by decide +kernel
theorem zd_Grid_init_74 : decode zc_Grid_init 74 = .ok (.iconst 0, 1) := by decide +kernel
theorem zd_Grid_init_75 : decode zc_Grid_init 75 = .ok (.istore 5, 2) := by decide +kernel
theorem zd_Grid_init_132 : decode zc_Grid_init 132 = .ok (.iinc 4 1, 3) := by decide +kernel
theorem zd_Grid_init_135 : decode zc_Grid_init 135 = .ok (.goto (-67), 3) := by decide +kernel
theorem zd_Grid_init_63 : decode zc_Grid_init 63 = .ok (.iconst 0, 1) := by decide +kernel
theorem zd_Grid_init_64 : decode zc_Grid_init 64 = .ok (.istore_n 3, 1) := by decide +kernel
theorem zd_Grid_init_65 : decode zc_Grid_init 65 = .ok (.iconst 0, 1) := by decide +kernel
theorem zd_Grid_init_66 : decode zc_Grid_init 66 = .ok (.istore 4, 2) := by decide +kernel
theorem zd_Grid_init_0 : decode zc_Grid_init 0 = .ok (.aload_n 0, 1) := by decide +kernel
theorem zd_Grid_init_1 : decode zc_Grid_init 1 = .ok (.invokespecial 3, 3) := by decide +kernel
theorem zd_Grid_init_4 : decode zc_Grid_init 4 = .ok (.aload_n 0, 1) := by decide +kernel
theorem zd_Grid_init_5 : decode zc_Grid_init 5 = .ok (.iload_n 1, 1) := by decide +kernel
theorem zd_Grid_init_6 : decode zc_Grid_init 6 = .ok (.putfield 9, 3) := by decide +kernel
theorem zd_Grid_init_9 : decode zc_Grid_init 9 = .ok (.aload_n 0, 1) := by decide +kernel
theorem zd_Grid_init_10 : decode zc_Grid_init 10 = .ok (.iload_n 2, 1) := by decide +kernel
theorem zd_Grid_init_11 : decode zc_Grid_init 11 = .ok (.putfield 15, 3) := by decide +kernel
theorem zd_Grid_init_14 : decode zc_Grid_init 14 = .ok (.aload_n 0, 1) := by decide +kernel
theorem zd_Grid_init_15 : decode zc_Grid_init 15 = .ok (.iload_n 1, 1) := by decide +kernel
theorem zd_Grid_init_16 : decode zc_Grid_init 16 = .ok (.iload_n 2, 1) := by decide +kernel
theorem zd_Grid_init_17 : decode zc_Grid_init 17 = .ok (.imul, 1) := by decide +kernel
theorem zd_Grid_init_18 : decode zc_Grid_init 18 = .ok (.putfield 18, 3) := by decide +kernel
theorem zd_Grid_init_21 : decode zc_Grid_init 21 = .ok (.aload_n 0, 1) := by decide +kernel
theorem zd_Grid_init_22 : decode zc_Grid_init 22 = .ok (.iconst 2, 1) := by decide +kernel
theorem zd_Grid_init_23 : decode zc_Grid_init 23 = .ok (.aload_n 0, 1) := by decide +kernel
theorem zd_Grid_init_24 : decode zc_Grid_init 24 = .ok (.getfield 18, 3) := by decide +kernel
theorem zd_Grid_init_27 : decode zc_Grid_init 27 = .ok (.imul, 1) := by decide +kernel
theorem zd_Grid_init_28 : decode zc_Grid_init 28 = .ok (.putfield 21, 3) := by decide +kernel
theorem zd_Grid_init_31 : decode zc_Grid_init 31 = .ok (.aload_n 0, 1) := by decide +kernel
theorem zd_Grid_init_32 : decode zc_Grid_init 32 = .ok (.aload_n 0, 1) := by decide +kernel
theorem zd_Grid_init_33 : decode zc_Grid_init 33 = .ok (.getfield 21, 3) := by decide +kernel
theorem zd_Grid_init_36 : decode zc_Grid_init 36 = .ok (.newarray .int, 2) := by decide +kernel
theorem zd_Grid_init_38 : decode zc_Grid_init 38 = .ok (.putfield 24, 3) := by decide +kernel
theorem zd_Grid_init_41 : decode zc_Grid_init 41 = .ok (.aload_n 0, 1) := by decide +kernel
theorem zd_Grid_init_42 : decode zc_Grid_init 42 = .ok (.aload_n 0, 1) := by decide +kernel
theorem zd_Grid_init_43 : decode zc_Grid_init 43 = .ok (.getfield 21, 3) := by decide +kernel
theorem zd_Grid_init_46 : decode zc_Grid_init 46 = .ok (.newarray .int, 2) := by decide +kernel
theorem zd_Grid_init_48 : decode zc_Grid_init 48 = .ok (.putfield 28, 3) := by decide +kernel
theorem zd_Grid_init_51 : decode zc_Grid_init 51 = .ok (.aload_n 0, 1) := by decide +kernel
theorem zd_Grid_init_52 : decode zc_Grid_init 52 = .ok (.aload_n 0, 1) := by decide +kernel
theorem zd_Grid_init_53 : decode zc_Grid_init 53 = .ok (.getfield 21, 3) := by decide +kernel
theorem zd_Grid_init_56 : decode zc_Grid_init 56 = .ok (.iconst 5, 1) := by decide +kernel
theorem zd_Grid_init_57 : decode zc_Grid_init 57 = .ok (.imul, 1) := by decide +kernel
theorem zd_Grid_init_58 : decode zc_Grid_init 58 = .ok (.newarray .int, 2) := by decide +kernel
theorem zd_Grid_init_60 : decode zc_Grid_init 60 = .ok (.putfield 31, 3) := by decide +kernel
theorem zd_Gr_init_0 : decode zc_Gr_init 0 = .ok (.aload_n 0, 1) := by decide +kernel
theorem zd_Gr_init_1 : decode zc_Gr_init 1 = .ok (.invokespecial 1, 3) := by decide +kernel
theorem zd_Gr_init_4 : decode zc_Gr_init 4 = .ok (.aload_n 0, 1) := by decide +kernel
theorem zd_Gr_init_5 : decode zc_Gr_init 5 = .ok (.new 7, 3) := by decide +kernel
theorem zd_Gr_init_8 : decode zc_Gr_init 8 = .ok (.dup, 1) := by decide +kernel
theorem zd_Gr_init_9 : decode zc_Gr_init 9 = .ok (.iconst 2, 1) := by decide +kernel
theorem zd_Gr_init_10 : decode zc_Gr_init 10 = .ok (.iload_n 1, 1) := by decide +kernel
theorem zd_Gr_init_11 : decode zc_Gr_init 11 = .ok (.bipush 7, 2) := by decide +kernel
theorem zd_Gr_init_13 : decode zc_Gr_init 13 = .ok (.iand, 1) := by decide +kernel
theorem zd_Gr_init_14 : decode zc_Gr_init 14 = .ok (.iadd, 1) := by decide +kernel
theorem zd_Gr_init_15 : decode zc_Gr_init 15 = .ok (.iconst 2, 1) := by decide +kernel
theorem zd_Gr_init_16 : decode zc_Gr_init 16 = .ok (.iload_n 2, 1) := by decide +kernel
theorem zd_Gr_init_17 : decode zc_Gr_init 17 = .ok (.bipush 7, 2) := by decide +kernel
theorem zd_Gr_init_19 : decode zc_Gr_init 19 = .ok (.iand, 1) := by decide +kernel
theorem zd_Gr_init_20 : decode zc_Gr_init 20 = .ok (.iadd, 1) := by decide +kernel
theorem zd_Gr_init_21 : decode zc_Gr_init 21 = .ok (.invokespecial 9, 3) := by decide +kernel
theorem zd_Gr_init_24 : decode zc_Gr_init 24 = .ok (.putfield 12, 3) := by decide +kernel
theorem zd_Gr_init_27 : decode zc_Gr_init 27 = .ok (.aload_n 0, 1) := by decide +kernel
theorem zd_Gr_init_28 : decode zc_Gr_init 28 = .ok (.new 18, 3) := by decide +kernel
theorem zd_Gr_init_31 : decode zc_Gr_init 31 = .ok (.dup, 1) := by decide +kernel
theorem zd_Gr_init_32 : decode zc_Gr_init 32 = .ok (.aload_n 0, 1) := by decide +kernel
theorem zd_Gr_init_33 : decode zc_Gr_init 33 = .ok (.getfield 12, 3) := by decide +kernel
theorem zd_Gr_init_36 : decode zc_Gr_init 36 = .ok (.invokespecial 20, 3) := by decide +kernel
theorem zd_Gr_init_39 : decode zc_Gr_init 39 = .ok (.putfield 23, 3) := by decide +kernel
theorem zd_Gr_init_42 : decode zc_Gr_init 42 = .ok (.aload_n 0, 1) := by decide +kernel
theorem zd_Gr_init_43 : decode zc_Gr_init 43 = .ok (.new 27, 3) := by decide +kernel
theorem zd_Gr_init_46 : decode zc_Gr_init 46 = .ok (.dup, 1) := by decide +kernel
theorem zd_Gr_init_47 : decode zc_Gr_init 47 = .ok (.aload_n 0, 1) := by decide +kernel
theorem zd_Gr_init_48 : decode zc_Gr_init 48 = .ok (.getfield 12, 3) := by decide +kernel
theorem zd_Gr_init_51 : decode zc_Gr_init 51 = .ok (.aload_n 0, 1) := by decide +kernel
theorem zd_Gr_init_52 : decode zc_Gr_init 52 = .ok (.getfield 23, 3) := by decide +kernel
theorem zd_Gr_init_55 : decode zc_Gr_init 55 = .ok (.invokespecial 29, 3) := by decide +kernel
theorem zd_Gr_init_58 : decode zc_Gr_init 58 = .ok (.putfield 32, 3) := by decide +kernel
theorem zd_Gr_init_61 : decode zc_Gr_init 61 = .ok (.aload_n 0, 1) := by decide +kernel
theorem zd_Gr_init_62 : decode zc_Gr_init 62 = .ok (.new 36, 3) := by decide +kernel
theorem zd_Gr_init_65 : decode zc_Gr_init 65 = .ok (.dup, 1) := by decide +kernel
theorem zd_Gr_init_66 : decode zc_Gr_init 66 = .ok (.aload_n 0, 1) := by decide +kernel
theorem zd_Gr_init_67 : decode zc_Gr_init 67 = .ok (.getfield 12, 3) := by decide +kernel
theorem zd_Gr_init_70 : decode zc_Gr_init 70 = .ok (.aload_n 0, 1) := by decide +kernel
theorem zd_Gr_init_71 : decode zc_Gr_init 71 = .ok (.getfield 23, 3) := by decide +kernel
theorem zd_Gr_init_74 : decode zc_Gr_init 74 = .ok (.aload_n 0, 1) := by decide +kernel
theorem zd_Gr_init_75 : decode zc_Gr_init 75 = .ok (.getfield 32, 3) := by decide +kernel
theorem zd_Gr_init_78 : decode zc_Gr_init 78 = .ok (.iload 4, 2) := by decide +kernel
theorem zd_Gr_init_80 : decode zc_Gr_init 80 = .ok (.iconst 1, 1) := by decide +kernel
theorem zd_Gr_init_81 : decode zc_Gr_init 81 = .ok (.iand, 1) := by decide +kernel
theorem zd_Gr_init_82 : decode zc_Gr_init 82 = .ok (.iconst 1, 1) := by decide +kernel
theorem zd_Gr_init_83 : decode zc_Gr_init 83 = .ok (.if_icmp .ne 7, 3) := by decide +kernel
theorem zd_Gr_init_91 : decode zc_Gr_init 91 = .ok (.invokespecial 38, 3) := by decide +kernel
theorem zd_Gr_init_94 : decode zc_Gr_init 94 = .ok (.putfield 41, 3) := by decide +kernel
theorem zd_Gr_init_97 : decode zc_Gr_init 97 = .ok (.aload_n 0, 1) := by decide +kernel
theorem zd_Gr_init_98 : decode zc_Gr_init 98 = .ok (.new 45, 3) := by decide +kernel
theorem zd_Gr_init_101 : decode zc_Gr_init 101 = .ok (.dup, 1) := by decide +kernel
theorem zd_Gr_init_102 : decode zc_Gr_init 102 = .ok (.aload_n 0, 1) := by decide +kernel
theorem zd_Gr_init_103 : decode zc_Gr_init 103 = .ok (.getfield 12, 3) := by decide +kernel
theorem zd_Gr_init_106 : decode zc_Gr_init 106 = .ok (.aload_n 0, 1) := by decide +kernel
theorem zd_Gr_init_107 : decode zc_Gr_init 107 = .ok (.getfield 23, 3) := by decide +kernel
theorem zd_Gr_init_110 : decode zc_Gr_init 110 = .ok (.aload_n 0, 1) := by decide +kernel
theorem zd_Gr_init_111 : decode zc_Gr_init 111 = .ok (.getfield 32, 3) := by decide +kernel
theorem zd_Gr_init_114 : decode zc_Gr_init 114 = .ok (.aload_n 0, 1) := by decide +kernel
theorem zd_Gr_init_115 : decode zc_Gr_init 115 = .ok (.getfield 41, 3) := by decide +kernel
theorem zd_Gr_init_118 : decode zc_Gr_init 118 = .ok (.invokespecial 47, 3) := by decide +kernel
theorem zd_Gr_init_121 : decode zc_Gr_init 121 = .ok (.putfield 50, 3) := by decide +kernel
theorem zd_Gr_init_124 : decode zc_Gr_init 124 = .ok (.aload_n 0, 1) := by decide +kernel
theorem zd_Gr_init_125 : decode zc_Gr_init 125 = .ok (.new 54, 3) := by decide +kernel
theorem zd_Gr_init_128 : decode zc_Gr_init 128 = .ok (.dup, 1) := by decide +kernel
theorem zd_Gr_init_129 : decode zc_Gr_init 129 = .ok (.aload_n 0, 1) := by decide +kernel
theorem zd_Gr_init_130 : decode zc_Gr_init 130 = .ok (.getfield 12, 3) := by decide +kernel
theorem zd_Gr_init_133 : decode zc_Gr_init 133 = .ok (.aload_n 0, 1) := by decide +kernel
theorem zd_Gr_init_134 : decode zc_Gr_init 134 = .ok (.getfield 23, 3) := by decide +kernel
theorem zd_Gr_init_137 : decode zc_Gr_init 137 = .ok (.aload_n 0, 1) := by decide +kernel
theorem zd_Gr_init_138 : decode zc_Gr_init 138 = .ok (.getfield 32, 3) := by decide +kernel
theorem zd_Gr_init_141 : decode zc_Gr_init 141 = .ok (.aload_n 0, 1) := by decide +kernel
theorem zd_Gr_init_142 : decode zc_Gr_init 142 = .ok (.getfield 41, 3) := by decide +kernel
theorem zd_Gr_init_145 : decode zc_Gr_init 145 = .ok (.aload_n 0, 1) := by decide +kernel
theorem zd_Gr_init_146 : decode zc_Gr_init 146 = .ok (.getfield 50, 3) := by decide +kernel
theorem zd_Gr_init_149 : decode zc_Gr_init 149 = .ok (.iconst 1, 1) := by decide +kernel
theorem zd_Gr_init_150 : decode zc_Gr_init 150 = .ok (.iload_n 3, 1) := by decide +kernel
theorem zd_Gr_init_151 : decode zc_Gr_init 151 = .ok (.iconst 3, 1) := by decide +kernel
theorem zd_Gr_init_152 : decode zc_Gr_init 152 = .ok (.iand, 1) := by decide +kernel
theorem zd_Gr_init_153 : decode zc_Gr_init 153 = .ok (.iadd, 1) := by decide +kernel
theorem zd_Gr_init_154 : decode zc_Gr_init 154 = .ok (.invokespecial 56, 3) := by decide +kernel
theorem zd_Gr_init_157 : decode zc_Gr_init 157 = .ok (.putfield 59, 3) := by decide +kernel
theorem zd_Gr_init_160 : decode zc_Gr_init 160 = .ok (.aload_n 0, 1) := by decide +kernel
theorem zd_Gr_init_161 : decode zc_Gr_init 161 = .ok (.new 63, 3) := by decide +kernel
theorem zd_Gr_init_164 : decode zc_Gr_init 164 = .ok (.dup, 1) := by decide +kernel
theorem zd_Gr_init_165 : decode zc_Gr_init 165 = .ok (.aload_n 0, 1) := by decide +kernel
theorem zd_Gr_init_166 : decode zc_Gr_init 166 = .ok (.getfield 12, 3) := by decide +kernel
theorem zd_Gr_init_169 : decode zc_Gr_init 169 = .ok (.aload_n 0, 1) := by decide +kernel
theorem zd_Gr_init_170 : decode zc_Gr_init 170 = .ok (.getfield 32, 3) := by decide +kernel
theorem zd_Gr_init_173 : decode zc_Gr_init 173 = .ok (.invokespecial 65, 3) := by decide +kernel
theorem zd_Gr_init_176 : decode zc_Gr_init 176 = .ok (.putfield 68, 3) := by decide +kernel
theorem zd_Gr_init_179 : decode zc_Gr_init 179 = .ok (.return_, 1) := by decide +kernel
theorem zd_Gr_init_90 : decode zc_Gr_init 90 = .ok (.iconst 0, 1) := by decide +kernel
theorem zd_Gr_init_86 : decode zc_Gr_init 86 = .ok (.iconst 1, 1) := by decide +kernel
theorem zd_Gr_init_87 : decode zc_Gr_init 87 = .ok (.goto 4, 3) := by decide +kernel
theorem zd_Mo_init_0 : decode zc_Mo_init 0 = .ok (.aload_n 0, 1) := by decide +kernel
theorem zd_Mo_init_1 : decode zc_Mo_init 1 = .ok (.invokespecial 1, 3) := by decide +kernel
theorem zd_Mo_init_4 : decode zc_Mo_init 4 = .ok (.aload_n 0, 1) := by decide +kernel
theorem zd_Mo_init_5 : decode zc_Mo_init 5 = .ok (.sipush 162, 3) := by decide +kernel
theorem zd_Mo_init_8 : decode zc_Mo_init 8 = .ok (.newarray .boolean, 2) := by decide +kernel
theorem zd_Mo_init_10 : decode zc_Mo_init 10 = .ok (.putfield 7, 3) := by decide +kernel
theorem zd_Mo_init_13 : decode zc_Mo_init 13 = .ok (.aload_n 0, 1) := by decide +kernel
theorem zd_Mo_init_14 : decode zc_Mo_init 14 = .ok (.sipush 162, 3) := by decide +kernel
theorem zd_Mo_init_17 : decode zc_Mo_init 17 = .ok (.newarray .int, 2) := by decide +kernel
theorem zd_Mo_init_19 : decode zc_Mo_init 19 = .ok (.putfield 13, 3) := by decide +kernel
theorem zd_Mo_init_22 : decode zc_Mo_init 22 = .ok (.aload_n 0, 1) := by decide +kernel
theorem zd_Mo_init_23 : decode zc_Mo_init 23 = .ok (.sipush 162, 3) := by decide +kernel
theorem zd_Mo_init_26 : decode zc_Mo_init 26 = .ok (.newarray .int, 2) := by decide +kernel
theorem zd_Mo_init_28 : decode zc_Mo_init 28 = .ok (.putfield 17, 3) := by decide +kernel
theorem zd_Mo_init_31 : decode zc_Mo_init 31 = .ok (.aload_n 0, 1) := by decide +kernel
theorem zd_Mo_init_32 : decode zc_Mo_init 32 = .ok (.bipush 81, 2) := by decide +kernel
theorem zd_Mo_init_34 : decode zc_Mo_init 34 = .ok (.newarray .boolean, 2) := by decide +kernel
theorem zd_Mo_init_36 : decode zc_Mo_init 36 = .ok (.putfield 20, 3) := by decide +kernel
theorem zd_Mo_init_39 : decode zc_Mo_init 39 = .ok (.aload_n 0, 1) := by decide +kernel
theorem zd_Mo_init_40 : decode zc_Mo_init 40 = .ok (.sipush 162, 3) := by decide +kernel
theorem zd_Mo_init_43 : decode zc_Mo_init 43 = .ok (.newarray .int, 2) := by decide +kernel
theorem zd_Mo_init_45 : decode zc_Mo_init 45 = .ok (.putfield 23, 3) := by decide +kernel
theorem zd_Mo_init_48 : decode zc_Mo_init 48 = .ok (.aload_n 0, 1) := by decide +kernel
theorem zd_Mo_init_49 : decode zc_Mo_init 49 = .ok (.sipush 162, 3) := by decide +kernel
theorem zd_Mo_init_52 : decode zc_Mo_init 52 = .ok (.newarray .boolean, 2) := by decide +kernel
theorem zd_Mo_init_54 : decode zc_Mo_init 54 = .ok (.putfield 26, 3) := by decide +kernel
theorem zd_Mo_init_57 : decode zc_Mo_init 57 = .ok (.aload_n 0, 1) := by decide +kernel
theorem zd_Mo_init_58 : decode zc_Mo_init 58 = .ok (.sipush 162, 3) := by decide +kernel
theorem zd_Mo_init_61 : decode zc_Mo_init 61 = .ok (.newarray .int, 2) := by decide +kernel
theorem zd_Mo_init_63 : decode zc_Mo_init 63 = .ok (.putfield 29, 3) := by decide +kernel
theorem zd_Mo_init_66 : decode zc_Mo_init 66 = .ok (.aload_n 0, 1) := by decide +kernel
theorem zd_Mo_init_67 : decode zc_Mo_init 67 = .ok (.sipush 162, 3) := by decide +kernel
theorem zd_Mo_init_70 : decode zc_Mo_init 70 = .ok (.newarray .boolean, 2) := by decide +kernel
theorem zd_Mo_init_72 : decode zc_Mo_init 72 = .ok (.putfield 32, 3) := by decide +kernel
theorem zd_Mo_init_75 : decode zc_Mo_init 75 = .ok (.aload_n 0, 1) := by decide +kernel
theorem zd_Mo_init_76 : decode zc_Mo_init 76 = .ok (.bipush 6, 2) := by decide +kernel
theorem zd_Mo_init_78 : decode zc_Mo_init 78 = .ok (.newarray .int, 2) := by decide +kernel
theorem zd_Mo_init_80 : decode zc_Mo_init 80 = .ok (.putfield 35, 3) := by decide +kernel
theorem zd_Mo_init_83 : decode zc_Mo_init 83 = .ok (.aload_n 0, 1) := by decide +kernel
theorem zd_Mo_init_84 : decode zc_Mo_init 84 = .ok (.bipush 6, 2) := by decide +kernel
theorem zd_Mo_init_86 : decode zc_Mo_init 86 = .ok (.newarray .int, 2) := by decide +kernel
theorem zd_Mo_init_88 : decode zc_Mo_init 88 = .ok (.putfield 38, 3) := by decide +kernel
theorem zd_Mo_init_91 : decode zc_Mo_init 91 = .ok (.aload_n 0, 1) := by decide +kernel
theorem zd_Mo_init_92 : decode zc_Mo_init 92 = .ok (.bipush 6, 2) := by decide +kernel
theorem zd_Mo_init_94 : decode zc_Mo_init 94 = .ok (.newarray .int, 2) := by decide +kernel
theorem zd_Mo_init_96 : decode zc_Mo_init 96 = .ok (.putfield 41, 3) := by decide +kernel
theorem zd_Mo_init_99 : decode zc_Mo_init 99 = .ok (.aload_n 0, 1) := by decide +kernel
theorem zd_Mo_init_100 : decode zc_Mo_init 100 = .ok (.iconst 2, 1) := by decide +kernel
theorem zd_Mo_init_101 : decode zc_Mo_init 101 = .ok (.iload_n 1, 1) := by decide +kernel
theorem zd_Mo_init_102 : decode zc_Mo_init 102 = .ok (.bipush 7, 2) := by decide +kernel
theorem zd_Mo_init_104 : decode zc_Mo_init 104 = .ok (.iand, 1) := by decide +kernel
theorem zd_Mo_init_105 : decode zc_Mo_init 105 = .ok (.iadd, 1) := by decide +kernel
theorem zd_Mo_init_106 : decode zc_Mo_init 106 = .ok (.putfield 44, 3) := by decide +kernel
theorem zd_Mo_init_109 : decode zc_Mo_init 109 = .ok (.aload_n 0, 1) := by decide +kernel
theorem zd_Mo_init_110 : decode zc_Mo_init 110 = .ok (.iconst 2, 1) := by decide +kernel
theorem zd_Mo_init_111 : decode zc_Mo_init 111 = .ok (.iload_n 2, 1) := by decide +kernel
theorem zd_Mo_init_112 : decode zc_Mo_init 112 = .ok (.bipush 7, 2) := by decide +kernel
theorem zd_Mo_init_114 : decode zc_Mo_init 114 = .ok (.iand, 1) := by decide +kernel
theorem zd_Mo_init_115 : decode zc_Mo_init 115 = .ok (.iadd, 1) := by decide +kernel
theorem zd_Mo_init_116 : decode zc_Mo_init 116 = .ok (.putfield 48, 3) := by decide +kernel
theorem zd_Mo_init_119 : decode zc_Mo_init 119 = .ok (.aload_n 0, 1) := by decide +kernel
theorem zd_Mo_init_120 : decode zc_Mo_init 120 = .ok (.iconst 1, 1) := by decide +kernel
theorem zd_Mo_init_121 : decode zc_Mo_init 121 = .ok (.iload_n 3, 1) := by decide +kernel
theorem zd_Mo_init_122 : decode zc_Mo_init 122 = .ok (.iconst 3, 1) := by decide +kernel
theorem zd_Mo_init_123 : decode zc_Mo_init 123 = .ok (.iand, 1) := by decide +kernel
theorem zd_Mo_init_124 : decode zc_Mo_init 124 = .ok (.iadd, 1) := by decide +kernel
theorem zd_Mo_init_125 : decode zc_Mo_init 125 = .ok (.putfield 51, 3) := by decide +kernel
theorem zd_Mo_init_128 : decode zc_Mo_init 128 = .ok (.aload_n 0, 1) := by decide +kernel
theorem zd_Mo_init_129 : decode zc_Mo_init 129 = .ok (.iload 4, 2) := by decide +kernel
theorem zd_Mo_init_131 : decode zc_Mo_init 131 = .ok (.iconst 1, 1) := by decide +kernel
theorem zd_Mo_init_132 : decode zc_Mo_init 132 = .ok (.iand, 1) := by decide +kernel
theorem zd_Mo_init_133 : decode zc_Mo_init 133 = .ok (.iconst 1, 1) := by decide +kernel
theorem zd_Mo_init_134 : decode zc_Mo_init 134 = .ok (.if_icmp .ne 7, 3) := by decide +kernel
theorem zd_Mo_init_142 : decode zc_Mo_init 142 = .ok (.putfield 54, 3) := by decide +kernel
theorem zd_Mo_init_148 : decode zc_Mo_init 148 = .ok (.iload 5, 2) := by decide +kernel
theorem zd_Mo_init_150 : decode zc_Mo_init 150 = .ok (.sipush 162, 3) := by decide +kernel
theorem zd_Mo_init_153 : decode zc_Mo_init 153 = .ok (.if_icmp .ge 25, 3) := by decide +kernel
theorem zd_Mo_init_178 : decode zc_Mo_init 178 = .ok (.return_, 1) := by decide +kernel
theorem zd_Mo_init_156 : decode zc_Mo_init 156 = .ok (.aload_n 0, 1) := by decide +kernel
theorem zd_Mo_init_157 : decode zc_Mo_init 157 = .ok (.getfield 13, 3) := by decide +kernel
theorem zd_Mo_init_160 : decode zc_Mo_init 160 = .ok (.iload 5, 2) := by decide +kernel
theorem zd_Mo_init_162 : decode zc_Mo_init 162 = .ok (.iconst (-1), 1) := by decide +kernel
theorem zd_Mo_init_163 : decode zc_Mo_init 163 = .ok (.iastore, 1) := by decide +kernel
theorem zd_Mo_init_164 : decode zc_Mo_init 164 = .ok (.aload_n 0, 1) := by decide +kernel
theorem zd_Mo_init_165 : decode zc_Mo_init 165 = .ok (.getfield 17, 3) := by decide +kernel
theorem zd_Mo_init_168 : decode zc_Mo_init 168 = .ok (.iload 5, 2) := by decide +kernel
theorem zd_Mo_init_170 : decode zc_Mo_init 170 = .ok (.iconst (-1), 1) := by decide +kernel
theorem zd_Mo_init_171 : decode zc_Mo_init 171 = .ok (.iastore, 1) := by decide +kernel
theorem zd_Mo_init_172 : decode zc_Mo_init 172 = .ok (.iinc 5 1, 3) := by decide +kernel
theorem zd_Mo_init_175 : decode zc_Mo_init 175 = .ok (.goto (-27), 3) := by decide +kernel
theorem zd_Mo_init_145 : decode zc_Mo_init 145 = .ok (.iconst 0, 1) := by decide +kernel
theorem zd_Mo_init_146 : decode zc_Mo_init 146 = .ok (.istore 5, 2) := by decide +kernel
theorem zd_Mo_init_141 : decode zc_Mo_init 141 = .ok (.iconst 0, 1) := by decide +kernel
theorem zd_Mo_init_137 : decode zc_Mo_init 137 = .ok (.iconst 1, 1) := by decide +kernel
theorem zd_Mo_init_138 : decode zc_Mo_init 138 = .ok (.goto 4, 3) := by decide +kernel
theorem zd_La_scr_13 : decode zc_La_scr 13 = .ok (.ireturn, 1) := by decide +kernel
theorem zd_La_scr_0 : decode zc_La_scr 0 = .ok (.iload_n 1, 1) := by decide +kernel
theorem zd_La_scr_1 : decode zc_La_scr 1 = .ok (.aload_n 0, 1) := by decide +kernel
theorem zd_La_scr_2 : decode zc_La_scr 2 = .ok (.arraylength, 1) := by decide +kernel
theorem zd_La_scr_3 : decode zc_La_scr 3 = .ok (.if_icmp .ge 9, 3) := by decide +kernel
theorem zd_La_scr_12 : decode zc_La_scr 12 = .ok (.iconst 0, 1) := by decide +kernel
theorem zd_La_scr_6 : decode zc_La_scr 6 = .ok (.aload_n 0, 1) := by decide +kernel
theorem zd_La_scr_7 : decode zc_La_scr 7 = .ok (.iload_n 1, 1) := by decide +kernel
theorem zd_La_scr_8 : decode zc_La_scr 8 = .ok (.iaload, 1) := by decide +kernel
theorem zd_La_scr_9 : decode zc_La_scr 9 = .ok (.goto 4, 3) := by decide +kernel
theorem zd_La_law_0 : decode zc_La_law 0 = .ok (.new 8, 3) := by decide +kernel
theorem zd_La_law_3 : decode zc_La_law 3 = .ok (.dup, 1) := by decide +kernel
theorem zd_La_law_4 : decode zc_La_law 4 = .ok (.aload_n 0, 1) := by decide +kernel
theorem zd_La_law_5 : decode zc_La_law 5 = .ok (.iconst 0, 1) := by decide +kernel
theorem zd_La_law_6 : decode zc_La_law 6 = .ok (.invokestatic 60, 3) := by decide +kernel
theorem zd_La_law_9 : decode zc_La_law 9 = .ok (.aload_n 0, 1) := by decide +kernel
theorem zd_La_law_10 : decode zc_La_law 10 = .ok (.iconst 1, 1) := by decide +kernel
theorem zd_La_law_11 : decode zc_La_law 11 = .ok (.invokestatic 60, 3) := by decide +kernel
theorem zd_La_law_14 : decode zc_La_law 14 = .ok (.aload_n 0, 1) := by decide +kernel
theorem zd_La_law_15 : decode zc_La_law 15 = .ok (.iconst 2, 1) := by decide +kernel
theorem zd_La_law_16 : decode zc_La_law 16 = .ok (.invokestatic 60, 3) := by decide +kernel
theorem zd_La_law_19 : decode zc_La_law 19 = .ok (.aload_n 0, 1) := by decide +kernel
theorem zd_La_law_20 : decode zc_La_law 20 = .ok (.iconst 3, 1) := by decide +kernel
theorem zd_La_law_21 : decode zc_La_law 21 = .ok (.invokestatic 60, 3) := by decide +kernel
theorem zd_La_law_24 : decode zc_La_law 24 = .ok (.invokespecial 65, 3) := by decide +kernel
theorem zd_La_law_27 : decode zc_La_law 27 = .ok (.astore_n 1, 1) := by decide +kernel
theorem zd_La_law_28 : decode zc_La_law 28 = .ok (.new 67, 3) := by decide +kernel
theorem zd_La_law_31 : decode zc_La_law 31 = .ok (.dup, 1) := by decide +kernel
theorem zd_La_law_32 : decode zc_La_law 32 = .ok (.aload_n 0, 1) := by decide +kernel
theorem zd_La_law_33 : decode zc_La_law 33 = .ok (.iconst 0, 1) := by decide +kernel
theorem zd_La_law_34 : decode zc_La_law 34 = .ok (.invokestatic 60, 3) := by decide +kernel
theorem zd_La_law_37 : decode zc_La_law 37 = .ok (.aload_n 0, 1) := by decide +kernel
theorem zd_La_law_38 : decode zc_La_law 38 = .ok (.iconst 1, 1) := by decide +kernel
theorem zd_La_law_39 : decode zc_La_law 39 = .ok (.invokestatic 60, 3) := by decide +kernel
theorem zd_La_law_42 : decode zc_La_law 42 = .ok (.aload_n 0, 1) := by decide +kernel
theorem zd_La_law_43 : decode zc_La_law 43 = .ok (.iconst 2, 1) := by decide +kernel
theorem zd_La_law_44 : decode zc_La_law 44 = .ok (.invokestatic 60, 3) := by decide +kernel
theorem zd_La_law_47 : decode zc_La_law 47 = .ok (.aload_n 0, 1) := by decide +kernel
theorem zd_La_law_48 : decode zc_La_law 48 = .ok (.iconst 3, 1) := by decide +kernel
theorem zd_La_law_49 : decode zc_La_law 49 = .ok (.invokestatic 60, 3) := by decide +kernel
theorem zd_La_law_52 : decode zc_La_law 52 = .ok (.invokespecial 69, 3) := by decide +kernel
theorem zd_La_law_55 : decode zc_La_law 55 = .ok (.astore_n 2, 1) := by decide +kernel
theorem zd_La_law_56 : decode zc_La_law 56 = .ok (.iconst 1, 1) := by decide +kernel
theorem zd_La_law_57 : decode zc_La_law 57 = .ok (.newarray .long, 2) := by decide +kernel
theorem zd_La_law_59 : decode zc_La_law 59 = .ok (.astore_n 3, 1) := by decide +kernel
theorem zd_La_law_60 : decode zc_La_law 60 = .ok (.iconst 4, 1) := by decide +kernel
theorem zd_La_law_61 : decode zc_La_law 61 = .ok (.istore 4, 2) := by decide +kernel
theorem zd_fill_0 : decode zc_fill 0 = .ok (.iconst 0, 1) := by decide +kernel
theorem zd_fill_1 : decode zc_fill 1 = .ok (.istore_n 2, 1) := by decide +kernel
theorem zd_fill_2 : decode zc_fill 2 = .ok (.aload_n 0, 1) := by decide +kernel
theorem zd_fill_3 : decode zc_fill 3 = .ok (.arraylength, 1) := by decide +kernel
theorem zd_fill_4 : decode zc_fill 4 = .ok (.istore_n 3, 1) := by decide +kernel
theorem zd_fill_5 : decode zc_fill 5 = .ok (.iload_n 2, 1) := by decide +kernel
theorem zd_fill_6 : decode zc_fill 6 = .ok (.iload_n 3, 1) := by decide +kernel
theorem zd_fill_7 : decode zc_fill 7 = .ok (.if_icmp .ge 13, 3) := by decide +kernel
theorem zd_fill_10 : decode zc_fill 10 = .ok (.aload_n 0, 1) := by decide +kernel
theorem zd_fill_11 : decode zc_fill 11 = .ok (.iload_n 2, 1) := by decide +kernel
theorem zd_fill_12 : decode zc_fill 12 = .ok (.iload_n 1, 1) := by decide +kernel
theorem zd_fill_13 : decode zc_fill 13 = .ok (.iastore, 1) := by decide +kernel
theorem zd_fill_14 : decode zc_fill 14 = .ok (.iinc 2 1, 3) := by decide +kernel
theorem zd_fill_17 : decode zc_fill 17 = .ok (.goto (-12), 3) := by decide +kernel
theorem zd_fill_20 : decode zc_fill 20 = .ok (.return_, 1) := by decide +kernel
