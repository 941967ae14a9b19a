theorem tk_0 : (Jvm.Cond.initialized "GridRouterLaw") ∈ zq_T := zq_tm 0 (by decide +kernel) (by decide +kernel)
theorem tk_1 : (Jvm.Cond.initialized "GridRouter") ∈ zq_T := zq_tm 1 (by decide +kernel) (by decide +kernel)
theorem tk_2 : (Jvm.Cond.initialized "GridRouter$Grid") ∈ zq_T := zq_tm 2 (by decide +kernel) (by decide +kernel)
theorem tk_3 : (Jvm.Cond.initialized "GridRouter$Nets") ∈ zq_T := zq_tm 3 (by decide +kernel) (by decide +kernel)
theorem tk_5 : (Jvm.Cond.initialized "GridRouter$Layout") ∈ zq_T := zq_tm 5 (by decide +kernel) (by decide +kernel)
theorem tk_6 : (Jvm.Cond.initialized "GridRouter$Rules") ∈ zq_T := zq_tm 6 (by decide +kernel) (by decide +kernel)
theorem tk_7 : (Jvm.Cond.initialized "GridRouter$Checker") ∈ zq_T := zq_tm 7 (by decide +kernel) (by decide +kernel)
theorem tk_8 : (Jvm.Cond.initialized "GridRouter$Router") ∈ zq_T := zq_tm 8 (by decide +kernel) (by decide +kernel)
theorem tk_9 : (Jvm.Cond.initialized "GridRouter$Line") ∈ zq_T := zq_tm 9 (by decide +kernel) (by decide +kernel)
theorem tk_10 : (Jvm.Cond.initialized "GridRouter$WayFinder") ∈ zq_T := zq_tm 10 (by decide +kernel) (by decide +kernel)
theorem tk_11 : (Jvm.Cond.initialized "GridRouter$Shapes") ∈ zq_T := zq_tm 11 (by decide +kernel) (by decide +kernel)
theorem tk_12 : (Jvm.Cond.initialized "GridRouterModel") ∈ zq_T := zq_tm 12 (by decide +kernel) (by decide +kernel)
theorem tk_16 : (Jvm.Cond.initialized "java/lang/IndexOutOfBoundsException") ∈ zq_T := zq_tm 16 (by decide +kernel) (by decide +kernel)
theorem tk_17 : (Jvm.Cond.initialized "java/lang/IllegalStateException") ∈ zq_T := zq_tm 17 (by decide +kernel) (by decide +kernel)
theorem tk_18 : (Jvm.Cond.initialized "java/lang/IllegalArgumentException") ∈ zq_T := zq_tm 18 (by decide +kernel) (by decide +kernel)
theorem tk_19 : (Jvm.Cond.initialized "java/lang/Math") ∈ zq_T := zq_tm 19 (by decide +kernel) (by decide +kernel)
theorem tk_20 : (Jvm.Cond.initialized "java/lang/System") ∈ zq_T := zq_tm 20 (by decide +kernel) (by decide +kernel)
theorem tk_39 : (Jvm.Cond.fieldLink "GridRouter$Grid" (9 : Nat) "GridRouter$Grid" "width" "I") ∈ zq_T := zq_tm 39 (by decide +kernel) (by decide +kernel)
theorem tk_40 : (Jvm.Cond.fieldLink "GridRouter$Shapes" (52 : Nat) "GridRouter$Grid" "width" "I") ∈ zq_T := zq_tm 40 (by decide +kernel) (by decide +kernel)
theorem tk_41 : (Jvm.Cond.fieldLink "GridRouter$Grid" (15 : Nat) "GridRouter$Grid" "height" "I") ∈ zq_T := zq_tm 41 (by decide +kernel) (by decide +kernel)
theorem tk_42 : (Jvm.Cond.fieldLink "GridRouter$Grid" (18 : Nat) "GridRouter$Grid" "area" "I") ∈ zq_T := zq_tm 42 (by decide +kernel) (by decide +kernel)
theorem tk_44 : (Jvm.Cond.fieldLink "GridRouter$Checker" (83 : Nat) "GridRouter$Grid" "area" "I") ∈ zq_T := zq_tm 44 (by decide +kernel) (by decide +kernel)
theorem tk_45 : (Jvm.Cond.fieldLink "GridRouter$Layout" (19 : Nat) "GridRouter$Grid" "cells" "I") ∈ zq_T := zq_tm 45 (by decide +kernel) (by decide +kernel)
theorem tk_49 : (Jvm.Cond.fieldLink "GridRouter$Checker" (31 : Nat) "GridRouter$Grid" "cells" "I") ∈ zq_T := zq_tm 49 (by decide +kernel) (by decide +kernel)
theorem tk_50 : (Jvm.Cond.fieldLink "GridRouter$WayFinder" (36 : Nat) "GridRouter$Grid" "cells" "I") ∈ zq_T := zq_tm 50 (by decide +kernel) (by decide +kernel)
theorem tk_51 : (Jvm.Cond.fieldLink "GridRouter$Shapes" (19 : Nat) "GridRouter$Grid" "cells" "I") ∈ zq_T := zq_tm 51 (by decide +kernel) (by decide +kernel)
theorem tk_53 : (Jvm.Cond.fieldLink "GridRouter$Nets" (49 : Nat) "GridRouter$Grid" "xOf" "[I") ∈ zq_T := zq_tm 53 (by decide +kernel) (by decide +kernel)
theorem tk_54 : (Jvm.Cond.fieldLink "GridRouter$Shapes" (37 : Nat) "GridRouter$Grid" "xOf" "[I") ∈ zq_T := zq_tm 54 (by decide +kernel) (by decide +kernel)
theorem tk_56 : (Jvm.Cond.fieldLink "GridRouter$Shapes" (33 : Nat) "GridRouter$Grid" "yOf" "[I") ∈ zq_T := zq_tm 56 (by decide +kernel) (by decide +kernel)
theorem tk_57 : (Jvm.Cond.fieldLink "GridRouter$Nets" (52 : Nat) "GridRouter$Grid" "yOf" "[I") ∈ zq_T := zq_tm 57 (by decide +kernel) (by decide +kernel)
theorem tk_58 : (Jvm.Cond.fieldLink "GridRouter$Grid" (31 : Nat) "GridRouter$Grid" "beside" "[I") ∈ zq_T := zq_tm 58 (by decide +kernel) (by decide +kernel)
theorem tk_59 : (Jvm.Cond.fieldLink "GridRouter$Rules" (52 : Nat) "GridRouter$Grid" "beside" "[I") ∈ zq_T := zq_tm 59 (by decide +kernel) (by decide +kernel)
theorem tk_60 : (Jvm.Cond.laysFinal "GridRouter$Grid" "GridRouter$Grid" "width" "I") ∈ zq_T := zq_tm 60 (by decide +kernel) (by decide +kernel)
theorem tk_62 : (Jvm.Cond.laysFinal "GridRouter$Grid" "GridRouter$Grid" "height" "I") ∈ zq_T := zq_tm 62 (by decide +kernel) (by decide +kernel)
theorem tk_64 : (Jvm.Cond.laysFinal "GridRouter$Grid" "GridRouter$Grid" "area" "I") ∈ zq_T := zq_tm 64 (by decide +kernel) (by decide +kernel)
theorem tk_66 : (Jvm.Cond.laysFinal "GridRouter$Grid" "GridRouter$Grid" "cells" "I") ∈ zq_T := zq_tm 66 (by decide +kernel) (by decide +kernel)
theorem tk_68 : (Jvm.Cond.laysFinal "GridRouter$Grid" "GridRouter$Grid" "xOf" "[I") ∈ zq_T := zq_tm 68 (by decide +kernel) (by decide +kernel)
theorem tk_70 : (Jvm.Cond.laysFinal "GridRouter$Grid" "GridRouter$Grid" "yOf" "[I") ∈ zq_T := zq_tm 70 (by decide +kernel) (by decide +kernel)
theorem tk_72 : (Jvm.Cond.laysFinal "GridRouter$Grid" "GridRouter$Grid" "beside" "[I") ∈ zq_T := zq_tm 72 (by decide +kernel) (by decide +kernel)
theorem tk_85 : (Jvm.Cond.fieldLink "GridRouter$Nets" (9 : Nat) "GridRouter$Nets" "first" "[I") ∈ zq_T := zq_tm 85 (by decide +kernel) (by decide +kernel)
theorem tk_86 : (Jvm.Cond.fieldLink "GridRouter$WayFinder" (65 : Nat) "GridRouter$Nets" "first" "[I") ∈ zq_T := zq_tm 86 (by decide +kernel) (by decide +kernel)
theorem tk_87 : (Jvm.Cond.fieldLink "GridRouter$Layout" (53 : Nat) "GridRouter$Nets" "first" "[I") ∈ zq_T := zq_tm 87 (by decide +kernel) (by decide +kernel)
theorem tk_88 : (Jvm.Cond.fieldLink "GridRouter$Checker" (96 : Nat) "GridRouter$Nets" "first" "[I") ∈ zq_T := zq_tm 88 (by decide +kernel) (by decide +kernel)
theorem tk_89 : (Jvm.Cond.fieldLink "GridRouter$Nets" (15 : Nat) "GridRouter$Nets" "second" "[I") ∈ zq_T := zq_tm 89 (by decide +kernel) (by decide +kernel)
theorem tk_90 : (Jvm.Cond.fieldLink "GridRouter$WayFinder" (74 : Nat) "GridRouter$Nets" "second" "[I") ∈ zq_T := zq_tm 90 (by decide +kernel) (by decide +kernel)
theorem tk_91 : (Jvm.Cond.fieldLink "GridRouter$Layout" (58 : Nat) "GridRouter$Nets" "second" "[I") ∈ zq_T := zq_tm 91 (by decide +kernel) (by decide +kernel)
theorem tk_92 : (Jvm.Cond.fieldLink "GridRouter$Checker" (106 : Nat) "GridRouter$Nets" "second" "[I") ∈ zq_T := zq_tm 92 (by decide +kernel) (by decide +kernel)
theorem tk_93 : (Jvm.Cond.fieldLink "GridRouter$Nets" (31 : Nat) "GridRouter$Nets" "pinOwner" "[I") ∈ zq_T := zq_tm 93 (by decide +kernel) (by decide +kernel)
theorem tk_94 : (Jvm.Cond.fieldLink "GridRouter$Rules" (37 : Nat) "GridRouter$Nets" "pinOwner" "[I") ∈ zq_T := zq_tm 94 (by decide +kernel) (by decide +kernel)
theorem tk_95 : (Jvm.Cond.fieldLink "GridRouter" (87 : Nat) "GridRouter$Nets" "pinOwner" "[I") ∈ zq_T := zq_tm 95 (by decide +kernel) (by decide +kernel)
theorem tk_96 : (Jvm.Cond.fieldLink "GridRouter$WayFinder" (82 : Nat) "GridRouter$Nets" "pinOwner" "[I") ∈ zq_T := zq_tm 96 (by decide +kernel) (by decide +kernel)
theorem tk_97 : (Jvm.Cond.fieldLink "GridRouter$Checker" (62 : Nat) "GridRouter$Nets" "pinOwner" "[I") ∈ zq_T := zq_tm 97 (by decide +kernel) (by decide +kernel)
theorem tk_98 : (Jvm.Cond.fieldLink "GridRouter$Nets" (18 : Nat) "GridRouter$Nets" "count" "I") ∈ zq_T := zq_tm 98 (by decide +kernel) (by decide +kernel)
theorem tk_99 : (Jvm.Cond.fieldLink "GridRouter" (100 : Nat) "GridRouter$Nets" "count" "I") ∈ zq_T := zq_tm 99 (by decide +kernel) (by decide +kernel)
theorem tk_100 : (Jvm.Cond.fieldLink "GridRouter$Router" (104 : Nat) "GridRouter$Nets" "count" "I") ∈ zq_T := zq_tm 100 (by decide +kernel) (by decide +kernel)
theorem tk_101 : (Jvm.Cond.fieldLink "GridRouter$Checker" (89 : Nat) "GridRouter$Nets" "count" "I") ∈ zq_T := zq_tm 101 (by decide +kernel) (by decide +kernel)
theorem tk_102 : (Jvm.Cond.fieldLink "GridRouter$Nets" (22 : Nat) "GridRouter$Nets" "grid" "LGridRouter$Grid;") ∈ zq_T := zq_tm 102 (by decide +kernel) (by decide +kernel)
theorem tk_103 : (Jvm.Cond.laysFinal "GridRouter$Nets" "GridRouter$Nets" "first" "[I") ∈ zq_T := zq_tm 103 (by decide +kernel) (by decide +kernel)
theorem tk_105 : (Jvm.Cond.laysFinal "GridRouter$Nets" "GridRouter$Nets" "second" "[I") ∈ zq_T := zq_tm 105 (by decide +kernel) (by decide +kernel)
theorem tk_107 : (Jvm.Cond.laysFinal "GridRouter$Nets" "GridRouter$Nets" "pinOwner" "[I") ∈ zq_T := zq_tm 107 (by decide +kernel) (by decide +kernel)
theorem tk_109 : (Jvm.Cond.lays "GridRouter$Nets" "GridRouter$Nets" "count" "I") ∈ zq_T := zq_tm 109 (by decide +kernel) (by decide +kernel)
theorem tk_111 : (Jvm.Cond.laysFinal "GridRouter$Nets" "GridRouter$Nets" "grid" "LGridRouter$Grid;") ∈ zq_T := zq_tm 111 (by decide +kernel) (by decide +kernel)
theorem tk_121 : (Jvm.Cond.fieldLink "GridRouter$Layout" (25 : Nat) "GridRouter$Layout" "owner" "[I") ∈ zq_T := zq_tm 121 (by decide +kernel) (by decide +kernel)
theorem tk_122 : (Jvm.Cond.fieldLink "GridRouter$Rules" (47 : Nat) "GridRouter$Layout" "owner" "[I") ∈ zq_T := zq_tm 122 (by decide +kernel) (by decide +kernel)
theorem tk_123 : (Jvm.Cond.fieldLink "GridRouter$Checker" (57 : Nat) "GridRouter$Layout" "owner" "[I") ∈ zq_T := zq_tm 123 (by decide +kernel) (by decide +kernel)
theorem tk_124 : (Jvm.Cond.fieldLink "GridRouter" (119 : Nat) "GridRouter$Layout" "owner" "[I") ∈ zq_T := zq_tm 124 (by decide +kernel) (by decide +kernel)
theorem tk_125 : (Jvm.Cond.fieldLink "GridRouter$Router" (78 : Nat) "GridRouter$Layout" "owner" "[I") ∈ zq_T := zq_tm 125 (by decide +kernel) (by decide +kernel)
theorem tk_126 : (Jvm.Cond.fieldLink "GridRouter$Shapes" (43 : Nat) "GridRouter$Layout" "owner" "[I") ∈ zq_T := zq_tm 126 (by decide +kernel) (by decide +kernel)
theorem tk_127 : (Jvm.Cond.fieldLink "GridRouter$Layout" (32 : Nat) "GridRouter$Layout" "vias" "[Z") ∈ zq_T := zq_tm 127 (by decide +kernel) (by decide +kernel)
theorem tk_128 : (Jvm.Cond.fieldLink "GridRouter$Router" (87 : Nat) "GridRouter$Layout" "vias" "[Z") ∈ zq_T := zq_tm 128 (by decide +kernel) (by decide +kernel)
theorem tk_129 : (Jvm.Cond.fieldLink "GridRouter$Checker" (86 : Nat) "GridRouter$Layout" "vias" "[Z") ∈ zq_T := zq_tm 129 (by decide +kernel) (by decide +kernel)
theorem tk_130 : (Jvm.Cond.fieldLink "GridRouter" (162 : Nat) "GridRouter$Layout" "vias" "[Z") ∈ zq_T := zq_tm 130 (by decide +kernel) (by decide +kernel)
theorem tk_131 : (Jvm.Cond.fieldLink "GridRouter$Layout" (9 : Nat) "GridRouter$Layout" "grid" "LGridRouter$Grid;") ∈ zq_T := zq_tm 131 (by decide +kernel) (by decide +kernel)
theorem tk_132 : (Jvm.Cond.fieldLink "GridRouter$Layout" (15 : Nat) "GridRouter$Layout" "nets" "LGridRouter$Nets;") ∈ zq_T := zq_tm 132 (by decide +kernel) (by decide +kernel)
theorem tk_133 : (Jvm.Cond.laysFinal "GridRouter$Layout" "GridRouter$Layout" "owner" "[I") ∈ zq_T := zq_tm 133 (by decide +kernel) (by decide +kernel)
theorem tk_135 : (Jvm.Cond.laysFinal "GridRouter$Layout" "GridRouter$Layout" "vias" "[Z") ∈ zq_T := zq_tm 135 (by decide +kernel) (by decide +kernel)
theorem tk_137 : (Jvm.Cond.laysFinal "GridRouter$Layout" "GridRouter$Layout" "grid" "LGridRouter$Grid;") ∈ zq_T := zq_tm 137 (by decide +kernel) (by decide +kernel)
theorem tk_139 : (Jvm.Cond.laysFinal "GridRouter$Layout" "GridRouter$Layout" "nets" "LGridRouter$Nets;") ∈ zq_T := zq_tm 139 (by decide +kernel) (by decide +kernel)
theorem tk_149 : (Jvm.Cond.fieldLink "GridRouter$Rules" (33 : Nat) "GridRouter$Rules" "blocked" "[Z") ∈ zq_T := zq_tm 149 (by decide +kernel) (by decide +kernel)
theorem tk_150 : (Jvm.Cond.fieldLink "GridRouter" (96 : Nat) "GridRouter$Rules" "blocked" "[Z") ∈ zq_T := zq_tm 150 (by decide +kernel) (by decide +kernel)
theorem tk_151 : (Jvm.Cond.fieldLink "GridRouter$Checker" (67 : Nat) "GridRouter$Rules" "blocked" "[Z") ∈ zq_T := zq_tm 151 (by decide +kernel) (by decide +kernel)
theorem tk_152 : (Jvm.Cond.fieldLink "GridRouter$Rules" (23 : Nat) "GridRouter$Rules" "spaced" "Z") ∈ zq_T := zq_tm 152 (by decide +kernel) (by decide +kernel)
theorem tk_153 : (Jvm.Cond.fieldLink "GridRouter$Checker" (72 : Nat) "GridRouter$Rules" "spaced" "Z") ∈ zq_T := zq_tm 153 (by decide +kernel) (by decide +kernel)
theorem tk_154 : (Jvm.Cond.fieldLink "GridRouter$Router" (98 : Nat) "GridRouter$Rules" "spaced" "Z") ∈ zq_T := zq_tm 154 (by decide +kernel) (by decide +kernel)
theorem tk_155 : (Jvm.Cond.fieldLink "GridRouter$Rules" (9 : Nat) "GridRouter$Rules" "grid" "LGridRouter$Grid;") ∈ zq_T := zq_tm 155 (by decide +kernel) (by decide +kernel)
theorem tk_156 : (Jvm.Cond.fieldLink "GridRouter$Rules" (15 : Nat) "GridRouter$Rules" "nets" "LGridRouter$Nets;") ∈ zq_T := zq_tm 156 (by decide +kernel) (by decide +kernel)
theorem tk_157 : (Jvm.Cond.fieldLink "GridRouter$Rules" (19 : Nat) "GridRouter$Rules" "layout" "LGridRouter$Layout;") ∈ zq_T := zq_tm 157 (by decide +kernel) (by decide +kernel)
theorem tk_158 : (Jvm.Cond.laysFinal "GridRouter$Rules" "GridRouter$Rules" "blocked" "[Z") ∈ zq_T := zq_tm 158 (by decide +kernel) (by decide +kernel)
theorem tk_160 : (Jvm.Cond.laysFinal "GridRouter$Rules" "GridRouter$Rules" "spaced" "Z") ∈ zq_T := zq_tm 160 (by decide +kernel) (by decide +kernel)
theorem tk_162 : (Jvm.Cond.laysFinal "GridRouter$Rules" "GridRouter$Rules" "grid" "LGridRouter$Grid;") ∈ zq_T := zq_tm 162 (by decide +kernel) (by decide +kernel)
theorem tk_164 : (Jvm.Cond.laysFinal "GridRouter$Rules" "GridRouter$Rules" "nets" "LGridRouter$Nets;") ∈ zq_T := zq_tm 164 (by decide +kernel) (by decide +kernel)
theorem tk_166 : (Jvm.Cond.laysFinal "GridRouter$Rules" "GridRouter$Rules" "layout" "LGridRouter$Layout;") ∈ zq_T := zq_tm 166 (by decide +kernel) (by decide +kernel)
theorem tk_175 : (Jvm.Cond.fieldLink "GridRouter$Checker" (15 : Nat) "GridRouter$Checker" "grid" "LGridRouter$Grid;") ∈ zq_T := zq_tm 175 (by decide +kernel) (by decide +kernel)
theorem tk_176 : (Jvm.Cond.fieldLink "GridRouter$Checker" (19 : Nat) "GridRouter$Checker" "nets" "LGridRouter$Nets;") ∈ zq_T := zq_tm 176 (by decide +kernel) (by decide +kernel)
theorem tk_177 : (Jvm.Cond.fieldLink "GridRouter$Checker" (23 : Nat) "GridRouter$Checker" "layout" "LGridRouter$Layout;") ∈ zq_T := zq_tm 177 (by decide +kernel) (by decide +kernel)
theorem tk_178 : (Jvm.Cond.fieldLink "GridRouter$Checker" (27 : Nat) "GridRouter$Checker" "rules" "LGridRouter$Rules;") ∈ zq_T := zq_tm 178 (by decide +kernel) (by decide +kernel)
theorem tk_179 : (Jvm.Cond.fieldLink "GridRouter$Checker" (36 : Nat) "GridRouter$Checker" "reached" "[I") ∈ zq_T := zq_tm 179 (by decide +kernel) (by decide +kernel)
theorem tk_180 : (Jvm.Cond.fieldLink "GridRouter$Checker" (40 : Nat) "GridRouter$Checker" "seen" "[Z") ∈ zq_T := zq_tm 180 (by decide +kernel) (by decide +kernel)
theorem tk_181 : (Jvm.Cond.fieldLink "GridRouter$Checker" (9 : Nat) "GridRouter$Checker" "found" "I") ∈ zq_T := zq_tm 181 (by decide +kernel) (by decide +kernel)
theorem tk_182 : (Jvm.Cond.laysFinal "GridRouter$Checker" "GridRouter$Checker" "grid" "LGridRouter$Grid;") ∈ zq_T := zq_tm 182 (by decide +kernel) (by decide +kernel)
theorem tk_184 : (Jvm.Cond.laysFinal "GridRouter$Checker" "GridRouter$Checker" "nets" "LGridRouter$Nets;") ∈ zq_T := zq_tm 184 (by decide +kernel) (by decide +kernel)
theorem tk_186 : (Jvm.Cond.laysFinal "GridRouter$Checker" "GridRouter$Checker" "layout" "LGridRouter$Layout;") ∈ zq_T := zq_tm 186 (by decide +kernel) (by decide +kernel)
theorem tk_188 : (Jvm.Cond.laysFinal "GridRouter$Checker" "GridRouter$Checker" "rules" "LGridRouter$Rules;") ∈ zq_T := zq_tm 188 (by decide +kernel) (by decide +kernel)
theorem tk_190 : (Jvm.Cond.laysFinal "GridRouter$Checker" "GridRouter$Checker" "reached" "[I") ∈ zq_T := zq_tm 190 (by decide +kernel) (by decide +kernel)
theorem tk_192 : (Jvm.Cond.laysFinal "GridRouter$Checker" "GridRouter$Checker" "seen" "[Z") ∈ zq_T := zq_tm 192 (by decide +kernel) (by decide +kernel)
theorem tk_194 : (Jvm.Cond.lays "GridRouter$Checker" "GridRouter$Checker" "found" "I") ∈ zq_T := zq_tm 194 (by decide +kernel) (by decide +kernel)
theorem tk_209 : (Jvm.Cond.fieldLink "GridRouter$Line" (9 : Nat) "GridRouter$Line" "members" "[I") ∈ zq_T := zq_tm 209 (by decide +kernel) (by decide +kernel)
theorem tk_210 : (Jvm.Cond.fieldLink "GridRouter$Line" (15 : Nat) "GridRouter$Line" "size" "I") ∈ zq_T := zq_tm 210 (by decide +kernel) (by decide +kernel)
theorem tk_211 : (Jvm.Cond.laysFinal "GridRouter$Line" "GridRouter$Line" "members" "[I") ∈ zq_T := zq_tm 211 (by decide +kernel) (by decide +kernel)
theorem tk_213 : (Jvm.Cond.lays "GridRouter$Line" "GridRouter$Line" "size" "I") ∈ zq_T := zq_tm 213 (by decide +kernel) (by decide +kernel)
theorem tk_222 : (Jvm.Cond.fieldLink "GridRouter$WayFinder" (41 : Nat) "GridRouter$WayFinder" "way" "[I") ∈ zq_T := zq_tm 222 (by decide +kernel) (by decide +kernel)
theorem tk_223 : (Jvm.Cond.fieldLink "GridRouter$Router" (74 : Nat) "GridRouter$WayFinder" "way" "[I") ∈ zq_T := zq_tm 223 (by decide +kernel) (by decide +kernel)
theorem tk_224 : (Jvm.Cond.fieldLink "GridRouter$WayFinder" (9 : Nat) "GridRouter$WayFinder" "length" "I") ∈ zq_T := zq_tm 224 (by decide +kernel) (by decide +kernel)
theorem tk_225 : (Jvm.Cond.fieldLink "GridRouter$Router" (70 : Nat) "GridRouter$WayFinder" "length" "I") ∈ zq_T := zq_tm 225 (by decide +kernel) (by decide +kernel)
theorem tk_226 : (Jvm.Cond.fieldLink "GridRouter$WayFinder" (21 : Nat) "GridRouter$WayFinder" "grid" "LGridRouter$Grid;") ∈ zq_T := zq_tm 226 (by decide +kernel) (by decide +kernel)
theorem tk_227 : (Jvm.Cond.fieldLink "GridRouter$WayFinder" (25 : Nat) "GridRouter$WayFinder" "nets" "LGridRouter$Nets;") ∈ zq_T := zq_tm 227 (by decide +kernel) (by decide +kernel)
theorem tk_228 : (Jvm.Cond.fieldLink "GridRouter$WayFinder" (29 : Nat) "GridRouter$WayFinder" "rules" "LGridRouter$Rules;") ∈ zq_T := zq_tm 228 (by decide +kernel) (by decide +kernel)
theorem tk_229 : (Jvm.Cond.fieldLink "GridRouter$WayFinder" (33 : Nat) "GridRouter$WayFinder" "viaCost" "I") ∈ zq_T := zq_tm 229 (by decide +kernel) (by decide +kernel)
theorem tk_230 : (Jvm.Cond.fieldLink "GridRouter$WayFinder" (45 : Nat) "GridRouter$WayFinder" "toll" "[I") ∈ zq_T := zq_tm 230 (by decide +kernel) (by decide +kernel)
theorem tk_231 : (Jvm.Cond.fieldLink "GridRouter$WayFinder" (48 : Nat) "GridRouter$WayFinder" "least" "[I") ∈ zq_T := zq_tm 231 (by decide +kernel) (by decide +kernel)
theorem tk_232 : (Jvm.Cond.fieldLink "GridRouter$WayFinder" (51 : Nat) "GridRouter$WayFinder" "queue" "[I") ∈ zq_T := zq_tm 232 (by decide +kernel) (by decide +kernel)
theorem tk_233 : (Jvm.Cond.fieldLink "GridRouter$WayFinder" (54 : Nat) "GridRouter$WayFinder" "waits" "[Z") ∈ zq_T := zq_tm 233 (by decide +kernel) (by decide +kernel)
theorem tk_234 : (Jvm.Cond.fieldLink "GridRouter$WayFinder" (15 : Nat) "GridRouter$WayFinder" "head" "I") ∈ zq_T := zq_tm 234 (by decide +kernel) (by decide +kernel)
theorem tk_235 : (Jvm.Cond.fieldLink "GridRouter$WayFinder" (18 : Nat) "GridRouter$WayFinder" "waiting" "I") ∈ zq_T := zq_tm 235 (by decide +kernel) (by decide +kernel)
theorem tk_236 : (Jvm.Cond.laysFinal "GridRouter$WayFinder" "GridRouter$WayFinder" "way" "[I") ∈ zq_T := zq_tm 236 (by decide +kernel) (by decide +kernel)
theorem tk_238 : (Jvm.Cond.lays "GridRouter$WayFinder" "GridRouter$WayFinder" "length" "I") ∈ zq_T := zq_tm 238 (by decide +kernel) (by decide +kernel)
theorem tk_240 : (Jvm.Cond.laysFinal "GridRouter$WayFinder" "GridRouter$WayFinder" "grid" "LGridRouter$Grid;") ∈ zq_T := zq_tm 240 (by decide +kernel) (by decide +kernel)
theorem tk_242 : (Jvm.Cond.laysFinal "GridRouter$WayFinder" "GridRouter$WayFinder" "nets" "LGridRouter$Nets;") ∈ zq_T := zq_tm 242 (by decide +kernel) (by decide +kernel)
theorem tk_244 : (Jvm.Cond.laysFinal "GridRouter$WayFinder" "GridRouter$WayFinder" "rules" "LGridRouter$Rules;") ∈ zq_T := zq_tm 244 (by decide +kernel) (by decide +kernel)
theorem tk_246 : (Jvm.Cond.laysFinal "GridRouter$WayFinder" "GridRouter$WayFinder" "viaCost" "I") ∈ zq_T := zq_tm 246 (by decide +kernel) (by decide +kernel)
theorem tk_248 : (Jvm.Cond.laysFinal "GridRouter$WayFinder" "GridRouter$WayFinder" "toll" "[I") ∈ zq_T := zq_tm 248 (by decide +kernel) (by decide +kernel)
theorem tk_250 : (Jvm.Cond.laysFinal "GridRouter$WayFinder" "GridRouter$WayFinder" "least" "[I") ∈ zq_T := zq_tm 250 (by decide +kernel) (by decide +kernel)
theorem tk_252 : (Jvm.Cond.laysFinal "GridRouter$WayFinder" "GridRouter$WayFinder" "queue" "[I") ∈ zq_T := zq_tm 252 (by decide +kernel) (by decide +kernel)
theorem tk_254 : (Jvm.Cond.laysFinal "GridRouter$WayFinder" "GridRouter$WayFinder" "waits" "[Z") ∈ zq_T := zq_tm 254 (by decide +kernel) (by decide +kernel)
theorem tk_256 : (Jvm.Cond.lays "GridRouter$WayFinder" "GridRouter$WayFinder" "head" "I") ∈ zq_T := zq_tm 256 (by decide +kernel) (by decide +kernel)
theorem tk_258 : (Jvm.Cond.lays "GridRouter$WayFinder" "GridRouter$WayFinder" "waiting" "I") ∈ zq_T := zq_tm 258 (by decide +kernel) (by decide +kernel)
theorem tk_261 : (Jvm.Cond.fieldLink "GridRouter$Router" (26 : Nat) "GridRouter$Router" "nets" "LGridRouter$Nets;") ∈ zq_T := zq_tm 261 (by decide +kernel) (by decide +kernel)
theorem tk_262 : (Jvm.Cond.fieldLink "GridRouter$Router" (30 : Nat) "GridRouter$Router" "layout" "LGridRouter$Layout;") ∈ zq_T := zq_tm 262 (by decide +kernel) (by decide +kernel)
theorem tk_263 : (Jvm.Cond.fieldLink "GridRouter$Router" (22 : Nat) "GridRouter$Router" "grid" "LGridRouter$Grid;") ∈ zq_T := zq_tm 263 (by decide +kernel) (by decide +kernel)
theorem tk_264 : (Jvm.Cond.fieldLink "GridRouter$Router" (34 : Nat) "GridRouter$Router" "rules" "LGridRouter$Rules;") ∈ zq_T := zq_tm 264 (by decide +kernel) (by decide +kernel)
theorem tk_265 : (Jvm.Cond.fieldLink "GridRouter$Router" (38 : Nat) "GridRouter$Router" "checker" "LGridRouter$Checker;") ∈ zq_T := zq_tm 265 (by decide +kernel) (by decide +kernel)
theorem tk_266 : (Jvm.Cond.fieldLink "GridRouter$Router" (47 : Nat) "GridRouter$Router" "finder" "LGridRouter$WayFinder;") ∈ zq_T := zq_tm 266 (by decide +kernel) (by decide +kernel)
theorem tk_267 : (Jvm.Cond.fieldLink "GridRouter$Router" (12 : Nat) "GridRouter$Router" "line" "LGridRouter$Line;") ∈ zq_T := zq_tm 267 (by decide +kernel) (by decide +kernel)
theorem tk_268 : (Jvm.Cond.fieldLink "GridRouter$Router" (18 : Nat) "GridRouter$Router" "pushedOut" "[Z") ∈ zq_T := zq_tm 268 (by decide +kernel) (by decide +kernel)
theorem tk_269 : (Jvm.Cond.laysFinal "GridRouter$Router" "GridRouter$Router" "nets" "LGridRouter$Nets;") ∈ zq_T := zq_tm 269 (by decide +kernel) (by decide +kernel)
theorem tk_271 : (Jvm.Cond.laysFinal "GridRouter$Router" "GridRouter$Router" "layout" "LGridRouter$Layout;") ∈ zq_T := zq_tm 271 (by decide +kernel) (by decide +kernel)
theorem tk_273 : (Jvm.Cond.laysFinal "GridRouter$Router" "GridRouter$Router" "grid" "LGridRouter$Grid;") ∈ zq_T := zq_tm 273 (by decide +kernel) (by decide +kernel)
theorem tk_275 : (Jvm.Cond.laysFinal "GridRouter$Router" "GridRouter$Router" "rules" "LGridRouter$Rules;") ∈ zq_T := zq_tm 275 (by decide +kernel) (by decide +kernel)
theorem tk_277 : (Jvm.Cond.laysFinal "GridRouter$Router" "GridRouter$Router" "checker" "LGridRouter$Checker;") ∈ zq_T := zq_tm 277 (by decide +kernel) (by decide +kernel)
theorem tk_279 : (Jvm.Cond.laysFinal "GridRouter$Router" "GridRouter$Router" "finder" "LGridRouter$WayFinder;") ∈ zq_T := zq_tm 279 (by decide +kernel) (by decide +kernel)
theorem tk_281 : (Jvm.Cond.laysFinal "GridRouter$Router" "GridRouter$Router" "line" "LGridRouter$Line;") ∈ zq_T := zq_tm 281 (by decide +kernel) (by decide +kernel)
theorem tk_283 : (Jvm.Cond.laysFinal "GridRouter$Router" "GridRouter$Router" "pushedOut" "[Z") ∈ zq_T := zq_tm 283 (by decide +kernel) (by decide +kernel)
theorem tk_292 : (Jvm.Cond.fieldLink "GridRouter$Shapes" (9 : Nat) "GridRouter$Shapes" "grid" "LGridRouter$Grid;") ∈ zq_T := zq_tm 292 (by decide +kernel) (by decide +kernel)
theorem tk_293 : (Jvm.Cond.fieldLink "GridRouter$Shapes" (15 : Nat) "GridRouter$Shapes" "layout" "LGridRouter$Layout;") ∈ zq_T := zq_tm 293 (by decide +kernel) (by decide +kernel)
theorem tk_294 : (Jvm.Cond.laysFinal "GridRouter$Shapes" "GridRouter$Shapes" "grid" "LGridRouter$Grid;") ∈ zq_T := zq_tm 294 (by decide +kernel) (by decide +kernel)
theorem tk_296 : (Jvm.Cond.laysFinal "GridRouter$Shapes" "GridRouter$Shapes" "layout" "LGridRouter$Layout;") ∈ zq_T := zq_tm 296 (by decide +kernel) (by decide +kernel)
theorem tk_299 : (Jvm.Cond.fieldLink "GridRouter" (12 : Nat) "GridRouter" "grid" "LGridRouter$Grid;") ∈ zq_T := zq_tm 299 (by decide +kernel) (by decide +kernel)
theorem tk_300 : (Jvm.Cond.fieldLink "GridRouter" (23 : Nat) "GridRouter" "nets" "LGridRouter$Nets;") ∈ zq_T := zq_tm 300 (by decide +kernel) (by decide +kernel)
theorem tk_301 : (Jvm.Cond.fieldLink "GridRouter" (32 : Nat) "GridRouter" "layout" "LGridRouter$Layout;") ∈ zq_T := zq_tm 301 (by decide +kernel) (by decide +kernel)
theorem tk_302 : (Jvm.Cond.fieldLink "GridRouter" (41 : Nat) "GridRouter" "rules" "LGridRouter$Rules;") ∈ zq_T := zq_tm 302 (by decide +kernel) (by decide +kernel)
theorem tk_303 : (Jvm.Cond.fieldLink "GridRouter" (59 : Nat) "GridRouter" "router" "LGridRouter$Router;") ∈ zq_T := zq_tm 303 (by decide +kernel) (by decide +kernel)
theorem tk_304 : (Jvm.Cond.fieldLink "GridRouter" (50 : Nat) "GridRouter" "checker" "LGridRouter$Checker;") ∈ zq_T := zq_tm 304 (by decide +kernel) (by decide +kernel)
theorem tk_305 : (Jvm.Cond.fieldLink "GridRouter" (68 : Nat) "GridRouter" "rows" "LGridRouter$Shapes;") ∈ zq_T := zq_tm 305 (by decide +kernel) (by decide +kernel)
theorem tk_306 : (Jvm.Cond.laysFinal "GridRouter" "GridRouter" "grid" "LGridRouter$Grid;") ∈ zq_T := zq_tm 306 (by decide +kernel) (by decide +kernel)
theorem tk_308 : (Jvm.Cond.laysFinal "GridRouter" "GridRouter" "nets" "LGridRouter$Nets;") ∈ zq_T := zq_tm 308 (by decide +kernel) (by decide +kernel)
theorem tk_310 : (Jvm.Cond.laysFinal "GridRouter" "GridRouter" "layout" "LGridRouter$Layout;") ∈ zq_T := zq_tm 310 (by decide +kernel) (by decide +kernel)
theorem tk_312 : (Jvm.Cond.laysFinal "GridRouter" "GridRouter" "rules" "LGridRouter$Rules;") ∈ zq_T := zq_tm 312 (by decide +kernel) (by decide +kernel)
theorem tk_314 : (Jvm.Cond.laysFinal "GridRouter" "GridRouter" "router" "LGridRouter$Router;") ∈ zq_T := zq_tm 314 (by decide +kernel) (by decide +kernel)
theorem tk_316 : (Jvm.Cond.laysFinal "GridRouter" "GridRouter" "checker" "LGridRouter$Checker;") ∈ zq_T := zq_tm 316 (by decide +kernel) (by decide +kernel)
theorem tk_318 : (Jvm.Cond.laysFinal "GridRouter" "GridRouter" "rows" "LGridRouter$Shapes;") ∈ zq_T := zq_tm 318 (by decide +kernel) (by decide +kernel)
theorem tk_321 : (Jvm.Cond.methodLink "GridRouterLaw" (110 : Nat) ({ cls := "GridRouter", name := "shapes", desc := "()I" } : Jvm.MethodName)) ∈ zq_T := zq_tm 321 (by decide +kernel) (by decide +kernel)
theorem tk_322 : (Jvm.Cond.instanceMethod ({ cls := "GridRouter", name := "shapes", desc := "()I" } : Jvm.MethodName)) ∈ zq_T := zq_tm 322 (by decide +kernel) (by decide +kernel)
theorem tk_323 : (Jvm.Cond.selects "GridRouter" ({ cls := "GridRouter", name := "shapes", desc := "()I" } : Jvm.MethodName) ({ cls := "GridRouter", name := "shapes", desc := "()I" } : Jvm.MethodName)) ∈ zq_T := zq_tm 323 (by decide +kernel) (by decide +kernel)
theorem tk_324 : (Jvm.Cond.code ({ cls := "GridRouter", name := "shapes", desc := "()I" } : Jvm.MethodName) prog_1_method_13_code (1 : Nat) (Option.some Jvm.ClassFile.FieldType.int)) ∈ zq_T := zq_tm 324 (by decide +kernel) (by decide +kernel)
theorem tk_325 : (Jvm.Cond.methodLink "GridRouter" (169 : Nat) ({ cls := "GridRouter$Shapes", name := "count", desc := "()I" } : Jvm.MethodName)) ∈ zq_T := zq_tm 325 (by decide +kernel) (by decide +kernel)
theorem tk_326 : (Jvm.Cond.instanceMethod ({ cls := "GridRouter$Shapes", name := "count", desc := "()I" } : Jvm.MethodName)) ∈ zq_T := zq_tm 326 (by decide +kernel) (by decide +kernel)
theorem tk_327 : (Jvm.Cond.selects "GridRouter$Shapes" ({ cls := "GridRouter$Shapes", name := "count", desc := "()I" } : Jvm.MethodName) ({ cls := "GridRouter$Shapes", name := "count", desc := "()I" } : Jvm.MethodName)) ∈ zq_T := zq_tm 327 (by decide +kernel) (by decide +kernel)
theorem tk_328 : (Jvm.Cond.code ({ cls := "GridRouter$Shapes", name := "count", desc := "()I" } : Jvm.MethodName) prog_9_method_2_code (3 : Nat) (Option.some Jvm.ClassFile.FieldType.int)) ∈ zq_T := zq_tm 328 (by decide +kernel) (by decide +kernel)
theorem tk_329 : (Jvm.Cond.methodLink "GridRouter$Shapes" (25 : Nat) ({ cls := "GridRouter$Shapes", name := "isStart", desc := "(I)Z" } : Jvm.MethodName)) ∈ zq_T := zq_tm 329 (by decide +kernel) (by decide +kernel)
theorem tk_331 : (Jvm.Cond.instanceMethod ({ cls := "GridRouter$Shapes", name := "isStart", desc := "(I)Z" } : Jvm.MethodName)) ∈ zq_T := zq_tm 331 (by decide +kernel) (by decide +kernel)
theorem tk_332 : (Jvm.Cond.code ({ cls := "GridRouter$Shapes", name := "isStart", desc := "(I)Z" } : Jvm.MethodName) prog_9_method_5_code (4 : Nat) (Option.some Jvm.ClassFile.FieldType.boolean)) ∈ zq_T := zq_tm 332 (by decide +kernel) (by decide +kernel)
theorem tk_333 : (Jvm.Cond.methodLink "GridRouter$Shapes" (48 : Nat) ({ cls := "GridRouter$Grid", name := "next", desc := "(II)I" } : Jvm.MethodName)) ∈ zq_T := zq_tm 333 (by decide +kernel) (by decide +kernel)
theorem tk_334 : (Jvm.Cond.instanceMethod ({ cls := "GridRouter$Grid", name := "next", desc := "(II)I" } : Jvm.MethodName)) ∈ zq_T := zq_tm 334 (by decide +kernel) (by decide +kernel)
theorem tk_335 : (Jvm.Cond.selects "GridRouter$Grid" ({ cls := "GridRouter$Grid", name := "next", desc := "(II)I" } : Jvm.MethodName) ({ cls := "GridRouter$Grid", name := "next", desc := "(II)I" } : Jvm.MethodName)) ∈ zq_T := zq_tm 335 (by decide +kernel) (by decide +kernel)
theorem tk_336 : (Jvm.Cond.code ({ cls := "GridRouter$Grid", name := "next", desc := "(II)I" } : Jvm.MethodName) prog_3_method_8_code (3 : Nat) (Option.some Jvm.ClassFile.FieldType.int)) ∈ zq_T := zq_tm 336 (by decide +kernel) (by decide +kernel)
theorem tk_340 : (Jvm.Cond.methodLink "GridRouterLaw" (70 : Nat) ({ cls := "GridRouterLaw", name := "block", desc := "(LGridRouter;III[J)I" } : Jvm.MethodName)) ∈ zq_T := zq_tm 340 (by decide +kernel) (by decide +kernel)
theorem tk_341 : (Jvm.Cond.static ({ cls := "GridRouterLaw", name := "block", desc := "(LGridRouter;III[J)I" } : Jvm.MethodName)) ∈ zq_T := zq_tm 341 (by decide +kernel) (by decide +kernel)
theorem tk_342 : (Jvm.Cond.codeWith ({ cls := "GridRouterLaw", name := "block", desc := "(LGridRouter;III[J)I" } : Jvm.MethodName) method_3_code (6 : Nat) (Option.some Jvm.ClassFile.FieldType.int) [((0 : Nat), (19 : Nat), (22 : Nat), (13 : Nat)), ((0 : Nat), (19 : Nat), (26 : Nat), (15 : Nat))]) ∈ zq_T := zq_tm 342 (by decide +kernel) (by decide +kernel)
theorem tk_343 : (Jvm.Cond.classLink "GridRouterLaw" (13 : Nat) "java/lang/IndexOutOfBoundsException") ∈ zq_T := zq_tm 343 (by decide +kernel) (by decide +kernel)
theorem tk_344 : (Jvm.Cond.classLink "GridRouterLaw" (15 : Nat) "java/lang/IllegalStateException") ∈ zq_T := zq_tm 344 (by decide +kernel) (by decide +kernel)
theorem tk_345 : (Jvm.Cond.methodLink "GridRouterLaw" (7 : Nat) ({ cls := "GridRouter", name := "block", desc := "(III)Z" } : Jvm.MethodName)) ∈ zq_T := zq_tm 345 (by decide +kernel) (by decide +kernel)
theorem tk_346 : (Jvm.Cond.instanceMethod ({ cls := "GridRouter", name := "block", desc := "(III)Z" } : Jvm.MethodName)) ∈ zq_T := zq_tm 346 (by decide +kernel) (by decide +kernel)
theorem tk_347 : (Jvm.Cond.selects "GridRouter" ({ cls := "GridRouter", name := "block", desc := "(III)Z" } : Jvm.MethodName) ({ cls := "GridRouter", name := "block", desc := "(III)Z" } : Jvm.MethodName)) ∈ zq_T := zq_tm 347 (by decide +kernel) (by decide +kernel)
theorem tk_348 : (Jvm.Cond.code ({ cls := "GridRouter", name := "block", desc := "(III)Z" } : Jvm.MethodName) prog_1_method_2_code (5 : Nat) (Option.some Jvm.ClassFile.FieldType.boolean)) ∈ zq_T := zq_tm 348 (by decide +kernel) (by decide +kernel)
theorem tk_349 : (Jvm.Cond.methodLink "GridRouter" (72 : Nat) ({ cls := "GridRouter$Grid", name := "hasCell", desc := "(III)Z" } : Jvm.MethodName)) ∈ zq_T := zq_tm 349 (by decide +kernel) (by decide +kernel)
theorem tk_350 : (Jvm.Cond.instanceMethod ({ cls := "GridRouter$Grid", name := "hasCell", desc := "(III)Z" } : Jvm.MethodName)) ∈ zq_T := zq_tm 350 (by decide +kernel) (by decide +kernel)
theorem tk_351 : (Jvm.Cond.selects "GridRouter$Grid" ({ cls := "GridRouter$Grid", name := "hasCell", desc := "(III)Z" } : Jvm.MethodName) ({ cls := "GridRouter$Grid", name := "hasCell", desc := "(III)Z" } : Jvm.MethodName)) ∈ zq_T := zq_tm 351 (by decide +kernel) (by decide +kernel)
theorem tk_352 : (Jvm.Cond.code ({ cls := "GridRouter$Grid", name := "hasCell", desc := "(III)Z" } : Jvm.MethodName) prog_3_method_4_code (4 : Nat) (Option.some Jvm.ClassFile.FieldType.boolean)) ∈ zq_T := zq_tm 352 (by decide +kernel) (by decide +kernel)
theorem tk_353 : (Jvm.Cond.methodLink "GridRouter$Grid" (38 : Nat) ({ cls := "GridRouter$Grid", name := "hasPlace", desc := "(II)Z" } : Jvm.MethodName)) ∈ zq_T := zq_tm 353 (by decide +kernel) (by decide +kernel)
theorem tk_354 : (Jvm.Cond.instanceMethod ({ cls := "GridRouter$Grid", name := "hasPlace", desc := "(II)Z" } : Jvm.MethodName)) ∈ zq_T := zq_tm 354 (by decide +kernel) (by decide +kernel)
theorem tk_355 : (Jvm.Cond.selects "GridRouter$Grid" ({ cls := "GridRouter$Grid", name := "hasPlace", desc := "(II)Z" } : Jvm.MethodName) ({ cls := "GridRouter$Grid", name := "hasPlace", desc := "(II)Z" } : Jvm.MethodName)) ∈ zq_T := zq_tm 355 (by decide +kernel) (by decide +kernel)
theorem tk_356 : (Jvm.Cond.code ({ cls := "GridRouter$Grid", name := "hasPlace", desc := "(II)Z" } : Jvm.MethodName) prog_3_method_3_code (3 : Nat) (Option.some Jvm.ClassFile.FieldType.boolean)) ∈ zq_T := zq_tm 356 (by decide +kernel) (by decide +kernel)
theorem tk_357 : (Jvm.Cond.classLink "GridRouter" (76 : Nat) "java/lang/IndexOutOfBoundsException") ∈ zq_T := zq_tm 357 (by decide +kernel) (by decide +kernel)
theorem tk_358 : (Jvm.Cond.instantiable "java/lang/IndexOutOfBoundsException" (6 : Nat)) ∈ zq_T := zq_tm 358 (by decide +kernel) (by decide +kernel)
theorem tk_425 : (Jvm.Cond.methodLink "GridRouter" (83 : Nat) ({ cls := "GridRouter$Grid", name := "cellAt", desc := "(III)I" } : Jvm.MethodName)) ∈ zq_T := zq_tm 425 (by decide +kernel) (by decide +kernel)
theorem tk_426 : (Jvm.Cond.instanceMethod ({ cls := "GridRouter$Grid", name := "cellAt", desc := "(III)I" } : Jvm.MethodName)) ∈ zq_T := zq_tm 426 (by decide +kernel) (by decide +kernel)
theorem tk_427 : (Jvm.Cond.selects "GridRouter$Grid" ({ cls := "GridRouter$Grid", name := "cellAt", desc := "(III)I" } : Jvm.MethodName) ({ cls := "GridRouter$Grid", name := "cellAt", desc := "(III)I" } : Jvm.MethodName)) ∈ zq_T := zq_tm 427 (by decide +kernel) (by decide +kernel)
theorem tk_428 : (Jvm.Cond.code ({ cls := "GridRouter$Grid", name := "cellAt", desc := "(III)I" } : Jvm.MethodName) prog_3_method_5_code (4 : Nat) (Option.some Jvm.ClassFile.FieldType.int)) ∈ zq_T := zq_tm 428 (by decide +kernel) (by decide +kernel)
theorem tk_429 : (Jvm.Cond.classLink "GridRouter" (91 : Nat) "java/lang/IllegalStateException") ∈ zq_T := zq_tm 429 (by decide +kernel) (by decide +kernel)
theorem tk_430 : (Jvm.Cond.instantiable "java/lang/IllegalStateException" (6 : Nat)) ∈ zq_T := zq_tm 430 (by decide +kernel) (by decide +kernel)
theorem tk_445 : (Jvm.Cond.methodLink "GridRouterLaw" (74 : Nat) ({ cls := "GridRouterLaw", name := "net", desc := "(LGridRouter;IIIIII[J)I" } : Jvm.MethodName)) ∈ zq_T := zq_tm 445 (by decide +kernel) (by decide +kernel)
theorem tk_446 : (Jvm.Cond.static ({ cls := "GridRouterLaw", name := "net", desc := "(LGridRouter;IIIIII[J)I" } : Jvm.MethodName)) ∈ zq_T := zq_tm 446 (by decide +kernel) (by decide +kernel)
theorem tk_447 : (Jvm.Cond.codeWith ({ cls := "GridRouterLaw", name := "net", desc := "(LGridRouter;IIIIII[J)I" } : Jvm.MethodName) method_4_code (9 : Nat) (Option.some Jvm.ClassFile.FieldType.int) [((0 : Nat), (18 : Nat), (21 : Nat), (13 : Nat)), ((0 : Nat), (18 : Nat), (25 : Nat), (21 : Nat)), ((0 : Nat), (18 : Nat), (29 : Nat), (15 : Nat))]) ∈ zq_T := zq_tm 447 (by decide +kernel) (by decide +kernel)
theorem tk_448 : (Jvm.Cond.classLink "GridRouterLaw" (21 : Nat) "java/lang/IllegalArgumentException") ∈ zq_T := zq_tm 448 (by decide +kernel) (by decide +kernel)
theorem tk_449 : (Jvm.Cond.methodLink "GridRouterLaw" (17 : Nat) ({ cls := "GridRouter", name := "net", desc := "(IIIIII)I" } : Jvm.MethodName)) ∈ zq_T := zq_tm 449 (by decide +kernel) (by decide +kernel)
theorem tk_450 : (Jvm.Cond.instanceMethod ({ cls := "GridRouter", name := "net", desc := "(IIIIII)I" } : Jvm.MethodName)) ∈ zq_T := zq_tm 450 (by decide +kernel) (by decide +kernel)
theorem tk_451 : (Jvm.Cond.selects "GridRouter" ({ cls := "GridRouter", name := "net", desc := "(IIIIII)I" } : Jvm.MethodName) ({ cls := "GridRouter", name := "net", desc := "(IIIIII)I" } : Jvm.MethodName)) ∈ zq_T := zq_tm 451 (by decide +kernel) (by decide +kernel)
theorem tk_452 : (Jvm.Cond.code ({ cls := "GridRouter", name := "net", desc := "(IIIIII)I" } : Jvm.MethodName) prog_1_method_3_code (10 : Nat) (Option.some Jvm.ClassFile.FieldType.int)) ∈ zq_T := zq_tm 452 (by decide +kernel) (by decide +kernel)
theorem tk_453 : (Jvm.Cond.methodLink "GridRouter" (104 : Nat) ({ cls := "GridRouter$Rules", name := "isBarred", desc := "(II)Z" } : Jvm.MethodName)) ∈ zq_T := zq_tm 453 (by decide +kernel) (by decide +kernel)
theorem tk_454 : (Jvm.Cond.instanceMethod ({ cls := "GridRouter$Rules", name := "isBarred", desc := "(II)Z" } : Jvm.MethodName)) ∈ zq_T := zq_tm 454 (by decide +kernel) (by decide +kernel)
theorem tk_455 : (Jvm.Cond.selects "GridRouter$Rules" ({ cls := "GridRouter$Rules", name := "isBarred", desc := "(II)Z" } : Jvm.MethodName) ({ cls := "GridRouter$Rules", name := "isBarred", desc := "(II)Z" } : Jvm.MethodName)) ∈ zq_T := zq_tm 455 (by decide +kernel) (by decide +kernel)
theorem tk_456 : (Jvm.Cond.code ({ cls := "GridRouter$Rules", name := "isBarred", desc := "(II)Z" } : Jvm.MethodName) prog_8_method_2_code (3 : Nat) (Option.some Jvm.ClassFile.FieldType.boolean)) ∈ zq_T := zq_tm 456 (by decide +kernel) (by decide +kernel)
theorem tk_457 : (Jvm.Cond.methodLink "GridRouter$Rules" (43 : Nat) ({ cls := "GridRouter$Rules", name := "isClose", desc := "([III)Z" } : Jvm.MethodName)) ∈ zq_T := zq_tm 457 (by decide +kernel) (by decide +kernel)
theorem tk_459 : (Jvm.Cond.instanceMethod ({ cls := "GridRouter$Rules", name := "isClose", desc := "([III)Z" } : Jvm.MethodName)) ∈ zq_T := zq_tm 459 (by decide +kernel) (by decide +kernel)
theorem tk_460 : (Jvm.Cond.code ({ cls := "GridRouter$Rules", name := "isClose", desc := "([III)Z" } : Jvm.MethodName) prog_8_method_4_code (8 : Nat) (Option.some Jvm.ClassFile.FieldType.boolean)) ∈ zq_T := zq_tm 460 (by decide +kernel) (by decide +kernel)
theorem tk_461 : (Jvm.Cond.classLink "GridRouter" (108 : Nat) "java/lang/IllegalArgumentException") ∈ zq_T := zq_tm 461 (by decide +kernel) (by decide +kernel)
theorem tk_462 : (Jvm.Cond.instantiable "java/lang/IllegalArgumentException" (6 : Nat)) ∈ zq_T := zq_tm 462 (by decide +kernel) (by decide +kernel)
theorem tk_478 : (Jvm.Cond.methodLink "GridRouter" (115 : Nat) ({ cls := "GridRouter$Nets", name := "add", desc := "(II)I" } : Jvm.MethodName)) ∈ zq_T := zq_tm 478 (by decide +kernel) (by decide +kernel)
theorem tk_479 : (Jvm.Cond.instanceMethod ({ cls := "GridRouter$Nets", name := "add", desc := "(II)I" } : Jvm.MethodName)) ∈ zq_T := zq_tm 479 (by decide +kernel) (by decide +kernel)
theorem tk_480 : (Jvm.Cond.selects "GridRouter$Nets" ({ cls := "GridRouter$Nets", name := "add", desc := "(II)I" } : Jvm.MethodName) ({ cls := "GridRouter$Nets", name := "add", desc := "(II)I" } : Jvm.MethodName)) ∈ zq_T := zq_tm 480 (by decide +kernel) (by decide +kernel)
theorem tk_481 : (Jvm.Cond.code ({ cls := "GridRouter$Nets", name := "add", desc := "(II)I" } : Jvm.MethodName) prog_6_method_3_code (4 : Nat) (Option.some Jvm.ClassFile.FieldType.int)) ∈ zq_T := zq_tm 481 (by decide +kernel) (by decide +kernel)
theorem tk_482 : (Jvm.Cond.methodLink "GridRouterLaw" (78 : Nat) ({ cls := "GridRouterLaw", name := "route", desc := "(LGridRouter;I[J)I" } : Jvm.MethodName)) ∈ zq_T := zq_tm 482 (by decide +kernel) (by decide +kernel)
theorem tk_483 : (Jvm.Cond.static ({ cls := "GridRouterLaw", name := "route", desc := "(LGridRouter;I[J)I" } : Jvm.MethodName)) ∈ zq_T := zq_tm 483 (by decide +kernel) (by decide +kernel)
theorem tk_484 : (Jvm.Cond.codeWith ({ cls := "GridRouterLaw", name := "route", desc := "(LGridRouter;I[J)I" } : Jvm.MethodName) method_5_code (4 : Nat) (Option.some Jvm.ClassFile.FieldType.int) [((0 : Nat), (9 : Nat), (12 : Nat), (13 : Nat))]) ∈ zq_T := zq_tm 484 (by decide +kernel) (by decide +kernel)
theorem tk_485 : (Jvm.Cond.methodLink "GridRouterLaw" (23 : Nat) ({ cls := "GridRouter", name := "route", desc := "(I)I" } : Jvm.MethodName)) ∈ zq_T := zq_tm 485 (by decide +kernel) (by decide +kernel)
theorem tk_486 : (Jvm.Cond.instanceMethod ({ cls := "GridRouter", name := "route", desc := "(I)I" } : Jvm.MethodName)) ∈ zq_T := zq_tm 486 (by decide +kernel) (by decide +kernel)
theorem tk_487 : (Jvm.Cond.selects "GridRouter" ({ cls := "GridRouter", name := "route", desc := "(I)I" } : Jvm.MethodName) ({ cls := "GridRouter", name := "route", desc := "(I)I" } : Jvm.MethodName)) ∈ zq_T := zq_tm 487 (by decide +kernel) (by decide +kernel)
theorem tk_488 : (Jvm.Cond.code ({ cls := "GridRouter", name := "route", desc := "(I)I" } : Jvm.MethodName) prog_1_method_4_code (2 : Nat) (Option.some Jvm.ClassFile.FieldType.int)) ∈ zq_T := zq_tm 488 (by decide +kernel) (by decide +kernel)
theorem tk_489 : (Jvm.Cond.methodLink "GridRouter" (122 : Nat) ({ cls := "GridRouter$Nets", name := "has", desc := "(I)Z" } : Jvm.MethodName)) ∈ zq_T := zq_tm 489 (by decide +kernel) (by decide +kernel)
theorem tk_490 : (Jvm.Cond.instanceMethod ({ cls := "GridRouter$Nets", name := "has", desc := "(I)Z" } : Jvm.MethodName)) ∈ zq_T := zq_tm 490 (by decide +kernel) (by decide +kernel)
theorem tk_491 : (Jvm.Cond.selects "GridRouter$Nets" ({ cls := "GridRouter$Nets", name := "has", desc := "(I)Z" } : Jvm.MethodName) ({ cls := "GridRouter$Nets", name := "has", desc := "(I)Z" } : Jvm.MethodName)) ∈ zq_T := zq_tm 491 (by decide +kernel) (by decide +kernel)
theorem tk_492 : (Jvm.Cond.code ({ cls := "GridRouter$Nets", name := "has", desc := "(I)Z" } : Jvm.MethodName) prog_6_method_2_code (2 : Nat) (Option.some Jvm.ClassFile.FieldType.boolean)) ∈ zq_T := zq_tm 492 (by decide +kernel) (by decide +kernel)
theorem tk_494 : (Jvm.Cond.methodLink "GridRouter" (128 : Nat) ({ cls := "GridRouter$Router", name := "lay", desc := "(I)I" } : Jvm.MethodName)) ∈ zq_T := zq_tm 494 (by decide +kernel) (by decide +kernel)
theorem tk_495 : (Jvm.Cond.instanceMethod ({ cls := "GridRouter$Router", name := "lay", desc := "(I)I" } : Jvm.MethodName)) ∈ zq_T := zq_tm 495 (by decide +kernel) (by decide +kernel)
theorem tk_496 : (Jvm.Cond.selects "GridRouter$Router" ({ cls := "GridRouter$Router", name := "lay", desc := "(I)I" } : Jvm.MethodName) ({ cls := "GridRouter$Router", name := "lay", desc := "(I)I" } : Jvm.MethodName)) ∈ zq_T := zq_tm 496 (by decide +kernel) (by decide +kernel)
theorem tk_497 : (Jvm.Cond.code ({ cls := "GridRouter$Router", name := "lay", desc := "(I)I" } : Jvm.MethodName) prog_7_method_2_code (3 : Nat) (Option.some Jvm.ClassFile.FieldType.int)) ∈ zq_T := zq_tm 497 (by decide +kernel) (by decide +kernel)
theorem tk_498 : (Jvm.Cond.methodLink "GridRouter$Router" (51 : Nat) ({ cls := "GridRouter$Layout", name := "strip", desc := "(I)V" } : Jvm.MethodName)) ∈ zq_T := zq_tm 498 (by decide +kernel) (by decide +kernel)
theorem tk_499 : (Jvm.Cond.instanceMethod ({ cls := "GridRouter$Layout", name := "strip", desc := "(I)V" } : Jvm.MethodName)) ∈ zq_T := zq_tm 499 (by decide +kernel) (by decide +kernel)
theorem tk_500 : (Jvm.Cond.selects "GridRouter$Layout" ({ cls := "GridRouter$Layout", name := "strip", desc := "(I)V" } : Jvm.MethodName) ({ cls := "GridRouter$Layout", name := "strip", desc := "(I)V" } : Jvm.MethodName)) ∈ zq_T := zq_tm 500 (by decide +kernel) (by decide +kernel)
theorem tk_501 : (Jvm.Cond.code ({ cls := "GridRouter$Layout", name := "strip", desc := "(I)V" } : Jvm.MethodName) prog_4_method_2_code (2 : Nat) (Option.none : Option Jvm.ClassFile.FieldType)) ∈ zq_T := zq_tm 501 (by decide +kernel) (by decide +kernel)
theorem tk_502 : (Jvm.Cond.methodLink "GridRouter$Layout" (42 : Nat) ({ cls := "GridRouter$Layout", name := "clear", desc := "(I)V" } : Jvm.MethodName)) ∈ zq_T := zq_tm 502 (by decide +kernel) (by decide +kernel)
theorem tk_503 : (Jvm.Cond.instanceMethod ({ cls := "GridRouter$Layout", name := "clear", desc := "(I)V" } : Jvm.MethodName)) ∈ zq_T := zq_tm 503 (by decide +kernel) (by decide +kernel)
theorem tk_504 : (Jvm.Cond.selects "GridRouter$Layout" ({ cls := "GridRouter$Layout", name := "clear", desc := "(I)V" } : Jvm.MethodName) ({ cls := "GridRouter$Layout", name := "clear", desc := "(I)V" } : Jvm.MethodName)) ∈ zq_T := zq_tm 504 (by decide +kernel) (by decide +kernel)
theorem tk_505 : (Jvm.Cond.code ({ cls := "GridRouter$Layout", name := "clear", desc := "(I)V" } : Jvm.MethodName) prog_4_method_3_code (3 : Nat) (Option.none : Option Jvm.ClassFile.FieldType)) ∈ zq_T := zq_tm 505 (by decide +kernel) (by decide +kernel)
theorem tk_506 : (Jvm.Cond.methodLink "GridRouter$Layout" (49 : Nat) ({ cls := "GridRouter$Grid", name := "placeOf", desc := "(I)I" } : Jvm.MethodName)) ∈ zq_T := zq_tm 506 (by decide +kernel) (by decide +kernel)
theorem tk_507 : (Jvm.Cond.instanceMethod ({ cls := "GridRouter$Grid", name := "placeOf", desc := "(I)I" } : Jvm.MethodName)) ∈ zq_T := zq_tm 507 (by decide +kernel) (by decide +kernel)
theorem tk_508 : (Jvm.Cond.selects "GridRouter$Grid" ({ cls := "GridRouter$Grid", name := "placeOf", desc := "(I)I" } : Jvm.MethodName) ({ cls := "GridRouter$Grid", name := "placeOf", desc := "(I)I" } : Jvm.MethodName)) ∈ zq_T := zq_tm 508 (by decide +kernel) (by decide +kernel)
theorem tk_509 : (Jvm.Cond.code ({ cls := "GridRouter$Grid", name := "placeOf", desc := "(I)I" } : Jvm.MethodName) prog_3_method_7_code (2 : Nat) (Option.some Jvm.ClassFile.FieldType.int)) ∈ zq_T := zq_tm 509 (by decide +kernel) (by decide +kernel)
theorem tk_510 : (Jvm.Cond.methodLink "GridRouter$Layout" (46 : Nat) ({ cls := "GridRouter$Layout", name := "restorePins", desc := "(I)V" } : Jvm.MethodName)) ∈ zq_T := zq_tm 510 (by decide +kernel) (by decide +kernel)
theorem tk_511 : (Jvm.Cond.instanceMethod ({ cls := "GridRouter$Layout", name := "restorePins", desc := "(I)V" } : Jvm.MethodName)) ∈ zq_T := zq_tm 511 (by decide +kernel) (by decide +kernel)
theorem tk_512 : (Jvm.Cond.selects "GridRouter$Layout" ({ cls := "GridRouter$Layout", name := "restorePins", desc := "(I)V" } : Jvm.MethodName) ({ cls := "GridRouter$Layout", name := "restorePins", desc := "(I)V" } : Jvm.MethodName)) ∈ zq_T := zq_tm 512 (by decide +kernel) (by decide +kernel)
theorem tk_513 : (Jvm.Cond.code ({ cls := "GridRouter$Layout", name := "restorePins", desc := "(I)V" } : Jvm.MethodName) prog_4_method_4_code (2 : Nat) (Option.none : Option Jvm.ClassFile.FieldType)) ∈ zq_T := zq_tm 513 (by decide +kernel) (by decide +kernel)
theorem tk_514 : (Jvm.Cond.methodLink "GridRouter$Router" (57 : Nat) ({ cls := "GridRouter$WayFinder", name := "find", desc := "(IZ)I" } : Jvm.MethodName)) ∈ zq_T := zq_tm 514 (by decide +kernel) (by decide +kernel)
theorem tk_515 : (Jvm.Cond.instanceMethod ({ cls := "GridRouter$WayFinder", name := "find", desc := "(IZ)I" } : Jvm.MethodName)) ∈ zq_T := zq_tm 515 (by decide +kernel) (by decide +kernel)
theorem tk_516 : (Jvm.Cond.selects "GridRouter$WayFinder" ({ cls := "GridRouter$WayFinder", name := "find", desc := "(IZ)I" } : Jvm.MethodName) ({ cls := "GridRouter$WayFinder", name := "find", desc := "(IZ)I" } : Jvm.MethodName)) ∈ zq_T := zq_tm 516 (by decide +kernel) (by decide +kernel)
theorem tk_517 : (Jvm.Cond.code ({ cls := "GridRouter$WayFinder", name := "find", desc := "(IZ)I" } : Jvm.MethodName) prog_10_method_2_code (4 : Nat) (Option.some Jvm.ClassFile.FieldType.int)) ∈ zq_T := zq_tm 517 (by decide +kernel) (by decide +kernel)
theorem tk_518 : (Jvm.Cond.methodLink "GridRouter$WayFinder" (58 : Nat) ({ cls := "GridRouter$WayFinder", name := "pushToll", desc := "(II)I" } : Jvm.MethodName)) ∈ zq_T := zq_tm 518 (by decide +kernel) (by decide +kernel)
theorem tk_520 : (Jvm.Cond.instanceMethod ({ cls := "GridRouter$WayFinder", name := "pushToll", desc := "(II)I" } : Jvm.MethodName)) ∈ zq_T := zq_tm 520 (by decide +kernel) (by decide +kernel)
theorem tk_521 : (Jvm.Cond.code ({ cls := "GridRouter$WayFinder", name := "pushToll", desc := "(II)I" } : Jvm.MethodName) prog_10_method_4_code (3 : Nat) (Option.some Jvm.ClassFile.FieldType.int)) ∈ zq_T := zq_tm 521 (by decide +kernel) (by decide +kernel)
theorem tk_522 : (Jvm.Cond.methodLink "GridRouter$WayFinder" (85 : Nat) ({ cls := "GridRouter$Rules", name := "isBarred", desc := "(II)Z" } : Jvm.MethodName)) ∈ zq_T := zq_tm 522 (by decide +kernel) (by decide +kernel)
theorem tk_523 : (Jvm.Cond.methodLink "GridRouter$WayFinder" (91 : Nat) ({ cls := "GridRouter$Rules", name := "isTaken", desc := "(II)Z" } : Jvm.MethodName)) ∈ zq_T := zq_tm 523 (by decide +kernel) (by decide +kernel)
theorem tk_524 : (Jvm.Cond.instanceMethod ({ cls := "GridRouter$Rules", name := "isTaken", desc := "(II)Z" } : Jvm.MethodName)) ∈ zq_T := zq_tm 524 (by decide +kernel) (by decide +kernel)
theorem tk_525 : (Jvm.Cond.selects "GridRouter$Rules" ({ cls := "GridRouter$Rules", name := "isTaken", desc := "(II)Z" } : Jvm.MethodName) ({ cls := "GridRouter$Rules", name := "isTaken", desc := "(II)Z" } : Jvm.MethodName)) ∈ zq_T := zq_tm 525 (by decide +kernel) (by decide +kernel)
theorem tk_526 : (Jvm.Cond.code ({ cls := "GridRouter$Rules", name := "isTaken", desc := "(II)Z" } : Jvm.MethodName) prog_8_method_3_code (3 : Nat) (Option.some Jvm.ClassFile.FieldType.boolean)) ∈ zq_T := zq_tm 526 (by decide +kernel) (by decide +kernel)
theorem tk_527 : (Jvm.Cond.methodLink "GridRouter$WayFinder" (62 : Nat) ({ cls := "GridRouter$WayFinder", name := "freeToll", desc := "(II)I" } : Jvm.MethodName)) ∈ zq_T := zq_tm 527 (by decide +kernel) (by decide +kernel)
theorem tk_529 : (Jvm.Cond.instanceMethod ({ cls := "GridRouter$WayFinder", name := "freeToll", desc := "(II)I" } : Jvm.MethodName)) ∈ zq_T := zq_tm 529 (by decide +kernel) (by decide +kernel)
theorem tk_530 : (Jvm.Cond.code ({ cls := "GridRouter$WayFinder", name := "freeToll", desc := "(II)I" } : Jvm.MethodName) prog_10_method_3_code (3 : Nat) (Option.some Jvm.ClassFile.FieldType.int)) ∈ zq_T := zq_tm 530 (by decide +kernel) (by decide +kernel)
theorem tk_531 : (Jvm.Cond.methodLink "GridRouter$WayFinder" (70 : Nat) ({ cls := "GridRouter$WayFinder", name := "spread", desc := "(I)V" } : Jvm.MethodName)) ∈ zq_T := zq_tm 531 (by decide +kernel) (by decide +kernel)
theorem tk_533 : (Jvm.Cond.instanceMethod ({ cls := "GridRouter$WayFinder", name := "spread", desc := "(I)V" } : Jvm.MethodName)) ∈ zq_T := zq_tm 533 (by decide +kernel) (by decide +kernel)
theorem tk_534 : (Jvm.Cond.code ({ cls := "GridRouter$WayFinder", name := "spread", desc := "(I)V" } : Jvm.MethodName) prog_10_method_5_code (4 : Nat) (Option.none : Option Jvm.ClassFile.FieldType)) ∈ zq_T := zq_tm 534 (by decide +kernel) (by decide +kernel)
theorem tk_535 : (Jvm.Cond.constant "GridRouter$WayFinder" (77 : Nat) (1000000 : Int32)) ∈ zq_T := zq_tm 535 (by decide +kernel) (by decide +kernel)
theorem tk_536 : (Jvm.Cond.methodLink "GridRouter$WayFinder" (94 : Nat) ({ cls := "GridRouter$WayFinder", name := "enqueue", desc := "(I)V" } : Jvm.MethodName)) ∈ zq_T := zq_tm 536 (by decide +kernel) (by decide +kernel)
theorem tk_538 : (Jvm.Cond.instanceMethod ({ cls := "GridRouter$WayFinder", name := "enqueue", desc := "(I)V" } : Jvm.MethodName)) ∈ zq_T := zq_tm 538 (by decide +kernel) (by decide +kernel)
theorem tk_539 : (Jvm.Cond.code ({ cls := "GridRouter$WayFinder", name := "enqueue", desc := "(I)V" } : Jvm.MethodName) prog_10_method_8_code (3 : Nat) (Option.none : Option Jvm.ClassFile.FieldType)) ∈ zq_T := zq_tm 539 (by decide +kernel) (by decide +kernel)
theorem tk_540 : (Jvm.Cond.methodLink "GridRouter$WayFinder" (97 : Nat) ({ cls := "GridRouter$WayFinder", name := "dequeue", desc := "()I" } : Jvm.MethodName)) ∈ zq_T := zq_tm 540 (by decide +kernel) (by decide +kernel)
theorem tk_542 : (Jvm.Cond.instanceMethod ({ cls := "GridRouter$WayFinder", name := "dequeue", desc := "()I" } : Jvm.MethodName)) ∈ zq_T := zq_tm 542 (by decide +kernel) (by decide +kernel)
theorem tk_543 : (Jvm.Cond.code ({ cls := "GridRouter$WayFinder", name := "dequeue", desc := "()I" } : Jvm.MethodName) prog_10_method_9_code (2 : Nat) (Option.some Jvm.ClassFile.FieldType.int)) ∈ zq_T := zq_tm 543 (by decide +kernel) (by decide +kernel)
theorem tk_544 : (Jvm.Cond.methodLink "GridRouter$WayFinder" (101 : Nat) ({ cls := "GridRouter$WayFinder", name := "spreadFrom", desc := "(I)V" } : Jvm.MethodName)) ∈ zq_T := zq_tm 544 (by decide +kernel) (by decide +kernel)
theorem tk_546 : (Jvm.Cond.instanceMethod ({ cls := "GridRouter$WayFinder", name := "spreadFrom", desc := "(I)V" } : Jvm.MethodName)) ∈ zq_T := zq_tm 546 (by decide +kernel) (by decide +kernel)
theorem tk_547 : (Jvm.Cond.code ({ cls := "GridRouter$WayFinder", name := "spreadFrom", desc := "(I)V" } : Jvm.MethodName) prog_10_method_6_code (5 : Nat) (Option.none : Option Jvm.ClassFile.FieldType)) ∈ zq_T := zq_tm 547 (by decide +kernel) (by decide +kernel)
theorem tk_548 : (Jvm.Cond.methodLink "GridRouter$WayFinder" (104 : Nat) ({ cls := "GridRouter$Grid", name := "next", desc := "(II)I" } : Jvm.MethodName)) ∈ zq_T := zq_tm 548 (by decide +kernel) (by decide +kernel)
theorem tk_549 : (Jvm.Cond.methodLink "GridRouter$WayFinder" (107 : Nat) ({ cls := "GridRouter$WayFinder", name := "stepCost", desc := "(I)I" } : Jvm.MethodName)) ∈ zq_T := zq_tm 549 (by decide +kernel) (by decide +kernel)
theorem tk_551 : (Jvm.Cond.instanceMethod ({ cls := "GridRouter$WayFinder", name := "stepCost", desc := "(I)I" } : Jvm.MethodName)) ∈ zq_T := zq_tm 551 (by decide +kernel) (by decide +kernel)
theorem tk_552 : (Jvm.Cond.code ({ cls := "GridRouter$WayFinder", name := "stepCost", desc := "(I)I" } : Jvm.MethodName) prog_10_method_7_code (2 : Nat) (Option.some Jvm.ClassFile.FieldType.int)) ∈ zq_T := zq_tm 552 (by decide +kernel) (by decide +kernel)
theorem tk_553 : (Jvm.Cond.methodLink "GridRouter$WayFinder" (78 : Nat) ({ cls := "GridRouter$WayFinder", name := "trace", desc := "(II)V" } : Jvm.MethodName)) ∈ zq_T := zq_tm 553 (by decide +kernel) (by decide +kernel)
theorem tk_555 : (Jvm.Cond.instanceMethod ({ cls := "GridRouter$WayFinder", name := "trace", desc := "(II)V" } : Jvm.MethodName)) ∈ zq_T := zq_tm 555 (by decide +kernel) (by decide +kernel)
theorem tk_556 : (Jvm.Cond.code ({ cls := "GridRouter$WayFinder", name := "trace", desc := "(II)V" } : Jvm.MethodName) prog_10_method_10_code (4 : Nat) (Option.none : Option Jvm.ClassFile.FieldType)) ∈ zq_T := zq_tm 556 (by decide +kernel) (by decide +kernel)
theorem tk_557 : (Jvm.Cond.methodLink "GridRouter$WayFinder" (111 : Nat) ({ cls := "GridRouter$WayFinder", name := "predecessor", desc := "(I)I" } : Jvm.MethodName)) ∈ zq_T := zq_tm 557 (by decide +kernel) (by decide +kernel)
theorem tk_559 : (Jvm.Cond.instanceMethod ({ cls := "GridRouter$WayFinder", name := "predecessor", desc := "(I)I" } : Jvm.MethodName)) ∈ zq_T := zq_tm 559 (by decide +kernel) (by decide +kernel)
theorem tk_560 : (Jvm.Cond.code ({ cls := "GridRouter$WayFinder", name := "predecessor", desc := "(I)I" } : Jvm.MethodName) prog_10_method_11_code (4 : Nat) (Option.some Jvm.ClassFile.FieldType.int)) ∈ zq_T := zq_tm 560 (by decide +kernel) (by decide +kernel)
theorem tk_561 : (Jvm.Cond.methodLink "GridRouter$Router" (61 : Nat) ({ cls := "GridRouter$Router", name := "layWay", desc := "(I)V" } : Jvm.MethodName)) ∈ zq_T := zq_tm 561 (by decide +kernel) (by decide +kernel)
theorem tk_563 : (Jvm.Cond.instanceMethod ({ cls := "GridRouter$Router", name := "layWay", desc := "(I)V" } : Jvm.MethodName)) ∈ zq_T := zq_tm 563 (by decide +kernel) (by decide +kernel)
theorem tk_564 : (Jvm.Cond.code ({ cls := "GridRouter$Router", name := "layWay", desc := "(I)V" } : Jvm.MethodName) prog_7_method_4_code (4 : Nat) (Option.none : Option Jvm.ClassFile.FieldType)) ∈ zq_T := zq_tm 564 (by decide +kernel) (by decide +kernel)
theorem tk_565 : (Jvm.Cond.methodLink "GridRouter$Router" (83 : Nat) ({ cls := "GridRouter$Grid", name := "next", desc := "(II)I" } : Jvm.MethodName)) ∈ zq_T := zq_tm 565 (by decide +kernel) (by decide +kernel)
theorem tk_566 : (Jvm.Cond.methodLink "GridRouter$Router" (90 : Nat) ({ cls := "GridRouter$Grid", name := "placeOf", desc := "(I)I" } : Jvm.MethodName)) ∈ zq_T := zq_tm 566 (by decide +kernel) (by decide +kernel)
theorem tk_567 : (Jvm.Cond.methodLink "GridRouterLaw" (82 : Nat) ({ cls := "GridRouterLaw", name := "push", desc := "(LGridRouter;I[J)I" } : Jvm.MethodName)) ∈ zq_T := zq_tm 567 (by decide +kernel) (by decide +kernel)
theorem tk_568 : (Jvm.Cond.static ({ cls := "GridRouterLaw", name := "push", desc := "(LGridRouter;I[J)I" } : Jvm.MethodName)) ∈ zq_T := zq_tm 568 (by decide +kernel) (by decide +kernel)
theorem tk_569 : (Jvm.Cond.codeWith ({ cls := "GridRouterLaw", name := "push", desc := "(LGridRouter;I[J)I" } : Jvm.MethodName) method_6_code (4 : Nat) (Option.some Jvm.ClassFile.FieldType.int) [((0 : Nat), (9 : Nat), (12 : Nat), (13 : Nat))]) ∈ zq_T := zq_tm 569 (by decide +kernel) (by decide +kernel)
theorem tk_570 : (Jvm.Cond.methodLink "GridRouterLaw" (27 : Nat) ({ cls := "GridRouter", name := "push", desc := "(I)I" } : Jvm.MethodName)) ∈ zq_T := zq_tm 570 (by decide +kernel) (by decide +kernel)
theorem tk_571 : (Jvm.Cond.instanceMethod ({ cls := "GridRouter", name := "push", desc := "(I)I" } : Jvm.MethodName)) ∈ zq_T := zq_tm 571 (by decide +kernel) (by decide +kernel)
theorem tk_572 : (Jvm.Cond.selects "GridRouter" ({ cls := "GridRouter", name := "push", desc := "(I)I" } : Jvm.MethodName) ({ cls := "GridRouter", name := "push", desc := "(I)I" } : Jvm.MethodName)) ∈ zq_T := zq_tm 572 (by decide +kernel) (by decide +kernel)
theorem tk_573 : (Jvm.Cond.code ({ cls := "GridRouter", name := "push", desc := "(I)I" } : Jvm.MethodName) prog_1_method_5_code (2 : Nat) (Option.some Jvm.ClassFile.FieldType.int)) ∈ zq_T := zq_tm 573 (by decide +kernel) (by decide +kernel)
theorem tk_574 : (Jvm.Cond.methodLink "GridRouter" (132 : Nat) ({ cls := "GridRouter$Router", name := "shove", desc := "(I)I" } : Jvm.MethodName)) ∈ zq_T := zq_tm 574 (by decide +kernel) (by decide +kernel)
theorem tk_575 : (Jvm.Cond.instanceMethod ({ cls := "GridRouter$Router", name := "shove", desc := "(I)I" } : Jvm.MethodName)) ∈ zq_T := zq_tm 575 (by decide +kernel) (by decide +kernel)
theorem tk_576 : (Jvm.Cond.selects "GridRouter$Router" ({ cls := "GridRouter$Router", name := "shove", desc := "(I)I" } : Jvm.MethodName) ({ cls := "GridRouter$Router", name := "shove", desc := "(I)I" } : Jvm.MethodName)) ∈ zq_T := zq_tm 576 (by decide +kernel) (by decide +kernel)
theorem tk_577 : (Jvm.Cond.code ({ cls := "GridRouter$Router", name := "shove", desc := "(I)I" } : Jvm.MethodName) prog_7_method_3_code (3 : Nat) (Option.some Jvm.ClassFile.FieldType.int)) ∈ zq_T := zq_tm 577 (by decide +kernel) (by decide +kernel)
theorem tk_578 : (Jvm.Cond.methodLink "GridRouter$Router" (64 : Nat) ({ cls := "GridRouter$Router", name := "markPushedOut", desc := "(I)V" } : Jvm.MethodName)) ∈ zq_T := zq_tm 578 (by decide +kernel) (by decide +kernel)
theorem tk_580 : (Jvm.Cond.instanceMethod ({ cls := "GridRouter$Router", name := "markPushedOut", desc := "(I)V" } : Jvm.MethodName)) ∈ zq_T := zq_tm 580 (by decide +kernel) (by decide +kernel)
theorem tk_581 : (Jvm.Cond.code ({ cls := "GridRouter$Router", name := "markPushedOut", desc := "(I)V" } : Jvm.MethodName) prog_7_method_5_code (5 : Nat) (Option.none : Option Jvm.ClassFile.FieldType)) ∈ zq_T := zq_tm 581 (by decide +kernel) (by decide +kernel)
theorem tk_582 : (Jvm.Cond.methodLink "GridRouter$Router" (94 : Nat) ({ cls := "GridRouter$Router", name := "markHolder", desc := "(II)V" } : Jvm.MethodName)) ∈ zq_T := zq_tm 582 (by decide +kernel) (by decide +kernel)
theorem tk_584 : (Jvm.Cond.instanceMethod ({ cls := "GridRouter$Router", name := "markHolder", desc := "(II)V" } : Jvm.MethodName)) ∈ zq_T := zq_tm 584 (by decide +kernel) (by decide +kernel)
theorem tk_585 : (Jvm.Cond.code ({ cls := "GridRouter$Router", name := "markHolder", desc := "(II)V" } : Jvm.MethodName) prog_7_method_6_code (3 : Nat) (Option.none : Option Jvm.ClassFile.FieldType)) ∈ zq_T := zq_tm 585 (by decide +kernel) (by decide +kernel)
theorem tk_586 : (Jvm.Cond.methodLink "GridRouter$Router" (67 : Nat) ({ cls := "GridRouter$Router", name := "stripPushedOut", desc := "()V" } : Jvm.MethodName)) ∈ zq_T := zq_tm 586 (by decide +kernel) (by decide +kernel)
theorem tk_588 : (Jvm.Cond.instanceMethod ({ cls := "GridRouter$Router", name := "stripPushedOut", desc := "()V" } : Jvm.MethodName)) ∈ zq_T := zq_tm 588 (by decide +kernel) (by decide +kernel)
theorem tk_589 : (Jvm.Cond.code ({ cls := "GridRouter$Router", name := "stripPushedOut", desc := "()V" } : Jvm.MethodName) prog_7_method_7_code (2 : Nat) (Option.none : Option Jvm.ClassFile.FieldType)) ∈ zq_T := zq_tm 589 (by decide +kernel) (by decide +kernel)
theorem tk_590 : (Jvm.Cond.methodLink "GridRouter$Router" (109 : Nat) ({ cls := "GridRouter$Layout", name := "clear", desc := "(I)V" } : Jvm.MethodName)) ∈ zq_T := zq_tm 590 (by decide +kernel) (by decide +kernel)
theorem tk_591 : (Jvm.Cond.methodLink "GridRouter$Router" (112 : Nat) ({ cls := "GridRouter$Layout", name := "restorePins", desc := "(I)V" } : Jvm.MethodName)) ∈ zq_T := zq_tm 591 (by decide +kernel) (by decide +kernel)
theorem tk_592 : (Jvm.Cond.methodLink "GridRouterLaw" (85 : Nat) ({ cls := "GridRouterLaw", name := "all", desc := "(LGridRouter;ZI[J)I" } : Jvm.MethodName)) ∈ zq_T := zq_tm 592 (by decide +kernel) (by decide +kernel)
theorem tk_593 : (Jvm.Cond.static ({ cls := "GridRouterLaw", name := "all", desc := "(LGridRouter;ZI[J)I" } : Jvm.MethodName)) ∈ zq_T := zq_tm 593 (by decide +kernel) (by decide +kernel)
theorem tk_594 : (Jvm.Cond.codeWith ({ cls := "GridRouterLaw", name := "all", desc := "(LGridRouter;ZI[J)I" } : Jvm.MethodName) method_7_code (5 : Nat) (Option.some Jvm.ClassFile.FieldType.int) [((0 : Nat), (10 : Nat), (13 : Nat), (21 : Nat))]) ∈ zq_T := zq_tm 594 (by decide +kernel) (by decide +kernel)
theorem tk_595 : (Jvm.Cond.methodLink "GridRouterLaw" (30 : Nat) ({ cls := "GridRouter", name := "all", desc := "(ZI)I" } : Jvm.MethodName)) ∈ zq_T := zq_tm 595 (by decide +kernel) (by decide +kernel)
theorem tk_596 : (Jvm.Cond.instanceMethod ({ cls := "GridRouter", name := "all", desc := "(ZI)I" } : Jvm.MethodName)) ∈ zq_T := zq_tm 596 (by decide +kernel) (by decide +kernel)
theorem tk_597 : (Jvm.Cond.selects "GridRouter" ({ cls := "GridRouter", name := "all", desc := "(ZI)I" } : Jvm.MethodName) ({ cls := "GridRouter", name := "all", desc := "(ZI)I" } : Jvm.MethodName)) ∈ zq_T := zq_tm 597 (by decide +kernel) (by decide +kernel)
theorem tk_598 : (Jvm.Cond.code ({ cls := "GridRouter", name := "all", desc := "(ZI)I" } : Jvm.MethodName) prog_1_method_6_code (3 : Nat) (Option.some Jvm.ClassFile.FieldType.int)) ∈ zq_T := zq_tm 598 (by decide +kernel) (by decide +kernel)
theorem tk_600 : (Jvm.Cond.methodLink "GridRouter" (137 : Nat) ({ cls := "GridRouter$Router", name := "lineUp", desc := "(Z)V" } : Jvm.MethodName)) ∈ zq_T := zq_tm 600 (by decide +kernel) (by decide +kernel)
theorem tk_601 : (Jvm.Cond.instanceMethod ({ cls := "GridRouter$Router", name := "lineUp", desc := "(Z)V" } : Jvm.MethodName)) ∈ zq_T := zq_tm 601 (by decide +kernel) (by decide +kernel)
theorem tk_602 : (Jvm.Cond.selects "GridRouter$Router" ({ cls := "GridRouter$Router", name := "lineUp", desc := "(Z)V" } : Jvm.MethodName) ({ cls := "GridRouter$Router", name := "lineUp", desc := "(Z)V" } : Jvm.MethodName)) ∈ zq_T := zq_tm 602 (by decide +kernel) (by decide +kernel)
theorem tk_603 : (Jvm.Cond.code ({ cls := "GridRouter$Router", name := "lineUp", desc := "(Z)V" } : Jvm.MethodName) prog_7_method_8_code (3 : Nat) (Option.none : Option Jvm.ClassFile.FieldType)) ∈ zq_T := zq_tm 603 (by decide +kernel) (by decide +kernel)
theorem tk_604 : (Jvm.Cond.methodLink "GridRouter$Router" (115 : Nat) ({ cls := "GridRouter$Line", name := "join", desc := "(I)V" } : Jvm.MethodName)) ∈ zq_T := zq_tm 604 (by decide +kernel) (by decide +kernel)
theorem tk_605 : (Jvm.Cond.instanceMethod ({ cls := "GridRouter$Line", name := "join", desc := "(I)V" } : Jvm.MethodName)) ∈ zq_T := zq_tm 605 (by decide +kernel) (by decide +kernel)
theorem tk_606 : (Jvm.Cond.selects "GridRouter$Line" ({ cls := "GridRouter$Line", name := "join", desc := "(I)V" } : Jvm.MethodName) ({ cls := "GridRouter$Line", name := "join", desc := "(I)V" } : Jvm.MethodName)) ∈ zq_T := zq_tm 606 (by decide +kernel) (by decide +kernel)
theorem tk_607 : (Jvm.Cond.code ({ cls := "GridRouter$Line", name := "join", desc := "(I)V" } : Jvm.MethodName) prog_5_method_3_code (3 : Nat) (Option.none : Option Jvm.ClassFile.FieldType)) ∈ zq_T := zq_tm 607 (by decide +kernel) (by decide +kernel)
theorem tk_608 : (Jvm.Cond.methodLink "GridRouter$Router" (118 : Nat) ({ cls := "GridRouter$Line", name := "sortBySpan", desc := "(LGridRouter$Nets;)V" } : Jvm.MethodName)) ∈ zq_T := zq_tm 608 (by decide +kernel) (by decide +kernel)
theorem tk_609 : (Jvm.Cond.instanceMethod ({ cls := "GridRouter$Line", name := "sortBySpan", desc := "(LGridRouter$Nets;)V" } : Jvm.MethodName)) ∈ zq_T := zq_tm 609 (by decide +kernel) (by decide +kernel)
theorem tk_610 : (Jvm.Cond.selects "GridRouter$Line" ({ cls := "GridRouter$Line", name := "sortBySpan", desc := "(LGridRouter$Nets;)V" } : Jvm.MethodName) ({ cls := "GridRouter$Line", name := "sortBySpan", desc := "(LGridRouter$Nets;)V" } : Jvm.MethodName)) ∈ zq_T := zq_tm 610 (by decide +kernel) (by decide +kernel)
theorem tk_611 : (Jvm.Cond.code ({ cls := "GridRouter$Line", name := "sortBySpan", desc := "(LGridRouter$Nets;)V" } : Jvm.MethodName) prog_5_method_5_code (5 : Nat) (Option.none : Option Jvm.ClassFile.FieldType)) ∈ zq_T := zq_tm 611 (by decide +kernel) (by decide +kernel)
theorem tk_612 : (Jvm.Cond.methodLink "GridRouter$Line" (25 : Nat) ({ cls := "GridRouter$Nets", name := "span", desc := "(I)I" } : Jvm.MethodName)) ∈ zq_T := zq_tm 612 (by decide +kernel) (by decide +kernel)
theorem tk_613 : (Jvm.Cond.instanceMethod ({ cls := "GridRouter$Nets", name := "span", desc := "(I)I" } : Jvm.MethodName)) ∈ zq_T := zq_tm 613 (by decide +kernel) (by decide +kernel)
theorem tk_614 : (Jvm.Cond.selects "GridRouter$Nets" ({ cls := "GridRouter$Nets", name := "span", desc := "(I)I" } : Jvm.MethodName) ({ cls := "GridRouter$Nets", name := "span", desc := "(I)I" } : Jvm.MethodName)) ∈ zq_T := zq_tm 614 (by decide +kernel) (by decide +kernel)
theorem tk_615 : (Jvm.Cond.code ({ cls := "GridRouter$Nets", name := "span", desc := "(I)I" } : Jvm.MethodName) prog_6_method_4_code (4 : Nat) (Option.some Jvm.ClassFile.FieldType.int)) ∈ zq_T := zq_tm 615 (by decide +kernel) (by decide +kernel)
theorem tk_616 : (Jvm.Cond.methodLink "GridRouter$Nets" (40 : Nat) ({ cls := "GridRouter$Grid", name := "layerOf", desc := "(I)I" } : Jvm.MethodName)) ∈ zq_T := zq_tm 616 (by decide +kernel) (by decide +kernel)
theorem tk_617 : (Jvm.Cond.instanceMethod ({ cls := "GridRouter$Grid", name := "layerOf", desc := "(I)I" } : Jvm.MethodName)) ∈ zq_T := zq_tm 617 (by decide +kernel) (by decide +kernel)
theorem tk_618 : (Jvm.Cond.selects "GridRouter$Grid" ({ cls := "GridRouter$Grid", name := "layerOf", desc := "(I)I" } : Jvm.MethodName) ({ cls := "GridRouter$Grid", name := "layerOf", desc := "(I)I" } : Jvm.MethodName)) ∈ zq_T := zq_tm 618 (by decide +kernel) (by decide +kernel)
theorem tk_619 : (Jvm.Cond.code ({ cls := "GridRouter$Grid", name := "layerOf", desc := "(I)I" } : Jvm.MethodName) prog_3_method_6_code (2 : Nat) (Option.some Jvm.ClassFile.FieldType.int)) ∈ zq_T := zq_tm 619 (by decide +kernel) (by decide +kernel)
theorem tk_620 : (Jvm.Cond.methodLink "GridRouter$Nets" (44 : Nat) ({ cls := "java/lang/Math", name := "abs", desc := "(I)I" } : Jvm.MethodName)) ∈ zq_T := zq_tm 620 (by decide +kernel) (by decide +kernel)
theorem tk_621 : (Jvm.Cond.static ({ cls := "java/lang/Math", name := "abs", desc := "(I)I" } : Jvm.MethodName)) ∈ zq_T := zq_tm 621 (by decide +kernel) (by decide +kernel)
theorem tk_622 : (Jvm.Cond.code ({ cls := "java/lang/Math", name := "abs", desc := "(I)I" } : Jvm.MethodName) prog_17_method_59_code (1 : Nat) (Option.some Jvm.ClassFile.FieldType.int)) ∈ zq_T := zq_tm 622 (by decide +kernel) (by decide +kernel)
theorem tk_623 : (Jvm.Cond.methodLink "GridRouter" (141 : Nat) ({ cls := "GridRouter$Router", name := "serveLine", desc := "(I)V" } : Jvm.MethodName)) ∈ zq_T := zq_tm 623 (by decide +kernel) (by decide +kernel)
theorem tk_624 : (Jvm.Cond.instanceMethod ({ cls := "GridRouter$Router", name := "serveLine", desc := "(I)V" } : Jvm.MethodName)) ∈ zq_T := zq_tm 624 (by decide +kernel) (by decide +kernel)
theorem tk_625 : (Jvm.Cond.selects "GridRouter$Router" ({ cls := "GridRouter$Router", name := "serveLine", desc := "(I)V" } : Jvm.MethodName) ({ cls := "GridRouter$Router", name := "serveLine", desc := "(I)V" } : Jvm.MethodName)) ∈ zq_T := zq_tm 625 (by decide +kernel) (by decide +kernel)
theorem tk_626 : (Jvm.Cond.code ({ cls := "GridRouter$Router", name := "serveLine", desc := "(I)V" } : Jvm.MethodName) prog_7_method_9_code (5 : Nat) (Option.none : Option Jvm.ClassFile.FieldType)) ∈ zq_T := zq_tm 626 (by decide +kernel) (by decide +kernel)
theorem tk_627 : (Jvm.Cond.methodLink "GridRouter$Router" (122 : Nat) ({ cls := "GridRouter$Line", name := "isEmpty", desc := "()Z" } : Jvm.MethodName)) ∈ zq_T := zq_tm 627 (by decide +kernel) (by decide +kernel)
theorem tk_628 : (Jvm.Cond.instanceMethod ({ cls := "GridRouter$Line", name := "isEmpty", desc := "()Z" } : Jvm.MethodName)) ∈ zq_T := zq_tm 628 (by decide +kernel) (by decide +kernel)
theorem tk_629 : (Jvm.Cond.selects "GridRouter$Line" ({ cls := "GridRouter$Line", name := "isEmpty", desc := "()Z" } : Jvm.MethodName) ({ cls := "GridRouter$Line", name := "isEmpty", desc := "()Z" } : Jvm.MethodName)) ∈ zq_T := zq_tm 629 (by decide +kernel) (by decide +kernel)
theorem tk_630 : (Jvm.Cond.code ({ cls := "GridRouter$Line", name := "isEmpty", desc := "()Z" } : Jvm.MethodName) prog_5_method_2_code (1 : Nat) (Option.some Jvm.ClassFile.FieldType.boolean)) ∈ zq_T := zq_tm 630 (by decide +kernel) (by decide +kernel)
theorem tk_631 : (Jvm.Cond.methodLink "GridRouter$Router" (126 : Nat) ({ cls := "GridRouter$Line", name := "leave", desc := "()I" } : Jvm.MethodName)) ∈ zq_T := zq_tm 631 (by decide +kernel) (by decide +kernel)
theorem tk_632 : (Jvm.Cond.instanceMethod ({ cls := "GridRouter$Line", name := "leave", desc := "()I" } : Jvm.MethodName)) ∈ zq_T := zq_tm 632 (by decide +kernel) (by decide +kernel)
theorem tk_633 : (Jvm.Cond.selects "GridRouter$Line" ({ cls := "GridRouter$Line", name := "leave", desc := "()I" } : Jvm.MethodName) ({ cls := "GridRouter$Line", name := "leave", desc := "()I" } : Jvm.MethodName)) ∈ zq_T := zq_tm 633 (by decide +kernel) (by decide +kernel)
theorem tk_634 : (Jvm.Cond.code ({ cls := "GridRouter$Line", name := "leave", desc := "()I" } : Jvm.MethodName) prog_5_method_4_code (2 : Nat) (Option.some Jvm.ClassFile.FieldType.int)) ∈ zq_T := zq_tm 634 (by decide +kernel) (by decide +kernel)
theorem tk_635 : (Jvm.Cond.methodLink "GridRouter$Line" (19 : Nat) ({ cls := "java/lang/System", name := "arraycopy", desc := "(Ljava/lang/Object;ILjava/lang/Object;II)V" } : Jvm.MethodName)) ∈ zq_T := zq_tm 635 (by decide +kernel) (by decide +kernel)
theorem tk_636 : (Jvm.Cond.static ({ cls := "java/lang/System", name := "arraycopy", desc := "(Ljava/lang/Object;ILjava/lang/Object;II)V" } : Jvm.MethodName)) ∈ zq_T := zq_tm 636 (by decide +kernel) (by decide +kernel)
theorem tk_637 : (Jvm.Cond.native ({ cls := "java/lang/System", name := "arraycopy", desc := "(Ljava/lang/Object;ILjava/lang/Object;II)V" } : Jvm.MethodName)) ∈ zq_T := zq_tm 637 (by decide +kernel) (by decide +kernel)
theorem tk_638 : (Jvm.Cond.methodLink "GridRouter$Router" (130 : Nat) ({ cls := "GridRouter$Router", name := "lay", desc := "(I)I" } : Jvm.MethodName)) ∈ zq_T := zq_tm 638 (by decide +kernel) (by decide +kernel)
theorem tk_639 : (Jvm.Cond.methodLink "GridRouter$Router" (133 : Nat) ({ cls := "GridRouter$Router", name := "shove", desc := "(I)I" } : Jvm.MethodName)) ∈ zq_T := zq_tm 639 (by decide +kernel) (by decide +kernel)
theorem tk_640 : (Jvm.Cond.methodLink "GridRouter$Router" (136 : Nat) ({ cls := "GridRouter$Router", name := "lineUpPushedOut", desc := "()V" } : Jvm.MethodName)) ∈ zq_T := zq_tm 640 (by decide +kernel) (by decide +kernel)
theorem tk_642 : (Jvm.Cond.instanceMethod ({ cls := "GridRouter$Router", name := "lineUpPushedOut", desc := "()V" } : Jvm.MethodName)) ∈ zq_T := zq_tm 642 (by decide +kernel) (by decide +kernel)
theorem tk_643 : (Jvm.Cond.code ({ cls := "GridRouter$Router", name := "lineUpPushedOut", desc := "()V" } : Jvm.MethodName) prog_7_method_10_code (2 : Nat) (Option.none : Option Jvm.ClassFile.FieldType)) ∈ zq_T := zq_tm 643 (by decide +kernel) (by decide +kernel)
theorem tk_644 : (Jvm.Cond.methodLink "GridRouter" (145 : Nat) ({ cls := "GridRouter$Router", name := "retryLoose", desc := "()V" } : Jvm.MethodName)) ∈ zq_T := zq_tm 644 (by decide +kernel) (by decide +kernel)
theorem tk_645 : (Jvm.Cond.instanceMethod ({ cls := "GridRouter$Router", name := "retryLoose", desc := "()V" } : Jvm.MethodName)) ∈ zq_T := zq_tm 645 (by decide +kernel) (by decide +kernel)
theorem tk_646 : (Jvm.Cond.selects "GridRouter$Router" ({ cls := "GridRouter$Router", name := "retryLoose", desc := "()V" } : Jvm.MethodName) ({ cls := "GridRouter$Router", name := "retryLoose", desc := "()V" } : Jvm.MethodName)) ∈ zq_T := zq_tm 646 (by decide +kernel) (by decide +kernel)
theorem tk_647 : (Jvm.Cond.code ({ cls := "GridRouter$Router", name := "retryLoose", desc := "()V" } : Jvm.MethodName) prog_7_method_11_code (4 : Nat) (Option.none : Option Jvm.ClassFile.FieldType)) ∈ zq_T := zq_tm 647 (by decide +kernel) (by decide +kernel)
theorem tk_648 : (Jvm.Cond.methodLink "GridRouter$Router" (139 : Nat) ({ cls := "GridRouter$Checker", name := "isJoined", desc := "(I)Z" } : Jvm.MethodName)) ∈ zq_T := zq_tm 648 (by decide +kernel) (by decide +kernel)
theorem tk_649 : (Jvm.Cond.instanceMethod ({ cls := "GridRouter$Checker", name := "isJoined", desc := "(I)Z" } : Jvm.MethodName)) ∈ zq_T := zq_tm 649 (by decide +kernel) (by decide +kernel)
theorem tk_650 : (Jvm.Cond.selects "GridRouter$Checker" ({ cls := "GridRouter$Checker", name := "isJoined", desc := "(I)Z" } : Jvm.MethodName) ({ cls := "GridRouter$Checker", name := "isJoined", desc := "(I)Z" } : Jvm.MethodName)) ∈ zq_T := zq_tm 650 (by decide +kernel) (by decide +kernel)
theorem tk_651 : (Jvm.Cond.code ({ cls := "GridRouter$Checker", name := "isJoined", desc := "(I)Z" } : Jvm.MethodName) prog_2_method_8_code (3 : Nat) (Option.some Jvm.ClassFile.FieldType.boolean)) ∈ zq_T := zq_tm 651 (by decide +kernel) (by decide +kernel)
theorem tk_652 : (Jvm.Cond.methodLink "GridRouter$Checker" (99 : Nat) ({ cls := "GridRouter$Checker", name := "reach", desc := "(II)V" } : Jvm.MethodName)) ∈ zq_T := zq_tm 652 (by decide +kernel) (by decide +kernel)
theorem tk_654 : (Jvm.Cond.instanceMethod ({ cls := "GridRouter$Checker", name := "reach", desc := "(II)V" } : Jvm.MethodName)) ∈ zq_T := zq_tm 654 (by decide +kernel) (by decide +kernel)
theorem tk_655 : (Jvm.Cond.code ({ cls := "GridRouter$Checker", name := "reach", desc := "(II)V" } : Jvm.MethodName) prog_2_method_10_code (3 : Nat) (Option.none : Option Jvm.ClassFile.FieldType)) ∈ zq_T := zq_tm 655 (by decide +kernel) (by decide +kernel)
theorem tk_656 : (Jvm.Cond.methodLink "GridRouter$Checker" (103 : Nat) ({ cls := "GridRouter$Checker", name := "reachFrom", desc := "(II)V" } : Jvm.MethodName)) ∈ zq_T := zq_tm 656 (by decide +kernel) (by decide +kernel)
theorem tk_658 : (Jvm.Cond.instanceMethod ({ cls := "GridRouter$Checker", name := "reachFrom", desc := "(II)V" } : Jvm.MethodName)) ∈ zq_T := zq_tm 658 (by decide +kernel) (by decide +kernel)
theorem tk_659 : (Jvm.Cond.code ({ cls := "GridRouter$Checker", name := "reachFrom", desc := "(II)V" } : Jvm.MethodName) prog_2_method_9_code (4 : Nat) (Option.none : Option Jvm.ClassFile.FieldType)) ∈ zq_T := zq_tm 659 (by decide +kernel) (by decide +kernel)
theorem tk_660 : (Jvm.Cond.methodLink "GridRouter$Checker" (76 : Nat) ({ cls := "GridRouter$Grid", name := "next", desc := "(II)I" } : Jvm.MethodName)) ∈ zq_T := zq_tm 660 (by decide +kernel) (by decide +kernel)
theorem tk_661 : (Jvm.Cond.methodLink "GridRouter$Checker" (109 : Nat) ({ cls := "GridRouter$Grid", name := "placeOf", desc := "(I)I" } : Jvm.MethodName)) ∈ zq_T := zq_tm 661 (by decide +kernel) (by decide +kernel)
theorem tk_662 : (Jvm.Cond.methodLink "GridRouter" (148 : Nat) ({ cls := "GridRouter$Checker", name := "loose", desc := "()I" } : Jvm.MethodName)) ∈ zq_T := zq_tm 662 (by decide +kernel) (by decide +kernel)
theorem tk_663 : (Jvm.Cond.instanceMethod ({ cls := "GridRouter$Checker", name := "loose", desc := "()I" } : Jvm.MethodName)) ∈ zq_T := zq_tm 663 (by decide +kernel) (by decide +kernel)
theorem tk_664 : (Jvm.Cond.selects "GridRouter$Checker" ({ cls := "GridRouter$Checker", name := "loose", desc := "()I" } : Jvm.MethodName) ({ cls := "GridRouter$Checker", name := "loose", desc := "()I" } : Jvm.MethodName)) ∈ zq_T := zq_tm 664 (by decide +kernel) (by decide +kernel)
theorem tk_665 : (Jvm.Cond.code ({ cls := "GridRouter$Checker", name := "loose", desc := "()I" } : Jvm.MethodName) prog_2_method_7_code (3 : Nat) (Option.some Jvm.ClassFile.FieldType.int)) ∈ zq_T := zq_tm 665 (by decide +kernel) (by decide +kernel)
theorem tk_666 : (Jvm.Cond.methodLink "GridRouter$Checker" (92 : Nat) ({ cls := "GridRouter$Checker", name := "isJoined", desc := "(I)Z" } : Jvm.MethodName)) ∈ zq_T := zq_tm 666 (by decide +kernel) (by decide +kernel)
theorem tk_667 : (Jvm.Cond.methodLink "GridRouterLaw" (89 : Nat) ({ cls := "GridRouterLaw", name := "rip", desc := "(LGridRouter;I)I" } : Jvm.MethodName)) ∈ zq_T := zq_tm 667 (by decide +kernel) (by decide +kernel)
theorem tk_668 : (Jvm.Cond.static ({ cls := "GridRouterLaw", name := "rip", desc := "(LGridRouter;I)I" } : Jvm.MethodName)) ∈ zq_T := zq_tm 668 (by decide +kernel) (by decide +kernel)
theorem tk_669 : (Jvm.Cond.codeWith ({ cls := "GridRouterLaw", name := "rip", desc := "(LGridRouter;I)I" } : Jvm.MethodName) method_8_code (3 : Nat) (Option.some Jvm.ClassFile.FieldType.int) [((0 : Nat), (5 : Nat), (8 : Nat), (13 : Nat))]) ∈ zq_T := zq_tm 669 (by decide +kernel) (by decide +kernel)
theorem tk_670 : (Jvm.Cond.methodLink "GridRouterLaw" (34 : Nat) ({ cls := "GridRouter", name := "rip", desc := "(I)V" } : Jvm.MethodName)) ∈ zq_T := zq_tm 670 (by decide +kernel) (by decide +kernel)
theorem tk_671 : (Jvm.Cond.instanceMethod ({ cls := "GridRouter", name := "rip", desc := "(I)V" } : Jvm.MethodName)) ∈ zq_T := zq_tm 671 (by decide +kernel) (by decide +kernel)
theorem tk_672 : (Jvm.Cond.selects "GridRouter" ({ cls := "GridRouter", name := "rip", desc := "(I)V" } : Jvm.MethodName) ({ cls := "GridRouter", name := "rip", desc := "(I)V" } : Jvm.MethodName)) ∈ zq_T := zq_tm 672 (by decide +kernel) (by decide +kernel)
theorem tk_673 : (Jvm.Cond.code ({ cls := "GridRouter", name := "rip", desc := "(I)V" } : Jvm.MethodName) prog_1_method_7_code (2 : Nat) (Option.none : Option Jvm.ClassFile.FieldType)) ∈ zq_T := zq_tm 673 (by decide +kernel) (by decide +kernel)
theorem tk_674 : (Jvm.Cond.methodLink "GridRouter" (152 : Nat) ({ cls := "GridRouter$Layout", name := "strip", desc := "(I)V" } : Jvm.MethodName)) ∈ zq_T := zq_tm 674 (by decide +kernel) (by decide +kernel)
theorem tk_675 : (Jvm.Cond.methodLink "GridRouterLaw" (93 : Nat) ({ cls := "GridRouterLaw", name := "paint", desc := "(LGridRouter;IIII)I" } : Jvm.MethodName)) ∈ zq_T := zq_tm 675 (by decide +kernel) (by decide +kernel)
theorem tk_676 : (Jvm.Cond.static ({ cls := "GridRouterLaw", name := "paint", desc := "(LGridRouter;IIII)I" } : Jvm.MethodName)) ∈ zq_T := zq_tm 676 (by decide +kernel) (by decide +kernel)
theorem tk_677 : (Jvm.Cond.codeWith ({ cls := "GridRouterLaw", name := "paint", desc := "(LGridRouter;IIII)I" } : Jvm.MethodName) method_9_code (6 : Nat) (Option.some Jvm.ClassFile.FieldType.int) [((0 : Nat), (9 : Nat), (12 : Nat), (13 : Nat))]) ∈ zq_T := zq_tm 677 (by decide +kernel) (by decide +kernel)
theorem tk_678 : (Jvm.Cond.methodLink "GridRouterLaw" (38 : Nat) ({ cls := "GridRouter", name := "paint", desc := "(IIII)V" } : Jvm.MethodName)) ∈ zq_T := zq_tm 678 (by decide +kernel) (by decide +kernel)
theorem tk_679 : (Jvm.Cond.instanceMethod ({ cls := "GridRouter", name := "paint", desc := "(IIII)V" } : Jvm.MethodName)) ∈ zq_T := zq_tm 679 (by decide +kernel) (by decide +kernel)
theorem tk_680 : (Jvm.Cond.selects "GridRouter" ({ cls := "GridRouter", name := "paint", desc := "(IIII)V" } : Jvm.MethodName) ({ cls := "GridRouter", name := "paint", desc := "(IIII)V" } : Jvm.MethodName)) ∈ zq_T := zq_tm 680 (by decide +kernel) (by decide +kernel)
theorem tk_681 : (Jvm.Cond.code ({ cls := "GridRouter", name := "paint", desc := "(IIII)V" } : Jvm.MethodName) prog_1_method_8_code (5 : Nat) (Option.none : Option Jvm.ClassFile.FieldType)) ∈ zq_T := zq_tm 681 (by decide +kernel) (by decide +kernel)
theorem tk_683 : (Jvm.Cond.methodLink "GridRouterLaw" (97 : Nat) ({ cls := "GridRouterLaw", name := "stitch", desc := "(LGridRouter;II[J)I" } : Jvm.MethodName)) ∈ zq_T := zq_tm 683 (by decide +kernel) (by decide +kernel)
theorem tk_684 : (Jvm.Cond.static ({ cls := "GridRouterLaw", name := "stitch", desc := "(LGridRouter;II[J)I" } : Jvm.MethodName)) ∈ zq_T := zq_tm 684 (by decide +kernel) (by decide +kernel)
theorem tk_685 : (Jvm.Cond.codeWith ({ cls := "GridRouterLaw", name := "stitch", desc := "(LGridRouter;II[J)I" } : Jvm.MethodName) method_10_code (5 : Nat) (Option.some Jvm.ClassFile.FieldType.int) [((0 : Nat), (17 : Nat), (20 : Nat), (13 : Nat))]) ∈ zq_T := zq_tm 685 (by decide +kernel) (by decide +kernel)
theorem tk_686 : (Jvm.Cond.methodLink "GridRouterLaw" (42 : Nat) ({ cls := "GridRouter", name := "stitch", desc := "(II)Z" } : Jvm.MethodName)) ∈ zq_T := zq_tm 686 (by decide +kernel) (by decide +kernel)
theorem tk_687 : (Jvm.Cond.instanceMethod ({ cls := "GridRouter", name := "stitch", desc := "(II)Z" } : Jvm.MethodName)) ∈ zq_T := zq_tm 687 (by decide +kernel) (by decide +kernel)
theorem tk_688 : (Jvm.Cond.selects "GridRouter" ({ cls := "GridRouter", name := "stitch", desc := "(II)Z" } : Jvm.MethodName) ({ cls := "GridRouter", name := "stitch", desc := "(II)Z" } : Jvm.MethodName)) ∈ zq_T := zq_tm 688 (by decide +kernel) (by decide +kernel)
theorem tk_689 : (Jvm.Cond.code ({ cls := "GridRouter", name := "stitch", desc := "(II)Z" } : Jvm.MethodName) prog_1_method_9_code (4 : Nat) (Option.some Jvm.ClassFile.FieldType.boolean)) ∈ zq_T := zq_tm 689 (by decide +kernel) (by decide +kernel)
theorem tk_690 : (Jvm.Cond.methodLink "GridRouter" (157 : Nat) ({ cls := "GridRouter$Grid", name := "hasPlace", desc := "(II)Z" } : Jvm.MethodName)) ∈ zq_T := zq_tm 690 (by decide +kernel) (by decide +kernel)
theorem tk_692 : (Jvm.Cond.methodLink "GridRouterLaw" (101 : Nat) ({ cls := "GridRouterLaw", name := "cell", desc := "(LGridRouter;III[J)I" } : Jvm.MethodName)) ∈ zq_T := zq_tm 692 (by decide +kernel) (by decide +kernel)
theorem tk_693 : (Jvm.Cond.static ({ cls := "GridRouterLaw", name := "cell", desc := "(LGridRouter;III[J)I" } : Jvm.MethodName)) ∈ zq_T := zq_tm 693 (by decide +kernel) (by decide +kernel)
theorem tk_694 : (Jvm.Cond.codeWith ({ cls := "GridRouterLaw", name := "cell", desc := "(LGridRouter;III[J)I" } : Jvm.MethodName) method_11_code (6 : Nat) (Option.some Jvm.ClassFile.FieldType.int) [((0 : Nat), (12 : Nat), (15 : Nat), (13 : Nat))]) ∈ zq_T := zq_tm 694 (by decide +kernel) (by decide +kernel)
theorem tk_695 : (Jvm.Cond.methodLink "GridRouterLaw" (46 : Nat) ({ cls := "GridRouter", name := "cell", desc := "(III)I" } : Jvm.MethodName)) ∈ zq_T := zq_tm 695 (by decide +kernel) (by decide +kernel)
theorem tk_696 : (Jvm.Cond.instanceMethod ({ cls := "GridRouter", name := "cell", desc := "(III)I" } : Jvm.MethodName)) ∈ zq_T := zq_tm 696 (by decide +kernel) (by decide +kernel)
theorem tk_697 : (Jvm.Cond.selects "GridRouter" ({ cls := "GridRouter", name := "cell", desc := "(III)I" } : Jvm.MethodName) ({ cls := "GridRouter", name := "cell", desc := "(III)I" } : Jvm.MethodName)) ∈ zq_T := zq_tm 697 (by decide +kernel) (by decide +kernel)
theorem tk_698 : (Jvm.Cond.code ({ cls := "GridRouter", name := "cell", desc := "(III)I" } : Jvm.MethodName) prog_1_method_10_code (4 : Nat) (Option.some Jvm.ClassFile.FieldType.int)) ∈ zq_T := zq_tm 698 (by decide +kernel) (by decide +kernel)
theorem tk_699 : (Jvm.Cond.methodLink "GridRouterLaw" (104 : Nat) ({ cls := "GridRouterLaw", name := "via", desc := "(LGridRouter;II[J)I" } : Jvm.MethodName)) ∈ zq_T := zq_tm 699 (by decide +kernel) (by decide +kernel)
theorem tk_700 : (Jvm.Cond.static ({ cls := "GridRouterLaw", name := "via", desc := "(LGridRouter;II[J)I" } : Jvm.MethodName)) ∈ zq_T := zq_tm 700 (by decide +kernel) (by decide +kernel)
theorem tk_701 : (Jvm.Cond.codeWith ({ cls := "GridRouterLaw", name := "via", desc := "(LGridRouter;II[J)I" } : Jvm.MethodName) method_12_code (5 : Nat) (Option.some Jvm.ClassFile.FieldType.int) [((0 : Nat), (17 : Nat), (20 : Nat), (13 : Nat))]) ∈ zq_T := zq_tm 701 (by decide +kernel) (by decide +kernel)
theorem tk_702 : (Jvm.Cond.methodLink "GridRouterLaw" (50 : Nat) ({ cls := "GridRouter", name := "via", desc := "(II)Z" } : Jvm.MethodName)) ∈ zq_T := zq_tm 702 (by decide +kernel) (by decide +kernel)
theorem tk_703 : (Jvm.Cond.instanceMethod ({ cls := "GridRouter", name := "via", desc := "(II)Z" } : Jvm.MethodName)) ∈ zq_T := zq_tm 703 (by decide +kernel) (by decide +kernel)
theorem tk_704 : (Jvm.Cond.selects "GridRouter" ({ cls := "GridRouter", name := "via", desc := "(II)Z" } : Jvm.MethodName) ({ cls := "GridRouter", name := "via", desc := "(II)Z" } : Jvm.MethodName)) ∈ zq_T := zq_tm 704 (by decide +kernel) (by decide +kernel)
theorem tk_705 : (Jvm.Cond.code ({ cls := "GridRouter", name := "via", desc := "(II)Z" } : Jvm.MethodName) prog_1_method_11_code (3 : Nat) (Option.some Jvm.ClassFile.FieldType.boolean)) ∈ zq_T := zq_tm 705 (by decide +kernel) (by decide +kernel)
theorem tk_706 : (Jvm.Cond.methodLink "GridRouterLaw" (107 : Nat) ({ cls := "GridRouterLaw", name := "faults", desc := "(LGridRouter;I[J)I" } : Jvm.MethodName)) ∈ zq_T := zq_tm 706 (by decide +kernel) (by decide +kernel)
theorem tk_707 : (Jvm.Cond.static ({ cls := "GridRouterLaw", name := "faults", desc := "(LGridRouter;I[J)I" } : Jvm.MethodName)) ∈ zq_T := zq_tm 707 (by decide +kernel) (by decide +kernel)
theorem tk_708 : (Jvm.Cond.codeWith ({ cls := "GridRouterLaw", name := "faults", desc := "(LGridRouter;I[J)I" } : Jvm.MethodName) method_13_code (4 : Nat) (Option.some Jvm.ClassFile.FieldType.int) [((0 : Nat), (9 : Nat), (12 : Nat), (21 : Nat))]) ∈ zq_T := zq_tm 708 (by decide +kernel) (by decide +kernel)
theorem tk_709 : (Jvm.Cond.methodLink "GridRouterLaw" (53 : Nat) ({ cls := "GridRouter", name := "faults", desc := "(I)I" } : Jvm.MethodName)) ∈ zq_T := zq_tm 709 (by decide +kernel) (by decide +kernel)
theorem tk_710 : (Jvm.Cond.instanceMethod ({ cls := "GridRouter", name := "faults", desc := "(I)I" } : Jvm.MethodName)) ∈ zq_T := zq_tm 710 (by decide +kernel) (by decide +kernel)
theorem tk_711 : (Jvm.Cond.selects "GridRouter" ({ cls := "GridRouter", name := "faults", desc := "(I)I" } : Jvm.MethodName) ({ cls := "GridRouter", name := "faults", desc := "(I)I" } : Jvm.MethodName)) ∈ zq_T := zq_tm 711 (by decide +kernel) (by decide +kernel)
theorem tk_712 : (Jvm.Cond.code ({ cls := "GridRouter", name := "faults", desc := "(I)I" } : Jvm.MethodName) prog_1_method_12_code (2 : Nat) (Option.some Jvm.ClassFile.FieldType.int)) ∈ zq_T := zq_tm 712 (by decide +kernel) (by decide +kernel)
theorem tk_714 : (Jvm.Cond.methodLink "GridRouter" (167 : Nat) ({ cls := "GridRouter$Checker", name := "count", desc := "(I)I" } : Jvm.MethodName)) ∈ zq_T := zq_tm 714 (by decide +kernel) (by decide +kernel)
theorem tk_715 : (Jvm.Cond.instanceMethod ({ cls := "GridRouter$Checker", name := "count", desc := "(I)I" } : Jvm.MethodName)) ∈ zq_T := zq_tm 715 (by decide +kernel) (by decide +kernel)
theorem tk_716 : (Jvm.Cond.selects "GridRouter$Checker" ({ cls := "GridRouter$Checker", name := "count", desc := "(I)I" } : Jvm.MethodName) ({ cls := "GridRouter$Checker", name := "count", desc := "(I)I" } : Jvm.MethodName)) ∈ zq_T := zq_tm 716 (by decide +kernel) (by decide +kernel)
theorem tk_717 : (Jvm.Cond.code ({ cls := "GridRouter$Checker", name := "count", desc := "(I)I" } : Jvm.MethodName) prog_2_method_2_code (2 : Nat) (Option.some Jvm.ClassFile.FieldType.int)) ∈ zq_T := zq_tm 717 (by decide +kernel) (by decide +kernel)
theorem tk_718 : (Jvm.Cond.methodLink "GridRouter$Checker" (44 : Nat) ({ cls := "GridRouter$Checker", name := "misplaced", desc := "()I" } : Jvm.MethodName)) ∈ zq_T := zq_tm 718 (by decide +kernel) (by decide +kernel)
theorem tk_720 : (Jvm.Cond.instanceMethod ({ cls := "GridRouter$Checker", name := "misplaced", desc := "()I" } : Jvm.MethodName)) ∈ zq_T := zq_tm 720 (by decide +kernel) (by decide +kernel)
theorem tk_721 : (Jvm.Cond.code ({ cls := "GridRouter$Checker", name := "misplaced", desc := "()I" } : Jvm.MethodName) prog_2_method_3_code (5 : Nat) (Option.some Jvm.ClassFile.FieldType.int)) ∈ zq_T := zq_tm 721 (by decide +kernel) (by decide +kernel)
theorem tk_722 : (Jvm.Cond.methodLink "GridRouter$Checker" (48 : Nat) ({ cls := "GridRouter$Checker", name := "crowded", desc := "()I" } : Jvm.MethodName)) ∈ zq_T := zq_tm 722 (by decide +kernel) (by decide +kernel)
theorem tk_724 : (Jvm.Cond.instanceMethod ({ cls := "GridRouter$Checker", name := "crowded", desc := "()I" } : Jvm.MethodName)) ∈ zq_T := zq_tm 724 (by decide +kernel) (by decide +kernel)
theorem tk_725 : (Jvm.Cond.code ({ cls := "GridRouter$Checker", name := "crowded", desc := "()I" } : Jvm.MethodName) prog_2_method_4_code (3 : Nat) (Option.some Jvm.ClassFile.FieldType.int)) ∈ zq_T := zq_tm 725 (by decide +kernel) (by decide +kernel)
theorem tk_726 : (Jvm.Cond.methodLink "GridRouter$Checker" (80 : Nat) ({ cls := "GridRouter$Checker", name := "clash", desc := "(II)I" } : Jvm.MethodName)) ∈ zq_T := zq_tm 726 (by decide +kernel) (by decide +kernel)
theorem tk_728 : (Jvm.Cond.instanceMethod ({ cls := "GridRouter$Checker", name := "clash", desc := "(II)I" } : Jvm.MethodName)) ∈ zq_T := zq_tm 728 (by decide +kernel) (by decide +kernel)
theorem tk_729 : (Jvm.Cond.code ({ cls := "GridRouter$Checker", name := "clash", desc := "(II)I" } : Jvm.MethodName) prog_2_method_5_code (3 : Nat) (Option.some Jvm.ClassFile.FieldType.int)) ∈ zq_T := zq_tm 729 (by decide +kernel) (by decide +kernel)
theorem tk_730 : (Jvm.Cond.methodLink "GridRouter$Checker" (51 : Nat) ({ cls := "GridRouter$Checker", name := "badVias", desc := "()I" } : Jvm.MethodName)) ∈ zq_T := zq_tm 730 (by decide +kernel) (by decide +kernel)
theorem tk_732 : (Jvm.Cond.instanceMethod ({ cls := "GridRouter$Checker", name := "badVias", desc := "()I" } : Jvm.MethodName)) ∈ zq_T := zq_tm 732 (by decide +kernel) (by decide +kernel)
theorem tk_733 : (Jvm.Cond.code ({ cls := "GridRouter$Checker", name := "badVias", desc := "()I" } : Jvm.MethodName) prog_2_method_6_code (4 : Nat) (Option.some Jvm.ClassFile.FieldType.int)) ∈ zq_T := zq_tm 733 (by decide +kernel) (by decide +kernel)
theorem tk_734 : (Jvm.Cond.methodLink "GridRouter$Checker" (54 : Nat) ({ cls := "GridRouter$Checker", name := "loose", desc := "()I" } : Jvm.MethodName)) ∈ zq_T := zq_tm 734 (by decide +kernel) (by decide +kernel)
theorem tk_735 : (Jvm.Cond.methodLink "GridRouterLaw" (115 : Nat) ({ cls := "GridRouterLaw", name := "shape", desc := "(LGridRouter;II[J)I" } : Jvm.MethodName)) ∈ zq_T := zq_tm 735 (by decide +kernel) (by decide +kernel)
theorem tk_736 : (Jvm.Cond.static ({ cls := "GridRouterLaw", name := "shape", desc := "(LGridRouter;II[J)I" } : Jvm.MethodName)) ∈ zq_T := zq_tm 736 (by decide +kernel) (by decide +kernel)
theorem tk_737 : (Jvm.Cond.codeWith ({ cls := "GridRouterLaw", name := "shape", desc := "(LGridRouter;II[J)I" } : Jvm.MethodName) method_14_code (5 : Nat) (Option.some Jvm.ClassFile.FieldType.int) [((0 : Nat), (10 : Nat), (13 : Nat), (13 : Nat)), ((0 : Nat), (10 : Nat), (17 : Nat), (21 : Nat))]) ∈ zq_T := zq_tm 737 (by decide +kernel) (by decide +kernel)
theorem tk_738 : (Jvm.Cond.methodLink "GridRouterLaw" (56 : Nat) ({ cls := "GridRouter", name := "shape", desc := "(II)I" } : Jvm.MethodName)) ∈ zq_T := zq_tm 738 (by decide +kernel) (by decide +kernel)
theorem tk_739 : (Jvm.Cond.instanceMethod ({ cls := "GridRouter", name := "shape", desc := "(II)I" } : Jvm.MethodName)) ∈ zq_T := zq_tm 739 (by decide +kernel) (by decide +kernel)
theorem tk_740 : (Jvm.Cond.selects "GridRouter" ({ cls := "GridRouter", name := "shape", desc := "(II)I" } : Jvm.MethodName) ({ cls := "GridRouter", name := "shape", desc := "(II)I" } : Jvm.MethodName)) ∈ zq_T := zq_tm 740 (by decide +kernel) (by decide +kernel)
theorem tk_741 : (Jvm.Cond.code ({ cls := "GridRouter", name := "shape", desc := "(II)I" } : Jvm.MethodName) prog_1_method_14_code (4 : Nat) (Option.some Jvm.ClassFile.FieldType.int)) ∈ zq_T := zq_tm 741 (by decide +kernel) (by decide +kernel)
theorem tk_742 : (Jvm.Cond.methodLink "GridRouter" (171 : Nat) ({ cls := "GridRouter$Shapes", name := "startOf", desc := "(I)I" } : Jvm.MethodName)) ∈ zq_T := zq_tm 742 (by decide +kernel) (by decide +kernel)
theorem tk_743 : (Jvm.Cond.instanceMethod ({ cls := "GridRouter$Shapes", name := "startOf", desc := "(I)I" } : Jvm.MethodName)) ∈ zq_T := zq_tm 743 (by decide +kernel) (by decide +kernel)
theorem tk_744 : (Jvm.Cond.selects "GridRouter$Shapes" ({ cls := "GridRouter$Shapes", name := "startOf", desc := "(I)I" } : Jvm.MethodName) ({ cls := "GridRouter$Shapes", name := "startOf", desc := "(I)I" } : Jvm.MethodName)) ∈ zq_T := zq_tm 744 (by decide +kernel) (by decide +kernel)
theorem tk_745 : (Jvm.Cond.code ({ cls := "GridRouter$Shapes", name := "startOf", desc := "(I)I" } : Jvm.MethodName) prog_9_method_3_code (4 : Nat) (Option.some Jvm.ClassFile.FieldType.int)) ∈ zq_T := zq_tm 745 (by decide +kernel) (by decide +kernel)
theorem tk_748 : (Jvm.Cond.methodLink "GridRouter" (178 : Nat) ({ cls := "GridRouter$Shapes", name := "tell", desc := "(II)I" } : Jvm.MethodName)) ∈ zq_T := zq_tm 748 (by decide +kernel) (by decide +kernel)
theorem tk_749 : (Jvm.Cond.instanceMethod ({ cls := "GridRouter$Shapes", name := "tell", desc := "(II)I" } : Jvm.MethodName)) ∈ zq_T := zq_tm 749 (by decide +kernel) (by decide +kernel)
theorem tk_750 : (Jvm.Cond.selects "GridRouter$Shapes" ({ cls := "GridRouter$Shapes", name := "tell", desc := "(II)I" } : Jvm.MethodName) ({ cls := "GridRouter$Shapes", name := "tell", desc := "(II)I" } : Jvm.MethodName)) ∈ zq_T := zq_tm 750 (by decide +kernel) (by decide +kernel)
theorem tk_751 : (Jvm.Cond.code ({ cls := "GridRouter$Shapes", name := "tell", desc := "(II)I" } : Jvm.MethodName) prog_9_method_4_code (3 : Nat) (Option.some Jvm.ClassFile.FieldType.int)) ∈ zq_T := zq_tm 751 (by decide +kernel) (by decide +kernel)
theorem tk_752 : (Jvm.Cond.methodLink "GridRouter$Shapes" (29 : Nat) ({ cls := "GridRouter$Grid", name := "layerOf", desc := "(I)I" } : Jvm.MethodName)) ∈ zq_T := zq_tm 752 (by decide +kernel) (by decide +kernel)
theorem tk_753 : (Jvm.Cond.methodLink "GridRouter$Shapes" (40 : Nat) ({ cls := "GridRouter$Shapes", name := "lastX", desc := "(I)I" } : Jvm.MethodName)) ∈ zq_T := zq_tm 753 (by decide +kernel) (by decide +kernel)
theorem tk_755 : (Jvm.Cond.instanceMethod ({ cls := "GridRouter$Shapes", name := "lastX", desc := "(I)I" } : Jvm.MethodName)) ∈ zq_T := zq_tm 755 (by decide +kernel) (by decide +kernel)
theorem tk_756 : (Jvm.Cond.code ({ cls := "GridRouter$Shapes", name := "lastX", desc := "(I)I" } : Jvm.MethodName) prog_9_method_6_code (4 : Nat) (Option.some Jvm.ClassFile.FieldType.int)) ∈ zq_T := zq_tm 756 (by decide +kernel) (by decide +kernel)
theorem tk_763 : (Jvm.Cond.fieldLink "GridRouterModel" (44 : Nat) "GridRouterModel" "width" "I") ∈ zq_T := zq_tm 763 (by decide +kernel) (by decide +kernel)
theorem tk_764 : (Jvm.Cond.fieldLink "GridRouterModel" (48 : Nat) "GridRouterModel" "height" "I") ∈ zq_T := zq_tm 764 (by decide +kernel) (by decide +kernel)
theorem tk_765 : (Jvm.Cond.fieldLink "GridRouterModel" (51 : Nat) "GridRouterModel" "viaCost" "I") ∈ zq_T := zq_tm 765 (by decide +kernel) (by decide +kernel)
theorem tk_766 : (Jvm.Cond.fieldLink "GridRouterModel" (54 : Nat) "GridRouterModel" "wide" "Z") ∈ zq_T := zq_tm 766 (by decide +kernel) (by decide +kernel)
theorem tk_767 : (Jvm.Cond.fieldLink "GridRouterModel" (58 : Nat) "GridRouterModel" "code" "I") ∈ zq_T := zq_tm 767 (by decide +kernel) (by decide +kernel)
theorem tk_768 : (Jvm.Cond.fieldLink "GridRouterModel" (7 : Nat) "GridRouterModel" "blocked" "[Z") ∈ zq_T := zq_tm 768 (by decide +kernel) (by decide +kernel)
theorem tk_769 : (Jvm.Cond.fieldLink "GridRouterModel" (13 : Nat) "GridRouterModel" "pin" "[I") ∈ zq_T := zq_tm 769 (by decide +kernel) (by decide +kernel)
theorem tk_770 : (Jvm.Cond.fieldLink "GridRouterModel" (17 : Nat) "GridRouterModel" "owner" "[I") ∈ zq_T := zq_tm 770 (by decide +kernel) (by decide +kernel)
theorem tk_771 : (Jvm.Cond.fieldLink "GridRouterModel" (20 : Nat) "GridRouterModel" "vias" "[Z") ∈ zq_T := zq_tm 771 (by decide +kernel) (by decide +kernel)
theorem tk_772 : (Jvm.Cond.fieldLink "GridRouterModel" (23 : Nat) "GridRouterModel" "cost" "[I") ∈ zq_T := zq_tm 772 (by decide +kernel) (by decide +kernel)
theorem tk_773 : (Jvm.Cond.fieldLink "GridRouterModel" (26 : Nat) "GridRouterModel" "mark" "[Z") ∈ zq_T := zq_tm 773 (by decide +kernel) (by decide +kernel)
theorem tk_774 : (Jvm.Cond.fieldLink "GridRouterModel" (29 : Nat) "GridRouterModel" "way" "[I") ∈ zq_T := zq_tm 774 (by decide +kernel) (by decide +kernel)
theorem tk_775 : (Jvm.Cond.fieldLink "GridRouterModel" (32 : Nat) "GridRouterModel" "climbs" "[Z") ∈ zq_T := zq_tm 775 (by decide +kernel) (by decide +kernel)
theorem tk_776 : (Jvm.Cond.fieldLink "GridRouterModel" (83 : Nat) "GridRouterModel" "nets" "I") ∈ zq_T := zq_tm 776 (by decide +kernel) (by decide +kernel)
theorem tk_777 : (Jvm.Cond.fieldLink "GridRouterModel" (35 : Nat) "GridRouterModel" "first" "[I") ∈ zq_T := zq_tm 777 (by decide +kernel) (by decide +kernel)
theorem tk_778 : (Jvm.Cond.fieldLink "GridRouterModel" (38 : Nat) "GridRouterModel" "second" "[I") ∈ zq_T := zq_tm 778 (by decide +kernel) (by decide +kernel)
theorem tk_779 : (Jvm.Cond.fieldLink "GridRouterModel" (133 : Nat) "GridRouterModel" "standing" "I") ∈ zq_T := zq_tm 779 (by decide +kernel) (by decide +kernel)
theorem tk_780 : (Jvm.Cond.fieldLink "GridRouterModel" (41 : Nat) "GridRouterModel" "line" "[I") ∈ zq_T := zq_tm 780 (by decide +kernel) (by decide +kernel)
theorem tk_781 : (Jvm.Cond.fieldLink "GridRouterModel" (112 : Nat) "GridRouterModel" "out" "I") ∈ zq_T := zq_tm 781 (by decide +kernel) (by decide +kernel)
theorem tk_782 : (Jvm.Cond.laysFinal "GridRouterModel" "GridRouterModel" "width" "I") ∈ zq_T := zq_tm 782 (by decide +kernel) (by decide +kernel)
theorem tk_784 : (Jvm.Cond.laysFinal "GridRouterModel" "GridRouterModel" "height" "I") ∈ zq_T := zq_tm 784 (by decide +kernel) (by decide +kernel)
theorem tk_786 : (Jvm.Cond.laysFinal "GridRouterModel" "GridRouterModel" "viaCost" "I") ∈ zq_T := zq_tm 786 (by decide +kernel) (by decide +kernel)
theorem tk_788 : (Jvm.Cond.laysFinal "GridRouterModel" "GridRouterModel" "wide" "Z") ∈ zq_T := zq_tm 788 (by decide +kernel) (by decide +kernel)
theorem tk_790 : (Jvm.Cond.lays "GridRouterModel" "GridRouterModel" "code" "I") ∈ zq_T := zq_tm 790 (by decide +kernel) (by decide +kernel)
theorem tk_792 : (Jvm.Cond.laysFinal "GridRouterModel" "GridRouterModel" "blocked" "[Z") ∈ zq_T := zq_tm 792 (by decide +kernel) (by decide +kernel)
theorem tk_794 : (Jvm.Cond.laysFinal "GridRouterModel" "GridRouterModel" "pin" "[I") ∈ zq_T := zq_tm 794 (by decide +kernel) (by decide +kernel)
theorem tk_796 : (Jvm.Cond.laysFinal "GridRouterModel" "GridRouterModel" "owner" "[I") ∈ zq_T := zq_tm 796 (by decide +kernel) (by decide +kernel)
theorem tk_798 : (Jvm.Cond.laysFinal "GridRouterModel" "GridRouterModel" "vias" "[Z") ∈ zq_T := zq_tm 798 (by decide +kernel) (by decide +kernel)
theorem tk_800 : (Jvm.Cond.laysFinal "GridRouterModel" "GridRouterModel" "cost" "[I") ∈ zq_T := zq_tm 800 (by decide +kernel) (by decide +kernel)
theorem tk_802 : (Jvm.Cond.laysFinal "GridRouterModel" "GridRouterModel" "mark" "[Z") ∈ zq_T := zq_tm 802 (by decide +kernel) (by decide +kernel)
theorem tk_804 : (Jvm.Cond.laysFinal "GridRouterModel" "GridRouterModel" "way" "[I") ∈ zq_T := zq_tm 804 (by decide +kernel) (by decide +kernel)
theorem tk_806 : (Jvm.Cond.laysFinal "GridRouterModel" "GridRouterModel" "climbs" "[Z") ∈ zq_T := zq_tm 806 (by decide +kernel) (by decide +kernel)
theorem tk_808 : (Jvm.Cond.lays "GridRouterModel" "GridRouterModel" "nets" "I") ∈ zq_T := zq_tm 808 (by decide +kernel) (by decide +kernel)
theorem tk_810 : (Jvm.Cond.laysFinal "GridRouterModel" "GridRouterModel" "first" "[I") ∈ zq_T := zq_tm 810 (by decide +kernel) (by decide +kernel)
theorem tk_812 : (Jvm.Cond.laysFinal "GridRouterModel" "GridRouterModel" "second" "[I") ∈ zq_T := zq_tm 812 (by decide +kernel) (by decide +kernel)
theorem tk_814 : (Jvm.Cond.lays "GridRouterModel" "GridRouterModel" "standing" "I") ∈ zq_T := zq_tm 814 (by decide +kernel) (by decide +kernel)
theorem tk_816 : (Jvm.Cond.laysFinal "GridRouterModel" "GridRouterModel" "line" "[I") ∈ zq_T := zq_tm 816 (by decide +kernel) (by decide +kernel)
theorem tk_818 : (Jvm.Cond.lays "GridRouterModel" "GridRouterModel" "out" "I") ∈ zq_T := zq_tm 818 (by decide +kernel) (by decide +kernel)
theorem tk_821 : (Jvm.Cond.methodLink "GridRouterLaw" (118 : Nat) ({ cls := "GridRouterModel", name := "thrown", desc := "()I" } : Jvm.MethodName)) ∈ zq_T := zq_tm 821 (by decide +kernel) (by decide +kernel)
theorem tk_822 : (Jvm.Cond.instanceMethod ({ cls := "GridRouterModel", name := "thrown", desc := "()I" } : Jvm.MethodName)) ∈ zq_T := zq_tm 822 (by decide +kernel) (by decide +kernel)
theorem tk_823 : (Jvm.Cond.selects "GridRouterModel" ({ cls := "GridRouterModel", name := "thrown", desc := "()I" } : Jvm.MethodName) ({ cls := "GridRouterModel", name := "thrown", desc := "()I" } : Jvm.MethodName)) ∈ zq_T := zq_tm 823 (by decide +kernel) (by decide +kernel)
theorem tk_824 : (Jvm.Cond.code ({ cls := "GridRouterModel", name := "thrown", desc := "()I" } : Jvm.MethodName) prog_12_method_2_code (1 : Nat) (Option.some Jvm.ClassFile.FieldType.int)) ∈ zq_T := zq_tm 824 (by decide +kernel) (by decide +kernel)
theorem tk_825 : (Jvm.Cond.methodLink "GridRouterLaw" (73 : Nat) ({ cls := "GridRouterModel", name := "block", desc := "(III)Z" } : Jvm.MethodName)) ∈ zq_T := zq_tm 825 (by decide +kernel) (by decide +kernel)
theorem tk_826 : (Jvm.Cond.instanceMethod ({ cls := "GridRouterModel", name := "block", desc := "(III)Z" } : Jvm.MethodName)) ∈ zq_T := zq_tm 826 (by decide +kernel) (by decide +kernel)
theorem tk_827 : (Jvm.Cond.selects "GridRouterModel" ({ cls := "GridRouterModel", name := "block", desc := "(III)Z" } : Jvm.MethodName) ({ cls := "GridRouterModel", name := "block", desc := "(III)Z" } : Jvm.MethodName)) ∈ zq_T := zq_tm 827 (by decide +kernel) (by decide +kernel)
theorem tk_828 : (Jvm.Cond.code ({ cls := "GridRouterModel", name := "block", desc := "(III)Z" } : Jvm.MethodName) prog_12_method_13_code (5 : Nat) (Option.some Jvm.ClassFile.FieldType.boolean)) ∈ zq_T := zq_tm 828 (by decide +kernel) (by decide +kernel)
theorem tk_829 : (Jvm.Cond.methodLink "GridRouterModel" (65 : Nat) ({ cls := "GridRouterModel", name := "at", desc := "(III)I" } : Jvm.MethodName)) ∈ zq_T := zq_tm 829 (by decide +kernel) (by decide +kernel)
theorem tk_831 : (Jvm.Cond.instanceMethod ({ cls := "GridRouterModel", name := "at", desc := "(III)I" } : Jvm.MethodName)) ∈ zq_T := zq_tm 831 (by decide +kernel) (by decide +kernel)
theorem tk_832 : (Jvm.Cond.code ({ cls := "GridRouterModel", name := "at", desc := "(III)I" } : Jvm.MethodName) prog_12_method_6_code (4 : Nat) (Option.some Jvm.ClassFile.FieldType.int)) ∈ zq_T := zq_tm 832 (by decide +kernel) (by decide +kernel)
theorem tk_833 : (Jvm.Cond.methodLink "GridRouterModel" (61 : Nat) ({ cls := "GridRouterModel", name := "isPlace", desc := "(II)Z" } : Jvm.MethodName)) ∈ zq_T := zq_tm 833 (by decide +kernel) (by decide +kernel)
theorem tk_835 : (Jvm.Cond.instanceMethod ({ cls := "GridRouterModel", name := "isPlace", desc := "(II)Z" } : Jvm.MethodName)) ∈ zq_T := zq_tm 835 (by decide +kernel) (by decide +kernel)
theorem tk_836 : (Jvm.Cond.code ({ cls := "GridRouterModel", name := "isPlace", desc := "(II)Z" } : Jvm.MethodName) prog_12_method_5_code (3 : Nat) (Option.some Jvm.ClassFile.FieldType.boolean)) ∈ zq_T := zq_tm 836 (by decide +kernel) (by decide +kernel)
theorem tk_837 : (Jvm.Cond.methodLink "GridRouterLaw" (77 : Nat) ({ cls := "GridRouterModel", name := "net", desc := "(IIIIII)I" } : Jvm.MethodName)) ∈ zq_T := zq_tm 837 (by decide +kernel) (by decide +kernel)
theorem tk_838 : (Jvm.Cond.instanceMethod ({ cls := "GridRouterModel", name := "net", desc := "(IIIIII)I" } : Jvm.MethodName)) ∈ zq_T := zq_tm 838 (by decide +kernel) (by decide +kernel)
theorem tk_839 : (Jvm.Cond.selects "GridRouterModel" ({ cls := "GridRouterModel", name := "net", desc := "(IIIIII)I" } : Jvm.MethodName) ({ cls := "GridRouterModel", name := "net", desc := "(IIIIII)I" } : Jvm.MethodName)) ∈ zq_T := zq_tm 839 (by decide +kernel) (by decide +kernel)
theorem tk_840 : (Jvm.Cond.code ({ cls := "GridRouterModel", name := "net", desc := "(IIIIII)I" } : Jvm.MethodName) prog_12_method_14_code (9 : Nat) (Option.some Jvm.ClassFile.FieldType.int)) ∈ zq_T := zq_tm 840 (by decide +kernel) (by decide +kernel)
theorem tk_841 : (Jvm.Cond.methodLink "GridRouterModel" (76 : Nat) ({ cls := "GridRouterModel", name := "isBarred", desc := "(II)Z" } : Jvm.MethodName)) ∈ zq_T := zq_tm 841 (by decide +kernel) (by decide +kernel)
theorem tk_843 : (Jvm.Cond.instanceMethod ({ cls := "GridRouterModel", name := "isBarred", desc := "(II)Z" } : Jvm.MethodName)) ∈ zq_T := zq_tm 843 (by decide +kernel) (by decide +kernel)
theorem tk_844 : (Jvm.Cond.code ({ cls := "GridRouterModel", name := "isBarred", desc := "(II)Z" } : Jvm.MethodName) prog_12_method_10_code (6 : Nat) (Option.some Jvm.ClassFile.FieldType.boolean)) ∈ zq_T := zq_tm 844 (by decide +kernel) (by decide +kernel)
theorem tk_845 : (Jvm.Cond.methodLink "GridRouterModel" (69 : Nat) ({ cls := "GridRouterModel", name := "isOther", desc := "(II)Z" } : Jvm.MethodName)) ∈ zq_T := zq_tm 845 (by decide +kernel) (by decide +kernel)
theorem tk_846 : (Jvm.Cond.static ({ cls := "GridRouterModel", name := "isOther", desc := "(II)Z" } : Jvm.MethodName)) ∈ zq_T := zq_tm 846 (by decide +kernel) (by decide +kernel)
theorem tk_847 : (Jvm.Cond.code ({ cls := "GridRouterModel", name := "isOther", desc := "(II)Z" } : Jvm.MethodName) prog_12_method_9_code (2 : Nat) (Option.some Jvm.ClassFile.FieldType.boolean)) ∈ zq_T := zq_tm 847 (by decide +kernel) (by decide +kernel)
theorem tk_848 : (Jvm.Cond.methodLink "GridRouterModel" (72 : Nat) ({ cls := "GridRouterModel", name := "side", desc := "(II)I" } : Jvm.MethodName)) ∈ zq_T := zq_tm 848 (by decide +kernel) (by decide +kernel)
theorem tk_850 : (Jvm.Cond.instanceMethod ({ cls := "GridRouterModel", name := "side", desc := "(II)I" } : Jvm.MethodName)) ∈ zq_T := zq_tm 850 (by decide +kernel) (by decide +kernel)
theorem tk_851 : (Jvm.Cond.code ({ cls := "GridRouterModel", name := "side", desc := "(II)I" } : Jvm.MethodName) prog_12_method_7_code (6 : Nat) (Option.some Jvm.ClassFile.FieldType.int)) ∈ zq_T := zq_tm 851 (by decide +kernel) (by decide +kernel)
theorem tk_852 : (Jvm.Cond.methodLink "GridRouterLaw" (81 : Nat) ({ cls := "GridRouterModel", name := "route", desc := "(I)I" } : Jvm.MethodName)) ∈ zq_T := zq_tm 852 (by decide +kernel) (by decide +kernel)
theorem tk_853 : (Jvm.Cond.instanceMethod ({ cls := "GridRouterModel", name := "route", desc := "(I)I" } : Jvm.MethodName)) ∈ zq_T := zq_tm 853 (by decide +kernel) (by decide +kernel)
theorem tk_854 : (Jvm.Cond.selects "GridRouterModel" ({ cls := "GridRouterModel", name := "route", desc := "(I)I" } : Jvm.MethodName) ({ cls := "GridRouterModel", name := "route", desc := "(I)I" } : Jvm.MethodName)) ∈ zq_T := zq_tm 854 (by decide +kernel) (by decide +kernel)
theorem tk_855 : (Jvm.Cond.code ({ cls := "GridRouterModel", name := "route", desc := "(I)I" } : Jvm.MethodName) prog_12_method_23_code (2 : Nat) (Option.some Jvm.ClassFile.FieldType.int)) ∈ zq_T := zq_tm 855 (by decide +kernel) (by decide +kernel)
theorem tk_856 : (Jvm.Cond.methodLink "GridRouterModel" (122 : Nat) ({ cls := "GridRouterModel", name := "isNet", desc := "(I)Z" } : Jvm.MethodName)) ∈ zq_T := zq_tm 856 (by decide +kernel) (by decide +kernel)
theorem tk_858 : (Jvm.Cond.instanceMethod ({ cls := "GridRouterModel", name := "isNet", desc := "(I)Z" } : Jvm.MethodName)) ∈ zq_T := zq_tm 858 (by decide +kernel) (by decide +kernel)
theorem tk_859 : (Jvm.Cond.code ({ cls := "GridRouterModel", name := "isNet", desc := "(I)Z" } : Jvm.MethodName) prog_12_method_15_code (2 : Nat) (Option.some Jvm.ClassFile.FieldType.boolean)) ∈ zq_T := zq_tm 859 (by decide +kernel) (by decide +kernel)
theorem tk_860 : (Jvm.Cond.methodLink "GridRouterModel" (126 : Nat) ({ cls := "GridRouterModel", name := "find", desc := "(IZ)I" } : Jvm.MethodName)) ∈ zq_T := zq_tm 860 (by decide +kernel) (by decide +kernel)
theorem tk_862 : (Jvm.Cond.instanceMethod ({ cls := "GridRouterModel", name := "find", desc := "(IZ)I" } : Jvm.MethodName)) ∈ zq_T := zq_tm 862 (by decide +kernel) (by decide +kernel)
theorem tk_863 : (Jvm.Cond.code ({ cls := "GridRouterModel", name := "find", desc := "(IZ)I" } : Jvm.MethodName) prog_12_method_22_code (4 : Nat) (Option.some Jvm.ClassFile.FieldType.int)) ∈ zq_T := zq_tm 863 (by decide +kernel) (by decide +kernel)
theorem tk_864 : (Jvm.Cond.methodLink "GridRouterModel" (108 : Nat) ({ cls := "GridRouterModel", name := "clear", desc := "(I)V" } : Jvm.MethodName)) ∈ zq_T := zq_tm 864 (by decide +kernel) (by decide +kernel)
theorem tk_866 : (Jvm.Cond.instanceMethod ({ cls := "GridRouterModel", name := "clear", desc := "(I)V" } : Jvm.MethodName)) ∈ zq_T := zq_tm 866 (by decide +kernel) (by decide +kernel)
theorem tk_867 : (Jvm.Cond.code ({ cls := "GridRouterModel", name := "clear", desc := "(I)V" } : Jvm.MethodName) prog_12_method_16_code (3 : Nat) (Option.none : Option Jvm.ClassFile.FieldType)) ∈ zq_T := zq_tm 867 (by decide +kernel) (by decide +kernel)
theorem tk_868 : (Jvm.Cond.methodLink "GridRouterModel" (86 : Nat) ({ cls := "GridRouterModel", name := "many", desc := "()I" } : Jvm.MethodName)) ∈ zq_T := zq_tm 868 (by decide +kernel) (by decide +kernel)
theorem tk_870 : (Jvm.Cond.instanceMethod ({ cls := "GridRouterModel", name := "many", desc := "()I" } : Jvm.MethodName)) ∈ zq_T := zq_tm 870 (by decide +kernel) (by decide +kernel)
theorem tk_871 : (Jvm.Cond.code ({ cls := "GridRouterModel", name := "many", desc := "()I" } : Jvm.MethodName) prog_12_method_4_code (1 : Nat) (Option.some Jvm.ClassFile.FieldType.int)) ∈ zq_T := zq_tm 871 (by decide +kernel) (by decide +kernel)
theorem tk_872 : (Jvm.Cond.methodLink "GridRouterModel" (90 : Nat) ({ cls := "GridRouterModel", name := "placeOf", desc := "(I)I" } : Jvm.MethodName)) ∈ zq_T := zq_tm 872 (by decide +kernel) (by decide +kernel)
theorem tk_874 : (Jvm.Cond.instanceMethod ({ cls := "GridRouterModel", name := "placeOf", desc := "(I)I" } : Jvm.MethodName)) ∈ zq_T := zq_tm 874 (by decide +kernel) (by decide +kernel)
theorem tk_875 : (Jvm.Cond.code ({ cls := "GridRouterModel", name := "placeOf", desc := "(I)I" } : Jvm.MethodName) prog_12_method_8_code (2 : Nat) (Option.some Jvm.ClassFile.FieldType.int)) ∈ zq_T := zq_tm 875 (by decide +kernel) (by decide +kernel)
theorem tk_876 : (Jvm.Cond.methodLink "GridRouterModel" (115 : Nat) ({ cls := "GridRouterModel", name := "weigh", desc := "(IZ)V" } : Jvm.MethodName)) ∈ zq_T := zq_tm 876 (by decide +kernel) (by decide +kernel)
theorem tk_878 : (Jvm.Cond.instanceMethod ({ cls := "GridRouterModel", name := "weigh", desc := "(IZ)V" } : Jvm.MethodName)) ∈ zq_T := zq_tm 878 (by decide +kernel) (by decide +kernel)
theorem tk_879 : (Jvm.Cond.code ({ cls := "GridRouterModel", name := "weigh", desc := "(IZ)V" } : Jvm.MethodName) prog_12_method_17_code (9 : Nat) (Option.none : Option Jvm.ClassFile.FieldType)) ∈ zq_T := zq_tm 879 (by decide +kernel) (by decide +kernel)
theorem tk_880 : (Jvm.Cond.constant "GridRouterModel" (79 : Nat) (1000000 : Int32)) ∈ zq_T := zq_tm 880 (by decide +kernel) (by decide +kernel)
theorem tk_881 : (Jvm.Cond.methodLink "GridRouterModel" (94 : Nat) ({ cls := "GridRouterModel", name := "toll", desc := "(IIZ)I" } : Jvm.MethodName)) ∈ zq_T := zq_tm 881 (by decide +kernel) (by decide +kernel)
theorem tk_883 : (Jvm.Cond.instanceMethod ({ cls := "GridRouterModel", name := "toll", desc := "(IIZ)I" } : Jvm.MethodName)) ∈ zq_T := zq_tm 883 (by decide +kernel) (by decide +kernel)
theorem tk_884 : (Jvm.Cond.code ({ cls := "GridRouterModel", name := "toll", desc := "(IIZ)I" } : Jvm.MethodName) prog_12_method_12_code (4 : Nat) (Option.some Jvm.ClassFile.FieldType.int)) ∈ zq_T := zq_tm 884 (by decide +kernel) (by decide +kernel)
theorem tk_885 : (Jvm.Cond.methodLink "GridRouterModel" (80 : Nat) ({ cls := "GridRouterModel", name := "isTaken", desc := "(II)Z" } : Jvm.MethodName)) ∈ zq_T := zq_tm 885 (by decide +kernel) (by decide +kernel)
theorem tk_887 : (Jvm.Cond.instanceMethod ({ cls := "GridRouterModel", name := "isTaken", desc := "(II)Z" } : Jvm.MethodName)) ∈ zq_T := zq_tm 887 (by decide +kernel) (by decide +kernel)
theorem tk_888 : (Jvm.Cond.code ({ cls := "GridRouterModel", name := "isTaken", desc := "(II)Z" } : Jvm.MethodName) prog_12_method_11_code (6 : Nat) (Option.some Jvm.ClassFile.FieldType.boolean)) ∈ zq_T := zq_tm 888 (by decide +kernel) (by decide +kernel)
theorem tk_889 : (Jvm.Cond.methodLink "GridRouterModel" (119 : Nat) ({ cls := "GridRouterModel", name := "lay", desc := "(IZ)V" } : Jvm.MethodName)) ∈ zq_T := zq_tm 889 (by decide +kernel) (by decide +kernel)
theorem tk_891 : (Jvm.Cond.instanceMethod ({ cls := "GridRouterModel", name := "lay", desc := "(IZ)V" } : Jvm.MethodName)) ∈ zq_T := zq_tm 891 (by decide +kernel) (by decide +kernel)
theorem tk_892 : (Jvm.Cond.code ({ cls := "GridRouterModel", name := "lay", desc := "(IZ)V" } : Jvm.MethodName) prog_12_method_19_code (6 : Nat) (Option.none : Option Jvm.ClassFile.FieldType)) ∈ zq_T := zq_tm 892 (by decide +kernel) (by decide +kernel)
theorem tk_893 : (Jvm.Cond.methodLink "GridRouterModel" (98 : Nat) ({ cls := "GridRouterModel", name := "before", desc := "(IIZ)I" } : Jvm.MethodName)) ∈ zq_T := zq_tm 893 (by decide +kernel) (by decide +kernel)
theorem tk_895 : (Jvm.Cond.instanceMethod ({ cls := "GridRouterModel", name := "before", desc := "(IIZ)I" } : Jvm.MethodName)) ∈ zq_T := zq_tm 895 (by decide +kernel) (by decide +kernel)
theorem tk_896 : (Jvm.Cond.code ({ cls := "GridRouterModel", name := "before", desc := "(IIZ)I" } : Jvm.MethodName) prog_12_method_18_code (7 : Nat) (Option.some Jvm.ClassFile.FieldType.int)) ∈ zq_T := zq_tm 896 (by decide +kernel) (by decide +kernel)
theorem tk_897 : (Jvm.Cond.methodLink "GridRouterModel" (101 : Nat) ({ cls := "GridRouterModel", name := "pushOut", desc := "(II)V" } : Jvm.MethodName)) ∈ zq_T := zq_tm 897 (by decide +kernel) (by decide +kernel)
theorem tk_899 : (Jvm.Cond.instanceMethod ({ cls := "GridRouterModel", name := "pushOut", desc := "(II)V" } : Jvm.MethodName)) ∈ zq_T := zq_tm 899 (by decide +kernel) (by decide +kernel)
theorem tk_900 : (Jvm.Cond.code ({ cls := "GridRouterModel", name := "pushOut", desc := "(II)V" } : Jvm.MethodName) prog_12_method_20_code (5 : Nat) (Option.none : Option Jvm.ClassFile.FieldType)) ∈ zq_T := zq_tm 900 (by decide +kernel) (by decide +kernel)
theorem tk_901 : (Jvm.Cond.methodLink "GridRouterModel" (105 : Nat) ({ cls := "GridRouterModel", name := "leave", desc := "(II)V" } : Jvm.MethodName)) ∈ zq_T := zq_tm 901 (by decide +kernel) (by decide +kernel)
theorem tk_903 : (Jvm.Cond.instanceMethod ({ cls := "GridRouterModel", name := "leave", desc := "(II)V" } : Jvm.MethodName)) ∈ zq_T := zq_tm 903 (by decide +kernel) (by decide +kernel)
theorem tk_904 : (Jvm.Cond.code ({ cls := "GridRouterModel", name := "leave", desc := "(II)V" } : Jvm.MethodName) prog_12_method_21_code (3 : Nat) (Option.none : Option Jvm.ClassFile.FieldType)) ∈ zq_T := zq_tm 904 (by decide +kernel) (by decide +kernel)
theorem tk_905 : (Jvm.Cond.methodLink "GridRouterLaw" (84 : Nat) ({ cls := "GridRouterModel", name := "push", desc := "(I)I" } : Jvm.MethodName)) ∈ zq_T := zq_tm 905 (by decide +kernel) (by decide +kernel)
theorem tk_906 : (Jvm.Cond.instanceMethod ({ cls := "GridRouterModel", name := "push", desc := "(I)I" } : Jvm.MethodName)) ∈ zq_T := zq_tm 906 (by decide +kernel) (by decide +kernel)
theorem tk_907 : (Jvm.Cond.selects "GridRouterModel" ({ cls := "GridRouterModel", name := "push", desc := "(I)I" } : Jvm.MethodName) ({ cls := "GridRouterModel", name := "push", desc := "(I)I" } : Jvm.MethodName)) ∈ zq_T := zq_tm 907 (by decide +kernel) (by decide +kernel)
theorem tk_908 : (Jvm.Cond.code ({ cls := "GridRouterModel", name := "push", desc := "(I)I" } : Jvm.MethodName) prog_12_method_24_code (2 : Nat) (Option.some Jvm.ClassFile.FieldType.int)) ∈ zq_T := zq_tm 908 (by decide +kernel) (by decide +kernel)
theorem tk_909 : (Jvm.Cond.methodLink "GridRouterLaw" (92 : Nat) ({ cls := "GridRouterModel", name := "rip", desc := "(I)V" } : Jvm.MethodName)) ∈ zq_T := zq_tm 909 (by decide +kernel) (by decide +kernel)
theorem tk_910 : (Jvm.Cond.instanceMethod ({ cls := "GridRouterModel", name := "rip", desc := "(I)V" } : Jvm.MethodName)) ∈ zq_T := zq_tm 910 (by decide +kernel) (by decide +kernel)
theorem tk_911 : (Jvm.Cond.selects "GridRouterModel" ({ cls := "GridRouterModel", name := "rip", desc := "(I)V" } : Jvm.MethodName) ({ cls := "GridRouterModel", name := "rip", desc := "(I)V" } : Jvm.MethodName)) ∈ zq_T := zq_tm 911 (by decide +kernel) (by decide +kernel)
theorem tk_912 : (Jvm.Cond.code ({ cls := "GridRouterModel", name := "rip", desc := "(I)V" } : Jvm.MethodName) prog_12_method_25_code (2 : Nat) (Option.none : Option Jvm.ClassFile.FieldType)) ∈ zq_T := zq_tm 912 (by decide +kernel) (by decide +kernel)
theorem tk_913 : (Jvm.Cond.methodLink "GridRouterLaw" (88 : Nat) ({ cls := "GridRouterModel", name := "all", desc := "(ZI)I" } : Jvm.MethodName)) ∈ zq_T := zq_tm 913 (by decide +kernel) (by decide +kernel)
theorem tk_914 : (Jvm.Cond.instanceMethod ({ cls := "GridRouterModel", name := "all", desc := "(ZI)I" } : Jvm.MethodName)) ∈ zq_T := zq_tm 914 (by decide +kernel) (by decide +kernel)
theorem tk_915 : (Jvm.Cond.selects "GridRouterModel" ({ cls := "GridRouterModel", name := "all", desc := "(ZI)I" } : Jvm.MethodName) ({ cls := "GridRouterModel", name := "all", desc := "(ZI)I" } : Jvm.MethodName)) ∈ zq_T := zq_tm 915 (by decide +kernel) (by decide +kernel)
theorem tk_916 : (Jvm.Cond.code ({ cls := "GridRouterModel", name := "all", desc := "(ZI)I" } : Jvm.MethodName) prog_12_method_30_code (6 : Nat) (Option.some Jvm.ClassFile.FieldType.int)) ∈ zq_T := zq_tm 916 (by decide +kernel) (by decide +kernel)
theorem tk_917 : (Jvm.Cond.methodLink "GridRouterModel" (139 : Nat) ({ cls := "GridRouterModel", name := "standAll", desc := "(Z)V" } : Jvm.MethodName)) ∈ zq_T := zq_tm 917 (by decide +kernel) (by decide +kernel)
theorem tk_919 : (Jvm.Cond.instanceMethod ({ cls := "GridRouterModel", name := "standAll", desc := "(Z)V" } : Jvm.MethodName)) ∈ zq_T := zq_tm 919 (by decide +kernel) (by decide +kernel)
theorem tk_920 : (Jvm.Cond.code ({ cls := "GridRouterModel", name := "standAll", desc := "(Z)V" } : Jvm.MethodName) prog_12_method_28_code (5 : Nat) (Option.none : Option Jvm.ClassFile.FieldType)) ∈ zq_T := zq_tm 920 (by decide +kernel) (by decide +kernel)
theorem tk_921 : (Jvm.Cond.methodLink "GridRouterModel" (136 : Nat) ({ cls := "GridRouterModel", name := "spread", desc := "(I)I" } : Jvm.MethodName)) ∈ zq_T := zq_tm 921 (by decide +kernel) (by decide +kernel)
theorem tk_923 : (Jvm.Cond.instanceMethod ({ cls := "GridRouterModel", name := "spread", desc := "(I)I" } : Jvm.MethodName)) ∈ zq_T := zq_tm 923 (by decide +kernel) (by decide +kernel)
theorem tk_924 : (Jvm.Cond.code ({ cls := "GridRouterModel", name := "spread", desc := "(I)I" } : Jvm.MethodName) prog_12_method_27_code (4 : Nat) (Option.some Jvm.ClassFile.FieldType.int)) ∈ zq_T := zq_tm 924 (by decide +kernel) (by decide +kernel)
theorem tk_925 : (Jvm.Cond.methodLink "GridRouterModel" (130 : Nat) ({ cls := "GridRouterModel", name := "apart", desc := "(II)I" } : Jvm.MethodName)) ∈ zq_T := zq_tm 925 (by decide +kernel) (by decide +kernel)
theorem tk_926 : (Jvm.Cond.static ({ cls := "GridRouterModel", name := "apart", desc := "(II)I" } : Jvm.MethodName)) ∈ zq_T := zq_tm 926 (by decide +kernel) (by decide +kernel)
theorem tk_927 : (Jvm.Cond.code ({ cls := "GridRouterModel", name := "apart", desc := "(II)I" } : Jvm.MethodName) prog_12_method_26_code (2 : Nat) (Option.some Jvm.ClassFile.FieldType.int)) ∈ zq_T := zq_tm 927 (by decide +kernel) (by decide +kernel)
theorem tk_928 : (Jvm.Cond.methodLink "GridRouterModel" (143 : Nat) ({ cls := "GridRouterModel", name := "stands", desc := "(I)Z" } : Jvm.MethodName)) ∈ zq_T := zq_tm 928 (by decide +kernel) (by decide +kernel)
theorem tk_930 : (Jvm.Cond.instanceMethod ({ cls := "GridRouterModel", name := "stands", desc := "(I)Z" } : Jvm.MethodName)) ∈ zq_T := zq_tm 930 (by decide +kernel) (by decide +kernel)
theorem tk_931 : (Jvm.Cond.code ({ cls := "GridRouterModel", name := "stands", desc := "(I)Z" } : Jvm.MethodName) prog_12_method_29_code (4 : Nat) (Option.some Jvm.ClassFile.FieldType.boolean)) ∈ zq_T := zq_tm 931 (by decide +kernel) (by decide +kernel)
theorem tk_932 : (Jvm.Cond.methodLink "GridRouterModel" (146 : Nat) ({ cls := "GridRouterModel", name := "isJoined", desc := "(I)Z" } : Jvm.MethodName)) ∈ zq_T := zq_tm 932 (by decide +kernel) (by decide +kernel)
theorem tk_934 : (Jvm.Cond.instanceMethod ({ cls := "GridRouterModel", name := "isJoined", desc := "(I)Z" } : Jvm.MethodName)) ∈ zq_T := zq_tm 934 (by decide +kernel) (by decide +kernel)
theorem tk_935 : (Jvm.Cond.code ({ cls := "GridRouterModel", name := "isJoined", desc := "(I)Z" } : Jvm.MethodName) prog_12_method_35_code (4 : Nat) (Option.some Jvm.ClassFile.FieldType.boolean)) ∈ zq_T := zq_tm 935 (by decide +kernel) (by decide +kernel)
theorem tk_936 : (Jvm.Cond.methodLink "GridRouterModel" (152 : Nat) ({ cls := "GridRouterModel", name := "touches", desc := "(I)Z" } : Jvm.MethodName)) ∈ zq_T := zq_tm 936 (by decide +kernel) (by decide +kernel)
theorem tk_938 : (Jvm.Cond.instanceMethod ({ cls := "GridRouterModel", name := "touches", desc := "(I)Z" } : Jvm.MethodName)) ∈ zq_T := zq_tm 938 (by decide +kernel) (by decide +kernel)
theorem tk_939 : (Jvm.Cond.code ({ cls := "GridRouterModel", name := "touches", desc := "(I)Z" } : Jvm.MethodName) prog_12_method_36_code (5 : Nat) (Option.some Jvm.ClassFile.FieldType.boolean)) ∈ zq_T := zq_tm 939 (by decide +kernel) (by decide +kernel)
theorem tk_940 : (Jvm.Cond.methodLink "GridRouterModel" (149 : Nat) ({ cls := "GridRouterModel", name := "countOpen", desc := "()I" } : Jvm.MethodName)) ∈ zq_T := zq_tm 940 (by decide +kernel) (by decide +kernel)
theorem tk_942 : (Jvm.Cond.instanceMethod ({ cls := "GridRouterModel", name := "countOpen", desc := "()I" } : Jvm.MethodName)) ∈ zq_T := zq_tm 942 (by decide +kernel) (by decide +kernel)
theorem tk_943 : (Jvm.Cond.code ({ cls := "GridRouterModel", name := "countOpen", desc := "()I" } : Jvm.MethodName) prog_12_method_37_code (3 : Nat) (Option.some Jvm.ClassFile.FieldType.int)) ∈ zq_T := zq_tm 943 (by decide +kernel) (by decide +kernel)
theorem tk_944 : (Jvm.Cond.methodLink "GridRouterLaw" (96 : Nat) ({ cls := "GridRouterModel", name := "paint", desc := "(IIII)V" } : Jvm.MethodName)) ∈ zq_T := zq_tm 944 (by decide +kernel) (by decide +kernel)
theorem tk_945 : (Jvm.Cond.instanceMethod ({ cls := "GridRouterModel", name := "paint", desc := "(IIII)V" } : Jvm.MethodName)) ∈ zq_T := zq_tm 945 (by decide +kernel) (by decide +kernel)
theorem tk_946 : (Jvm.Cond.selects "GridRouterModel" ({ cls := "GridRouterModel", name := "paint", desc := "(IIII)V" } : Jvm.MethodName) ({ cls := "GridRouterModel", name := "paint", desc := "(IIII)V" } : Jvm.MethodName)) ∈ zq_T := zq_tm 946 (by decide +kernel) (by decide +kernel)
theorem tk_947 : (Jvm.Cond.code ({ cls := "GridRouterModel", name := "paint", desc := "(IIII)V" } : Jvm.MethodName) prog_12_method_31_code (6 : Nat) (Option.none : Option Jvm.ClassFile.FieldType)) ∈ zq_T := zq_tm 947 (by decide +kernel) (by decide +kernel)
theorem tk_948 : (Jvm.Cond.methodLink "GridRouterLaw" (100 : Nat) ({ cls := "GridRouterModel", name := "stitch", desc := "(II)Z" } : Jvm.MethodName)) ∈ zq_T := zq_tm 948 (by decide +kernel) (by decide +kernel)
theorem tk_949 : (Jvm.Cond.instanceMethod ({ cls := "GridRouterModel", name := "stitch", desc := "(II)Z" } : Jvm.MethodName)) ∈ zq_T := zq_tm 949 (by decide +kernel) (by decide +kernel)
theorem tk_950 : (Jvm.Cond.selects "GridRouterModel" ({ cls := "GridRouterModel", name := "stitch", desc := "(II)Z" } : Jvm.MethodName) ({ cls := "GridRouterModel", name := "stitch", desc := "(II)Z" } : Jvm.MethodName)) ∈ zq_T := zq_tm 950 (by decide +kernel) (by decide +kernel)
theorem tk_951 : (Jvm.Cond.code ({ cls := "GridRouterModel", name := "stitch", desc := "(II)Z" } : Jvm.MethodName) prog_12_method_32_code (3 : Nat) (Option.some Jvm.ClassFile.FieldType.boolean)) ∈ zq_T := zq_tm 951 (by decide +kernel) (by decide +kernel)
theorem tk_952 : (Jvm.Cond.methodLink "GridRouterLaw" (103 : Nat) ({ cls := "GridRouterModel", name := "cell", desc := "(III)I" } : Jvm.MethodName)) ∈ zq_T := zq_tm 952 (by decide +kernel) (by decide +kernel)
theorem tk_953 : (Jvm.Cond.instanceMethod ({ cls := "GridRouterModel", name := "cell", desc := "(III)I" } : Jvm.MethodName)) ∈ zq_T := zq_tm 953 (by decide +kernel) (by decide +kernel)
theorem tk_954 : (Jvm.Cond.selects "GridRouterModel" ({ cls := "GridRouterModel", name := "cell", desc := "(III)I" } : Jvm.MethodName) ({ cls := "GridRouterModel", name := "cell", desc := "(III)I" } : Jvm.MethodName)) ∈ zq_T := zq_tm 954 (by decide +kernel) (by decide +kernel)
theorem tk_955 : (Jvm.Cond.code ({ cls := "GridRouterModel", name := "cell", desc := "(III)I" } : Jvm.MethodName) prog_12_method_33_code (5 : Nat) (Option.some Jvm.ClassFile.FieldType.int)) ∈ zq_T := zq_tm 955 (by decide +kernel) (by decide +kernel)
theorem tk_956 : (Jvm.Cond.methodLink "GridRouterLaw" (106 : Nat) ({ cls := "GridRouterModel", name := "via", desc := "(II)Z" } : Jvm.MethodName)) ∈ zq_T := zq_tm 956 (by decide +kernel) (by decide +kernel)
theorem tk_957 : (Jvm.Cond.instanceMethod ({ cls := "GridRouterModel", name := "via", desc := "(II)Z" } : Jvm.MethodName)) ∈ zq_T := zq_tm 957 (by decide +kernel) (by decide +kernel)
theorem tk_958 : (Jvm.Cond.selects "GridRouterModel" ({ cls := "GridRouterModel", name := "via", desc := "(II)Z" } : Jvm.MethodName) ({ cls := "GridRouterModel", name := "via", desc := "(II)Z" } : Jvm.MethodName)) ∈ zq_T := zq_tm 958 (by decide +kernel) (by decide +kernel)
theorem tk_959 : (Jvm.Cond.code ({ cls := "GridRouterModel", name := "via", desc := "(II)Z" } : Jvm.MethodName) prog_12_method_34_code (3 : Nat) (Option.some Jvm.ClassFile.FieldType.boolean)) ∈ zq_T := zq_tm 959 (by decide +kernel) (by decide +kernel)
theorem tk_960 : (Jvm.Cond.methodLink "GridRouterLaw" (109 : Nat) ({ cls := "GridRouterModel", name := "faults", desc := "(I)I" } : Jvm.MethodName)) ∈ zq_T := zq_tm 960 (by decide +kernel) (by decide +kernel)
theorem tk_961 : (Jvm.Cond.instanceMethod ({ cls := "GridRouterModel", name := "faults", desc := "(I)I" } : Jvm.MethodName)) ∈ zq_T := zq_tm 961 (by decide +kernel) (by decide +kernel)
theorem tk_962 : (Jvm.Cond.selects "GridRouterModel" ({ cls := "GridRouterModel", name := "faults", desc := "(I)I" } : Jvm.MethodName) ({ cls := "GridRouterModel", name := "faults", desc := "(I)I" } : Jvm.MethodName)) ∈ zq_T := zq_tm 962 (by decide +kernel) (by decide +kernel)
theorem tk_963 : (Jvm.Cond.code ({ cls := "GridRouterModel", name := "faults", desc := "(I)I" } : Jvm.MethodName) prog_12_method_39_code (6 : Nat) (Option.some Jvm.ClassFile.FieldType.int)) ∈ zq_T := zq_tm 963 (by decide +kernel) (by decide +kernel)
theorem tk_964 : (Jvm.Cond.methodLink "GridRouterModel" (155 : Nat) ({ cls := "GridRouterModel", name := "countNear", desc := "()I" } : Jvm.MethodName)) ∈ zq_T := zq_tm 964 (by decide +kernel) (by decide +kernel)
theorem tk_966 : (Jvm.Cond.instanceMethod ({ cls := "GridRouterModel", name := "countNear", desc := "()I" } : Jvm.MethodName)) ∈ zq_T := zq_tm 966 (by decide +kernel) (by decide +kernel)
theorem tk_967 : (Jvm.Cond.code ({ cls := "GridRouterModel", name := "countNear", desc := "()I" } : Jvm.MethodName) prog_12_method_38_code (5 : Nat) (Option.some Jvm.ClassFile.FieldType.int)) ∈ zq_T := zq_tm 967 (by decide +kernel) (by decide +kernel)
theorem tk_968 : (Jvm.Cond.methodLink "GridRouterLaw" (114 : Nat) ({ cls := "GridRouterModel", name := "shapes", desc := "()I" } : Jvm.MethodName)) ∈ zq_T := zq_tm 968 (by decide +kernel) (by decide +kernel)
theorem tk_969 : (Jvm.Cond.instanceMethod ({ cls := "GridRouterModel", name := "shapes", desc := "()I" } : Jvm.MethodName)) ∈ zq_T := zq_tm 969 (by decide +kernel) (by decide +kernel)
theorem tk_970 : (Jvm.Cond.selects "GridRouterModel" ({ cls := "GridRouterModel", name := "shapes", desc := "()I" } : Jvm.MethodName) ({ cls := "GridRouterModel", name := "shapes", desc := "()I" } : Jvm.MethodName)) ∈ zq_T := zq_tm 970 (by decide +kernel) (by decide +kernel)
theorem tk_971 : (Jvm.Cond.code ({ cls := "GridRouterModel", name := "shapes", desc := "()I" } : Jvm.MethodName) prog_12_method_41_code (3 : Nat) (Option.some Jvm.ClassFile.FieldType.int)) ∈ zq_T := zq_tm 971 (by decide +kernel) (by decide +kernel)
theorem tk_972 : (Jvm.Cond.methodLink "GridRouterModel" (158 : Nat) ({ cls := "GridRouterModel", name := "begins", desc := "(I)Z" } : Jvm.MethodName)) ∈ zq_T := zq_tm 972 (by decide +kernel) (by decide +kernel)
theorem tk_974 : (Jvm.Cond.instanceMethod ({ cls := "GridRouterModel", name := "begins", desc := "(I)Z" } : Jvm.MethodName)) ∈ zq_T := zq_tm 974 (by decide +kernel) (by decide +kernel)
theorem tk_975 : (Jvm.Cond.code ({ cls := "GridRouterModel", name := "begins", desc := "(I)Z" } : Jvm.MethodName) prog_12_method_40_code (2 : Nat) (Option.some Jvm.ClassFile.FieldType.boolean)) ∈ zq_T := zq_tm 975 (by decide +kernel) (by decide +kernel)
theorem tk_976 : (Jvm.Cond.methodLink "GridRouterLaw" (117 : Nat) ({ cls := "GridRouterModel", name := "shape", desc := "(II)I" } : Jvm.MethodName)) ∈ zq_T := zq_tm 976 (by decide +kernel) (by decide +kernel)
theorem tk_977 : (Jvm.Cond.instanceMethod ({ cls := "GridRouterModel", name := "shape", desc := "(II)I" } : Jvm.MethodName)) ∈ zq_T := zq_tm 977 (by decide +kernel) (by decide +kernel)
theorem tk_978 : (Jvm.Cond.selects "GridRouterModel" ({ cls := "GridRouterModel", name := "shape", desc := "(II)I" } : Jvm.MethodName) ({ cls := "GridRouterModel", name := "shape", desc := "(II)I" } : Jvm.MethodName)) ∈ zq_T := zq_tm 978 (by decide +kernel) (by decide +kernel)
theorem tk_979 : (Jvm.Cond.code ({ cls := "GridRouterModel", name := "shape", desc := "(II)I" } : Jvm.MethodName) prog_12_method_42_code (6 : Nat) (Option.some Jvm.ClassFile.FieldType.int)) ∈ zq_T := zq_tm 979 (by decide +kernel) (by decide +kernel)
theorem tk_980 : (Jvm.Cond.methodLink "GridRouterModel" (161 : Nat) ({ cls := "GridRouterModel", name := "fail", desc := "(I)I" } : Jvm.MethodName)) ∈ zq_T := zq_tm 980 (by decide +kernel) (by decide +kernel)
theorem tk_982 : (Jvm.Cond.instanceMethod ({ cls := "GridRouterModel", name := "fail", desc := "(I)I" } : Jvm.MethodName)) ∈ zq_T := zq_tm 982 (by decide +kernel) (by decide +kernel)
theorem tk_983 : (Jvm.Cond.code ({ cls := "GridRouterModel", name := "fail", desc := "(I)I" } : Jvm.MethodName) prog_12_method_3_code (2 : Nat) (Option.some Jvm.ClassFile.FieldType.int)) ∈ zq_T := zq_tm 983 (by decide +kernel) (by decide +kernel)
theorem ts_23 : Cond.selects "GridRouter$Checker" ({ cls := "GridRouter$Checker", name := "badVias", desc := "()I" } : Jvm.MethodName) ({ cls := "GridRouter$Checker", name := "badVias", desc := "()I" } : Jvm.MethodName) ∈ zq_T := zq_ts 23 (by decide +kernel) (by decide +kernel)
theorem ts_22 : Cond.selects "GridRouter$Checker" ({ cls := "GridRouter$Checker", name := "clash", desc := "(II)I" } : Jvm.MethodName) ({ cls := "GridRouter$Checker", name := "clash", desc := "(II)I" } : Jvm.MethodName) ∈ zq_T := zq_ts 22 (by decide +kernel) (by decide +kernel)
theorem ts_21 : Cond.selects "GridRouter$Checker" ({ cls := "GridRouter$Checker", name := "crowded", desc := "()I" } : Jvm.MethodName) ({ cls := "GridRouter$Checker", name := "crowded", desc := "()I" } : Jvm.MethodName) ∈ zq_T := zq_ts 21 (by decide +kernel) (by decide +kernel)
theorem ts_20 : Cond.selects "GridRouter$Checker" ({ cls := "GridRouter$Checker", name := "misplaced", desc := "()I" } : Jvm.MethodName) ({ cls := "GridRouter$Checker", name := "misplaced", desc := "()I" } : Jvm.MethodName) ∈ zq_T := zq_ts 20 (by decide +kernel) (by decide +kernel)
theorem ts_19 : Cond.selects "GridRouter$Checker" ({ cls := "GridRouter$Checker", name := "reachFrom", desc := "(II)V" } : Jvm.MethodName) ({ cls := "GridRouter$Checker", name := "reachFrom", desc := "(II)V" } : Jvm.MethodName) ∈ zq_T := zq_ts 19 (by decide +kernel) (by decide +kernel)
theorem ts_18 : Cond.selects "GridRouter$Checker" ({ cls := "GridRouter$Checker", name := "reach", desc := "(II)V" } : Jvm.MethodName) ({ cls := "GridRouter$Checker", name := "reach", desc := "(II)V" } : Jvm.MethodName) ∈ zq_T := zq_ts 18 (by decide +kernel) (by decide +kernel)
theorem ts_13 : Cond.selects "GridRouter$Router" ({ cls := "GridRouter$Router", name := "layWay", desc := "(I)V" } : Jvm.MethodName) ({ cls := "GridRouter$Router", name := "layWay", desc := "(I)V" } : Jvm.MethodName) ∈ zq_T := zq_ts 13 (by decide +kernel) (by decide +kernel)
theorem ts_17 : Cond.selects "GridRouter$Router" ({ cls := "GridRouter$Router", name := "lineUpPushedOut", desc := "()V" } : Jvm.MethodName) ({ cls := "GridRouter$Router", name := "lineUpPushedOut", desc := "()V" } : Jvm.MethodName) ∈ zq_T := zq_ts 17 (by decide +kernel) (by decide +kernel)
theorem ts_15 : Cond.selects "GridRouter$Router" ({ cls := "GridRouter$Router", name := "markHolder", desc := "(II)V" } : Jvm.MethodName) ({ cls := "GridRouter$Router", name := "markHolder", desc := "(II)V" } : Jvm.MethodName) ∈ zq_T := zq_ts 15 (by decide +kernel) (by decide +kernel)
theorem ts_14 : Cond.selects "GridRouter$Router" ({ cls := "GridRouter$Router", name := "markPushedOut", desc := "(I)V" } : Jvm.MethodName) ({ cls := "GridRouter$Router", name := "markPushedOut", desc := "(I)V" } : Jvm.MethodName) ∈ zq_T := zq_ts 14 (by decide +kernel) (by decide +kernel)
theorem ts_16 : Cond.selects "GridRouter$Router" ({ cls := "GridRouter$Router", name := "stripPushedOut", desc := "()V" } : Jvm.MethodName) ({ cls := "GridRouter$Router", name := "stripPushedOut", desc := "()V" } : Jvm.MethodName) ∈ zq_T := zq_ts 16 (by decide +kernel) (by decide +kernel)
theorem ts_3 : Cond.selects "GridRouter$Rules" ({ cls := "GridRouter$Rules", name := "isClose", desc := "([III)Z" } : Jvm.MethodName) ({ cls := "GridRouter$Rules", name := "isClose", desc := "([III)Z" } : Jvm.MethodName) ∈ zq_T := zq_ts 3 (by decide +kernel) (by decide +kernel)
theorem ts_1 : Cond.selects "GridRouter$Shapes" ({ cls := "GridRouter$Shapes", name := "isStart", desc := "(I)Z" } : Jvm.MethodName) ({ cls := "GridRouter$Shapes", name := "isStart", desc := "(I)Z" } : Jvm.MethodName) ∈ zq_T := zq_ts 1 (by decide +kernel) (by decide +kernel)
theorem ts_24 : Cond.selects "GridRouter$Shapes" ({ cls := "GridRouter$Shapes", name := "lastX", desc := "(I)I" } : Jvm.MethodName) ({ cls := "GridRouter$Shapes", name := "lastX", desc := "(I)I" } : Jvm.MethodName) ∈ zq_T := zq_ts 24 (by decide +kernel) (by decide +kernel)
theorem ts_8 : Cond.selects "GridRouter$WayFinder" ({ cls := "GridRouter$WayFinder", name := "dequeue", desc := "()I" } : Jvm.MethodName) ({ cls := "GridRouter$WayFinder", name := "dequeue", desc := "()I" } : Jvm.MethodName) ∈ zq_T := zq_ts 8 (by decide +kernel) (by decide +kernel)
theorem ts_7 : Cond.selects "GridRouter$WayFinder" ({ cls := "GridRouter$WayFinder", name := "enqueue", desc := "(I)V" } : Jvm.MethodName) ({ cls := "GridRouter$WayFinder", name := "enqueue", desc := "(I)V" } : Jvm.MethodName) ∈ zq_T := zq_ts 7 (by decide +kernel) (by decide +kernel)
theorem ts_5 : Cond.selects "GridRouter$WayFinder" ({ cls := "GridRouter$WayFinder", name := "freeToll", desc := "(II)I" } : Jvm.MethodName) ({ cls := "GridRouter$WayFinder", name := "freeToll", desc := "(II)I" } : Jvm.MethodName) ∈ zq_T := zq_ts 5 (by decide +kernel) (by decide +kernel)
theorem ts_12 : Cond.selects "GridRouter$WayFinder" ({ cls := "GridRouter$WayFinder", name := "predecessor", desc := "(I)I" } : Jvm.MethodName) ({ cls := "GridRouter$WayFinder", name := "predecessor", desc := "(I)I" } : Jvm.MethodName) ∈ zq_T := zq_ts 12 (by decide +kernel) (by decide +kernel)
theorem ts_4 : Cond.selects "GridRouter$WayFinder" ({ cls := "GridRouter$WayFinder", name := "pushToll", desc := "(II)I" } : Jvm.MethodName) ({ cls := "GridRouter$WayFinder", name := "pushToll", desc := "(II)I" } : Jvm.MethodName) ∈ zq_T := zq_ts 4 (by decide +kernel) (by decide +kernel)
theorem ts_9 : Cond.selects "GridRouter$WayFinder" ({ cls := "GridRouter$WayFinder", name := "spreadFrom", desc := "(I)V" } : Jvm.MethodName) ({ cls := "GridRouter$WayFinder", name := "spreadFrom", desc := "(I)V" } : Jvm.MethodName) ∈ zq_T := zq_ts 9 (by decide +kernel) (by decide +kernel)
theorem ts_6 : Cond.selects "GridRouter$WayFinder" ({ cls := "GridRouter$WayFinder", name := "spread", desc := "(I)V" } : Jvm.MethodName) ({ cls := "GridRouter$WayFinder", name := "spread", desc := "(I)V" } : Jvm.MethodName) ∈ zq_T := zq_ts 6 (by decide +kernel) (by decide +kernel)
theorem ts_10 : Cond.selects "GridRouter$WayFinder" ({ cls := "GridRouter$WayFinder", name := "stepCost", desc := "(I)I" } : Jvm.MethodName) ({ cls := "GridRouter$WayFinder", name := "stepCost", desc := "(I)I" } : Jvm.MethodName) ∈ zq_T := zq_ts 10 (by decide +kernel) (by decide +kernel)
theorem ts_11 : Cond.selects "GridRouter$WayFinder" ({ cls := "GridRouter$WayFinder", name := "trace", desc := "(II)V" } : Jvm.MethodName) ({ cls := "GridRouter$WayFinder", name := "trace", desc := "(II)V" } : Jvm.MethodName) ∈ zq_T := zq_ts 11 (by decide +kernel) (by decide +kernel)
theorem ts_25 : Cond.selects "GridRouterModel" ({ cls := "GridRouterModel", name := "at", desc := "(III)I" } : Jvm.MethodName) ({ cls := "GridRouterModel", name := "at", desc := "(III)I" } : Jvm.MethodName) ∈ zq_T := zq_ts 25 (by decide +kernel) (by decide +kernel)
theorem ts_38 : Cond.selects "GridRouterModel" ({ cls := "GridRouterModel", name := "before", desc := "(IIZ)I" } : Jvm.MethodName) ({ cls := "GridRouterModel", name := "before", desc := "(IIZ)I" } : Jvm.MethodName) ∈ zq_T := zq_ts 38 (by decide +kernel) (by decide +kernel)
theorem ts_48 : Cond.selects "GridRouterModel" ({ cls := "GridRouterModel", name := "begins", desc := "(I)Z" } : Jvm.MethodName) ({ cls := "GridRouterModel", name := "begins", desc := "(I)Z" } : Jvm.MethodName) ∈ zq_T := zq_ts 48 (by decide +kernel) (by decide +kernel)
theorem ts_31 : Cond.selects "GridRouterModel" ({ cls := "GridRouterModel", name := "clear", desc := "(I)V" } : Jvm.MethodName) ({ cls := "GridRouterModel", name := "clear", desc := "(I)V" } : Jvm.MethodName) ∈ zq_T := zq_ts 31 (by decide +kernel) (by decide +kernel)
theorem ts_47 : Cond.selects "GridRouterModel" ({ cls := "GridRouterModel", name := "countNear", desc := "()I" } : Jvm.MethodName) ({ cls := "GridRouterModel", name := "countNear", desc := "()I" } : Jvm.MethodName) ∈ zq_T := zq_ts 47 (by decide +kernel) (by decide +kernel)
theorem ts_46 : Cond.selects "GridRouterModel" ({ cls := "GridRouterModel", name := "countOpen", desc := "()I" } : Jvm.MethodName) ({ cls := "GridRouterModel", name := "countOpen", desc := "()I" } : Jvm.MethodName) ∈ zq_T := zq_ts 46 (by decide +kernel) (by decide +kernel)
theorem ts_49 : Cond.selects "GridRouterModel" ({ cls := "GridRouterModel", name := "fail", desc := "(I)I" } : Jvm.MethodName) ({ cls := "GridRouterModel", name := "fail", desc := "(I)I" } : Jvm.MethodName) ∈ zq_T := zq_ts 49 (by decide +kernel) (by decide +kernel)
theorem ts_30 : Cond.selects "GridRouterModel" ({ cls := "GridRouterModel", name := "find", desc := "(IZ)I" } : Jvm.MethodName) ({ cls := "GridRouterModel", name := "find", desc := "(IZ)I" } : Jvm.MethodName) ∈ zq_T := zq_ts 30 (by decide +kernel) (by decide +kernel)
theorem ts_27 : Cond.selects "GridRouterModel" ({ cls := "GridRouterModel", name := "isBarred", desc := "(II)Z" } : Jvm.MethodName) ({ cls := "GridRouterModel", name := "isBarred", desc := "(II)Z" } : Jvm.MethodName) ∈ zq_T := zq_ts 27 (by decide +kernel) (by decide +kernel)
theorem ts_44 : Cond.selects "GridRouterModel" ({ cls := "GridRouterModel", name := "isJoined", desc := "(I)Z" } : Jvm.MethodName) ({ cls := "GridRouterModel", name := "isJoined", desc := "(I)Z" } : Jvm.MethodName) ∈ zq_T := zq_ts 44 (by decide +kernel) (by decide +kernel)
theorem ts_29 : Cond.selects "GridRouterModel" ({ cls := "GridRouterModel", name := "isNet", desc := "(I)Z" } : Jvm.MethodName) ({ cls := "GridRouterModel", name := "isNet", desc := "(I)Z" } : Jvm.MethodName) ∈ zq_T := zq_ts 29 (by decide +kernel) (by decide +kernel)
theorem ts_26 : Cond.selects "GridRouterModel" ({ cls := "GridRouterModel", name := "isPlace", desc := "(II)Z" } : Jvm.MethodName) ({ cls := "GridRouterModel", name := "isPlace", desc := "(II)Z" } : Jvm.MethodName) ∈ zq_T := zq_ts 26 (by decide +kernel) (by decide +kernel)
theorem ts_36 : Cond.selects "GridRouterModel" ({ cls := "GridRouterModel", name := "isTaken", desc := "(II)Z" } : Jvm.MethodName) ({ cls := "GridRouterModel", name := "isTaken", desc := "(II)Z" } : Jvm.MethodName) ∈ zq_T := zq_ts 36 (by decide +kernel) (by decide +kernel)
theorem ts_37 : Cond.selects "GridRouterModel" ({ cls := "GridRouterModel", name := "lay", desc := "(IZ)V" } : Jvm.MethodName) ({ cls := "GridRouterModel", name := "lay", desc := "(IZ)V" } : Jvm.MethodName) ∈ zq_T := zq_ts 37 (by decide +kernel) (by decide +kernel)
theorem ts_40 : Cond.selects "GridRouterModel" ({ cls := "GridRouterModel", name := "leave", desc := "(II)V" } : Jvm.MethodName) ({ cls := "GridRouterModel", name := "leave", desc := "(II)V" } : Jvm.MethodName) ∈ zq_T := zq_ts 40 (by decide +kernel) (by decide +kernel)
theorem ts_32 : Cond.selects "GridRouterModel" ({ cls := "GridRouterModel", name := "many", desc := "()I" } : Jvm.MethodName) ({ cls := "GridRouterModel", name := "many", desc := "()I" } : Jvm.MethodName) ∈ zq_T := zq_ts 32 (by decide +kernel) (by decide +kernel)
theorem ts_33 : Cond.selects "GridRouterModel" ({ cls := "GridRouterModel", name := "placeOf", desc := "(I)I" } : Jvm.MethodName) ({ cls := "GridRouterModel", name := "placeOf", desc := "(I)I" } : Jvm.MethodName) ∈ zq_T := zq_ts 33 (by decide +kernel) (by decide +kernel)
theorem ts_39 : Cond.selects "GridRouterModel" ({ cls := "GridRouterModel", name := "pushOut", desc := "(II)V" } : Jvm.MethodName) ({ cls := "GridRouterModel", name := "pushOut", desc := "(II)V" } : Jvm.MethodName) ∈ zq_T := zq_ts 39 (by decide +kernel) (by decide +kernel)
theorem ts_28 : Cond.selects "GridRouterModel" ({ cls := "GridRouterModel", name := "side", desc := "(II)I" } : Jvm.MethodName) ({ cls := "GridRouterModel", name := "side", desc := "(II)I" } : Jvm.MethodName) ∈ zq_T := zq_ts 28 (by decide +kernel) (by decide +kernel)
theorem ts_42 : Cond.selects "GridRouterModel" ({ cls := "GridRouterModel", name := "spread", desc := "(I)I" } : Jvm.MethodName) ({ cls := "GridRouterModel", name := "spread", desc := "(I)I" } : Jvm.MethodName) ∈ zq_T := zq_ts 42 (by decide +kernel) (by decide +kernel)
theorem ts_41 : Cond.selects "GridRouterModel" ({ cls := "GridRouterModel", name := "standAll", desc := "(Z)V" } : Jvm.MethodName) ({ cls := "GridRouterModel", name := "standAll", desc := "(Z)V" } : Jvm.MethodName) ∈ zq_T := zq_ts 41 (by decide +kernel) (by decide +kernel)
theorem ts_43 : Cond.selects "GridRouterModel" ({ cls := "GridRouterModel", name := "stands", desc := "(I)Z" } : Jvm.MethodName) ({ cls := "GridRouterModel", name := "stands", desc := "(I)Z" } : Jvm.MethodName) ∈ zq_T := zq_ts 43 (by decide +kernel) (by decide +kernel)
theorem ts_35 : Cond.selects "GridRouterModel" ({ cls := "GridRouterModel", name := "toll", desc := "(IIZ)I" } : Jvm.MethodName) ({ cls := "GridRouterModel", name := "toll", desc := "(IIZ)I" } : Jvm.MethodName) ∈ zq_T := zq_ts 35 (by decide +kernel) (by decide +kernel)
theorem ts_45 : Cond.selects "GridRouterModel" ({ cls := "GridRouterModel", name := "touches", desc := "(I)Z" } : Jvm.MethodName) ({ cls := "GridRouterModel", name := "touches", desc := "(I)Z" } : Jvm.MethodName) ∈ zq_T := zq_ts 45 (by decide +kernel) (by decide +kernel)
theorem ts_34 : Cond.selects "GridRouterModel" ({ cls := "GridRouterModel", name := "weigh", desc := "(IZ)V" } : Jvm.MethodName) ({ cls := "GridRouterModel", name := "weigh", desc := "(IZ)V" } : Jvm.MethodName) ∈ zq_T := zq_ts 34 (by decide +kernel) (by decide +kernel)
theorem zi0 : ∀ t ∈ u_ws "GridRouter" zT0 7, t ∈ zq_T := by
  intro t ht
  have e : u_ws "GridRouter" zT0 7 = [u_lay "GridRouter" zT0 0, u_lay "GridRouter" zT0 1, u_lay "GridRouter" zT0 2, u_lay "GridRouter" zT0 3, u_lay "GridRouter" zT0 4, u_lay "GridRouter" zT0 5, u_lay "GridRouter" zT0 6] := rfl
  rw [e] at ht
  simp only [List.mem_cons, List.not_mem_nil, or_false] at ht
  rcases ht with rfl | rfl | rfl | rfl | rfl | rfl | rfl
  · exact tk_306
  · exact tk_308
  · exact tk_310
  · exact tk_312
  · exact tk_314
  · exact tk_316
  · exact tk_318
theorem zi1 : ∀ t ∈ u_ws "GridRouter$Grid" zT1 7, t ∈ zq_T := by
  intro t ht
  have e : u_ws "GridRouter$Grid" zT1 7 = [u_lay "GridRouter$Grid" zT1 0, u_lay "GridRouter$Grid" zT1 1, u_lay "GridRouter$Grid" zT1 2, u_lay "GridRouter$Grid" zT1 3, u_lay "GridRouter$Grid" zT1 4, u_lay "GridRouter$Grid" zT1 5, u_lay "GridRouter$Grid" zT1 6] := rfl
  rw [e] at ht
  simp only [List.mem_cons, List.not_mem_nil, or_false] at ht
  rcases ht with rfl | rfl | rfl | rfl | rfl | rfl | rfl
  · exact tk_60
  · exact tk_62
  · exact tk_64
  · exact tk_66
  · exact tk_68
  · exact tk_70
  · exact tk_72
theorem zi2 : ∀ t ∈ u_ws "GridRouter$Nets" zT2 5, t ∈ zq_T := by
  intro t ht
  have e : u_ws "GridRouter$Nets" zT2 5 = [u_lay "GridRouter$Nets" zT2 0, u_lay "GridRouter$Nets" zT2 1, u_lay "GridRouter$Nets" zT2 2, u_lay "GridRouter$Nets" zT2 3, u_lay "GridRouter$Nets" zT2 4] := rfl
  rw [e] at ht
  simp only [List.mem_cons, List.not_mem_nil, or_false] at ht
  rcases ht with rfl | rfl | rfl | rfl | rfl
  · exact tk_103
  · exact tk_105
  · exact tk_107
  · exact tk_109
  · exact tk_111
theorem zi3 : ∀ t ∈ u_ws "GridRouter$Layout" zT3 4, t ∈ zq_T := by
  intro t ht
  have e : u_ws "GridRouter$Layout" zT3 4 = [u_lay "GridRouter$Layout" zT3 0, u_lay "GridRouter$Layout" zT3 1, u_lay "GridRouter$Layout" zT3 2, u_lay "GridRouter$Layout" zT3 3] := rfl
  rw [e] at ht
  simp only [List.mem_cons, List.not_mem_nil, or_false] at ht
  rcases ht with rfl | rfl | rfl | rfl
  · exact tk_133
  · exact tk_135
  · exact tk_137
  · exact tk_139
theorem zi4 : ∀ t ∈ u_ws "GridRouter$Rules" zT4 5, t ∈ zq_T := by
  intro t ht
  have e : u_ws "GridRouter$Rules" zT4 5 = [u_lay "GridRouter$Rules" zT4 0, u_lay "GridRouter$Rules" zT4 1, u_lay "GridRouter$Rules" zT4 2, u_lay "GridRouter$Rules" zT4 3, u_lay "GridRouter$Rules" zT4 4] := rfl
  rw [e] at ht
  simp only [List.mem_cons, List.not_mem_nil, or_false] at ht
  rcases ht with rfl | rfl | rfl | rfl | rfl
  · exact tk_158
  · exact tk_160
  · exact tk_162
  · exact tk_164
  · exact tk_166
theorem zi5 : ∀ t ∈ u_ws "GridRouter$Checker" zT5 7, t ∈ zq_T := by
  intro t ht
  have e : u_ws "GridRouter$Checker" zT5 7 = [u_lay "GridRouter$Checker" zT5 0, u_lay "GridRouter$Checker" zT5 1, u_lay "GridRouter$Checker" zT5 2, u_lay "GridRouter$Checker" zT5 3, u_lay "GridRouter$Checker" zT5 4, u_lay "GridRouter$Checker" zT5 5, u_lay "GridRouter$Checker" zT5 6] := rfl
  rw [e] at ht
  simp only [List.mem_cons, List.not_mem_nil, or_false] at ht
  rcases ht with rfl | rfl | rfl | rfl | rfl | rfl | rfl
  · exact tk_182
  · exact tk_184
  · exact tk_186
  · exact tk_188
  · exact tk_190
  · exact tk_192
  · exact tk_194
theorem zi6 : ∀ t ∈ u_ws "GridRouter$Router" zT6 8, t ∈ zq_T := by
  intro t ht
  have e : u_ws "GridRouter$Router" zT6 8 = [u_lay "GridRouter$Router" zT6 0, u_lay "GridRouter$Router" zT6 1, u_lay "GridRouter$Router" zT6 2, u_lay "GridRouter$Router" zT6 3, u_lay "GridRouter$Router" zT6 4, u_lay "GridRouter$Router" zT6 5, u_lay "GridRouter$Router" zT6 6, u_lay "GridRouter$Router" zT6 7] := rfl
  rw [e] at ht
  simp only [List.mem_cons, List.not_mem_nil, or_false] at ht
  rcases ht with rfl | rfl | rfl | rfl | rfl | rfl | rfl | rfl
  · exact tk_269
  · exact tk_271
  · exact tk_273
  · exact tk_275
  · exact tk_277
  · exact tk_279
  · exact tk_281
  · exact tk_283
theorem zi7 : ∀ t ∈ u_ws "GridRouter$Line" zT7 2, t ∈ zq_T := by
  intro t ht
  have e : u_ws "GridRouter$Line" zT7 2 = [u_lay "GridRouter$Line" zT7 0, u_lay "GridRouter$Line" zT7 1] := rfl
  rw [e] at ht
  simp only [List.mem_cons, List.not_mem_nil, or_false] at ht
  rcases ht with rfl | rfl
  · exact tk_211
  · exact tk_213
theorem zi8 : ∀ t ∈ u_ws "GridRouter$WayFinder" zT8 12, t ∈ zq_T := by
  intro t ht
  have e : u_ws "GridRouter$WayFinder" zT8 12 = [u_lay "GridRouter$WayFinder" zT8 0, u_lay "GridRouter$WayFinder" zT8 1, u_lay "GridRouter$WayFinder" zT8 2, u_lay "GridRouter$WayFinder" zT8 3, u_lay "GridRouter$WayFinder" zT8 4, u_lay "GridRouter$WayFinder" zT8 5, u_lay "GridRouter$WayFinder" zT8 6, u_lay "GridRouter$WayFinder" zT8 7, u_lay "GridRouter$WayFinder" zT8 8, u_lay "GridRouter$WayFinder" zT8 9, u_lay "GridRouter$WayFinder" zT8 10, u_lay "GridRouter$WayFinder" zT8 11] := rfl
  rw [e] at ht
  simp only [List.mem_cons, List.not_mem_nil, or_false] at ht
  rcases ht with rfl | rfl | rfl | rfl | rfl | rfl | rfl | rfl | rfl | rfl | rfl | rfl
  · exact tk_236
  · exact tk_238
  · exact tk_240
  · exact tk_242
  · exact tk_244
  · exact tk_246
  · exact tk_248
  · exact tk_250
  · exact tk_252
  · exact tk_254
  · exact tk_256
  · exact tk_258
theorem zi9 : ∀ t ∈ u_ws "GridRouter$Shapes" zT9 2, t ∈ zq_T := by
  intro t ht
  have e : u_ws "GridRouter$Shapes" zT9 2 = [u_lay "GridRouter$Shapes" zT9 0, u_lay "GridRouter$Shapes" zT9 1] := rfl
  rw [e] at ht
  simp only [List.mem_cons, List.not_mem_nil, or_false] at ht
  rcases ht with rfl | rfl
  · exact tk_294
  · exact tk_296
theorem zi10 : ∀ t ∈ u_ws "GridRouterModel" zT10 19, t ∈ zq_T := by
  intro t ht
  have e : u_ws "GridRouterModel" zT10 19 = [u_lay "GridRouterModel" zT10 0, u_lay "GridRouterModel" zT10 1, u_lay "GridRouterModel" zT10 2, u_lay "GridRouterModel" zT10 3, u_lay "GridRouterModel" zT10 4, u_lay "GridRouterModel" zT10 5, u_lay "GridRouterModel" zT10 6, u_lay "GridRouterModel" zT10 7, u_lay "GridRouterModel" zT10 8, u_lay "GridRouterModel" zT10 9, u_lay "GridRouterModel" zT10 10, u_lay "GridRouterModel" zT10 11, u_lay "GridRouterModel" zT10 12, u_lay "GridRouterModel" zT10 13, u_lay "GridRouterModel" zT10 14, u_lay "GridRouterModel" zT10 15, u_lay "GridRouterModel" zT10 16, u_lay "GridRouterModel" zT10 17, u_lay "GridRouterModel" zT10 18] := rfl
  rw [e] at ht
  simp only [List.mem_cons, List.not_mem_nil, or_false] at ht
  rcases ht with rfl | rfl | rfl | rfl | rfl | rfl | rfl | rfl | rfl | rfl | rfl | rfl | rfl | rfl | rfl | rfl | rfl | rfl | rfl
  · exact tk_782
  · exact tk_784
  · exact tk_786
  · exact tk_788
  · exact tk_790
  · exact tk_792
  · exact tk_794
  · exact tk_796
  · exact tk_798
  · exact tk_800
  · exact tk_802
  · exact tk_804
  · exact tk_806
  · exact tk_808
  · exact tk_810
  · exact tk_812
  · exact tk_814
  · exact tk_816
  · exact tk_818
theorem zdd_Gr_block : zy_Gr_block.cls ≠ "java/lang/invoke/MethodHandle" ∧ zy_Gr_block.cls ≠ "java/lang/invoke/VarHandle" ∧ (parseMethodDescriptor zy_Gr_block.desc).map (fun d => d.parameters.length) = some 3 := by decide +kernel
theorem zdd_Gr_net : zy_Gr_net.cls ≠ "java/lang/invoke/MethodHandle" ∧ zy_Gr_net.cls ≠ "java/lang/invoke/VarHandle" ∧ (parseMethodDescriptor zy_Gr_net.desc).map (fun d => d.parameters.length) = some 6 := by decide +kernel
theorem zdd_Gr_route : zy_Gr_route.cls ≠ "java/lang/invoke/MethodHandle" ∧ zy_Gr_route.cls ≠ "java/lang/invoke/VarHandle" ∧ (parseMethodDescriptor zy_Gr_route.desc).map (fun d => d.parameters.length) = some 1 := by decide +kernel
theorem zdd_Gr_push : zy_Gr_push.cls ≠ "java/lang/invoke/MethodHandle" ∧ zy_Gr_push.cls ≠ "java/lang/invoke/VarHandle" ∧ (parseMethodDescriptor zy_Gr_push.desc).map (fun d => d.parameters.length) = some 1 := by decide +kernel
theorem zdd_Gr_all : zy_Gr_all.cls ≠ "java/lang/invoke/MethodHandle" ∧ zy_Gr_all.cls ≠ "java/lang/invoke/VarHandle" ∧ (parseMethodDescriptor zy_Gr_all.desc).map (fun d => d.parameters.length) = some 2 := by decide +kernel
theorem zdd_Gr_rip : zy_Gr_rip.cls ≠ "java/lang/invoke/MethodHandle" ∧ zy_Gr_rip.cls ≠ "java/lang/invoke/VarHandle" ∧ (parseMethodDescriptor zy_Gr_rip.desc).map (fun d => d.parameters.length) = some 1 := by decide +kernel
theorem zdd_Gr_paint : zy_Gr_paint.cls ≠ "java/lang/invoke/MethodHandle" ∧ zy_Gr_paint.cls ≠ "java/lang/invoke/VarHandle" ∧ (parseMethodDescriptor zy_Gr_paint.desc).map (fun d => d.parameters.length) = some 4 := by decide +kernel
theorem zdd_Gr_stitch : zy_Gr_stitch.cls ≠ "java/lang/invoke/MethodHandle" ∧ zy_Gr_stitch.cls ≠ "java/lang/invoke/VarHandle" ∧ (parseMethodDescriptor zy_Gr_stitch.desc).map (fun d => d.parameters.length) = some 2 := by decide +kernel
theorem zdd_Gr_cell : zy_Gr_cell.cls ≠ "java/lang/invoke/MethodHandle" ∧ zy_Gr_cell.cls ≠ "java/lang/invoke/VarHandle" ∧ (parseMethodDescriptor zy_Gr_cell.desc).map (fun d => d.parameters.length) = some 3 := by decide +kernel
theorem zdd_Gr_via : zy_Gr_via.cls ≠ "java/lang/invoke/MethodHandle" ∧ zy_Gr_via.cls ≠ "java/lang/invoke/VarHandle" ∧ (parseMethodDescriptor zy_Gr_via.desc).map (fun d => d.parameters.length) = some 2 := by decide +kernel
theorem zdd_Gr_faults : zy_Gr_faults.cls ≠ "java/lang/invoke/MethodHandle" ∧ zy_Gr_faults.cls ≠ "java/lang/invoke/VarHandle" ∧ (parseMethodDescriptor zy_Gr_faults.desc).map (fun d => d.parameters.length) = some 1 := by decide +kernel
theorem zdd_Gr_shapes : zy_Gr_shapes.cls ≠ "java/lang/invoke/MethodHandle" ∧ zy_Gr_shapes.cls ≠ "java/lang/invoke/VarHandle" ∧ (parseMethodDescriptor zy_Gr_shapes.desc).map (fun d => d.parameters.length) = some 0 := by decide +kernel
theorem zdd_Gr_shape : zy_Gr_shape.cls ≠ "java/lang/invoke/MethodHandle" ∧ zy_Gr_shape.cls ≠ "java/lang/invoke/VarHandle" ∧ (parseMethodDescriptor zy_Gr_shape.desc).map (fun d => d.parameters.length) = some 2 := by decide +kernel
theorem zdd_Mo_thrown : zy_Mo_thrown.cls ≠ "java/lang/invoke/MethodHandle" ∧ zy_Mo_thrown.cls ≠ "java/lang/invoke/VarHandle" ∧ (parseMethodDescriptor zy_Mo_thrown.desc).map (fun d => d.parameters.length) = some 0 := by decide +kernel
theorem zdd_Mo_fail : zy_Mo_fail.cls ≠ "java/lang/invoke/MethodHandle" ∧ zy_Mo_fail.cls ≠ "java/lang/invoke/VarHandle" ∧ (parseMethodDescriptor zy_Mo_fail.desc).map (fun d => d.parameters.length) = some 1 := by decide +kernel
theorem zdd_Mo_many : zy_Mo_many.cls ≠ "java/lang/invoke/MethodHandle" ∧ zy_Mo_many.cls ≠ "java/lang/invoke/VarHandle" ∧ (parseMethodDescriptor zy_Mo_many.desc).map (fun d => d.parameters.length) = some 0 := by decide +kernel
theorem zdd_Mo_isPlace : zy_Mo_isPlace.cls ≠ "java/lang/invoke/MethodHandle" ∧ zy_Mo_isPlace.cls ≠ "java/lang/invoke/VarHandle" ∧ (parseMethodDescriptor zy_Mo_isPlace.desc).map (fun d => d.parameters.length) = some 2 := by decide +kernel
theorem zdd_Mo_at : zy_Mo_at.cls ≠ "java/lang/invoke/MethodHandle" ∧ zy_Mo_at.cls ≠ "java/lang/invoke/VarHandle" ∧ (parseMethodDescriptor zy_Mo_at.desc).map (fun d => d.parameters.length) = some 3 := by decide +kernel
theorem zdd_Mo_side : zy_Mo_side.cls ≠ "java/lang/invoke/MethodHandle" ∧ zy_Mo_side.cls ≠ "java/lang/invoke/VarHandle" ∧ (parseMethodDescriptor zy_Mo_side.desc).map (fun d => d.parameters.length) = some 2 := by decide +kernel
theorem zdd_Mo_placeOf : zy_Mo_placeOf.cls ≠ "java/lang/invoke/MethodHandle" ∧ zy_Mo_placeOf.cls ≠ "java/lang/invoke/VarHandle" ∧ (parseMethodDescriptor zy_Mo_placeOf.desc).map (fun d => d.parameters.length) = some 1 := by decide +kernel
theorem zdd_Mo_isOther : zy_Mo_isOther.cls ≠ "java/lang/invoke/MethodHandle" ∧ zy_Mo_isOther.cls ≠ "java/lang/invoke/VarHandle" ∧ (parseMethodDescriptor zy_Mo_isOther.desc).map (fun d => d.parameters.length) = some 2 := by decide +kernel
theorem zdd_Mo_isBarred : zy_Mo_isBarred.cls ≠ "java/lang/invoke/MethodHandle" ∧ zy_Mo_isBarred.cls ≠ "java/lang/invoke/VarHandle" ∧ (parseMethodDescriptor zy_Mo_isBarred.desc).map (fun d => d.parameters.length) = some 2 := by decide +kernel
theorem zdd_Mo_isTaken : zy_Mo_isTaken.cls ≠ "java/lang/invoke/MethodHandle" ∧ zy_Mo_isTaken.cls ≠ "java/lang/invoke/VarHandle" ∧ (parseMethodDescriptor zy_Mo_isTaken.desc).map (fun d => d.parameters.length) = some 2 := by decide +kernel
theorem zdd_Mo_toll : zy_Mo_toll.cls ≠ "java/lang/invoke/MethodHandle" ∧ zy_Mo_toll.cls ≠ "java/lang/invoke/VarHandle" ∧ (parseMethodDescriptor zy_Mo_toll.desc).map (fun d => d.parameters.length) = some 3 := by decide +kernel
theorem zdd_Mo_block : zy_Mo_block.cls ≠ "java/lang/invoke/MethodHandle" ∧ zy_Mo_block.cls ≠ "java/lang/invoke/VarHandle" ∧ (parseMethodDescriptor zy_Mo_block.desc).map (fun d => d.parameters.length) = some 3 := by decide +kernel
theorem zdd_Mo_net : zy_Mo_net.cls ≠ "java/lang/invoke/MethodHandle" ∧ zy_Mo_net.cls ≠ "java/lang/invoke/VarHandle" ∧ (parseMethodDescriptor zy_Mo_net.desc).map (fun d => d.parameters.length) = some 6 := by decide +kernel
theorem zdd_Mo_isNet : zy_Mo_isNet.cls ≠ "java/lang/invoke/MethodHandle" ∧ zy_Mo_isNet.cls ≠ "java/lang/invoke/VarHandle" ∧ (parseMethodDescriptor zy_Mo_isNet.desc).map (fun d => d.parameters.length) = some 1 := by decide +kernel
theorem zdd_Mo_clear : zy_Mo_clear.cls ≠ "java/lang/invoke/MethodHandle" ∧ zy_Mo_clear.cls ≠ "java/lang/invoke/VarHandle" ∧ (parseMethodDescriptor zy_Mo_clear.desc).map (fun d => d.parameters.length) = some 1 := by decide +kernel
theorem zdd_Mo_weigh : zy_Mo_weigh.cls ≠ "java/lang/invoke/MethodHandle" ∧ zy_Mo_weigh.cls ≠ "java/lang/invoke/VarHandle" ∧ (parseMethodDescriptor zy_Mo_weigh.desc).map (fun d => d.parameters.length) = some 2 := by decide +kernel
theorem zdd_Mo_before : zy_Mo_before.cls ≠ "java/lang/invoke/MethodHandle" ∧ zy_Mo_before.cls ≠ "java/lang/invoke/VarHandle" ∧ (parseMethodDescriptor zy_Mo_before.desc).map (fun d => d.parameters.length) = some 3 := by decide +kernel
theorem zdd_Mo_lay : zy_Mo_lay.cls ≠ "java/lang/invoke/MethodHandle" ∧ zy_Mo_lay.cls ≠ "java/lang/invoke/VarHandle" ∧ (parseMethodDescriptor zy_Mo_lay.desc).map (fun d => d.parameters.length) = some 2 := by decide +kernel
theorem zdd_Mo_pushOut : zy_Mo_pushOut.cls ≠ "java/lang/invoke/MethodHandle" ∧ zy_Mo_pushOut.cls ≠ "java/lang/invoke/VarHandle" ∧ (parseMethodDescriptor zy_Mo_pushOut.desc).map (fun d => d.parameters.length) = some 2 := by decide +kernel
theorem zdd_Mo_leave : zy_Mo_leave.cls ≠ "java/lang/invoke/MethodHandle" ∧ zy_Mo_leave.cls ≠ "java/lang/invoke/VarHandle" ∧ (parseMethodDescriptor zy_Mo_leave.desc).map (fun d => d.parameters.length) = some 2 := by decide +kernel
theorem zdd_Mo_find : zy_Mo_find.cls ≠ "java/lang/invoke/MethodHandle" ∧ zy_Mo_find.cls ≠ "java/lang/invoke/VarHandle" ∧ (parseMethodDescriptor zy_Mo_find.desc).map (fun d => d.parameters.length) = some 2 := by decide +kernel
theorem zdd_Mo_route : zy_Mo_route.cls ≠ "java/lang/invoke/MethodHandle" ∧ zy_Mo_route.cls ≠ "java/lang/invoke/VarHandle" ∧ (parseMethodDescriptor zy_Mo_route.desc).map (fun d => d.parameters.length) = some 1 := by decide +kernel
theorem zdd_Mo_push : zy_Mo_push.cls ≠ "java/lang/invoke/MethodHandle" ∧ zy_Mo_push.cls ≠ "java/lang/invoke/VarHandle" ∧ (parseMethodDescriptor zy_Mo_push.desc).map (fun d => d.parameters.length) = some 1 := by decide +kernel
theorem zdd_Mo_rip : zy_Mo_rip.cls ≠ "java/lang/invoke/MethodHandle" ∧ zy_Mo_rip.cls ≠ "java/lang/invoke/VarHandle" ∧ (parseMethodDescriptor zy_Mo_rip.desc).map (fun d => d.parameters.length) = some 1 := by decide +kernel
theorem zdd_Mo_apart : zy_Mo_apart.cls ≠ "java/lang/invoke/MethodHandle" ∧ zy_Mo_apart.cls ≠ "java/lang/invoke/VarHandle" ∧ (parseMethodDescriptor zy_Mo_apart.desc).map (fun d => d.parameters.length) = some 2 := by decide +kernel
theorem zdd_Mo_spread : zy_Mo_spread.cls ≠ "java/lang/invoke/MethodHandle" ∧ zy_Mo_spread.cls ≠ "java/lang/invoke/VarHandle" ∧ (parseMethodDescriptor zy_Mo_spread.desc).map (fun d => d.parameters.length) = some 1 := by decide +kernel
theorem zdd_Mo_standAll : zy_Mo_standAll.cls ≠ "java/lang/invoke/MethodHandle" ∧ zy_Mo_standAll.cls ≠ "java/lang/invoke/VarHandle" ∧ (parseMethodDescriptor zy_Mo_standAll.desc).map (fun d => d.parameters.length) = some 1 := by decide +kernel
theorem zdd_Mo_stands : zy_Mo_stands.cls ≠ "java/lang/invoke/MethodHandle" ∧ zy_Mo_stands.cls ≠ "java/lang/invoke/VarHandle" ∧ (parseMethodDescriptor zy_Mo_stands.desc).map (fun d => d.parameters.length) = some 1 := by decide +kernel
theorem zdd_Mo_all : zy_Mo_all.cls ≠ "java/lang/invoke/MethodHandle" ∧ zy_Mo_all.cls ≠ "java/lang/invoke/VarHandle" ∧ (parseMethodDescriptor zy_Mo_all.desc).map (fun d => d.parameters.length) = some 2 := by decide +kernel
theorem zdd_Mo_paint : zy_Mo_paint.cls ≠ "java/lang/invoke/MethodHandle" ∧ zy_Mo_paint.cls ≠ "java/lang/invoke/VarHandle" ∧ (parseMethodDescriptor zy_Mo_paint.desc).map (fun d => d.parameters.length) = some 4 := by decide +kernel
theorem zdd_Mo_stitch : zy_Mo_stitch.cls ≠ "java/lang/invoke/MethodHandle" ∧ zy_Mo_stitch.cls ≠ "java/lang/invoke/VarHandle" ∧ (parseMethodDescriptor zy_Mo_stitch.desc).map (fun d => d.parameters.length) = some 2 := by decide +kernel
theorem zdd_Mo_cell : zy_Mo_cell.cls ≠ "java/lang/invoke/MethodHandle" ∧ zy_Mo_cell.cls ≠ "java/lang/invoke/VarHandle" ∧ (parseMethodDescriptor zy_Mo_cell.desc).map (fun d => d.parameters.length) = some 3 := by decide +kernel
theorem zdd_Mo_via : zy_Mo_via.cls ≠ "java/lang/invoke/MethodHandle" ∧ zy_Mo_via.cls ≠ "java/lang/invoke/VarHandle" ∧ (parseMethodDescriptor zy_Mo_via.desc).map (fun d => d.parameters.length) = some 2 := by decide +kernel
theorem zdd_Mo_isJoined : zy_Mo_isJoined.cls ≠ "java/lang/invoke/MethodHandle" ∧ zy_Mo_isJoined.cls ≠ "java/lang/invoke/VarHandle" ∧ (parseMethodDescriptor zy_Mo_isJoined.desc).map (fun d => d.parameters.length) = some 1 := by decide +kernel
theorem zdd_Mo_touches : zy_Mo_touches.cls ≠ "java/lang/invoke/MethodHandle" ∧ zy_Mo_touches.cls ≠ "java/lang/invoke/VarHandle" ∧ (parseMethodDescriptor zy_Mo_touches.desc).map (fun d => d.parameters.length) = some 1 := by decide +kernel
theorem zdd_Mo_countOpen : zy_Mo_countOpen.cls ≠ "java/lang/invoke/MethodHandle" ∧ zy_Mo_countOpen.cls ≠ "java/lang/invoke/VarHandle" ∧ (parseMethodDescriptor zy_Mo_countOpen.desc).map (fun d => d.parameters.length) = some 0 := by decide +kernel
theorem zdd_Mo_countNear : zy_Mo_countNear.cls ≠ "java/lang/invoke/MethodHandle" ∧ zy_Mo_countNear.cls ≠ "java/lang/invoke/VarHandle" ∧ (parseMethodDescriptor zy_Mo_countNear.desc).map (fun d => d.parameters.length) = some 0 := by decide +kernel
theorem zdd_Mo_faults : zy_Mo_faults.cls ≠ "java/lang/invoke/MethodHandle" ∧ zy_Mo_faults.cls ≠ "java/lang/invoke/VarHandle" ∧ (parseMethodDescriptor zy_Mo_faults.desc).map (fun d => d.parameters.length) = some 1 := by decide +kernel
theorem zdd_Mo_begins : zy_Mo_begins.cls ≠ "java/lang/invoke/MethodHandle" ∧ zy_Mo_begins.cls ≠ "java/lang/invoke/VarHandle" ∧ (parseMethodDescriptor zy_Mo_begins.desc).map (fun d => d.parameters.length) = some 1 := by decide +kernel
theorem zdd_Mo_shapes : zy_Mo_shapes.cls ≠ "java/lang/invoke/MethodHandle" ∧ zy_Mo_shapes.cls ≠ "java/lang/invoke/VarHandle" ∧ (parseMethodDescriptor zy_Mo_shapes.desc).map (fun d => d.parameters.length) = some 0 := by decide +kernel
theorem zdd_Mo_shape : zy_Mo_shape.cls ≠ "java/lang/invoke/MethodHandle" ∧ zy_Mo_shape.cls ≠ "java/lang/invoke/VarHandle" ∧ (parseMethodDescriptor zy_Mo_shape.desc).map (fun d => d.parameters.length) = some 2 := by decide +kernel
theorem zdd_Checker_count : zy_Checker_count.cls ≠ "java/lang/invoke/MethodHandle" ∧ zy_Checker_count.cls ≠ "java/lang/invoke/VarHandle" ∧ (parseMethodDescriptor zy_Checker_count.desc).map (fun d => d.parameters.length) = some 1 := by decide +kernel
theorem zdd_Checker_misplaced : zy_Checker_misplaced.cls ≠ "java/lang/invoke/MethodHandle" ∧ zy_Checker_misplaced.cls ≠ "java/lang/invoke/VarHandle" ∧ (parseMethodDescriptor zy_Checker_misplaced.desc).map (fun d => d.parameters.length) = some 0 := by decide +kernel
theorem zdd_Checker_crowded : zy_Checker_crowded.cls ≠ "java/lang/invoke/MethodHandle" ∧ zy_Checker_crowded.cls ≠ "java/lang/invoke/VarHandle" ∧ (parseMethodDescriptor zy_Checker_crowded.desc).map (fun d => d.parameters.length) = some 0 := by decide +kernel
theorem zdd_Checker_clash : zy_Checker_clash.cls ≠ "java/lang/invoke/MethodHandle" ∧ zy_Checker_clash.cls ≠ "java/lang/invoke/VarHandle" ∧ (parseMethodDescriptor zy_Checker_clash.desc).map (fun d => d.parameters.length) = some 2 := by decide +kernel
theorem zdd_Checker_badVias : zy_Checker_badVias.cls ≠ "java/lang/invoke/MethodHandle" ∧ zy_Checker_badVias.cls ≠ "java/lang/invoke/VarHandle" ∧ (parseMethodDescriptor zy_Checker_badVias.desc).map (fun d => d.parameters.length) = some 0 := by decide +kernel
theorem zdd_Checker_loose : zy_Checker_loose.cls ≠ "java/lang/invoke/MethodHandle" ∧ zy_Checker_loose.cls ≠ "java/lang/invoke/VarHandle" ∧ (parseMethodDescriptor zy_Checker_loose.desc).map (fun d => d.parameters.length) = some 0 := by decide +kernel
theorem zdd_Checker_isJoined : zy_Checker_isJoined.cls ≠ "java/lang/invoke/MethodHandle" ∧ zy_Checker_isJoined.cls ≠ "java/lang/invoke/VarHandle" ∧ (parseMethodDescriptor zy_Checker_isJoined.desc).map (fun d => d.parameters.length) = some 1 := by decide +kernel
theorem zdd_Checker_reachFrom : zy_Checker_reachFrom.cls ≠ "java/lang/invoke/MethodHandle" ∧ zy_Checker_reachFrom.cls ≠ "java/lang/invoke/VarHandle" ∧ (parseMethodDescriptor zy_Checker_reachFrom.desc).map (fun d => d.parameters.length) = some 2 := by decide +kernel
theorem zdd_Checker_reach : zy_Checker_reach.cls ≠ "java/lang/invoke/MethodHandle" ∧ zy_Checker_reach.cls ≠ "java/lang/invoke/VarHandle" ∧ (parseMethodDescriptor zy_Checker_reach.desc).map (fun d => d.parameters.length) = some 2 := by decide +kernel
theorem zdd_Grid_link : zy_Grid_link.cls ≠ "java/lang/invoke/MethodHandle" ∧ zy_Grid_link.cls ≠ "java/lang/invoke/VarHandle" ∧ (parseMethodDescriptor zy_Grid_link.desc).map (fun d => d.parameters.length) = some 3 := by decide +kernel
theorem zdd_Grid_hasPlace : zy_Grid_hasPlace.cls ≠ "java/lang/invoke/MethodHandle" ∧ zy_Grid_hasPlace.cls ≠ "java/lang/invoke/VarHandle" ∧ (parseMethodDescriptor zy_Grid_hasPlace.desc).map (fun d => d.parameters.length) = some 2 := by decide +kernel
theorem zdd_Grid_hasCell : zy_Grid_hasCell.cls ≠ "java/lang/invoke/MethodHandle" ∧ zy_Grid_hasCell.cls ≠ "java/lang/invoke/VarHandle" ∧ (parseMethodDescriptor zy_Grid_hasCell.desc).map (fun d => d.parameters.length) = some 3 := by decide +kernel
theorem zdd_Grid_cellAt : zy_Grid_cellAt.cls ≠ "java/lang/invoke/MethodHandle" ∧ zy_Grid_cellAt.cls ≠ "java/lang/invoke/VarHandle" ∧ (parseMethodDescriptor zy_Grid_cellAt.desc).map (fun d => d.parameters.length) = some 3 := by decide +kernel
theorem zdd_Grid_layerOf : zy_Grid_layerOf.cls ≠ "java/lang/invoke/MethodHandle" ∧ zy_Grid_layerOf.cls ≠ "java/lang/invoke/VarHandle" ∧ (parseMethodDescriptor zy_Grid_layerOf.desc).map (fun d => d.parameters.length) = some 1 := by decide +kernel
theorem zdd_Grid_placeOf : zy_Grid_placeOf.cls ≠ "java/lang/invoke/MethodHandle" ∧ zy_Grid_placeOf.cls ≠ "java/lang/invoke/VarHandle" ∧ (parseMethodDescriptor zy_Grid_placeOf.desc).map (fun d => d.parameters.length) = some 1 := by decide +kernel
theorem zdd_Grid_next : zy_Grid_next.cls ≠ "java/lang/invoke/MethodHandle" ∧ zy_Grid_next.cls ≠ "java/lang/invoke/VarHandle" ∧ (parseMethodDescriptor zy_Grid_next.desc).map (fun d => d.parameters.length) = some 2 := by decide +kernel
theorem zdd_Layout_strip : zy_Layout_strip.cls ≠ "java/lang/invoke/MethodHandle" ∧ zy_Layout_strip.cls ≠ "java/lang/invoke/VarHandle" ∧ (parseMethodDescriptor zy_Layout_strip.desc).map (fun d => d.parameters.length) = some 1 := by decide +kernel
theorem zdd_Layout_clear : zy_Layout_clear.cls ≠ "java/lang/invoke/MethodHandle" ∧ zy_Layout_clear.cls ≠ "java/lang/invoke/VarHandle" ∧ (parseMethodDescriptor zy_Layout_clear.desc).map (fun d => d.parameters.length) = some 1 := by decide +kernel
theorem zdd_Layout_restorePins : zy_Layout_restorePins.cls ≠ "java/lang/invoke/MethodHandle" ∧ zy_Layout_restorePins.cls ≠ "java/lang/invoke/VarHandle" ∧ (parseMethodDescriptor zy_Layout_restorePins.desc).map (fun d => d.parameters.length) = some 1 := by decide +kernel
theorem zdd_Line_isEmpty : zy_Line_isEmpty.cls ≠ "java/lang/invoke/MethodHandle" ∧ zy_Line_isEmpty.cls ≠ "java/lang/invoke/VarHandle" ∧ (parseMethodDescriptor zy_Line_isEmpty.desc).map (fun d => d.parameters.length) = some 0 := by decide +kernel
theorem zdd_Line_join : zy_Line_join.cls ≠ "java/lang/invoke/MethodHandle" ∧ zy_Line_join.cls ≠ "java/lang/invoke/VarHandle" ∧ (parseMethodDescriptor zy_Line_join.desc).map (fun d => d.parameters.length) = some 1 := by decide +kernel
theorem zdd_Line_leave : zy_Line_leave.cls ≠ "java/lang/invoke/MethodHandle" ∧ zy_Line_leave.cls ≠ "java/lang/invoke/VarHandle" ∧ (parseMethodDescriptor zy_Line_leave.desc).map (fun d => d.parameters.length) = some 0 := by decide +kernel
theorem zdd_Line_sortBySpan : zy_Line_sortBySpan.cls ≠ "java/lang/invoke/MethodHandle" ∧ zy_Line_sortBySpan.cls ≠ "java/lang/invoke/VarHandle" ∧ (parseMethodDescriptor zy_Line_sortBySpan.desc).map (fun d => d.parameters.length) = some 1 := by decide +kernel
theorem zdd_Nets_has : zy_Nets_has.cls ≠ "java/lang/invoke/MethodHandle" ∧ zy_Nets_has.cls ≠ "java/lang/invoke/VarHandle" ∧ (parseMethodDescriptor zy_Nets_has.desc).map (fun d => d.parameters.length) = some 1 := by decide +kernel
theorem zdd_Nets_add : zy_Nets_add.cls ≠ "java/lang/invoke/MethodHandle" ∧ zy_Nets_add.cls ≠ "java/lang/invoke/VarHandle" ∧ (parseMethodDescriptor zy_Nets_add.desc).map (fun d => d.parameters.length) = some 2 := by decide +kernel
theorem zdd_Nets_span : zy_Nets_span.cls ≠ "java/lang/invoke/MethodHandle" ∧ zy_Nets_span.cls ≠ "java/lang/invoke/VarHandle" ∧ (parseMethodDescriptor zy_Nets_span.desc).map (fun d => d.parameters.length) = some 1 := by decide +kernel
theorem zdd_Router_lay : zy_Router_lay.cls ≠ "java/lang/invoke/MethodHandle" ∧ zy_Router_lay.cls ≠ "java/lang/invoke/VarHandle" ∧ (parseMethodDescriptor zy_Router_lay.desc).map (fun d => d.parameters.length) = some 1 := by decide +kernel
theorem zdd_Router_shove : zy_Router_shove.cls ≠ "java/lang/invoke/MethodHandle" ∧ zy_Router_shove.cls ≠ "java/lang/invoke/VarHandle" ∧ (parseMethodDescriptor zy_Router_shove.desc).map (fun d => d.parameters.length) = some 1 := by decide +kernel
theorem zdd_Router_layWay : zy_Router_layWay.cls ≠ "java/lang/invoke/MethodHandle" ∧ zy_Router_layWay.cls ≠ "java/lang/invoke/VarHandle" ∧ (parseMethodDescriptor zy_Router_layWay.desc).map (fun d => d.parameters.length) = some 1 := by decide +kernel
theorem zdd_Router_markPushedOut : zy_Router_markPushedOut.cls ≠ "java/lang/invoke/MethodHandle" ∧ zy_Router_markPushedOut.cls ≠ "java/lang/invoke/VarHandle" ∧ (parseMethodDescriptor zy_Router_markPushedOut.desc).map (fun d => d.parameters.length) = some 1 := by decide +kernel
theorem zdd_Router_markHolder : zy_Router_markHolder.cls ≠ "java/lang/invoke/MethodHandle" ∧ zy_Router_markHolder.cls ≠ "java/lang/invoke/VarHandle" ∧ (parseMethodDescriptor zy_Router_markHolder.desc).map (fun d => d.parameters.length) = some 2 := by decide +kernel
theorem zdd_Router_stripPushedOut : zy_Router_stripPushedOut.cls ≠ "java/lang/invoke/MethodHandle" ∧ zy_Router_stripPushedOut.cls ≠ "java/lang/invoke/VarHandle" ∧ (parseMethodDescriptor zy_Router_stripPushedOut.desc).map (fun d => d.parameters.length) = some 0 := by decide +kernel
theorem zdd_Router_lineUp : zy_Router_lineUp.cls ≠ "java/lang/invoke/MethodHandle" ∧ zy_Router_lineUp.cls ≠ "java/lang/invoke/VarHandle" ∧ (parseMethodDescriptor zy_Router_lineUp.desc).map (fun d => d.parameters.length) = some 1 := by decide +kernel
theorem zdd_Router_serveLine : zy_Router_serveLine.cls ≠ "java/lang/invoke/MethodHandle" ∧ zy_Router_serveLine.cls ≠ "java/lang/invoke/VarHandle" ∧ (parseMethodDescriptor zy_Router_serveLine.desc).map (fun d => d.parameters.length) = some 1 := by decide +kernel
theorem zdd_Router_lineUpPushedOut : zy_Router_lineUpPushedOut.cls ≠ "java/lang/invoke/MethodHandle" ∧ zy_Router_lineUpPushedOut.cls ≠ "java/lang/invoke/VarHandle" ∧ (parseMethodDescriptor zy_Router_lineUpPushedOut.desc).map (fun d => d.parameters.length) = some 0 := by decide +kernel
theorem zdd_Router_retryLoose : zy_Router_retryLoose.cls ≠ "java/lang/invoke/MethodHandle" ∧ zy_Router_retryLoose.cls ≠ "java/lang/invoke/VarHandle" ∧ (parseMethodDescriptor zy_Router_retryLoose.desc).map (fun d => d.parameters.length) = some 0 := by decide +kernel
theorem zdd_Rules_isBarred : zy_Rules_isBarred.cls ≠ "java/lang/invoke/MethodHandle" ∧ zy_Rules_isBarred.cls ≠ "java/lang/invoke/VarHandle" ∧ (parseMethodDescriptor zy_Rules_isBarred.desc).map (fun d => d.parameters.length) = some 2 := by decide +kernel
theorem zdd_Rules_isTaken : zy_Rules_isTaken.cls ≠ "java/lang/invoke/MethodHandle" ∧ zy_Rules_isTaken.cls ≠ "java/lang/invoke/VarHandle" ∧ (parseMethodDescriptor zy_Rules_isTaken.desc).map (fun d => d.parameters.length) = some 2 := by decide +kernel
theorem zdd_Rules_isClose : zy_Rules_isClose.cls ≠ "java/lang/invoke/MethodHandle" ∧ zy_Rules_isClose.cls ≠ "java/lang/invoke/VarHandle" ∧ (parseMethodDescriptor zy_Rules_isClose.desc).map (fun d => d.parameters.length) = some 3 := by decide +kernel
theorem zdd_Shapes_count : zy_Shapes_count.cls ≠ "java/lang/invoke/MethodHandle" ∧ zy_Shapes_count.cls ≠ "java/lang/invoke/VarHandle" ∧ (parseMethodDescriptor zy_Shapes_count.desc).map (fun d => d.parameters.length) = some 0 := by decide +kernel
theorem zdd_Shapes_startOf : zy_Shapes_startOf.cls ≠ "java/lang/invoke/MethodHandle" ∧ zy_Shapes_startOf.cls ≠ "java/lang/invoke/VarHandle" ∧ (parseMethodDescriptor zy_Shapes_startOf.desc).map (fun d => d.parameters.length) = some 1 := by decide +kernel
theorem zdd_Shapes_tell : zy_Shapes_tell.cls ≠ "java/lang/invoke/MethodHandle" ∧ zy_Shapes_tell.cls ≠ "java/lang/invoke/VarHandle" ∧ (parseMethodDescriptor zy_Shapes_tell.desc).map (fun d => d.parameters.length) = some 2 := by decide +kernel
theorem zdd_Shapes_isStart : zy_Shapes_isStart.cls ≠ "java/lang/invoke/MethodHandle" ∧ zy_Shapes_isStart.cls ≠ "java/lang/invoke/VarHandle" ∧ (parseMethodDescriptor zy_Shapes_isStart.desc).map (fun d => d.parameters.length) = some 1 := by decide +kernel
theorem zdd_Shapes_lastX : zy_Shapes_lastX.cls ≠ "java/lang/invoke/MethodHandle" ∧ zy_Shapes_lastX.cls ≠ "java/lang/invoke/VarHandle" ∧ (parseMethodDescriptor zy_Shapes_lastX.desc).map (fun d => d.parameters.length) = some 1 := by decide +kernel
theorem zdd_WayFinder_find : zy_WayFinder_find.cls ≠ "java/lang/invoke/MethodHandle" ∧ zy_WayFinder_find.cls ≠ "java/lang/invoke/VarHandle" ∧ (parseMethodDescriptor zy_WayFinder_find.desc).map (fun d => d.parameters.length) = some 2 := by decide +kernel
theorem zdd_WayFinder_freeToll : zy_WayFinder_freeToll.cls ≠ "java/lang/invoke/MethodHandle" ∧ zy_WayFinder_freeToll.cls ≠ "java/lang/invoke/VarHandle" ∧ (parseMethodDescriptor zy_WayFinder_freeToll.desc).map (fun d => d.parameters.length) = some 2 := by decide +kernel
theorem zdd_WayFinder_pushToll : zy_WayFinder_pushToll.cls ≠ "java/lang/invoke/MethodHandle" ∧ zy_WayFinder_pushToll.cls ≠ "java/lang/invoke/VarHandle" ∧ (parseMethodDescriptor zy_WayFinder_pushToll.desc).map (fun d => d.parameters.length) = some 2 := by decide +kernel
theorem zdd_WayFinder_spread : zy_WayFinder_spread.cls ≠ "java/lang/invoke/MethodHandle" ∧ zy_WayFinder_spread.cls ≠ "java/lang/invoke/VarHandle" ∧ (parseMethodDescriptor zy_WayFinder_spread.desc).map (fun d => d.parameters.length) = some 1 := by decide +kernel
theorem zdd_WayFinder_spreadFrom : zy_WayFinder_spreadFrom.cls ≠ "java/lang/invoke/MethodHandle" ∧ zy_WayFinder_spreadFrom.cls ≠ "java/lang/invoke/VarHandle" ∧ (parseMethodDescriptor zy_WayFinder_spreadFrom.desc).map (fun d => d.parameters.length) = some 1 := by decide +kernel
theorem zdd_WayFinder_stepCost : zy_WayFinder_stepCost.cls ≠ "java/lang/invoke/MethodHandle" ∧ zy_WayFinder_stepCost.cls ≠ "java/lang/invoke/VarHandle" ∧ (parseMethodDescriptor zy_WayFinder_stepCost.desc).map (fun d => d.parameters.length) = some 1 := by decide +kernel
theorem zdd_WayFinder_enqueue : zy_WayFinder_enqueue.cls ≠ "java/lang/invoke/MethodHandle" ∧ zy_WayFinder_enqueue.cls ≠ "java/lang/invoke/VarHandle" ∧ (parseMethodDescriptor zy_WayFinder_enqueue.desc).map (fun d => d.parameters.length) = some 1 := by decide +kernel
theorem zdd_WayFinder_dequeue : zy_WayFinder_dequeue.cls ≠ "java/lang/invoke/MethodHandle" ∧ zy_WayFinder_dequeue.cls ≠ "java/lang/invoke/VarHandle" ∧ (parseMethodDescriptor zy_WayFinder_dequeue.desc).map (fun d => d.parameters.length) = some 0 := by decide +kernel
theorem zdd_WayFinder_trace : zy_WayFinder_trace.cls ≠ "java/lang/invoke/MethodHandle" ∧ zy_WayFinder_trace.cls ≠ "java/lang/invoke/VarHandle" ∧ (parseMethodDescriptor zy_WayFinder_trace.desc).map (fun d => d.parameters.length) = some 2 := by decide +kernel
theorem zdd_WayFinder_predecessor : zy_WayFinder_predecessor.cls ≠ "java/lang/invoke/MethodHandle" ∧ zy_WayFinder_predecessor.cls ≠ "java/lang/invoke/VarHandle" ∧ (parseMethodDescriptor zy_WayFinder_predecessor.desc).map (fun d => d.parameters.length) = some 1 := by decide +kernel
theorem zdd_La_h_block : zy_La_h_block.cls ≠ "java/lang/invoke/MethodHandle" ∧ zy_La_h_block.cls ≠ "java/lang/invoke/VarHandle" ∧ (parseMethodDescriptor zy_La_h_block.desc).map (fun d => d.parameters.length) = some 5 := by decide +kernel
theorem zdd_La_h_net : zy_La_h_net.cls ≠ "java/lang/invoke/MethodHandle" ∧ zy_La_h_net.cls ≠ "java/lang/invoke/VarHandle" ∧ (parseMethodDescriptor zy_La_h_net.desc).map (fun d => d.parameters.length) = some 8 := by decide +kernel
theorem zdd_La_h_route : zy_La_h_route.cls ≠ "java/lang/invoke/MethodHandle" ∧ zy_La_h_route.cls ≠ "java/lang/invoke/VarHandle" ∧ (parseMethodDescriptor zy_La_h_route.desc).map (fun d => d.parameters.length) = some 3 := by decide +kernel
theorem zdd_La_h_push : zy_La_h_push.cls ≠ "java/lang/invoke/MethodHandle" ∧ zy_La_h_push.cls ≠ "java/lang/invoke/VarHandle" ∧ (parseMethodDescriptor zy_La_h_push.desc).map (fun d => d.parameters.length) = some 3 := by decide +kernel
theorem zdd_La_h_all : zy_La_h_all.cls ≠ "java/lang/invoke/MethodHandle" ∧ zy_La_h_all.cls ≠ "java/lang/invoke/VarHandle" ∧ (parseMethodDescriptor zy_La_h_all.desc).map (fun d => d.parameters.length) = some 4 := by decide +kernel
theorem zdd_La_h_rip : zy_La_h_rip.cls ≠ "java/lang/invoke/MethodHandle" ∧ zy_La_h_rip.cls ≠ "java/lang/invoke/VarHandle" ∧ (parseMethodDescriptor zy_La_h_rip.desc).map (fun d => d.parameters.length) = some 2 := by decide +kernel
theorem zdd_La_h_paint : zy_La_h_paint.cls ≠ "java/lang/invoke/MethodHandle" ∧ zy_La_h_paint.cls ≠ "java/lang/invoke/VarHandle" ∧ (parseMethodDescriptor zy_La_h_paint.desc).map (fun d => d.parameters.length) = some 5 := by decide +kernel
theorem zdd_La_h_stitch : zy_La_h_stitch.cls ≠ "java/lang/invoke/MethodHandle" ∧ zy_La_h_stitch.cls ≠ "java/lang/invoke/VarHandle" ∧ (parseMethodDescriptor zy_La_h_stitch.desc).map (fun d => d.parameters.length) = some 4 := by decide +kernel
theorem zdd_La_h_cell : zy_La_h_cell.cls ≠ "java/lang/invoke/MethodHandle" ∧ zy_La_h_cell.cls ≠ "java/lang/invoke/VarHandle" ∧ (parseMethodDescriptor zy_La_h_cell.desc).map (fun d => d.parameters.length) = some 5 := by decide +kernel
theorem zdd_La_h_via : zy_La_h_via.cls ≠ "java/lang/invoke/MethodHandle" ∧ zy_La_h_via.cls ≠ "java/lang/invoke/VarHandle" ∧ (parseMethodDescriptor zy_La_h_via.desc).map (fun d => d.parameters.length) = some 4 := by decide +kernel
theorem zdd_La_h_faults : zy_La_h_faults.cls ≠ "java/lang/invoke/MethodHandle" ∧ zy_La_h_faults.cls ≠ "java/lang/invoke/VarHandle" ∧ (parseMethodDescriptor zy_La_h_faults.desc).map (fun d => d.parameters.length) = some 3 := by decide +kernel
theorem zdd_La_h_shape : zy_La_h_shape.cls ≠ "java/lang/invoke/MethodHandle" ∧ zy_La_h_shape.cls ≠ "java/lang/invoke/VarHandle" ∧ (parseMethodDescriptor zy_La_h_shape.desc).map (fun d => d.parameters.length) = some 4 := by decide +kernel
