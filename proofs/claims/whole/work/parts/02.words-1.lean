set_option maxRecDepth 100000 in
theorem xw_0 : (Jvm.Cond.initialized "HyperHostLaw") ∈ lw_g := xg_in 72 (by decide +kernel) (by decide +kernel)
set_option maxRecDepth 100000 in
theorem xw_1 : (Jvm.Cond.initialized "HyperHost") ∈ lw_g := xg_in 73 (by decide +kernel) (by decide +kernel)
set_option maxRecDepth 100000 in
theorem xw_2 : (Jvm.Cond.initialized "HyperHost$Core") ∈ lw_g := xg_in 74 (by decide +kernel) (by decide +kernel)
set_option maxRecDepth 100000 in
theorem xw_3 : (Jvm.Cond.initialized "HyperHost$Memory") ∈ lw_g := xg_in 75 (by decide +kernel) (by decide +kernel)
set_option maxRecDepth 100000 in
theorem xw_4 : (Jvm.Cond.initialized "HyperHost$Translator") ∈ lw_g := xg_in 76 (by decide +kernel) (by decide +kernel)
set_option maxRecDepth 100000 in
theorem xw_5 : (Jvm.Cond.initialized "HyperHost$Controls") ∈ lw_g := xg_in 77 (by decide +kernel) (by decide +kernel)
set_option maxRecDepth 100000 in
theorem xw_6 : (Jvm.Cond.initialized "HyperHost$Bank") ∈ lw_g := xg_in 78 (by decide +kernel) (by decide +kernel)
set_option maxRecDepth 100000 in
theorem xw_7 : (Jvm.Cond.initialized "HyperHost$Trap") ∈ lw_g := xg_in 79 (by decide +kernel) (by decide +kernel)
set_option maxRecDepth 100000 in
theorem xw_8 : (Jvm.Cond.initialized "java/util/Arrays") ∈ lw_g := xg_in 80 (by decide +kernel) (by decide +kernel)
set_option maxRecDepth 100000 in
theorem xw_9 : (Jvm.Cond.initialized "HyperHostModel") ∈ lw_g := xg_in 81 (by decide +kernel) (by decide +kernel)
set_option maxRecDepth 100000 in
theorem xw_10 : (Jvm.Cond.initialized "HyperHost$Frame") ∈ lw_g := xg_in 82 (by decide +kernel) (by decide +kernel)
set_option maxRecDepth 100000 in
theorem xw_11 : (Jvm.Cond.initialized "java/lang/Enum") ∈ lw_g := xg_in 83 (by decide +kernel) (by decide +kernel)
set_option maxRecDepth 100000 in
theorem xw_12 : (Jvm.Cond.initialized "HyperHost$Access") ∈ lw_g := xg_in 84 (by decide +kernel) (by decide +kernel)
set_option maxRecDepth 100000 in
theorem xw_13 : (Jvm.Cond.initialized "HyperHost$Fields") ∈ lw_g := xg_in 85 (by decide +kernel) (by decide +kernel)
set_option maxRecDepth 100000 in
theorem xw_14 : (Jvm.Cond.initialized "HyperHost$Arithmetic") ∈ lw_g := xg_in 86 (by decide +kernel) (by decide +kernel)
set_option maxRecDepth 100000 in
theorem xw_15 : (Jvm.Cond.classLink "HyperHostLaw" (7 : Nat) "HyperHost") ∈ lw_g := xg_in 87 (by decide +kernel) (by decide +kernel)
set_option maxRecDepth 100000 in
theorem xw_16 : (Jvm.Cond.instantiable "HyperHost" (1 : Nat)) ∈ lw_g := xg_in 88 (by decide +kernel) (by decide +kernel)
set_option maxRecDepth 100000 in
theorem xw_17 : (Jvm.Cond.methodLink "HyperHostLaw" (9 : Nat) ({ cls := "HyperHost", name := "<init>", desc := "()V" } : Jvm.MethodName)) ∈ lw_g := xg_in 89 (by decide +kernel) (by decide +kernel)
set_option maxRecDepth 100000 in
theorem xw_18 : (Jvm.Cond.instanceMethod ({ cls := "HyperHost", name := "<init>", desc := "()V" } : Jvm.MethodName)) ∈ lw_g := xg_in 90 (by decide +kernel) (by decide +kernel)
set_option maxRecDepth 100000 in
theorem xw_19 : (Jvm.Cond.code ({ cls := "HyperHost", name := "<init>", desc := "()V" } : Jvm.MethodName) prog_1_method_1_code (1 : Nat) (Option.none : Option Jvm.ClassFile.FieldType)) ∈ lw_g := xg_in 91 (by decide +kernel) (by decide +kernel)
set_option maxRecDepth 100000 in
theorem xw_20 : (Jvm.Cond.methodLink "HyperHost" (3 : Nat) ({ cls := "java/lang/Object", name := "<init>", desc := "()V" } : Jvm.MethodName)) ∈ lw_g := xg_in 92 (by decide +kernel) (by decide +kernel)
set_option maxRecDepth 100000 in
theorem xw_21 : (Jvm.Cond.instanceMethod ({ cls := "java/lang/Object", name := "<init>", desc := "()V" } : Jvm.MethodName)) ∈ lw_g := xg_in 93 (by decide +kernel) (by decide +kernel)
set_option maxRecDepth 100000 in
theorem xw_22 : (Jvm.Cond.code ({ cls := "java/lang/Object", name := "<init>", desc := "()V" } : Jvm.MethodName) object_method_1_code (1 : Nat) (Option.none : Option Jvm.ClassFile.FieldType)) ∈ lw_g := xg_in 94 (by decide +kernel) (by decide +kernel)
set_option maxRecDepth 100000 in
theorem xw_23 : (Jvm.Cond.classLink "HyperHost" (9 : Nat) "HyperHost$Core") ∈ lw_g := xg_in 95 (by decide +kernel) (by decide +kernel)
set_option maxRecDepth 100000 in
theorem xw_24 : (Jvm.Cond.instantiable "HyperHost$Core" (15 : Nat)) ∈ lw_g := xg_in 96 (by decide +kernel) (by decide +kernel)
set_option maxRecDepth 100000 in
theorem xw_25 : (Jvm.Cond.methodLink "HyperHost" (11 : Nat) ({ cls := "HyperHost$Core", name := "<init>", desc := "()V" } : Jvm.MethodName)) ∈ lw_g := xg_in 97 (by decide +kernel) (by decide +kernel)
set_option maxRecDepth 100000 in
theorem xw_26 : (Jvm.Cond.instanceMethod ({ cls := "HyperHost$Core", name := "<init>", desc := "()V" } : Jvm.MethodName)) ∈ lw_g := xg_in 98 (by decide +kernel) (by decide +kernel)
set_option maxRecDepth 100000 in
theorem xw_27 : (Jvm.Cond.code ({ cls := "HyperHost$Core", name := "<init>", desc := "()V" } : Jvm.MethodName) prog_6_method_1_code (1 : Nat) (Option.none : Option Jvm.ClassFile.FieldType)) ∈ lw_g := xg_in 99 (by decide +kernel) (by decide +kernel)
set_option maxRecDepth 100000 in
theorem xw_28 : (Jvm.Cond.methodLink "HyperHost$Core" (3 : Nat) ({ cls := "java/lang/Object", name := "<init>", desc := "()V" } : Jvm.MethodName)) ∈ lw_g := xg_in 100 (by decide +kernel) (by decide +kernel)
set_option maxRecDepth 100000 in
theorem xw_29 : (Jvm.Cond.classLink "HyperHost$Core" (15 : Nat) "HyperHost$Memory") ∈ lw_g := xg_in 101 (by decide +kernel) (by decide +kernel)
set_option maxRecDepth 100000 in
theorem xw_30 : (Jvm.Cond.instantiable "HyperHost$Memory" (2 : Nat)) ∈ lw_g := xg_in 102 (by decide +kernel) (by decide +kernel)
set_option maxRecDepth 100000 in
theorem xw_31 : (Jvm.Cond.methodLink "HyperHost$Core" (17 : Nat) ({ cls := "HyperHost$Memory", name := "<init>", desc := "(I)V" } : Jvm.MethodName)) ∈ lw_g := xg_in 103 (by decide +kernel) (by decide +kernel)
set_option maxRecDepth 100000 in
theorem xw_32 : (Jvm.Cond.instanceMethod ({ cls := "HyperHost$Memory", name := "<init>", desc := "(I)V" } : Jvm.MethodName)) ∈ lw_g := xg_in 104 (by decide +kernel) (by decide +kernel)
set_option maxRecDepth 100000 in
theorem xw_33 : (Jvm.Cond.code ({ cls := "HyperHost$Memory", name := "<init>", desc := "(I)V" } : Jvm.MethodName) prog_9_method_1_code (2 : Nat) (Option.none : Option Jvm.ClassFile.FieldType)) ∈ lw_g := xg_in 105 (by decide +kernel) (by decide +kernel)
set_option maxRecDepth 100000 in
theorem xw_34 : (Jvm.Cond.methodLink "HyperHost$Memory" (3 : Nat) ({ cls := "java/lang/Object", name := "<init>", desc := "()V" } : Jvm.MethodName)) ∈ lw_g := xg_in 106 (by decide +kernel) (by decide +kernel)
set_option maxRecDepth 100000 in
theorem xw_35 : (Jvm.Cond.classLink "HyperHost$Memory" (9 : Nat) "HyperHost$Frame") ∈ lw_g := xg_in 107 (by decide +kernel) (by decide +kernel)
set_option maxRecDepth 100000 in
theorem xw_37 : (Jvm.Cond.fieldLink "HyperHost$Memory" (11 : Nat) "HyperHost$Memory" "frames" "[LHyperHost$Frame;") ∈ lw_g := xg_in 109 (by decide +kernel) (by decide +kernel)
set_option maxRecDepth 100000 in
theorem xw_38 : (Jvm.Cond.fieldLink "HyperHost$Memory" (17 : Nat) "HyperHost$Memory" "breachCount" "I") ∈ lw_g := xg_in 110 (by decide +kernel) (by decide +kernel)
set_option maxRecDepth 100000 in
theorem xw_39 : (Jvm.Cond.fieldLink "HyperHost" (108 : Nat) "HyperHost$Memory" "breachCount" "I") ∈ lw_g := xg_in 111 (by decide +kernel) (by decide +kernel)
set_option maxRecDepth 100000 in
theorem xw_40 : (Jvm.Cond.laysFinal "HyperHost$Memory" "HyperHost$Memory" "frames" "[LHyperHost$Frame;") ∈ lw_g := xg_in 112 (by decide +kernel) (by decide +kernel)
set_option maxRecDepth 100000 in
theorem xw_42 : (Jvm.Cond.lays "HyperHost$Memory" "HyperHost$Memory" "breachCount" "I") ∈ lw_g := xg_in 114 (by decide +kernel) (by decide +kernel)
set_option maxRecDepth 100000 in
theorem xw_45 : (Jvm.Cond.arrayClass Jvm.ClassFile.FieldType.int) ∈ lw_g := xg_in 117 (by decide +kernel) (by decide +kernel)
set_option maxRecDepth 100000 in
theorem xw_46 : (Jvm.Cond.classLink "HyperHost$Core" (24 : Nat) "HyperHost$Translator") ∈ lw_g := xg_in 118 (by decide +kernel) (by decide +kernel)
set_option maxRecDepth 100000 in
theorem xw_47 : (Jvm.Cond.instantiable "HyperHost$Translator" (3 : Nat)) ∈ lw_g := xg_in 119 (by decide +kernel) (by decide +kernel)
set_option maxRecDepth 100000 in
theorem xw_49 : (Jvm.Cond.instanceMethod ({ cls := "HyperHost$Translator", name := "<init>", desc := "()V" } : Jvm.MethodName)) ∈ lw_g := xg_in 121 (by decide +kernel) (by decide +kernel)
set_option maxRecDepth 100000 in
theorem xw_50 : (Jvm.Cond.code ({ cls := "HyperHost$Translator", name := "<init>", desc := "()V" } : Jvm.MethodName) prog_10_method_1_code (1 : Nat) (Option.none : Option Jvm.ClassFile.FieldType)) ∈ lw_g := xg_in 122 (by decide +kernel) (by decide +kernel)
set_option maxRecDepth 100000 in
theorem xw_51 : (Jvm.Cond.methodLink "HyperHost$Translator" (3 : Nat) ({ cls := "java/lang/Object", name := "<init>", desc := "()V" } : Jvm.MethodName)) ∈ lw_g := xg_in 123 (by decide +kernel) (by decide +kernel)
set_option maxRecDepth 100000 in
theorem xw_52 : (Jvm.Cond.classLink "HyperHost$Translator" (9 : Nat) "HyperHost$Memory") ∈ lw_g := xg_in 124 (by decide +kernel) (by decide +kernel)
set_option maxRecDepth 100000 in
theorem xw_53 : (Jvm.Cond.methodLink "HyperHost$Translator" (11 : Nat) ({ cls := "HyperHost$Memory", name := "<init>", desc := "(I)V" } : Jvm.MethodName)) ∈ lw_g := xg_in 125 (by decide +kernel) (by decide +kernel)
set_option maxRecDepth 100000 in
theorem xw_54 : (Jvm.Cond.classLink "HyperHost$Translator" (20 : Nat) "HyperHost$Controls") ∈ lw_g := xg_in 126 (by decide +kernel) (by decide +kernel)
set_option maxRecDepth 100000 in
theorem xw_55 : (Jvm.Cond.instantiable "HyperHost$Controls" (13 : Nat)) ∈ lw_g := xg_in 127 (by decide +kernel) (by decide +kernel)
set_option maxRecDepth 100000 in
theorem xw_57 : (Jvm.Cond.instanceMethod ({ cls := "HyperHost$Controls", name := "<init>", desc := "()V" } : Jvm.MethodName)) ∈ lw_g := xg_in 129 (by decide +kernel) (by decide +kernel)
set_option maxRecDepth 100000 in
theorem xw_58 : (Jvm.Cond.code ({ cls := "HyperHost$Controls", name := "<init>", desc := "()V" } : Jvm.MethodName) prog_5_method_1_code (1 : Nat) (Option.none : Option Jvm.ClassFile.FieldType)) ∈ lw_g := xg_in 130 (by decide +kernel) (by decide +kernel)
set_option maxRecDepth 100000 in
theorem xw_59 : (Jvm.Cond.methodLink "HyperHost$Controls" (3 : Nat) ({ cls := "java/lang/Object", name := "<init>", desc := "()V" } : Jvm.MethodName)) ∈ lw_g := xg_in 131 (by decide +kernel) (by decide +kernel)
set_option maxRecDepth 100000 in
theorem xw_60 : (Jvm.Cond.classLink "HyperHost$Controls" (9 : Nat) "HyperHost$Bank") ∈ lw_g := xg_in 132 (by decide +kernel) (by decide +kernel)
set_option maxRecDepth 100000 in
theorem xw_61 : (Jvm.Cond.instantiable "HyperHost$Bank" (9 : Nat)) ∈ lw_g := xg_in 133 (by decide +kernel) (by decide +kernel)
set_option maxRecDepth 100000 in
theorem xw_63 : (Jvm.Cond.instanceMethod ({ cls := "HyperHost$Bank", name := "<init>", desc := "()V" } : Jvm.MethodName)) ∈ lw_g := xg_in 135 (by decide +kernel) (by decide +kernel)
set_option maxRecDepth 100000 in
theorem xw_64 : (Jvm.Cond.code ({ cls := "HyperHost$Bank", name := "<init>", desc := "()V" } : Jvm.MethodName) prog_4_method_1_code (1 : Nat) (Option.none : Option Jvm.ClassFile.FieldType)) ∈ lw_g := xg_in 136 (by decide +kernel) (by decide +kernel)
set_option maxRecDepth 100000 in
theorem xw_65 : (Jvm.Cond.methodLink "HyperHost$Bank" (3 : Nat) ({ cls := "java/lang/Object", name := "<init>", desc := "()V" } : Jvm.MethodName)) ∈ lw_g := xg_in 137 (by decide +kernel) (by decide +kernel)
set_option maxRecDepth 100000 in
theorem xw_66 : (Jvm.Cond.fieldLink "HyperHost$Bank" (9 : Nat) "HyperHost$Bank" "status" "I") ∈ lw_g := xg_in 138 (by decide +kernel) (by decide +kernel)
set_option maxRecDepth 100000 in
theorem xw_67 : (Jvm.Cond.fieldLink "HyperHost$Translator" (55 : Nat) "HyperHost$Bank" "status" "I") ∈ lw_g := xg_in 139 (by decide +kernel) (by decide +kernel)
set_option maxRecDepth 100000 in
theorem xw_68 : (Jvm.Cond.fieldLink "HyperHost$Controls" (91 : Nat) "HyperHost$Bank" "status" "I") ∈ lw_g := xg_in 140 (by decide +kernel) (by decide +kernel)
set_option maxRecDepth 100000 in
theorem xw_69 : (Jvm.Cond.fieldLink "HyperHost$Bank" (15 : Nat) "HyperHost$Bank" "ie" "I") ∈ lw_g := xg_in 141 (by decide +kernel) (by decide +kernel)
set_option maxRecDepth 100000 in
theorem xw_70 : (Jvm.Cond.fieldLink "HyperHost$Controls" (94 : Nat) "HyperHost$Bank" "ie" "I") ∈ lw_g := xg_in 142 (by decide +kernel) (by decide +kernel)
set_option maxRecDepth 100000 in
theorem xw_71 : (Jvm.Cond.fieldLink "HyperHost$Bank" (18 : Nat) "HyperHost$Bank" "tvec" "I") ∈ lw_g := xg_in 143 (by decide +kernel) (by decide +kernel)
set_option maxRecDepth 100000 in
theorem xw_72 : (Jvm.Cond.fieldLink "HyperHost$Bank" (21 : Nat) "HyperHost$Bank" "scratch" "I") ∈ lw_g := xg_in 144 (by decide +kernel) (by decide +kernel)
set_option maxRecDepth 100000 in
theorem xw_73 : (Jvm.Cond.fieldLink "HyperHost$Bank" (24 : Nat) "HyperHost$Bank" "epc" "I") ∈ lw_g := xg_in 145 (by decide +kernel) (by decide +kernel)
set_option maxRecDepth 100000 in
theorem xw_74 : (Jvm.Cond.fieldLink "HyperHost$Core" (327 : Nat) "HyperHost$Bank" "epc" "I") ∈ lw_g := xg_in 146 (by decide +kernel) (by decide +kernel)
set_option maxRecDepth 100000 in
theorem xw_75 : (Jvm.Cond.fieldLink "HyperHost$Bank" (27 : Nat) "HyperHost$Bank" "cause" "I") ∈ lw_g := xg_in 147 (by decide +kernel) (by decide +kernel)
set_option maxRecDepth 100000 in
theorem xw_76 : (Jvm.Cond.fieldLink "HyperHost$Bank" (30 : Nat) "HyperHost$Bank" "tval" "I") ∈ lw_g := xg_in 148 (by decide +kernel) (by decide +kernel)
set_option maxRecDepth 100000 in
theorem xw_77 : (Jvm.Cond.fieldLink "HyperHost$Bank" (33 : Nat) "HyperHost$Bank" "ip" "I") ∈ lw_g := xg_in 149 (by decide +kernel) (by decide +kernel)
set_option maxRecDepth 100000 in
theorem xw_78 : (Jvm.Cond.fieldLink "HyperHost$Controls" (88 : Nat) "HyperHost$Bank" "ip" "I") ∈ lw_g := xg_in 150 (by decide +kernel) (by decide +kernel)
set_option maxRecDepth 100000 in
theorem xw_79 : (Jvm.Cond.fieldLink "HyperHost$Bank" (36 : Nat) "HyperHost$Bank" "atp" "I") ∈ lw_g := xg_in 151 (by decide +kernel) (by decide +kernel)
set_option maxRecDepth 100000 in
theorem xw_80 : (Jvm.Cond.fieldLink "HyperHost$Translator" (82 : Nat) "HyperHost$Bank" "atp" "I") ∈ lw_g := xg_in 152 (by decide +kernel) (by decide +kernel)
set_option maxRecDepth 100000 in
theorem xw_81 : (Jvm.Cond.lays "HyperHost$Bank" "HyperHost$Bank" "status" "I") ∈ lw_g := xg_in 153 (by decide +kernel) (by decide +kernel)
set_option maxRecDepth 100000 in
theorem xw_83 : (Jvm.Cond.lays "HyperHost$Bank" "HyperHost$Bank" "ie" "I") ∈ lw_g := xg_in 155 (by decide +kernel) (by decide +kernel)
set_option maxRecDepth 100000 in
theorem xw_85 : (Jvm.Cond.lays "HyperHost$Bank" "HyperHost$Bank" "tvec" "I") ∈ lw_g := xg_in 157 (by decide +kernel) (by decide +kernel)
set_option maxRecDepth 100000 in
theorem xw_87 : (Jvm.Cond.lays "HyperHost$Bank" "HyperHost$Bank" "scratch" "I") ∈ lw_g := xg_in 159 (by decide +kernel) (by decide +kernel)
set_option maxRecDepth 100000 in
theorem xw_89 : (Jvm.Cond.lays "HyperHost$Bank" "HyperHost$Bank" "epc" "I") ∈ lw_g := xg_in 161 (by decide +kernel) (by decide +kernel)
set_option maxRecDepth 100000 in
theorem xw_91 : (Jvm.Cond.lays "HyperHost$Bank" "HyperHost$Bank" "cause" "I") ∈ lw_g := xg_in 163 (by decide +kernel) (by decide +kernel)
set_option maxRecDepth 100000 in
theorem xw_93 : (Jvm.Cond.lays "HyperHost$Bank" "HyperHost$Bank" "tval" "I") ∈ lw_g := xg_in 165 (by decide +kernel) (by decide +kernel)
set_option maxRecDepth 100000 in
theorem xw_95 : (Jvm.Cond.lays "HyperHost$Bank" "HyperHost$Bank" "ip" "I") ∈ lw_g := xg_in 167 (by decide +kernel) (by decide +kernel)
set_option maxRecDepth 100000 in
theorem xw_97 : (Jvm.Cond.lays "HyperHost$Bank" "HyperHost$Bank" "atp" "I") ∈ lw_g := xg_in 169 (by decide +kernel) (by decide +kernel)
set_option maxRecDepth 100000 in
theorem xw_100 : (Jvm.Cond.fieldLink "HyperHost$Controls" (12 : Nat) "HyperHost$Controls" "s" "LHyperHost$Bank;") ∈ lw_g := xg_in 172 (by decide +kernel) (by decide +kernel)
set_option maxRecDepth 100000 in
theorem xw_101 : (Jvm.Cond.fieldLink "HyperHost$Translator" (52 : Nat) "HyperHost$Controls" "s" "LHyperHost$Bank;") ∈ lw_g := xg_in 173 (by decide +kernel) (by decide +kernel)
set_option maxRecDepth 100000 in
theorem xw_102 : (Jvm.Cond.fieldLink "HyperHost$Core" (159 : Nat) "HyperHost$Controls" "s" "LHyperHost$Bank;") ∈ lw_g := xg_in 174 (by decide +kernel) (by decide +kernel)
set_option maxRecDepth 100000 in
theorem xw_103 : (Jvm.Cond.fieldLink "HyperHost$Controls" (18 : Nat) "HyperHost$Controls" "vs" "LHyperHost$Bank;") ∈ lw_g := xg_in 175 (by decide +kernel) (by decide +kernel)
set_option maxRecDepth 100000 in
theorem xw_104 : (Jvm.Cond.fieldLink "HyperHost$Translator" (48 : Nat) "HyperHost$Controls" "vs" "LHyperHost$Bank;") ∈ lw_g := xg_in 176 (by decide +kernel) (by decide +kernel)
set_option maxRecDepth 100000 in
theorem xw_105 : (Jvm.Cond.fieldLink "HyperHost$Core" (142 : Nat) "HyperHost$Controls" "vs" "LHyperHost$Bank;") ∈ lw_g := xg_in 177 (by decide +kernel) (by decide +kernel)
set_option maxRecDepth 100000 in
theorem xw_106 : (Jvm.Cond.fieldLink "HyperHost$Controls" (24 : Nat) "HyperHost$Controls" "hstatus" "I") ∈ lw_g := xg_in 178 (by decide +kernel) (by decide +kernel)
set_option maxRecDepth 100000 in
theorem xw_107 : (Jvm.Cond.fieldLink "HyperHost$Core" (307 : Nat) "HyperHost$Controls" "hstatus" "I") ∈ lw_g := xg_in 179 (by decide +kernel) (by decide +kernel)
set_option maxRecDepth 100000 in
theorem xw_108 : (Jvm.Cond.fieldLink "HyperHost$Controls" (28 : Nat) "HyperHost$Controls" "hedeleg" "I") ∈ lw_g := xg_in 180 (by decide +kernel) (by decide +kernel)
set_option maxRecDepth 100000 in
theorem xw_109 : (Jvm.Cond.fieldLink "HyperHost$Core" (135 : Nat) "HyperHost$Controls" "hedeleg" "I") ∈ lw_g := xg_in 181 (by decide +kernel) (by decide +kernel)
set_option maxRecDepth 100000 in
theorem xw_110 : (Jvm.Cond.fieldLink "HyperHost$Controls" (31 : Nat) "HyperHost$Controls" "hideleg" "I") ∈ lw_g := xg_in 182 (by decide +kernel) (by decide +kernel)
set_option maxRecDepth 100000 in
theorem xw_111 : (Jvm.Cond.fieldLink "HyperHost$Controls" (34 : Nat) "HyperHost$Controls" "hie" "I") ∈ lw_g := xg_in 183 (by decide +kernel) (by decide +kernel)
set_option maxRecDepth 100000 in
theorem xw_112 : (Jvm.Cond.fieldLink "HyperHost$Controls" (37 : Nat) "HyperHost$Controls" "htval" "I") ∈ lw_g := xg_in 184 (by decide +kernel) (by decide +kernel)
set_option maxRecDepth 100000 in
theorem xw_113 : (Jvm.Cond.fieldLink "HyperHost$Controls" (40 : Nat) "HyperHost$Controls" "hvip" "I") ∈ lw_g := xg_in 185 (by decide +kernel) (by decide +kernel)
set_option maxRecDepth 100000 in
theorem xw_114 : (Jvm.Cond.fieldLink "HyperHost$Controls" (43 : Nat) "HyperHost$Controls" "htinst" "I") ∈ lw_g := xg_in 186 (by decide +kernel) (by decide +kernel)
set_option maxRecDepth 100000 in
theorem xw_115 : (Jvm.Cond.fieldLink "HyperHost$Controls" (46 : Nat) "HyperHost$Controls" "hgatp" "I") ∈ lw_g := xg_in 187 (by decide +kernel) (by decide +kernel)
set_option maxRecDepth 100000 in
theorem xw_116 : (Jvm.Cond.fieldLink "HyperHost$Translator" (101 : Nat) "HyperHost$Controls" "hgatp" "I") ∈ lw_g := xg_in 188 (by decide +kernel) (by decide +kernel)
set_option maxRecDepth 100000 in
theorem xw_117 : (Jvm.Cond.fieldLink "HyperHost$Controls" (49 : Nat) "HyperHost$Controls" "time" "J") ∈ lw_g := xg_in 189 (by decide +kernel) (by decide +kernel)
set_option maxRecDepth 100000 in
theorem xw_118 : (Jvm.Cond.fieldLink "HyperHost$Core" (127 : Nat) "HyperHost$Controls" "time" "J") ∈ lw_g := xg_in 190 (by decide +kernel) (by decide +kernel)
set_option maxRecDepth 100000 in
theorem xw_119 : (Jvm.Cond.fieldLink "HyperHost" (82 : Nat) "HyperHost$Controls" "time" "J") ∈ lw_g := xg_in 191 (by decide +kernel) (by decide +kernel)
set_option maxRecDepth 100000 in
theorem xw_120 : (Jvm.Cond.fieldLink "HyperHost$Controls" (55 : Nat) "HyperHost$Controls" "alarm" "J") ∈ lw_g := xg_in 192 (by decide +kernel) (by decide +kernel)
set_option maxRecDepth 100000 in
theorem xw_121 : (Jvm.Cond.fieldLink "HyperHost" (98 : Nat) "HyperHost$Controls" "alarm" "J") ∈ lw_g := xg_in 193 (by decide +kernel) (by decide +kernel)
set_option maxRecDepth 100000 in
theorem xw_122 : (Jvm.Cond.fieldLink "HyperHost$Core" (320 : Nat) "HyperHost$Controls" "alarm" "J") ∈ lw_g := xg_in 194 (by decide +kernel) (by decide +kernel)
set_option maxRecDepth 100000 in
theorem xw_123 : (Jvm.Cond.fieldLink "HyperHost$Controls" (58 : Nat) "HyperHost$Controls" "lineOn" "Z") ∈ lw_g := xg_in 195 (by decide +kernel) (by decide +kernel)
set_option maxRecDepth 100000 in
theorem xw_124 : (Jvm.Cond.fieldLink "HyperHost" (65 : Nat) "HyperHost$Controls" "lineOn" "Z") ∈ lw_g := xg_in 196 (by decide +kernel) (by decide +kernel)
set_option maxRecDepth 100000 in
theorem xw_125 : (Jvm.Cond.laysFinal "HyperHost$Controls" "HyperHost$Controls" "s" "LHyperHost$Bank;") ∈ lw_g := xg_in 197 (by decide +kernel) (by decide +kernel)
set_option maxRecDepth 100000 in
theorem xw_127 : (Jvm.Cond.laysFinal "HyperHost$Controls" "HyperHost$Controls" "vs" "LHyperHost$Bank;") ∈ lw_g := xg_in 199 (by decide +kernel) (by decide +kernel)
set_option maxRecDepth 100000 in
theorem xw_129 : (Jvm.Cond.lays "HyperHost$Controls" "HyperHost$Controls" "hstatus" "I") ∈ lw_g := xg_in 201 (by decide +kernel) (by decide +kernel)
set_option maxRecDepth 100000 in
theorem xw_131 : (Jvm.Cond.lays "HyperHost$Controls" "HyperHost$Controls" "hedeleg" "I") ∈ lw_g := xg_in 203 (by decide +kernel) (by decide +kernel)
set_option maxRecDepth 100000 in
theorem xw_133 : (Jvm.Cond.lays "HyperHost$Controls" "HyperHost$Controls" "hideleg" "I") ∈ lw_g := xg_in 205 (by decide +kernel) (by decide +kernel)
set_option maxRecDepth 100000 in
theorem xw_135 : (Jvm.Cond.lays "HyperHost$Controls" "HyperHost$Controls" "hie" "I") ∈ lw_g := xg_in 207 (by decide +kernel) (by decide +kernel)
set_option maxRecDepth 100000 in
theorem xw_137 : (Jvm.Cond.lays "HyperHost$Controls" "HyperHost$Controls" "htval" "I") ∈ lw_g := xg_in 209 (by decide +kernel) (by decide +kernel)
set_option maxRecDepth 100000 in
theorem xw_139 : (Jvm.Cond.lays "HyperHost$Controls" "HyperHost$Controls" "hvip" "I") ∈ lw_g := xg_in 211 (by decide +kernel) (by decide +kernel)
set_option maxRecDepth 100000 in
theorem xw_141 : (Jvm.Cond.lays "HyperHost$Controls" "HyperHost$Controls" "htinst" "I") ∈ lw_g := xg_in 213 (by decide +kernel) (by decide +kernel)
set_option maxRecDepth 100000 in
theorem xw_143 : (Jvm.Cond.lays "HyperHost$Controls" "HyperHost$Controls" "hgatp" "I") ∈ lw_g := xg_in 215 (by decide +kernel) (by decide +kernel)
set_option maxRecDepth 100000 in
theorem xw_145 : (Jvm.Cond.lays "HyperHost$Controls" "HyperHost$Controls" "time" "J") ∈ lw_g := xg_in 217 (by decide +kernel) (by decide +kernel)
set_option maxRecDepth 100000 in
theorem xw_147 : (Jvm.Cond.lays "HyperHost$Controls" "HyperHost$Controls" "alarm" "J") ∈ lw_g := xg_in 219 (by decide +kernel) (by decide +kernel)
set_option maxRecDepth 100000 in
theorem xw_149 : (Jvm.Cond.lays "HyperHost$Controls" "HyperHost$Controls" "lineOn" "Z") ∈ lw_g := xg_in 221 (by decide +kernel) (by decide +kernel)
set_option maxRecDepth 100000 in
theorem xw_152 : (Jvm.Cond.classLink "HyperHost$Translator" (27 : Nat) "HyperHost$Trap") ∈ lw_g := xg_in 224 (by decide +kernel) (by decide +kernel)
set_option maxRecDepth 100000 in
theorem xw_153 : (Jvm.Cond.instantiable "HyperHost$Trap" (6 : Nat)) ∈ lw_g := xg_in 225 (by decide +kernel) (by decide +kernel)
set_option maxRecDepth 100000 in
theorem xw_155 : (Jvm.Cond.instanceMethod ({ cls := "HyperHost$Trap", name := "<init>", desc := "()V" } : Jvm.MethodName)) ∈ lw_g := xg_in 227 (by decide +kernel) (by decide +kernel)
set_option maxRecDepth 100000 in
theorem xw_156 : (Jvm.Cond.code ({ cls := "HyperHost$Trap", name := "<init>", desc := "()V" } : Jvm.MethodName) prog_11_method_1_code (1 : Nat) (Option.none : Option Jvm.ClassFile.FieldType)) ∈ lw_g := xg_in 228 (by decide +kernel) (by decide +kernel)
set_option maxRecDepth 100000 in
theorem xw_157 : (Jvm.Cond.methodLink "HyperHost$Trap" (3 : Nat) ({ cls := "java/lang/Object", name := "<init>", desc := "()V" } : Jvm.MethodName)) ∈ lw_g := xg_in 229 (by decide +kernel) (by decide +kernel)
set_option maxRecDepth 100000 in
theorem xw_158 : (Jvm.Cond.fieldLink "HyperHost$Trap" (9 : Nat) "HyperHost$Trap" "cause" "I") ∈ lw_g := xg_in 230 (by decide +kernel) (by decide +kernel)
set_option maxRecDepth 100000 in
theorem xw_159 : (Jvm.Cond.fieldLink "HyperHost$Core" (121 : Nat) "HyperHost$Trap" "cause" "I") ∈ lw_g := xg_in 231 (by decide +kernel) (by decide +kernel)
set_option maxRecDepth 100000 in
theorem xw_160 : (Jvm.Cond.fieldLink "HyperHost$Trap" (15 : Nat) "HyperHost$Trap" "tval" "I") ∈ lw_g := xg_in 232 (by decide +kernel) (by decide +kernel)
set_option maxRecDepth 100000 in
theorem xw_161 : (Jvm.Cond.fieldLink "HyperHost$Core" (146 : Nat) "HyperHost$Trap" "tval" "I") ∈ lw_g := xg_in 233 (by decide +kernel) (by decide +kernel)
set_option maxRecDepth 100000 in
theorem xw_162 : (Jvm.Cond.fieldLink "HyperHost$Trap" (18 : Nat) "HyperHost$Trap" "guest" "I") ∈ lw_g := xg_in 234 (by decide +kernel) (by decide +kernel)
set_option maxRecDepth 100000 in
theorem xw_163 : (Jvm.Cond.fieldLink "HyperHost$Translator" (131 : Nat) "HyperHost$Trap" "guest" "I") ∈ lw_g := xg_in 235 (by decide +kernel) (by decide +kernel)
set_option maxRecDepth 100000 in
theorem xw_164 : (Jvm.Cond.fieldLink "HyperHost$Controls" (119 : Nat) "HyperHost$Trap" "guest" "I") ∈ lw_g := xg_in 236 (by decide +kernel) (by decide +kernel)
set_option maxRecDepth 100000 in
theorem xw_165 : (Jvm.Cond.fieldLink "HyperHost$Trap" (21 : Nat) "HyperHost$Trap" "inst" "I") ∈ lw_g := xg_in 237 (by decide +kernel) (by decide +kernel)
set_option maxRecDepth 100000 in
theorem xw_166 : (Jvm.Cond.fieldLink "HyperHost$Translator" (134 : Nat) "HyperHost$Trap" "inst" "I") ∈ lw_g := xg_in 238 (by decide +kernel) (by decide +kernel)
set_option maxRecDepth 100000 in
theorem xw_167 : (Jvm.Cond.fieldLink "HyperHost$Controls" (122 : Nat) "HyperHost$Trap" "inst" "I") ∈ lw_g := xg_in 239 (by decide +kernel) (by decide +kernel)
set_option maxRecDepth 100000 in
theorem xw_168 : (Jvm.Cond.fieldLink "HyperHost$Trap" (24 : Nat) "HyperHost$Trap" "asGuest" "Z") ∈ lw_g := xg_in 240 (by decide +kernel) (by decide +kernel)
set_option maxRecDepth 100000 in
theorem xw_169 : (Jvm.Cond.fieldLink "HyperHost$Controls" (116 : Nat) "HyperHost$Trap" "asGuest" "Z") ∈ lw_g := xg_in 241 (by decide +kernel) (by decide +kernel)
set_option maxRecDepth 100000 in
theorem xw_170 : (Jvm.Cond.fieldLink "HyperHost$Core" (336 : Nat) "HyperHost$Trap" "asGuest" "Z") ∈ lw_g := xg_in 242 (by decide +kernel) (by decide +kernel)
set_option maxRecDepth 100000 in
theorem xw_171 : (Jvm.Cond.fieldLink "HyperHost$Trap" (28 : Nat) "HyperHost$Trap" "interruptForVs" "Z") ∈ lw_g := xg_in 243 (by decide +kernel) (by decide +kernel)
set_option maxRecDepth 100000 in
theorem xw_172 : (Jvm.Cond.fieldLink "HyperHost$Core" (118 : Nat) "HyperHost$Trap" "interruptForVs" "Z") ∈ lw_g := xg_in 244 (by decide +kernel) (by decide +kernel)
set_option maxRecDepth 100000 in
theorem xw_173 : (Jvm.Cond.lays "HyperHost$Trap" "HyperHost$Trap" "cause" "I") ∈ lw_g := xg_in 245 (by decide +kernel) (by decide +kernel)
set_option maxRecDepth 100000 in
theorem xw_175 : (Jvm.Cond.lays "HyperHost$Trap" "HyperHost$Trap" "tval" "I") ∈ lw_g := xg_in 247 (by decide +kernel) (by decide +kernel)
set_option maxRecDepth 100000 in
theorem xw_177 : (Jvm.Cond.lays "HyperHost$Trap" "HyperHost$Trap" "guest" "I") ∈ lw_g := xg_in 249 (by decide +kernel) (by decide +kernel)
set_option maxRecDepth 100000 in
theorem xw_179 : (Jvm.Cond.lays "HyperHost$Trap" "HyperHost$Trap" "inst" "I") ∈ lw_g := xg_in 251 (by decide +kernel) (by decide +kernel)
set_option maxRecDepth 100000 in
theorem xw_181 : (Jvm.Cond.lays "HyperHost$Trap" "HyperHost$Trap" "asGuest" "Z") ∈ lw_g := xg_in 253 (by decide +kernel) (by decide +kernel)
set_option maxRecDepth 100000 in
theorem xw_183 : (Jvm.Cond.lays "HyperHost$Trap" "HyperHost$Trap" "interruptForVs" "Z") ∈ lw_g := xg_in 255 (by decide +kernel) (by decide +kernel)
set_option maxRecDepth 100000 in
theorem xw_186 : (Jvm.Cond.fieldLink "HyperHost$Translator" (14 : Nat) "HyperHost$Translator" "memory" "LHyperHost$Memory;") ∈ lw_g := xg_in 258 (by decide +kernel) (by decide +kernel)
set_option maxRecDepth 100000 in
theorem xw_187 : (Jvm.Cond.fieldLink "HyperHost$Core" (31 : Nat) "HyperHost$Translator" "memory" "LHyperHost$Memory;") ∈ lw_g := xg_in 259 (by decide +kernel) (by decide +kernel)
set_option maxRecDepth 100000 in
theorem xw_188 : (Jvm.Cond.fieldLink "HyperHost$Translator" (23 : Nat) "HyperHost$Translator" "controls" "LHyperHost$Controls;") ∈ lw_g := xg_in 260 (by decide +kernel) (by decide +kernel)
set_option maxRecDepth 100000 in
theorem xw_189 : (Jvm.Cond.fieldLink "HyperHost$Core" (35 : Nat) "HyperHost$Translator" "controls" "LHyperHost$Controls;") ∈ lw_g := xg_in 261 (by decide +kernel) (by decide +kernel)
set_option maxRecDepth 100000 in
theorem xw_190 : (Jvm.Cond.fieldLink "HyperHost$Translator" (30 : Nat) "HyperHost$Translator" "trap" "LHyperHost$Trap;") ∈ lw_g := xg_in 262 (by decide +kernel) (by decide +kernel)
set_option maxRecDepth 100000 in
theorem xw_191 : (Jvm.Cond.fieldLink "HyperHost$Core" (40 : Nat) "HyperHost$Translator" "trap" "LHyperHost$Trap;") ∈ lw_g := xg_in 263 (by decide +kernel) (by decide +kernel)
set_option maxRecDepth 100000 in
theorem xw_192 : (Jvm.Cond.laysFinal "HyperHost$Translator" "HyperHost$Translator" "memory" "LHyperHost$Memory;") ∈ lw_g := xg_in 264 (by decide +kernel) (by decide +kernel)
set_option maxRecDepth 100000 in
theorem xw_194 : (Jvm.Cond.laysFinal "HyperHost$Translator" "HyperHost$Translator" "controls" "LHyperHost$Controls;") ∈ lw_g := xg_in 266 (by decide +kernel) (by decide +kernel)
set_option maxRecDepth 100000 in
theorem xw_196 : (Jvm.Cond.laysFinal "HyperHost$Translator" "HyperHost$Translator" "trap" "LHyperHost$Trap;") ∈ lw_g := xg_in 268 (by decide +kernel) (by decide +kernel)
set_option maxRecDepth 100000 in
theorem xw_199 : (Jvm.Cond.fieldLink "HyperHost$Core" (9 : Nat) "HyperHost$Core" "x" "[I") ∈ lw_g := xg_in 271 (by decide +kernel) (by decide +kernel)
set_option maxRecDepth 100000 in
theorem xw_200 : (Jvm.Cond.fieldLink "HyperHost" (35 : Nat) "HyperHost$Core" "x" "[I") ∈ lw_g := xg_in 272 (by decide +kernel) (by decide +kernel)
set_option maxRecDepth 100000 in
theorem xw_201 : (Jvm.Cond.fieldLink "HyperHost$Core" (20 : Nat) "HyperHost$Core" "console" "LHyperHost$Memory;") ∈ lw_g := xg_in 273 (by decide +kernel) (by decide +kernel)
set_option maxRecDepth 100000 in
theorem xw_202 : (Jvm.Cond.fieldLink "HyperHost" (101 : Nat) "HyperHost$Core" "console" "LHyperHost$Memory;") ∈ lw_g := xg_in 274 (by decide +kernel) (by decide +kernel)
set_option maxRecDepth 100000 in
theorem xw_203 : (Jvm.Cond.fieldLink "HyperHost$Core" (27 : Nat) "HyperHost$Core" "translator" "LHyperHost$Translator;") ∈ lw_g := xg_in 275 (by decide +kernel) (by decide +kernel)
set_option maxRecDepth 100000 in
theorem xw_204 : (Jvm.Cond.fieldLink "HyperHost$Core" (34 : Nat) "HyperHost$Core" "memory" "LHyperHost$Memory;") ∈ lw_g := xg_in 276 (by decide +kernel) (by decide +kernel)
set_option maxRecDepth 100000 in
theorem xw_205 : (Jvm.Cond.fieldLink "HyperHost" (20 : Nat) "HyperHost$Core" "memory" "LHyperHost$Memory;") ∈ lw_g := xg_in 277 (by decide +kernel) (by decide +kernel)
set_option maxRecDepth 100000 in
theorem xw_206 : (Jvm.Cond.fieldLink "HyperHost$Core" (39 : Nat) "HyperHost$Core" "controls" "LHyperHost$Controls;") ∈ lw_g := xg_in 278 (by decide +kernel) (by decide +kernel)
set_option maxRecDepth 100000 in
theorem xw_207 : (Jvm.Cond.fieldLink "HyperHost" (42 : Nat) "HyperHost$Core" "controls" "LHyperHost$Controls;") ∈ lw_g := xg_in 279 (by decide +kernel) (by decide +kernel)
set_option maxRecDepth 100000 in
theorem xw_208 : (Jvm.Cond.fieldLink "HyperHost$Core" (44 : Nat) "HyperHost$Core" "trap" "LHyperHost$Trap;") ∈ lw_g := xg_in 280 (by decide +kernel) (by decide +kernel)
set_option maxRecDepth 100000 in
theorem xw_209 : (Jvm.Cond.fieldLink "HyperHost$Core" (57 : Nat) "HyperHost$Core" "consoleSize" "I") ∈ lw_g := xg_in 281 (by decide +kernel) (by decide +kernel)
set_option maxRecDepth 100000 in
theorem xw_210 : (Jvm.Cond.fieldLink "HyperHost" (95 : Nat) "HyperHost$Core" "consoleSize" "I") ∈ lw_g := xg_in 282 (by decide +kernel) (by decide +kernel)
set_option maxRecDepth 100000 in
theorem xw_211 : (Jvm.Cond.fieldLink "HyperHost$Core" (61 : Nat) "HyperHost$Core" "pc" "I") ∈ lw_g := xg_in 283 (by decide +kernel) (by decide +kernel)
set_option maxRecDepth 100000 in
theorem xw_212 : (Jvm.Cond.fieldLink "HyperHost" (62 : Nat) "HyperHost$Core" "pc" "I") ∈ lw_g := xg_in 284 (by decide +kernel) (by decide +kernel)
set_option maxRecDepth 100000 in
theorem xw_213 : (Jvm.Cond.fieldLink "HyperHost$Core" (64 : Nat) "HyperHost$Core" "mode" "I") ∈ lw_g := xg_in 285 (by decide +kernel) (by decide +kernel)
set_option maxRecDepth 100000 in
theorem xw_214 : (Jvm.Cond.fieldLink "HyperHost" (58 : Nat) "HyperHost$Core" "mode" "I") ∈ lw_g := xg_in 286 (by decide +kernel) (by decide +kernel)
set_option maxRecDepth 100000 in
theorem xw_215 : (Jvm.Cond.fieldLink "HyperHost$Core" (67 : Nat) "HyperHost$Core" "off" "Z") ∈ lw_g := xg_in 287 (by decide +kernel) (by decide +kernel)
set_option maxRecDepth 100000 in
theorem xw_216 : (Jvm.Cond.fieldLink "HyperHost" (69 : Nat) "HyperHost$Core" "off" "Z") ∈ lw_g := xg_in 288 (by decide +kernel) (by decide +kernel)
set_option maxRecDepth 100000 in
theorem xw_217 : (Jvm.Cond.fieldLink "HyperHost$Core" (71 : Nat) "HyperHost$Core" "trapsToS" "I") ∈ lw_g := xg_in 289 (by decide +kernel) (by decide +kernel)
set_option maxRecDepth 100000 in
theorem xw_218 : (Jvm.Cond.fieldLink "HyperHost" (86 : Nat) "HyperHost$Core" "trapsToS" "I") ∈ lw_g := xg_in 290 (by decide +kernel) (by decide +kernel)
set_option maxRecDepth 100000 in
theorem xw_219 : (Jvm.Cond.fieldLink "HyperHost$Core" (74 : Nat) "HyperHost$Core" "trapsToVs" "I") ∈ lw_g := xg_in 291 (by decide +kernel) (by decide +kernel)
set_option maxRecDepth 100000 in
theorem xw_220 : (Jvm.Cond.fieldLink "HyperHost" (89 : Nat) "HyperHost$Core" "trapsToVs" "I") ∈ lw_g := xg_in 292 (by decide +kernel) (by decide +kernel)
set_option maxRecDepth 100000 in
theorem xw_221 : (Jvm.Cond.fieldLink "HyperHost$Core" (77 : Nat) "HyperHost$Core" "interrupts" "I") ∈ lw_g := xg_in 293 (by decide +kernel) (by decide +kernel)
set_option maxRecDepth 100000 in
theorem xw_222 : (Jvm.Cond.fieldLink "HyperHost" (92 : Nat) "HyperHost$Core" "interrupts" "I") ∈ lw_g := xg_in 294 (by decide +kernel) (by decide +kernel)
set_option maxRecDepth 100000 in
theorem xw_223 : (Jvm.Cond.fieldLink "HyperHost$Core" (104 : Nat) "HyperHost$Core" "next" "I") ∈ lw_g := xg_in 295 (by decide +kernel) (by decide +kernel)
set_option maxRecDepth 100000 in
theorem xw_224 : (Jvm.Cond.fieldLink "HyperHost$Core" (101 : Nat) "HyperHost$Core" "word" "I") ∈ lw_g := xg_in 296 (by decide +kernel) (by decide +kernel)
set_option maxRecDepth 100000 in
theorem xw_225 : (Jvm.Cond.laysFinal "HyperHost$Core" "HyperHost$Core" "x" "[I") ∈ lw_g := xg_in 297 (by decide +kernel) (by decide +kernel)
set_option maxRecDepth 100000 in
theorem xw_227 : (Jvm.Cond.laysFinal "HyperHost$Core" "HyperHost$Core" "console" "LHyperHost$Memory;") ∈ lw_g := xg_in 299 (by decide +kernel) (by decide +kernel)
set_option maxRecDepth 100000 in
theorem xw_229 : (Jvm.Cond.laysFinal "HyperHost$Core" "HyperHost$Core" "translator" "LHyperHost$Translator;") ∈ lw_g := xg_in 301 (by decide +kernel) (by decide +kernel)
set_option maxRecDepth 100000 in
theorem xw_231 : (Jvm.Cond.laysFinal "HyperHost$Core" "HyperHost$Core" "memory" "LHyperHost$Memory;") ∈ lw_g := xg_in 303 (by decide +kernel) (by decide +kernel)
set_option maxRecDepth 100000 in
theorem xw_233 : (Jvm.Cond.laysFinal "HyperHost$Core" "HyperHost$Core" "controls" "LHyperHost$Controls;") ∈ lw_g := xg_in 305 (by decide +kernel) (by decide +kernel)
set_option maxRecDepth 100000 in
theorem xw_235 : (Jvm.Cond.laysFinal "HyperHost$Core" "HyperHost$Core" "trap" "LHyperHost$Trap;") ∈ lw_g := xg_in 307 (by decide +kernel) (by decide +kernel)
set_option maxRecDepth 100000 in
theorem xw_237 : (Jvm.Cond.lays "HyperHost$Core" "HyperHost$Core" "consoleSize" "I") ∈ lw_g := xg_in 309 (by decide +kernel) (by decide +kernel)
set_option maxRecDepth 100000 in
theorem xw_239 : (Jvm.Cond.lays "HyperHost$Core" "HyperHost$Core" "pc" "I") ∈ lw_g := xg_in 311 (by decide +kernel) (by decide +kernel)
set_option maxRecDepth 100000 in
theorem xw_241 : (Jvm.Cond.lays "HyperHost$Core" "HyperHost$Core" "mode" "I") ∈ lw_g := xg_in 313 (by decide +kernel) (by decide +kernel)
set_option maxRecDepth 100000 in
theorem xw_243 : (Jvm.Cond.lays "HyperHost$Core" "HyperHost$Core" "off" "Z") ∈ lw_g := xg_in 315 (by decide +kernel) (by decide +kernel)
set_option maxRecDepth 100000 in
theorem xw_245 : (Jvm.Cond.lays "HyperHost$Core" "HyperHost$Core" "trapsToS" "I") ∈ lw_g := xg_in 317 (by decide +kernel) (by decide +kernel)
set_option maxRecDepth 100000 in
theorem xw_247 : (Jvm.Cond.lays "HyperHost$Core" "HyperHost$Core" "trapsToVs" "I") ∈ lw_g := xg_in 319 (by decide +kernel) (by decide +kernel)
set_option maxRecDepth 100000 in
theorem xw_249 : (Jvm.Cond.lays "HyperHost$Core" "HyperHost$Core" "interrupts" "I") ∈ lw_g := xg_in 321 (by decide +kernel) (by decide +kernel)
set_option maxRecDepth 100000 in
theorem xw_251 : (Jvm.Cond.lays "HyperHost$Core" "HyperHost$Core" "next" "I") ∈ lw_g := xg_in 323 (by decide +kernel) (by decide +kernel)
set_option maxRecDepth 100000 in
theorem xw_253 : (Jvm.Cond.lays "HyperHost$Core" "HyperHost$Core" "word" "I") ∈ lw_g := xg_in 325 (by decide +kernel) (by decide +kernel)
set_option maxRecDepth 100000 in
theorem xw_256 : (Jvm.Cond.methodLink "HyperHost" (16 : Nat) ({ cls := "HyperHost$Core", name := "reset", desc := "()V" } : Jvm.MethodName)) ∈ lw_g := xg_in 328 (by decide +kernel) (by decide +kernel)
set_option maxRecDepth 100000 in
theorem xw_257 : (Jvm.Cond.instanceMethod ({ cls := "HyperHost$Core", name := "reset", desc := "()V" } : Jvm.MethodName)) ∈ lw_g := xg_in 329 (by decide +kernel) (by decide +kernel)
set_option maxRecDepth 100000 in
theorem xw_258 : (Jvm.Cond.selects "HyperHost$Core" ({ cls := "HyperHost$Core", name := "reset", desc := "()V" } : Jvm.MethodName) ({ cls := "HyperHost$Core", name := "reset", desc := "()V" } : Jvm.MethodName)) ∈ lw_g := xg_in 330 (by decide +kernel) (by decide +kernel)
