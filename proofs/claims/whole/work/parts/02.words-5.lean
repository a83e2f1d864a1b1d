set_option maxRecDepth 100000 in
theorem xw_954 : (Jvm.Cond.methodLink "HyperHostModel" (137 : Nat) ({ cls := "HyperHostModel", name := "inMemory", desc := "(J)J" } : Jvm.MethodName)) ∈ lw_g := xg_in 1026 (by decide +kernel) (by decide +kernel)
set_option maxRecDepth 100000 in
theorem xw_956 : (Jvm.Cond.instanceMethod ({ cls := "HyperHostModel", name := "inMemory", desc := "(J)J" } : Jvm.MethodName)) ∈ lw_g := xg_in 1028 (by decide +kernel) (by decide +kernel)
set_option maxRecDepth 100000 in
theorem xw_957 : (Jvm.Cond.code ({ cls := "HyperHostModel", name := "inMemory", desc := "(J)J" } : Jvm.MethodName) prog_13_method_20_code (4 : Nat) (Option.some Jvm.ClassFile.FieldType.long)) ∈ lw_g := xg_in 1029 (by decide +kernel) (by decide +kernel)
set_option maxRecDepth 100000 in
theorem xw_958 : (Jvm.Cond.constantLong "HyperHostModel" (127 : Nat) (262144 : Int64)) ∈ lw_g := xg_in 1030 (by decide +kernel) (by decide +kernel)
set_option maxRecDepth 100000 in
theorem xw_959 : (Jvm.Cond.methodLink "HyperHostModel" (145 : Nat) ({ cls := "HyperHostModel", name := "word", desc := "(J)I" } : Jvm.MethodName)) ∈ lw_g := xg_in 1031 (by decide +kernel) (by decide +kernel)
set_option maxRecDepth 100000 in
theorem xw_961 : (Jvm.Cond.instanceMethod ({ cls := "HyperHostModel", name := "word", desc := "(J)I" } : Jvm.MethodName)) ∈ lw_g := xg_in 1033 (by decide +kernel) (by decide +kernel)
set_option maxRecDepth 100000 in
theorem xw_962 : (Jvm.Cond.code ({ cls := "HyperHostModel", name := "word", desc := "(J)I" } : Jvm.MethodName) prog_13_method_18_code (3 : Nat) (Option.some Jvm.ClassFile.FieldType.int)) ∈ lw_g := xg_in 1034 (by decide +kernel) (by decide +kernel)
set_option maxRecDepth 100000 in
theorem xw_963 : (Jvm.Cond.constantLong "HyperHostModel" (153 : Nat) (14 : Int64)) ∈ lw_g := xg_in 1035 (by decide +kernel) (by decide +kernel)
set_option maxRecDepth 100000 in
theorem xw_964 : (Jvm.Cond.constantLong "HyperHostModel" (155 : Nat) (208 : Int64)) ∈ lw_g := xg_in 1036 (by decide +kernel) (by decide +kernel)
set_option maxRecDepth 100000 in
theorem xw_965 : (Jvm.Cond.methodLink "HyperHostModel" (157 : Nat) ({ cls := "HyperHostModel", name := "stageFault", desc := "(IJZ)J" } : Jvm.MethodName)) ∈ lw_g := xg_in 1037 (by decide +kernel) (by decide +kernel)
set_option maxRecDepth 100000 in
theorem xw_967 : (Jvm.Cond.instanceMethod ({ cls := "HyperHostModel", name := "stageFault", desc := "(IJZ)J" } : Jvm.MethodName)) ∈ lw_g := xg_in 1039 (by decide +kernel) (by decide +kernel)
set_option maxRecDepth 100000 in
theorem xw_968 : (Jvm.Cond.code ({ cls := "HyperHostModel", name := "stageFault", desc := "(IJZ)J" } : Jvm.MethodName) prog_13_method_19_code (6 : Nat) (Option.some Jvm.ClassFile.FieldType.long)) ∈ lw_g := xg_in 1040 (by decide +kernel) (by decide +kernel)
set_option maxRecDepth 100000 in
theorem xw_969 : (Jvm.Cond.constantLong "HyperHostModel" (161 : Nat) (1024 : Int64)) ∈ lw_g := xg_in 1041 (by decide +kernel) (by decide +kernel)
set_option maxRecDepth 100000 in
theorem xw_970 : (Jvm.Cond.constantLong "HyperHostModel" (163 : Nat) (1023 : Int64)) ∈ lw_g := xg_in 1042 (by decide +kernel) (by decide +kernel)
set_option maxRecDepth 100000 in
theorem xw_971 : (Jvm.Cond.methodLink "HyperHostModel" (165 : Nat) ({ cls := "HyperHostModel", name := "isAllowed", desc := "(IIZ)Z" } : Jvm.MethodName)) ∈ lw_g := xg_in 1043 (by decide +kernel) (by decide +kernel)
set_option maxRecDepth 100000 in
theorem xw_973 : (Jvm.Cond.instanceMethod ({ cls := "HyperHostModel", name := "isAllowed", desc := "(IIZ)Z" } : Jvm.MethodName)) ∈ lw_g := xg_in 1045 (by decide +kernel) (by decide +kernel)
set_option maxRecDepth 100000 in
theorem xw_974 : (Jvm.Cond.code ({ cls := "HyperHostModel", name := "isAllowed", desc := "(IIZ)Z" } : Jvm.MethodName) prog_13_method_24_code (16 : Nat) (Option.some Jvm.ClassFile.FieldType.boolean)) ∈ lw_g := xg_in 1046 (by decide +kernel) (by decide +kernel)
set_option maxRecDepth 100000 in
theorem xw_975 : (Jvm.Cond.constantLong "HyperHostModel" (170 : Nat) (4095 : Int64)) ∈ lw_g := xg_in 1047 (by decide +kernel) (by decide +kernel)
set_option maxRecDepth 100000 in
theorem xw_976 : (Jvm.Cond.methodLink "HyperHostModel" (293 : Nat) ({ cls := "HyperHostModel", name := "perform", desc := "(I)Z" } : Jvm.MethodName)) ∈ lw_g := xg_in 1048 (by decide +kernel) (by decide +kernel)
set_option maxRecDepth 100000 in
theorem xw_978 : (Jvm.Cond.instanceMethod ({ cls := "HyperHostModel", name := "perform", desc := "(I)Z" } : Jvm.MethodName)) ∈ lw_g := xg_in 1050 (by decide +kernel) (by decide +kernel)
set_option maxRecDepth 100000 in
theorem xw_979 : (Jvm.Cond.code ({ cls := "HyperHostModel", name := "perform", desc := "(I)Z" } : Jvm.MethodName) prog_13_method_30_code (6 : Nat) (Option.some Jvm.ClassFile.FieldType.boolean)) ∈ lw_g := xg_in 1051 (by decide +kernel) (by decide +kernel)
set_option maxRecDepth 100000 in
theorem xw_980 : (Jvm.Cond.methodLink "HyperHostModel" (188 : Nat) ({ cls := "HyperHostModel", name := "jump", desc := "(I)I" } : Jvm.MethodName)) ∈ lw_g := xg_in 1052 (by decide +kernel) (by decide +kernel)
set_option maxRecDepth 100000 in
theorem xw_981 : (Jvm.Cond.static ({ cls := "HyperHostModel", name := "jump", desc := "(I)I" } : Jvm.MethodName)) ∈ lw_g := xg_in 1053 (by decide +kernel) (by decide +kernel)
set_option maxRecDepth 100000 in
theorem xw_982 : (Jvm.Cond.code ({ cls := "HyperHostModel", name := "jump", desc := "(I)I" } : Jvm.MethodName) prog_13_method_35_code (1 : Nat) (Option.some Jvm.ClassFile.FieldType.int)) ∈ lw_g := xg_in 1054 (by decide +kernel) (by decide +kernel)
set_option maxRecDepth 100000 in
theorem xw_983 : (Jvm.Cond.methodLink "HyperHostModel" (219 : Nat) ({ cls := "HyperHostModel", name := "signed", desc := "(II)I" } : Jvm.MethodName)) ∈ lw_g := xg_in 1055 (by decide +kernel) (by decide +kernel)
set_option maxRecDepth 100000 in
theorem xw_984 : (Jvm.Cond.static ({ cls := "HyperHostModel", name := "signed", desc := "(II)I" } : Jvm.MethodName)) ∈ lw_g := xg_in 1056 (by decide +kernel) (by decide +kernel)
set_option maxRecDepth 100000 in
theorem xw_985 : (Jvm.Cond.code ({ cls := "HyperHostModel", name := "signed", desc := "(II)I" } : Jvm.MethodName) prog_13_method_29_code (3 : Nat) (Option.some Jvm.ClassFile.FieldType.int)) ∈ lw_g := xg_in 1057 (by decide +kernel) (by decide +kernel)
set_option maxRecDepth 100000 in
theorem xw_986 : (Jvm.Cond.methodLink "HyperHostModel" (191 : Nat) ({ cls := "HyperHostModel", name := "go", desc := "(I)Z" } : Jvm.MethodName)) ∈ lw_g := xg_in 1058 (by decide +kernel) (by decide +kernel)
set_option maxRecDepth 100000 in
theorem xw_988 : (Jvm.Cond.instanceMethod ({ cls := "HyperHostModel", name := "go", desc := "(I)Z" } : Jvm.MethodName)) ∈ lw_g := xg_in 1060 (by decide +kernel) (by decide +kernel)
set_option maxRecDepth 100000 in
theorem xw_989 : (Jvm.Cond.code ({ cls := "HyperHostModel", name := "go", desc := "(I)Z" } : Jvm.MethodName) prog_13_method_34_code (2 : Nat) (Option.some Jvm.ClassFile.FieldType.boolean)) ∈ lw_g := xg_in 1061 (by decide +kernel) (by decide +kernel)
set_option maxRecDepth 100000 in
theorem xw_990 : (Jvm.Cond.methodLink "HyperHostModel" (195 : Nat) ({ cls := "HyperHostModel", name := "illegal", desc := "(I)Z" } : Jvm.MethodName)) ∈ lw_g := xg_in 1062 (by decide +kernel) (by decide +kernel)
set_option maxRecDepth 100000 in
theorem xw_992 : (Jvm.Cond.instanceMethod ({ cls := "HyperHostModel", name := "illegal", desc := "(I)Z" } : Jvm.MethodName)) ∈ lw_g := xg_in 1064 (by decide +kernel) (by decide +kernel)
set_option maxRecDepth 100000 in
theorem xw_993 : (Jvm.Cond.code ({ cls := "HyperHostModel", name := "illegal", desc := "(I)Z" } : Jvm.MethodName) prog_13_method_31_code (2 : Nat) (Option.some Jvm.ClassFile.FieldType.boolean)) ∈ lw_g := xg_in 1065 (by decide +kernel) (by decide +kernel)
set_option maxRecDepth 100000 in
theorem xw_994 : (Jvm.Cond.methodLink "HyperHostModel" (198 : Nat) ({ cls := "HyperHostModel", name := "branch", desc := "(IIII)Z" } : Jvm.MethodName)) ∈ lw_g := xg_in 1066 (by decide +kernel) (by decide +kernel)
set_option maxRecDepth 100000 in
theorem xw_996 : (Jvm.Cond.instanceMethod ({ cls := "HyperHostModel", name := "branch", desc := "(IIII)Z" } : Jvm.MethodName)) ∈ lw_g := xg_in 1068 (by decide +kernel) (by decide +kernel)
set_option maxRecDepth 100000 in
theorem xw_997 : (Jvm.Cond.code ({ cls := "HyperHostModel", name := "branch", desc := "(IIII)Z" } : Jvm.MethodName) prog_13_method_37_code (7 : Nat) (Option.some Jvm.ClassFile.FieldType.boolean)) ∈ lw_g := xg_in 1069 (by decide +kernel) (by decide +kernel)
set_option maxRecDepth 100000 in
theorem xw_998 : (Jvm.Cond.methodLink "HyperHostModel" (223 : Nat) ({ cls := "HyperHostModel", name := "lessPlain", desc := "(II)Z" } : Jvm.MethodName)) ∈ lw_g := xg_in 1070 (by decide +kernel) (by decide +kernel)
set_option maxRecDepth 100000 in
theorem xw_999 : (Jvm.Cond.static ({ cls := "HyperHostModel", name := "lessPlain", desc := "(II)Z" } : Jvm.MethodName)) ∈ lw_g := xg_in 1071 (by decide +kernel) (by decide +kernel)
set_option maxRecDepth 100000 in
theorem xw_1000 : (Jvm.Cond.code ({ cls := "HyperHostModel", name := "lessPlain", desc := "(II)Z" } : Jvm.MethodName) prog_13_method_36_code (2 : Nat) (Option.some Jvm.ClassFile.FieldType.boolean)) ∈ lw_g := xg_in 1072 (by decide +kernel) (by decide +kernel)
set_option maxRecDepth 100000 in
theorem xw_1001 : (Jvm.Cond.methodLink "HyperHostModel" (202 : Nat) ({ cls := "HyperHostModel", name := "load", desc := "(III)Z" } : Jvm.MethodName)) ∈ lw_g := xg_in 1073 (by decide +kernel) (by decide +kernel)
set_option maxRecDepth 100000 in
theorem xw_1003 : (Jvm.Cond.instanceMethod ({ cls := "HyperHostModel", name := "load", desc := "(III)Z" } : Jvm.MethodName)) ∈ lw_g := xg_in 1075 (by decide +kernel) (by decide +kernel)
set_option maxRecDepth 100000 in
theorem xw_1004 : (Jvm.Cond.code ({ cls := "HyperHostModel", name := "load", desc := "(III)Z" } : Jvm.MethodName) prog_13_method_38_code (4 : Nat) (Option.some Jvm.ClassFile.FieldType.boolean)) ∈ lw_g := xg_in 1076 (by decide +kernel) (by decide +kernel)
set_option maxRecDepth 100000 in
theorem xw_1005 : (Jvm.Cond.methodLink "HyperHostModel" (230 : Nat) ({ cls := "HyperHostModel", name := "take", desc := "(IIZI)Z" } : Jvm.MethodName)) ∈ lw_g := xg_in 1077 (by decide +kernel) (by decide +kernel)
set_option maxRecDepth 100000 in
theorem xw_1007 : (Jvm.Cond.instanceMethod ({ cls := "HyperHostModel", name := "take", desc := "(IIZI)Z" } : Jvm.MethodName)) ∈ lw_g := xg_in 1079 (by decide +kernel) (by decide +kernel)
set_option maxRecDepth 100000 in
theorem xw_1008 : (Jvm.Cond.code ({ cls := "HyperHostModel", name := "take", desc := "(IIZI)Z" } : Jvm.MethodName) prog_13_method_39_code (8 : Nat) (Option.some Jvm.ClassFile.FieldType.boolean)) ∈ lw_g := xg_in 1080 (by decide +kernel) (by decide +kernel)
set_option maxRecDepth 100000 in
theorem xw_1009 : (Jvm.Cond.methodLink "HyperHostModel" (238 : Nat) ({ cls := "HyperHostModel", name := "bytes", desc := "(JI)I" } : Jvm.MethodName)) ∈ lw_g := xg_in 1081 (by decide +kernel) (by decide +kernel)
set_option maxRecDepth 100000 in
theorem xw_1011 : (Jvm.Cond.instanceMethod ({ cls := "HyperHostModel", name := "bytes", desc := "(JI)I" } : Jvm.MethodName)) ∈ lw_g := xg_in 1083 (by decide +kernel) (by decide +kernel)
set_option maxRecDepth 100000 in
theorem xw_1012 : (Jvm.Cond.code ({ cls := "HyperHostModel", name := "bytes", desc := "(JI)I" } : Jvm.MethodName) prog_13_method_27_code (6 : Nat) (Option.some Jvm.ClassFile.FieldType.int)) ∈ lw_g := xg_in 1084 (by decide +kernel) (by decide +kernel)
set_option maxRecDepth 100000 in
theorem xw_1013 : (Jvm.Cond.constant "HyperHostModel" (181 : Nat) (65535 : Int32)) ∈ lw_g := xg_in 1085 (by decide +kernel) (by decide +kernel)
set_option maxRecDepth 100000 in
theorem xw_1014 : (Jvm.Cond.methodLink "HyperHostModel" (206 : Nat) ({ cls := "HyperHostModel", name := "store", desc := "(III)Z" } : Jvm.MethodName)) ∈ lw_g := xg_in 1086 (by decide +kernel) (by decide +kernel)
set_option maxRecDepth 100000 in
theorem xw_1016 : (Jvm.Cond.instanceMethod ({ cls := "HyperHostModel", name := "store", desc := "(III)Z" } : Jvm.MethodName)) ∈ lw_g := xg_in 1088 (by decide +kernel) (by decide +kernel)
set_option maxRecDepth 100000 in
theorem xw_1017 : (Jvm.Cond.code ({ cls := "HyperHostModel", name := "store", desc := "(III)Z" } : Jvm.MethodName) prog_13_method_40_code (4 : Nat) (Option.some Jvm.ClassFile.FieldType.boolean)) ∈ lw_g := xg_in 1089 (by decide +kernel) (by decide +kernel)
set_option maxRecDepth 100000 in
theorem xw_1018 : (Jvm.Cond.methodLink "HyperHostModel" (242 : Nat) ({ cls := "HyperHostModel", name := "give", desc := "(III)Z" } : Jvm.MethodName)) ∈ lw_g := xg_in 1090 (by decide +kernel) (by decide +kernel)
set_option maxRecDepth 100000 in
theorem xw_1020 : (Jvm.Cond.instanceMethod ({ cls := "HyperHostModel", name := "give", desc := "(III)Z" } : Jvm.MethodName)) ∈ lw_g := xg_in 1092 (by decide +kernel) (by decide +kernel)
set_option maxRecDepth 100000 in
theorem xw_1021 : (Jvm.Cond.code ({ cls := "HyperHostModel", name := "give", desc := "(III)Z" } : Jvm.MethodName) prog_13_method_41_code (6 : Nat) (Option.some Jvm.ClassFile.FieldType.boolean)) ∈ lw_g := xg_in 1093 (by decide +kernel) (by decide +kernel)
set_option maxRecDepth 100000 in
theorem xw_1022 : (Jvm.Cond.methodLink "HyperHostModel" (245 : Nat) ({ cls := "HyperHostModel", name := "putBytes", desc := "(JII)V" } : Jvm.MethodName)) ∈ lw_g := xg_in 1094 (by decide +kernel) (by decide +kernel)
set_option maxRecDepth 100000 in
theorem xw_1024 : (Jvm.Cond.instanceMethod ({ cls := "HyperHostModel", name := "putBytes", desc := "(JII)V" } : Jvm.MethodName)) ∈ lw_g := xg_in 1096 (by decide +kernel) (by decide +kernel)
set_option maxRecDepth 100000 in
theorem xw_1025 : (Jvm.Cond.code ({ cls := "HyperHostModel", name := "putBytes", desc := "(JII)V" } : Jvm.MethodName) prog_13_method_28_code (8 : Nat) (Option.none : Option Jvm.ClassFile.FieldType)) ∈ lw_g := xg_in 1097 (by decide +kernel) (by decide +kernel)
set_option maxRecDepth 100000 in
theorem xw_1026 : (Jvm.Cond.methodLink "HyperHostModel" (209 : Nat) ({ cls := "HyperHostModel", name := "small", desc := "(IIII)Z" } : Jvm.MethodName)) ∈ lw_g := xg_in 1098 (by decide +kernel) (by decide +kernel)
set_option maxRecDepth 100000 in
theorem xw_1028 : (Jvm.Cond.instanceMethod ({ cls := "HyperHostModel", name := "small", desc := "(IIII)Z" } : Jvm.MethodName)) ∈ lw_g := xg_in 1100 (by decide +kernel) (by decide +kernel)
set_option maxRecDepth 100000 in
theorem xw_1029 : (Jvm.Cond.code ({ cls := "HyperHostModel", name := "small", desc := "(IIII)Z" } : Jvm.MethodName) prog_13_method_42_code (7 : Nat) (Option.some Jvm.ClassFile.FieldType.boolean)) ∈ lw_g := xg_in 1101 (by decide +kernel) (by decide +kernel)
set_option maxRecDepth 100000 in
theorem xw_1030 : (Jvm.Cond.methodLink "HyperHostModel" (212 : Nat) ({ cls := "HyperHostModel", name := "pair", desc := "(IIIII)Z" } : Jvm.MethodName)) ∈ lw_g := xg_in 1102 (by decide +kernel) (by decide +kernel)
set_option maxRecDepth 100000 in
theorem xw_1032 : (Jvm.Cond.instanceMethod ({ cls := "HyperHostModel", name := "pair", desc := "(IIIII)Z" } : Jvm.MethodName)) ∈ lw_g := xg_in 1104 (by decide +kernel) (by decide +kernel)
set_option maxRecDepth 100000 in
theorem xw_1033 : (Jvm.Cond.code ({ cls := "HyperHostModel", name := "pair", desc := "(IIIII)Z" } : Jvm.MethodName) prog_13_method_43_code (7 : Nat) (Option.some Jvm.ClassFile.FieldType.boolean)) ∈ lw_g := xg_in 1105 (by decide +kernel) (by decide +kernel)
set_option maxRecDepth 100000 in
theorem xw_1034 : (Jvm.Cond.methodLink "HyperHostModel" (249 : Nat) ({ cls := "HyperHostModel", name := "product", desc := "(III)I" } : Jvm.MethodName)) ∈ lw_g := xg_in 1106 (by decide +kernel) (by decide +kernel)
set_option maxRecDepth 100000 in
theorem xw_1035 : (Jvm.Cond.static ({ cls := "HyperHostModel", name := "product", desc := "(III)I" } : Jvm.MethodName)) ∈ lw_g := xg_in 1107 (by decide +kernel) (by decide +kernel)
set_option maxRecDepth 100000 in
theorem xw_1036 : (Jvm.Cond.code ({ cls := "HyperHostModel", name := "product", desc := "(III)I" } : Jvm.MethodName) prog_13_method_44_code (11 : Nat) (Option.some Jvm.ClassFile.FieldType.int)) ∈ lw_g := xg_in 1108 (by decide +kernel) (by decide +kernel)
set_option maxRecDepth 100000 in
theorem xw_1037 : (Jvm.Cond.methodLink "HyperHostModel" (216 : Nat) ({ cls := "HyperHostModel", name := "system", desc := "(IIIII)Z" } : Jvm.MethodName)) ∈ lw_g := xg_in 1109 (by decide +kernel) (by decide +kernel)
set_option maxRecDepth 100000 in
theorem xw_1039 : (Jvm.Cond.instanceMethod ({ cls := "HyperHostModel", name := "system", desc := "(IIIII)Z" } : Jvm.MethodName)) ∈ lw_g := xg_in 1111 (by decide +kernel) (by decide +kernel)
set_option maxRecDepth 100000 in
theorem xw_1040 : (Jvm.Cond.code ({ cls := "HyperHostModel", name := "system", desc := "(IIIII)Z" } : Jvm.MethodName) prog_13_method_45_code (8 : Nat) (Option.some Jvm.ClassFile.FieldType.boolean)) ∈ lw_g := xg_in 1112 (by decide +kernel) (by decide +kernel)
set_option maxRecDepth 100000 in
theorem xw_1041 : (Jvm.Cond.methodLink "HyperHostModel" (253 : Nat) ({ cls := "HyperHostModel", name := "asIfVirtual", desc := "(IIII)Z" } : Jvm.MethodName)) ∈ lw_g := xg_in 1113 (by decide +kernel) (by decide +kernel)
set_option maxRecDepth 100000 in
theorem xw_1043 : (Jvm.Cond.instanceMethod ({ cls := "HyperHostModel", name := "asIfVirtual", desc := "(IIII)Z" } : Jvm.MethodName)) ∈ lw_g := xg_in 1115 (by decide +kernel) (by decide +kernel)
set_option maxRecDepth 100000 in
theorem xw_1044 : (Jvm.Cond.code ({ cls := "HyperHostModel", name := "asIfVirtual", desc := "(IIII)Z" } : Jvm.MethodName) prog_13_method_49_code (10 : Nat) (Option.some Jvm.ClassFile.FieldType.boolean)) ∈ lw_g := xg_in 1116 (by decide +kernel) (by decide +kernel)
set_option maxRecDepth 100000 in
theorem xw_1045 : (Jvm.Cond.methodLink "HyperHostModel" (259 : Nat) ({ cls := "HyperHostModel", name := "notThere", desc := "(I)Z" } : Jvm.MethodName)) ∈ lw_g := xg_in 1117 (by decide +kernel) (by decide +kernel)
set_option maxRecDepth 100000 in
theorem xw_1047 : (Jvm.Cond.instanceMethod ({ cls := "HyperHostModel", name := "notThere", desc := "(I)Z" } : Jvm.MethodName)) ∈ lw_g := xg_in 1119 (by decide +kernel) (by decide +kernel)
set_option maxRecDepth 100000 in
theorem xw_1048 : (Jvm.Cond.code ({ cls := "HyperHostModel", name := "notThere", desc := "(I)Z" } : Jvm.MethodName) prog_13_method_32_code (2 : Nat) (Option.some Jvm.ClassFile.FieldType.boolean)) ∈ lw_g := xg_in 1120 (by decide +kernel) (by decide +kernel)
set_option maxRecDepth 100000 in
theorem xw_1049 : (Jvm.Cond.methodLink "HyperHostModel" (256 : Nat) ({ cls := "HyperHostModel", name := "control", desc := "(IIII)Z" } : Jvm.MethodName)) ∈ lw_g := xg_in 1121 (by decide +kernel) (by decide +kernel)
set_option maxRecDepth 100000 in
theorem xw_1051 : (Jvm.Cond.instanceMethod ({ cls := "HyperHostModel", name := "control", desc := "(IIII)Z" } : Jvm.MethodName)) ∈ lw_g := xg_in 1123 (by decide +kernel) (by decide +kernel)
set_option maxRecDepth 100000 in
theorem xw_1052 : (Jvm.Cond.code ({ cls := "HyperHostModel", name := "control", desc := "(IIII)Z" } : Jvm.MethodName) prog_13_method_48_code (12 : Nat) (Option.some Jvm.ClassFile.FieldType.boolean)) ∈ lw_g := xg_in 1124 (by decide +kernel) (by decide +kernel)
set_option maxRecDepth 100000 in
theorem xw_1053 : (Jvm.Cond.methodLink "HyperHostModel" (271 : Nat) ({ cls := "HyperHostModel", name := "refusal", desc := "(IZ)I" } : Jvm.MethodName)) ∈ lw_g := xg_in 1125 (by decide +kernel) (by decide +kernel)
set_option maxRecDepth 100000 in
theorem xw_1055 : (Jvm.Cond.instanceMethod ({ cls := "HyperHostModel", name := "refusal", desc := "(IZ)I" } : Jvm.MethodName)) ∈ lw_g := xg_in 1127 (by decide +kernel) (by decide +kernel)
set_option maxRecDepth 100000 in
theorem xw_1056 : (Jvm.Cond.code ({ cls := "HyperHostModel", name := "refusal", desc := "(IZ)I" } : Jvm.MethodName) prog_13_method_11_code (4 : Nat) (Option.some Jvm.ClassFile.FieldType.int)) ∈ lw_g := xg_in 1128 (by decide +kernel) (by decide +kernel)
set_option maxRecDepth 100000 in
theorem xw_1057 : (Jvm.Cond.methodLink "HyperHostModel" (262 : Nat) ({ cls := "HyperHostModel", name := "call", desc := "()Z" } : Jvm.MethodName)) ∈ lw_g := xg_in 1129 (by decide +kernel) (by decide +kernel)
set_option maxRecDepth 100000 in
theorem xw_1059 : (Jvm.Cond.instanceMethod ({ cls := "HyperHostModel", name := "call", desc := "()Z" } : Jvm.MethodName)) ∈ lw_g := xg_in 1131 (by decide +kernel) (by decide +kernel)
set_option maxRecDepth 100000 in
theorem xw_1060 : (Jvm.Cond.code ({ cls := "HyperHostModel", name := "call", desc := "()Z" } : Jvm.MethodName) prog_13_method_46_code (3 : Nat) (Option.some Jvm.ClassFile.FieldType.boolean)) ∈ lw_g := xg_in 1132 (by decide +kernel) (by decide +kernel)
set_option maxRecDepth 100000 in
theorem xw_1061 : (Jvm.Cond.methodLink "HyperHostModel" (265 : Nat) ({ cls := "HyperHostModel", name := "back", desc := "(I)Z" } : Jvm.MethodName)) ∈ lw_g := xg_in 1133 (by decide +kernel) (by decide +kernel)
set_option maxRecDepth 100000 in
theorem xw_1063 : (Jvm.Cond.instanceMethod ({ cls := "HyperHostModel", name := "back", desc := "(I)Z" } : Jvm.MethodName)) ∈ lw_g := xg_in 1135 (by decide +kernel) (by decide +kernel)
set_option maxRecDepth 100000 in
theorem xw_1064 : (Jvm.Cond.code ({ cls := "HyperHostModel", name := "back", desc := "(I)Z" } : Jvm.MethodName) prog_13_method_47_code (4 : Nat) (Option.some Jvm.ClassFile.FieldType.boolean)) ∈ lw_g := xg_in 1136 (by decide +kernel) (by decide +kernel)
set_option maxRecDepth 100000 in
theorem xw_1065 : (Jvm.Cond.methodLink "HyperHostModel" (289 : Nat) ({ cls := "HyperHostModel", name := "trap", desc := "()V" } : Jvm.MethodName)) ∈ lw_g := xg_in 1137 (by decide +kernel) (by decide +kernel)
set_option maxRecDepth 100000 in
theorem xw_1067 : (Jvm.Cond.instanceMethod ({ cls := "HyperHostModel", name := "trap", desc := "()V" } : Jvm.MethodName)) ∈ lw_g := xg_in 1139 (by decide +kernel) (by decide +kernel)
set_option maxRecDepth 100000 in
theorem xw_1068 : (Jvm.Cond.code ({ cls := "HyperHostModel", name := "trap", desc := "()V" } : Jvm.MethodName) prog_13_method_14_code (1 : Nat) (Option.none : Option Jvm.ClassFile.FieldType)) ∈ lw_g := xg_in 1140 (by decide +kernel) (by decide +kernel)
set_option maxRecDepth 100000 in
theorem xw_1069 : (Jvm.Cond.methodLink "HyperHostLaw" (64 : Nat) ({ cls := "HyperHostModel", name := "count", desc := "(I)I" } : Jvm.MethodName)) ∈ lw_g := xg_in 1141 (by decide +kernel) (by decide +kernel)
set_option maxRecDepth 100000 in
theorem xw_1070 : (Jvm.Cond.instanceMethod ({ cls := "HyperHostModel", name := "count", desc := "(I)I" } : Jvm.MethodName)) ∈ lw_g := xg_in 1142 (by decide +kernel) (by decide +kernel)
set_option maxRecDepth 100000 in
theorem xw_1071 : (Jvm.Cond.selects "HyperHostModel" ({ cls := "HyperHostModel", name := "count", desc := "(I)I" } : Jvm.MethodName) ({ cls := "HyperHostModel", name := "count", desc := "(I)I" } : Jvm.MethodName)) ∈ lw_g := xg_in 1143 (by decide +kernel) (by decide +kernel)
set_option maxRecDepth 100000 in
theorem xw_1072 : (Jvm.Cond.code ({ cls := "HyperHostModel", name := "count", desc := "(I)I" } : Jvm.MethodName) prog_13_method_65_code (2 : Nat) (Option.some Jvm.ClassFile.FieldType.int)) ∈ lw_g := xg_in 1144 (by decide +kernel) (by decide +kernel)
set_option maxRecDepth 100000 in
theorem xw_1073 : (Jvm.Cond.methodLink "HyperHostLaw" (68 : Nat) ({ cls := "HyperHostModel", name := "console", desc := "(I)I" } : Jvm.MethodName)) ∈ lw_g := xg_in 1145 (by decide +kernel) (by decide +kernel)
set_option maxRecDepth 100000 in
theorem xw_1074 : (Jvm.Cond.instanceMethod ({ cls := "HyperHostModel", name := "console", desc := "(I)I" } : Jvm.MethodName)) ∈ lw_g := xg_in 1146 (by decide +kernel) (by decide +kernel)
set_option maxRecDepth 100000 in
theorem xw_1075 : (Jvm.Cond.selects "HyperHostModel" ({ cls := "HyperHostModel", name := "console", desc := "(I)I" } : Jvm.MethodName) ({ cls := "HyperHostModel", name := "console", desc := "(I)I" } : Jvm.MethodName)) ∈ lw_g := xg_in 1147 (by decide +kernel) (by decide +kernel)
set_option maxRecDepth 100000 in
theorem xw_1076 : (Jvm.Cond.code ({ cls := "HyperHostModel", name := "console", desc := "(I)I" } : Jvm.MethodName) prog_13_method_66_code (2 : Nat) (Option.some Jvm.ClassFile.FieldType.int)) ∈ lw_g := xg_in 1148 (by decide +kernel) (by decide +kernel)
set_option maxRecDepth 100000 in
theorem xw_1077 : (Jvm.Cond.methodLink "HyperHostLaw" (73 : Nat) ({ cls := "HyperHostModel", name := "breaches", desc := "()I" } : Jvm.MethodName)) ∈ lw_g := xg_in 1149 (by decide +kernel) (by decide +kernel)
set_option maxRecDepth 100000 in
theorem xw_1078 : (Jvm.Cond.instanceMethod ({ cls := "HyperHostModel", name := "breaches", desc := "()I" } : Jvm.MethodName)) ∈ lw_g := xg_in 1150 (by decide +kernel) (by decide +kernel)
set_option maxRecDepth 100000 in
theorem xw_1079 : (Jvm.Cond.selects "HyperHostModel" ({ cls := "HyperHostModel", name := "breaches", desc := "()I" } : Jvm.MethodName) ({ cls := "HyperHostModel", name := "breaches", desc := "()I" } : Jvm.MethodName)) ∈ lw_g := xg_in 1151 (by decide +kernel) (by decide +kernel)
set_option maxRecDepth 100000 in
theorem xw_1080 : (Jvm.Cond.code ({ cls := "HyperHostModel", name := "breaches", desc := "()I" } : Jvm.MethodName) prog_13_method_67_code (1 : Nat) (Option.some Jvm.ClassFile.FieldType.int)) ∈ lw_g := xg_in 1152 (by decide +kernel) (by decide +kernel)
set_option maxRecDepth 100000 in
theorem xw_1081 : (Jvm.Cond.fieldLink "HyperHost$Translator" (34 : Nat) "HyperHost$Access" "misaligned" "I") ∈ lw_g := xg_in 1153 (by decide +kernel) (by decide +kernel)
set_option maxRecDepth 100000 in
theorem xw_1082 : (Jvm.Cond.fieldLink "HyperHost$Access" (37 : Nat) "HyperHost$Access" "any" "I") ∈ lw_g := xg_in 1154 (by decide +kernel) (by decide +kernel)
set_option maxRecDepth 100000 in
theorem xw_1083 : (Jvm.Cond.fieldLink "HyperHost$Translator" (68 : Nat) "HyperHost$Access" "all" "I") ∈ lw_g := xg_in 1155 (by decide +kernel) (by decide +kernel)
set_option maxRecDepth 100000 in
theorem xw_1084 : (Jvm.Cond.fieldLink "HyperHost$Access" (47 : Nat) "HyperHost$Access" "fault" "I") ∈ lw_g := xg_in 1156 (by decide +kernel) (by decide +kernel)
set_option maxRecDepth 100000 in
theorem xw_1085 : (Jvm.Cond.fieldLink "HyperHost$Access" (50 : Nat) "HyperHost$Access" "guestFault" "I") ∈ lw_g := xg_in 1157 (by decide +kernel) (by decide +kernel)
set_option maxRecDepth 100000 in
theorem xw_1086 : (Jvm.Cond.fieldLink "HyperHost$Access" (53 : Nat) "HyperHost$Access" "outside" "I") ∈ lw_g := xg_in 1158 (by decide +kernel) (by decide +kernel)
