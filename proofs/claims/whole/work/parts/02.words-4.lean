set_option maxRecDepth 100000 in
theorem xw_705 : (Jvm.Cond.selects "HyperHost" ({ cls := "HyperHost", name := "count", desc := "(I)I" } : Jvm.MethodName) ({ cls := "HyperHost", name := "count", desc := "(I)I" } : Jvm.MethodName)) ∈ lw_g := xg_in 777 (by decide +kernel) (by decide +kernel)
set_option maxRecDepth 100000 in
theorem xw_706 : (Jvm.Cond.code ({ cls := "HyperHost", name := "count", desc := "(I)I" } : Jvm.MethodName) prog_1_method_13_code (2 : Nat) (Option.some Jvm.ClassFile.FieldType.int)) ∈ lw_g := xg_in 778 (by decide +kernel) (by decide +kernel)
set_option maxRecDepth 100000 in
theorem xw_707 : (Jvm.Cond.methodLink "HyperHostLaw" (65 : Nat) ({ cls := "HyperHost", name := "console", desc := "(I)I" } : Jvm.MethodName)) ∈ lw_g := xg_in 779 (by decide +kernel) (by decide +kernel)
set_option maxRecDepth 100000 in
theorem xw_708 : (Jvm.Cond.instanceMethod ({ cls := "HyperHost", name := "console", desc := "(I)I" } : Jvm.MethodName)) ∈ lw_g := xg_in 780 (by decide +kernel) (by decide +kernel)
set_option maxRecDepth 100000 in
theorem xw_709 : (Jvm.Cond.selects "HyperHost" ({ cls := "HyperHost", name := "console", desc := "(I)I" } : Jvm.MethodName) ({ cls := "HyperHost", name := "console", desc := "(I)I" } : Jvm.MethodName)) ∈ lw_g := xg_in 781 (by decide +kernel) (by decide +kernel)
set_option maxRecDepth 100000 in
theorem xw_710 : (Jvm.Cond.code ({ cls := "HyperHost", name := "console", desc := "(I)I" } : Jvm.MethodName) prog_1_method_14_code (2 : Nat) (Option.some Jvm.ClassFile.FieldType.int)) ∈ lw_g := xg_in 782 (by decide +kernel) (by decide +kernel)
set_option maxRecDepth 100000 in
theorem xw_711 : (Jvm.Cond.methodLink "HyperHost" (104 : Nat) ({ cls := "HyperHost$Memory", name := "read", desc := "(II)I" } : Jvm.MethodName)) ∈ lw_g := xg_in 783 (by decide +kernel) (by decide +kernel)
set_option maxRecDepth 100000 in
theorem xw_712 : (Jvm.Cond.methodLink "HyperHostLaw" (69 : Nat) ({ cls := "HyperHost", name := "breaches", desc := "()I" } : Jvm.MethodName)) ∈ lw_g := xg_in 784 (by decide +kernel) (by decide +kernel)
set_option maxRecDepth 100000 in
theorem xw_713 : (Jvm.Cond.instanceMethod ({ cls := "HyperHost", name := "breaches", desc := "()I" } : Jvm.MethodName)) ∈ lw_g := xg_in 785 (by decide +kernel) (by decide +kernel)
set_option maxRecDepth 100000 in
theorem xw_714 : (Jvm.Cond.selects "HyperHost" ({ cls := "HyperHost", name := "breaches", desc := "()I" } : Jvm.MethodName) ({ cls := "HyperHost", name := "breaches", desc := "()I" } : Jvm.MethodName)) ∈ lw_g := xg_in 786 (by decide +kernel) (by decide +kernel)
set_option maxRecDepth 100000 in
theorem xw_715 : (Jvm.Cond.code ({ cls := "HyperHost", name := "breaches", desc := "()I" } : Jvm.MethodName) prog_1_method_15_code (1 : Nat) (Option.some Jvm.ClassFile.FieldType.int)) ∈ lw_g := xg_in 787 (by decide +kernel) (by decide +kernel)
set_option maxRecDepth 100000 in
theorem xw_716 : (Jvm.Cond.classLink "HyperHostLaw" (10 : Nat) "HyperHostModel") ∈ lw_g := xg_in 788 (by decide +kernel) (by decide +kernel)
set_option maxRecDepth 100000 in
theorem xw_717 : (Jvm.Cond.instantiable "HyperHostModel" (27 : Nat)) ∈ lw_g := xg_in 789 (by decide +kernel) (by decide +kernel)
set_option maxRecDepth 100000 in
theorem xw_718 : (Jvm.Cond.methodLink "HyperHostLaw" (12 : Nat) ({ cls := "HyperHostModel", name := "<init>", desc := "()V" } : Jvm.MethodName)) ∈ lw_g := xg_in 790 (by decide +kernel) (by decide +kernel)
set_option maxRecDepth 100000 in
theorem xw_719 : (Jvm.Cond.instanceMethod ({ cls := "HyperHostModel", name := "<init>", desc := "()V" } : Jvm.MethodName)) ∈ lw_g := xg_in 791 (by decide +kernel) (by decide +kernel)
set_option maxRecDepth 100000 in
theorem xw_720 : (Jvm.Cond.code ({ cls := "HyperHostModel", name := "<init>", desc := "()V" } : Jvm.MethodName) prog_13_method_52_code (1 : Nat) (Option.none : Option Jvm.ClassFile.FieldType)) ∈ lw_g := xg_in 792 (by decide +kernel) (by decide +kernel)
set_option maxRecDepth 100000 in
theorem xw_721 : (Jvm.Cond.methodLink "HyperHostModel" (296 : Nat) ({ cls := "java/lang/Object", name := "<init>", desc := "()V" } : Jvm.MethodName)) ∈ lw_g := xg_in 793 (by decide +kernel) (by decide +kernel)
set_option maxRecDepth 100000 in
theorem xw_722 : (Jvm.Cond.constant "HyperHostModel" (1 : Nat) (65536 : Int32)) ∈ lw_g := xg_in 794 (by decide +kernel) (by decide +kernel)
set_option maxRecDepth 100000 in
theorem xw_723 : (Jvm.Cond.methodLink "HyperHostModel" (301 : Nat) ({ cls := "HyperHostModel", name := "clearMachine", desc := "()V" } : Jvm.MethodName)) ∈ lw_g := xg_in 795 (by decide +kernel) (by decide +kernel)
set_option maxRecDepth 100000 in
theorem xw_725 : (Jvm.Cond.instanceMethod ({ cls := "HyperHostModel", name := "clearMachine", desc := "()V" } : Jvm.MethodName)) ∈ lw_g := xg_in 797 (by decide +kernel) (by decide +kernel)
set_option maxRecDepth 100000 in
theorem xw_726 : (Jvm.Cond.code ({ cls := "HyperHostModel", name := "clearMachine", desc := "()V" } : Jvm.MethodName) prog_13_method_1_code (2 : Nat) (Option.none : Option Jvm.ClassFile.FieldType)) ∈ lw_g := xg_in 798 (by decide +kernel) (by decide +kernel)
set_option maxRecDepth 100000 in
theorem xw_727 : (Jvm.Cond.constantLong "HyperHostModel" (25 : Nat) (9223372036854775807 : Int64)) ∈ lw_g := xg_in 799 (by decide +kernel) (by decide +kernel)
set_option maxRecDepth 100000 in
theorem xw_728 : (Jvm.Cond.fieldLink "HyperHostModel" (2 : Nat) "HyperHostModel" "memory" "[I") ∈ lw_g := xg_in 800 (by decide +kernel) (by decide +kernel)
set_option maxRecDepth 100000 in
theorem xw_729 : (Jvm.Cond.fieldLink "HyperHostModel" (8 : Nat) "HyperHostModel" "x" "[I") ∈ lw_g := xg_in 801 (by decide +kernel) (by decide +kernel)
set_option maxRecDepth 100000 in
theorem xw_730 : (Jvm.Cond.fieldLink "HyperHostModel" (14 : Nat) "HyperHostModel" "pc" "I") ∈ lw_g := xg_in 802 (by decide +kernel) (by decide +kernel)
set_option maxRecDepth 100000 in
theorem xw_731 : (Jvm.Cond.fieldLink "HyperHostModel" (18 : Nat) "HyperHostModel" "mode" "I") ∈ lw_g := xg_in 803 (by decide +kernel) (by decide +kernel)
set_option maxRecDepth 100000 in
theorem xw_732 : (Jvm.Cond.fieldLink "HyperHostModel" (21 : Nat) "HyperHostModel" "time" "J") ∈ lw_g := xg_in 804 (by decide +kernel) (by decide +kernel)
set_option maxRecDepth 100000 in
theorem xw_733 : (Jvm.Cond.fieldLink "HyperHostModel" (27 : Nat) "HyperHostModel" "alarm" "J") ∈ lw_g := xg_in 805 (by decide +kernel) (by decide +kernel)
set_option maxRecDepth 100000 in
theorem xw_734 : (Jvm.Cond.fieldLink "HyperHostModel" (30 : Nat) "HyperHostModel" "line" "Z") ∈ lw_g := xg_in 806 (by decide +kernel) (by decide +kernel)
set_option maxRecDepth 100000 in
theorem xw_735 : (Jvm.Cond.fieldLink "HyperHostModel" (34 : Nat) "HyperHostModel" "off" "Z") ∈ lw_g := xg_in 807 (by decide +kernel) (by decide +kernel)
set_option maxRecDepth 100000 in
theorem xw_736 : (Jvm.Cond.fieldLink "HyperHostModel" (11 : Nat) "HyperHostModel" "controls" "[I") ∈ lw_g := xg_in 808 (by decide +kernel) (by decide +kernel)
set_option maxRecDepth 100000 in
theorem xw_737 : (Jvm.Cond.fieldLink "HyperHostModel" (268 : Nat) "HyperHostModel" "console" "[I") ∈ lw_g := xg_in 809 (by decide +kernel) (by decide +kernel)
set_option maxRecDepth 100000 in
theorem xw_738 : (Jvm.Cond.fieldLink "HyperHostModel" (37 : Nat) "HyperHostModel" "printed" "I") ∈ lw_g := xg_in 810 (by decide +kernel) (by decide +kernel)
set_option maxRecDepth 100000 in
theorem xw_739 : (Jvm.Cond.fieldLink "HyperHostModel" (40 : Nat) "HyperHostModel" "toS" "I") ∈ lw_g := xg_in 811 (by decide +kernel) (by decide +kernel)
set_option maxRecDepth 100000 in
theorem xw_740 : (Jvm.Cond.fieldLink "HyperHostModel" (43 : Nat) "HyperHostModel" "toVs" "I") ∈ lw_g := xg_in 812 (by decide +kernel) (by decide +kernel)
set_option maxRecDepth 100000 in
theorem xw_741 : (Jvm.Cond.fieldLink "HyperHostModel" (46 : Nat) "HyperHostModel" "interrupts" "I") ∈ lw_g := xg_in 813 (by decide +kernel) (by decide +kernel)
set_option maxRecDepth 100000 in
theorem xw_742 : (Jvm.Cond.fieldLink "HyperHostModel" (81 : Nat) "HyperHostModel" "cause" "I") ∈ lw_g := xg_in 814 (by decide +kernel) (by decide +kernel)
set_option maxRecDepth 100000 in
theorem xw_743 : (Jvm.Cond.fieldLink "HyperHostModel" (84 : Nat) "HyperHostModel" "wrong" "I") ∈ lw_g := xg_in 815 (by decide +kernel) (by decide +kernel)
set_option maxRecDepth 100000 in
theorem xw_744 : (Jvm.Cond.fieldLink "HyperHostModel" (87 : Nat) "HyperHostModel" "ofGuest" "Z") ∈ lw_g := xg_in 816 (by decide +kernel) (by decide +kernel)
set_option maxRecDepth 100000 in
theorem xw_745 : (Jvm.Cond.fieldLink "HyperHostModel" (90 : Nat) "HyperHostModel" "far" "J") ∈ lw_g := xg_in 817 (by decide +kernel) (by decide +kernel)
set_option maxRecDepth 100000 in
theorem xw_746 : (Jvm.Cond.fieldLink "HyperHostModel" (93 : Nat) "HyperHostModel" "ofEntry" "Z") ∈ lw_g := xg_in 818 (by decide +kernel) (by decide +kernel)
set_option maxRecDepth 100000 in
theorem xw_747 : (Jvm.Cond.fieldLink "HyperHostModel" (112 : Nat) "HyperHostModel" "kind" "I") ∈ lw_g := xg_in 819 (by decide +kernel) (by decide +kernel)
set_option maxRecDepth 100000 in
theorem xw_748 : (Jvm.Cond.fieldLink "HyperHostModel" (178 : Nat) "HyperHostModel" "virtual" "Z") ∈ lw_g := xg_in 820 (by decide +kernel) (by decide +kernel)
set_option maxRecDepth 100000 in
theorem xw_749 : (Jvm.Cond.fieldLink "HyperHostModel" (175 : Nat) "HyperHostModel" "user" "Z") ∈ lw_g := xg_in 821 (by decide +kernel) (by decide +kernel)
set_option maxRecDepth 100000 in
theorem xw_750 : (Jvm.Cond.fieldLink "HyperHostModel" (172 : Nat) "HyperHostModel" "executes" "Z") ∈ lw_g := xg_in 822 (by decide +kernel) (by decide +kernel)
set_option maxRecDepth 100000 in
theorem xw_751 : (Jvm.Cond.fieldLink "HyperHostModel" (115 : Nat) "HyperHostModel" "address" "I") ∈ lw_g := xg_in 823 (by decide +kernel) (by decide +kernel)
set_option maxRecDepth 100000 in
theorem xw_752 : (Jvm.Cond.fieldLink "HyperHostModel" (118 : Nat) "HyperHostModel" "asGuest" "Z") ∈ lw_g := xg_in 824 (by decide +kernel) (by decide +kernel)
set_option maxRecDepth 100000 in
theorem xw_753 : (Jvm.Cond.fieldLink "HyperHostModel" (182 : Nat) "HyperHostModel" "next" "I") ∈ lw_g := xg_in 825 (by decide +kernel) (by decide +kernel)
set_option maxRecDepth 100000 in
theorem xw_754 : (Jvm.Cond.laysFinal "HyperHostModel" "HyperHostModel" "memory" "[I") ∈ lw_g := xg_in 826 (by decide +kernel) (by decide +kernel)
set_option maxRecDepth 100000 in
theorem xw_756 : (Jvm.Cond.laysFinal "HyperHostModel" "HyperHostModel" "x" "[I") ∈ lw_g := xg_in 828 (by decide +kernel) (by decide +kernel)
set_option maxRecDepth 100000 in
theorem xw_758 : (Jvm.Cond.lays "HyperHostModel" "HyperHostModel" "pc" "I") ∈ lw_g := xg_in 830 (by decide +kernel) (by decide +kernel)
set_option maxRecDepth 100000 in
theorem xw_760 : (Jvm.Cond.lays "HyperHostModel" "HyperHostModel" "mode" "I") ∈ lw_g := xg_in 832 (by decide +kernel) (by decide +kernel)
set_option maxRecDepth 100000 in
theorem xw_762 : (Jvm.Cond.lays "HyperHostModel" "HyperHostModel" "time" "J") ∈ lw_g := xg_in 834 (by decide +kernel) (by decide +kernel)
set_option maxRecDepth 100000 in
theorem xw_764 : (Jvm.Cond.lays "HyperHostModel" "HyperHostModel" "alarm" "J") ∈ lw_g := xg_in 836 (by decide +kernel) (by decide +kernel)
set_option maxRecDepth 100000 in
theorem xw_766 : (Jvm.Cond.lays "HyperHostModel" "HyperHostModel" "line" "Z") ∈ lw_g := xg_in 838 (by decide +kernel) (by decide +kernel)
set_option maxRecDepth 100000 in
theorem xw_768 : (Jvm.Cond.lays "HyperHostModel" "HyperHostModel" "off" "Z") ∈ lw_g := xg_in 840 (by decide +kernel) (by decide +kernel)
set_option maxRecDepth 100000 in
theorem xw_770 : (Jvm.Cond.laysFinal "HyperHostModel" "HyperHostModel" "controls" "[I") ∈ lw_g := xg_in 842 (by decide +kernel) (by decide +kernel)
set_option maxRecDepth 100000 in
theorem xw_772 : (Jvm.Cond.laysFinal "HyperHostModel" "HyperHostModel" "console" "[I") ∈ lw_g := xg_in 844 (by decide +kernel) (by decide +kernel)
set_option maxRecDepth 100000 in
theorem xw_774 : (Jvm.Cond.lays "HyperHostModel" "HyperHostModel" "printed" "I") ∈ lw_g := xg_in 846 (by decide +kernel) (by decide +kernel)
set_option maxRecDepth 100000 in
theorem xw_776 : (Jvm.Cond.lays "HyperHostModel" "HyperHostModel" "toS" "I") ∈ lw_g := xg_in 848 (by decide +kernel) (by decide +kernel)
set_option maxRecDepth 100000 in
theorem xw_778 : (Jvm.Cond.lays "HyperHostModel" "HyperHostModel" "toVs" "I") ∈ lw_g := xg_in 850 (by decide +kernel) (by decide +kernel)
set_option maxRecDepth 100000 in
theorem xw_780 : (Jvm.Cond.lays "HyperHostModel" "HyperHostModel" "interrupts" "I") ∈ lw_g := xg_in 852 (by decide +kernel) (by decide +kernel)
set_option maxRecDepth 100000 in
theorem xw_782 : (Jvm.Cond.lays "HyperHostModel" "HyperHostModel" "cause" "I") ∈ lw_g := xg_in 854 (by decide +kernel) (by decide +kernel)
set_option maxRecDepth 100000 in
theorem xw_784 : (Jvm.Cond.lays "HyperHostModel" "HyperHostModel" "wrong" "I") ∈ lw_g := xg_in 856 (by decide +kernel) (by decide +kernel)
set_option maxRecDepth 100000 in
theorem xw_786 : (Jvm.Cond.lays "HyperHostModel" "HyperHostModel" "ofGuest" "Z") ∈ lw_g := xg_in 858 (by decide +kernel) (by decide +kernel)
set_option maxRecDepth 100000 in
theorem xw_788 : (Jvm.Cond.lays "HyperHostModel" "HyperHostModel" "far" "J") ∈ lw_g := xg_in 860 (by decide +kernel) (by decide +kernel)
set_option maxRecDepth 100000 in
theorem xw_790 : (Jvm.Cond.lays "HyperHostModel" "HyperHostModel" "ofEntry" "Z") ∈ lw_g := xg_in 862 (by decide +kernel) (by decide +kernel)
set_option maxRecDepth 100000 in
theorem xw_792 : (Jvm.Cond.lays "HyperHostModel" "HyperHostModel" "kind" "I") ∈ lw_g := xg_in 864 (by decide +kernel) (by decide +kernel)
set_option maxRecDepth 100000 in
theorem xw_794 : (Jvm.Cond.lays "HyperHostModel" "HyperHostModel" "virtual" "Z") ∈ lw_g := xg_in 866 (by decide +kernel) (by decide +kernel)
set_option maxRecDepth 100000 in
theorem xw_796 : (Jvm.Cond.lays "HyperHostModel" "HyperHostModel" "user" "Z") ∈ lw_g := xg_in 868 (by decide +kernel) (by decide +kernel)
set_option maxRecDepth 100000 in
theorem xw_798 : (Jvm.Cond.lays "HyperHostModel" "HyperHostModel" "executes" "Z") ∈ lw_g := xg_in 870 (by decide +kernel) (by decide +kernel)
set_option maxRecDepth 100000 in
theorem xw_800 : (Jvm.Cond.lays "HyperHostModel" "HyperHostModel" "address" "I") ∈ lw_g := xg_in 872 (by decide +kernel) (by decide +kernel)
set_option maxRecDepth 100000 in
theorem xw_802 : (Jvm.Cond.lays "HyperHostModel" "HyperHostModel" "asGuest" "Z") ∈ lw_g := xg_in 874 (by decide +kernel) (by decide +kernel)
set_option maxRecDepth 100000 in
theorem xw_804 : (Jvm.Cond.lays "HyperHostModel" "HyperHostModel" "next" "I") ∈ lw_g := xg_in 876 (by decide +kernel) (by decide +kernel)
set_option maxRecDepth 100000 in
theorem xw_806 : (Jvm.Cond.lays "HyperHostModel" "HyperHostModel" "thrown" "I") ∈ lw_g := xg_in 878 (by decide +kernel) (by decide +kernel)
set_option maxRecDepth 100000 in
theorem xw_809 : (Jvm.Cond.methodLink "HyperHostLaw" (16 : Nat) ({ cls := "HyperHostModel", name := "begin", desc := "()V" } : Jvm.MethodName)) ∈ lw_g := xg_in 881 (by decide +kernel) (by decide +kernel)
set_option maxRecDepth 100000 in
theorem xw_810 : (Jvm.Cond.instanceMethod ({ cls := "HyperHostModel", name := "begin", desc := "()V" } : Jvm.MethodName)) ∈ lw_g := xg_in 882 (by decide +kernel) (by decide +kernel)
set_option maxRecDepth 100000 in
theorem xw_811 : (Jvm.Cond.selects "HyperHostModel" ({ cls := "HyperHostModel", name := "begin", desc := "()V" } : Jvm.MethodName) ({ cls := "HyperHostModel", name := "begin", desc := "()V" } : Jvm.MethodName)) ∈ lw_g := xg_in 883 (by decide +kernel) (by decide +kernel)
set_option maxRecDepth 100000 in
theorem xw_812 : (Jvm.Cond.code ({ cls := "HyperHostModel", name := "begin", desc := "()V" } : Jvm.MethodName) prog_13_method_54_code (1 : Nat) (Option.none : Option Jvm.ClassFile.FieldType)) ∈ lw_g := xg_in 884 (by decide +kernel) (by decide +kernel)
set_option maxRecDepth 100000 in
theorem xw_813 : (Jvm.Cond.methodLink "HyperHostLaw" (21 : Nat) ({ cls := "HyperHostModel", name := "poke", desc := "(IIIIII)I" } : Jvm.MethodName)) ∈ lw_g := xg_in 885 (by decide +kernel) (by decide +kernel)
set_option maxRecDepth 100000 in
theorem xw_814 : (Jvm.Cond.instanceMethod ({ cls := "HyperHostModel", name := "poke", desc := "(IIIIII)I" } : Jvm.MethodName)) ∈ lw_g := xg_in 886 (by decide +kernel) (by decide +kernel)
set_option maxRecDepth 100000 in
theorem xw_815 : (Jvm.Cond.selects "HyperHostModel" ({ cls := "HyperHostModel", name := "poke", desc := "(IIIIII)I" } : Jvm.MethodName) ({ cls := "HyperHostModel", name := "poke", desc := "(IIIIII)I" } : Jvm.MethodName)) ∈ lw_g := xg_in 887 (by decide +kernel) (by decide +kernel)
set_option maxRecDepth 100000 in
theorem xw_816 : (Jvm.Cond.code ({ cls := "HyperHostModel", name := "poke", desc := "(IIIIII)I" } : Jvm.MethodName) prog_13_method_55_code (7 : Nat) (Option.some Jvm.ClassFile.FieldType.int)) ∈ lw_g := xg_in 888 (by decide +kernel) (by decide +kernel)
set_option maxRecDepth 100000 in
theorem xw_817 : (Jvm.Cond.constant "HyperHostModel" (307 : Nat) (262124 : Int32)) ∈ lw_g := xg_in 889 (by decide +kernel) (by decide +kernel)
set_option maxRecDepth 100000 in
theorem xw_818 : (Jvm.Cond.methodLink "HyperHostLaw" (26 : Nat) ({ cls := "HyperHostModel", name := "word", desc := "(I)I" } : Jvm.MethodName)) ∈ lw_g := xg_in 890 (by decide +kernel) (by decide +kernel)
set_option maxRecDepth 100000 in
theorem xw_819 : (Jvm.Cond.instanceMethod ({ cls := "HyperHostModel", name := "word", desc := "(I)I" } : Jvm.MethodName)) ∈ lw_g := xg_in 891 (by decide +kernel) (by decide +kernel)
set_option maxRecDepth 100000 in
theorem xw_820 : (Jvm.Cond.selects "HyperHostModel" ({ cls := "HyperHostModel", name := "word", desc := "(I)I" } : Jvm.MethodName) ({ cls := "HyperHostModel", name := "word", desc := "(I)I" } : Jvm.MethodName)) ∈ lw_g := xg_in 892 (by decide +kernel) (by decide +kernel)
set_option maxRecDepth 100000 in
theorem xw_821 : (Jvm.Cond.code ({ cls := "HyperHostModel", name := "word", desc := "(I)I" } : Jvm.MethodName) prog_13_method_56_code (2 : Nat) (Option.some Jvm.ClassFile.FieldType.int)) ∈ lw_g := xg_in 893 (by decide +kernel) (by decide +kernel)
set_option maxRecDepth 100000 in
theorem xw_822 : (Jvm.Cond.constant "HyperHostModel" (308 : Nat) (262144 : Int32)) ∈ lw_g := xg_in 894 (by decide +kernel) (by decide +kernel)
set_option maxRecDepth 100000 in
theorem xw_823 : (Jvm.Cond.methodLink "HyperHostLaw" (31 : Nat) ({ cls := "HyperHostModel", name := "sum", desc := "(II)I" } : Jvm.MethodName)) ∈ lw_g := xg_in 895 (by decide +kernel) (by decide +kernel)
set_option maxRecDepth 100000 in
theorem xw_824 : (Jvm.Cond.instanceMethod ({ cls := "HyperHostModel", name := "sum", desc := "(II)I" } : Jvm.MethodName)) ∈ lw_g := xg_in 896 (by decide +kernel) (by decide +kernel)
set_option maxRecDepth 100000 in
theorem xw_825 : (Jvm.Cond.selects "HyperHostModel" ({ cls := "HyperHostModel", name := "sum", desc := "(II)I" } : Jvm.MethodName) ({ cls := "HyperHostModel", name := "sum", desc := "(II)I" } : Jvm.MethodName)) ∈ lw_g := xg_in 897 (by decide +kernel) (by decide +kernel)
set_option maxRecDepth 100000 in
theorem xw_826 : (Jvm.Cond.code ({ cls := "HyperHostModel", name := "sum", desc := "(II)I" } : Jvm.MethodName) prog_13_method_57_code (5 : Nat) (Option.some Jvm.ClassFile.FieldType.int)) ∈ lw_g := xg_in 898 (by decide +kernel) (by decide +kernel)
set_option maxRecDepth 100000 in
theorem xw_827 : (Jvm.Cond.methodLink "HyperHostLaw" (35 : Nat) ({ cls := "HyperHostModel", name := "setRegister", desc := "(II)I" } : Jvm.MethodName)) ∈ lw_g := xg_in 899 (by decide +kernel) (by decide +kernel)
set_option maxRecDepth 100000 in
theorem xw_828 : (Jvm.Cond.instanceMethod ({ cls := "HyperHostModel", name := "setRegister", desc := "(II)I" } : Jvm.MethodName)) ∈ lw_g := xg_in 900 (by decide +kernel) (by decide +kernel)
set_option maxRecDepth 100000 in
theorem xw_829 : (Jvm.Cond.selects "HyperHostModel" ({ cls := "HyperHostModel", name := "setRegister", desc := "(II)I" } : Jvm.MethodName) ({ cls := "HyperHostModel", name := "setRegister", desc := "(II)I" } : Jvm.MethodName)) ∈ lw_g := xg_in 901 (by decide +kernel) (by decide +kernel)
set_option maxRecDepth 100000 in
theorem xw_830 : (Jvm.Cond.code ({ cls := "HyperHostModel", name := "setRegister", desc := "(II)I" } : Jvm.MethodName) prog_13_method_58_code (5 : Nat) (Option.some Jvm.ClassFile.FieldType.int)) ∈ lw_g := xg_in 902 (by decide +kernel) (by decide +kernel)
set_option maxRecDepth 100000 in
theorem xw_831 : (Jvm.Cond.methodLink "HyperHostModel" (278 : Nat) ({ cls := "HyperHostModel", name := "isIn", desc := "(III)Z" } : Jvm.MethodName)) ∈ lw_g := xg_in 903 (by decide +kernel) (by decide +kernel)
set_option maxRecDepth 100000 in
theorem xw_832 : (Jvm.Cond.static ({ cls := "HyperHostModel", name := "isIn", desc := "(III)Z" } : Jvm.MethodName)) ∈ lw_g := xg_in 904 (by decide +kernel) (by decide +kernel)
set_option maxRecDepth 100000 in
theorem xw_833 : (Jvm.Cond.code ({ cls := "HyperHostModel", name := "isIn", desc := "(III)Z" } : Jvm.MethodName) prog_13_method_2_code (3 : Nat) (Option.some Jvm.ClassFile.FieldType.boolean)) ∈ lw_g := xg_in 905 (by decide +kernel) (by decide +kernel)
set_option maxRecDepth 100000 in
theorem xw_834 : (Jvm.Cond.methodLink "HyperHostModel" (185 : Nat) ({ cls := "HyperHostModel", name := "put", desc := "(II)Z" } : Jvm.MethodName)) ∈ lw_g := xg_in 906 (by decide +kernel) (by decide +kernel)
set_option maxRecDepth 100000 in
theorem xw_836 : (Jvm.Cond.instanceMethod ({ cls := "HyperHostModel", name := "put", desc := "(II)Z" } : Jvm.MethodName)) ∈ lw_g := xg_in 908 (by decide +kernel) (by decide +kernel)
set_option maxRecDepth 100000 in
theorem xw_837 : (Jvm.Cond.code ({ cls := "HyperHostModel", name := "put", desc := "(II)Z" } : Jvm.MethodName) prog_13_method_33_code (3 : Nat) (Option.some Jvm.ClassFile.FieldType.boolean)) ∈ lw_g := xg_in 909 (by decide +kernel) (by decide +kernel)
set_option maxRecDepth 100000 in
theorem xw_838 : (Jvm.Cond.methodLink "HyperHostLaw" (39 : Nat) ({ cls := "HyperHostModel", name := "register", desc := "(I)I" } : Jvm.MethodName)) ∈ lw_g := xg_in 910 (by decide +kernel) (by decide +kernel)
set_option maxRecDepth 100000 in
theorem xw_839 : (Jvm.Cond.instanceMethod ({ cls := "HyperHostModel", name := "register", desc := "(I)I" } : Jvm.MethodName)) ∈ lw_g := xg_in 911 (by decide +kernel) (by decide +kernel)
set_option maxRecDepth 100000 in
theorem xw_840 : (Jvm.Cond.selects "HyperHostModel" ({ cls := "HyperHostModel", name := "register", desc := "(I)I" } : Jvm.MethodName) ({ cls := "HyperHostModel", name := "register", desc := "(I)I" } : Jvm.MethodName)) ∈ lw_g := xg_in 912 (by decide +kernel) (by decide +kernel)
set_option maxRecDepth 100000 in
theorem xw_841 : (Jvm.Cond.code ({ cls := "HyperHostModel", name := "register", desc := "(I)I" } : Jvm.MethodName) prog_13_method_59_code (2 : Nat) (Option.some Jvm.ClassFile.FieldType.int)) ∈ lw_g := xg_in 913 (by decide +kernel) (by decide +kernel)
set_option maxRecDepth 100000 in
theorem xw_842 : (Jvm.Cond.methodLink "HyperHostLaw" (43 : Nat) ({ cls := "HyperHostModel", name := "setControl", desc := "(II)I" } : Jvm.MethodName)) ∈ lw_g := xg_in 914 (by decide +kernel) (by decide +kernel)
set_option maxRecDepth 100000 in
theorem xw_843 : (Jvm.Cond.instanceMethod ({ cls := "HyperHostModel", name := "setControl", desc := "(II)I" } : Jvm.MethodName)) ∈ lw_g := xg_in 915 (by decide +kernel) (by decide +kernel)
set_option maxRecDepth 100000 in
theorem xw_844 : (Jvm.Cond.selects "HyperHostModel" ({ cls := "HyperHostModel", name := "setControl", desc := "(II)I" } : Jvm.MethodName) ({ cls := "HyperHostModel", name := "setControl", desc := "(II)I" } : Jvm.MethodName)) ∈ lw_g := xg_in 916 (by decide +kernel) (by decide +kernel)
set_option maxRecDepth 100000 in
theorem xw_845 : (Jvm.Cond.code ({ cls := "HyperHostModel", name := "setControl", desc := "(II)I" } : Jvm.MethodName) prog_13_method_60_code (3 : Nat) (Option.some Jvm.ClassFile.FieldType.int)) ∈ lw_g := xg_in 917 (by decide +kernel) (by decide +kernel)
set_option maxRecDepth 100000 in
theorem xw_846 : (Jvm.Cond.methodLink "HyperHostModel" (52 : Nat) ({ cls := "HyperHostModel", name := "indexOf", desc := "(I)I" } : Jvm.MethodName)) ∈ lw_g := xg_in 918 (by decide +kernel) (by decide +kernel)
set_option maxRecDepth 100000 in
theorem xw_847 : (Jvm.Cond.static ({ cls := "HyperHostModel", name := "indexOf", desc := "(I)I" } : Jvm.MethodName)) ∈ lw_g := xg_in 919 (by decide +kernel) (by decide +kernel)
set_option maxRecDepth 100000 in
theorem xw_848 : (Jvm.Cond.code ({ cls := "HyperHostModel", name := "indexOf", desc := "(I)I" } : Jvm.MethodName) prog_13_method_3_code (2 : Nat) (Option.some Jvm.ClassFile.FieldType.int)) ∈ lw_g := xg_in 920 (by decide +kernel) (by decide +kernel)
set_option maxRecDepth 100000 in
theorem xw_849 : (Jvm.Cond.fieldLink "HyperHostModel" (49 : Nat) "HyperHostModel" "NUMBERS" "[I") ∈ lw_g := xg_in 921 (by decide +kernel) (by decide +kernel)
set_option maxRecDepth 100000 in
theorem xw_851 : (Jvm.Cond.methodLink "HyperHostModel" (275 : Nat) ({ cls := "HyperHostModel", name := "write", desc := "(II)V" } : Jvm.MethodName)) ∈ lw_g := xg_in 923 (by decide +kernel) (by decide +kernel)
set_option maxRecDepth 100000 in
theorem xw_853 : (Jvm.Cond.instanceMethod ({ cls := "HyperHostModel", name := "write", desc := "(II)V" } : Jvm.MethodName)) ∈ lw_g := xg_in 925 (by decide +kernel) (by decide +kernel)
set_option maxRecDepth 100000 in
theorem xw_854 : (Jvm.Cond.code ({ cls := "HyperHostModel", name := "write", desc := "(II)V" } : Jvm.MethodName) prog_13_method_10_code (4 : Nat) (Option.none : Option Jvm.ClassFile.FieldType)) ∈ lw_g := xg_in 926 (by decide +kernel) (by decide +kernel)
set_option maxRecDepth 100000 in
theorem xw_855 : (Jvm.Cond.methodLink "HyperHostModel" (70 : Nat) ({ cls := "HyperHostModel", name := "setBit", desc := "(IIZ)V" } : Jvm.MethodName)) ∈ lw_g := xg_in 927 (by decide +kernel) (by decide +kernel)
set_option maxRecDepth 100000 in
theorem xw_857 : (Jvm.Cond.instanceMethod ({ cls := "HyperHostModel", name := "setBit", desc := "(IIZ)V" } : Jvm.MethodName)) ∈ lw_g := xg_in 929 (by decide +kernel) (by decide +kernel)
set_option maxRecDepth 100000 in
theorem xw_858 : (Jvm.Cond.code ({ cls := "HyperHostModel", name := "setBit", desc := "(IIZ)V" } : Jvm.MethodName) prog_13_method_7_code (4 : Nat) (Option.none : Option Jvm.ClassFile.FieldType)) ∈ lw_g := xg_in 930 (by decide +kernel) (by decide +kernel)
set_option maxRecDepth 100000 in
theorem xw_859 : (Jvm.Cond.methodLink "HyperHostModel" (56 : Nat) ({ cls := "HyperHostModel", name := "value", desc := "(I)I" } : Jvm.MethodName)) ∈ lw_g := xg_in 931 (by decide +kernel) (by decide +kernel)
set_option maxRecDepth 100000 in
theorem xw_861 : (Jvm.Cond.instanceMethod ({ cls := "HyperHostModel", name := "value", desc := "(I)I" } : Jvm.MethodName)) ∈ lw_g := xg_in 933 (by decide +kernel) (by decide +kernel)
set_option maxRecDepth 100000 in
theorem xw_862 : (Jvm.Cond.code ({ cls := "HyperHostModel", name := "value", desc := "(I)I" } : Jvm.MethodName) prog_13_method_4_code (2 : Nat) (Option.some Jvm.ClassFile.FieldType.int)) ∈ lw_g := xg_in 934 (by decide +kernel) (by decide +kernel)
set_option maxRecDepth 100000 in
theorem xw_863 : (Jvm.Cond.methodLink "HyperHostModel" (59 : Nat) ({ cls := "HyperHostModel", name := "become", desc := "(II)V" } : Jvm.MethodName)) ∈ lw_g := xg_in 935 (by decide +kernel) (by decide +kernel)
set_option maxRecDepth 100000 in
theorem xw_865 : (Jvm.Cond.instanceMethod ({ cls := "HyperHostModel", name := "become", desc := "(II)V" } : Jvm.MethodName)) ∈ lw_g := xg_in 937 (by decide +kernel) (by decide +kernel)
set_option maxRecDepth 100000 in
theorem xw_866 : (Jvm.Cond.code ({ cls := "HyperHostModel", name := "become", desc := "(II)V" } : Jvm.MethodName) prog_13_method_5_code (3 : Nat) (Option.none : Option Jvm.ClassFile.FieldType)) ∈ lw_g := xg_in 938 (by decide +kernel) (by decide +kernel)
set_option maxRecDepth 100000 in
theorem xw_867 : (Jvm.Cond.methodLink "HyperHostModel" (74 : Nat) ({ cls := "HyperHostModel", name := "bit", desc := "(II)Z" } : Jvm.MethodName)) ∈ lw_g := xg_in 939 (by decide +kernel) (by decide +kernel)
set_option maxRecDepth 100000 in
theorem xw_869 : (Jvm.Cond.instanceMethod ({ cls := "HyperHostModel", name := "bit", desc := "(II)Z" } : Jvm.MethodName)) ∈ lw_g := xg_in 941 (by decide +kernel) (by decide +kernel)
set_option maxRecDepth 100000 in
theorem xw_870 : (Jvm.Cond.code ({ cls := "HyperHostModel", name := "bit", desc := "(II)Z" } : Jvm.MethodName) prog_13_method_6_code (3 : Nat) (Option.some Jvm.ClassFile.FieldType.boolean)) ∈ lw_g := xg_in 942 (by decide +kernel) (by decide +kernel)
set_option maxRecDepth 100000 in
theorem xw_871 : (Jvm.Cond.methodLink "HyperHostModel" (78 : Nat) ({ cls := "HyperHostModel", name := "kept", desc := "(I)I" } : Jvm.MethodName)) ∈ lw_g := xg_in 943 (by decide +kernel) (by decide +kernel)
set_option maxRecDepth 100000 in
theorem xw_872 : (Jvm.Cond.static ({ cls := "HyperHostModel", name := "kept", desc := "(I)I" } : Jvm.MethodName)) ∈ lw_g := xg_in 944 (by decide +kernel) (by decide +kernel)
set_option maxRecDepth 100000 in
theorem xw_873 : (Jvm.Cond.code ({ cls := "HyperHostModel", name := "kept", desc := "(I)I" } : Jvm.MethodName) prog_13_method_8_code (1 : Nat) (Option.some Jvm.ClassFile.FieldType.int)) ∈ lw_g := xg_in 945 (by decide +kernel) (by decide +kernel)
set_option maxRecDepth 100000 in
theorem xw_874 : (Jvm.Cond.constant "HyperHostModel" (63 : Nat) (786722 : Int32)) ∈ lw_g := xg_in 946 (by decide +kernel) (by decide +kernel)
set_option maxRecDepth 100000 in
theorem xw_875 : (Jvm.Cond.constant "HyperHostModel" (64 : Nat) (-2143289345 : Int32)) ∈ lw_g := xg_in 947 (by decide +kernel) (by decide +kernel)
set_option maxRecDepth 100000 in
theorem xw_876 : (Jvm.Cond.constant "HyperHostModel" (65 : Nat) (7340992 : Int32)) ∈ lw_g := xg_in 948 (by decide +kernel) (by decide +kernel)
set_option maxRecDepth 100000 in
theorem xw_877 : (Jvm.Cond.constant "HyperHostModel" (66 : Nat) (45567 : Int32)) ∈ lw_g := xg_in 949 (by decide +kernel) (by decide +kernel)
set_option maxRecDepth 100000 in
theorem xw_878 : (Jvm.Cond.constant "HyperHostModel" (67 : Nat) (-2143289348 : Int32)) ∈ lw_g := xg_in 950 (by decide +kernel) (by decide +kernel)
set_option maxRecDepth 100000 in
theorem xw_879 : (Jvm.Cond.methodLink "HyperHostLaw" (47 : Nat) ({ cls := "HyperHostModel", name := "control", desc := "(I)I" } : Jvm.MethodName)) ∈ lw_g := xg_in 951 (by decide +kernel) (by decide +kernel)
set_option maxRecDepth 100000 in
theorem xw_880 : (Jvm.Cond.instanceMethod ({ cls := "HyperHostModel", name := "control", desc := "(I)I" } : Jvm.MethodName)) ∈ lw_g := xg_in 952 (by decide +kernel) (by decide +kernel)
set_option maxRecDepth 100000 in
theorem xw_881 : (Jvm.Cond.selects "HyperHostModel" ({ cls := "HyperHostModel", name := "control", desc := "(I)I" } : Jvm.MethodName) ({ cls := "HyperHostModel", name := "control", desc := "(I)I" } : Jvm.MethodName)) ∈ lw_g := xg_in 953 (by decide +kernel) (by decide +kernel)
set_option maxRecDepth 100000 in
theorem xw_882 : (Jvm.Cond.code ({ cls := "HyperHostModel", name := "control", desc := "(I)I" } : Jvm.MethodName) prog_13_method_61_code (2 : Nat) (Option.some Jvm.ClassFile.FieldType.int)) ∈ lw_g := xg_in 954 (by decide +kernel) (by decide +kernel)
set_option maxRecDepth 100000 in
theorem xw_883 : (Jvm.Cond.methodLink "HyperHostModel" (109 : Nat) ({ cls := "HyperHostModel", name := "tells", desc := "(I)I" } : Jvm.MethodName)) ∈ lw_g := xg_in 955 (by decide +kernel) (by decide +kernel)
set_option maxRecDepth 100000 in
theorem xw_885 : (Jvm.Cond.instanceMethod ({ cls := "HyperHostModel", name := "tells", desc := "(I)I" } : Jvm.MethodName)) ∈ lw_g := xg_in 957 (by decide +kernel) (by decide +kernel)
set_option maxRecDepth 100000 in
theorem xw_886 : (Jvm.Cond.code ({ cls := "HyperHostModel", name := "tells", desc := "(I)I" } : Jvm.MethodName) prog_13_method_9_code (2 : Nat) (Option.some Jvm.ClassFile.FieldType.int)) ∈ lw_g := xg_in 958 (by decide +kernel) (by decide +kernel)
set_option maxRecDepth 100000 in
theorem xw_887 : (Jvm.Cond.constantLong "HyperHostModel" (68 : Nat) (4294967295 : Int64)) ∈ lw_g := xg_in 959 (by decide +kernel) (by decide +kernel)
set_option maxRecDepth 100000 in
theorem xw_888 : (Jvm.Cond.methodLink "HyperHostLaw" (51 : Nat) ({ cls := "HyperHostModel", name := "place", desc := "(II)I" } : Jvm.MethodName)) ∈ lw_g := xg_in 960 (by decide +kernel) (by decide +kernel)
set_option maxRecDepth 100000 in
theorem xw_889 : (Jvm.Cond.instanceMethod ({ cls := "HyperHostModel", name := "place", desc := "(II)I" } : Jvm.MethodName)) ∈ lw_g := xg_in 961 (by decide +kernel) (by decide +kernel)
set_option maxRecDepth 100000 in
theorem xw_890 : (Jvm.Cond.selects "HyperHostModel" ({ cls := "HyperHostModel", name := "place", desc := "(II)I" } : Jvm.MethodName) ({ cls := "HyperHostModel", name := "place", desc := "(II)I" } : Jvm.MethodName)) ∈ lw_g := xg_in 962 (by decide +kernel) (by decide +kernel)
set_option maxRecDepth 100000 in
theorem xw_891 : (Jvm.Cond.code ({ cls := "HyperHostModel", name := "place", desc := "(II)I" } : Jvm.MethodName) prog_13_method_62_code (4 : Nat) (Option.some Jvm.ClassFile.FieldType.int)) ∈ lw_g := xg_in 963 (by decide +kernel) (by decide +kernel)
set_option maxRecDepth 100000 in
theorem xw_892 : (Jvm.Cond.methodLink "HyperHostLaw" (56 : Nat) ({ cls := "HyperHostModel", name := "line", desc := "(Z)Z" } : Jvm.MethodName)) ∈ lw_g := xg_in 964 (by decide +kernel) (by decide +kernel)
set_option maxRecDepth 100000 in
theorem xw_893 : (Jvm.Cond.instanceMethod ({ cls := "HyperHostModel", name := "line", desc := "(Z)Z" } : Jvm.MethodName)) ∈ lw_g := xg_in 965 (by decide +kernel) (by decide +kernel)
set_option maxRecDepth 100000 in
theorem xw_894 : (Jvm.Cond.selects "HyperHostModel" ({ cls := "HyperHostModel", name := "line", desc := "(Z)Z" } : Jvm.MethodName) ({ cls := "HyperHostModel", name := "line", desc := "(Z)Z" } : Jvm.MethodName)) ∈ lw_g := xg_in 966 (by decide +kernel) (by decide +kernel)
set_option maxRecDepth 100000 in
theorem xw_895 : (Jvm.Cond.code ({ cls := "HyperHostModel", name := "line", desc := "(Z)Z" } : Jvm.MethodName) prog_13_method_63_code (3 : Nat) (Option.some Jvm.ClassFile.FieldType.boolean)) ∈ lw_g := xg_in 967 (by decide +kernel) (by decide +kernel)
set_option maxRecDepth 100000 in
theorem xw_896 : (Jvm.Cond.methodLink "HyperHostLaw" (60 : Nat) ({ cls := "HyperHostModel", name := "run", desc := "(I)I" } : Jvm.MethodName)) ∈ lw_g := xg_in 968 (by decide +kernel) (by decide +kernel)
set_option maxRecDepth 100000 in
theorem xw_897 : (Jvm.Cond.instanceMethod ({ cls := "HyperHostModel", name := "run", desc := "(I)I" } : Jvm.MethodName)) ∈ lw_g := xg_in 969 (by decide +kernel) (by decide +kernel)
set_option maxRecDepth 100000 in
theorem xw_898 : (Jvm.Cond.selects "HyperHostModel" ({ cls := "HyperHostModel", name := "run", desc := "(I)I" } : Jvm.MethodName) ({ cls := "HyperHostModel", name := "run", desc := "(I)I" } : Jvm.MethodName)) ∈ lw_g := xg_in 970 (by decide +kernel) (by decide +kernel)
set_option maxRecDepth 100000 in
theorem xw_899 : (Jvm.Cond.code ({ cls := "HyperHostModel", name := "run", desc := "(I)I" } : Jvm.MethodName) prog_13_method_64_code (3 : Nat) (Option.some Jvm.ClassFile.FieldType.int)) ∈ lw_g := xg_in 971 (by decide +kernel) (by decide +kernel)
set_option maxRecDepth 100000 in
theorem xw_900 : (Jvm.Cond.methodLink "HyperHostModel" (309 : Nat) ({ cls := "HyperHostModel", name := "step", desc := "()V" } : Jvm.MethodName)) ∈ lw_g := xg_in 972 (by decide +kernel) (by decide +kernel)
set_option maxRecDepth 100000 in
theorem xw_902 : (Jvm.Cond.instanceMethod ({ cls := "HyperHostModel", name := "step", desc := "()V" } : Jvm.MethodName)) ∈ lw_g := xg_in 974 (by decide +kernel) (by decide +kernel)
set_option maxRecDepth 100000 in
theorem xw_903 : (Jvm.Cond.code ({ cls := "HyperHostModel", name := "step", desc := "()V" } : Jvm.MethodName) prog_13_method_50_code (2 : Nat) (Option.none : Option Jvm.ClassFile.FieldType)) ∈ lw_g := xg_in 975 (by decide +kernel) (by decide +kernel)
set_option maxRecDepth 100000 in
theorem xw_904 : (Jvm.Cond.methodLink "HyperHostModel" (281 : Nat) ({ cls := "HyperHostModel", name := "due", desc := "()I" } : Jvm.MethodName)) ∈ lw_g := xg_in 976 (by decide +kernel) (by decide +kernel)
set_option maxRecDepth 100000 in
theorem xw_906 : (Jvm.Cond.instanceMethod ({ cls := "HyperHostModel", name := "due", desc := "()I" } : Jvm.MethodName)) ∈ lw_g := xg_in 978 (by decide +kernel) (by decide +kernel)
set_option maxRecDepth 100000 in
theorem xw_907 : (Jvm.Cond.code ({ cls := "HyperHostModel", name := "due", desc := "()I" } : Jvm.MethodName) prog_13_method_17_code (5 : Nat) (Option.some Jvm.ClassFile.FieldType.int)) ∈ lw_g := xg_in 979 (by decide +kernel) (by decide +kernel)
set_option maxRecDepth 100000 in
theorem xw_908 : (Jvm.Cond.constant "HyperHostModel" (285 : Nat) (-2147483648 : Int32)) ∈ lw_g := xg_in 980 (by decide +kernel) (by decide +kernel)
set_option maxRecDepth 100000 in
theorem xw_909 : (Jvm.Cond.methodLink "HyperHostModel" (100 : Nat) ({ cls := "HyperHostModel", name := "enter", desc := "(IIII)V" } : Jvm.MethodName)) ∈ lw_g := xg_in 981 (by decide +kernel) (by decide +kernel)
set_option maxRecDepth 100000 in
theorem xw_911 : (Jvm.Cond.instanceMethod ({ cls := "HyperHostModel", name := "enter", desc := "(IIII)V" } : Jvm.MethodName)) ∈ lw_g := xg_in 983 (by decide +kernel) (by decide +kernel)
set_option maxRecDepth 100000 in
theorem xw_912 : (Jvm.Cond.code ({ cls := "HyperHostModel", name := "enter", desc := "(IIII)V" } : Jvm.MethodName) prog_13_method_16_code (6 : Nat) (Option.none : Option Jvm.ClassFile.FieldType)) ∈ lw_g := xg_in 984 (by decide +kernel) (by decide +kernel)
set_option maxRecDepth 100000 in
theorem xw_913 : (Jvm.Cond.methodLink "HyperHostModel" (104 : Nat) ({ cls := "HyperHostModel", name := "enterS", desc := "(IIZ)V" } : Jvm.MethodName)) ∈ lw_g := xg_in 985 (by decide +kernel) (by decide +kernel)
set_option maxRecDepth 100000 in
theorem xw_915 : (Jvm.Cond.instanceMethod ({ cls := "HyperHostModel", name := "enterS", desc := "(IIZ)V" } : Jvm.MethodName)) ∈ lw_g := xg_in 987 (by decide +kernel) (by decide +kernel)
set_option maxRecDepth 100000 in
theorem xw_916 : (Jvm.Cond.code ({ cls := "HyperHostModel", name := "enterS", desc := "(IIZ)V" } : Jvm.MethodName) prog_13_method_15_code (4 : Nat) (Option.none : Option Jvm.ClassFile.FieldType)) ∈ lw_g := xg_in 988 (by decide +kernel) (by decide +kernel)
set_option maxRecDepth 100000 in
theorem xw_917 : (Jvm.Cond.methodLink "HyperHostModel" (96 : Nat) ({ cls := "HyperHostModel", name := "isVirtual", desc := "()Z" } : Jvm.MethodName)) ∈ lw_g := xg_in 989 (by decide +kernel) (by decide +kernel)
set_option maxRecDepth 100000 in
theorem xw_919 : (Jvm.Cond.instanceMethod ({ cls := "HyperHostModel", name := "isVirtual", desc := "()Z" } : Jvm.MethodName)) ∈ lw_g := xg_in 991 (by decide +kernel) (by decide +kernel)
set_option maxRecDepth 100000 in
theorem xw_920 : (Jvm.Cond.code ({ cls := "HyperHostModel", name := "isVirtual", desc := "()Z" } : Jvm.MethodName) prog_13_method_13_code (1 : Nat) (Option.some Jvm.ClassFile.FieldType.boolean)) ∈ lw_g := xg_in 992 (by decide +kernel) (by decide +kernel)
set_option maxRecDepth 100000 in
theorem xw_921 : (Jvm.Cond.methodLink "HyperHostModel" (286 : Nat) ({ cls := "HyperHostModel", name := "fetchAndPerform", desc := "()Z" } : Jvm.MethodName)) ∈ lw_g := xg_in 993 (by decide +kernel) (by decide +kernel)
set_option maxRecDepth 100000 in
theorem xw_923 : (Jvm.Cond.instanceMethod ({ cls := "HyperHostModel", name := "fetchAndPerform", desc := "()Z" } : Jvm.MethodName)) ∈ lw_g := xg_in 995 (by decide +kernel) (by decide +kernel)
set_option maxRecDepth 100000 in
theorem xw_924 : (Jvm.Cond.code ({ cls := "HyperHostModel", name := "fetchAndPerform", desc := "()Z" } : Jvm.MethodName) prog_13_method_51_code (3 : Nat) (Option.some Jvm.ClassFile.FieldType.boolean)) ∈ lw_g := xg_in 996 (by decide +kernel) (by decide +kernel)
set_option maxRecDepth 100000 in
theorem xw_925 : (Jvm.Cond.methodLink "HyperHostModel" (226 : Nat) ({ cls := "HyperHostModel", name := "asMode", desc := "(IZZZ)V" } : Jvm.MethodName)) ∈ lw_g := xg_in 997 (by decide +kernel) (by decide +kernel)
set_option maxRecDepth 100000 in
theorem xw_927 : (Jvm.Cond.instanceMethod ({ cls := "HyperHostModel", name := "asMode", desc := "(IZZZ)V" } : Jvm.MethodName)) ∈ lw_g := xg_in 999 (by decide +kernel) (by decide +kernel)
set_option maxRecDepth 100000 in
theorem xw_928 : (Jvm.Cond.code ({ cls := "HyperHostModel", name := "asMode", desc := "(IZZZ)V" } : Jvm.MethodName) prog_13_method_26_code (5 : Nat) (Option.none : Option Jvm.ClassFile.FieldType)) ∈ lw_g := xg_in 1000 (by decide +kernel) (by decide +kernel)
set_option maxRecDepth 100000 in
theorem xw_929 : (Jvm.Cond.methodLink "HyperHostModel" (234 : Nat) ({ cls := "HyperHostModel", name := "lead", desc := "(II)J" } : Jvm.MethodName)) ∈ lw_g := xg_in 1001 (by decide +kernel) (by decide +kernel)
set_option maxRecDepth 100000 in
theorem xw_931 : (Jvm.Cond.instanceMethod ({ cls := "HyperHostModel", name := "lead", desc := "(II)J" } : Jvm.MethodName)) ∈ lw_g := xg_in 1003 (by decide +kernel) (by decide +kernel)
set_option maxRecDepth 100000 in
theorem xw_932 : (Jvm.Cond.code ({ cls := "HyperHostModel", name := "lead", desc := "(II)J" } : Jvm.MethodName) prog_13_method_25_code (7 : Nat) (Option.some Jvm.ClassFile.FieldType.long)) ∈ lw_g := xg_in 1004 (by decide +kernel) (by decide +kernel)
set_option maxRecDepth 100000 in
theorem xw_933 : (Jvm.Cond.methodLink "HyperHostModel" (121 : Nat) ({ cls := "HyperHostModel", name := "fails", desc := "(IIZ)Z" } : Jvm.MethodName)) ∈ lw_g := xg_in 1005 (by decide +kernel) (by decide +kernel)
set_option maxRecDepth 100000 in
theorem xw_935 : (Jvm.Cond.instanceMethod ({ cls := "HyperHostModel", name := "fails", desc := "(IIZ)Z" } : Jvm.MethodName)) ∈ lw_g := xg_in 1007 (by decide +kernel) (by decide +kernel)
set_option maxRecDepth 100000 in
theorem xw_936 : (Jvm.Cond.code ({ cls := "HyperHostModel", name := "fails", desc := "(IIZ)Z" } : Jvm.MethodName) prog_13_method_12_code (4 : Nat) (Option.some Jvm.ClassFile.FieldType.boolean)) ∈ lw_g := xg_in 1008 (by decide +kernel) (by decide +kernel)
set_option maxRecDepth 100000 in
theorem xw_937 : (Jvm.Cond.constantLong "HyperHostModel" (125 : Nat) (-1 : Int64)) ∈ lw_g := xg_in 1009 (by decide +kernel) (by decide +kernel)
set_option maxRecDepth 100000 in
theorem xw_938 : (Jvm.Cond.constantLong "HyperHostModel" (168 : Nat) (4194303 : Int64)) ∈ lw_g := xg_in 1010 (by decide +kernel) (by decide +kernel)
set_option maxRecDepth 100000 in
theorem xw_939 : (Jvm.Cond.constantLong "HyperHostModel" (131 : Nat) (4096 : Int64)) ∈ lw_g := xg_in 1011 (by decide +kernel) (by decide +kernel)
set_option maxRecDepth 100000 in
theorem xw_940 : (Jvm.Cond.methodLink "HyperHostModel" (133 : Nat) ({ cls := "HyperHostModel", name := "walk", desc := "(IJJZ)J" } : Jvm.MethodName)) ∈ lw_g := xg_in 1012 (by decide +kernel) (by decide +kernel)
set_option maxRecDepth 100000 in
theorem xw_942 : (Jvm.Cond.instanceMethod ({ cls := "HyperHostModel", name := "walk", desc := "(IJJZ)J" } : Jvm.MethodName)) ∈ lw_g := xg_in 1014 (by decide +kernel) (by decide +kernel)
set_option maxRecDepth 100000 in
theorem xw_943 : (Jvm.Cond.code ({ cls := "HyperHostModel", name := "walk", desc := "(IJJZ)J" } : Jvm.MethodName) prog_13_method_23_code (16 : Nat) (Option.some Jvm.ClassFile.FieldType.long)) ∈ lw_g := xg_in 1015 (by decide +kernel) (by decide +kernel)
set_option maxRecDepth 100000 in
theorem xw_944 : (Jvm.Cond.constantLong "HyperHostModel" (107 : Nat) (4 : Int64)) ∈ lw_g := xg_in 1016 (by decide +kernel) (by decide +kernel)
set_option maxRecDepth 100000 in
theorem xw_945 : (Jvm.Cond.methodLink "HyperHostModel" (149 : Nat) ({ cls := "HyperHostModel", name := "entryAt", desc := "(IJ)J" } : Jvm.MethodName)) ∈ lw_g := xg_in 1017 (by decide +kernel) (by decide +kernel)
set_option maxRecDepth 100000 in
theorem xw_947 : (Jvm.Cond.instanceMethod ({ cls := "HyperHostModel", name := "entryAt", desc := "(IJ)J" } : Jvm.MethodName)) ∈ lw_g := xg_in 1019 (by decide +kernel) (by decide +kernel)
set_option maxRecDepth 100000 in
theorem xw_948 : (Jvm.Cond.code ({ cls := "HyperHostModel", name := "entryAt", desc := "(IJ)J" } : Jvm.MethodName) prog_13_method_22_code (6 : Nat) (Option.some Jvm.ClassFile.FieldType.long)) ∈ lw_g := xg_in 1020 (by decide +kernel) (by decide +kernel)
set_option maxRecDepth 100000 in
theorem xw_949 : (Jvm.Cond.methodLink "HyperHostModel" (141 : Nat) ({ cls := "HyperHostModel", name := "second", desc := "(JZ)J" } : Jvm.MethodName)) ∈ lw_g := xg_in 1021 (by decide +kernel) (by decide +kernel)
set_option maxRecDepth 100000 in
theorem xw_951 : (Jvm.Cond.instanceMethod ({ cls := "HyperHostModel", name := "second", desc := "(JZ)J" } : Jvm.MethodName)) ∈ lw_g := xg_in 1023 (by decide +kernel) (by decide +kernel)
set_option maxRecDepth 100000 in
theorem xw_952 : (Jvm.Cond.code ({ cls := "HyperHostModel", name := "second", desc := "(JZ)J" } : Jvm.MethodName) prog_13_method_21_code (4 : Nat) (Option.some Jvm.ClassFile.FieldType.long)) ∈ lw_g := xg_in 1024 (by decide +kernel) (by decide +kernel)
set_option maxRecDepth 100000 in
theorem xw_953 : (Jvm.Cond.constantLong "HyperHostModel" (129 : Nat) (4194300 : Int64)) ∈ lw_g := xg_in 1025 (by decide +kernel) (by decide +kernel)
