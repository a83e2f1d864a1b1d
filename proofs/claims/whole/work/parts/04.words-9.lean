set_option maxRecDepth 100000 in
theorem xin_H : ∀ w ∈ u_ws xR_H xF_H 1, w ∈ lw_g := by decide +kernel
theorem xkin_H_init : xk_H_init ∈ lw_g := xw_19
theorem xkin_H_begin : xk_H_begin ∈ lw_g := xw_284
theorem xsel_H_begin : Cond.selects xR_H xy_H_begin xy_H_begin ∈ lw_g := xw_283
theorem xkin_H_poke : xk_H_poke ∈ lw_g := xw_288
theorem xsel_H_poke : Cond.selects xR_H xy_H_poke xy_H_poke ∈ lw_g := xw_287
theorem xkin_H_word : xk_H_word ∈ lw_g := xw_307
theorem xsel_H_word : Cond.selects xR_H xy_H_word xy_H_word ∈ lw_g := xw_306
theorem xkin_H_sum : xk_H_sum ∈ lw_g := xw_316
theorem xsel_H_sum : Cond.selects xR_H xy_H_sum xy_H_sum ∈ lw_g := xw_315
theorem xkin_H_setRegister : xk_H_setRegister ∈ lw_g := xw_320
theorem xsel_H_setRegister : Cond.selects xR_H xy_H_setRegister xy_H_setRegister ∈ lw_g := xw_319
theorem xkin_H_register : xk_H_register ∈ lw_g := xw_328
theorem xsel_H_register : Cond.selects xR_H xy_H_register xy_H_register ∈ lw_g := xw_327
theorem xkin_H_setControl : xk_H_setControl ∈ lw_g := xw_332
theorem xsel_H_setControl : Cond.selects xR_H xy_H_setControl xy_H_setControl ∈ lw_g := xw_331
theorem xkin_H_control : xk_H_control ∈ lw_g := xw_364
theorem xsel_H_control : Cond.selects xR_H xy_H_control xy_H_control ∈ lw_g := xw_363
theorem xkin_H_place : xk_H_place ∈ lw_g := xw_380
theorem xsel_H_place : Cond.selects xR_H xy_H_place xy_H_place ∈ lw_g := xw_379
theorem xkin_H_line : xk_H_line ∈ lw_g := xw_384
theorem xsel_H_line : Cond.selects xR_H xy_H_line xy_H_line ∈ lw_g := xw_383
theorem xkin_H_run : xk_H_run ∈ lw_g := xw_388
theorem xsel_H_run : Cond.selects xR_H xy_H_run xy_H_run ∈ lw_g := xw_387
theorem xkin_H_count : xk_H_count ∈ lw_g := xw_706
theorem xsel_H_count : Cond.selects xR_H xy_H_count xy_H_count ∈ lw_g := xw_705
theorem xkin_H_console : xk_H_console ∈ lw_g := xw_710
theorem xsel_H_console : Cond.selects xR_H xy_H_console xy_H_console ∈ lw_g := xw_709
theorem xkin_H_breaches : xk_H_breaches ∈ lw_g := xw_715
theorem xsel_H_breaches : Cond.selects xR_H xy_H_breaches xy_H_breaches ∈ lw_g := xw_714
theorem xkin_H_isVirtual : xk_H_isVirtual ∈ lw_g := xw_428
theorem xkin_H_isSupervisor : xk_H_isSupervisor ∈ lw_g := xw_438
set_option maxRecDepth 100000 in
theorem xin_Z : ∀ w ∈ u_ws xR_Z xF_Z 27, w ∈ lw_g := by decide +kernel
theorem xkin_Z_clearMachine : xk_Z_clearMachine ∈ lw_g := xw_726
set_option maxRecDepth 100000 in
theorem xsel_Z_clearMachine : Cond.selects xR_Z xy_Z_clearMachine xy_Z_clearMachine ∈ lw_g := xg_in 28 (by decide +kernel) (by decide +kernel)
theorem xkin_Z_isIn : xk_Z_isIn ∈ lw_g := xw_833
theorem xkin_Z_indexOf : xk_Z_indexOf ∈ lw_g := xw_848
theorem xkin_Z_value : xk_Z_value ∈ lw_g := xw_862
set_option maxRecDepth 100000 in
theorem xsel_Z_value : Cond.selects xR_Z xy_Z_value xy_Z_value ∈ lw_g := xg_in 32 (by decide +kernel) (by decide +kernel)
theorem xkin_Z_become : xk_Z_become ∈ lw_g := xw_866
set_option maxRecDepth 100000 in
theorem xsel_Z_become : Cond.selects xR_Z xy_Z_become xy_Z_become ∈ lw_g := xg_in 33 (by decide +kernel) (by decide +kernel)
theorem xkin_Z_bit : xk_Z_bit ∈ lw_g := xw_870
set_option maxRecDepth 100000 in
theorem xsel_Z_bit : Cond.selects xR_Z xy_Z_bit xy_Z_bit ∈ lw_g := xg_in 34 (by decide +kernel) (by decide +kernel)
theorem xkin_Z_setBit : xk_Z_setBit ∈ lw_g := xw_858
set_option maxRecDepth 100000 in
theorem xsel_Z_setBit : Cond.selects xR_Z xy_Z_setBit xy_Z_setBit ∈ lw_g := xg_in 31 (by decide +kernel) (by decide +kernel)
theorem xkin_Z_kept : xk_Z_kept ∈ lw_g := xw_873
theorem xkin_Z_tells : xk_Z_tells ∈ lw_g := xw_886
set_option maxRecDepth 100000 in
theorem xsel_Z_tells : Cond.selects xR_Z xy_Z_tells xy_Z_tells ∈ lw_g := xg_in 35 (by decide +kernel) (by decide +kernel)
theorem xkin_Z_write : xk_Z_write ∈ lw_g := xw_854
set_option maxRecDepth 100000 in
theorem xsel_Z_write : Cond.selects xR_Z xy_Z_write xy_Z_write ∈ lw_g := xg_in 30 (by decide +kernel) (by decide +kernel)
theorem xkin_Z_refusal : xk_Z_refusal ∈ lw_g := xw_1056
set_option maxRecDepth 100000 in
theorem xsel_Z_refusal : Cond.selects xR_Z xy_Z_refusal xy_Z_refusal ∈ lw_g := xg_in 68 (by decide +kernel) (by decide +kernel)
theorem xkin_Z_fails : xk_Z_fails ∈ lw_g := xw_936
set_option maxRecDepth 100000 in
theorem xsel_Z_fails : Cond.selects xR_Z xy_Z_fails xy_Z_fails ∈ lw_g := xg_in 44 (by decide +kernel) (by decide +kernel)
theorem xkin_Z_isVirtual : xk_Z_isVirtual ∈ lw_g := xw_920
set_option maxRecDepth 100000 in
theorem xsel_Z_isVirtual : Cond.selects xR_Z xy_Z_isVirtual xy_Z_isVirtual ∈ lw_g := xg_in 40 (by decide +kernel) (by decide +kernel)
theorem xkin_Z_trap : xk_Z_trap ∈ lw_g := xw_1068
set_option maxRecDepth 100000 in
theorem xsel_Z_trap : Cond.selects xR_Z xy_Z_trap xy_Z_trap ∈ lw_g := xg_in 71 (by decide +kernel) (by decide +kernel)
theorem xkin_Z_enterS : xk_Z_enterS ∈ lw_g := xw_916
set_option maxRecDepth 100000 in
theorem xsel_Z_enterS : Cond.selects xR_Z xy_Z_enterS xy_Z_enterS ∈ lw_g := xg_in 39 (by decide +kernel) (by decide +kernel)
theorem xkin_Z_enter : xk_Z_enter ∈ lw_g := xw_912
set_option maxRecDepth 100000 in
theorem xsel_Z_enter : Cond.selects xR_Z xy_Z_enter xy_Z_enter ∈ lw_g := xg_in 38 (by decide +kernel) (by decide +kernel)
theorem xkin_Z_due : xk_Z_due ∈ lw_g := xw_907
set_option maxRecDepth 100000 in
theorem xsel_Z_due : Cond.selects xR_Z xy_Z_due xy_Z_due ∈ lw_g := xg_in 37 (by decide +kernel) (by decide +kernel)
theorem xkin_Z_word : xk_Z_word ∈ lw_g := xw_962
set_option maxRecDepth 100000 in
theorem xsel_Z_word : Cond.selects xR_Z xy_Z_word xy_Z_word ∈ lw_g := xg_in 49 (by decide +kernel) (by decide +kernel)
theorem xkin_Z_stageFault : xk_Z_stageFault ∈ lw_g := xw_968
set_option maxRecDepth 100000 in
theorem xsel_Z_stageFault : Cond.selects xR_Z xy_Z_stageFault xy_Z_stageFault ∈ lw_g := xg_in 50 (by decide +kernel) (by decide +kernel)
theorem xkin_Z_inMemory : xk_Z_inMemory ∈ lw_g := xw_957
set_option maxRecDepth 100000 in
theorem xsel_Z_inMemory : Cond.selects xR_Z xy_Z_inMemory xy_Z_inMemory ∈ lw_g := xg_in 48 (by decide +kernel) (by decide +kernel)
theorem xkin_Z_second : xk_Z_second ∈ lw_g := xw_952
set_option maxRecDepth 100000 in
theorem xsel_Z_second : Cond.selects xR_Z xy_Z_second xy_Z_second ∈ lw_g := xg_in 47 (by decide +kernel) (by decide +kernel)
theorem xkin_Z_entryAt : xk_Z_entryAt ∈ lw_g := xw_948
set_option maxRecDepth 100000 in
theorem xsel_Z_entryAt : Cond.selects xR_Z xy_Z_entryAt xy_Z_entryAt ∈ lw_g := xg_in 46 (by decide +kernel) (by decide +kernel)
theorem xkin_Z_walk : xk_Z_walk ∈ lw_g := xw_943
set_option maxRecDepth 100000 in
theorem xsel_Z_walk : Cond.selects xR_Z xy_Z_walk xy_Z_walk ∈ lw_g := xg_in 45 (by decide +kernel) (by decide +kernel)
theorem xkin_Z_isAllowed : xk_Z_isAllowed ∈ lw_g := xw_974
set_option maxRecDepth 100000 in
theorem xsel_Z_isAllowed : Cond.selects xR_Z xy_Z_isAllowed xy_Z_isAllowed ∈ lw_g := xg_in 51 (by decide +kernel) (by decide +kernel)
theorem xkin_Z_lead : xk_Z_lead ∈ lw_g := xw_932
set_option maxRecDepth 100000 in
theorem xsel_Z_lead : Cond.selects xR_Z xy_Z_lead xy_Z_lead ∈ lw_g := xg_in 43 (by decide +kernel) (by decide +kernel)
theorem xkin_Z_asMode : xk_Z_asMode ∈ lw_g := xw_928
set_option maxRecDepth 100000 in
theorem xsel_Z_asMode : Cond.selects xR_Z xy_Z_asMode xy_Z_asMode ∈ lw_g := xg_in 42 (by decide +kernel) (by decide +kernel)
theorem xkin_Z_bytes : xk_Z_bytes ∈ lw_g := xw_1012
set_option maxRecDepth 100000 in
theorem xsel_Z_bytes : Cond.selects xR_Z xy_Z_bytes xy_Z_bytes ∈ lw_g := xg_in 58 (by decide +kernel) (by decide +kernel)
theorem xkin_Z_putBytes : xk_Z_putBytes ∈ lw_g := xw_1025
set_option maxRecDepth 100000 in
theorem xsel_Z_putBytes : Cond.selects xR_Z xy_Z_putBytes xy_Z_putBytes ∈ lw_g := xg_in 61 (by decide +kernel) (by decide +kernel)
theorem xkin_Z_signed : xk_Z_signed ∈ lw_g := xw_985
theorem xkin_Z_perform : xk_Z_perform ∈ lw_g := xw_979
set_option maxRecDepth 100000 in
theorem xsel_Z_perform : Cond.selects xR_Z xy_Z_perform xy_Z_perform ∈ lw_g := xg_in 52 (by decide +kernel) (by decide +kernel)
theorem xkin_Z_illegal : xk_Z_illegal ∈ lw_g := xw_993
set_option maxRecDepth 100000 in
theorem xsel_Z_illegal : Cond.selects xR_Z xy_Z_illegal xy_Z_illegal ∈ lw_g := xg_in 54 (by decide +kernel) (by decide +kernel)
theorem xkin_Z_notThere : xk_Z_notThere ∈ lw_g := xw_1048
set_option maxRecDepth 100000 in
theorem xsel_Z_notThere : Cond.selects xR_Z xy_Z_notThere xy_Z_notThere ∈ lw_g := xg_in 66 (by decide +kernel) (by decide +kernel)
theorem xkin_Z_put : xk_Z_put ∈ lw_g := xw_837
set_option maxRecDepth 100000 in
theorem xsel_Z_put : Cond.selects xR_Z xy_Z_put xy_Z_put ∈ lw_g := xg_in 29 (by decide +kernel) (by decide +kernel)
theorem xkin_Z_go : xk_Z_go ∈ lw_g := xw_989
set_option maxRecDepth 100000 in
theorem xsel_Z_go : Cond.selects xR_Z xy_Z_go xy_Z_go ∈ lw_g := xg_in 53 (by decide +kernel) (by decide +kernel)
theorem xkin_Z_jump : xk_Z_jump ∈ lw_g := xw_982
theorem xkin_Z_lessPlain : xk_Z_lessPlain ∈ lw_g := xw_1000
theorem xkin_Z_branch : xk_Z_branch ∈ lw_g := xw_997
set_option maxRecDepth 100000 in
theorem xsel_Z_branch : Cond.selects xR_Z xy_Z_branch xy_Z_branch ∈ lw_g := xg_in 55 (by decide +kernel) (by decide +kernel)
theorem xkin_Z_load : xk_Z_load ∈ lw_g := xw_1004
set_option maxRecDepth 100000 in
theorem xsel_Z_load : Cond.selects xR_Z xy_Z_load xy_Z_load ∈ lw_g := xg_in 56 (by decide +kernel) (by decide +kernel)
theorem xkin_Z_take : xk_Z_take ∈ lw_g := xw_1008
set_option maxRecDepth 100000 in
theorem xsel_Z_take : Cond.selects xR_Z xy_Z_take xy_Z_take ∈ lw_g := xg_in 57 (by decide +kernel) (by decide +kernel)
theorem xkin_Z_store : xk_Z_store ∈ lw_g := xw_1017
set_option maxRecDepth 100000 in
theorem xsel_Z_store : Cond.selects xR_Z xy_Z_store xy_Z_store ∈ lw_g := xg_in 59 (by decide +kernel) (by decide +kernel)
theorem xkin_Z_give : xk_Z_give ∈ lw_g := xw_1021
set_option maxRecDepth 100000 in
theorem xsel_Z_give : Cond.selects xR_Z xy_Z_give xy_Z_give ∈ lw_g := xg_in 60 (by decide +kernel) (by decide +kernel)
theorem xkin_Z_small : xk_Z_small ∈ lw_g := xw_1029
set_option maxRecDepth 100000 in
theorem xsel_Z_small : Cond.selects xR_Z xy_Z_small xy_Z_small ∈ lw_g := xg_in 62 (by decide +kernel) (by decide +kernel)
theorem xkin_Z_pair : xk_Z_pair ∈ lw_g := xw_1033
set_option maxRecDepth 100000 in
theorem xsel_Z_pair : Cond.selects xR_Z xy_Z_pair xy_Z_pair ∈ lw_g := xg_in 63 (by decide +kernel) (by decide +kernel)
theorem xkin_Z_product : xk_Z_product ∈ lw_g := xw_1036
theorem xkin_Z_system : xk_Z_system ∈ lw_g := xw_1040
set_option maxRecDepth 100000 in
theorem xsel_Z_system : Cond.selects xR_Z xy_Z_system xy_Z_system ∈ lw_g := xg_in 64 (by decide +kernel) (by decide +kernel)
theorem xkin_Z_call : xk_Z_call ∈ lw_g := xw_1060
set_option maxRecDepth 100000 in
theorem xsel_Z_call : Cond.selects xR_Z xy_Z_call xy_Z_call ∈ lw_g := xg_in 69 (by decide +kernel) (by decide +kernel)
theorem xkin_Z_back : xk_Z_back ∈ lw_g := xw_1064
set_option maxRecDepth 100000 in
theorem xsel_Z_back : Cond.selects xR_Z xy_Z_back xy_Z_back ∈ lw_g := xg_in 70 (by decide +kernel) (by decide +kernel)
theorem xkin_Z_control : xk_Z_control ∈ lw_g := xw_1052
set_option maxRecDepth 100000 in
theorem xsel_Z_control : Cond.selects xR_Z xy_Z_control xy_Z_control ∈ lw_g := xg_in 67 (by decide +kernel) (by decide +kernel)
theorem xkin_Z_asIfVirtual : xk_Z_asIfVirtual ∈ lw_g := xw_1044
set_option maxRecDepth 100000 in
theorem xsel_Z_asIfVirtual : Cond.selects xR_Z xy_Z_asIfVirtual xy_Z_asIfVirtual ∈ lw_g := xg_in 65 (by decide +kernel) (by decide +kernel)
theorem xkin_Z_step : xk_Z_step ∈ lw_g := xw_903
set_option maxRecDepth 100000 in
theorem xsel_Z_step : Cond.selects xR_Z xy_Z_step xy_Z_step ∈ lw_g := xg_in 36 (by decide +kernel) (by decide +kernel)
theorem xkin_Z_fetchAndPerform : xk_Z_fetchAndPerform ∈ lw_g := xw_924
set_option maxRecDepth 100000 in
theorem xsel_Z_fetchAndPerform : Cond.selects xR_Z xy_Z_fetchAndPerform xy_Z_fetchAndPerform ∈ lw_g := xg_in 41 (by decide +kernel) (by decide +kernel)
theorem xkin_Z_init : xk_Z_init ∈ lw_g := xw_720
theorem xkin_Z_begin : xk_Z_begin ∈ lw_g := xw_812
theorem xsel_Z_begin : Cond.selects xR_Z xy_Z_begin xy_Z_begin ∈ lw_g := xw_811
theorem xkin_Z_poke : xk_Z_poke ∈ lw_g := xw_816
theorem xsel_Z_poke : Cond.selects xR_Z xy_Z_poke xy_Z_poke ∈ lw_g := xw_815
theorem xkin_Z_word2 : xk_Z_word2 ∈ lw_g := xw_821
theorem xsel_Z_word2 : Cond.selects xR_Z xy_Z_word2 xy_Z_word2 ∈ lw_g := xw_820
theorem xkin_Z_sum : xk_Z_sum ∈ lw_g := xw_826
theorem xsel_Z_sum : Cond.selects xR_Z xy_Z_sum xy_Z_sum ∈ lw_g := xw_825
theorem xkin_Z_setRegister : xk_Z_setRegister ∈ lw_g := xw_830
theorem xsel_Z_setRegister : Cond.selects xR_Z xy_Z_setRegister xy_Z_setRegister ∈ lw_g := xw_829
theorem xkin_Z_register : xk_Z_register ∈ lw_g := xw_841
theorem xsel_Z_register : Cond.selects xR_Z xy_Z_register xy_Z_register ∈ lw_g := xw_840
theorem xkin_Z_setControl : xk_Z_setControl ∈ lw_g := xw_845
theorem xsel_Z_setControl : Cond.selects xR_Z xy_Z_setControl xy_Z_setControl ∈ lw_g := xw_844
theorem xkin_Z_control2 : xk_Z_control2 ∈ lw_g := xw_882
theorem xsel_Z_control2 : Cond.selects xR_Z xy_Z_control2 xy_Z_control2 ∈ lw_g := xw_881
theorem xkin_Z_place : xk_Z_place ∈ lw_g := xw_891
theorem xsel_Z_place : Cond.selects xR_Z xy_Z_place xy_Z_place ∈ lw_g := xw_890
theorem xkin_Z_line : xk_Z_line ∈ lw_g := xw_895
theorem xsel_Z_line : Cond.selects xR_Z xy_Z_line xy_Z_line ∈ lw_g := xw_894
theorem xkin_Z_run : xk_Z_run ∈ lw_g := xw_899
theorem xsel_Z_run : Cond.selects xR_Z xy_Z_run xy_Z_run ∈ lw_g := xw_898
theorem xkin_Z_count : xk_Z_count ∈ lw_g := xw_1072
theorem xsel_Z_count : Cond.selects xR_Z xy_Z_count xy_Z_count ∈ lw_g := xw_1071
theorem xkin_Z_console : xk_Z_console ∈ lw_g := xw_1076
theorem xsel_Z_console : Cond.selects xR_Z xy_Z_console xy_Z_console ∈ lw_g := xw_1075
theorem xkin_Z_breaches : xk_Z_breaches ∈ lw_g := xw_1080
theorem xsel_Z_breaches : Cond.selects xR_Z xy_Z_breaches xy_Z_breaches ∈ lw_g := xw_1079
theorem xkin_A_causeOf : xk_A_causeOf ∈ lw_g := xw_491
theorem xsel_A_causeOf : Cond.selects xR_A xy_A_causeOf xy_A_causeOf ∈ lw_g := xw_490
theorem xkin_A_anyWith : xk_A_anyWith ∈ lw_g := xw_433
theorem xsel_A_anyWith : Cond.selects xR_A xy_A_anyWith xy_A_anyWith ∈ lw_g := xw_432
theorem xkin_R_lessNoSign : xk_R_lessNoSign ∈ lw_g := xw_553
theorem xkin_R_combine : xk_R_combine ∈ lw_g := xw_550
theorem xkin_R_multiply : xk_R_multiply ∈ lw_g := xw_584
theorem xkin_R_divide : xk_R_divide ∈ lw_g := xw_587
theorem xkin_R_isComparison : xk_R_isComparison ∈ lw_g := xw_594
theorem xkin_R_holds : xk_R_holds ∈ lw_g := xw_597
set_option maxRecDepth 100000 in
theorem xin_B : ∀ w ∈ u_ws xR_B xF_B 9, w ∈ lw_g := by decide +kernel
theorem xkin_B_init : xk_B_init ∈ lw_g := xw_64
theorem xkin_B_clear : xk_B_clear ∈ lw_g := xw_275
theorem xsel_B_clear : Cond.selects xR_B xy_B_clear xy_B_clear ∈ lw_g := xw_274
theorem xkin_B_tell : xk_B_tell ∈ lw_g := xw_376
theorem xsel_B_tell : Cond.selects xR_B xy_B_tell xy_B_tell ∈ lw_g := xw_375
theorem xkin_B_write : xk_B_write ∈ lw_g := xw_351
theorem xsel_B_write : Cond.selects xR_B xy_B_write xy_B_write ∈ lw_g := xw_350
theorem xkin_B_enter : xk_B_enter ∈ lw_g := xw_690
theorem xsel_B_enter : Cond.selects xR_B xy_B_enter xy_B_enter ∈ lw_g := xw_689
theorem xkin_B_leave : xk_B_leave ∈ lw_g := xw_648
theorem xsel_B_leave : Cond.selects xR_B xy_B_leave xy_B_leave ∈ lw_g := xw_647
set_option maxRecDepth 100000 in
theorem xin_K : ∀ w ∈ u_ws xR_K xF_K 13, w ∈ lw_g := by decide +kernel
theorem xkin_K_init : xk_K_init ∈ lw_g := xw_58
theorem xkin_K_clear : xk_K_clear ∈ lw_g := xw_271
theorem xsel_K_clear : Cond.selects xR_K xy_K_clear xy_K_clear ∈ lw_g := xw_270
theorem xkin_K_isOfS : xk_K_isOfS ∈ lw_g := xw_339
theorem xkin_K_isOfH : xk_K_isOfH ∈ lw_g := xw_342
theorem xkin_K_refusal : xk_K_refusal ∈ lw_g := xw_336
theorem xsel_K_refusal : Cond.selects xR_K xy_K_refusal xy_K_refusal ∈ lw_g := xw_335
theorem xkin_K_meant : xk_K_meant ∈ lw_g := xw_667
theorem xkin_K_tell : xk_K_tell ∈ lw_g := xw_368
theorem xsel_K_tell : Cond.selects xR_K xy_K_tell xy_K_tell ∈ lw_g := xw_367
theorem xkin_K_write : xk_K_write ∈ lw_g := xw_347
theorem xsel_K_write : Cond.selects xR_K xy_K_write xy_K_write ∈ lw_g := xw_346
theorem xkin_K_raiseSoft : xk_K_raiseSoft ∈ lw_g := xw_357
set_option maxRecDepth 100000 in
theorem xsel_K_raiseSoft : Cond.selects xR_K xy_K_raiseSoft xy_K_raiseSoft ∈ lw_g := xg_in 0 (by decide +kernel) (by decide +kernel)
theorem xkin_K_pendingForS : xk_K_pendingForS ∈ lw_g := xw_372
set_option maxRecDepth 100000 in
theorem xsel_K_pendingForS : Cond.selects xR_K xy_K_pendingForS xy_K_pendingForS ∈ lw_g := xg_in 1 (by decide +kernel) (by decide +kernel)
theorem xkin_K_dueForS : xk_K_dueForS ∈ lw_g := xw_404
theorem xsel_K_dueForS : Cond.selects xR_K xy_K_dueForS xy_K_dueForS ∈ lw_g := xw_403
theorem xkin_K_dueForVs : xk_K_dueForVs ∈ lw_g := xw_418
theorem xsel_K_dueForVs : Cond.selects xR_K xy_K_dueForVs xy_K_dueForVs ∈ lw_g := xw_417
theorem xkin_K_first : xk_K_first ∈ lw_g := xw_407
theorem xkin_K_noteTrap : xk_K_noteTrap ∈ lw_g := xw_695
theorem xsel_K_noteTrap : Cond.selects xR_K xy_K_noteTrap xy_K_noteTrap ∈ lw_g := xw_694
set_option maxRecDepth 100000 in
theorem xin_C : ∀ w ∈ u_ws xR_C xF_C 15, w ∈ lw_g := by decide +kernel
theorem xkin_C_init : xk_C_init ∈ lw_g := xw_27
theorem xkin_C_reset : xk_C_reset ∈ lw_g := xw_259
theorem xsel_C_reset : Cond.selects xR_C xy_C_reset xy_C_reset ∈ lw_g := xw_258
theorem xkin_C_put : xk_C_put ∈ lw_g := xw_324
theorem xsel_C_put : Cond.selects xR_C xy_C_put xy_C_put ∈ lw_g := xw_323
theorem xkin_C_startStep : xk_C_startStep ∈ lw_g := xw_392
theorem xsel_C_startStep : Cond.selects xR_C xy_C_startStep xy_C_startStep ∈ lw_g := xw_391
theorem xkin_C_interrupted : xk_C_interrupted ∈ lw_g := xw_400
set_option maxRecDepth 100000 in
theorem xsel_C_interrupted : Cond.selects xR_C xy_C_interrupted xy_C_interrupted ∈ lw_g := xg_in 2 (by decide +kernel) (by decide +kernel)
theorem xkin_C_endStep : xk_C_endStep ∈ lw_g := xw_676
theorem xsel_C_endStep : Cond.selects xR_C xy_C_endStep xy_C_endStep ∈ lw_g := xw_675
theorem xkin_C_takeTrap : xk_C_takeTrap ∈ lw_g := xw_680
set_option maxRecDepth 100000 in
theorem xsel_C_takeTrap : Cond.selects xR_C xy_C_takeTrap xy_C_takeTrap ∈ lw_g := xg_in 27 (by decide +kernel) (by decide +kernel)
theorem xkin_C_perform : xk_C_perform ∈ lw_g := xw_498
theorem xsel_C_perform : Cond.selects xR_C xy_C_perform xy_C_perform ∈ lw_g := xw_497
theorem xkin_C_refuse : xk_C_refuse ∈ lw_g := xw_512
set_option maxRecDepth 100000 in
theorem xsel_C_refuse : Cond.selects xR_C xy_C_refuse xy_C_refuse ∈ lw_g := xg_in 8 (by decide +kernel) (by decide +kernel)
theorem xkin_C_jump : xk_C_jump ∈ lw_g := xw_604
set_option maxRecDepth 100000 in
theorem xsel_C_jump : Cond.selects xR_C xy_C_jump xy_C_jump ∈ lw_g := xg_in 16 (by decide +kernel) (by decide +kernel)
theorem xkin_C_jumpToRegisterOp : xk_C_jumpToRegisterOp ∈ lw_g := xw_608
set_option maxRecDepth 100000 in
theorem xsel_C_jumpToRegisterOp : Cond.selects xR_C xy_C_jumpToRegisterOp xy_C_jumpToRegisterOp ∈ lw_g := xg_in 17 (by decide +kernel) (by decide +kernel)
theorem xkin_C_branchOp : xk_C_branchOp ∈ lw_g := xw_591
set_option maxRecDepth 100000 in
theorem xsel_C_branchOp : Cond.selects xR_C xy_C_branchOp xy_C_branchOp ∈ lw_g := xg_in 15 (by decide +kernel) (by decide +kernel)
theorem xkin_C_fenceOp : xk_C_fenceOp ∈ lw_g := xw_537
set_option maxRecDepth 100000 in
theorem xsel_C_fenceOp : Cond.selects xR_C xy_C_fenceOp xy_C_fenceOp ∈ lw_g := xg_in 10 (by decide +kernel) (by decide +kernel)
theorem xkin_C_immediateOp : xk_C_immediateOp ∈ lw_g := xw_541
set_option maxRecDepth 100000 in
theorem xsel_C_immediateOp : Cond.selects xR_C xy_C_immediateOp xy_C_immediateOp ∈ lw_g := xg_in 11 (by decide +kernel) (by decide +kernel)
theorem xkin_C_registerOp : xk_C_registerOp ∈ lw_g := xw_581
set_option maxRecDepth 100000 in
theorem xsel_C_registerOp : Cond.selects xR_C xy_C_registerOp xy_C_registerOp ∈ lw_g := xg_in 14 (by decide +kernel) (by decide +kernel)
theorem xkin_C_loadOp : xk_C_loadOp ∈ lw_g := xw_508
set_option maxRecDepth 100000 in
theorem xsel_C_loadOp : Cond.selects xR_C xy_C_loadOp xy_C_loadOp ∈ lw_g := xg_in 7 (by decide +kernel) (by decide +kernel)
theorem xkin_C_storeOp : xk_C_storeOp ∈ lw_g := xw_561
set_option maxRecDepth 100000 in
theorem xsel_C_storeOp : Cond.selects xR_C xy_C_storeOp xy_C_storeOp ∈ lw_g := xg_in 12 (by decide +kernel) (by decide +kernel)
theorem xkin_C_load : xk_C_load ∈ lw_g := xw_523
set_option maxRecDepth 100000 in
theorem xsel_C_load : Cond.selects xR_C xy_C_load xy_C_load ∈ lw_g := xg_in 9 (by decide +kernel) (by decide +kernel)
theorem xkin_C_store : xk_C_store ∈ lw_g := xw_569
set_option maxRecDepth 100000 in
theorem xsel_C_store : Cond.selects xR_C xy_C_store xy_C_store ∈ lw_g := xg_in 13 (by decide +kernel) (by decide +kernel)
theorem xkin_C_controlOp : xk_C_controlOp ∈ lw_g := xw_663
set_option maxRecDepth 100000 in
theorem xsel_C_controlOp : Cond.selects xR_C xy_C_controlOp xy_C_controlOp ∈ lw_g := xg_in 26 (by decide +kernel) (by decide +kernel)
theorem xkin_C_changed : xk_C_changed ∈ lw_g := xw_671
theorem xkin_C_systemOp : xk_C_systemOp ∈ lw_g := xw_616
set_option maxRecDepth 100000 in
theorem xsel_C_systemOp : Cond.selects xR_C xy_C_systemOp xy_C_systemOp ∈ lw_g := xg_in 18 (by decide +kernel) (by decide +kernel)
theorem xkin_C_isSet : xk_C_isSet ∈ lw_g := xw_621
set_option maxRecDepth 100000 in
theorem xsel_C_isSet : Cond.selects xR_C xy_C_isSet xy_C_isSet ∈ lw_g := xg_in 19 (by decide +kernel) (by decide +kernel)
theorem xkin_C_mayDo : xk_C_mayDo ∈ lw_g := xw_625
set_option maxRecDepth 100000 in
theorem xsel_C_mayDo : Cond.selects xR_C xy_C_mayDo xy_C_mayDo ∈ lw_g := xg_in 20 (by decide +kernel) (by decide +kernel)
theorem xkin_C_environmentCall : xk_C_environmentCall ∈ lw_g := xw_629
set_option maxRecDepth 100000 in
theorem xsel_C_environmentCall : Cond.selects xR_C xy_C_environmentCall xy_C_environmentCall ∈ lw_g := xg_in 21 (by decide +kernel) (by decide +kernel)
theorem xkin_C_setAlarm : xk_C_setAlarm ∈ lw_g := xw_633
set_option maxRecDepth 100000 in
theorem xsel_C_setAlarm : Cond.selects xR_C xy_C_setAlarm xy_C_setAlarm ∈ lw_g := xg_in 22 (by decide +kernel) (by decide +kernel)
theorem xkin_C_print : xk_C_print ∈ lw_g := xw_639
set_option maxRecDepth 100000 in
theorem xsel_C_print : Cond.selects xR_C xy_C_print xy_C_print ∈ lw_g := xg_in 23 (by decide +kernel) (by decide +kernel)
theorem xkin_C_returnFromTrap : xk_C_returnFromTrap ∈ lw_g := xw_643
set_option maxRecDepth 100000 in
theorem xsel_C_returnFromTrap : Cond.selects xR_C xy_C_returnFromTrap xy_C_returnFromTrap ∈ lw_g := xg_in 24 (by decide +kernel) (by decide +kernel)
theorem xkin_C_guestOp : xk_C_guestOp ∈ lw_g := xw_653
set_option maxRecDepth 100000 in
theorem xsel_C_guestOp : Cond.selects xR_C xy_C_guestOp xy_C_guestOp ∈ lw_g := xg_in 25 (by decide +kernel) (by decide +kernel)
theorem xkin_C_isGuestForm : xk_C_isGuestForm ∈ lw_g := xw_656
theorem xkin_D_op : xk_D_op ∈ lw_g := xw_504
theorem xkin_D_d : xk_D_d ∈ lw_g := xw_531
theorem xkin_D_f : xk_D_f ∈ lw_g := xw_501
theorem xkin_D_a : xk_D_a ∈ lw_g := xw_515
theorem xkin_D_b : xk_D_b ∈ lw_g := xw_547
theorem xkin_D_g : xk_D_g ∈ lw_g := xw_544
theorem xkin_D_immediate : xk_D_immediate ∈ lw_g := xw_518
theorem xkin_D_storeOffset : xk_D_storeOffset ∈ lw_g := xw_564
theorem xkin_D_branchOffset : xk_D_branchOffset ∈ lw_g := xw_600
theorem xkin_D_jumpOffset : xk_D_jumpOffset ∈ lw_g := xw_611
theorem xkin_D_upper : xk_D_upper ∈ lw_g := xw_557
set_option maxRecDepth 100000 in
theorem xin_F : ∀ w ∈ u_ws xR_F xF_F 1, w ∈ lw_g := by decide +kernel
theorem xkin_F_init : xk_F_init ∈ lw_g := xw_297
set_option maxRecDepth 100000 in
theorem xin_M : ∀ w ∈ u_ws xR_M xF_M 2, w ∈ lw_g := by decide +kernel
theorem xkin_M_init : xk_M_init ∈ lw_g := xw_33
theorem xkin_M_clear : xk_M_clear ∈ lw_g := xw_266
theorem xsel_M_clear : Cond.selects xR_M xy_M_clear xy_M_clear ∈ lw_g := xw_265
theorem xkin_M_readWord : xk_M_readWord ∈ lw_g := xw_312
theorem xsel_M_readWord : Cond.selects xR_M xy_M_readWord xy_M_readWord ∈ lw_g := xw_311
theorem xkin_M_writeWord : xk_M_writeWord ∈ lw_g := xw_293
theorem xsel_M_writeWord : Cond.selects xR_M xy_M_writeWord xy_M_writeWord ∈ lw_g := xw_292
theorem xkin_M_read : xk_M_read ∈ lw_g := xw_527
theorem xsel_M_read : Cond.selects xR_M xy_M_read xy_M_read ∈ lw_g := xw_526
theorem xkin_M_write : xk_M_write ∈ lw_g := xw_575
theorem xsel_M_write : Cond.selects xR_M xy_M_write xy_M_write ∈ lw_g := xw_574
set_option maxRecDepth 100000 in
theorem xin_T : ∀ w ∈ u_ws xR_T xF_T 3, w ∈ lw_g := by decide +kernel
theorem xkin_T_init : xk_T_init ∈ lw_g := xw_50
theorem xkin_T_translate : xk_T_translate ∈ lw_g := xw_424
theorem xsel_T_translate : Cond.selects xR_T xy_T_translate xy_T_translate ∈ lw_g := xw_423
theorem xkin_T_firstStage : xk_T_firstStage ∈ lw_g := xw_445
set_option maxRecDepth 100000 in
theorem xsel_T_firstStage : Cond.selects xR_T xy_T_firstStage xy_T_firstStage ∈ lw_g := xg_in 3 (by decide +kernel) (by decide +kernel)
theorem xkin_T_secondStage : xk_T_secondStage ∈ lw_g := xw_487
set_option maxRecDepth 100000 in
theorem xsel_T_secondStage : Cond.selects xR_T xy_T_secondStage xy_T_secondStage ∈ lw_g := xg_in 6 (by decide +kernel) (by decide +kernel)
theorem xkin_T_guestVerdict : xk_T_guestVerdict ∈ lw_g := xw_482
set_option maxRecDepth 100000 in
theorem xsel_T_guestVerdict : Cond.selects xR_T xy_T_guestVerdict xy_T_guestVerdict ∈ lw_g := xg_in 5 (by decide +kernel) (by decide +kernel)
theorem xkin_T_walk : xk_T_walk ∈ lw_g := xw_454
set_option maxRecDepth 100000 in
theorem xsel_T_walk : Cond.selects xR_T xy_T_walk xy_T_walk ∈ lw_g := xg_in 4 (by decide +kernel) (by decide +kernel)
theorem xkin_T_inMemory : xk_T_inMemory ∈ lw_g := xw_457
theorem xkin_T_firstPlace : xk_T_firstPlace ∈ lw_g := xw_448
theorem xkin_T_nextPlace : xk_T_nextPlace ∈ lw_g := xw_477
theorem xkin_T_isLeaf : xk_T_isLeaf ∈ lw_g := xw_463
theorem xkin_T_isPointer : xk_T_isPointer ∈ lw_g := xw_474
theorem xkin_T_allows : xk_T_allows ∈ lw_g := xw_466
theorem xkin_T_result : xk_T_result ∈ lw_g := xw_470
set_option maxRecDepth 100000 in
theorem xin_P : ∀ w ∈ u_ws xR_P xF_P 6, w ∈ lw_g := by decide +kernel
theorem xkin_P_init : xk_P_init ∈ lw_g := xw_156
theorem xkin_P_clear : xk_P_clear ∈ lw_g := xw_396
theorem xsel_P_clear : Cond.selects xR_P xy_P_clear xy_P_clear ∈ lw_g := xw_395
theorem xkin_P_raise : xk_P_raise ∈ lw_g := xw_414
theorem xsel_P_raise : Cond.selects xR_P xy_P_raise xy_P_raise ∈ lw_g := xw_413
theorem xkin_P_tellsAddress : xk_P_tellsAddress ∈ lw_g := xw_701
theorem xsel_P_tellsAddress : Cond.selects xR_P xy_P_tellsAddress xy_P_tellsAddress ∈ lw_g := xw_700
theorem xkin_P_goesToVs : xk_P_goesToVs ∈ lw_g := xw_685
theorem xsel_P_goesToVs : Cond.selects xR_P xy_P_goesToVs xy_P_goesToVs ∈ lw_g := xw_684
theorem xkin_O_init : xk_O_init ∈ lw_g := xw_22
theorem xkin_Y_fill : xk_Y_fill ∈ lw_g := xw_262
def xNest : List Cond := [(Jvm.Cond.methodLinkNest "HyperHost$Core" (26 : Nat) ({ cls := "HyperHost$Translator", name := "<init>", desc := "()V" } : Jvm.MethodName) "HyperHost"),
  (Jvm.Cond.methodLinkNest "HyperHost$Translator" (22 : Nat) ({ cls := "HyperHost$Controls", name := "<init>", desc := "()V" } : Jvm.MethodName) "HyperHost"),
  (Jvm.Cond.methodLinkNest "HyperHost$Controls" (11 : Nat) ({ cls := "HyperHost$Bank", name := "<init>", desc := "()V" } : Jvm.MethodName) "HyperHost"),
  (Jvm.Cond.methodLinkNest "HyperHost$Translator" (29 : Nat) ({ cls := "HyperHost$Trap", name := "<init>", desc := "()V" } : Jvm.MethodName) "HyperHost"),
  (Jvm.Cond.methodLinkNest "HyperHost$Memory" (31 : Nat) ({ cls := "HyperHost$Frame", name := "<init>", desc := "()V" } : Jvm.MethodName) "HyperHost"),
  (Jvm.Cond.fieldLinkNest "HyperHost$Controls" (100 : Nat) "HyperHost" "INTERRUPT_ORDER" "[I" "HyperHost"),
  (Jvm.Cond.methodLinkNest "HyperHost$Translator" (44 : Nat) ({ cls := "HyperHost", name := "isVirtual", desc := "(I)Z" } : Jvm.MethodName) "HyperHost"),
  (Jvm.Cond.methodLinkNest "HyperHost$Translator" (65 : Nat) ({ cls := "HyperHost", name := "isSupervisor", desc := "(I)Z" } : Jvm.MethodName) "HyperHost"),
  (Jvm.Cond.methodLinkNest "HyperHost$Core" (333 : Nat) ({ cls := "HyperHost", name := "isVirtual", desc := "(I)Z" } : Jvm.MethodName) "HyperHost"),
  (Jvm.Cond.methodLinkNest "HyperHost$Core" (131 : Nat) ({ cls := "HyperHost", name := "isSupervisor", desc := "(I)Z" } : Jvm.MethodName) "HyperHost"),
  (Jvm.Cond.methodLinkNest "HyperHost$Trap" (32 : Nat) ({ cls := "HyperHost", name := "isVirtual", desc := "(I)Z" } : Jvm.MethodName) "HyperHost"),
  (Jvm.Cond.methodLinkNest "HyperHost$Controls" (104 : Nat) ({ cls := "HyperHost", name := "isVirtual", desc := "(I)Z" } : Jvm.MethodName) "HyperHost"),
  (Jvm.Cond.methodLinkNest "HyperHost$Controls" (107 : Nat) ({ cls := "HyperHost", name := "isSupervisor", desc := "(I)Z" } : Jvm.MethodName) "HyperHost")]
theorem xNest_on : ∀ w ∈ xNest, w.onTables = true := by decide +kernel
theorem xNest_warm : ∀ w ∈ xNest, ∀ {s U : State}, s.WarmedH U.vm → va_Nw w s → va_Nw w U := by
  intro w hw s U hW h
  simp only [xNest, List.mem_cons, List.not_mem_nil, or_false] at hw
  rcases hw with e | e | e | e | e | e | e | e | e | e | e | e | e <;> subst e
  · exact va_Nw.warmM hW h
  · exact va_Nw.warmM hW h
  · exact va_Nw.warmM hW h
  · exact va_Nw.warmM hW h
  · exact va_Nw.warmM hW h
  · exact va_Nw.warmF hW h
  · exact va_Nw.warmM hW h
  · exact va_Nw.warmM hW h
  · exact va_Nw.warmM hW h
  · exact va_Nw.warmM hW h
  · exact va_Nw.warmM hW h
  · exact va_Nw.warmM hW h
  · exact va_Nw.warmM hW h
abbrev xEnN : List String := ["FETCH", "LOAD", "LOAD_FOR_EXECUTION", "STORE"]
abbrev xEnF : List (String × String × String × List Int32) := [("HyperHost$Access", "any", "I", [8, 2, 8, 4]), ("HyperHost$Access", "all", "I", [65, 65, 65, 193]), ("HyperHost$Access", "misaligned", "I", [0, 4, 4, 6]), ("HyperHost$Access", "fault", "I", [12, 13, 13, 15]), ("HyperHost$Access", "guestFault", "I", [20, 21, 21, 23]), ("HyperHost$Access", "outside", "I", [1, 5, 5, 7])]
abbrev xTab0 : List Int32 := [9, 1, 5, 10, 2, 6]
abbrev xTab1 : List Int32 := [256, 260, 261, 320, 321, 322, 323, 324, 384, 512, 516, 517, 576, 577, 578, 579, 580, 640, 1536, 1538, 1539, 1540, 1603, 1604, 1605, 1610, 1664, 3073, 3201]
/-- the statics: the accesses at z.1, the tables at z.2; the frames' array; the nest's words -/
def xS (z : (Nat → Nat) × (Nat → Nat)) (A : Nat → Prop) (U : State) (H : Heap) : Prop :=
  va_En "HyperHost$Access" "LHyperHost$Access;" xEnN xEnF z.1 A U H ∧ (va_Z "HyperHost" "INTERRUPT_ORDER" "[I" (.ref (z.2 0)) A U H ∧ va_T .int (z.2 0) 6 (fun j => .int (xTab0.getD j 0)) A U H) ∧ (va_Z "HyperHostModel" "NUMBERS" "[I" (.ref (z.2 1)) A U H ∧ va_T .int (z.2 1) 29 (fun j => .int (xTab1.getD j 0)) A U H) ∧ va_AO "HyperHost$Frame" U ∧ ∀ w ∈ xNest, va_Nw w U
