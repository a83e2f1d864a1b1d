set_option maxRecDepth 100000 in
theorem xw_259 : (Jvm.Cond.code ({ cls := "HyperHost$Core", name := "reset", desc := "()V" } : Jvm.MethodName) prog_6_method_2_code (1 : Nat) (Option.none : Option Jvm.ClassFile.FieldType)) ∈ lw_g := xg_in 331 (by decide +kernel) (by decide +kernel)
set_option maxRecDepth 100000 in
theorem xw_260 : (Jvm.Cond.methodLink "HyperHost$Core" (45 : Nat) ({ cls := "java/util/Arrays", name := "fill", desc := "([II)V" } : Jvm.MethodName)) ∈ lw_g := xg_in 332 (by decide +kernel) (by decide +kernel)
set_option maxRecDepth 100000 in
theorem xw_261 : (Jvm.Cond.static ({ cls := "java/util/Arrays", name := "fill", desc := "([II)V" } : Jvm.MethodName)) ∈ lw_g := xg_in 333 (by decide +kernel) (by decide +kernel)
set_option maxRecDepth 100000 in
theorem xw_262 : (Jvm.Cond.code ({ cls := "java/util/Arrays", name := "fill", desc := "([II)V" } : Jvm.MethodName) prog_15_method_103_code (4 : Nat) (Option.none : Option Jvm.ClassFile.FieldType)) ∈ lw_g := xg_in 334 (by decide +kernel) (by decide +kernel)
set_option maxRecDepth 100000 in
theorem xw_263 : (Jvm.Cond.methodLink "HyperHost$Core" (51 : Nat) ({ cls := "HyperHost$Memory", name := "clear", desc := "()V" } : Jvm.MethodName)) ∈ lw_g := xg_in 335 (by decide +kernel) (by decide +kernel)
set_option maxRecDepth 100000 in
theorem xw_264 : (Jvm.Cond.instanceMethod ({ cls := "HyperHost$Memory", name := "clear", desc := "()V" } : Jvm.MethodName)) ∈ lw_g := xg_in 336 (by decide +kernel) (by decide +kernel)
set_option maxRecDepth 100000 in
theorem xw_265 : (Jvm.Cond.selects "HyperHost$Memory" ({ cls := "HyperHost$Memory", name := "clear", desc := "()V" } : Jvm.MethodName) ({ cls := "HyperHost$Memory", name := "clear", desc := "()V" } : Jvm.MethodName)) ∈ lw_g := xg_in 337 (by decide +kernel) (by decide +kernel)
set_option maxRecDepth 100000 in
theorem xw_266 : (Jvm.Cond.code ({ cls := "HyperHost$Memory", name := "clear", desc := "()V" } : Jvm.MethodName) prog_9_method_2_code (3 : Nat) (Option.none : Option Jvm.ClassFile.FieldType)) ∈ lw_g := xg_in 338 (by decide +kernel) (by decide +kernel)
set_option maxRecDepth 100000 in
theorem xw_267 : (Jvm.Cond.methodLink "HyperHost$Memory" (25 : Nat) ({ cls := "java/util/Arrays", name := "fill", desc := "([II)V" } : Jvm.MethodName)) ∈ lw_g := xg_in 339 (by decide +kernel) (by decide +kernel)
set_option maxRecDepth 100000 in
theorem xw_268 : (Jvm.Cond.methodLink "HyperHost$Core" (54 : Nat) ({ cls := "HyperHost$Controls", name := "clear", desc := "()V" } : Jvm.MethodName)) ∈ lw_g := xg_in 340 (by decide +kernel) (by decide +kernel)
set_option maxRecDepth 100000 in
theorem xw_269 : (Jvm.Cond.instanceMethod ({ cls := "HyperHost$Controls", name := "clear", desc := "()V" } : Jvm.MethodName)) ∈ lw_g := xg_in 341 (by decide +kernel) (by decide +kernel)
set_option maxRecDepth 100000 in
theorem xw_270 : (Jvm.Cond.selects "HyperHost$Controls" ({ cls := "HyperHost$Controls", name := "clear", desc := "()V" } : Jvm.MethodName) ({ cls := "HyperHost$Controls", name := "clear", desc := "()V" } : Jvm.MethodName)) ∈ lw_g := xg_in 342 (by decide +kernel) (by decide +kernel)
set_option maxRecDepth 100000 in
theorem xw_271 : (Jvm.Cond.code ({ cls := "HyperHost$Controls", name := "clear", desc := "()V" } : Jvm.MethodName) prog_5_method_2_code (1 : Nat) (Option.none : Option Jvm.ClassFile.FieldType)) ∈ lw_g := xg_in 343 (by decide +kernel) (by decide +kernel)
set_option maxRecDepth 100000 in
theorem xw_272 : (Jvm.Cond.methodLink "HyperHost$Controls" (21 : Nat) ({ cls := "HyperHost$Bank", name := "clear", desc := "()V" } : Jvm.MethodName)) ∈ lw_g := xg_in 344 (by decide +kernel) (by decide +kernel)
set_option maxRecDepth 100000 in
theorem xw_273 : (Jvm.Cond.instanceMethod ({ cls := "HyperHost$Bank", name := "clear", desc := "()V" } : Jvm.MethodName)) ∈ lw_g := xg_in 345 (by decide +kernel) (by decide +kernel)
set_option maxRecDepth 100000 in
theorem xw_274 : (Jvm.Cond.selects "HyperHost$Bank" ({ cls := "HyperHost$Bank", name := "clear", desc := "()V" } : Jvm.MethodName) ({ cls := "HyperHost$Bank", name := "clear", desc := "()V" } : Jvm.MethodName)) ∈ lw_g := xg_in 346 (by decide +kernel) (by decide +kernel)
set_option maxRecDepth 100000 in
theorem xw_275 : (Jvm.Cond.code ({ cls := "HyperHost$Bank", name := "clear", desc := "()V" } : Jvm.MethodName) prog_4_method_2_code (1 : Nat) (Option.none : Option Jvm.ClassFile.FieldType)) ∈ lw_g := xg_in 347 (by decide +kernel) (by decide +kernel)
set_option maxRecDepth 100000 in
theorem xw_276 : (Jvm.Cond.constantLong "HyperHost$Controls" (53 : Nat) (9223372036854775807 : Int64)) ∈ lw_g := xg_in 348 (by decide +kernel) (by decide +kernel)
set_option maxRecDepth 100000 in
theorem xw_277 : (Jvm.Cond.fieldLink "HyperHost" (12 : Nat) "HyperHost" "core" "LHyperHost$Core;") ∈ lw_g := xg_in 349 (by decide +kernel) (by decide +kernel)
set_option maxRecDepth 100000 in
theorem xw_278 : (Jvm.Cond.laysFinal "HyperHost" "HyperHost" "core" "LHyperHost$Core;") ∈ lw_g := xg_in 350 (by decide +kernel) (by decide +kernel)
set_option maxRecDepth 100000 in
theorem xw_281 : (Jvm.Cond.methodLink "HyperHostLaw" (13 : Nat) ({ cls := "HyperHost", name := "begin", desc := "()V" } : Jvm.MethodName)) ∈ lw_g := xg_in 353 (by decide +kernel) (by decide +kernel)
set_option maxRecDepth 100000 in
theorem xw_282 : (Jvm.Cond.instanceMethod ({ cls := "HyperHost", name := "begin", desc := "()V" } : Jvm.MethodName)) ∈ lw_g := xg_in 354 (by decide +kernel) (by decide +kernel)
set_option maxRecDepth 100000 in
theorem xw_283 : (Jvm.Cond.selects "HyperHost" ({ cls := "HyperHost", name := "begin", desc := "()V" } : Jvm.MethodName) ({ cls := "HyperHost", name := "begin", desc := "()V" } : Jvm.MethodName)) ∈ lw_g := xg_in 355 (by decide +kernel) (by decide +kernel)
set_option maxRecDepth 100000 in
theorem xw_284 : (Jvm.Cond.code ({ cls := "HyperHost", name := "begin", desc := "()V" } : Jvm.MethodName) prog_1_method_2_code (1 : Nat) (Option.none : Option Jvm.ClassFile.FieldType)) ∈ lw_g := xg_in 356 (by decide +kernel) (by decide +kernel)
set_option maxRecDepth 100000 in
theorem xw_285 : (Jvm.Cond.methodLink "HyperHostLaw" (17 : Nat) ({ cls := "HyperHost", name := "poke", desc := "(IIIIII)I" } : Jvm.MethodName)) ∈ lw_g := xg_in 357 (by decide +kernel) (by decide +kernel)
set_option maxRecDepth 100000 in
theorem xw_286 : (Jvm.Cond.instanceMethod ({ cls := "HyperHost", name := "poke", desc := "(IIIIII)I" } : Jvm.MethodName)) ∈ lw_g := xg_in 358 (by decide +kernel) (by decide +kernel)
set_option maxRecDepth 100000 in
theorem xw_287 : (Jvm.Cond.selects "HyperHost" ({ cls := "HyperHost", name := "poke", desc := "(IIIIII)I" } : Jvm.MethodName) ({ cls := "HyperHost", name := "poke", desc := "(IIIIII)I" } : Jvm.MethodName)) ∈ lw_g := xg_in 359 (by decide +kernel) (by decide +kernel)
set_option maxRecDepth 100000 in
theorem xw_288 : (Jvm.Cond.code ({ cls := "HyperHost", name := "poke", desc := "(IIIIII)I" } : Jvm.MethodName) prog_1_method_3_code (7 : Nat) (Option.some Jvm.ClassFile.FieldType.int)) ∈ lw_g := xg_in 360 (by decide +kernel) (by decide +kernel)
set_option maxRecDepth 100000 in
theorem xw_289 : (Jvm.Cond.constant "HyperHost" (19 : Nat) (262124 : Int32)) ∈ lw_g := xg_in 361 (by decide +kernel) (by decide +kernel)
set_option maxRecDepth 100000 in
theorem xw_290 : (Jvm.Cond.methodLink "HyperHost" (24 : Nat) ({ cls := "HyperHost$Memory", name := "writeWord", desc := "(II)V" } : Jvm.MethodName)) ∈ lw_g := xg_in 362 (by decide +kernel) (by decide +kernel)
set_option maxRecDepth 100000 in
theorem xw_291 : (Jvm.Cond.instanceMethod ({ cls := "HyperHost$Memory", name := "writeWord", desc := "(II)V" } : Jvm.MethodName)) ∈ lw_g := xg_in 363 (by decide +kernel) (by decide +kernel)
set_option maxRecDepth 100000 in
theorem xw_292 : (Jvm.Cond.selects "HyperHost$Memory" ({ cls := "HyperHost$Memory", name := "writeWord", desc := "(II)V" } : Jvm.MethodName) ({ cls := "HyperHost$Memory", name := "writeWord", desc := "(II)V" } : Jvm.MethodName)) ∈ lw_g := xg_in 364 (by decide +kernel) (by decide +kernel)
set_option maxRecDepth 100000 in
theorem xw_293 : (Jvm.Cond.code ({ cls := "HyperHost$Memory", name := "writeWord", desc := "(II)V" } : Jvm.MethodName) prog_9_method_4_code (5 : Nat) (Option.none : Option Jvm.ClassFile.FieldType)) ∈ lw_g := xg_in 365 (by decide +kernel) (by decide +kernel)
set_option maxRecDepth 100000 in
theorem xw_294 : (Jvm.Cond.instantiable "HyperHost$Frame" (1 : Nat)) ∈ lw_g := xg_in 366 (by decide +kernel) (by decide +kernel)
set_option maxRecDepth 100000 in
theorem xw_296 : (Jvm.Cond.instanceMethod ({ cls := "HyperHost$Frame", name := "<init>", desc := "()V" } : Jvm.MethodName)) ∈ lw_g := xg_in 368 (by decide +kernel) (by decide +kernel)
set_option maxRecDepth 100000 in
theorem xw_297 : (Jvm.Cond.code ({ cls := "HyperHost$Frame", name := "<init>", desc := "()V" } : Jvm.MethodName) prog_8_method_1_code (1 : Nat) (Option.none : Option Jvm.ClassFile.FieldType)) ∈ lw_g := xg_in 369 (by decide +kernel) (by decide +kernel)
set_option maxRecDepth 100000 in
theorem xw_298 : (Jvm.Cond.methodLink "HyperHost$Frame" (3 : Nat) ({ cls := "java/lang/Object", name := "<init>", desc := "()V" } : Jvm.MethodName)) ∈ lw_g := xg_in 370 (by decide +kernel) (by decide +kernel)
set_option maxRecDepth 100000 in
theorem xw_299 : (Jvm.Cond.fieldLink "HyperHost$Frame" (9 : Nat) "HyperHost$Frame" "words" "[I") ∈ lw_g := xg_in 371 (by decide +kernel) (by decide +kernel)
set_option maxRecDepth 100000 in
theorem xw_300 : (Jvm.Cond.fieldLink "HyperHost$Memory" (21 : Nat) "HyperHost$Frame" "words" "[I") ∈ lw_g := xg_in 372 (by decide +kernel) (by decide +kernel)
set_option maxRecDepth 100000 in
theorem xw_301 : (Jvm.Cond.laysFinal "HyperHost$Frame" "HyperHost$Frame" "words" "[I") ∈ lw_g := xg_in 373 (by decide +kernel) (by decide +kernel)
set_option maxRecDepth 100000 in
theorem xw_304 : (Jvm.Cond.methodLink "HyperHostLaw" (22 : Nat) ({ cls := "HyperHost", name := "word", desc := "(I)I" } : Jvm.MethodName)) ∈ lw_g := xg_in 376 (by decide +kernel) (by decide +kernel)
set_option maxRecDepth 100000 in
theorem xw_305 : (Jvm.Cond.instanceMethod ({ cls := "HyperHost", name := "word", desc := "(I)I" } : Jvm.MethodName)) ∈ lw_g := xg_in 377 (by decide +kernel) (by decide +kernel)
set_option maxRecDepth 100000 in
theorem xw_306 : (Jvm.Cond.selects "HyperHost" ({ cls := "HyperHost", name := "word", desc := "(I)I" } : Jvm.MethodName) ({ cls := "HyperHost", name := "word", desc := "(I)I" } : Jvm.MethodName)) ∈ lw_g := xg_in 378 (by decide +kernel) (by decide +kernel)
set_option maxRecDepth 100000 in
theorem xw_307 : (Jvm.Cond.code ({ cls := "HyperHost", name := "word", desc := "(I)I" } : Jvm.MethodName) prog_1_method_4_code (2 : Nat) (Option.some Jvm.ClassFile.FieldType.int)) ∈ lw_g := xg_in 379 (by decide +kernel) (by decide +kernel)
set_option maxRecDepth 100000 in
theorem xw_308 : (Jvm.Cond.constant "HyperHost" (30 : Nat) (262144 : Int32)) ∈ lw_g := xg_in 380 (by decide +kernel) (by decide +kernel)
set_option maxRecDepth 100000 in
theorem xw_309 : (Jvm.Cond.methodLink "HyperHost" (31 : Nat) ({ cls := "HyperHost$Memory", name := "readWord", desc := "(I)I" } : Jvm.MethodName)) ∈ lw_g := xg_in 381 (by decide +kernel) (by decide +kernel)
set_option maxRecDepth 100000 in
theorem xw_310 : (Jvm.Cond.instanceMethod ({ cls := "HyperHost$Memory", name := "readWord", desc := "(I)I" } : Jvm.MethodName)) ∈ lw_g := xg_in 382 (by decide +kernel) (by decide +kernel)
set_option maxRecDepth 100000 in
theorem xw_311 : (Jvm.Cond.selects "HyperHost$Memory" ({ cls := "HyperHost$Memory", name := "readWord", desc := "(I)I" } : Jvm.MethodName) ({ cls := "HyperHost$Memory", name := "readWord", desc := "(I)I" } : Jvm.MethodName)) ∈ lw_g := xg_in 383 (by decide +kernel) (by decide +kernel)
set_option maxRecDepth 100000 in
theorem xw_312 : (Jvm.Cond.code ({ cls := "HyperHost$Memory", name := "readWord", desc := "(I)I" } : Jvm.MethodName) prog_9_method_3_code (4 : Nat) (Option.some Jvm.ClassFile.FieldType.int)) ∈ lw_g := xg_in 384 (by decide +kernel) (by decide +kernel)
set_option maxRecDepth 100000 in
theorem xw_313 : (Jvm.Cond.methodLink "HyperHostLaw" (27 : Nat) ({ cls := "HyperHost", name := "sum", desc := "(II)I" } : Jvm.MethodName)) ∈ lw_g := xg_in 385 (by decide +kernel) (by decide +kernel)
set_option maxRecDepth 100000 in
theorem xw_314 : (Jvm.Cond.instanceMethod ({ cls := "HyperHost", name := "sum", desc := "(II)I" } : Jvm.MethodName)) ∈ lw_g := xg_in 386 (by decide +kernel) (by decide +kernel)
set_option maxRecDepth 100000 in
theorem xw_315 : (Jvm.Cond.selects "HyperHost" ({ cls := "HyperHost", name := "sum", desc := "(II)I" } : Jvm.MethodName) ({ cls := "HyperHost", name := "sum", desc := "(II)I" } : Jvm.MethodName)) ∈ lw_g := xg_in 387 (by decide +kernel) (by decide +kernel)
set_option maxRecDepth 100000 in
theorem xw_316 : (Jvm.Cond.code ({ cls := "HyperHost", name := "sum", desc := "(II)I" } : Jvm.MethodName) prog_1_method_5_code (6 : Nat) (Option.some Jvm.ClassFile.FieldType.int)) ∈ lw_g := xg_in 388 (by decide +kernel) (by decide +kernel)
set_option maxRecDepth 100000 in
theorem xw_317 : (Jvm.Cond.methodLink "HyperHostLaw" (32 : Nat) ({ cls := "HyperHost", name := "setRegister", desc := "(II)I" } : Jvm.MethodName)) ∈ lw_g := xg_in 389 (by decide +kernel) (by decide +kernel)
set_option maxRecDepth 100000 in
theorem xw_318 : (Jvm.Cond.instanceMethod ({ cls := "HyperHost", name := "setRegister", desc := "(II)I" } : Jvm.MethodName)) ∈ lw_g := xg_in 390 (by decide +kernel) (by decide +kernel)
set_option maxRecDepth 100000 in
theorem xw_319 : (Jvm.Cond.selects "HyperHost" ({ cls := "HyperHost", name := "setRegister", desc := "(II)I" } : Jvm.MethodName) ({ cls := "HyperHost", name := "setRegister", desc := "(II)I" } : Jvm.MethodName)) ∈ lw_g := xg_in 391 (by decide +kernel) (by decide +kernel)
set_option maxRecDepth 100000 in
theorem xw_320 : (Jvm.Cond.code ({ cls := "HyperHost", name := "setRegister", desc := "(II)I" } : Jvm.MethodName) prog_1_method_6_code (4 : Nat) (Option.some Jvm.ClassFile.FieldType.int)) ∈ lw_g := xg_in 392 (by decide +kernel) (by decide +kernel)
set_option maxRecDepth 100000 in
theorem xw_321 : (Jvm.Cond.methodLink "HyperHost" (39 : Nat) ({ cls := "HyperHost$Core", name := "put", desc := "(II)V" } : Jvm.MethodName)) ∈ lw_g := xg_in 393 (by decide +kernel) (by decide +kernel)
set_option maxRecDepth 100000 in
theorem xw_322 : (Jvm.Cond.instanceMethod ({ cls := "HyperHost$Core", name := "put", desc := "(II)V" } : Jvm.MethodName)) ∈ lw_g := xg_in 394 (by decide +kernel) (by decide +kernel)
set_option maxRecDepth 100000 in
theorem xw_323 : (Jvm.Cond.selects "HyperHost$Core" ({ cls := "HyperHost$Core", name := "put", desc := "(II)V" } : Jvm.MethodName) ({ cls := "HyperHost$Core", name := "put", desc := "(II)V" } : Jvm.MethodName)) ∈ lw_g := xg_in 395 (by decide +kernel) (by decide +kernel)
set_option maxRecDepth 100000 in
theorem xw_324 : (Jvm.Cond.code ({ cls := "HyperHost$Core", name := "put", desc := "(II)V" } : Jvm.MethodName) prog_6_method_3_code (3 : Nat) (Option.none : Option Jvm.ClassFile.FieldType)) ∈ lw_g := xg_in 396 (by decide +kernel) (by decide +kernel)
set_option maxRecDepth 100000 in
theorem xw_325 : (Jvm.Cond.methodLink "HyperHostLaw" (36 : Nat) ({ cls := "HyperHost", name := "register", desc := "(I)I" } : Jvm.MethodName)) ∈ lw_g := xg_in 397 (by decide +kernel) (by decide +kernel)
set_option maxRecDepth 100000 in
theorem xw_326 : (Jvm.Cond.instanceMethod ({ cls := "HyperHost", name := "register", desc := "(I)I" } : Jvm.MethodName)) ∈ lw_g := xg_in 398 (by decide +kernel) (by decide +kernel)
set_option maxRecDepth 100000 in
theorem xw_327 : (Jvm.Cond.selects "HyperHost" ({ cls := "HyperHost", name := "register", desc := "(I)I" } : Jvm.MethodName) ({ cls := "HyperHost", name := "register", desc := "(I)I" } : Jvm.MethodName)) ∈ lw_g := xg_in 399 (by decide +kernel) (by decide +kernel)
set_option maxRecDepth 100000 in
theorem xw_328 : (Jvm.Cond.code ({ cls := "HyperHost", name := "register", desc := "(I)I" } : Jvm.MethodName) prog_1_method_7_code (2 : Nat) (Option.some Jvm.ClassFile.FieldType.int)) ∈ lw_g := xg_in 400 (by decide +kernel) (by decide +kernel)
set_option maxRecDepth 100000 in
theorem xw_329 : (Jvm.Cond.methodLink "HyperHostLaw" (40 : Nat) ({ cls := "HyperHost", name := "setControl", desc := "(II)I" } : Jvm.MethodName)) ∈ lw_g := xg_in 401 (by decide +kernel) (by decide +kernel)
set_option maxRecDepth 100000 in
theorem xw_330 : (Jvm.Cond.instanceMethod ({ cls := "HyperHost", name := "setControl", desc := "(II)I" } : Jvm.MethodName)) ∈ lw_g := xg_in 402 (by decide +kernel) (by decide +kernel)
set_option maxRecDepth 100000 in
theorem xw_331 : (Jvm.Cond.selects "HyperHost" ({ cls := "HyperHost", name := "setControl", desc := "(II)I" } : Jvm.MethodName) ({ cls := "HyperHost", name := "setControl", desc := "(II)I" } : Jvm.MethodName)) ∈ lw_g := xg_in 403 (by decide +kernel) (by decide +kernel)
set_option maxRecDepth 100000 in
theorem xw_332 : (Jvm.Cond.code ({ cls := "HyperHost", name := "setControl", desc := "(II)I" } : Jvm.MethodName) prog_1_method_8_code (3 : Nat) (Option.some Jvm.ClassFile.FieldType.int)) ∈ lw_g := xg_in 404 (by decide +kernel) (by decide +kernel)
set_option maxRecDepth 100000 in
theorem xw_333 : (Jvm.Cond.methodLink "HyperHost" (46 : Nat) ({ cls := "HyperHost$Controls", name := "refusal", desc := "(IZI)I" } : Jvm.MethodName)) ∈ lw_g := xg_in 405 (by decide +kernel) (by decide +kernel)
set_option maxRecDepth 100000 in
theorem xw_334 : (Jvm.Cond.instanceMethod ({ cls := "HyperHost$Controls", name := "refusal", desc := "(IZI)I" } : Jvm.MethodName)) ∈ lw_g := xg_in 406 (by decide +kernel) (by decide +kernel)
set_option maxRecDepth 100000 in
theorem xw_335 : (Jvm.Cond.selects "HyperHost$Controls" ({ cls := "HyperHost$Controls", name := "refusal", desc := "(IZI)I" } : Jvm.MethodName) ({ cls := "HyperHost$Controls", name := "refusal", desc := "(IZI)I" } : Jvm.MethodName)) ∈ lw_g := xg_in 407 (by decide +kernel) (by decide +kernel)
set_option maxRecDepth 100000 in
theorem xw_336 : (Jvm.Cond.code ({ cls := "HyperHost$Controls", name := "refusal", desc := "(IZI)I" } : Jvm.MethodName) prog_5_method_5_code (5 : Nat) (Option.some Jvm.ClassFile.FieldType.int)) ∈ lw_g := xg_in 408 (by decide +kernel) (by decide +kernel)
set_option maxRecDepth 100000 in
theorem xw_337 : (Jvm.Cond.methodLink "HyperHost$Controls" (62 : Nat) ({ cls := "HyperHost$Controls", name := "isOfS", desc := "(I)Z" } : Jvm.MethodName)) ∈ lw_g := xg_in 409 (by decide +kernel) (by decide +kernel)
set_option maxRecDepth 100000 in
theorem xw_338 : (Jvm.Cond.static ({ cls := "HyperHost$Controls", name := "isOfS", desc := "(I)Z" } : Jvm.MethodName)) ∈ lw_g := xg_in 410 (by decide +kernel) (by decide +kernel)
set_option maxRecDepth 100000 in
theorem xw_339 : (Jvm.Cond.code ({ cls := "HyperHost$Controls", name := "isOfS", desc := "(I)Z" } : Jvm.MethodName) prog_5_method_3_code (1 : Nat) (Option.some Jvm.ClassFile.FieldType.boolean)) ∈ lw_g := xg_in 411 (by decide +kernel) (by decide +kernel)
set_option maxRecDepth 100000 in
theorem xw_340 : (Jvm.Cond.methodLink "HyperHost$Controls" (66 : Nat) ({ cls := "HyperHost$Controls", name := "isOfH", desc := "(I)Z" } : Jvm.MethodName)) ∈ lw_g := xg_in 412 (by decide +kernel) (by decide +kernel)
set_option maxRecDepth 100000 in
theorem xw_341 : (Jvm.Cond.static ({ cls := "HyperHost$Controls", name := "isOfH", desc := "(I)Z" } : Jvm.MethodName)) ∈ lw_g := xg_in 413 (by decide +kernel) (by decide +kernel)
set_option maxRecDepth 100000 in
theorem xw_342 : (Jvm.Cond.code ({ cls := "HyperHost$Controls", name := "isOfH", desc := "(I)Z" } : Jvm.MethodName) prog_5_method_4_code (1 : Nat) (Option.some Jvm.ClassFile.FieldType.boolean)) ∈ lw_g := xg_in 414 (by decide +kernel) (by decide +kernel)
set_option maxRecDepth 100000 in
theorem xw_343 : (Jvm.Cond.constant "HyperHost$Controls" (69 : Nat) (1048576 : Int32)) ∈ lw_g := xg_in 415 (by decide +kernel) (by decide +kernel)
set_option maxRecDepth 100000 in
theorem xw_344 : (Jvm.Cond.methodLink "HyperHost" (52 : Nat) ({ cls := "HyperHost$Controls", name := "write", desc := "(II)V" } : Jvm.MethodName)) ∈ lw_g := xg_in 416 (by decide +kernel) (by decide +kernel)
set_option maxRecDepth 100000 in
theorem xw_345 : (Jvm.Cond.instanceMethod ({ cls := "HyperHost$Controls", name := "write", desc := "(II)V" } : Jvm.MethodName)) ∈ lw_g := xg_in 417 (by decide +kernel) (by decide +kernel)
set_option maxRecDepth 100000 in
theorem xw_346 : (Jvm.Cond.selects "HyperHost$Controls" ({ cls := "HyperHost$Controls", name := "write", desc := "(II)V" } : Jvm.MethodName) ({ cls := "HyperHost$Controls", name := "write", desc := "(II)V" } : Jvm.MethodName)) ∈ lw_g := xg_in 418 (by decide +kernel) (by decide +kernel)
set_option maxRecDepth 100000 in
theorem xw_347 : (Jvm.Cond.code ({ cls := "HyperHost$Controls", name := "write", desc := "(II)V" } : Jvm.MethodName) prog_5_method_8_code (3 : Nat) (Option.none : Option Jvm.ClassFile.FieldType)) ∈ lw_g := xg_in 419 (by decide +kernel) (by decide +kernel)
set_option maxRecDepth 100000 in
theorem xw_348 : (Jvm.Cond.methodLink "HyperHost$Controls" (78 : Nat) ({ cls := "HyperHost$Bank", name := "write", desc := "(II)V" } : Jvm.MethodName)) ∈ lw_g := xg_in 420 (by decide +kernel) (by decide +kernel)
set_option maxRecDepth 100000 in
theorem xw_349 : (Jvm.Cond.instanceMethod ({ cls := "HyperHost$Bank", name := "write", desc := "(II)V" } : Jvm.MethodName)) ∈ lw_g := xg_in 421 (by decide +kernel) (by decide +kernel)
set_option maxRecDepth 100000 in
theorem xw_350 : (Jvm.Cond.selects "HyperHost$Bank" ({ cls := "HyperHost$Bank", name := "write", desc := "(II)V" } : Jvm.MethodName) ({ cls := "HyperHost$Bank", name := "write", desc := "(II)V" } : Jvm.MethodName)) ∈ lw_g := xg_in 422 (by decide +kernel) (by decide +kernel)
set_option maxRecDepth 100000 in
theorem xw_351 : (Jvm.Cond.code ({ cls := "HyperHost$Bank", name := "write", desc := "(II)V" } : Jvm.MethodName) prog_4_method_4_code (3 : Nat) (Option.none : Option Jvm.ClassFile.FieldType)) ∈ lw_g := xg_in 423 (by decide +kernel) (by decide +kernel)
set_option maxRecDepth 100000 in
theorem xw_352 : (Jvm.Cond.constant "HyperHost$Bank" (39 : Nat) (786722 : Int32)) ∈ lw_g := xg_in 424 (by decide +kernel) (by decide +kernel)
set_option maxRecDepth 100000 in
theorem xw_353 : (Jvm.Cond.constant "HyperHost$Bank" (40 : Nat) (-2143289345 : Int32)) ∈ lw_g := xg_in 425 (by decide +kernel) (by decide +kernel)
set_option maxRecDepth 100000 in
theorem xw_354 : (Jvm.Cond.methodLink "HyperHost$Controls" (82 : Nat) ({ cls := "HyperHost$Controls", name := "raiseSoft", desc := "(II)V" } : Jvm.MethodName)) ∈ lw_g := xg_in 426 (by decide +kernel) (by decide +kernel)
set_option maxRecDepth 100000 in
theorem xw_356 : (Jvm.Cond.instanceMethod ({ cls := "HyperHost$Controls", name := "raiseSoft", desc := "(II)V" } : Jvm.MethodName)) ∈ lw_g := xg_in 428 (by decide +kernel) (by decide +kernel)
set_option maxRecDepth 100000 in
theorem xw_357 : (Jvm.Cond.code ({ cls := "HyperHost$Controls", name := "raiseSoft", desc := "(II)V" } : Jvm.MethodName) prog_5_method_9_code (3 : Nat) (Option.none : Option Jvm.ClassFile.FieldType)) ∈ lw_g := xg_in 429 (by decide +kernel) (by decide +kernel)
set_option maxRecDepth 100000 in
theorem xw_358 : (Jvm.Cond.constant "HyperHost$Controls" (85 : Nat) (7340992 : Int32)) ∈ lw_g := xg_in 430 (by decide +kernel) (by decide +kernel)
set_option maxRecDepth 100000 in
theorem xw_359 : (Jvm.Cond.constant "HyperHost$Controls" (86 : Nat) (45567 : Int32)) ∈ lw_g := xg_in 431 (by decide +kernel) (by decide +kernel)
set_option maxRecDepth 100000 in
theorem xw_360 : (Jvm.Cond.constant "HyperHost$Controls" (87 : Nat) (-2143289348 : Int32)) ∈ lw_g := xg_in 432 (by decide +kernel) (by decide +kernel)
set_option maxRecDepth 100000 in
theorem xw_361 : (Jvm.Cond.methodLink "HyperHostLaw" (44 : Nat) ({ cls := "HyperHost", name := "control", desc := "(I)I" } : Jvm.MethodName)) ∈ lw_g := xg_in 433 (by decide +kernel) (by decide +kernel)
set_option maxRecDepth 100000 in
theorem xw_362 : (Jvm.Cond.instanceMethod ({ cls := "HyperHost", name := "control", desc := "(I)I" } : Jvm.MethodName)) ∈ lw_g := xg_in 434 (by decide +kernel) (by decide +kernel)
set_option maxRecDepth 100000 in
theorem xw_363 : (Jvm.Cond.selects "HyperHost" ({ cls := "HyperHost", name := "control", desc := "(I)I" } : Jvm.MethodName) ({ cls := "HyperHost", name := "control", desc := "(I)I" } : Jvm.MethodName)) ∈ lw_g := xg_in 435 (by decide +kernel) (by decide +kernel)
set_option maxRecDepth 100000 in
theorem xw_364 : (Jvm.Cond.code ({ cls := "HyperHost", name := "control", desc := "(I)I" } : Jvm.MethodName) prog_1_method_9_code (2 : Nat) (Option.some Jvm.ClassFile.FieldType.int)) ∈ lw_g := xg_in 436 (by decide +kernel) (by decide +kernel)
set_option maxRecDepth 100000 in
theorem xw_365 : (Jvm.Cond.methodLink "HyperHost" (55 : Nat) ({ cls := "HyperHost$Controls", name := "tell", desc := "(I)I" } : Jvm.MethodName)) ∈ lw_g := xg_in 437 (by decide +kernel) (by decide +kernel)
set_option maxRecDepth 100000 in
theorem xw_366 : (Jvm.Cond.instanceMethod ({ cls := "HyperHost$Controls", name := "tell", desc := "(I)I" } : Jvm.MethodName)) ∈ lw_g := xg_in 438 (by decide +kernel) (by decide +kernel)
set_option maxRecDepth 100000 in
theorem xw_367 : (Jvm.Cond.selects "HyperHost$Controls" ({ cls := "HyperHost$Controls", name := "tell", desc := "(I)I" } : Jvm.MethodName) ({ cls := "HyperHost$Controls", name := "tell", desc := "(I)I" } : Jvm.MethodName)) ∈ lw_g := xg_in 439 (by decide +kernel) (by decide +kernel)
set_option maxRecDepth 100000 in
theorem xw_368 : (Jvm.Cond.code ({ cls := "HyperHost$Controls", name := "tell", desc := "(I)I" } : Jvm.MethodName) prog_5_method_7_code (2 : Nat) (Option.some Jvm.ClassFile.FieldType.int)) ∈ lw_g := xg_in 440 (by decide +kernel) (by decide +kernel)
set_option maxRecDepth 100000 in
theorem xw_369 : (Jvm.Cond.methodLink "HyperHost$Controls" (70 : Nat) ({ cls := "HyperHost$Controls", name := "pendingForS", desc := "()I" } : Jvm.MethodName)) ∈ lw_g := xg_in 441 (by decide +kernel) (by decide +kernel)
set_option maxRecDepth 100000 in
theorem xw_371 : (Jvm.Cond.instanceMethod ({ cls := "HyperHost$Controls", name := "pendingForS", desc := "()I" } : Jvm.MethodName)) ∈ lw_g := xg_in 443 (by decide +kernel) (by decide +kernel)
set_option maxRecDepth 100000 in
theorem xw_372 : (Jvm.Cond.code ({ cls := "HyperHost$Controls", name := "pendingForS", desc := "()I" } : Jvm.MethodName) prog_5_method_10_code (1 : Nat) (Option.some Jvm.ClassFile.FieldType.int)) ∈ lw_g := xg_in 444 (by decide +kernel) (by decide +kernel)
set_option maxRecDepth 100000 in
theorem xw_373 : (Jvm.Cond.methodLink "HyperHost$Controls" (74 : Nat) ({ cls := "HyperHost$Bank", name := "tell", desc := "(I)I" } : Jvm.MethodName)) ∈ lw_g := xg_in 445 (by decide +kernel) (by decide +kernel)
set_option maxRecDepth 100000 in
theorem xw_374 : (Jvm.Cond.instanceMethod ({ cls := "HyperHost$Bank", name := "tell", desc := "(I)I" } : Jvm.MethodName)) ∈ lw_g := xg_in 446 (by decide +kernel) (by decide +kernel)
set_option maxRecDepth 100000 in
theorem xw_375 : (Jvm.Cond.selects "HyperHost$Bank" ({ cls := "HyperHost$Bank", name := "tell", desc := "(I)I" } : Jvm.MethodName) ({ cls := "HyperHost$Bank", name := "tell", desc := "(I)I" } : Jvm.MethodName)) ∈ lw_g := xg_in 447 (by decide +kernel) (by decide +kernel)
set_option maxRecDepth 100000 in
theorem xw_376 : (Jvm.Cond.code ({ cls := "HyperHost$Bank", name := "tell", desc := "(I)I" } : Jvm.MethodName) prog_4_method_3_code (2 : Nat) (Option.some Jvm.ClassFile.FieldType.int)) ∈ lw_g := xg_in 448 (by decide +kernel) (by decide +kernel)
set_option maxRecDepth 100000 in
theorem xw_377 : (Jvm.Cond.methodLink "HyperHostLaw" (48 : Nat) ({ cls := "HyperHost", name := "place", desc := "(II)I" } : Jvm.MethodName)) ∈ lw_g := xg_in 449 (by decide +kernel) (by decide +kernel)
set_option maxRecDepth 100000 in
theorem xw_378 : (Jvm.Cond.instanceMethod ({ cls := "HyperHost", name := "place", desc := "(II)I" } : Jvm.MethodName)) ∈ lw_g := xg_in 450 (by decide +kernel) (by decide +kernel)
set_option maxRecDepth 100000 in
theorem xw_379 : (Jvm.Cond.selects "HyperHost" ({ cls := "HyperHost", name := "place", desc := "(II)I" } : Jvm.MethodName) ({ cls := "HyperHost", name := "place", desc := "(II)I" } : Jvm.MethodName)) ∈ lw_g := xg_in 451 (by decide +kernel) (by decide +kernel)
set_option maxRecDepth 100000 in
theorem xw_380 : (Jvm.Cond.code ({ cls := "HyperHost", name := "place", desc := "(II)I" } : Jvm.MethodName) prog_1_method_10_code (4 : Nat) (Option.some Jvm.ClassFile.FieldType.int)) ∈ lw_g := xg_in 452 (by decide +kernel) (by decide +kernel)
set_option maxRecDepth 100000 in
theorem xw_381 : (Jvm.Cond.methodLink "HyperHostLaw" (52 : Nat) ({ cls := "HyperHost", name := "line", desc := "(Z)Z" } : Jvm.MethodName)) ∈ lw_g := xg_in 453 (by decide +kernel) (by decide +kernel)
set_option maxRecDepth 100000 in
theorem xw_382 : (Jvm.Cond.instanceMethod ({ cls := "HyperHost", name := "line", desc := "(Z)Z" } : Jvm.MethodName)) ∈ lw_g := xg_in 454 (by decide +kernel) (by decide +kernel)
set_option maxRecDepth 100000 in
theorem xw_383 : (Jvm.Cond.selects "HyperHost" ({ cls := "HyperHost", name := "line", desc := "(Z)Z" } : Jvm.MethodName) ({ cls := "HyperHost", name := "line", desc := "(Z)Z" } : Jvm.MethodName)) ∈ lw_g := xg_in 455 (by decide +kernel) (by decide +kernel)
set_option maxRecDepth 100000 in
theorem xw_384 : (Jvm.Cond.code ({ cls := "HyperHost", name := "line", desc := "(Z)Z" } : Jvm.MethodName) prog_1_method_11_code (3 : Nat) (Option.some Jvm.ClassFile.FieldType.boolean)) ∈ lw_g := xg_in 456 (by decide +kernel) (by decide +kernel)
set_option maxRecDepth 100000 in
theorem xw_385 : (Jvm.Cond.methodLink "HyperHostLaw" (57 : Nat) ({ cls := "HyperHost", name := "run", desc := "(I)I" } : Jvm.MethodName)) ∈ lw_g := xg_in 457 (by decide +kernel) (by decide +kernel)
set_option maxRecDepth 100000 in
theorem xw_386 : (Jvm.Cond.instanceMethod ({ cls := "HyperHost", name := "run", desc := "(I)I" } : Jvm.MethodName)) ∈ lw_g := xg_in 458 (by decide +kernel) (by decide +kernel)
set_option maxRecDepth 100000 in
theorem xw_387 : (Jvm.Cond.selects "HyperHost" ({ cls := "HyperHost", name := "run", desc := "(I)I" } : Jvm.MethodName) ({ cls := "HyperHost", name := "run", desc := "(I)I" } : Jvm.MethodName)) ∈ lw_g := xg_in 459 (by decide +kernel) (by decide +kernel)
set_option maxRecDepth 100000 in
theorem xw_388 : (Jvm.Cond.code ({ cls := "HyperHost", name := "run", desc := "(I)I" } : Jvm.MethodName) prog_1_method_12_code (3 : Nat) (Option.some Jvm.ClassFile.FieldType.int)) ∈ lw_g := xg_in 460 (by decide +kernel) (by decide +kernel)
set_option maxRecDepth 100000 in
theorem xw_389 : (Jvm.Cond.methodLink "HyperHost" (72 : Nat) ({ cls := "HyperHost$Core", name := "startStep", desc := "()Z" } : Jvm.MethodName)) ∈ lw_g := xg_in 461 (by decide +kernel) (by decide +kernel)
set_option maxRecDepth 100000 in
theorem xw_390 : (Jvm.Cond.instanceMethod ({ cls := "HyperHost$Core", name := "startStep", desc := "()Z" } : Jvm.MethodName)) ∈ lw_g := xg_in 462 (by decide +kernel) (by decide +kernel)
set_option maxRecDepth 100000 in
theorem xw_391 : (Jvm.Cond.selects "HyperHost$Core" ({ cls := "HyperHost$Core", name := "startStep", desc := "()Z" } : Jvm.MethodName) ({ cls := "HyperHost$Core", name := "startStep", desc := "()Z" } : Jvm.MethodName)) ∈ lw_g := xg_in 463 (by decide +kernel) (by decide +kernel)
set_option maxRecDepth 100000 in
theorem xw_392 : (Jvm.Cond.code ({ cls := "HyperHost$Core", name := "startStep", desc := "()Z" } : Jvm.MethodName) prog_6_method_4_code (2 : Nat) (Option.some Jvm.ClassFile.FieldType.boolean)) ∈ lw_g := xg_in 464 (by decide +kernel) (by decide +kernel)
set_option maxRecDepth 100000 in
theorem xw_393 : (Jvm.Cond.methodLink "HyperHost$Core" (80 : Nat) ({ cls := "HyperHost$Trap", name := "clear", desc := "()V" } : Jvm.MethodName)) ∈ lw_g := xg_in 465 (by decide +kernel) (by decide +kernel)
set_option maxRecDepth 100000 in
theorem xw_394 : (Jvm.Cond.instanceMethod ({ cls := "HyperHost$Trap", name := "clear", desc := "()V" } : Jvm.MethodName)) ∈ lw_g := xg_in 466 (by decide +kernel) (by decide +kernel)
set_option maxRecDepth 100000 in
theorem xw_395 : (Jvm.Cond.selects "HyperHost$Trap" ({ cls := "HyperHost$Trap", name := "clear", desc := "()V" } : Jvm.MethodName) ({ cls := "HyperHost$Trap", name := "clear", desc := "()V" } : Jvm.MethodName)) ∈ lw_g := xg_in 467 (by decide +kernel) (by decide +kernel)
set_option maxRecDepth 100000 in
theorem xw_396 : (Jvm.Cond.code ({ cls := "HyperHost$Trap", name := "clear", desc := "()V" } : Jvm.MethodName) prog_11_method_2_code (1 : Nat) (Option.none : Option Jvm.ClassFile.FieldType)) ∈ lw_g := xg_in 468 (by decide +kernel) (by decide +kernel)
set_option maxRecDepth 100000 in
theorem xw_397 : (Jvm.Cond.methodLink "HyperHost$Core" (83 : Nat) ({ cls := "HyperHost$Core", name := "interrupted", desc := "()Z" } : Jvm.MethodName)) ∈ lw_g := xg_in 469 (by decide +kernel) (by decide +kernel)
set_option maxRecDepth 100000 in
theorem xw_399 : (Jvm.Cond.instanceMethod ({ cls := "HyperHost$Core", name := "interrupted", desc := "()Z" } : Jvm.MethodName)) ∈ lw_g := xg_in 471 (by decide +kernel) (by decide +kernel)
set_option maxRecDepth 100000 in
theorem xw_400 : (Jvm.Cond.code ({ cls := "HyperHost$Core", name := "interrupted", desc := "()Z" } : Jvm.MethodName) prog_6_method_5_code (3 : Nat) (Option.some Jvm.ClassFile.FieldType.boolean)) ∈ lw_g := xg_in 472 (by decide +kernel) (by decide +kernel)
set_option maxRecDepth 100000 in
theorem xw_401 : (Jvm.Cond.methodLink "HyperHost$Core" (107 : Nat) ({ cls := "HyperHost$Controls", name := "dueForS", desc := "(I)I" } : Jvm.MethodName)) ∈ lw_g := xg_in 473 (by decide +kernel) (by decide +kernel)
set_option maxRecDepth 100000 in
theorem xw_402 : (Jvm.Cond.instanceMethod ({ cls := "HyperHost$Controls", name := "dueForS", desc := "(I)I" } : Jvm.MethodName)) ∈ lw_g := xg_in 474 (by decide +kernel) (by decide +kernel)
set_option maxRecDepth 100000 in
theorem xw_403 : (Jvm.Cond.selects "HyperHost$Controls" ({ cls := "HyperHost$Controls", name := "dueForS", desc := "(I)I" } : Jvm.MethodName) ({ cls := "HyperHost$Controls", name := "dueForS", desc := "(I)I" } : Jvm.MethodName)) ∈ lw_g := xg_in 475 (by decide +kernel) (by decide +kernel)
set_option maxRecDepth 100000 in
theorem xw_404 : (Jvm.Cond.code ({ cls := "HyperHost$Controls", name := "dueForS", desc := "(I)I" } : Jvm.MethodName) prog_5_method_11_code (2 : Nat) (Option.some Jvm.ClassFile.FieldType.int)) ∈ lw_g := xg_in 476 (by decide +kernel) (by decide +kernel)
set_option maxRecDepth 100000 in
theorem xw_405 : (Jvm.Cond.methodLink "HyperHost$Controls" (97 : Nat) ({ cls := "HyperHost$Controls", name := "first", desc := "(I)I" } : Jvm.MethodName)) ∈ lw_g := xg_in 477 (by decide +kernel) (by decide +kernel)
set_option maxRecDepth 100000 in
theorem xw_406 : (Jvm.Cond.static ({ cls := "HyperHost$Controls", name := "first", desc := "(I)I" } : Jvm.MethodName)) ∈ lw_g := xg_in 478 (by decide +kernel) (by decide +kernel)
set_option maxRecDepth 100000 in
theorem xw_407 : (Jvm.Cond.code ({ cls := "HyperHost$Controls", name := "first", desc := "(I)I" } : Jvm.MethodName) prog_5_method_13_code (2 : Nat) (Option.some Jvm.ClassFile.FieldType.int)) ∈ lw_g := xg_in 479 (by decide +kernel) (by decide +kernel)
set_option maxRecDepth 100000 in
theorem xw_410 : (Jvm.Cond.constant "HyperHost$Core" (110 : Nat) (-2147483648 : Int32)) ∈ lw_g := xg_in 482 (by decide +kernel) (by decide +kernel)
set_option maxRecDepth 100000 in
theorem xw_411 : (Jvm.Cond.methodLink "HyperHost$Core" (111 : Nat) ({ cls := "HyperHost$Trap", name := "raise", desc := "(II)V" } : Jvm.MethodName)) ∈ lw_g := xg_in 483 (by decide +kernel) (by decide +kernel)
set_option maxRecDepth 100000 in
theorem xw_412 : (Jvm.Cond.instanceMethod ({ cls := "HyperHost$Trap", name := "raise", desc := "(II)V" } : Jvm.MethodName)) ∈ lw_g := xg_in 484 (by decide +kernel) (by decide +kernel)
set_option maxRecDepth 100000 in
theorem xw_413 : (Jvm.Cond.selects "HyperHost$Trap" ({ cls := "HyperHost$Trap", name := "raise", desc := "(II)V" } : Jvm.MethodName) ({ cls := "HyperHost$Trap", name := "raise", desc := "(II)V" } : Jvm.MethodName)) ∈ lw_g := xg_in 485 (by decide +kernel) (by decide +kernel)
set_option maxRecDepth 100000 in
theorem xw_414 : (Jvm.Cond.code ({ cls := "HyperHost$Trap", name := "raise", desc := "(II)V" } : Jvm.MethodName) prog_11_method_3_code (3 : Nat) (Option.none : Option Jvm.ClassFile.FieldType)) ∈ lw_g := xg_in 486 (by decide +kernel) (by decide +kernel)
set_option maxRecDepth 100000 in
theorem xw_415 : (Jvm.Cond.methodLink "HyperHost$Core" (115 : Nat) ({ cls := "HyperHost$Controls", name := "dueForVs", desc := "(I)I" } : Jvm.MethodName)) ∈ lw_g := xg_in 487 (by decide +kernel) (by decide +kernel)
set_option maxRecDepth 100000 in
theorem xw_416 : (Jvm.Cond.instanceMethod ({ cls := "HyperHost$Controls", name := "dueForVs", desc := "(I)I" } : Jvm.MethodName)) ∈ lw_g := xg_in 488 (by decide +kernel) (by decide +kernel)
set_option maxRecDepth 100000 in
theorem xw_417 : (Jvm.Cond.selects "HyperHost$Controls" ({ cls := "HyperHost$Controls", name := "dueForVs", desc := "(I)I" } : Jvm.MethodName) ({ cls := "HyperHost$Controls", name := "dueForVs", desc := "(I)I" } : Jvm.MethodName)) ∈ lw_g := xg_in 489 (by decide +kernel) (by decide +kernel)
set_option maxRecDepth 100000 in
theorem xw_418 : (Jvm.Cond.code ({ cls := "HyperHost$Controls", name := "dueForVs", desc := "(I)I" } : Jvm.MethodName) prog_5_method_12_code (3 : Nat) (Option.some Jvm.ClassFile.FieldType.int)) ∈ lw_g := xg_in 490 (by decide +kernel) (by decide +kernel)
set_option maxRecDepth 100000 in
theorem xw_419 : (Jvm.Cond.fieldLink "HyperHost$Core" (87 : Nat) "HyperHost$Access" "FETCH" "LHyperHost$Access;") ∈ lw_g := xg_in 491 (by decide +kernel) (by decide +kernel)
set_option maxRecDepth 100000 in
theorem xw_421 : (Jvm.Cond.methodLink "HyperHost$Core" (93 : Nat) ({ cls := "HyperHost$Translator", name := "translate", desc := "(IILHyperHost$Access;I)I" } : Jvm.MethodName)) ∈ lw_g := xg_in 493 (by decide +kernel) (by decide +kernel)
set_option maxRecDepth 100000 in
theorem xw_422 : (Jvm.Cond.instanceMethod ({ cls := "HyperHost$Translator", name := "translate", desc := "(IILHyperHost$Access;I)I" } : Jvm.MethodName)) ∈ lw_g := xg_in 494 (by decide +kernel) (by decide +kernel)
set_option maxRecDepth 100000 in
theorem xw_423 : (Jvm.Cond.selects "HyperHost$Translator" ({ cls := "HyperHost$Translator", name := "translate", desc := "(IILHyperHost$Access;I)I" } : Jvm.MethodName) ({ cls := "HyperHost$Translator", name := "translate", desc := "(IILHyperHost$Access;I)I" } : Jvm.MethodName)) ∈ lw_g := xg_in 495 (by decide +kernel) (by decide +kernel)
set_option maxRecDepth 100000 in
theorem xw_424 : (Jvm.Cond.code ({ cls := "HyperHost$Translator", name := "translate", desc := "(IILHyperHost$Access;I)I" } : Jvm.MethodName) prog_10_method_2_code (15 : Nat) (Option.some Jvm.ClassFile.FieldType.int)) ∈ lw_g := xg_in 496 (by decide +kernel) (by decide +kernel)
set_option maxRecDepth 100000 in
theorem xw_425 : (Jvm.Cond.methodLink "HyperHost$Translator" (40 : Nat) ({ cls := "HyperHost$Trap", name := "raise", desc := "(II)V" } : Jvm.MethodName)) ∈ lw_g := xg_in 497 (by decide +kernel) (by decide +kernel)
set_option maxRecDepth 100000 in
theorem xw_427 : (Jvm.Cond.static ({ cls := "HyperHost", name := "isVirtual", desc := "(I)Z" } : Jvm.MethodName)) ∈ lw_g := xg_in 499 (by decide +kernel) (by decide +kernel)
set_option maxRecDepth 100000 in
theorem xw_428 : (Jvm.Cond.code ({ cls := "HyperHost", name := "isVirtual", desc := "(I)Z" } : Jvm.MethodName) prog_1_method_16_code (1 : Nat) (Option.some Jvm.ClassFile.FieldType.boolean)) ∈ lw_g := xg_in 500 (by decide +kernel) (by decide +kernel)
set_option maxRecDepth 100000 in
theorem xw_429 : (Jvm.Cond.constant "HyperHost$Translator" (60 : Nat) (524288 : Int32)) ∈ lw_g := xg_in 501 (by decide +kernel) (by decide +kernel)
set_option maxRecDepth 100000 in
theorem xw_430 : (Jvm.Cond.methodLink "HyperHost$Translator" (61 : Nat) ({ cls := "HyperHost$Access", name := "anyWith", desc := "(Z)I" } : Jvm.MethodName)) ∈ lw_g := xg_in 502 (by decide +kernel) (by decide +kernel)
set_option maxRecDepth 100000 in
theorem xw_431 : (Jvm.Cond.instanceMethod ({ cls := "HyperHost$Access", name := "anyWith", desc := "(Z)I" } : Jvm.MethodName)) ∈ lw_g := xg_in 503 (by decide +kernel) (by decide +kernel)
set_option maxRecDepth 100000 in
theorem xw_432 : (Jvm.Cond.selects "HyperHost$Access" ({ cls := "HyperHost$Access", name := "anyWith", desc := "(Z)I" } : Jvm.MethodName) ({ cls := "HyperHost$Access", name := "anyWith", desc := "(Z)I" } : Jvm.MethodName)) ∈ lw_g := xg_in 504 (by decide +kernel) (by decide +kernel)
set_option maxRecDepth 100000 in
theorem xw_433 : (Jvm.Cond.code ({ cls := "HyperHost$Access", name := "anyWith", desc := "(Z)I" } : Jvm.MethodName) prog_2_method_5_code (2 : Nat) (Option.some Jvm.ClassFile.FieldType.int)) ∈ lw_g := xg_in 505 (by decide +kernel) (by decide +kernel)
set_option maxRecDepth 100000 in
theorem xw_434 : (Jvm.Cond.fieldLink "HyperHost$Access" (9 : Nat) "HyperHost$Access" "LOAD" "LHyperHost$Access;") ∈ lw_g := xg_in 506 (by decide +kernel) (by decide +kernel)
set_option maxRecDepth 100000 in
theorem xw_437 : (Jvm.Cond.static ({ cls := "HyperHost", name := "isSupervisor", desc := "(I)Z" } : Jvm.MethodName)) ∈ lw_g := xg_in 509 (by decide +kernel) (by decide +kernel)
set_option maxRecDepth 100000 in
theorem xw_438 : (Jvm.Cond.code ({ cls := "HyperHost", name := "isSupervisor", desc := "(I)Z" } : Jvm.MethodName) prog_1_method_17_code (1 : Nat) (Option.some Jvm.ClassFile.FieldType.boolean)) ∈ lw_g := xg_in 510 (by decide +kernel) (by decide +kernel)
set_option maxRecDepth 100000 in
theorem xw_439 : (Jvm.Cond.fieldLink "HyperHost$Translator" (71 : Nat) "HyperHost$Access" "FETCH" "LHyperHost$Access;") ∈ lw_g := xg_in 511 (by decide +kernel) (by decide +kernel)
set_option maxRecDepth 100000 in
theorem xw_440 : (Jvm.Cond.constant "HyperHost$Translator" (75 : Nat) (262144 : Int32)) ∈ lw_g := xg_in 512 (by decide +kernel) (by decide +kernel)
set_option maxRecDepth 100000 in
theorem xw_441 : (Jvm.Cond.constantLong "HyperHost$Translator" (76 : Nat) (4294967295 : Int64)) ∈ lw_g := xg_in 513 (by decide +kernel) (by decide +kernel)
set_option maxRecDepth 100000 in
theorem xw_442 : (Jvm.Cond.methodLink "HyperHost$Translator" (78 : Nat) ({ cls := "HyperHost$Translator", name := "firstStage", desc := "(JIII)J" } : Jvm.MethodName)) ∈ lw_g := xg_in 514 (by decide +kernel) (by decide +kernel)
set_option maxRecDepth 100000 in
theorem xw_444 : (Jvm.Cond.instanceMethod ({ cls := "HyperHost$Translator", name := "firstStage", desc := "(JIII)J" } : Jvm.MethodName)) ∈ lw_g := xg_in 516 (by decide +kernel) (by decide +kernel)
set_option maxRecDepth 100000 in
theorem xw_445 : (Jvm.Cond.code ({ cls := "HyperHost$Translator", name := "firstStage", desc := "(JIII)J" } : Jvm.MethodName) prog_10_method_3_code (13 : Nat) (Option.some Jvm.ClassFile.FieldType.long)) ∈ lw_g := xg_in 517 (by decide +kernel) (by decide +kernel)
set_option maxRecDepth 100000 in
theorem xw_446 : (Jvm.Cond.methodLink "HyperHost$Translator" (97 : Nat) ({ cls := "HyperHost$Translator", name := "firstPlace", desc := "(IJ)J" } : Jvm.MethodName)) ∈ lw_g := xg_in 518 (by decide +kernel) (by decide +kernel)
set_option maxRecDepth 100000 in
theorem xw_447 : (Jvm.Cond.static ({ cls := "HyperHost$Translator", name := "firstPlace", desc := "(IJ)J" } : Jvm.MethodName)) ∈ lw_g := xg_in 519 (by decide +kernel) (by decide +kernel)
set_option maxRecDepth 100000 in
theorem xw_448 : (Jvm.Cond.code ({ cls := "HyperHost$Translator", name := "firstPlace", desc := "(IJ)J" } : Jvm.MethodName) prog_10_method_8_code (3 : Nat) (Option.some Jvm.ClassFile.FieldType.long)) ∈ lw_g := xg_in 520 (by decide +kernel) (by decide +kernel)
set_option maxRecDepth 100000 in
theorem xw_449 : (Jvm.Cond.constant "HyperHost$Translator" (147 : Nat) (4194303 : Int32)) ∈ lw_g := xg_in 521 (by decide +kernel) (by decide +kernel)
set_option maxRecDepth 100000 in
theorem xw_450 : (Jvm.Cond.constantLong "HyperHost$Translator" (148 : Nat) (4 : Int64)) ∈ lw_g := xg_in 522 (by decide +kernel) (by decide +kernel)
set_option maxRecDepth 100000 in
theorem xw_451 : (Jvm.Cond.methodLink "HyperHost$Translator" (85 : Nat) ({ cls := "HyperHost$Translator", name := "walk", desc := "(IJIII)J" } : Jvm.MethodName)) ∈ lw_g := xg_in 523 (by decide +kernel) (by decide +kernel)
set_option maxRecDepth 100000 in
theorem xw_453 : (Jvm.Cond.instanceMethod ({ cls := "HyperHost$Translator", name := "walk", desc := "(IJIII)J" } : Jvm.MethodName)) ∈ lw_g := xg_in 525 (by decide +kernel) (by decide +kernel)
set_option maxRecDepth 100000 in
theorem xw_454 : (Jvm.Cond.code ({ cls := "HyperHost$Translator", name := "walk", desc := "(IJIII)J" } : Jvm.MethodName) prog_10_method_6_code (11 : Nat) (Option.some Jvm.ClassFile.FieldType.long)) ∈ lw_g := xg_in 526 (by decide +kernel) (by decide +kernel)
set_option maxRecDepth 100000 in
theorem xw_455 : (Jvm.Cond.methodLink "HyperHost$Translator" (139 : Nat) ({ cls := "HyperHost$Translator", name := "inMemory", desc := "(J)J" } : Jvm.MethodName)) ∈ lw_g := xg_in 527 (by decide +kernel) (by decide +kernel)
set_option maxRecDepth 100000 in
theorem xw_456 : (Jvm.Cond.static ({ cls := "HyperHost$Translator", name := "inMemory", desc := "(J)J" } : Jvm.MethodName)) ∈ lw_g := xg_in 528 (by decide +kernel) (by decide +kernel)
set_option maxRecDepth 100000 in
theorem xw_457 : (Jvm.Cond.code ({ cls := "HyperHost$Translator", name := "inMemory", desc := "(J)J" } : Jvm.MethodName) prog_10_method_7_code (2 : Nat) (Option.some Jvm.ClassFile.FieldType.long)) ∈ lw_g := xg_in 529 (by decide +kernel) (by decide +kernel)
set_option maxRecDepth 100000 in
theorem xw_458 : (Jvm.Cond.constantLong "HyperHost$Translator" (143 : Nat) (262144 : Int64)) ∈ lw_g := xg_in 530 (by decide +kernel) (by decide +kernel)
set_option maxRecDepth 100000 in
theorem xw_459 : (Jvm.Cond.constantLong "HyperHost$Translator" (145 : Nat) (-3 : Int64)) ∈ lw_g := xg_in 531 (by decide +kernel) (by decide +kernel)
set_option maxRecDepth 100000 in
theorem xw_460 : (Jvm.Cond.methodLink "HyperHost$Translator" (108 : Nat) ({ cls := "HyperHost$Memory", name := "readWord", desc := "(I)I" } : Jvm.MethodName)) ∈ lw_g := xg_in 532 (by decide +kernel) (by decide +kernel)
set_option maxRecDepth 100000 in
theorem xw_461 : (Jvm.Cond.methodLink "HyperHost$Translator" (112 : Nat) ({ cls := "HyperHost$Translator", name := "isLeaf", desc := "(I)Z" } : Jvm.MethodName)) ∈ lw_g := xg_in 533 (by decide +kernel) (by decide +kernel)
set_option maxRecDepth 100000 in
theorem xw_462 : (Jvm.Cond.static ({ cls := "HyperHost$Translator", name := "isLeaf", desc := "(I)Z" } : Jvm.MethodName)) ∈ lw_g := xg_in 534 (by decide +kernel) (by decide +kernel)
set_option maxRecDepth 100000 in
theorem xw_463 : (Jvm.Cond.code ({ cls := "HyperHost$Translator", name := "isLeaf", desc := "(I)Z" } : Jvm.MethodName) prog_10_method_10_code (1 : Nat) (Option.some Jvm.ClassFile.FieldType.boolean)) ∈ lw_g := xg_in 535 (by decide +kernel) (by decide +kernel)
set_option maxRecDepth 100000 in
theorem xw_464 : (Jvm.Cond.methodLink "HyperHost$Translator" (115 : Nat) ({ cls := "HyperHost$Translator", name := "allows", desc := "(IIIII)Z" } : Jvm.MethodName)) ∈ lw_g := xg_in 536 (by decide +kernel) (by decide +kernel)
set_option maxRecDepth 100000 in
theorem xw_465 : (Jvm.Cond.static ({ cls := "HyperHost$Translator", name := "allows", desc := "(IIIII)Z" } : Jvm.MethodName)) ∈ lw_g := xg_in 537 (by decide +kernel) (by decide +kernel)
set_option maxRecDepth 100000 in
theorem xw_466 : (Jvm.Cond.code ({ cls := "HyperHost$Translator", name := "allows", desc := "(IIIII)Z" } : Jvm.MethodName) prog_10_method_12_code (6 : Nat) (Option.some Jvm.ClassFile.FieldType.boolean)) ∈ lw_g := xg_in 538 (by decide +kernel) (by decide +kernel)
set_option maxRecDepth 100000 in
theorem xw_467 : (Jvm.Cond.constant "HyperHost$Translator" (152 : Nat) (1047552 : Int32)) ∈ lw_g := xg_in 539 (by decide +kernel) (by decide +kernel)
set_option maxRecDepth 100000 in
theorem xw_468 : (Jvm.Cond.methodLink "HyperHost$Translator" (119 : Nat) ({ cls := "HyperHost$Translator", name := "result", desc := "(IIJ)J" } : Jvm.MethodName)) ∈ lw_g := xg_in 540 (by decide +kernel) (by decide +kernel)
set_option maxRecDepth 100000 in
theorem xw_469 : (Jvm.Cond.static ({ cls := "HyperHost$Translator", name := "result", desc := "(IIJ)J" } : Jvm.MethodName)) ∈ lw_g := xg_in 541 (by decide +kernel) (by decide +kernel)
set_option maxRecDepth 100000 in
theorem xw_470 : (Jvm.Cond.code ({ cls := "HyperHost$Translator", name := "result", desc := "(IIJ)J" } : Jvm.MethodName) prog_10_method_13_code (6 : Nat) (Option.some Jvm.ClassFile.FieldType.long)) ∈ lw_g := xg_in 542 (by decide +kernel) (by decide +kernel)
set_option maxRecDepth 100000 in
theorem xw_471 : (Jvm.Cond.constantLong "HyperHost$Translator" (123 : Nat) (-1 : Int64)) ∈ lw_g := xg_in 543 (by decide +kernel) (by decide +kernel)
set_option maxRecDepth 100000 in
theorem xw_472 : (Jvm.Cond.methodLink "HyperHost$Translator" (125 : Nat) ({ cls := "HyperHost$Translator", name := "isPointer", desc := "(I)Z" } : Jvm.MethodName)) ∈ lw_g := xg_in 544 (by decide +kernel) (by decide +kernel)
set_option maxRecDepth 100000 in
theorem xw_473 : (Jvm.Cond.static ({ cls := "HyperHost$Translator", name := "isPointer", desc := "(I)Z" } : Jvm.MethodName)) ∈ lw_g := xg_in 545 (by decide +kernel) (by decide +kernel)
set_option maxRecDepth 100000 in
theorem xw_474 : (Jvm.Cond.code ({ cls := "HyperHost$Translator", name := "isPointer", desc := "(I)Z" } : Jvm.MethodName) prog_10_method_11_code (1 : Nat) (Option.some Jvm.ClassFile.FieldType.boolean)) ∈ lw_g := xg_in 546 (by decide +kernel) (by decide +kernel)
