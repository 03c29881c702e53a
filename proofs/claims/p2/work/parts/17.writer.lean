set_option maxRecDepth 100000 in
theorem mw_238 : Cond.fieldLink R_Wr 27 "WriteOnceDisc$Nodes" "count" "I" ∈ lw_g := lw_gin (List.mem_append_right _ (List.mem_of_getElem? (i := 185) rfl)) (by decide +kernel)
set_option maxRecDepth 100000 in
theorem mw_239 : Cond.fieldLink R_Wr 115 "WriteOnceDisc$Nodes" "order" "[LWriteOnceDisc$Node;" ∈ lw_g := lw_gin (List.mem_append_right _ (List.mem_of_getElem? (i := 183) rfl)) (by decide +kernel)
set_option maxRecDepth 100000 in
theorem mw_240 : Cond.fieldLink R_Wr 118 "WriteOnceDisc$Node" "isDirectory" "Z" ∈ lw_g := lw_gin (List.mem_append_right _ (List.mem_of_getElem? (i := 102) rfl)) (by decide +kernel)
set_option maxRecDepth 100000 in
theorem mw_241 : Cond.fieldLink R_Wr 57 "WriteOnceDisc$Node" "sector" "I" ∈ lw_g := lw_gin (List.mem_append_right _ (List.mem_of_getElem? (i := 124) rfl)) (by decide +kernel)
set_option maxRecDepth 100000 in
theorem mw_242 : Cond.fieldLink R_Se 19 "WriteOnceDisc$Sector" "bytes" "[B" ∈ lw_g := lw_gin (List.mem_append_right _ (List.mem_of_getElem? (i := 215) rfl)) (by decide +kernel)
set_option maxRecDepth 100000 in
theorem mw_243 : Cond.arrayClass .byte ∈ lw_g := lw_gin (List.mem_append_right _ (List.mem_of_getElem? (i := 67) rfl)) (by decide +kernel)
set_option maxRecDepth 100000 in
theorem mw_244 : Cond.methodLink R_Se 23 Lib.Math.min.name ∈ lw_g := lw_gin (List.mem_append_right _ (List.mem_of_getElem? (i := 442) rfl)) (by decide +kernel)
set_option maxRecDepth 100000 in
theorem mw_245 : Cond.methodLink R_Se 29 arraycopyName ∈ lw_g := lw_gin (List.mem_append_right _ (List.mem_of_getElem? (i := 443) rfl)) (by decide +kernel)
set_option maxRecDepth 100000 in
theorem mw_246 : Cond.code y_Po_lastsForWrite b_Po_lastsForWrite 1 (some .boolean) ∈ lw_g := lw_gin (List.mem_append_right _ (List.mem_of_getElem? (i := 436) rfl)) (by decide +kernel)
set_option maxRecDepth 100000 in
theorem mw_247 : Cond.initialized R_Po ∈ lw_g := lw_gin (List.mem_append_right _ (List.mem_of_getElem? (i := 3) rfl)) (by decide +kernel)
set_option maxRecDepth 100000 in
theorem mw_248 : Cond.methodLink R_Me 36 y_Po_lastsForWrite ∈ lw_g := lw_gin (List.mem_append_right _ (List.mem_of_getElem? (i := 433) rfl)) (by decide +kernel)
set_option maxRecDepth 100000 in
theorem mw_249 : Cond.instanceMethod y_Po_lastsForWrite ∈ lw_g := lw_gin (List.mem_append_right _ (List.mem_of_getElem? (i := 434) rfl)) (by decide +kernel)
set_option maxRecDepth 100000 in
theorem mw_250 : Cond.selects R_Po y_Po_lastsForWrite y_Po_lastsForWrite ∈ lw_g := lw_gin (List.mem_append_right _ (List.mem_of_getElem? (i := 435) rfl)) (by decide +kernel)
set_option maxRecDepth 100000 in
theorem mw_251 : Cond.methodLink R_Me 42 Lib.Math.max.name ∈ lw_g := lw_gin (List.mem_append_right _ (List.mem_of_getElem? (i := 437) rfl)) (by decide +kernel)
set_option maxRecDepth 100000 in
theorem mw_252 : Cond.code y_Se_take b_Se_take 2 none ∈ lw_g := lw_gin (List.mem_append_right _ (List.mem_of_getElem? (i := 441) rfl)) (by decide +kernel)
set_option maxRecDepth 100000 in
theorem mw_253 : Cond.methodLink R_Me 48 y_Se_take ∈ lw_g := lw_gin (List.mem_append_right _ (List.mem_of_getElem? (i := 438) rfl)) (by decide +kernel)
set_option maxRecDepth 100000 in
theorem mw_254 : Cond.instanceMethod y_Se_take ∈ lw_g := lw_gin (List.mem_append_right _ (List.mem_of_getElem? (i := 439) rfl)) (by decide +kernel)
set_option maxRecDepth 100000 in
theorem mw_255 : Cond.selects R_Se y_Se_take y_Se_take ∈ lw_g := lw_gin (List.mem_append_right _ (List.mem_of_getElem? (i := 440) rfl)) (by decide +kernel)
set_option maxRecDepth 100000 in
theorem mw_256 : Cond.fieldLink R_Wr 23 "WriteOnceDisc$Writer" "page" "LWriteOnceDisc$Page;" ∈ lw_g := lw_gin (List.mem_append_right _ (List.mem_of_getElem? (i := 70) rfl)) (by decide +kernel)
set_option maxRecDepth 100000 in
theorem mw_257 : Cond.code y_Pg_fillWithFile b_Pg_fillWithFile 7 none ∈ lw_g := lw_gin (List.mem_append_right _ (List.mem_of_getElem? (i := 399) rfl)) (by decide +kernel)
set_option maxRecDepth 100000 in
theorem mw_258 : Cond.methodLink R_Wr 84 y_Pg_fillWithFile ∈ lw_g := lw_gin (List.mem_append_right _ (List.mem_of_getElem? (i := 396) rfl)) (by decide +kernel)
set_option maxRecDepth 100000 in
theorem mw_259 : Cond.instanceMethod y_Pg_fillWithFile ∈ lw_g := lw_gin (List.mem_append_right _ (List.mem_of_getElem? (i := 397) rfl)) (by decide +kernel)
set_option maxRecDepth 100000 in
theorem mw_260 : Cond.selects R_Pg y_Pg_fillWithFile y_Pg_fillWithFile ∈ lw_g := lw_gin (List.mem_append_right _ (List.mem_of_getElem? (i := 398) rfl)) (by decide +kernel)
set_option maxRecDepth 100000 in
theorem mw_261 : Cond.fieldLink R_Wr 73 "WriteOnceDisc$Medium" "front" "I" ∈ lw_g := lw_gin (List.mem_append_right _ (List.mem_of_getElem? (i := 229) rfl)) (by decide +kernel)
set_option maxRecDepth 100000 in
theorem mw_262 : Cond.fieldLink R_Wr 88 "WriteOnceDisc$Page" "bytes" "[B" ∈ lw_g := lw_gin (List.mem_append_right _ (List.mem_of_getElem? (i := 62) rfl)) (by decide +kernel)
set_option maxRecDepth 100000 in
theorem mw_263 : Cond.fieldLink R_Wr 12 "WriteOnceDisc$Writer" "supply" "LWriteOnceDisc$Power;" ∈ lw_g := lw_gin (List.mem_append_right _ (List.mem_of_getElem? (i := 68) rfl)) (by decide +kernel)
set_option maxRecDepth 100000 in
theorem mw_264 : Cond.code y_Me_write b_Me_write 6 (some .int) ∈ lw_g := lw_gin (List.mem_append_right _ (List.mem_of_getElem? (i := 432) rfl)) (by decide +kernel)
set_option maxRecDepth 100000 in
theorem mw_265 : Cond.methodLink R_Wr 92 y_Me_write ∈ lw_g := lw_gin (List.mem_append_right _ (List.mem_of_getElem? (i := 429) rfl)) (by decide +kernel)
set_option maxRecDepth 100000 in
theorem mw_266 : Cond.instanceMethod y_Me_write ∈ lw_g := lw_gin (List.mem_append_right _ (List.mem_of_getElem? (i := 430) rfl)) (by decide +kernel)
set_option maxRecDepth 100000 in
theorem mw_267 : Cond.selects R_Me y_Me_write y_Me_write ∈ lw_g := lw_gin (List.mem_append_right _ (List.mem_of_getElem? (i := 431) rfl)) (by decide +kernel)
set_option maxRecDepth 100000 in
theorem mw_268 : Cond.fieldLink R_Wr 60 "WriteOnceDisc$Node" "size" "I" ∈ lw_g := lw_gin (List.mem_append_right _ (List.mem_of_getElem? (i := 110) rfl)) (by decide +kernel)
set_option maxRecDepth 100000 in
theorem mw_269 : Cond.fieldLink R_Wr 67 "WriteOnceDisc$Medium" "sectors" "[LWriteOnceDisc$Sector;" ∈ lw_g := lw_gin (List.mem_append_right _ (List.mem_of_getElem? (i := 225) rfl)) (by decide +kernel)
set_option maxRecDepth 100000 in
theorem mw_270 : Cond.code y_Me_hasRoom b_Me_hasRoom 3 (some .boolean) ∈ lw_g := lw_gin (List.mem_append_right _ (List.mem_of_getElem? (i := 391) rfl)) (by decide +kernel)
set_option maxRecDepth 100000 in
theorem mw_271 : Cond.methodLink R_Wr 76 y_Me_hasRoom ∈ lw_g := lw_gin (List.mem_append_right _ (List.mem_of_getElem? (i := 388) rfl)) (by decide +kernel)
set_option maxRecDepth 100000 in
theorem mw_272 : Cond.instanceMethod y_Me_hasRoom ∈ lw_g := lw_gin (List.mem_append_right _ (List.mem_of_getElem? (i := 389) rfl)) (by decide +kernel)
set_option maxRecDepth 100000 in
theorem mw_273 : Cond.selects R_Me y_Me_hasRoom y_Me_hasRoom ∈ lw_g := lw_gin (List.mem_append_right _ (List.mem_of_getElem? (i := 390) rfl)) (by decide +kernel)
set_option maxRecDepth 100000 in
theorem mw_274 : Cond.code y_Wr_writeParts b_Wr_writeParts 7 (some .int) ∈ lw_g := lw_gin (List.mem_append_right _ (List.mem_of_getElem? (i := 395) rfl)) (by decide +kernel)
set_option maxRecDepth 100000 in
theorem mw_275 : Cond.initialized R_Wr ∈ lw_g := lw_gin (List.mem_append_right _ (List.mem_of_getElem? (i := 2) rfl)) (by decide +kernel)
set_option maxRecDepth 100000 in
theorem mw_276 : Cond.methodLink R_Wr 80 y_Wr_writeParts ∈ lw_g := lw_gin (List.mem_append_right _ (List.mem_of_getElem? (i := 392) rfl)) (by decide +kernel)
set_option maxRecDepth 100000 in
theorem mw_277 : Cond.instanceMethod y_Wr_writeParts ∈ lw_g := lw_gin (List.mem_append_right _ (List.mem_of_getElem? (i := 394) rfl)) (by decide +kernel)
set_option maxRecDepth 100000 in
theorem mw_278 : Cond.selects R_Wr y_Wr_writeParts y_Wr_writeParts ∈ lw_g := lw_gin (List.mem_append_left _ (List.mem_of_getElem? (i := 2) rfl)) (by decide +kernel)
set_option maxRecDepth 100000 in
theorem mw_279 : Cond.fieldLink R_Wr 33 "WriteOnceDisc$Nodes" "slots" "[LWriteOnceDisc$Node;" ∈ lw_g := lw_gin (List.mem_append_right _ (List.mem_of_getElem? (i := 180) rfl)) (by decide +kernel)
set_option maxRecDepth 100000 in
theorem mw_280 : Cond.fieldLink R_Wr 54 "WriteOnceDisc$Node" "extent" "I" ∈ lw_g := lw_gin (List.mem_append_right _ (List.mem_of_getElem? (i := 120) rfl)) (by decide +kernel)
set_option maxRecDepth 100000 in
theorem mw_281 : Cond.code y_No_needsSectors b_No_needsSectors 1 (some .boolean) ∈ lw_g := lw_gin (List.mem_append_right _ (List.mem_of_getElem? (i := 380) rfl)) (by decide +kernel)
set_option maxRecDepth 100000 in
theorem mw_282 : Cond.methodLink R_Wr 37 y_No_needsSectors ∈ lw_g := lw_gin (List.mem_append_right _ (List.mem_of_getElem? (i := 377) rfl)) (by decide +kernel)
set_option maxRecDepth 100000 in
theorem mw_283 : Cond.instanceMethod y_No_needsSectors ∈ lw_g := lw_gin (List.mem_append_right _ (List.mem_of_getElem? (i := 378) rfl)) (by decide +kernel)
set_option maxRecDepth 100000 in
theorem mw_284 : Cond.selects R_No y_No_needsSectors y_No_needsSectors ∈ lw_g := lw_gin (List.mem_append_right _ (List.mem_of_getElem? (i := 379) rfl)) (by decide +kernel)
set_option maxRecDepth 100000 in
theorem mw_285 : Cond.fieldLink R_Wr 43 "WriteOnceDisc$Node" "isWritten" "Z" ∈ lw_g := lw_gin (List.mem_append_right _ (List.mem_of_getElem? (i := 117) rfl)) (by decide +kernel)
set_option maxRecDepth 100000 in
theorem mw_286 : Cond.code y_Wr_writeFile b_Wr_writeFile 8 (some .int) ∈ lw_g := lw_gin (List.mem_append_right _ (List.mem_of_getElem? (i := 384) rfl)) (by decide +kernel)
set_option maxRecDepth 100000 in
theorem mw_287 : Cond.methodLink R_Wr 47 y_Wr_writeFile ∈ lw_g := lw_gin (List.mem_append_right _ (List.mem_of_getElem? (i := 381) rfl)) (by decide +kernel)
set_option maxRecDepth 100000 in
theorem mw_288 : Cond.instanceMethod y_Wr_writeFile ∈ lw_g := lw_gin (List.mem_append_right _ (List.mem_of_getElem? (i := 383) rfl)) (by decide +kernel)
set_option maxRecDepth 100000 in
theorem mw_289 : Cond.selects R_Wr y_Wr_writeFile y_Wr_writeFile ∈ lw_g := lw_gin (List.mem_append_left _ (List.mem_of_getElem? (i := 1) rfl)) (by decide +kernel)
set_option maxRecDepth 100000 in
theorem mw_290 : Cond.methodLink R_Wr 51 y_No_settle ∈ lw_g := lw_gin (List.mem_append_right _ (List.mem_of_getElem? (i := 444) rfl)) (by decide +kernel)
set_option maxRecDepth 100000 in
theorem mw_291 : Cond.code y_Pg_fillWithPathTable b_Pg_fillWithPathTable 7 (some .int) ∈ lw_g := lw_gin (List.mem_append_right _ (List.mem_of_getElem? (i := 532) rfl)) (by decide +kernel)
set_option maxRecDepth 100000 in
theorem mw_292 : Cond.methodLink R_Wr 121 y_Pg_fillWithPathTable ∈ lw_g := lw_gin (List.mem_append_right _ (List.mem_of_getElem? (i := 529) rfl)) (by decide +kernel)
set_option maxRecDepth 100000 in
theorem mw_293 : Cond.instanceMethod y_Pg_fillWithPathTable ∈ lw_g := lw_gin (List.mem_append_right _ (List.mem_of_getElem? (i := 530) rfl)) (by decide +kernel)
set_option maxRecDepth 100000 in
theorem mw_294 : Cond.selects R_Pg y_Pg_fillWithPathTable y_Pg_fillWithPathTable ∈ lw_g := lw_gin (List.mem_append_right _ (List.mem_of_getElem? (i := 531) rfl)) (by decide +kernel)
set_option maxRecDepth 100000 in
theorem mw_295 : Cond.code y_Pg_fillWithDescriptor b_Pg_fillWithDescriptor 5 none ∈ lw_g := lw_gin (List.mem_append_right _ (List.mem_of_getElem? (i := 557) rfl)) (by decide +kernel)
set_option maxRecDepth 100000 in
theorem mw_296 : Cond.methodLink R_Wr 125 y_Pg_fillWithDescriptor ∈ lw_g := lw_gin (List.mem_append_right _ (List.mem_of_getElem? (i := 554) rfl)) (by decide +kernel)
set_option maxRecDepth 100000 in
theorem mw_297 : Cond.instanceMethod y_Pg_fillWithDescriptor ∈ lw_g := lw_gin (List.mem_append_right _ (List.mem_of_getElem? (i := 555) rfl)) (by decide +kernel)
set_option maxRecDepth 100000 in
theorem mw_298 : Cond.selects R_Pg y_Pg_fillWithDescriptor y_Pg_fillWithDescriptor ∈ lw_g := lw_gin (List.mem_append_right _ (List.mem_of_getElem? (i := 556) rfl)) (by decide +kernel)
set_option maxRecDepth 100000 in
theorem mw_299 : Cond.methodLink R_Wr 129 y_Pg_fillWithStandard ∈ lw_g := lw_gin (List.mem_append_right _ (List.mem_of_getElem? (i := 577) rfl)) (by decide +kernel)
set_option maxRecDepth 100000 in
theorem mw_300 : Cond.code y_Pg_fillWithDirectory b_Pg_fillWithDirectory 6 none ∈ lw_g := lw_gin (List.mem_append_right _ (List.mem_of_getElem? (i := 585) rfl)) (by decide +kernel)
set_option maxRecDepth 100000 in
theorem mw_301 : Cond.methodLink R_Wr 132 y_Pg_fillWithDirectory ∈ lw_g := lw_gin (List.mem_append_right _ (List.mem_of_getElem? (i := 582) rfl)) (by decide +kernel)
set_option maxRecDepth 100000 in
theorem mw_302 : Cond.instanceMethod y_Pg_fillWithDirectory ∈ lw_g := lw_gin (List.mem_append_right _ (List.mem_of_getElem? (i := 583) rfl)) (by decide +kernel)
set_option maxRecDepth 100000 in
theorem mw_303 : Cond.selects R_Pg y_Pg_fillWithDirectory y_Pg_fillWithDirectory ∈ lw_g := lw_gin (List.mem_append_right _ (List.mem_of_getElem? (i := 584) rfl)) (by decide +kernel)
set_option maxRecDepth 100000 in
theorem mw_304 : Cond.code y_Pg_fillWithMark b_Pg_fillWithMark 3 none ∈ lw_g := lw_gin (List.mem_append_right _ (List.mem_of_getElem? (i := 593) rfl)) (by decide +kernel)
set_option maxRecDepth 100000 in
theorem mw_305 : Cond.methodLink R_Wr 136 y_Pg_fillWithMark ∈ lw_g := lw_gin (List.mem_append_right _ (List.mem_of_getElem? (i := 590) rfl)) (by decide +kernel)
set_option maxRecDepth 100000 in
theorem mw_306 : Cond.instanceMethod y_Pg_fillWithMark ∈ lw_g := lw_gin (List.mem_append_right _ (List.mem_of_getElem? (i := 591) rfl)) (by decide +kernel)
set_option maxRecDepth 100000 in
theorem mw_307 : Cond.selects R_Pg y_Pg_fillWithMark y_Pg_fillWithMark ∈ lw_g := lw_gin (List.mem_append_right _ (List.mem_of_getElem? (i := 592) rfl)) (by decide +kernel)
set_option maxRecDepth 100000 in
theorem mw_308 : Cond.code y_Ns_putInOrder b_Ns_putInOrder 3 none ∈ lw_g := lw_gin (List.mem_append_right _ (List.mem_of_getElem? (i := 455) rfl)) (by decide +kernel)
set_option maxRecDepth 100000 in
theorem mw_309 : Cond.methodLink R_Wr 96 y_Ns_putInOrder ∈ lw_g := lw_gin (List.mem_append_right _ (List.mem_of_getElem? (i := 452) rfl)) (by decide +kernel)
set_option maxRecDepth 100000 in
theorem mw_310 : Cond.instanceMethod y_Ns_putInOrder ∈ lw_g := lw_gin (List.mem_append_right _ (List.mem_of_getElem? (i := 453) rfl)) (by decide +kernel)
set_option maxRecDepth 100000 in
theorem mw_311 : Cond.selects R_Ns y_Ns_putInOrder y_Ns_putInOrder ∈ lw_g := lw_gin (List.mem_append_right _ (List.mem_of_getElem? (i := 454) rfl)) (by decide +kernel)
set_option maxRecDepth 100000 in
theorem mw_312 : Cond.code y_Wr_placeDirectories b_Wr_placeDirectories 5 (some .int) ∈ lw_g := lw_gin (List.mem_append_right _ (List.mem_of_getElem? (i := 524) rfl)) (by decide +kernel)
set_option maxRecDepth 100000 in
theorem mw_313 : Cond.methodLink R_Wr 99 y_Wr_placeDirectories ∈ lw_g := lw_gin (List.mem_append_right _ (List.mem_of_getElem? (i := 521) rfl)) (by decide +kernel)
set_option maxRecDepth 100000 in
theorem mw_314 : Cond.instanceMethod y_Wr_placeDirectories ∈ lw_g := lw_gin (List.mem_append_right _ (List.mem_of_getElem? (i := 523) rfl)) (by decide +kernel)
set_option maxRecDepth 100000 in
theorem mw_315 : Cond.selects R_Wr y_Wr_placeDirectories y_Wr_placeDirectories ∈ lw_g := lw_gin (List.mem_append_left _ (List.mem_of_getElem? (i := 4) rfl)) (by decide +kernel)
set_option maxRecDepth 100000 in
theorem mw_316 : Cond.code y_Wr_writeHead b_Wr_writeHead 7 (some .int) ∈ lw_g := lw_gin (List.mem_append_right _ (List.mem_of_getElem? (i := 528) rfl)) (by decide +kernel)
set_option maxRecDepth 100000 in
theorem mw_317 : Cond.methodLink R_Wr 103 y_Wr_writeHead ∈ lw_g := lw_gin (List.mem_append_right _ (List.mem_of_getElem? (i := 525) rfl)) (by decide +kernel)
set_option maxRecDepth 100000 in
theorem mw_318 : Cond.instanceMethod y_Wr_writeHead ∈ lw_g := lw_gin (List.mem_append_right _ (List.mem_of_getElem? (i := 527) rfl)) (by decide +kernel)
set_option maxRecDepth 100000 in
theorem mw_319 : Cond.selects R_Wr y_Wr_writeHead y_Wr_writeHead ∈ lw_g := lw_gin (List.mem_append_left _ (List.mem_of_getElem? (i := 5) rfl)) (by decide +kernel)
set_option maxRecDepth 100000 in
theorem mw_320 : Cond.code y_Wr_writeMark b_Wr_writeMark 4 (some .int) ∈ lw_g := lw_gin (List.mem_append_right _ (List.mem_of_getElem? (i := 589) rfl)) (by decide +kernel)
set_option maxRecDepth 100000 in
theorem mw_321 : Cond.methodLink R_Wr 111 y_Wr_writeMark ∈ lw_g := lw_gin (List.mem_append_right _ (List.mem_of_getElem? (i := 586) rfl)) (by decide +kernel)
set_option maxRecDepth 100000 in
theorem mw_322 : Cond.instanceMethod y_Wr_writeMark ∈ lw_g := lw_gin (List.mem_append_right _ (List.mem_of_getElem? (i := 588) rfl)) (by decide +kernel)
set_option maxRecDepth 100000 in
theorem mw_323 : Cond.selects R_Wr y_Wr_writeMark y_Wr_writeMark ∈ lw_g := lw_gin (List.mem_append_left _ (List.mem_of_getElem? (i := 10) rfl)) (by decide +kernel)
set_option maxRecDepth 100000 in
theorem mw_324 : Cond.code y_Wr_writeDirectories b_Wr_writeDirectories 5 (some .int) ∈ lw_g := lw_gin (List.mem_append_right _ (List.mem_of_getElem? (i := 581) rfl)) (by decide +kernel)
set_option maxRecDepth 100000 in
theorem mw_325 : Cond.methodLink R_Wr 107 y_Wr_writeDirectories ∈ lw_g := lw_gin (List.mem_append_right _ (List.mem_of_getElem? (i := 578) rfl)) (by decide +kernel)
set_option maxRecDepth 100000 in
theorem mw_326 : Cond.instanceMethod y_Wr_writeDirectories ∈ lw_g := lw_gin (List.mem_append_right _ (List.mem_of_getElem? (i := 580) rfl)) (by decide +kernel)
set_option maxRecDepth 100000 in
theorem mw_327 : Cond.selects R_Wr y_Wr_writeDirectories y_Wr_writeDirectories ∈ lw_g := lw_gin (List.mem_append_left _ (List.mem_of_getElem? (i := 9) rfl)) (by decide +kernel)
theorem d_Wr_placeDirectories_0 : decode b_Wr_placeDirectories 0 = .ok (.iconst 0, 1) := by decide +kernel
theorem d_Wr_placeDirectories_1 : decode b_Wr_placeDirectories 1 = .ok (.istore_n 3, 1) := by decide +kernel
theorem d_Wr_placeDirectories_2 : decode b_Wr_placeDirectories 2 = .ok (.iconst 0, 1) := by decide +kernel
theorem d_Wr_placeDirectories_3 : decode b_Wr_placeDirectories 3 = .ok (.istore 4, 2) := by decide +kernel
theorem d_Wr_placeDirectories_5 : decode b_Wr_placeDirectories 5 = .ok (.iload 4, 2) := by decide +kernel
theorem d_Wr_placeDirectories_7 : decode b_Wr_placeDirectories 7 = .ok (.aload_n 1, 1) := by decide +kernel
theorem d_Wr_placeDirectories_8 : decode b_Wr_placeDirectories 8 = .ok (.getfield 27, 3) := by decide +kernel
theorem d_Wr_placeDirectories_11 : decode b_Wr_placeDirectories 11 = .ok (.if_icmp .ge 38, 3) := by decide +kernel
theorem d_Wr_placeDirectories_49 : decode b_Wr_placeDirectories 49 = .ok (.iload_n 3, 1) := by decide +kernel
theorem d_Wr_placeDirectories_50 : decode b_Wr_placeDirectories 50 = .ok (.ireturn, 1) := by decide +kernel
theorem d_Wr_placeDirectories_14 : decode b_Wr_placeDirectories 14 = .ok (.aload_n 1, 1) := by decide +kernel
theorem d_Wr_placeDirectories_15 : decode b_Wr_placeDirectories 15 = .ok (.getfield 115, 3) := by decide +kernel
theorem d_Wr_placeDirectories_18 : decode b_Wr_placeDirectories 18 = .ok (.iload 4, 2) := by decide +kernel
theorem d_Wr_placeDirectories_20 : decode b_Wr_placeDirectories 20 = .ok (.aaload, 1) := by decide +kernel
theorem d_Wr_placeDirectories_21 : decode b_Wr_placeDirectories 21 = .ok (.getfield 118, 3) := by decide +kernel
theorem d_Wr_placeDirectories_24 : decode b_Wr_placeDirectories 24 = .ok (.ifCond .eq 19, 3) := by decide +kernel
theorem d_Wr_placeDirectories_43 : decode b_Wr_placeDirectories 43 = .ok (.iinc 4 1, 3) := by decide +kernel
theorem d_Wr_placeDirectories_46 : decode b_Wr_placeDirectories 46 = .ok (.goto (-41), 3) := by decide +kernel
theorem d_Wr_placeDirectories_27 : decode b_Wr_placeDirectories 27 = .ok (.aload_n 1, 1) := by decide +kernel
theorem d_Wr_placeDirectories_28 : decode b_Wr_placeDirectories 28 = .ok (.getfield 115, 3) := by decide +kernel
theorem d_Wr_placeDirectories_31 : decode b_Wr_placeDirectories 31 = .ok (.iload 4, 2) := by decide +kernel
theorem d_Wr_placeDirectories_33 : decode b_Wr_placeDirectories 33 = .ok (.aaload, 1) := by decide +kernel
theorem d_Wr_placeDirectories_34 : decode b_Wr_placeDirectories 34 = .ok (.iload_n 2, 1) := by decide +kernel
theorem d_Wr_placeDirectories_35 : decode b_Wr_placeDirectories 35 = .ok (.iload_n 3, 1) := by decide +kernel
theorem d_Wr_placeDirectories_36 : decode b_Wr_placeDirectories 36 = .ok (.iadd, 1) := by decide +kernel
theorem d_Wr_placeDirectories_37 : decode b_Wr_placeDirectories 37 = .ok (.putfield 57, 3) := by decide +kernel
theorem d_Wr_placeDirectories_40 : decode b_Wr_placeDirectories 40 = .ok (.iinc 3 1, 3) := by decide +kernel
theorem d_Se_take_0 : decode b_Se_take 0 = .ok (.aload_n 0, 1) := by decide +kernel
theorem d_Se_take_1 : decode b_Se_take 1 = .ok (.getfield 19, 3) := by decide +kernel
theorem d_Se_take_4 : decode b_Se_take 4 = .ok (.ifnonnull 12, 3) := by decide +kernel
theorem d_Se_take_7 : decode b_Se_take 7 = .ok (.aload_n 0, 1) := by decide +kernel
theorem d_Se_take_8 : decode b_Se_take 8 = .ok (.sipush 2048, 3) := by decide +kernel
theorem d_Se_take_11 : decode b_Se_take 11 = .ok (.newarray .byte, 2) := by decide +kernel
theorem d_Se_take_13 : decode b_Se_take 13 = .ok (.putfield 19, 3) := by decide +kernel
theorem d_Se_take_16 : decode b_Se_take 16 = .ok (.aload_n 1, 1) := by decide +kernel
theorem d_Se_take_17 : decode b_Se_take 17 = .ok (.iconst 0, 1) := by decide +kernel
theorem d_Se_take_18 : decode b_Se_take 18 = .ok (.aload_n 0, 1) := by decide +kernel
theorem d_Se_take_19 : decode b_Se_take 19 = .ok (.getfield 19, 3) := by decide +kernel
theorem d_Se_take_22 : decode b_Se_take 22 = .ok (.iconst 0, 1) := by decide +kernel
theorem d_Se_take_23 : decode b_Se_take 23 = .ok (.aload_n 1, 1) := by decide +kernel
theorem d_Se_take_24 : decode b_Se_take 24 = .ok (.arraylength, 1) := by decide +kernel
theorem d_Se_take_25 : decode b_Se_take 25 = .ok (.aload_n 0, 1) := by decide +kernel
theorem d_Se_take_26 : decode b_Se_take 26 = .ok (.getfield 19, 3) := by decide +kernel
theorem d_Se_take_29 : decode b_Se_take 29 = .ok (.arraylength, 1) := by decide +kernel
theorem d_Se_take_30 : decode b_Se_take 30 = .ok (.invokestatic 23, 3) := by decide +kernel
theorem d_Se_take_33 : decode b_Se_take 33 = .ok (.invokestatic 29, 3) := by decide +kernel
theorem d_Se_take_36 : decode b_Se_take 36 = .ok (.aload_n 0, 1) := by decide +kernel
theorem d_Se_take_37 : decode b_Se_take 37 = .ok (.iconst 1, 1) := by decide +kernel
theorem d_Se_take_38 : decode b_Se_take 38 = .ok (.putfield 9, 3) := by decide +kernel
theorem d_Se_take_41 : decode b_Se_take 41 = .ok (.return_, 1) := by decide +kernel
theorem d_Me_write_0 : decode b_Me_write 0 = .ok (.aload_n 0, 1) := by decide +kernel
theorem d_Me_write_1 : decode b_Me_write 1 = .ok (.iload_n 1, 1) := by decide +kernel
theorem d_Me_write_2 : decode b_Me_write 2 = .ok (.invokevirtual 28, 3) := by decide +kernel
theorem d_Me_write_5 : decode b_Me_write 5 = .ok (.ifCond .ne 5, 3) := by decide +kernel
theorem d_Me_write_8 : decode b_Me_write 8 = .ok (.iconst 2, 1) := by decide +kernel
theorem d_Me_write_9 : decode b_Me_write 9 = .ok (.ireturn, 1) := by decide +kernel
theorem d_Me_write_10 : decode b_Me_write 10 = .ok (.aload_n 0, 1) := by decide +kernel
theorem d_Me_write_11 : decode b_Me_write 11 = .ok (.getfield 17, 3) := by decide +kernel
theorem d_Me_write_14 : decode b_Me_write 14 = .ok (.iload_n 1, 1) := by decide +kernel
theorem d_Me_write_15 : decode b_Me_write 15 = .ok (.aaload, 1) := by decide +kernel
theorem d_Me_write_16 : decode b_Me_write 16 = .ok (.astore 4, 2) := by decide +kernel
theorem d_Me_write_18 : decode b_Me_write 18 = .ok (.aload_n 3, 1) := by decide +kernel
theorem d_Me_write_19 : decode b_Me_write 19 = .ok (.invokevirtual 36, 3) := by decide +kernel
theorem d_Me_write_22 : decode b_Me_write 22 = .ok (.istore 5, 2) := by decide +kernel
theorem d_Me_write_24 : decode b_Me_write 24 = .ok (.aload_n 0, 1) := by decide +kernel
theorem d_Me_write_25 : decode b_Me_write 25 = .ok (.aload_n 0, 1) := by decide +kernel
theorem d_Me_write_26 : decode b_Me_write 26 = .ok (.getfield 9, 3) := by decide +kernel
theorem d_Me_write_29 : decode b_Me_write 29 = .ok (.iload_n 1, 1) := by decide +kernel
theorem d_Me_write_30 : decode b_Me_write 30 = .ok (.iconst 1, 1) := by decide +kernel
theorem d_Me_write_31 : decode b_Me_write 31 = .ok (.iadd, 1) := by decide +kernel
theorem d_Me_write_32 : decode b_Me_write 32 = .ok (.invokestatic 42, 3) := by decide +kernel
theorem d_Me_write_35 : decode b_Me_write 35 = .ok (.putfield 9, 3) := by decide +kernel
theorem d_Me_write_66 : decode b_Me_write 66 = .ok (.iload 5, 2) := by decide +kernel
theorem d_Me_write_68 : decode b_Me_write 68 = .ok (.ifCond .eq 11, 3) := by decide +kernel
theorem d_Me_write_79 : decode b_Me_write 79 = .ok (.bipush (-4), 2) := by decide +kernel
theorem d_Me_write_81 : decode b_Me_write 81 = .ok (.ireturn, 1) := by decide +kernel
theorem d_Me_write_71 : decode b_Me_write 71 = .ok (.aload 4, 2) := by decide +kernel
theorem d_Me_write_73 : decode b_Me_write 73 = .ok (.getfield 25, 3) := by decide +kernel
theorem d_Me_write_76 : decode b_Me_write 76 = .ok (.goto 5, 3) := by decide +kernel
theorem d_Me_write_38 : decode b_Me_write 38 = .ok (.iload 5, 2) := by decide +kernel
theorem d_Me_write_40 : decode b_Me_write 40 = .ok (.ifCond .eq 20, 3) := by decide +kernel
theorem d_Me_write_60 : decode b_Me_write 60 = .ok (.aload 4, 2) := by decide +kernel
theorem d_Me_write_62 : decode b_Me_write 62 = .ok (.iconst 2, 1) := by decide +kernel
theorem d_Me_write_63 : decode b_Me_write 63 = .ok (.putfield 25, 3) := by decide +kernel
theorem d_Me_write_43 : decode b_Me_write 43 = .ok (.aload 4, 2) := by decide +kernel
theorem d_Me_write_45 : decode b_Me_write 45 = .ok (.getfield 32, 3) := by decide +kernel
theorem d_Me_write_48 : decode b_Me_write 48 = .ok (.ifCond .ne 12, 3) := by decide +kernel
theorem d_Me_write_51 : decode b_Me_write 51 = .ok (.aload 4, 2) := by decide +kernel
theorem d_Me_write_53 : decode b_Me_write 53 = .ok (.aload_n 2, 1) := by decide +kernel
theorem d_Me_write_54 : decode b_Me_write 54 = .ok (.invokevirtual 48, 3) := by decide +kernel
theorem d_Me_write_57 : decode b_Me_write 57 = .ok (.goto 9, 3) := by decide +kernel
theorem d_Wr_writeParts_0 : decode b_Wr_writeParts 0 = .ok (.iconst 1, 1) := by decide +kernel
theorem d_Wr_writeParts_1 : decode b_Wr_writeParts 1 = .ok (.istore 5, 2) := by decide +kernel
theorem d_Wr_writeParts_3 : decode b_Wr_writeParts 3 = .ok (.iconst 0, 1) := by decide +kernel
theorem d_Wr_writeParts_4 : decode b_Wr_writeParts 4 = .ok (.istore 6, 2) := by decide +kernel
theorem d_Wr_writeParts_6 : decode b_Wr_writeParts 6 = .ok (.iload 6, 2) := by decide +kernel
theorem d_Wr_writeParts_8 : decode b_Wr_writeParts 8 = .ok (.iload_n 2, 1) := by decide +kernel
theorem d_Wr_writeParts_9 : decode b_Wr_writeParts 9 = .ok (.if_icmp .ge 49, 3) := by decide +kernel
theorem d_Wr_writeParts_58 : decode b_Wr_writeParts 58 = .ok (.iload 5, 2) := by decide +kernel
theorem d_Wr_writeParts_60 : decode b_Wr_writeParts 60 = .ok (.ireturn, 1) := by decide +kernel
theorem d_Wr_writeParts_12 : decode b_Wr_writeParts 12 = .ok (.iload 5, 2) := by decide +kernel
theorem d_Wr_writeParts_14 : decode b_Wr_writeParts 14 = .ok (.iconst 1, 1) := by decide +kernel
theorem d_Wr_writeParts_15 : decode b_Wr_writeParts 15 = .ok (.if_icmp .ne 43, 3) := by decide +kernel
theorem d_Wr_writeParts_18 : decode b_Wr_writeParts 18 = .ok (.aload_n 0, 1) := by decide +kernel
theorem d_Wr_writeParts_19 : decode b_Wr_writeParts 19 = .ok (.getfield 23, 3) := by decide +kernel
theorem d_Wr_writeParts_22 : decode b_Wr_writeParts 22 = .ok (.aload_n 1, 1) := by decide +kernel
theorem d_Wr_writeParts_23 : decode b_Wr_writeParts 23 = .ok (.iload 6, 2) := by decide +kernel
theorem d_Wr_writeParts_25 : decode b_Wr_writeParts 25 = .ok (.aload_n 3, 1) := by decide +kernel
theorem d_Wr_writeParts_26 : decode b_Wr_writeParts 26 = .ok (.invokevirtual 84, 3) := by decide +kernel
theorem d_Wr_writeParts_29 : decode b_Wr_writeParts 29 = .ok (.aload 4, 2) := by decide +kernel
theorem d_Wr_writeParts_31 : decode b_Wr_writeParts 31 = .ok (.aload 4, 2) := by decide +kernel
theorem d_Wr_writeParts_33 : decode b_Wr_writeParts 33 = .ok (.getfield 73, 3) := by decide +kernel
theorem d_Wr_writeParts_36 : decode b_Wr_writeParts 36 = .ok (.aload_n 0, 1) := by decide +kernel
theorem d_Wr_writeParts_37 : decode b_Wr_writeParts 37 = .ok (.getfield 23, 3) := by decide +kernel
theorem d_Wr_writeParts_40 : decode b_Wr_writeParts 40 = .ok (.getfield 88, 3) := by decide +kernel
theorem d_Wr_writeParts_43 : decode b_Wr_writeParts 43 = .ok (.aload_n 0, 1) := by decide +kernel
theorem d_Wr_writeParts_44 : decode b_Wr_writeParts 44 = .ok (.getfield 12, 3) := by decide +kernel
theorem d_Wr_writeParts_47 : decode b_Wr_writeParts 47 = .ok (.invokevirtual 92, 3) := by decide +kernel
theorem d_Wr_writeParts_50 : decode b_Wr_writeParts 50 = .ok (.istore 5, 2) := by decide +kernel
theorem d_Wr_writeParts_52 : decode b_Wr_writeParts 52 = .ok (.iinc 6 1, 3) := by decide +kernel
theorem d_Wr_writeParts_55 : decode b_Wr_writeParts 55 = .ok (.goto (-49), 3) := by decide +kernel
theorem d_Wr_writeFile_0 : decode b_Wr_writeFile 0 = .ok (.aload_n 1, 1) := by decide +kernel
theorem d_Wr_writeFile_1 : decode b_Wr_writeFile 1 = .ok (.getfield 60, 3) := by decide +kernel
theorem d_Wr_writeFile_4 : decode b_Wr_writeFile 4 = .ok (.invokestatic 63, 3) := by decide +kernel
theorem d_Wr_writeFile_7 : decode b_Wr_writeFile 7 = .ok (.istore 4, 2) := by decide +kernel
theorem d_Wr_writeFile_9 : decode b_Wr_writeFile 9 = .ok (.iconst 0, 1) := by decide +kernel
theorem d_Wr_writeFile_10 : decode b_Wr_writeFile 10 = .ok (.istore 5, 2) := by decide +kernel
theorem d_Wr_writeFile_12 : decode b_Wr_writeFile 12 = .ok (.iload 5, 2) := by decide +kernel
theorem d_Wr_writeFile_14 : decode b_Wr_writeFile 14 = .ok (.aload_n 3, 1) := by decide +kernel
theorem d_Wr_writeFile_15 : decode b_Wr_writeFile 15 = .ok (.getfield 67, 3) := by decide +kernel
theorem d_Wr_writeFile_18 : decode b_Wr_writeFile 18 = .ok (.arraylength, 1) := by decide +kernel
theorem d_Wr_writeFile_19 : decode b_Wr_writeFile 19 = .ok (.if_icmp .gt 59, 3) := by decide +kernel
theorem d_Wr_writeFile_78 : decode b_Wr_writeFile 78 = .ok (.bipush (-3), 2) := by decide +kernel
theorem d_Wr_writeFile_80 : decode b_Wr_writeFile 80 = .ok (.ireturn, 1) := by decide +kernel
theorem d_Wr_writeFile_22 : decode b_Wr_writeFile 22 = .ok (.aload_n 3, 1) := by decide +kernel
theorem d_Wr_writeFile_23 : decode b_Wr_writeFile 23 = .ok (.getfield 73, 3) := by decide +kernel
theorem d_Wr_writeFile_26 : decode b_Wr_writeFile 26 = .ok (.istore 6, 2) := by decide +kernel
theorem d_Wr_writeFile_28 : decode b_Wr_writeFile 28 = .ok (.aload_n 3, 1) := by decide +kernel
theorem d_Wr_writeFile_29 : decode b_Wr_writeFile 29 = .ok (.iload 6, 2) := by decide +kernel
theorem d_Wr_writeFile_31 : decode b_Wr_writeFile 31 = .ok (.iload 4, 2) := by decide +kernel
theorem d_Wr_writeFile_33 : decode b_Wr_writeFile 33 = .ok (.invokevirtual 76, 3) := by decide +kernel
theorem d_Wr_writeFile_36 : decode b_Wr_writeFile 36 = .ok (.ifCond .ne 6, 3) := by decide +kernel
theorem d_Wr_writeFile_42 : decode b_Wr_writeFile 42 = .ok (.aload_n 0, 1) := by decide +kernel
theorem d_Wr_writeFile_43 : decode b_Wr_writeFile 43 = .ok (.aload_n 1, 1) := by decide +kernel
theorem d_Wr_writeFile_44 : decode b_Wr_writeFile 44 = .ok (.iload 4, 2) := by decide +kernel
theorem d_Wr_writeFile_46 : decode b_Wr_writeFile 46 = .ok (.aload_n 2, 1) := by decide +kernel
theorem d_Wr_writeFile_47 : decode b_Wr_writeFile 47 = .ok (.aload_n 3, 1) := by decide +kernel
theorem d_Wr_writeFile_48 : decode b_Wr_writeFile 48 = .ok (.invokevirtual 80, 3) := by decide +kernel
theorem d_Wr_writeFile_51 : decode b_Wr_writeFile 51 = .ok (.istore 7, 2) := by decide +kernel
theorem d_Wr_writeFile_53 : decode b_Wr_writeFile 53 = .ok (.iload 7, 2) := by decide +kernel
theorem d_Wr_writeFile_55 : decode b_Wr_writeFile 55 = .ok (.iconst 1, 1) := by decide +kernel
theorem d_Wr_writeFile_56 : decode b_Wr_writeFile 56 = .ok (.if_icmp .ne 6, 3) := by decide +kernel
theorem d_Wr_writeFile_62 : decode b_Wr_writeFile 62 = .ok (.iload 7, 2) := by decide +kernel
theorem d_Wr_writeFile_64 : decode b_Wr_writeFile 64 = .ok (.bipush (-4), 2) := by decide +kernel
theorem d_Wr_writeFile_66 : decode b_Wr_writeFile 66 = .ok (.if_icmp .ne 6, 3) := by decide +kernel
theorem d_Wr_writeFile_72 : decode b_Wr_writeFile 72 = .ok (.iinc 5 1, 3) := by decide +kernel
theorem d_Wr_writeFile_75 : decode b_Wr_writeFile 75 = .ok (.goto (-63), 3) := by decide +kernel
theorem d_Wr_writeFile_69 : decode b_Wr_writeFile 69 = .ok (.bipush (-4), 2) := by decide +kernel
theorem d_Wr_writeFile_71 : decode b_Wr_writeFile 71 = .ok (.ireturn, 1) := by decide +kernel
theorem d_Wr_writeFile_59 : decode b_Wr_writeFile 59 = .ok (.iload 6, 2) := by decide +kernel
theorem d_Wr_writeFile_61 : decode b_Wr_writeFile 61 = .ok (.ireturn, 1) := by decide +kernel
theorem d_Wr_writeFile_39 : decode b_Wr_writeFile 39 = .ok (.bipush (-3), 2) := by decide +kernel
theorem d_Wr_writeFile_41 : decode b_Wr_writeFile 41 = .ok (.ireturn, 1) := by decide +kernel
theorem d_Wr_writeNewFiles_0 : decode b_Wr_writeNewFiles 0 = .ok (.iconst 0, 1) := by decide +kernel
theorem d_Wr_writeNewFiles_1 : decode b_Wr_writeNewFiles 1 = .ok (.istore_n 3, 1) := by decide +kernel
theorem d_Wr_writeNewFiles_2 : decode b_Wr_writeNewFiles 2 = .ok (.iload_n 3, 1) := by decide +kernel
theorem d_Wr_writeNewFiles_3 : decode b_Wr_writeNewFiles 3 = .ok (.aload_n 1, 1) := by decide +kernel
theorem d_Wr_writeNewFiles_4 : decode b_Wr_writeNewFiles 4 = .ok (.getfield 27, 3) := by decide +kernel
theorem d_Wr_writeNewFiles_7 : decode b_Wr_writeNewFiles 7 = .ok (.if_icmp .ge 68, 3) := by decide +kernel
theorem d_Wr_writeNewFiles_75 : decode b_Wr_writeNewFiles 75 = .ok (.iconst 1, 1) := by decide +kernel
theorem d_Wr_writeNewFiles_76 : decode b_Wr_writeNewFiles 76 = .ok (.ireturn, 1) := by decide +kernel
theorem d_Wr_writeNewFiles_10 : decode b_Wr_writeNewFiles 10 = .ok (.aload_n 1, 1) := by decide +kernel
theorem d_Wr_writeNewFiles_11 : decode b_Wr_writeNewFiles 11 = .ok (.getfield 33, 3) := by decide +kernel
theorem d_Wr_writeNewFiles_14 : decode b_Wr_writeNewFiles 14 = .ok (.iload_n 3, 1) := by decide +kernel
theorem d_Wr_writeNewFiles_15 : decode b_Wr_writeNewFiles 15 = .ok (.aaload, 1) := by decide +kernel
theorem d_Wr_writeNewFiles_16 : decode b_Wr_writeNewFiles 16 = .ok (.astore 4, 2) := by decide +kernel
theorem d_Wr_writeNewFiles_59 : decode b_Wr_writeNewFiles 59 = .ok (.aload 4, 2) := by decide +kernel
theorem d_Wr_writeNewFiles_61 : decode b_Wr_writeNewFiles 61 = .ok (.aload 4, 2) := by decide +kernel
theorem d_Wr_writeNewFiles_63 : decode b_Wr_writeNewFiles 63 = .ok (.getfield 54, 3) := by decide +kernel
theorem d_Wr_writeNewFiles_66 : decode b_Wr_writeNewFiles 66 = .ok (.putfield 57, 3) := by decide +kernel
theorem d_Wr_writeNewFiles_69 : decode b_Wr_writeNewFiles 69 = .ok (.iinc 3 1, 3) := by decide +kernel
theorem d_Wr_writeNewFiles_72 : decode b_Wr_writeNewFiles 72 = .ok (.goto (-70), 3) := by decide +kernel
theorem d_Wr_writeNewFiles_18 : decode b_Wr_writeNewFiles 18 = .ok (.aload 4, 2) := by decide +kernel
theorem d_Wr_writeNewFiles_20 : decode b_Wr_writeNewFiles 20 = .ok (.invokevirtual 37, 3) := by decide +kernel
theorem d_Wr_writeNewFiles_23 : decode b_Wr_writeNewFiles 23 = .ok (.ifCond .eq 36, 3) := by decide +kernel
theorem d_Wr_writeNewFiles_26 : decode b_Wr_writeNewFiles 26 = .ok (.aload 4, 2) := by decide +kernel
theorem d_Wr_writeNewFiles_28 : decode b_Wr_writeNewFiles 28 = .ok (.getfield 43, 3) := by decide +kernel
theorem d_Wr_writeNewFiles_31 : decode b_Wr_writeNewFiles 31 = .ok (.ifCond .ne 28, 3) := by decide +kernel
theorem d_Wr_writeNewFiles_34 : decode b_Wr_writeNewFiles 34 = .ok (.aload_n 0, 1) := by decide +kernel
theorem d_Wr_writeNewFiles_35 : decode b_Wr_writeNewFiles 35 = .ok (.aload 4, 2) := by decide +kernel
theorem d_Wr_writeNewFiles_37 : decode b_Wr_writeNewFiles 37 = .ok (.aload_n 2, 1) := by decide +kernel
theorem d_Wr_writeNewFiles_38 : decode b_Wr_writeNewFiles 38 = .ok (.aload_n 2, 1) := by decide +kernel
theorem d_Wr_writeNewFiles_39 : decode b_Wr_writeNewFiles 39 = .ok (.invokevirtual 47, 3) := by decide +kernel
theorem d_Wr_writeNewFiles_42 : decode b_Wr_writeNewFiles 42 = .ok (.istore 5, 2) := by decide +kernel
theorem d_Wr_writeNewFiles_44 : decode b_Wr_writeNewFiles 44 = .ok (.iload 5, 2) := by decide +kernel
theorem d_Wr_writeNewFiles_46 : decode b_Wr_writeNewFiles 46 = .ok (.ifCond .ge 6, 3) := by decide +kernel
theorem d_Wr_writeNewFiles_52 : decode b_Wr_writeNewFiles 52 = .ok (.aload 4, 2) := by decide +kernel
theorem d_Wr_writeNewFiles_54 : decode b_Wr_writeNewFiles 54 = .ok (.iload 5, 2) := by decide +kernel
theorem d_Wr_writeNewFiles_56 : decode b_Wr_writeNewFiles 56 = .ok (.invokevirtual 51, 3) := by decide +kernel
theorem d_Wr_writeNewFiles_49 : decode b_Wr_writeNewFiles 49 = .ok (.iload 5, 2) := by decide +kernel
theorem d_Wr_writeNewFiles_51 : decode b_Wr_writeNewFiles 51 = .ok (.ireturn, 1) := by decide +kernel
theorem d_Wr_writeAllFiles_0 : decode b_Wr_writeAllFiles 0 = .ok (.iconst 0, 1) := by decide +kernel
theorem d_Wr_writeAllFiles_1 : decode b_Wr_writeAllFiles 1 = .ok (.istore 4, 2) := by decide +kernel
theorem d_Wr_writeAllFiles_3 : decode b_Wr_writeAllFiles 3 = .ok (.iload 4, 2) := by decide +kernel
theorem d_Wr_writeAllFiles_5 : decode b_Wr_writeAllFiles 5 = .ok (.aload_n 1, 1) := by decide +kernel
theorem d_Wr_writeAllFiles_6 : decode b_Wr_writeAllFiles 6 = .ok (.getfield 27, 3) := by decide +kernel
theorem d_Wr_writeAllFiles_9 : decode b_Wr_writeAllFiles 9 = .ok (.if_icmp .ge 55, 3) := by decide +kernel
theorem d_Wr_writeAllFiles_64 : decode b_Wr_writeAllFiles 64 = .ok (.iconst 1, 1) := by decide +kernel
theorem d_Wr_writeAllFiles_65 : decode b_Wr_writeAllFiles 65 = .ok (.ireturn, 1) := by decide +kernel
theorem d_Wr_writeAllFiles_12 : decode b_Wr_writeAllFiles 12 = .ok (.aload_n 1, 1) := by decide +kernel
theorem d_Wr_writeAllFiles_13 : decode b_Wr_writeAllFiles 13 = .ok (.getfield 33, 3) := by decide +kernel
theorem d_Wr_writeAllFiles_16 : decode b_Wr_writeAllFiles 16 = .ok (.iload 4, 2) := by decide +kernel
theorem d_Wr_writeAllFiles_18 : decode b_Wr_writeAllFiles 18 = .ok (.aaload, 1) := by decide +kernel
theorem d_Wr_writeAllFiles_19 : decode b_Wr_writeAllFiles 19 = .ok (.astore 5, 2) := by decide +kernel
theorem d_Wr_writeAllFiles_41 : decode b_Wr_writeAllFiles 41 = .ok (.istore 6, 2) := by decide +kernel
theorem d_Wr_writeAllFiles_43 : decode b_Wr_writeAllFiles 43 = .ok (.iload 6, 2) := by decide +kernel
theorem d_Wr_writeAllFiles_45 : decode b_Wr_writeAllFiles 45 = .ok (.ifCond .ge 6, 3) := by decide +kernel
theorem d_Wr_writeAllFiles_51 : decode b_Wr_writeAllFiles 51 = .ok (.aload 5, 2) := by decide +kernel
theorem d_Wr_writeAllFiles_53 : decode b_Wr_writeAllFiles 53 = .ok (.iload 6, 2) := by decide +kernel
theorem d_Wr_writeAllFiles_55 : decode b_Wr_writeAllFiles 55 = .ok (.putfield 57, 3) := by decide +kernel
theorem d_Wr_writeAllFiles_58 : decode b_Wr_writeAllFiles 58 = .ok (.iinc 4 1, 3) := by decide +kernel
theorem d_Wr_writeAllFiles_61 : decode b_Wr_writeAllFiles 61 = .ok (.goto (-58), 3) := by decide +kernel
theorem d_Wr_writeAllFiles_48 : decode b_Wr_writeAllFiles 48 = .ok (.iload 6, 2) := by decide +kernel
theorem d_Wr_writeAllFiles_50 : decode b_Wr_writeAllFiles 50 = .ok (.ireturn, 1) := by decide +kernel
theorem d_Wr_writeAllFiles_21 : decode b_Wr_writeAllFiles 21 = .ok (.aload 5, 2) := by decide +kernel
theorem d_Wr_writeAllFiles_23 : decode b_Wr_writeAllFiles 23 = .ok (.invokevirtual 37, 3) := by decide +kernel
theorem d_Wr_writeAllFiles_26 : decode b_Wr_writeAllFiles 26 = .ok (.ifCond .eq 14, 3) := by decide +kernel
theorem d_Wr_writeAllFiles_40 : decode b_Wr_writeAllFiles 40 = .ok (.iconst 0, 1) := by decide +kernel
theorem d_Wr_writeAllFiles_29 : decode b_Wr_writeAllFiles 29 = .ok (.aload_n 0, 1) := by decide +kernel
theorem d_Wr_writeAllFiles_30 : decode b_Wr_writeAllFiles 30 = .ok (.aload 5, 2) := by decide +kernel
theorem d_Wr_writeAllFiles_32 : decode b_Wr_writeAllFiles 32 = .ok (.aload_n 2, 1) := by decide +kernel
theorem d_Wr_writeAllFiles_33 : decode b_Wr_writeAllFiles 33 = .ok (.aload_n 3, 1) := by decide +kernel
theorem d_Wr_writeAllFiles_34 : decode b_Wr_writeAllFiles 34 = .ok (.invokevirtual 47, 3) := by decide +kernel
theorem d_Wr_writeAllFiles_37 : decode b_Wr_writeAllFiles 37 = .ok (.goto 4, 3) := by decide +kernel
theorem d_Wr_writeHead_0 : decode b_Wr_writeHead 0 = .ok (.aload_n 0, 1) := by decide +kernel
theorem d_Wr_writeHead_1 : decode b_Wr_writeHead 1 = .ok (.getfield 23, 3) := by decide +kernel
theorem d_Wr_writeHead_4 : decode b_Wr_writeHead 4 = .ok (.aload_n 1, 1) := by decide +kernel
theorem d_Wr_writeHead_5 : decode b_Wr_writeHead 5 = .ok (.getfield 115, 3) := by decide +kernel
theorem d_Wr_writeHead_8 : decode b_Wr_writeHead 8 = .ok (.aload_n 1, 1) := by decide +kernel
theorem d_Wr_writeHead_9 : decode b_Wr_writeHead 9 = .ok (.getfield 27, 3) := by decide +kernel
theorem d_Wr_writeHead_12 : decode b_Wr_writeHead 12 = .ok (.iconst 1, 1) := by decide +kernel
theorem d_Wr_writeHead_13 : decode b_Wr_writeHead 13 = .ok (.invokevirtual 121, 3) := by decide +kernel
theorem d_Wr_writeHead_16 : decode b_Wr_writeHead 16 = .ok (.istore 4, 2) := by decide +kernel
theorem d_Wr_writeHead_18 : decode b_Wr_writeHead 18 = .ok (.iconst 1, 1) := by decide +kernel
theorem d_Wr_writeHead_19 : decode b_Wr_writeHead 19 = .ok (.istore 5, 2) := by decide +kernel
theorem d_Wr_writeHead_21 : decode b_Wr_writeHead 21 = .ok (.bipush 16, 2) := by decide +kernel
theorem d_Wr_writeHead_23 : decode b_Wr_writeHead 23 = .ok (.istore 6, 2) := by decide +kernel
theorem d_Wr_writeHead_25 : decode b_Wr_writeHead 25 = .ok (.iload 6, 2) := by decide +kernel
theorem d_Wr_writeHead_27 : decode b_Wr_writeHead 27 = .ok (.bipush 19, 2) := by decide +kernel
theorem d_Wr_writeHead_29 : decode b_Wr_writeHead 29 = .ok (.if_icmp .gt 127, 3) := by decide +kernel
theorem d_Wr_writeHead_156 : decode b_Wr_writeHead 156 = .ok (.iload 5, 2) := by decide +kernel
theorem d_Wr_writeHead_158 : decode b_Wr_writeHead 158 = .ok (.ireturn, 1) := by decide +kernel
theorem d_Wr_writeHead_32 : decode b_Wr_writeHead 32 = .ok (.iload 5, 2) := by decide +kernel
theorem d_Wr_writeHead_34 : decode b_Wr_writeHead 34 = .ok (.iconst 1, 1) := by decide +kernel
theorem d_Wr_writeHead_35 : decode b_Wr_writeHead 35 = .ok (.if_icmp .ne 121, 3) := by decide +kernel
theorem d_Wr_writeHead_129 : decode b_Wr_writeHead 129 = .ok (.aload_n 2, 1) := by decide +kernel
theorem d_Wr_writeHead_130 : decode b_Wr_writeHead 130 = .ok (.iload_n 3, 1) := by decide +kernel
theorem d_Wr_writeHead_131 : decode b_Wr_writeHead 131 = .ok (.iload 6, 2) := by decide +kernel
theorem d_Wr_writeHead_133 : decode b_Wr_writeHead 133 = .ok (.iadd, 1) := by decide +kernel
theorem d_Wr_writeHead_134 : decode b_Wr_writeHead 134 = .ok (.aload_n 0, 1) := by decide +kernel
theorem d_Wr_writeHead_135 : decode b_Wr_writeHead 135 = .ok (.getfield 23, 3) := by decide +kernel
theorem d_Wr_writeHead_138 : decode b_Wr_writeHead 138 = .ok (.getfield 88, 3) := by decide +kernel
theorem d_Wr_writeHead_141 : decode b_Wr_writeHead 141 = .ok (.aload_n 0, 1) := by decide +kernel
theorem d_Wr_writeHead_142 : decode b_Wr_writeHead 142 = .ok (.getfield 12, 3) := by decide +kernel
theorem d_Wr_writeHead_145 : decode b_Wr_writeHead 145 = .ok (.invokevirtual 92, 3) := by decide +kernel
theorem d_Wr_writeHead_148 : decode b_Wr_writeHead 148 = .ok (.istore 5, 2) := by decide +kernel
theorem d_Wr_writeHead_150 : decode b_Wr_writeHead 150 = .ok (.iinc 6 1, 3) := by decide +kernel
theorem d_Wr_writeHead_153 : decode b_Wr_writeHead 153 = .ok (.goto (-128), 3) := by decide +kernel
theorem d_Wr_writeHead_38 : decode b_Wr_writeHead 38 = .ok (.iload 6, 2) := by decide +kernel
theorem d_Wr_writeHead_40 : decode b_Wr_writeHead 40 = .ok (.lookupswitch 61 #[(16, 28), (17, 48)], 28) := by decide +kernel
theorem d_Wr_writeHead_68 : decode b_Wr_writeHead 68 = .ok (.aload_n 0, 1) := by decide +kernel
theorem d_Wr_writeHead_69 : decode b_Wr_writeHead 69 = .ok (.getfield 23, 3) := by decide +kernel
theorem d_Wr_writeHead_72 : decode b_Wr_writeHead 72 = .ok (.aload_n 2, 1) := by decide +kernel
theorem d_Wr_writeHead_73 : decode b_Wr_writeHead 73 = .ok (.iload_n 3, 1) := by decide +kernel
theorem d_Wr_writeHead_74 : decode b_Wr_writeHead 74 = .ok (.iload 4, 2) := by decide +kernel
theorem d_Wr_writeHead_76 : decode b_Wr_writeHead 76 = .ok (.aload_n 1, 1) := by decide +kernel
theorem d_Wr_writeHead_77 : decode b_Wr_writeHead 77 = .ok (.getfield 33, 3) := by decide +kernel
theorem d_Wr_writeHead_80 : decode b_Wr_writeHead 80 = .ok (.iconst 0, 1) := by decide +kernel
theorem d_Wr_writeHead_81 : decode b_Wr_writeHead 81 = .ok (.aaload, 1) := by decide +kernel
theorem d_Wr_writeHead_82 : decode b_Wr_writeHead 82 = .ok (.invokevirtual 125, 3) := by decide +kernel
theorem d_Wr_writeHead_85 : decode b_Wr_writeHead 85 = .ok (.goto 44, 3) := by decide +kernel
theorem d_Wr_writeHead_88 : decode b_Wr_writeHead 88 = .ok (.aload_n 0, 1) := by decide +kernel
theorem d_Wr_writeHead_89 : decode b_Wr_writeHead 89 = .ok (.getfield 23, 3) := by decide +kernel
theorem d_Wr_writeHead_92 : decode b_Wr_writeHead 92 = .ok (.sipush 255, 3) := by decide +kernel
theorem d_Wr_writeHead_95 : decode b_Wr_writeHead 95 = .ok (.invokevirtual 129, 3) := by decide +kernel
theorem d_Wr_writeHead_98 : decode b_Wr_writeHead 98 = .ok (.goto 31, 3) := by decide +kernel
theorem d_Wr_writeHead_101 : decode b_Wr_writeHead 101 = .ok (.aload_n 0, 1) := by decide +kernel
theorem d_Wr_writeHead_102 : decode b_Wr_writeHead 102 = .ok (.getfield 23, 3) := by decide +kernel
theorem d_Wr_writeHead_105 : decode b_Wr_writeHead 105 = .ok (.aload_n 1, 1) := by decide +kernel
theorem d_Wr_writeHead_106 : decode b_Wr_writeHead 106 = .ok (.getfield 115, 3) := by decide +kernel
theorem d_Wr_writeHead_109 : decode b_Wr_writeHead 109 = .ok (.aload_n 1, 1) := by decide +kernel
theorem d_Wr_writeHead_110 : decode b_Wr_writeHead 110 = .ok (.getfield 27, 3) := by decide +kernel
theorem d_Wr_writeHead_113 : decode b_Wr_writeHead 113 = .ok (.iload 6, 2) := by decide +kernel
theorem d_Wr_writeHead_115 : decode b_Wr_writeHead 115 = .ok (.bipush 18, 2) := by decide +kernel
theorem d_Wr_writeHead_117 : decode b_Wr_writeHead 117 = .ok (.if_icmp .ne 7, 3) := by decide +kernel
theorem d_Wr_writeHead_124 : decode b_Wr_writeHead 124 = .ok (.iconst 0, 1) := by decide +kernel
theorem d_Wr_writeHead_125 : decode b_Wr_writeHead 125 = .ok (.invokevirtual 121, 3) := by decide +kernel
theorem d_Wr_writeHead_128 : decode b_Wr_writeHead 128 = .ok (.pop, 1) := by decide +kernel
theorem d_Wr_writeHead_120 : decode b_Wr_writeHead 120 = .ok (.iconst 1, 1) := by decide +kernel
theorem d_Wr_writeHead_121 : decode b_Wr_writeHead 121 = .ok (.goto 4, 3) := by decide +kernel
theorem d_Wr_writeDirectories_0 : decode b_Wr_writeDirectories 0 = .ok (.iconst 1, 1) := by decide +kernel
theorem d_Wr_writeDirectories_1 : decode b_Wr_writeDirectories 1 = .ok (.istore_n 3, 1) := by decide +kernel
theorem d_Wr_writeDirectories_2 : decode b_Wr_writeDirectories 2 = .ok (.iconst 0, 1) := by decide +kernel
theorem d_Wr_writeDirectories_3 : decode b_Wr_writeDirectories 3 = .ok (.istore 4, 2) := by decide +kernel
theorem d_Wr_writeDirectories_5 : decode b_Wr_writeDirectories 5 = .ok (.iload 4, 2) := by decide +kernel
theorem d_Wr_writeDirectories_7 : decode b_Wr_writeDirectories 7 = .ok (.aload_n 1, 1) := by decide +kernel
theorem d_Wr_writeDirectories_8 : decode b_Wr_writeDirectories 8 = .ok (.getfield 27, 3) := by decide +kernel
theorem d_Wr_writeDirectories_11 : decode b_Wr_writeDirectories 11 = .ok (.if_icmp .ge 75, 3) := by decide +kernel
theorem d_Wr_writeDirectories_86 : decode b_Wr_writeDirectories 86 = .ok (.iload_n 3, 1) := by decide +kernel
theorem d_Wr_writeDirectories_87 : decode b_Wr_writeDirectories 87 = .ok (.ireturn, 1) := by decide +kernel
theorem d_Wr_writeDirectories_14 : decode b_Wr_writeDirectories 14 = .ok (.iload_n 3, 1) := by decide +kernel
theorem d_Wr_writeDirectories_15 : decode b_Wr_writeDirectories 15 = .ok (.iconst 1, 1) := by decide +kernel
theorem d_Wr_writeDirectories_16 : decode b_Wr_writeDirectories 16 = .ok (.if_icmp .ne 70, 3) := by decide +kernel
theorem d_Wr_writeDirectories_19 : decode b_Wr_writeDirectories 19 = .ok (.aload_n 1, 1) := by decide +kernel
theorem d_Wr_writeDirectories_20 : decode b_Wr_writeDirectories 20 = .ok (.getfield 115, 3) := by decide +kernel
theorem d_Wr_writeDirectories_23 : decode b_Wr_writeDirectories 23 = .ok (.iload 4, 2) := by decide +kernel
theorem d_Wr_writeDirectories_25 : decode b_Wr_writeDirectories 25 = .ok (.aaload, 1) := by decide +kernel
theorem d_Wr_writeDirectories_26 : decode b_Wr_writeDirectories 26 = .ok (.getfield 118, 3) := by decide +kernel
theorem d_Wr_writeDirectories_29 : decode b_Wr_writeDirectories 29 = .ok (.ifCond .eq 51, 3) := by decide +kernel
theorem d_Wr_writeDirectories_80 : decode b_Wr_writeDirectories 80 = .ok (.iinc 4 1, 3) := by decide +kernel
theorem d_Wr_writeDirectories_83 : decode b_Wr_writeDirectories 83 = .ok (.goto (-78), 3) := by decide +kernel
theorem d_Wr_writeDirectories_32 : decode b_Wr_writeDirectories 32 = .ok (.aload_n 0, 1) := by decide +kernel
theorem d_Wr_writeDirectories_33 : decode b_Wr_writeDirectories 33 = .ok (.getfield 23, 3) := by decide +kernel
theorem d_Wr_writeDirectories_36 : decode b_Wr_writeDirectories 36 = .ok (.aload_n 1, 1) := by decide +kernel
theorem d_Wr_writeDirectories_37 : decode b_Wr_writeDirectories 37 = .ok (.getfield 115, 3) := by decide +kernel
theorem d_Wr_writeDirectories_40 : decode b_Wr_writeDirectories 40 = .ok (.iload 4, 2) := by decide +kernel
theorem d_Wr_writeDirectories_42 : decode b_Wr_writeDirectories 42 = .ok (.aaload, 1) := by decide +kernel
theorem d_Wr_writeDirectories_43 : decode b_Wr_writeDirectories 43 = .ok (.aload_n 1, 1) := by decide +kernel
theorem d_Wr_writeDirectories_44 : decode b_Wr_writeDirectories 44 = .ok (.getfield 115, 3) := by decide +kernel
theorem d_Wr_writeDirectories_47 : decode b_Wr_writeDirectories 47 = .ok (.aload_n 1, 1) := by decide +kernel
theorem d_Wr_writeDirectories_48 : decode b_Wr_writeDirectories 48 = .ok (.getfield 27, 3) := by decide +kernel
theorem d_Wr_writeDirectories_51 : decode b_Wr_writeDirectories 51 = .ok (.invokevirtual 132, 3) := by decide +kernel
theorem d_Wr_writeDirectories_54 : decode b_Wr_writeDirectories 54 = .ok (.aload_n 2, 1) := by decide +kernel
theorem d_Wr_writeDirectories_55 : decode b_Wr_writeDirectories 55 = .ok (.aload_n 1, 1) := by decide +kernel
theorem d_Wr_writeDirectories_56 : decode b_Wr_writeDirectories 56 = .ok (.getfield 115, 3) := by decide +kernel
theorem d_Wr_writeDirectories_59 : decode b_Wr_writeDirectories 59 = .ok (.iload 4, 2) := by decide +kernel
theorem d_Wr_writeDirectories_61 : decode b_Wr_writeDirectories 61 = .ok (.aaload, 1) := by decide +kernel
theorem d_Wr_writeDirectories_62 : decode b_Wr_writeDirectories 62 = .ok (.getfield 57, 3) := by decide +kernel
theorem d_Wr_writeDirectories_65 : decode b_Wr_writeDirectories 65 = .ok (.aload_n 0, 1) := by decide +kernel
theorem d_Wr_writeDirectories_66 : decode b_Wr_writeDirectories 66 = .ok (.getfield 23, 3) := by decide +kernel
theorem d_Wr_writeDirectories_69 : decode b_Wr_writeDirectories 69 = .ok (.getfield 88, 3) := by decide +kernel
theorem d_Wr_writeDirectories_72 : decode b_Wr_writeDirectories 72 = .ok (.aload_n 0, 1) := by decide +kernel
theorem d_Wr_writeDirectories_73 : decode b_Wr_writeDirectories 73 = .ok (.getfield 12, 3) := by decide +kernel
theorem d_Wr_writeDirectories_76 : decode b_Wr_writeDirectories 76 = .ok (.invokevirtual 92, 3) := by decide +kernel
theorem d_Wr_writeDirectories_79 : decode b_Wr_writeDirectories 79 = .ok (.istore_n 3, 1) := by decide +kernel
theorem d_Wr_writeMark_0 : decode b_Wr_writeMark 0 = .ok (.aload_n 0, 1) := by decide +kernel
theorem d_Wr_writeMark_1 : decode b_Wr_writeMark 1 = .ok (.getfield 23, 3) := by decide +kernel
theorem d_Wr_writeMark_4 : decode b_Wr_writeMark 4 = .ok (.iload_n 2, 1) := by decide +kernel
theorem d_Wr_writeMark_5 : decode b_Wr_writeMark 5 = .ok (.iload_n 3, 1) := by decide +kernel
theorem d_Wr_writeMark_6 : decode b_Wr_writeMark 6 = .ok (.invokevirtual 136, 3) := by decide +kernel
theorem d_Wr_writeMark_9 : decode b_Wr_writeMark 9 = .ok (.aload_n 1, 1) := by decide +kernel
theorem d_Wr_writeMark_10 : decode b_Wr_writeMark 10 = .ok (.aload_n 1, 1) := by decide +kernel
theorem d_Wr_writeMark_11 : decode b_Wr_writeMark 11 = .ok (.getfield 73, 3) := by decide +kernel
theorem d_Wr_writeMark_14 : decode b_Wr_writeMark 14 = .ok (.aload_n 0, 1) := by decide +kernel
theorem d_Wr_writeMark_15 : decode b_Wr_writeMark 15 = .ok (.getfield 23, 3) := by decide +kernel
theorem d_Wr_writeMark_18 : decode b_Wr_writeMark 18 = .ok (.getfield 88, 3) := by decide +kernel
theorem d_Wr_writeMark_21 : decode b_Wr_writeMark 21 = .ok (.aload_n 0, 1) := by decide +kernel
theorem d_Wr_writeMark_22 : decode b_Wr_writeMark 22 = .ok (.getfield 12, 3) := by decide +kernel
theorem d_Wr_writeMark_25 : decode b_Wr_writeMark 25 = .ok (.invokevirtual 92, 3) := by decide +kernel
theorem d_Wr_writeMark_28 : decode b_Wr_writeMark 28 = .ok (.ireturn, 1) := by decide +kernel
theorem d_Wr_writeSession_0 : decode b_Wr_writeSession 0 = .ok (.aload_n 1, 1) := by decide +kernel
theorem d_Wr_writeSession_1 : decode b_Wr_writeSession 1 = .ok (.invokevirtual 96, 3) := by decide +kernel
theorem d_Wr_writeSession_4 : decode b_Wr_writeSession 4 = .ok (.iconst 0, 1) := by decide +kernel
theorem d_Wr_writeSession_5 : decode b_Wr_writeSession 5 = .ok (.istore 4, 2) := by decide +kernel
theorem d_Wr_writeSession_7 : decode b_Wr_writeSession 7 = .ok (.iload 4, 2) := by decide +kernel
theorem d_Wr_writeSession_9 : decode b_Wr_writeSession 9 = .ok (.aload_n 2, 1) := by decide +kernel
theorem d_Wr_writeSession_10 : decode b_Wr_writeSession 10 = .ok (.getfield 67, 3) := by decide +kernel
theorem d_Wr_writeSession_13 : decode b_Wr_writeSession 13 = .ok (.arraylength, 1) := by decide +kernel
theorem d_Wr_writeSession_14 : decode b_Wr_writeSession 14 = .ok (.if_icmp .gt 95, 3) := by decide +kernel
theorem d_Wr_writeSession_109 : decode b_Wr_writeSession 109 = .ok (.bipush (-3), 2) := by decide +kernel
theorem d_Wr_writeSession_111 : decode b_Wr_writeSession 111 = .ok (.ireturn, 1) := by decide +kernel
theorem d_Wr_writeSession_17 : decode b_Wr_writeSession 17 = .ok (.aload_n 2, 1) := by decide +kernel
theorem d_Wr_writeSession_18 : decode b_Wr_writeSession 18 = .ok (.getfield 73, 3) := by decide +kernel
theorem d_Wr_writeSession_21 : decode b_Wr_writeSession 21 = .ok (.istore 5, 2) := by decide +kernel
theorem d_Wr_writeSession_23 : decode b_Wr_writeSession 23 = .ok (.aload_n 0, 1) := by decide +kernel
theorem d_Wr_writeSession_24 : decode b_Wr_writeSession 24 = .ok (.aload_n 1, 1) := by decide +kernel
theorem d_Wr_writeSession_25 : decode b_Wr_writeSession 25 = .ok (.iload 5, 2) := by decide +kernel
theorem d_Wr_writeSession_27 : decode b_Wr_writeSession 27 = .ok (.bipush 20, 2) := by decide +kernel
theorem d_Wr_writeSession_29 : decode b_Wr_writeSession 29 = .ok (.iadd, 1) := by decide +kernel
theorem d_Wr_writeSession_30 : decode b_Wr_writeSession 30 = .ok (.invokevirtual 99, 3) := by decide +kernel
theorem d_Wr_writeSession_33 : decode b_Wr_writeSession 33 = .ok (.istore 6, 2) := by decide +kernel
theorem d_Wr_writeSession_35 : decode b_Wr_writeSession 35 = .ok (.aload_n 2, 1) := by decide +kernel
theorem d_Wr_writeSession_36 : decode b_Wr_writeSession 36 = .ok (.iload 5, 2) := by decide +kernel
theorem d_Wr_writeSession_38 : decode b_Wr_writeSession 38 = .ok (.bipush 20, 2) := by decide +kernel
theorem d_Wr_writeSession_40 : decode b_Wr_writeSession 40 = .ok (.iload 6, 2) := by decide +kernel
theorem d_Wr_writeSession_42 : decode b_Wr_writeSession 42 = .ok (.iadd, 1) := by decide +kernel
theorem d_Wr_writeSession_43 : decode b_Wr_writeSession 43 = .ok (.iconst 1, 1) := by decide +kernel
theorem d_Wr_writeSession_44 : decode b_Wr_writeSession 44 = .ok (.iadd, 1) := by decide +kernel
theorem d_Wr_writeSession_45 : decode b_Wr_writeSession 45 = .ok (.invokevirtual 76, 3) := by decide +kernel
theorem d_Wr_writeSession_48 : decode b_Wr_writeSession 48 = .ok (.ifCond .ne 6, 3) := by decide +kernel
theorem d_Wr_writeSession_54 : decode b_Wr_writeSession 54 = .ok (.aload_n 0, 1) := by decide +kernel
theorem d_Wr_writeSession_55 : decode b_Wr_writeSession 55 = .ok (.aload_n 1, 1) := by decide +kernel
theorem d_Wr_writeSession_56 : decode b_Wr_writeSession 56 = .ok (.aload_n 2, 1) := by decide +kernel
theorem d_Wr_writeSession_57 : decode b_Wr_writeSession 57 = .ok (.iload 5, 2) := by decide +kernel
theorem d_Wr_writeSession_59 : decode b_Wr_writeSession 59 = .ok (.invokevirtual 103, 3) := by decide +kernel
theorem d_Wr_writeSession_62 : decode b_Wr_writeSession 62 = .ok (.istore 7, 2) := by decide +kernel
theorem d_Wr_writeSession_94 : decode b_Wr_writeSession 94 = .ok (.iload 7, 2) := by decide +kernel
theorem d_Wr_writeSession_96 : decode b_Wr_writeSession 96 = .ok (.iconst 2, 1) := by decide +kernel
theorem d_Wr_writeSession_97 : decode b_Wr_writeSession 97 = .ok (.if_icmp .eq 6, 3) := by decide +kernel
theorem d_Wr_writeSession_103 : decode b_Wr_writeSession 103 = .ok (.iinc 4 1, 3) := by decide +kernel
theorem d_Wr_writeSession_106 : decode b_Wr_writeSession 106 = .ok (.goto (-99), 3) := by decide +kernel
theorem d_Wr_writeSession_100 : decode b_Wr_writeSession 100 = .ok (.iload 7, 2) := by decide +kernel
theorem d_Wr_writeSession_102 : decode b_Wr_writeSession 102 = .ok (.ireturn, 1) := by decide +kernel
theorem d_Wr_writeSession_78 : decode b_Wr_writeSession 78 = .ok (.iload 7, 2) := by decide +kernel
theorem d_Wr_writeSession_80 : decode b_Wr_writeSession 80 = .ok (.iconst 1, 1) := by decide +kernel
theorem d_Wr_writeSession_81 : decode b_Wr_writeSession 81 = .ok (.if_icmp .ne 13, 3) := by decide +kernel
theorem d_Wr_writeSession_84 : decode b_Wr_writeSession 84 = .ok (.aload_n 0, 1) := by decide +kernel
theorem d_Wr_writeSession_85 : decode b_Wr_writeSession 85 = .ok (.aload_n 2, 1) := by decide +kernel
theorem d_Wr_writeSession_86 : decode b_Wr_writeSession 86 = .ok (.iload 5, 2) := by decide +kernel
theorem d_Wr_writeSession_88 : decode b_Wr_writeSession 88 = .ok (.iload_n 3, 1) := by decide +kernel
theorem d_Wr_writeSession_89 : decode b_Wr_writeSession 89 = .ok (.invokevirtual 111, 3) := by decide +kernel
theorem d_Wr_writeSession_92 : decode b_Wr_writeSession 92 = .ok (.istore 7, 2) := by decide +kernel
theorem d_Wr_writeSession_64 : decode b_Wr_writeSession 64 = .ok (.iload 7, 2) := by decide +kernel
theorem d_Wr_writeSession_66 : decode b_Wr_writeSession 66 = .ok (.iconst 1, 1) := by decide +kernel
theorem d_Wr_writeSession_67 : decode b_Wr_writeSession 67 = .ok (.if_icmp .ne 11, 3) := by decide +kernel
theorem d_Wr_writeSession_70 : decode b_Wr_writeSession 70 = .ok (.aload_n 0, 1) := by decide +kernel
theorem d_Wr_writeSession_71 : decode b_Wr_writeSession 71 = .ok (.aload_n 1, 1) := by decide +kernel
theorem d_Wr_writeSession_72 : decode b_Wr_writeSession 72 = .ok (.aload_n 2, 1) := by decide +kernel
theorem d_Wr_writeSession_73 : decode b_Wr_writeSession 73 = .ok (.invokevirtual 107, 3) := by decide +kernel
theorem d_Wr_writeSession_76 : decode b_Wr_writeSession 76 = .ok (.istore 7, 2) := by decide +kernel
theorem d_Wr_writeSession_51 : decode b_Wr_writeSession 51 = .ok (.bipush (-3), 2) := by decide +kernel
theorem d_Wr_writeSession_53 : decode b_Wr_writeSession 53 = .ok (.ireturn, 1) := by decide +kernel
set_option maxHeartbeats 4000000 in
set_option maxRecDepth 100000 in
theorem t_place (l : Launch) (D : va_G) (t : Nat → ClassId) (G : hG) (ak av : Nat → Nat) (h : hM) (τ : tM) (n f : Nat) (w9 : Nat) (P9 : Nat) (a9 : Int32) (hn : n ≤ 200) (hT : TI τ t n h) (T_w9 : τ w9 = (2, 0)) (T_P9 : τ P9 = (7, f)) : Met l y_Wr_placeDirectories (.code y_Wr_placeDirectories b_Wr_placeDirectories 5 (some .int) :: lw_g) { frames := 0, cells := 0, slots := 0, locals := 0 } (hP (kE D t G ak av) D vwCl G h [.ref w9, .ref P9, .int a9]) (hQi D vwCl G (fun r h' => TI τ t n h' ∧ kf τ [(10, f)] [] h h' ∧ knp τ f h h')) 0 0 G.P := by
  refine Met.ofW (cc := b_Wr_placeDirectories) (maxL := 5) (ret := (some .int)) (by decide) rfl ?_
  intro p e s m args below meth c s₁ Bd hml hv
  obtain ⟨ha, hE, hH⟩ := hv
  have hx := Bd.exec
  have hb := Bd.bytes
  have hr := Bd.returns
  have hts : ∀ w ∈ lw_g, w.before args s = true := fun w hw => atoms_spec (ws := (.code y_Wr_placeDirectories b_Wr_placeDirectories 5 (some .int) :: lw_g)) Bd.pre w (List.mem_cons_of_mem _ hw)
  have hown : s.vm.findClass R_Wr = some m.cls := findClass_of_methodNamed Bd.named
  have hlocks := Bd.notSynchronized
  have hK := hE.1
  have hH0 := hH
  have hLo : hLc G.P [] := hLc_nil
  have hz : s.heap.size ≤ s.heap.size := Nat.le_refl _
  have hl := lv_entry [.ref w9, .ref P9, .int a9] (n := 5) (Nat.le_of_ble_eq_true rfl)
  rw [show entryFrame m args 5 = F0 m 0 ((lg_sl [.ref w9, .ref P9, .int a9] ++ List.replicate (5 - (lg_sl [.ref w9, .ref P9, .int a9]).length) Slot.unset).toArray) [] from (by rw [ha]; exact lg_entry_eq m [.ref w9, .ref P9, .int a9] 5)]
  generalize (lg_sl [.ref w9, .ref P9, .int a9] ++ List.replicate (5 - (lg_sl [.ref w9, .ref P9, .int a9]).length) Slot.unset).toArray = ls at hl ⊢
  have hl : lv_has ls 5 [(0, .ref w9), (1, .ref P9), (2, .int a9)] := hl
  have hkf : kf τ [(10, f)] [] h h := kf_rf
  have hnp_f : knp τ f h h := knp_rf
  refine lv_iconst (v := 0) hx hb d_Wr_placeDirectories_0 (by decide) ?_
  refine lv_istore_n (lv' := [(3, .int 0), (0, .ref w9), (1, .ref P9), (2, .int a9)]) hx hb d_Wr_placeDirectories_1 rfl hl (by decide) rfl (fun ls hl => ?_)
  refine lv_iconst (v := 0) hx hb d_Wr_placeDirectories_2 (by decide) ?_
  refine lv_istore (lv' := [(4, .int 0), (3, .int 0), (0, .ref w9), (1, .ref P9), (2, .int a9)]) hx hb d_Wr_placeDirectories_3 hl (by decide) rfl (fun ls hl => ?_)
  refine hm_loop (fun k5 ls H locs hh5 => ∃ (dc9 : Int32) (i9 : Int32), k5 = mU i9 ∧ lv_has ls 5 [(0, .ref w9), (1, .ref P9), (2, .int a9), (3, .int dc9), (4, .int i9)] ∧ hm D vwCl G hh5 H ∧ s.heap.size ≤ H.size ∧ hLc G.P locs ∧ (TI τ t n hh5) ∧ (kf τ [(10, f)] [] h hh5) ∧ (knp τ f h hh5) ∧ (0 ≤ i9.toInt)) ?_ (hh := h) ⟨0, 0, rfl, (lv_sub hl [2, 3, 4, 1, 0] rfl), hH, hz, hLo, hT, hkf, hnp_f, (by decide)⟩
  rintro k5 ls H locs hh5 ⟨dc9, i9, hk5, hl, hH, hz, hLo, hT, hkf, hnp_f, I_i9⟩ ih5
  refine lv_iload hx hb d_Wr_placeDirectories_5 (lv_at hl 4 rfl) ?_
  refine lv_aload_n hx hb d_Wr_placeDirectories_7 rfl (lv_at hl 1 rfl) ?_
  obtain ⟨v_1, v_3, v_5, v_7, F_P9, c_2, c_4, c_6⟩ := TI_nds hT T_P9
  refine hm_get (ci := 2) (v := .int v_5) (C := R_Ns) (T := F_Ns) (N := 4) hx hb hts ig_Ns hown hK hH F_P9 rfl 2 (by decide) (hts _ mw_238) (fun _ h9 => h9) rfl d_Wr_placeDirectories_8 ?_
  refine lv_icmp_ge (tgt := 49) hx hb d_Wr_placeDirectories_11 (by decide) (fun hc_8 => ?_) (fun hc_8 => ?_)
  · skip
    have ic_9 : v_5.toInt ≤ i9.toInt := iLe hc_8
    refine lv_iload_n hx hb d_Wr_placeDirectories_49 rfl (lv_at hl 3 rfl) ?_
    exact W.iret (v := dc9) hx hb hr (fun t9 ht hW => ⟨dc9, hh5, rfl, ⟨hT, hkf, hnp_f⟩, by rw [ht]; exact hH, by rw [ht]; exact hz⟩) hLo d_Wr_placeDirectories_50
  · skip
    have ic_10 : i9.toInt < v_5.toInt := iNe hc_8
    have iu_11 : v_5.toInt < 2147483648 := iUp _
    refine lv_aload_n hx hb d_Wr_placeDirectories_14 rfl (lv_at hl 1 rfl) ?_
    refine hm_get (ci := 2) (v := .ref v_3) (C := R_Ns) (T := F_Ns) (N := 4) hx hb hts ig_Ns hown hK hH F_P9 rfl 1 (by decide) (hts _ mw_239) (fun _ h9 => h9) rfl d_Wr_placeDirectories_15 ?_
    refine lv_iload hx hb d_Wr_placeDirectories_18 (lv_at hl 4 rfl) ?_
    obtain ⟨g_12, F_v_3, c_13⟩ := TI_ord hT c_4
    obtain ⟨a_14, e_15, T_16⟩ := c_13 i9.toNatClampNeg (iCl (by omega) (by omega))
    refine hm_aald (v := .ref a_14) hx hb hK hH 4 F_v_3 (C := R_No) rfl (iIn (by omega) (by omega)) (by rw [e_15]; rfl) d_Wr_placeDirectories_20 ?_
    obtain ⟨v_17, v_18, v_20, v_22, v_23, v_25, v_26, v_27, v_29, v_30, v_31, F_a_14, c_19, c_21, c_24, c_28⟩ := TI_node hT T_16
    refine hm_get (ci := 1) (v := .int v_20) (C := R_No) (T := F_No) (N := 11) hx hb hts ig_No hown hK hH F_a_14 rfl 2 (by decide) (hts _ mw_240) (fun _ h9 => h9) rfl d_Wr_placeDirectories_21 ?_
    refine lv_if_eq (tgt := 43) hx hb d_Wr_placeDirectories_24 (by decide) (fun hc_32 => ?_) (fun hc_32 => ?_)
    · skip
      have ic_33 : v_20.toInt = 0 := congrArg Int32.toInt hc_32
      obtain ⟨j_34, e_35⟩ : ∃ z : Int32, z = i9 + 1 := ⟨_, rfl⟩
      refine lv_iinc (v := j_34) (lv' := [(4, .int j_34), (0, .ref w9), (1, .ref P9), (2, .int a9), (3, .int dc9)]) hx hb d_Wr_placeDirectories_43 hl (k := 4) rfl e_35.symm (by decide) rfl (fun ls hl => ?_)
      refine lv_goto (tgt := 5) hx hb d_Wr_placeDirectories_46 (by decide) ?_
      have is_36 : j_34.toInt = i9.toInt + 1 := by rw [e_35]; exact iAddK 1 rfl (by omega) (by omega)
      exact ih5 (mU j_34) ls _ locs _ (by rw [hk5]; exact mU_lt (by omega)) ⟨dc9, j_34, rfl, (lv_sub hl [1, 2, 3, 4, 0] rfl), hH, hz, hLo, hT, hkf, hnp_f, (by omega)⟩
    · skip
      refine lv_aload_n hx hb d_Wr_placeDirectories_27 rfl (lv_at hl 1 rfl) ?_
      refine hm_get (ci := 2) (v := .ref v_3) (C := R_Ns) (T := F_Ns) (N := 4) hx hb hts ig_Ns hown hK hH F_P9 rfl 1 (by decide) (hts _ mw_239) (fun _ h9 => h9) rfl d_Wr_placeDirectories_28 ?_
      refine lv_iload hx hb d_Wr_placeDirectories_31 (lv_at hl 4 rfl) ?_
      refine hm_aald (v := .ref a_14) hx hb hK hH 4 F_v_3 (C := R_No) rfl (iIn (by omega) (by omega)) (by rw [e_15]; rfl) d_Wr_placeDirectories_33 ?_
      refine lv_iload_n hx hb d_Wr_placeDirectories_34 rfl (lv_at hl 2 rfl) ?_
      refine lv_iload_n hx hb d_Wr_placeDirectories_35 rfl (lv_at hl 3 rfl) ?_
      refine lv_iadd hx hb d_Wr_placeDirectories_36 ?_
      refine lv_topi (fun v_37 e_38 => ?_)
      refine hm_put (ci := 1) (v := .int v_37) (ty := .int) (C := R_No) (T := F_No) (N := 11) hx hb hts ig_No t_No tk_No nm_No hown hK hH hLo F_a_14 rfl 9 (by decide) (hts _ mw_241) (fun _ h9 => h9) rfl (by decide +kernel) rfl rfl (Nat.le_of_ble_eq_true rfl) d_Wr_placeDirectories_37 (fun H_39 locs hH z_40 hLo => ?_)
      have hz : s.heap.size ≤ H_39.size := by rw [z_40]; exact hz
      obtain ⟨h_41, e_42⟩ : ∃ z, z = hu hh5 a_14 (.inr (1, [.int v_17, va_rf v_18, .int v_20, .long v_22, .int v_23, .int v_25, .int v_26, .int v_27, .int v_29, .int v_37, .int v_31])) := ⟨_, rfl⟩
      have hH : hm D vwCl G h_41 H_39 := by rw [e_42]; exact hH
      have F_P9 : h_41 P9 = some (.inr (2, [.ref v_1, .ref v_3, .int v_5, .int v_7])) := by rw [e_42, hu_n (tne T_P9 T_16 (by decide))]; exact F_P9
      have F_v_3 : h_41 v_3 = some (.inl ((t 4), 30, .inr (.inr (.inr (.inr g_12))))) := by rw [e_42, hu_n (tne c_4 T_16 (by decide))]; exact F_v_3
      have hOld := F_a_14
      have F_a_14 : h_41 a_14 = some (.inr (1, [.int v_17, va_rf v_18, .int v_20, .long v_22, .int v_23, .int v_25, .int v_26, .int v_27, .int v_29, .int v_37, .int v_31])) := by rw [e_42]; exact hu_s _ _ _
      have hT : TI τ t n h_41 := by rw [e_42]; exact TI_put hT T_16 (by decide) ⟨v_17, v_18, v_20, v_22, v_23, v_25, v_26, v_27, v_29, v_37, v_31, rfl, c_19, c_21, c_24, c_28⟩
      have hkf : kf τ [(10, f)] [] h h_41 := by rw [e_42]; exact kf_put hkf T_16 List.mem_cons_self
      have hnp_f : knp τ f h h_41 := by rw [e_42]; exact knp_put hnp_f hOld
      obtain ⟨j_43, e_44⟩ : ∃ z : Int32, z = dc9 + 1 := ⟨_, rfl⟩
      refine lv_iinc (v := j_43) (lv' := [(3, .int j_43), (0, .ref w9), (1, .ref P9), (2, .int a9), (4, .int i9)]) hx hb d_Wr_placeDirectories_40 hl (k := 3) rfl e_44.symm (by decide) rfl (fun ls hl => ?_)
      obtain ⟨j_45, e_46⟩ : ∃ z : Int32, z = i9 + 1 := ⟨_, rfl⟩
      refine lv_iinc (v := j_45) (lv' := [(4, .int j_45), (3, .int j_43), (0, .ref w9), (1, .ref P9), (2, .int a9)]) hx hb d_Wr_placeDirectories_43 hl (k := 4) rfl e_46.symm (by decide) rfl (fun ls hl => ?_)
      refine lv_goto (tgt := 5) hx hb d_Wr_placeDirectories_46 (by decide) ?_
      have is_47 : j_45.toInt = i9.toInt + 1 := by rw [e_46]; exact iAddK 1 rfl (by omega) (by omega)
      exact ih5 (mU j_45) ls _ locs _ (by rw [hk5]; exact mU_lt (by omega)) ⟨j_43, j_45, rfl, (lv_sub hl [2, 3, 4, 1, 0] rfl), hH, hz, hLo, hT, hkf, hnp_f, (by omega)⟩

set_option maxHeartbeats 4000000 in
set_option maxRecDepth 100000 in
theorem t_take (l : Launch) (D : va_G) (t : Nat → ClassId) (G : hG) (ak av : Nat → Nat) (h : hM) (τ : tM) (n : Nat) (s9 : Nat) (b9 : Nat) (hn : n ≤ 200) (hT : TI τ t n h) (T_s9 : τ s9 = (13, 0)) (T_b9 : τ b9 = (5, 0)) (L : List Nat) (B : Nat) (hL : ∀ a ∈ L, τ a = (13, 0)) (hL2 : ∀ a, τ a = (13, 0) → a ∈ L) (hB : nl L h ≤ B) : MetD l y_Se_take (.code y_Se_take b_Se_take 2 none :: lw_g) { frames := 1, cells := B, slots := 2048 * B, locals := 80 } (hP (kE D t G ak av) D vwCl G h [.ref s9, .ref b9]) (fun kk nn => hQv D vwCl G (fun h' => nn = 2048 * kk ∧ kk + nl L h' ≤ nl L h ∧ TI τ t n h' ∧ kf τ [(13, 0)] [] h h')) G.P := by
  refine MetD.ofW (cc := b_Se_take) (maxL := 2) (ret := none) (by decide) rfl ?_
  intro p e s m args below meth c s₁ Bd hml hv
  obtain ⟨ha, hE, hH⟩ := hv
  have hx := Bd.exec
  have hb := Bd.bytes
  have hr := Bd.returns
  have hts : ∀ w ∈ lw_g, w.before args s = true := fun w hw => atoms_spec (ws := (.code y_Se_take b_Se_take 2 none :: lw_g)) Bd.pre w (List.mem_cons_of_mem _ hw)
  have hown : s.vm.findClass R_Se = some m.cls := findClass_of_methodNamed Bd.named
  have hlocks := Bd.notSynchronized
  have hK := hE.1
  have hH0 := hH
  have hLo : hLc G.P [] := hLc_nil
  have hz : s.heap.size ≤ s.heap.size := Nat.le_refl _
  have hl := lv_entry [.ref s9, .ref b9] (n := 2) (Nat.le_of_ble_eq_true rfl)
  rw [show entryFrame m args 2 = F0 m 0 ((lg_sl [.ref s9, .ref b9] ++ List.replicate (2 - (lg_sl [.ref s9, .ref b9]).length) Slot.unset).toArray) [] from (by rw [ha]; exact lg_entry_eq m [.ref s9, .ref b9] 2)]
  generalize (lg_sl [.ref s9, .ref b9] ++ List.replicate (2 - (lg_sl [.ref s9, .ref b9]).length) Slot.unset).toArray = ls at hl ⊢
  have hl : lv_has ls 2 [(0, .ref s9), (1, .ref b9)] := hl
  have hkf : kf τ [(13, 0)] [] h h := kf_rf
  have hnl : 0 + nl L h ≤ nl L h := Nat.le_of_eq (Nat.zero_add _)
  have hnl : nlp τ h h := nlp_rf
  obtain ⟨v_1, v_2, v_4, F_s9, c_3, c_5⟩ := TI_sec hT T_s9
  have O_s9 := F_s9
  refine lv_aload_n hx hb d_Se_take_0 rfl (lv_at hl 0 rfl) ?_
  refine hm_get (ci := 6) (v := va_rf v_4) (C := R_Se) (T := F_Se) (N := 3) hx hb hts ig_Se hown hK hH F_s9 rfl 2 (by decide) (hts _ mw_242) (fun _ h9 => h9) rfl d_Se_take_1 ?_
  rcases v_4 with _ | q_6
  · skip
    refine lv_ifnonnullN hx hb d_Se_take_4 ?_
    refine lv_aload_n hx hb d_Se_take_7 rfl (lv_at hl 0 rfl) ?_
    refine lv_sipush (v := 2048) hx hb d_Se_take_8 (by decide) ?_
    have hB1 : 1 ≤ B := Nat.le_trans (nl_pos (hL2 s9 T_s9) ⟨_, _, O_s9⟩) hB
    refine hm_newa (atype := .byte) (ty := .byte) (N' := 2048) (a0 := (2048, .inl (fun _ => 0))) hx hb (hts _ mw_243) rfl hK hH 0 (cA := (t 0)) rfl (hK.2 0 _ rfl).2 (fun _ => rfl) (by decide) rfl (by decide) (show 0 + 1 ≤ B by omega) (show 0 + 2048 ≤ 2048 * B by omega) d_Se_take_11 (fun q_9 H_8 hq_10 hn_11 hH z_12 => ?_)
    have hz : s.heap.size ≤ H_8.size := by rw [z_12]; exact Nat.le_succ_of_le hz
    obtain ⟨h_13, e_14⟩ : ∃ z, z = hu h q_9 (.inl ((t 0), 2048, .inl (fun _ => 0))) := ⟨_, rfl⟩
    have hH : hm D vwCl G h_13 H_8 := by rw [e_14]; exact hH
    have u_15 : (τ q_9).1 = 0 := TI_tag0 hT hn_11
    have F_s9 : h_13 s9 = some (.inr (6, [.int v_1, .int v_2, .null])) := by rw [e_14, hu_n (h_nf hn_11 F_s9)]; exact F_s9
    have F_q_9 : h_13 q_9 = some (.inl ((t 0), 2048, .inl (fun _ => 0))) := by rw [e_14]; exact hu_s _ _ _
    have hT : TI τ t n h_13 := by rw [e_14]; exact TI_new hT hn_11
    have hkf : kf τ [(13, 0)] [] h h_13 := by rw [e_14]; exact kf_putU hkf u_15
    have hnl : nlp τ h h_13 := by rw [e_14]; exact nlp_put2 hnl (fun z => by have := u_15; rw [z] at this; cases this)
    have c_16 : ∀ q, none = some q → isB τ t h_13 q := fun q hq => by rw [e_14]; exact isB_new hn_11 (c_5 q hq)
    have c_17 : ∀ q, some q_9 = some q → isB τ t h_13 q := fun _ h9 => by cases h9; exact ⟨u_15, _, fit0, F_q_9⟩
    refine hm_put (ci := 6) (v := .ref q_9) (ty := (.array .byte)) (C := R_Se) (T := F_Se) (N := 3) hx hb hts ig_Se t_Se tk_Se nm_Se hown hK hH hLo F_s9 rfl 2 (by decide) (hts _ mw_242) (fun _ h9 => h9) rfl (by decide +kernel) rfl rfl (Nat.le_of_ble_eq_true rfl) d_Se_take_13 (fun H_18 locs hH z_19 hLo => ?_)
    have hz : s.heap.size ≤ H_18.size := by rw [z_19]; exact hz
    obtain ⟨h_20, e_21⟩ : ∃ z, z = hu h_13 s9 (.inr (6, [.int v_1, .int v_2, .ref q_9])) := ⟨_, rfl⟩
    have hH : hm D vwCl G h_20 H_18 := by rw [e_21]; exact hH
    have F_q_9 : h_20 q_9 = some (.inl ((t 0), 2048, .inl (fun _ => 0))) := by rw [e_21, hu_n (Ne.symm (tne0 T_s9 (by decide) u_15))]; exact F_q_9
    have hOld := F_s9
    have F_s9 : h_20 s9 = some (.inr (6, [.int v_1, .int v_2, .ref q_9])) := by rw [e_21]; exact hu_s _ _ _
    have hT : TI τ t n h_20 := by rw [e_21]; exact TI_put hT T_s9 (by decide) ⟨v_1, v_2, some q_9, rfl, c_3, c_17⟩
    have hkf : kf τ [(13, 0)] [] h h_20 := by rw [e_21]; exact kf_put hkf T_s9 List.mem_cons_self
    have c_22 : ∀ q, (some q_9) = some q → isB τ t h_20 q := fun q hq => by rw [e_21]; exact isB_put (by rw [T_s9]; exact Nat.succ_ne_zero _) (c_17 q hq)
    have hnl : nlp τ h h_20 := by rw [e_21]; exact nlp_put3 hnl
    refine lv_aload_n hx hb d_Se_take_16 rfl (lv_at hl 1 rfl) ?_
    refine lv_iconst (v := 0) hx hb d_Se_take_17 (by decide) ?_
    refine lv_aload_n hx hb d_Se_take_18 rfl (lv_at hl 0 rfl) ?_
    refine hm_get (ci := 6) (v := .ref q_9) (C := R_Se) (T := F_Se) (N := 3) hx hb hts ig_Se hown hK hH F_s9 rfl 2 (by decide) (hts _ mw_242) (fun _ h9 => h9) rfl d_Se_take_19 ?_
    refine lv_iconst (v := 0) hx hb d_Se_take_22 (by decide) ?_
    refine lv_aload_n hx hb d_Se_take_23 rfl (lv_at hl 1 rfl) ?_
    obtain ⟨g_23, F_b9, c_24⟩ := TI_byts hT T_b9
    have iln_25 : (nI (pgn 0)).toInt = ((pgn 0) : Nat) := nI_toInt (pgn_lt _)
    refine hm_alen (v := nI (pgn 0)) hx hb hK hH 0 F_b9 (ty := .byte) rfl rfl d_Se_take_24 ?_
    refine lv_aload_n hx hb d_Se_take_25 rfl (lv_at hl 0 rfl) ?_
    refine hm_get (ci := 6) (v := .ref q_9) (C := R_Se) (T := F_Se) (N := 3) hx hb hts ig_Se hown hK hH F_s9 rfl 2 (by decide) (hts _ mw_242) (fun _ h9 => h9) rfl d_Se_take_26 ?_
    refine hm_alen (v := 2048) hx hb hK hH 0 F_q_9 (ty := .byte) rfl (show Int32.ofNat 2048 = 2048 by decide) d_Se_take_29 ?_
    refine va_mmin (x := nI (pgn 0)) (y := 2048) hx hb (hml.trans hl.1.symm) hown (hts _ mw_244) (hts _ mw_207) (hts _ mw_149) (hts _ mw_208) (Nat.le_of_ble_eq_true rfl) (Nat.le_of_ble_eq_true rfl) (show (0 + 1) ≤ B by omega) (show (0 + 2048) ≤ 2048 * B by omega) d_Se_take_30 ?_
    refine lv_topi (fun v_26 e_27 => ?_)
    refine hm_copyb hx hb (hml.trans hl.1.symm) hown (hts _ mw_245) (hts _ mw_203) (hts _ mw_204) (hts _ mw_205) hK hH hLo 0 F_b9 F_q_9 rfl 2048 e_27 (by decide) (by decide) (by decide) c_24 (Nat.le_of_ble_eq_true rfl) (Nat.le_of_ble_eq_true rfl) d_Se_take_33 (fun H_28 locs hH z_29 hLo => ?_)
    have hz : s.heap.size ≤ H_28.size := by rw [z_29]; exact hz
    obtain ⟨h_30, e_31⟩ : ∃ z, z = hu h_20 q_9 (.inl ((t 0), 2048, .inl (va_cpy g_23 (fun _ => 0) 0 0 2048))) := ⟨_, rfl⟩
    have hH : hm D vwCl G h_30 H_28 := by rw [e_31]; exact hH
    have F_s9 : h_30 s9 = some (.inr (6, [.int v_1, .int v_2, .ref q_9])) := by rw [e_31, hu_n (tne0 T_s9 (by decide) u_15)]; exact F_s9
    have F_b9 : h_30 b9 = some (.inl ((t 0), (pgn 0), .inl g_23)) := by rw [e_31, hu_n (tne0 T_b9 (by decide) u_15)]; exact F_b9
    have hOld := F_q_9
    have F_q_9 : h_30 q_9 = some (.inl ((t 0), 2048, .inl (va_cpy g_23 (fun _ => 0) 0 0 2048))) := by rw [e_31]; exact hu_s _ _ _
    have hT : TI τ t n h_30 := by rw [e_31]; exact TI_putU hT u_15 (fitCp9 c_24 fit0)
    have hkf : kf τ [(13, 0)] [] h h_30 := by rw [e_31]; exact kf_putU hkf u_15
    have c_32 : ∀ q, (some q_9) = some q → isB τ t h_30 q := fun q hq => by rw [e_31]; exact isB_putU u_15 (fitCp9 c_24 fit0) (c_22 q hq)
    have hnl : nlp τ h h_30 := by rw [e_31]; exact nlp_put2 hnl (fun z => by have := u_15; rw [z] at this; cases this)
    refine lv_aload_n hx hb d_Se_take_36 rfl (lv_at hl 0 rfl) ?_
    refine lv_iconst (v := 1) hx hb d_Se_take_37 (by decide) ?_
    refine hm_put (ci := 6) (v := .int 1) (ty := .int) (C := R_Se) (T := F_Se) (N := 3) hx hb hts ig_Se t_Se tk_Se nm_Se hown hK hH hLo F_s9 rfl 0 (by decide) (hts _ mw_223) (fun _ h9 => h9) rfl (by decide +kernel) rfl rfl (Nat.le_of_ble_eq_true rfl) d_Se_take_38 (fun H_33 locs hH z_34 hLo => ?_)
    have hz : s.heap.size ≤ H_33.size := by rw [z_34]; exact hz
    obtain ⟨h_35, e_36⟩ : ∃ z, z = hu h_30 s9 (.inr (6, [.int 1, .int v_2, .ref q_9])) := ⟨_, rfl⟩
    have hH : hm D vwCl G h_35 H_33 := by rw [e_36]; exact hH
    have F_q_9 : h_35 q_9 = some (.inl ((t 0), 2048, .inl (va_cpy g_23 (fun _ => 0) 0 0 2048))) := by rw [e_36, hu_n (Ne.symm (tne0 T_s9 (by decide) u_15))]; exact F_q_9
    have F_b9 : h_35 b9 = some (.inl ((t 0), (pgn 0), .inl g_23)) := by rw [e_36, hu_n (tne T_b9 T_s9 (by decide))]; exact F_b9
    have hOld := F_s9
    have F_s9 : h_35 s9 = some (.inr (6, [.int 1, .int v_2, .ref q_9])) := by rw [e_36]; exact hu_s _ _ _
    have hT : TI τ t n h_35 := by rw [e_36]; exact TI_put hT T_s9 (by decide) ⟨1, v_2, some q_9, rfl, c_3, c_32⟩
    have hkf : kf τ [(13, 0)] [] h h_35 := by rw [e_36]; exact kf_put hkf T_s9 List.mem_cons_self
    have c_37 : ∀ q, (some q_9) = some q → isB τ t h_35 q := fun q hq => by rw [e_36]; exact isB_put (by rw [T_s9]; exact Nat.succ_ne_zero _) (c_32 q hq)
    have hnl : nlp τ h h_35 := by rw [e_36]; exact nlp_put3 hnl
    have hcn : 1 + nl L h_35 ≤ nl L h := by
      have := nl_take hL hnl (hL2 s9 T_s9) ⟨_, _, O_s9⟩ (nul_ref F_s9)
      omega
    refine W.toD ?_
    exact W.vret hx hb hr (fun t9 ht hW => ⟨h_35, rfl, ⟨(by omega), hcn, hT, hkf⟩, by rw [ht]; exact hH, by rw [ht]; exact hz⟩) hLo d_Se_take_41
  · skip
    have T_7 := c_5 q_6 rfl
    refine lv_ifnonnull (tgt := 16) hx hb d_Se_take_4 (by decide) ?_
    refine lv_aload_n hx hb d_Se_take_16 rfl (lv_at hl 1 rfl) ?_
    refine lv_iconst (v := 0) hx hb d_Se_take_17 (by decide) ?_
    refine lv_aload_n hx hb d_Se_take_18 rfl (lv_at hl 0 rfl) ?_
    refine hm_get (ci := 6) (v := .ref q_6) (C := R_Se) (T := F_Se) (N := 3) hx hb hts ig_Se hown hK hH F_s9 rfl 2 (by decide) (hts _ mw_242) (fun _ h9 => h9) rfl d_Se_take_19 ?_
    refine lv_iconst (v := 0) hx hb d_Se_take_22 (by decide) ?_
    refine lv_aload_n hx hb d_Se_take_23 rfl (lv_at hl 1 rfl) ?_
    obtain ⟨g_38, F_b9, c_39⟩ := TI_byts hT T_b9
    have iln_40 : (nI (pgn 0)).toInt = ((pgn 0) : Nat) := nI_toInt (pgn_lt _)
    refine hm_alen (v := nI (pgn 0)) hx hb hK hH 0 F_b9 (ty := .byte) rfl rfl d_Se_take_24 ?_
    refine lv_aload_n hx hb d_Se_take_25 rfl (lv_at hl 0 rfl) ?_
    refine hm_get (ci := 6) (v := .ref q_6) (C := R_Se) (T := F_Se) (N := 3) hx hb hts ig_Se hown hK hH F_s9 rfl 2 (by decide) (hts _ mw_242) (fun _ h9 => h9) rfl d_Se_take_26 ?_
    obtain ⟨u_42, g_41, u_43, F_q_6⟩ := T_7
    refine hm_alen (v := 2048) hx hb hK hH 0 F_q_6 (ty := .byte) rfl (show Int32.ofNat 2048 = 2048 by decide) d_Se_take_29 ?_
    refine va_mmin (x := nI (pgn 0)) (y := 2048) hx hb (hml.trans hl.1.symm) hown (hts _ mw_244) (hts _ mw_207) (hts _ mw_149) (hts _ mw_208) (Nat.le_of_ble_eq_true rfl) (Nat.le_of_ble_eq_true rfl) (show 0 ≤ B by omega) (show 0 ≤ 2048 * B by omega) d_Se_take_30 ?_
    refine lv_topi (fun v_44 e_45 => ?_)
    refine hm_copyb hx hb (hml.trans hl.1.symm) hown (hts _ mw_245) (hts _ mw_203) (hts _ mw_204) (hts _ mw_205) hK hH hLo 0 F_b9 F_q_6 rfl 2048 e_45 (by decide) (by decide) (by decide) c_39 (Nat.le_of_ble_eq_true rfl) (Nat.le_of_ble_eq_true rfl) d_Se_take_33 (fun H_46 locs hH z_47 hLo => ?_)
    have hz : s.heap.size ≤ H_46.size := by rw [z_47]; exact hz
    obtain ⟨h_48, e_49⟩ : ∃ z, z = hu h q_6 (.inl ((t 0), 2048, .inl (va_cpy g_38 g_41 0 0 2048))) := ⟨_, rfl⟩
    have hH : hm D vwCl G h_48 H_46 := by rw [e_49]; exact hH
    have F_s9 : h_48 s9 = some (.inr (6, [.int v_1, .int v_2, .ref q_6])) := by rw [e_49, hu_n (tne0 T_s9 (by decide) u_42)]; exact F_s9
    have F_b9 : h_48 b9 = some (.inl ((t 0), (pgn 0), .inl g_38)) := by rw [e_49, hu_n (tne0 T_b9 (by decide) u_42)]; exact F_b9
    have hOld := F_q_6
    have F_q_6 : h_48 q_6 = some (.inl ((t 0), 2048, .inl (va_cpy g_38 g_41 0 0 2048))) := by rw [e_49]; exact hu_s _ _ _
    have hT : TI τ t n h_48 := by rw [e_49]; exact TI_putU hT u_42 (fitCp9 c_39 u_43)
    have hkf : kf τ [(13, 0)] [] h h_48 := by rw [e_49]; exact kf_putU hkf u_42
    have c_50 : ∀ q, (some q_6) = some q → isB τ t h_48 q := fun q hq => by rw [e_49]; exact isB_putU u_42 (fitCp9 c_39 u_43) (c_5 q hq)
    have hnl : nlp τ h h_48 := by rw [e_49]; exact nlp_put2 hnl (fun z => by have := u_42; rw [z] at this; cases this)
    refine lv_aload_n hx hb d_Se_take_36 rfl (lv_at hl 0 rfl) ?_
    refine lv_iconst (v := 1) hx hb d_Se_take_37 (by decide) ?_
    refine hm_put (ci := 6) (v := .int 1) (ty := .int) (C := R_Se) (T := F_Se) (N := 3) hx hb hts ig_Se t_Se tk_Se nm_Se hown hK hH hLo F_s9 rfl 0 (by decide) (hts _ mw_223) (fun _ h9 => h9) rfl (by decide +kernel) rfl rfl (Nat.le_of_ble_eq_true rfl) d_Se_take_38 (fun H_51 locs hH z_52 hLo => ?_)
    have hz : s.heap.size ≤ H_51.size := by rw [z_52]; exact hz
    obtain ⟨h_53, e_54⟩ : ∃ z, z = hu h_48 s9 (.inr (6, [.int 1, .int v_2, .ref q_6])) := ⟨_, rfl⟩
    have hH : hm D vwCl G h_53 H_51 := by rw [e_54]; exact hH
    have F_b9 : h_53 b9 = some (.inl ((t 0), (pgn 0), .inl g_38)) := by rw [e_54, hu_n (tne T_b9 T_s9 (by decide))]; exact F_b9
    have F_q_6 : h_53 q_6 = some (.inl ((t 0), 2048, .inl (va_cpy g_38 g_41 0 0 2048))) := by rw [e_54, hu_n (Ne.symm (tne0 T_s9 (by decide) u_42))]; exact F_q_6
    have hOld := F_s9
    have F_s9 : h_53 s9 = some (.inr (6, [.int 1, .int v_2, .ref q_6])) := by rw [e_54]; exact hu_s _ _ _
    have hT : TI τ t n h_53 := by rw [e_54]; exact TI_put hT T_s9 (by decide) ⟨1, v_2, some q_6, rfl, c_3, c_50⟩
    have hkf : kf τ [(13, 0)] [] h h_53 := by rw [e_54]; exact kf_put hkf T_s9 List.mem_cons_self
    have c_55 : ∀ q, (some q_6) = some q → isB τ t h_53 q := fun q hq => by rw [e_54]; exact isB_put (by rw [T_s9]; exact Nat.succ_ne_zero _) (c_50 q hq)
    have hnl : nlp τ h h_53 := by rw [e_54]; exact nlp_put3 hnl
    have hcn : 0 + nl L h_53 ≤ nl L h := by
      have := nl_mono hL hnl
      omega
    refine W.toD ?_
    exact W.vret hx hb hr (fun t9 ht hW => ⟨h_53, rfl, ⟨(by omega), hcn, hT, hkf⟩, by rw [ht]; exact hH, by rw [ht]; exact hz⟩) hLo d_Se_take_41

set_option maxHeartbeats 4000000 in
set_option maxRecDepth 100000 in
theorem t_write (l : Launch) (D : va_G) (t : Nat → ClassId) (G : hG) (ak av : Nat → Nat) (h : hM) (τ : tM) (n : Nat) (m9 : Nat) (s9 : Int32) (b9 : Nat) (p9 : Nat) (hn : n ≤ 200) (hT : TI τ t n h) (T_m9 : τ m9 = (11, 0)) (T_b9 : τ b9 = (5, 0)) (T_p9 : τ p9 = (3, 0)) (L : List Nat) (B : Nat) (hL : ∀ a ∈ L, τ a = (13, 0)) (hL2 : ∀ a, τ a = (13, 0) → a ∈ L) (hB : nl L h ≤ B) : MetD l y_Me_write (.code y_Me_write b_Me_write 6 (some .int) :: lw_g) { frames := 2, cells := B, slots := 2048 * B, locals := 101 } (hP (kE D t G ak av) D vwCl G h [.ref m9, .int s9, .ref b9, .ref p9]) (fun kk nn => hQi D vwCl G (fun r h' => nn = 2048 * kk ∧ kk + nl L h' ≤ nl L h ∧ TI τ t n h' ∧ kf τ [(13, 0), (11, 0), (3, 0)] [] h h')) G.P := by
  refine MetD.ofW (cc := b_Me_write) (maxL := 6) (ret := (some .int)) (by decide) rfl ?_
  intro p e s m args below meth c s₁ Bd hml hv
  obtain ⟨ha, hE, hH⟩ := hv
  have hx := Bd.exec
  have hb := Bd.bytes
  have hr := Bd.returns
  have hts : ∀ w ∈ lw_g, w.before args s = true := fun w hw => atoms_spec (ws := (.code y_Me_write b_Me_write 6 (some .int) :: lw_g)) Bd.pre w (List.mem_cons_of_mem _ hw)
  have hown : s.vm.findClass R_Me = some m.cls := findClass_of_methodNamed Bd.named
  have hlocks := Bd.notSynchronized
  have hK := hE.1
  have hH0 := hH
  have hLo : hLc G.P [] := hLc_nil
  have hz : s.heap.size ≤ s.heap.size := Nat.le_refl _
  have hl := lv_entry [.ref m9, .int s9, .ref b9, .ref p9] (n := 6) (Nat.le_of_ble_eq_true rfl)
  rw [show entryFrame m args 6 = F0 m 0 ((lg_sl [.ref m9, .int s9, .ref b9, .ref p9] ++ List.replicate (6 - (lg_sl [.ref m9, .int s9, .ref b9, .ref p9]).length) Slot.unset).toArray) [] from (by rw [ha]; exact lg_entry_eq m [.ref m9, .int s9, .ref b9, .ref p9] 6)]
  generalize (lg_sl [.ref m9, .int s9, .ref b9, .ref p9] ++ List.replicate (6 - (lg_sl [.ref m9, .int s9, .ref b9, .ref p9]).length) Slot.unset).toArray = ls at hl ⊢
  have hl : lv_has ls 6 [(0, .ref m9), (1, .int s9), (2, .ref b9), (3, .ref p9)] := hl
  have hkf : kf τ [(13, 0), (11, 0), (3, 0)] [] h h := kf_rf
  have hnl : 0 + nl L h ≤ nl L h := Nat.le_of_eq (Nat.zero_add _)
  refine lv_aload_n hx hb d_Me_write_0 rfl (lv_at hl 0 rfl) ?_
  refine lv_iload_n hx hb d_Me_write_1 rfl (lv_at hl 1 rfl) ?_
  obtain ⟨v_1, v_3, F_m9, c_2⟩ := TI_med hT T_m9
  refine hm_callPi (va_runV (As := [.int s9]) (b := m9) (rest := []) ⟨hx, hb, hml, hown, hts⟩ (t_has l D t G ak av h τ n m9 s9  hn hT T_m9) ⟨cw9B 1 hts mw_230 mw_231 mw_32 rfl rfl (by decide +kernel) ⟨Nat.le_of_ble_eq_true rfl, Nat.le_of_ble_eq_true rfl⟩, hts _ mw_232, hts _ mw_233⟩ (hP_V (q := (R_Me, F_Me, 2)) kE_ok hE hK hH F_m9 rfl) rfl rfl hl.1 rfl (lv_room (Nat.le_of_ble_eq_true rfl)) d_Me_write_2 ⟨show 0 + 0 ≤ B by omega, show 0 + 0 ≤ 2048 * B by omega⟩) (fun r_4 h_5 H_6 hp_8  hH z_7 => ?_)
  have hz : s.heap.size ≤ H_6.size := Nat.le_trans hz z_7
  obtain ⟨c_9, xp_10, rfl⟩ := hp_8
  rcases xp_10 with ⟨rfl, ix9⟩ | ⟨rfl, ix9, iy9⟩
  · skip
    refine lv_if_ne (tgt := 10) hx hb d_Me_write_5 (by decide) (fun hc_11 => absurd hc_11 (by decide)) (fun hc_11 => ?_)
    refine lv_iconst (v := 2) hx hb d_Me_write_8 (by decide) ?_
    refine W.toD ?_
    exact W.iret (v := 2) hx hb hr (fun t9 ht hW => ⟨2, h, rfl, ⟨(by omega), (by omega), hT, hkf⟩, by rw [ht]; exact hH, by rw [ht]; exact hz⟩) hLo d_Me_write_9
  · skip
    refine lv_if_ne (tgt := 10) hx hb d_Me_write_5 (by decide) (fun hc_12 => ?_) (fun hc_12 => absurd hc_12 (by decide))
    refine lv_aload_n hx hb d_Me_write_10 rfl (lv_at hl 0 rfl) ?_
    refine hm_get (ci := 0) (v := .ref v_1) (C := R_Me) (T := F_Me) (N := 2) hx hb hts ig_Me hown hK hH F_m9 rfl 0 (by decide) (hts _ mw_28) (fun _ h9 => h9) rfl d_Me_write_11 ?_
    refine lv_iload_n hx hb d_Me_write_14 rfl (lv_at hl 1 rfl) ?_
    obtain ⟨g_13, F_v_1, c_14⟩ := TI_secs hT c_2
    obtain ⟨a_15, e_16, T_17⟩ := c_14 s9.toNatClampNeg (iCl (by omega) (by omega))
    refine hm_aald (v := .ref a_15) hx hb hK hH 5 F_v_1 (C := R_Se) rfl (iIn (by omega) (by omega)) (by rw [e_16]; rfl) d_Me_write_15 ?_
    refine lv_astore (lv' := [(4, .ref a_15), (0, .ref m9), (1, .int s9), (2, .ref b9), (3, .ref p9)]) hx hb d_Me_write_16 hl (by decide) rfl (fun ls hl => ?_)
    refine lv_aload_n hx hb d_Me_write_18 rfl (lv_at hl 4 rfl) ?_
    obtain ⟨v_18, v_19, v_21, F_p9, c_20⟩ := TI_pow hT T_p9
    refine hm_calli (va_runV (As := []) (b := p9) (rest := []) ⟨hx, hb, hml, hown, hts⟩ (t_lasts l D t G ak av h τ n p9  hn hT T_p9) ⟨cw9B 0 hts mw_246 mw_248 mw_247 rfl rfl (by decide +kernel) ⟨Nat.le_of_ble_eq_true rfl, Nat.le_of_ble_eq_true rfl⟩, hts _ mw_249, hts _ mw_250⟩ (hP_V (q := (R_Po, F_Po, 3)) kE_ok hE hK hH F_p9 rfl) rfl rfl hl.1 rfl (lv_room (Nat.le_of_ble_eq_true rfl)) d_Me_write_19 ⟨show 0 + 0 ≤ B by omega, show 0 + 0 ≤ 2048 * B by omega⟩) hLo (fun r_22 h_23 H_24 locs hp_26 hH z_25 hLo => ?_)
    have hz : s.heap.size ≤ H_24.size := Nat.le_trans hz z_25
    have hT0 := hT
    obtain ⟨c_27, hT, kf_29⟩ := hp_26
    have F_m9 : h_23 m9 = some (.inr (0, [.ref v_1, .int v_3])) := kf_at kf_29 T_m9 (by decide) (tnc (by decide) tn0) nm0 F_m9
    have F_v_1 : h_23 v_1 = some (.inl ((t 5), n, .inr (.inr (.inr (.inr g_13))))) := kf_at kf_29 c_2 (by decide) (tnc (by decide) tn0) nm0 F_v_1
    have hnl : 0 + nl L h_23 ≤ nl L h := Nat.le_trans (Nat.add_le_add_left (nl_mono hL (nlp_kf nlp_rf kf_29 (tnc (by decide) tn0) (List.forall_mem_nil _))) _) hnl
    have hkf : kf τ [(13, 0), (11, 0), (3, 0)] [] h h_23 := kf_tr hkf kf_29 (List.forall_mem_cons.mpr ⟨(List.mem_cons_of_mem _ (List.mem_cons_of_mem _ List.mem_cons_self)), List.forall_mem_nil _⟩) (List.forall_mem_nil _)
    refine lv_istore (lv' := [(5, .int r_22), (4, .ref a_15), (0, .ref m9), (1, .int s9), (2, .ref b9), (3, .ref p9)]) hx hb d_Me_write_22 hl (by decide) rfl (fun ls hl => ?_)
    refine lv_aload_n hx hb d_Me_write_24 rfl (lv_at hl 2 rfl) ?_
    refine lv_aload_n hx hb d_Me_write_25 rfl (lv_at hl 2 rfl) ?_
    refine hm_get (ci := 0) (v := .int v_3) (C := R_Me) (T := F_Me) (N := 2) hx hb hts ig_Me hown hK hH F_m9 rfl 1 (by decide) (hts _ mw_64) (fun _ h9 => h9) rfl d_Me_write_26 ?_
    refine lv_iload_n hx hb d_Me_write_29 rfl (lv_at hl 3 rfl) ?_
    refine lv_iconst (v := 1) hx hb d_Me_write_30 (by decide) ?_
    refine lv_iadd hx hb d_Me_write_31 ?_
    refine va_mmax (x := v_3) (y := s9 + 1) hx hb (hml.trans hl.1.symm) hown (hts _ mw_251) (hts _ mw_148) (hts _ mw_149) (hts _ mw_150) (Nat.le_of_ble_eq_true rfl) (Nat.le_of_ble_eq_true rfl) (show 0 ≤ B by omega) (show 0 ≤ 2048 * B by omega) d_Me_write_32 ?_
    refine lv_topi (fun v_30 e_31 => ?_)
    refine hm_put (ci := 0) (v := .int v_30) (ty := .int) (C := R_Me) (T := F_Me) (N := 2) hx hb hts ig_Me t_Me tk_Me nm_Me hown hK hH hLo F_m9 rfl 1 (by decide) (hts _ mw_64) (fun _ h9 => h9) rfl (by decide +kernel) rfl rfl (Nat.le_of_ble_eq_true rfl) d_Me_write_35 (fun H_32 locs hH z_33 hLo => ?_)
    have hz : s.heap.size ≤ H_32.size := by rw [z_33]; exact hz
    obtain ⟨h_34, e_35⟩ : ∃ z, z = hu h_23 m9 (.inr (0, [.ref v_1, .int v_30])) := ⟨_, rfl⟩
    have hH : hm D vwCl G h_34 H_32 := by rw [e_35]; exact hH
    have F_v_1 : h_34 v_1 = some (.inl ((t 5), n, .inr (.inr (.inr (.inr g_13))))) := by rw [e_35, hu_n (tne c_2 T_m9 (by decide))]; exact F_v_1
    have hOld := F_m9
    have F_m9 : h_34 m9 = some (.inr (0, [.ref v_1, .int v_30])) := by rw [e_35]; exact hu_s _ _ _
    have hT : TI τ t n h_34 := by rw [e_35]; exact TI_put hT T_m9 (by decide) ⟨v_1, v_30, rfl, c_2⟩
    have hkf : kf τ [(13, 0), (11, 0), (3, 0)] [] h h_34 := by rw [e_35]; exact kf_put hkf T_m9 (List.mem_cons_of_mem _ List.mem_cons_self)
    have hnl : 0 + nl L h_34 ≤ nl L h := Nat.le_trans (Nat.add_le_add_left (nl_mono hL (by rw [e_35]; exact nlp_put2 nlp_rf (fun z => by have := z.symm.trans T_m9; simp at this))) _) hnl
    refine hm_cutC (α := Unit) (fun un9 ls H locs HH cs ss => ∃ (kq66 : Nat), (cs = kq66) ∧ (ss = 2048 * kq66) ∧ (lv_has ls 6 [(0, .ref m9), (1, .int s9), (2, .ref b9), (3, .ref p9), (4, .ref a_15), (5, .int r_22)]) ∧ (hm D vwCl G HH H) ∧ (s.heap.size ≤ H.size) ∧ (hLc G.P locs) ∧ (TI τ t n HH) ∧ (kf τ [(13, 0), (11, 0), (3, 0)] [] h HH) ∧ (kq66 + nl L HH ≤ nl L h)) 66 (fun un9 => []) ?_ (fun J66 => ?_)
    · skip
      rintro un9 ls H locs HH cs ss ⟨kq66, rfl, rfl, hl, hH, hz, hLo, hT, hkf, hnl⟩
      refine lv_iload hx hb d_Me_write_66 (lv_at hl 5 rfl) ?_
      refine lv_if_eq (tgt := 79) hx hb d_Me_write_68 (by decide) (fun hc_36 => ?_) (fun hc_36 => ?_)
      · skip
        have ic_37 : r_22.toInt = 0 := congrArg Int32.toInt hc_36
        refine lv_bipush (v := -4) hx hb d_Me_write_79 (by decide) ?_
        refine W.toD ?_
        exact W.iret (v := (-4)) hx hb hr (fun t9 ht hW => ⟨(-4), HH, rfl, ⟨(by omega), (by omega), hT, hkf⟩, by rw [ht]; exact hH, by rw [ht]; exact hz⟩) hLo d_Me_write_81
      · skip
        refine lv_aload hx hb d_Me_write_71 (lv_at hl 4 rfl) ?_
        obtain ⟨v_38, v_39, v_41, F_a_15, c_40, c_42⟩ := TI_sec hT T_17
        refine hm_get (ci := 6) (v := .int v_38) (C := R_Se) (T := F_Se) (N := 3) hx hb hts ig_Se hown hK hH F_a_15 rfl 0 (by decide) (hts _ mw_29) (fun _ h9 => h9) rfl d_Me_write_73 ?_
        refine lv_goto (tgt := 81) hx hb d_Me_write_76 (by decide) ?_
        refine W.toD ?_
        exact W.iret (v := v_38) hx hb hr (fun t9 ht hW => ⟨v_38, HH, rfl, ⟨(by omega), (by omega), hT, hkf⟩, by rw [ht]; exact hH, by rw [ht]; exact hz⟩) hLo d_Me_write_81
    · skip
      refine lv_iload hx hb d_Me_write_38 (lv_at hl 0 rfl) ?_
      refine lv_if_eq (tgt := 60) hx hb d_Me_write_40 (by decide) (fun hc_43 => ?_) (fun hc_43 => ?_)
      · skip
        have ic_44 : r_22.toInt = 0 := congrArg Int32.toInt hc_43
        refine lv_aload hx hb d_Me_write_60 (lv_at hl 1 rfl) ?_
        refine lv_iconst (v := 2) hx hb d_Me_write_62 (by decide) ?_
        obtain ⟨v_45, v_46, v_48, F_a_15, c_47, c_49⟩ := TI_sec hT T_17
        refine hm_put (ci := 6) (v := .int 2) (ty := .int) (C := R_Se) (T := F_Se) (N := 3) hx hb hts ig_Se t_Se tk_Se nm_Se hown hK hH hLo F_a_15 rfl 0 (by decide) (hts _ mw_29) (fun _ h9 => h9) rfl (by decide +kernel) rfl rfl (Nat.le_of_ble_eq_true rfl) d_Me_write_63 (fun H_50 locs hH z_51 hLo => ?_)
        have hz : s.heap.size ≤ H_50.size := by rw [z_51]; exact hz
        obtain ⟨h_52, e_53⟩ : ∃ z, z = hu h_34 a_15 (.inr (6, [.int 2, .int v_46, va_rf v_48])) := ⟨_, rfl⟩
        have hH : hm D vwCl G h_52 H_50 := by rw [e_53]; exact hH
        have F_m9 : h_52 m9 = some (.inr (0, [.ref v_1, .int v_30])) := by rw [e_53, hu_n (tne T_m9 T_17 (by decide))]; exact F_m9
        have F_v_1 : h_52 v_1 = some (.inl ((t 5), n, .inr (.inr (.inr (.inr g_13))))) := by rw [e_53, hu_n (tne c_2 T_17 (by decide))]; exact F_v_1
        have hOld := F_a_15
        have F_a_15 : h_52 a_15 = some (.inr (6, [.int 2, .int v_46, va_rf v_48])) := by rw [e_53]; exact hu_s _ _ _
        have hT : TI τ t n h_52 := by rw [e_53]; exact TI_put hT T_17 (by decide) ⟨2, v_46, v_48, rfl, c_47, c_49⟩
        have hkf : kf τ [(13, 0), (11, 0), (3, 0)] [] h h_52 := by rw [e_53]; exact kf_put hkf T_17 List.mem_cons_self
        have c_54 : ∀ q, v_48 = some q → isB τ t h_52 q := fun q hq => by rw [e_53]; exact isB_put (by rw [T_17]; exact Nat.succ_ne_zero _) (c_49 q hq)
        have hnl : 0 + nl L h_52 ≤ nl L h := Nat.le_trans (Nat.add_le_add_left (nl_mono hL (by rw [e_53]; exact nlp_put nlp_rf hOld)) _) hnl
        exact J66 () _ _ _ _ _ _ ⟨0, (by omega), (by omega), (lv_sub hl [2, 3, 4, 5, 1, 0] rfl), hH, hz, hLo, hT, hkf, hnl⟩
      · skip
        refine lv_aload hx hb d_Me_write_43 (lv_at hl 1 rfl) ?_
        obtain ⟨v_55, v_56, v_58, F_a_15, c_57, c_59⟩ := TI_sec hT T_17
        refine hm_get (ci := 6) (v := .int v_56) (C := R_Se) (T := F_Se) (N := 3) hx hb hts ig_Se hown hK hH F_a_15 rfl 1 (by decide) (hts _ mw_234) (fun _ h9 => h9) rfl d_Me_write_45 ?_
        refine lv_if_ne (tgt := 60) hx hb d_Me_write_48 (by decide) (fun hc_60 => ?_) (fun hc_60 => ?_)
        · skip
          refine lv_aload hx hb d_Me_write_60 (lv_at hl 1 rfl) ?_
          refine lv_iconst (v := 2) hx hb d_Me_write_62 (by decide) ?_
          refine hm_put (ci := 6) (v := .int 2) (ty := .int) (C := R_Se) (T := F_Se) (N := 3) hx hb hts ig_Se t_Se tk_Se nm_Se hown hK hH hLo F_a_15 rfl 0 (by decide) (hts _ mw_29) (fun _ h9 => h9) rfl (by decide +kernel) rfl rfl (Nat.le_of_ble_eq_true rfl) d_Me_write_63 (fun H_61 locs hH z_62 hLo => ?_)
          have hz : s.heap.size ≤ H_61.size := by rw [z_62]; exact hz
          obtain ⟨h_63, e_64⟩ : ∃ z, z = hu h_34 a_15 (.inr (6, [.int 2, .int v_56, va_rf v_58])) := ⟨_, rfl⟩
          have hH : hm D vwCl G h_63 H_61 := by rw [e_64]; exact hH
          have F_m9 : h_63 m9 = some (.inr (0, [.ref v_1, .int v_30])) := by rw [e_64, hu_n (tne T_m9 T_17 (by decide))]; exact F_m9
          have F_v_1 : h_63 v_1 = some (.inl ((t 5), n, .inr (.inr (.inr (.inr g_13))))) := by rw [e_64, hu_n (tne c_2 T_17 (by decide))]; exact F_v_1
          have hOld := F_a_15
          have F_a_15 : h_63 a_15 = some (.inr (6, [.int 2, .int v_56, va_rf v_58])) := by rw [e_64]; exact hu_s _ _ _
          have hT : TI τ t n h_63 := by rw [e_64]; exact TI_put hT T_17 (by decide) ⟨2, v_56, v_58, rfl, c_57, c_59⟩
          have hkf : kf τ [(13, 0), (11, 0), (3, 0)] [] h h_63 := by rw [e_64]; exact kf_put hkf T_17 List.mem_cons_self
          have c_65 : ∀ q, v_58 = some q → isB τ t h_63 q := fun q hq => by rw [e_64]; exact isB_put (by rw [T_17]; exact Nat.succ_ne_zero _) (c_59 q hq)
          have hnl : 0 + nl L h_63 ≤ nl L h := Nat.le_trans (Nat.add_le_add_left (nl_mono hL (by rw [e_64]; exact nlp_put nlp_rf hOld)) _) hnl
          exact J66 () _ _ _ _ _ _ ⟨0, (by omega), (by omega), (lv_sub hl [2, 3, 4, 5, 1, 0] rfl), hH, hz, hLo, hT, hkf, hnl⟩
        · skip
          have ic_66 : v_56.toInt = 0 := congrArg Int32.toInt hc_60
          refine lv_aload hx hb d_Me_write_51 (lv_at hl 1 rfl) ?_
          refine lv_aload_n hx hb d_Me_write_53 rfl (lv_at hl 4 rfl) ?_
          refine hm_callDv (va_runVD (As := [.ref b9]) (b := a_15) (rest := []) ⟨hx, hb, hml, hown, hts⟩ (t_take l D t G ak av h_34 τ n a_15 b9 hn hT T_17 T_b9 L (B - 0) hL hL2 (by omega)) ⟨cw9B 1 hts mw_252 mw_253 mw_226 rfl rfl (by decide +kernel) ⟨Nat.le_of_ble_eq_true rfl, Nat.le_of_ble_eq_true rfl⟩, hts _ mw_254, hts _ mw_255⟩ (hP_V (q := (R_Se, F_Se, 3)) kE_ok hE hK hH F_a_15 rfl) rfl rfl hl.1 rfl (lv_room (Nat.le_of_ble_eq_true rfl)) d_Me_write_54 ⟨show 0 + (B - 0) ≤ B by omega, show 0 + 2048 * (B - 0) ≤ 2048 * B by omega⟩) hLo (fun h_67 H_68 locs k_71 n_72 hp_70 hH z_69 hLo => ?_)
          have hz : s.heap.size ≤ H_68.size := Nat.le_trans hz z_69
          obtain ⟨rfl, hnl2, hT, kf_73⟩ := hp_70
          have F_m9 : h_67 m9 = some (.inr (0, [.ref v_1, .int v_30])) := kf_at kf_73 T_m9 (by decide) (tnc (by decide) tn0) nm0 F_m9
          have F_v_1 : h_67 v_1 = some (.inl ((t 5), n, .inr (.inr (.inr (.inr g_13))))) := kf_at kf_73 c_2 (by decide) (tnc (by decide) tn0) nm0 F_v_1
          have hnl : (0 + k_71) + nl L h_67 ≤ nl L h := by omega
          have hkf : kf τ [(13, 0), (11, 0), (3, 0)] [] h h_67 := kf_tr hkf kf_73 (List.forall_mem_cons.mpr ⟨List.mem_cons_self, List.forall_mem_nil _⟩) (List.forall_mem_nil _)
          refine lv_goto (tgt := 66) hx hb d_Me_write_57 (by decide) ?_
          exact J66 () _ _ _ _ _ _ ⟨(0 + k_71), (by omega), (by omega), (lv_sub hl [2, 3, 4, 5, 1, 0] rfl), hH, hz, hLo, hT, hkf, hnl⟩

set_option maxHeartbeats 4000000 in
set_option maxRecDepth 100000 in
theorem t_parts (l : Launch) (D : va_G) (t : Nat → ClassId) (G : hG) (ak av : Nat → Nat) (h : hM) (τ : tM) (n f : Nat) (w9 : Nat) (d9 : Nat) (c9 : Int32) (m8 : Nat) (m9 : Nat) (hn : n ≤ 200) (hT : TI τ t n h) (T_w9 : τ w9 = (2, 0)) (T_d9 : τ d9 = (10, f)) (T_m8 : τ m8 = (11, 0)) (T_m9 : τ m9 = (11, 0)) (L : List Nat) (B : Nat) (hL : ∀ a ∈ L, τ a = (13, 0)) (hL2 : ∀ a, τ a = (13, 0) → a ∈ L) (hB : nl L h ≤ B) : MetD l y_Wr_writeParts (.code y_Wr_writeParts b_Wr_writeParts 7 (some .int) :: lw_g) { frames := 3, cells := B, slots := 2048 * B, locals := 129 } (hP (kE D t G ak av) D vwCl G h [.ref w9, .ref d9, .int c9, .ref m8, .ref m9]) (fun kk nn => hQi D vwCl G (fun r h' => nn = 2048 * kk ∧ kk + nl L h' ≤ nl L h ∧ TI τ t n h' ∧ kf τ [(13, 0), (11, 0), (3, 0), (5, 0)] [] h h')) G.P := by
  refine MetD.ofW (cc := b_Wr_writeParts) (maxL := 7) (ret := (some .int)) (by decide) rfl ?_
  intro p e s m args below meth c s₁ Bd hml hv
  obtain ⟨ha, hE, hH⟩ := hv
  have hx := Bd.exec
  have hb := Bd.bytes
  have hr := Bd.returns
  have hts : ∀ w ∈ lw_g, w.before args s = true := fun w hw => atoms_spec (ws := (.code y_Wr_writeParts b_Wr_writeParts 7 (some .int) :: lw_g)) Bd.pre w (List.mem_cons_of_mem _ hw)
  have hown : s.vm.findClass R_Wr = some m.cls := findClass_of_methodNamed Bd.named
  have hlocks := Bd.notSynchronized
  have hK := hE.1
  have hH0 := hH
  have hLo : hLc G.P [] := hLc_nil
  have hz : s.heap.size ≤ s.heap.size := Nat.le_refl _
  have hl := lv_entry [.ref w9, .ref d9, .int c9, .ref m8, .ref m9] (n := 7) (Nat.le_of_ble_eq_true rfl)
  rw [show entryFrame m args 7 = F0 m 0 ((lg_sl [.ref w9, .ref d9, .int c9, .ref m8, .ref m9] ++ List.replicate (7 - (lg_sl [.ref w9, .ref d9, .int c9, .ref m8, .ref m9]).length) Slot.unset).toArray) [] from (by rw [ha]; exact lg_entry_eq m [.ref w9, .ref d9, .int c9, .ref m8, .ref m9] 7)]
  generalize (lg_sl [.ref w9, .ref d9, .int c9, .ref m8, .ref m9] ++ List.replicate (7 - (lg_sl [.ref w9, .ref d9, .int c9, .ref m8, .ref m9]).length) Slot.unset).toArray = ls at hl ⊢
  have hl : lv_has ls 7 [(0, .ref w9), (1, .ref d9), (2, .int c9), (3, .ref m8), (4, .ref m9)] := hl
  have hkf : kf τ [(13, 0), (11, 0), (3, 0), (5, 0)] [] h h := kf_rf
  have hnl : 0 + nl L h ≤ nl L h := Nat.le_of_eq (Nat.zero_add _)
  refine lv_iconst (v := 1) hx hb d_Wr_writeParts_0 (by decide) ?_
  refine lv_istore (lv' := [(5, .int 1), (0, .ref w9), (1, .ref d9), (2, .int c9), (3, .ref m8), (4, .ref m9)]) hx hb d_Wr_writeParts_1 hl (by decide) rfl (fun ls hl => ?_)
  refine lv_iconst (v := 0) hx hb d_Wr_writeParts_3 (by decide) ?_
  refine lv_istore (lv' := [(6, .int 0), (5, .int 1), (0, .ref w9), (1, .ref d9), (2, .int c9), (3, .ref m8), (4, .ref m9)]) hx hb d_Wr_writeParts_4 hl (by decide) rfl (fun ls hl => ?_)
  refine hm_loopC (fun k6 ls H locs hh6 cs ss => ∃ (oc9 : Int32) (i9 : Int32) (kc6 : Nat), k6 = mU i9 ∧ cs = kc6 ∧ ss = 2048 * kc6 ∧ lv_has ls 7 [(0, .ref w9), (1, .ref d9), (2, .int c9), (3, .ref m8), (4, .ref m9), (5, .int oc9), (6, .int i9)] ∧ hm D vwCl G hh6 H ∧ s.heap.size ≤ H.size ∧ hLc G.P locs ∧ (TI τ t n hh6) ∧ (kf τ [(13, 0), (11, 0), (3, 0), (5, 0)] [] h hh6) ∧ (kc6 + nl L hh6 ≤ nl L h) ∧ (0 ≤ i9.toInt)) ?_ (hh := h) ⟨1, 0, 0, rfl, (by omega), (by omega), (lv_sub hl [2, 3, 4, 5, 6, 1, 0] rfl), hH, hz, hLo, hT, hkf, hnl, (by decide)⟩
  rintro k6 ls H locs hh6 cs ss ⟨oc9, i9, kc6, hk6, rfl, rfl, hl, hH, hz, hLo, hT, hkf, hnl, I_i9⟩ ih6
  refine lv_iload hx hb d_Wr_writeParts_6 (lv_at hl 6 rfl) ?_
  refine lv_iload_n hx hb d_Wr_writeParts_8 rfl (lv_at hl 2 rfl) ?_
  refine lv_icmp_ge (tgt := 58) hx hb d_Wr_writeParts_9 (by decide) (fun hc_1 => ?_) (fun hc_1 => ?_)
  · skip
    have ic_2 : c9.toInt ≤ i9.toInt := iLe hc_1
    refine lv_iload hx hb d_Wr_writeParts_58 (lv_at hl 5 rfl) ?_
    refine W.toD ?_
    exact W.iret (v := oc9) hx hb hr (fun t9 ht hW => ⟨oc9, hh6, rfl, ⟨(by omega), (by omega), hT, hkf⟩, by rw [ht]; exact hH, by rw [ht]; exact hz⟩) hLo d_Wr_writeParts_60
  · skip
    have ic_3 : i9.toInt < c9.toInt := iNe hc_1
    have iu_4 : c9.toInt < 2147483648 := iUp _
    refine lv_iload hx hb d_Wr_writeParts_12 (lv_at hl 5 rfl) ?_
    refine lv_iconst (v := 1) hx hb d_Wr_writeParts_14 (by decide) ?_
    refine lv_icmp_ne (tgt := 58) hx hb d_Wr_writeParts_15 (by decide) (fun hc_5 => ?_) (fun hc_5 => ?_)
    · skip
      refine lv_iload hx hb d_Wr_writeParts_58 (lv_at hl 5 rfl) ?_
      refine W.toD ?_
      exact W.iret (v := oc9) hx hb hr (fun t9 ht hW => ⟨oc9, hh6, rfl, ⟨(by omega), (by omega), hT, hkf⟩, by rw [ht]; exact hH, by rw [ht]; exact hz⟩) hLo d_Wr_writeParts_60
    · skip
      have ic_6 : oc9.toInt = 1 := congrArg Int32.toInt hc_5
      refine lv_aload_n hx hb d_Wr_writeParts_18 rfl (lv_at hl 0 rfl) ?_
      obtain ⟨v_7, v_9, F_w9, c_8, c_10⟩ := TI_wri hT T_w9
      refine hm_get (ci := 7) (v := .ref v_9) (C := R_Wr) (T := F_Wr) (N := 2) hx hb hts ig_Wr hown hK hH F_w9 rfl 1 (by decide) (hts _ mw_256) (fun _ h9 => h9) rfl d_Wr_writeParts_19 ?_
      refine lv_aload_n hx hb d_Wr_writeParts_22 rfl (lv_at hl 1 rfl) ?_
      refine lv_iload hx hb d_Wr_writeParts_23 (lv_at hl 6 rfl) ?_
      refine lv_aload_n hx hb d_Wr_writeParts_25 rfl (lv_at hl 3 rfl) ?_
      obtain ⟨v_11, F_v_9, c_12⟩ := TI_page hT c_10
      refine hm_callv (va_runV (As := [.ref d9, .int i9, .ref m8]) (b := v_9) (rest := []) ⟨hx, hb, hml, hown, hts⟩ (t_ffile l D t G ak av hh6 τ n 0 f v_9 d9 i9 m8  hn hT c_10 T_d9 T_m8) ⟨cw9B 3 hts mw_257 mw_258 mw_77 rfl rfl (by decide +kernel) ⟨Nat.le_of_ble_eq_true rfl, Nat.le_of_ble_eq_true rfl⟩, hts _ mw_259, hts _ mw_260⟩ (hP_V (q := (R_Pg, F_Pg, 1)) kE_ok hE hK hH F_v_9 rfl) rfl rfl hl.1 rfl (lv_room (Nat.le_of_ble_eq_true rfl)) d_Wr_writeParts_26 ⟨show cs + 0 ≤ B by omega, show (2048 * cs) + 0 ≤ 2048 * B by omega⟩) hLo (fun h_13 H_14 locs hp_16 hH z_15 hLo => ?_)
      have hz : s.heap.size ≤ H_14.size := Nat.le_trans hz z_15
      have hT0 := hT
      obtain ⟨hT, kf_18⟩ := hp_16
      have F_w9 : h_13 w9 = some (.inr (7, [.ref v_7, .ref v_9])) := kf_at kf_18 T_w9 (by decide) (tnc (by decide) tn0) nm0 F_w9
      have F_v_9 : h_13 v_9 = some (.inr (3, [.ref v_11])) := kf_at kf_18 c_10 (by decide) (tnc (by decide) tn0) nm0 F_v_9
      have hnl : cs + nl L h_13 ≤ nl L h := Nat.le_trans (Nat.add_le_add_left (nl_mono hL (nlp_kf nlp_rf kf_18 (tnc (by decide) tn0) (List.forall_mem_nil _))) _) hnl
      have hkf : kf τ [(13, 0), (11, 0), (3, 0), (5, 0)] [] h h_13 := kf_tr hkf kf_18 (List.forall_mem_cons.mpr ⟨(List.mem_cons_of_mem _ (List.mem_cons_of_mem _ (List.mem_cons_of_mem _ List.mem_cons_self))), List.forall_mem_nil _⟩) (List.forall_mem_nil _)
      refine lv_aload hx hb d_Wr_writeParts_29 (lv_at hl 4 rfl) ?_
      refine lv_aload hx hb d_Wr_writeParts_31 (lv_at hl 4 rfl) ?_
      obtain ⟨v_19, v_21, F_m9, c_20⟩ := TI_med hT T_m9
      refine hm_get (ci := 0) (v := .int v_21) (C := R_Me) (T := F_Me) (N := 2) hx hb hts ig_Me hown hK hH F_m9 rfl 1 (by decide) (hts _ mw_261) (fun _ h9 => h9) rfl d_Wr_writeParts_33 ?_
      refine lv_aload_n hx hb d_Wr_writeParts_36 rfl (lv_at hl 0 rfl) ?_
      refine hm_get (ci := 7) (v := .ref v_9) (C := R_Wr) (T := F_Wr) (N := 2) hx hb hts ig_Wr hown hK hH F_w9 rfl 1 (by decide) (hts _ mw_256) (fun _ h9 => h9) rfl d_Wr_writeParts_37 ?_
      refine hm_get (ci := 3) (v := .ref v_11) (C := R_Pg) (T := F_Pg) (N := 1) hx hb hts ig_Pg hown hK hH F_v_9 rfl 0 (by decide) (hts _ mw_262) (fun _ h9 => h9) rfl d_Wr_writeParts_40 ?_
      refine lv_aload_n hx hb d_Wr_writeParts_43 rfl (lv_at hl 0 rfl) ?_
      refine hm_get (ci := 7) (v := .ref v_7) (C := R_Wr) (T := F_Wr) (N := 2) hx hb hts ig_Wr hown hK hH F_w9 rfl 0 (by decide) (hts _ mw_263) (fun _ h9 => h9) rfl d_Wr_writeParts_44 ?_
      refine hm_callDi (va_runVD (As := [.int v_21, .ref v_11, .ref v_7]) (b := m9) (rest := []) ⟨hx, hb, hml, hown, hts⟩ (t_write l D t G ak av h_13 τ n m9 v_21 v_11 v_7 hn hT T_m9 c_12 c_8 L (B - cs) hL hL2 (by omega)) ⟨cw9B 3 hts mw_264 mw_265 mw_32 rfl rfl (by decide +kernel) ⟨Nat.le_of_ble_eq_true rfl, Nat.le_of_ble_eq_true rfl⟩, hts _ mw_266, hts _ mw_267⟩ (hP_V (q := (R_Me, F_Me, 2)) kE_ok hE hK hH F_m9 rfl) rfl rfl hl.1 rfl (lv_room (Nat.le_of_ble_eq_true rfl)) d_Wr_writeParts_47 ⟨show cs + (B - cs) ≤ B by omega, show (2048 * cs) + 2048 * (B - cs) ≤ 2048 * B by omega⟩) hLo (fun r_22 h_23 H_24 locs k_27 n_28 hp_26 hH z_25 hLo => ?_)
      have hz : s.heap.size ≤ H_24.size := Nat.le_trans hz z_25
      obtain ⟨rfl, hnl2, hT, kf_29⟩ := hp_26
      have F_w9 : h_23 w9 = some (.inr (7, [.ref v_7, .ref v_9])) := kf_at kf_29 T_w9 (by decide) (tnc (by decide) (tnc (by decide) (tnc (by decide) tn0))) nm0 F_w9
      have F_v_9 : h_23 v_9 = some (.inr (3, [.ref v_11])) := kf_at kf_29 c_10 (by decide) (tnc (by decide) (tnc (by decide) (tnc (by decide) tn0))) nm0 F_v_9
      have hnl : (cs + k_27) + nl L h_23 ≤ nl L h := by omega
      have hkf : kf τ [(13, 0), (11, 0), (3, 0), (5, 0)] [] h h_23 := kf_tr hkf kf_29 (List.forall_mem_cons.mpr ⟨List.mem_cons_self, List.forall_mem_cons.mpr ⟨(List.mem_cons_of_mem _ List.mem_cons_self), List.forall_mem_cons.mpr ⟨(List.mem_cons_of_mem _ (List.mem_cons_of_mem _ List.mem_cons_self)), List.forall_mem_nil _⟩⟩⟩) (List.forall_mem_nil _)
      refine lv_istore (lv' := [(5, .int r_22), (0, .ref w9), (1, .ref d9), (2, .int c9), (3, .ref m8), (4, .ref m9), (6, .int i9)]) hx hb d_Wr_writeParts_50 hl (by decide) rfl (fun ls hl => ?_)
      obtain ⟨j_31, e_32⟩ : ∃ z : Int32, z = i9 + 1 := ⟨_, rfl⟩
      refine lv_iinc (v := j_31) (lv' := [(6, .int j_31), (5, .int r_22), (0, .ref w9), (1, .ref d9), (2, .int c9), (3, .ref m8), (4, .ref m9)]) hx hb d_Wr_writeParts_52 hl (k := 6) rfl e_32.symm (by decide) rfl (fun ls hl => ?_)
      refine lv_goto (tgt := 6) hx hb d_Wr_writeParts_55 (by decide) ?_
      have is_33 : j_31.toInt = i9.toInt + 1 := by rw [e_32]; exact iAddK 1 rfl (by omega) (by omega)
      exact ih6 (mU j_31) ls _ locs _ _ _ (by rw [hk6]; exact mU_lt (by omega)) ⟨r_22, j_31, (cs + k_27), rfl, (by omega), (by omega), (lv_sub hl [2, 3, 4, 5, 6, 1, 0] rfl), hH, hz, hLo, hT, hkf, hnl, (by omega)⟩

set_option maxHeartbeats 4000000 in
set_option maxRecDepth 100000 in
theorem t_wfile (l : Launch) (D : va_G) (t : Nat → ClassId) (G : hG) (ak av : Nat → Nat) (h : hM) (τ : tM) (n f : Nat) (w9 : Nat) (d9 : Nat) (m8 : Nat) (m9 : Nat) (hn : n ≤ 200) (hT : TI τ t n h) (T_w9 : τ w9 = (2, 0)) (T_d9 : τ d9 = (10, f)) (T_m8 : τ m8 = (11, 0)) (T_m9 : τ m9 = (11, 0)) (L : List Nat) (B : Nat) (hL : ∀ a ∈ L, τ a = (13, 0)) (hL2 : ∀ a, τ a = (13, 0) → a ∈ L) (hB : nl L h ≤ B) : MetD l y_Wr_writeFile (.code y_Wr_writeFile b_Wr_writeFile 8 (some .int) :: lw_g) { frames := 4, cells := B, slots := 2048 * B, locals := 155 } (hP (kE D t G ak av) D vwCl G h [.ref w9, .ref d9, .ref m8, .ref m9]) (fun kk nn => hQi D vwCl G (fun r h' => nn = 2048 * kk ∧ kk + nl L h' ≤ nl L h ∧ TI τ t n h' ∧ kf τ [(13, 0), (11, 0), (3, 0), (5, 0)] [] h h')) G.P := by
  refine MetD.ofW (cc := b_Wr_writeFile) (maxL := 8) (ret := (some .int)) (by decide) rfl ?_
  intro p e s m args below meth c s₁ Bd hml hv
  obtain ⟨ha, hE, hH⟩ := hv
  have hx := Bd.exec
  have hb := Bd.bytes
  have hr := Bd.returns
  have hts : ∀ w ∈ lw_g, w.before args s = true := fun w hw => atoms_spec (ws := (.code y_Wr_writeFile b_Wr_writeFile 8 (some .int) :: lw_g)) Bd.pre w (List.mem_cons_of_mem _ hw)
  have hown : s.vm.findClass R_Wr = some m.cls := findClass_of_methodNamed Bd.named
  have hlocks := Bd.notSynchronized
  have hK := hE.1
  have hH0 := hH
  have hLo : hLc G.P [] := hLc_nil
  have hz : s.heap.size ≤ s.heap.size := Nat.le_refl _
  have hl := lv_entry [.ref w9, .ref d9, .ref m8, .ref m9] (n := 8) (Nat.le_of_ble_eq_true rfl)
  rw [show entryFrame m args 8 = F0 m 0 ((lg_sl [.ref w9, .ref d9, .ref m8, .ref m9] ++ List.replicate (8 - (lg_sl [.ref w9, .ref d9, .ref m8, .ref m9]).length) Slot.unset).toArray) [] from (by rw [ha]; exact lg_entry_eq m [.ref w9, .ref d9, .ref m8, .ref m9] 8)]
  generalize (lg_sl [.ref w9, .ref d9, .ref m8, .ref m9] ++ List.replicate (8 - (lg_sl [.ref w9, .ref d9, .ref m8, .ref m9]).length) Slot.unset).toArray = ls at hl ⊢
  have hl : lv_has ls 8 [(0, .ref w9), (1, .ref d9), (2, .ref m8), (3, .ref m9)] := hl
  have hkf : kf τ [(13, 0), (11, 0), (3, 0), (5, 0)] [] h h := kf_rf
  have hnl : 0 + nl L h ≤ nl L h := Nat.le_of_eq (Nat.zero_add _)
  refine lv_aload_n hx hb d_Wr_writeFile_0 rfl (lv_at hl 1 rfl) ?_
  obtain ⟨v_1, v_2, v_4, v_6, v_7, v_9, v_10, v_11, v_13, v_14, v_15, F_d9, c_3, c_5, c_8, c_12⟩ := TI_node hT T_d9
  refine hm_get (ci := 1) (v := .int v_9) (C := R_No) (T := F_No) (N := 11) hx hb hts ig_No hown hK hH F_d9 rfl 5 (by decide) (hts _ mw_268) (fun _ h9 => h9) rfl d_Wr_writeFile_1 ?_
  refine hm_callPi (va_runSN (As := [.int v_9]) (rest := []) ⟨hx, hb, hml, hown, hts⟩ (t_secFor l D t G ak av h τ n v_9  hn hT ) ⟨cw9N 1 hts mw_99 (nmU hE nM_6) mw_25 rfl rfl (by decide +kernel) ⟨Nat.le_of_ble_eq_true rfl, Nat.le_of_ble_eq_true rfl⟩, hts _ mw_100, trivial⟩ (hP_S kE_ok hE hH) rfl rfl hl.1 rfl (lv_room (Nat.le_of_ble_eq_true rfl)) d_Wr_writeFile_4 ⟨show 0 + 0 ≤ B by omega, show 0 + 0 ≤ 2048 * B by omega⟩) (fun r_16 h_17 H_18 hp_20  hH z_19 => ?_)
  have hz : s.heap.size ≤ H_18.size := Nat.le_trans hz z_19
  obtain rfl := hp_20
  refine lv_istore (lv' := [(4, .int r_16), (0, .ref w9), (1, .ref d9), (2, .ref m8), (3, .ref m9)]) hx hb d_Wr_writeFile_7 hl (by decide) rfl (fun ls hl => ?_)
  refine lv_iconst (v := 0) hx hb d_Wr_writeFile_9 (by decide) ?_
  refine lv_istore (lv' := [(5, .int 0), (4, .int r_16), (0, .ref w9), (1, .ref d9), (2, .ref m8), (3, .ref m9)]) hx hb d_Wr_writeFile_10 hl (by decide) rfl (fun ls hl => ?_)
  refine hm_loopC (fun k12 ls H locs hh12 cs ss => ∃ (i9 : Int32) (kc12 : Nat), k12 = mU i9 ∧ cs = kc12 ∧ ss = 2048 * kc12 ∧ lv_has ls 8 [(0, .ref w9), (1, .ref d9), (2, .ref m8), (3, .ref m9), (4, .int r_16), (5, .int i9)] ∧ hm D vwCl G hh12 H ∧ s.heap.size ≤ H.size ∧ hLc G.P locs ∧ (TI τ t n hh12) ∧ (kf τ [(13, 0), (11, 0), (3, 0), (5, 0)] [] h hh12) ∧ (kc12 + nl L hh12 ≤ nl L h) ∧ (0 ≤ i9.toInt)) ?_ (hh := h) ⟨0, 0, rfl, (by omega), (by omega), (lv_sub hl [2, 3, 4, 5, 1, 0] rfl), hH, hz, hLo, hT, hkf, hnl, (by decide)⟩
  rintro k12 ls H locs hh12 cs ss ⟨i9, kc12, hk12, rfl, rfl, hl, hH, hz, hLo, hT, hkf, hnl, I_i9⟩ ih12
  refine lv_iload hx hb d_Wr_writeFile_12 (lv_at hl 5 rfl) ?_
  refine lv_aload_n hx hb d_Wr_writeFile_14 rfl (lv_at hl 3 rfl) ?_
  obtain ⟨v_22, v_24, F_m9, c_23⟩ := TI_med hT T_m9
  refine hm_get (ci := 0) (v := .ref v_22) (C := R_Me) (T := F_Me) (N := 2) hx hb hts ig_Me hown hK hH F_m9 rfl 0 (by decide) (hts _ mw_269) (fun _ h9 => h9) rfl d_Wr_writeFile_15 ?_
  obtain ⟨g_25, F_v_22, c_26⟩ := TI_secs hT c_23
  have iln_27 : (nI n).toInt = (n : Nat) := nI_toInt (by omega)
  refine hm_alen (v := nI n) hx hb hK hH 5 F_v_22 (ty := (.object "WriteOnceDisc$Sector")) rfl rfl d_Wr_writeFile_18 ?_
  refine lv_icmp_gt (tgt := 78) hx hb d_Wr_writeFile_19 (by decide) (fun hc_28 => ?_) (fun hc_28 => ?_)
  · skip
    have ic_29 : (nI n).toInt < i9.toInt := iLt hc_28
    have iu_30 : i9.toInt < 2147483648 := iUp _
    refine lv_bipush (v := -3) hx hb d_Wr_writeFile_78 (by decide) ?_
    refine W.toD ?_
    exact W.iret (v := (-3)) hx hb hr (fun t9 ht hW => ⟨(-3), hh12, rfl, ⟨(by omega), (by omega), hT, hkf⟩, by rw [ht]; exact hH, by rw [ht]; exact hz⟩) hLo d_Wr_writeFile_80
  · skip
    have ic_31 : i9.toInt ≤ (nI n).toInt := iNl hc_28
    refine lv_aload_n hx hb d_Wr_writeFile_22 rfl (lv_at hl 3 rfl) ?_
    refine hm_get (ci := 0) (v := .int v_24) (C := R_Me) (T := F_Me) (N := 2) hx hb hts ig_Me hown hK hH F_m9 rfl 1 (by decide) (hts _ mw_261) (fun _ h9 => h9) rfl d_Wr_writeFile_23 ?_
    refine lv_istore (lv' := [(6, .int v_24), (0, .ref w9), (1, .ref d9), (2, .ref m8), (3, .ref m9), (4, .int r_16), (5, .int i9)]) hx hb d_Wr_writeFile_26 hl (by decide) rfl (fun ls hl => ?_)
    refine lv_aload_n hx hb d_Wr_writeFile_28 rfl (lv_at hl 4 rfl) ?_
    refine lv_iload hx hb d_Wr_writeFile_29 (lv_at hl 0 rfl) ?_
    refine lv_iload hx hb d_Wr_writeFile_31 (lv_at hl 5 rfl) ?_
    refine hm_callPi (va_runV (As := [.int v_24, .int r_16]) (b := m9) (rest := []) ⟨hx, hb, hml, hown, hts⟩ (t_hasRoom l D t G ak av hh12 τ n m9 v_24 r_16  hn hT T_m9) ⟨cw9B 2 hts mw_270 mw_271 mw_32 rfl rfl (by decide +kernel) ⟨Nat.le_of_ble_eq_true rfl, Nat.le_of_ble_eq_true rfl⟩, hts _ mw_272, hts _ mw_273⟩ (hP_V (q := (R_Me, F_Me, 2)) kE_ok hE hK hH F_m9 rfl) rfl rfl hl.1 rfl (lv_room (Nat.le_of_ble_eq_true rfl)) d_Wr_writeFile_33 ⟨show cs + 0 ≤ B by omega, show (2048 * cs) + 0 ≤ 2048 * B by omega⟩) (fun r_32 h_33 H_34 hp_36  hH z_35 => ?_)
    have hz : s.heap.size ≤ H_34.size := Nat.le_trans hz z_35
    obtain ⟨c_37, xp_38, rfl⟩ := hp_36
    refine lv_if_ne (tgt := 42) hx hb d_Wr_writeFile_36 (by decide) (fun hc_39 => ?_) (fun hc_39 => ?_)
    · skip
      refine lv_aload_n hx hb d_Wr_writeFile_42 rfl (lv_at hl 1 rfl) ?_
      refine lv_aload_n hx hb d_Wr_writeFile_43 rfl (lv_at hl 2 rfl) ?_
      refine lv_iload hx hb d_Wr_writeFile_44 (lv_at hl 5 rfl) ?_
      refine lv_aload_n hx hb d_Wr_writeFile_46 rfl (lv_at hl 3 rfl) ?_
      refine lv_aload_n hx hb d_Wr_writeFile_47 rfl (lv_at hl 4 rfl) ?_
      obtain ⟨v_40, v_42, F_w9, c_41, c_43⟩ := TI_wri hT T_w9
      refine hm_callDi (va_runVD (As := [.ref d9, .int r_16, .ref m8, .ref m9]) (b := w9) (rest := []) ⟨hx, hb, hml, hown, hts⟩ (t_parts l D t G ak av hh12 τ n f w9 d9 r_16 m8 m9 hn hT T_w9 T_d9 T_m8 T_m9 L (B - cs) hL hL2 (by omega)) ⟨cw9B 4 hts mw_274 mw_276 mw_275 rfl rfl (by decide +kernel) ⟨Nat.le_of_ble_eq_true rfl, Nat.le_of_ble_eq_true rfl⟩, hts _ mw_277, hts _ mw_278⟩ (hP_V (q := (R_Wr, F_Wr, 2)) kE_ok hE hK hH F_w9 rfl) rfl rfl hl.1 rfl (lv_room (Nat.le_of_ble_eq_true rfl)) d_Wr_writeFile_48 ⟨show cs + (B - cs) ≤ B by omega, show (2048 * cs) + 2048 * (B - cs) ≤ 2048 * B by omega⟩) hLo (fun r_44 h_45 H_46 locs k_49 n_50 hp_48 hH z_47 hLo => ?_)
      have hz : s.heap.size ≤ H_46.size := Nat.le_trans hz z_47
      obtain ⟨rfl, hnl2, hT, kf_51⟩ := hp_48
      have F_v_22 : h_45 v_22 = some (.inl ((t 5), n, .inr (.inr (.inr (.inr g_25))))) := kf_at kf_51 c_23 (by decide) (tnc (by decide) (tnc (by decide) (tnc (by decide) (tnc (by decide) tn0)))) nm0 F_v_22
      have F_w9 : h_45 w9 = some (.inr (7, [.ref v_40, .ref v_42])) := kf_at kf_51 T_w9 (by decide) (tnc (by decide) (tnc (by decide) (tnc (by decide) (tnc (by decide) tn0)))) nm0 F_w9
      have hnl : (cs + k_49) + nl L h_45 ≤ nl L h := by omega
      have hkf : kf τ [(13, 0), (11, 0), (3, 0), (5, 0)] [] h h_45 := kf_tr hkf kf_51 (List.forall_mem_cons.mpr ⟨List.mem_cons_self, List.forall_mem_cons.mpr ⟨(List.mem_cons_of_mem _ List.mem_cons_self), List.forall_mem_cons.mpr ⟨(List.mem_cons_of_mem _ (List.mem_cons_of_mem _ List.mem_cons_self)), List.forall_mem_cons.mpr ⟨(List.mem_cons_of_mem _ (List.mem_cons_of_mem _ (List.mem_cons_of_mem _ List.mem_cons_self))), List.forall_mem_nil _⟩⟩⟩⟩) (List.forall_mem_nil _)
      refine lv_istore (lv' := [(7, .int r_44), (6, .int v_24), (0, .ref w9), (1, .ref d9), (2, .ref m8), (3, .ref m9), (4, .int r_16), (5, .int i9)]) hx hb d_Wr_writeFile_51 hl (by decide) rfl (fun ls hl => ?_)
      refine lv_iload hx hb d_Wr_writeFile_53 (lv_at hl 0 rfl) ?_
      refine lv_iconst (v := 1) hx hb d_Wr_writeFile_55 (by decide) ?_
      refine lv_icmp_ne (tgt := 62) hx hb d_Wr_writeFile_56 (by decide) (fun hc_53 => ?_) (fun hc_53 => ?_)
      · skip
        refine lv_iload hx hb d_Wr_writeFile_62 (lv_at hl 0 rfl) ?_
        refine lv_bipush (v := -4) hx hb d_Wr_writeFile_64 (by decide) ?_
        refine lv_icmp_ne (tgt := 72) hx hb d_Wr_writeFile_66 (by decide) (fun hc_54 => ?_) (fun hc_54 => ?_)
        · skip
          obtain ⟨j_55, e_56⟩ : ∃ z : Int32, z = i9 + 1 := ⟨_, rfl⟩
          refine lv_iinc (v := j_55) (lv' := [(5, .int j_55), (7, .int r_44), (6, .int v_24), (0, .ref w9), (1, .ref d9), (2, .ref m8), (3, .ref m9), (4, .int r_16)]) hx hb d_Wr_writeFile_72 hl (k := 7) rfl e_56.symm (by decide) rfl (fun ls hl => ?_)
          refine lv_goto (tgt := 12) hx hb d_Wr_writeFile_75 (by decide) ?_
          have is_57 : j_55.toInt = i9.toInt + 1 := by rw [e_56]; exact iAddK 1 rfl (by omega) (by omega)
          exact ih12 (mU j_55) ls _ locs _ _ _ (by rw [hk12]; exact mU_lt (by omega)) ⟨j_55, (cs + k_49), rfl, (by omega), (by omega), (lv_sub hl [3, 4, 5, 6, 7, 0] rfl), hH, hz, hLo, hT, hkf, hnl, (by omega)⟩
        · skip
          have ic_58 : r_44.toInt = (-4) := congrArg Int32.toInt hc_54
          refine lv_bipush (v := -4) hx hb d_Wr_writeFile_69 (by decide) ?_
          refine W.toD ?_
          exact W.iret (v := (-4)) hx hb hr (fun t9 ht hW => ⟨(-4), h_45, rfl, ⟨(by omega), (by omega), hT, hkf⟩, by rw [ht]; exact hH, by rw [ht]; exact hz⟩) hLo d_Wr_writeFile_71
      · skip
        have ic_59 : r_44.toInt = 1 := congrArg Int32.toInt hc_53
        refine lv_iload hx hb d_Wr_writeFile_59 (lv_at hl 1 rfl) ?_
        refine W.toD ?_
        exact W.iret (v := v_24) hx hb hr (fun t9 ht hW => ⟨v_24, h_45, rfl, ⟨(by omega), (by omega), hT, hkf⟩, by rw [ht]; exact hH, by rw [ht]; exact hz⟩) hLo d_Wr_writeFile_61
    · skip
      have ic_60 : r_32.toInt = 0 := congrArg Int32.toInt hc_39
      refine lv_bipush (v := -3) hx hb d_Wr_writeFile_39 (by decide) ?_
      refine W.toD ?_
      exact W.iret (v := (-3)) hx hb hr (fun t9 ht hW => ⟨(-3), hh12, rfl, ⟨(by omega), (by omega), hT, hkf⟩, by rw [ht]; exact hH, by rw [ht]; exact hz⟩) hLo d_Wr_writeFile_41

set_option maxHeartbeats 4000000 in
set_option maxRecDepth 100000 in
theorem t_newFiles (l : Launch) (D : va_G) (t : Nat → ClassId) (G : hG) (ak av : Nat → Nat) (h : hM) (τ : tM) (n f : Nat) (w9 : Nat) (P9 : Nat) (m9 : Nat) (hn : n ≤ 200) (hT : TI τ t n h) (T_w9 : τ w9 = (2, 0)) (T_P9 : τ P9 = (7, f)) (T_m9 : τ m9 = (11, 0)) (L : List Nat) (B : Nat) (hL : ∀ a ∈ L, τ a = (13, 0)) (hL2 : ∀ a, τ a = (13, 0) → a ∈ L) (hB : nl L h ≤ B) : MetD l y_Wr_writeNewFiles (.code y_Wr_writeNewFiles b_Wr_writeNewFiles 6 (some .int) :: lw_g) { frames := 5, cells := B, slots := 2048 * B, locals := 182 } (hP (kE D t G ak av) D vwCl G h [.ref w9, .ref P9, .ref m9]) (fun kk nn => hQi D vwCl G (fun r h' => nn = 2048 * kk ∧ kk + nl L h' ≤ nl L h ∧ TI τ t n h' ∧ kf τ [(13, 0), (11, 0), (3, 0), (5, 0), (10, f)] [] h h' ∧ knp τ f h h')) G.P := by
  refine MetD.ofW (cc := b_Wr_writeNewFiles) (maxL := 6) (ret := (some .int)) (by decide) rfl ?_
  intro p e s m args below meth c s₁ Bd hml hv
  obtain ⟨ha, hE, hH⟩ := hv
  have hx := Bd.exec
  have hb := Bd.bytes
  have hr := Bd.returns
  have hts : ∀ w ∈ lw_g, w.before args s = true := fun w hw => atoms_spec (ws := (.code y_Wr_writeNewFiles b_Wr_writeNewFiles 6 (some .int) :: lw_g)) Bd.pre w (List.mem_cons_of_mem _ hw)
  have hown : s.vm.findClass R_Wr = some m.cls := findClass_of_methodNamed Bd.named
  have hlocks := Bd.notSynchronized
  have hK := hE.1
  have hH0 := hH
  have hLo : hLc G.P [] := hLc_nil
  have hz : s.heap.size ≤ s.heap.size := Nat.le_refl _
  have hl := lv_entry [.ref w9, .ref P9, .ref m9] (n := 6) (Nat.le_of_ble_eq_true rfl)
  rw [show entryFrame m args 6 = F0 m 0 ((lg_sl [.ref w9, .ref P9, .ref m9] ++ List.replicate (6 - (lg_sl [.ref w9, .ref P9, .ref m9]).length) Slot.unset).toArray) [] from (by rw [ha]; exact lg_entry_eq m [.ref w9, .ref P9, .ref m9] 6)]
  generalize (lg_sl [.ref w9, .ref P9, .ref m9] ++ List.replicate (6 - (lg_sl [.ref w9, .ref P9, .ref m9]).length) Slot.unset).toArray = ls at hl ⊢
  have hl : lv_has ls 6 [(0, .ref w9), (1, .ref P9), (2, .ref m9)] := hl
  have hkf : kf τ [(13, 0), (11, 0), (3, 0), (5, 0), (10, f)] [] h h := kf_rf
  have hnl : 0 + nl L h ≤ nl L h := Nat.le_of_eq (Nat.zero_add _)
  have hnp_f : knp τ f h h := knp_rf
  refine lv_iconst (v := 0) hx hb d_Wr_writeNewFiles_0 (by decide) ?_
  refine lv_istore_n (lv' := [(3, .int 0), (0, .ref w9), (1, .ref P9), (2, .ref m9)]) hx hb d_Wr_writeNewFiles_1 rfl hl (by decide) rfl (fun ls hl => ?_)
  refine hm_loopC (fun k2 ls H locs hh2 cs ss => ∃ (i9 : Int32) (kc2 : Nat), k2 = mU i9 ∧ cs = kc2 ∧ ss = 2048 * kc2 ∧ lv_has ls 6 [(0, .ref w9), (1, .ref P9), (2, .ref m9), (3, .int i9)] ∧ hm D vwCl G hh2 H ∧ s.heap.size ≤ H.size ∧ hLc G.P locs ∧ (TI τ t n hh2) ∧ (kf τ [(13, 0), (11, 0), (3, 0), (5, 0), (10, f)] [] h hh2) ∧ (kc2 + nl L hh2 ≤ nl L h) ∧ (knp τ f h hh2) ∧ (0 ≤ i9.toInt)) ?_ (hh := h) ⟨0, 0, rfl, (by omega), (by omega), (lv_sub hl [1, 2, 3, 0] rfl), hH, hz, hLo, hT, hkf, hnl, hnp_f, (by decide)⟩
  rintro k2 ls H locs hh2 cs ss ⟨i9, kc2, hk2, rfl, rfl, hl, hH, hz, hLo, hT, hkf, hnl, hnp_f, I_i9⟩ ih2
  refine lv_iload_n hx hb d_Wr_writeNewFiles_2 rfl (lv_at hl 3 rfl) ?_
  refine lv_aload_n hx hb d_Wr_writeNewFiles_3 rfl (lv_at hl 1 rfl) ?_
  obtain ⟨v_1, v_3, v_5, v_7, F_P9, c_2, c_4, c_6⟩ := TI_nds hT T_P9
  refine hm_get (ci := 2) (v := .int v_5) (C := R_Ns) (T := F_Ns) (N := 4) hx hb hts ig_Ns hown hK hH F_P9 rfl 2 (by decide) (hts _ mw_238) (fun _ h9 => h9) rfl d_Wr_writeNewFiles_4 ?_
  refine lv_icmp_ge (tgt := 75) hx hb d_Wr_writeNewFiles_7 (by decide) (fun hc_8 => ?_) (fun hc_8 => ?_)
  · skip
    have ic_9 : v_5.toInt ≤ i9.toInt := iLe hc_8
    refine lv_iconst (v := 1) hx hb d_Wr_writeNewFiles_75 (by decide) ?_
    refine W.toD ?_
    exact W.iret (v := 1) hx hb hr (fun t9 ht hW => ⟨1, hh2, rfl, ⟨(by omega), (by omega), hT, hkf, hnp_f⟩, by rw [ht]; exact hH, by rw [ht]; exact hz⟩) hLo d_Wr_writeNewFiles_76
  · skip
    have ic_10 : i9.toInt < v_5.toInt := iNe hc_8
    have iu_11 : v_5.toInt < 2147483648 := iUp _
    refine lv_aload_n hx hb d_Wr_writeNewFiles_10 rfl (lv_at hl 1 rfl) ?_
    refine hm_get (ci := 2) (v := .ref v_1) (C := R_Ns) (T := F_Ns) (N := 4) hx hb hts ig_Ns hown hK hH F_P9 rfl 0 (by decide) (hts _ mw_279) (fun _ h9 => h9) rfl d_Wr_writeNewFiles_11 ?_
    refine lv_iload_n hx hb d_Wr_writeNewFiles_14 rfl (lv_at hl 3 rfl) ?_
    obtain ⟨g_12, F_v_1, c_13, c_14⟩ := TI_slo hT c_2
    obtain ⟨a_15, e_16, T_17⟩ := c_13 i9.toNatClampNeg (iCl (by omega) (by omega))
    refine hm_aald (v := .ref a_15) hx hb hK hH 4 F_v_1 (C := R_No) rfl (iIn (by omega) (by omega)) (by rw [e_16]; rfl) d_Wr_writeNewFiles_15 ?_
    refine lv_astore (lv' := [(4, .ref a_15), (0, .ref w9), (1, .ref P9), (2, .ref m9), (3, .int i9)]) hx hb d_Wr_writeNewFiles_16 hl (by decide) rfl (fun ls hl => ?_)
    refine hm_cutC (α := Unit) (fun un9 ls H locs HH cs ss => ∃ (kq59 : Nat), (cs = kq59) ∧ (ss = 2048 * kq59) ∧ (lv_has ls 6 [(0, .ref w9), (1, .ref P9), (2, .ref m9), (3, .int i9), (4, .ref a_15)]) ∧ (hm D vwCl G HH H) ∧ (s.heap.size ≤ H.size) ∧ (hLc G.P locs) ∧ (TI τ t n HH) ∧ (kf τ [(13, 0), (11, 0), (3, 0), (5, 0), (10, f)] [] h HH) ∧ (kq59 + nl L HH ≤ nl L h) ∧ (knp τ f h HH)) 59 (fun un9 => []) ?_ (fun J59 => ?_)
    · skip
      rintro un9 ls H locs HH cs ss ⟨kq59, rfl, rfl, hl, hH, hz, hLo, hT, hkf, hnl, hnp_f⟩
      refine lv_aload hx hb d_Wr_writeNewFiles_59 (lv_at hl 4 rfl) ?_
      refine lv_aload hx hb d_Wr_writeNewFiles_61 (lv_at hl 4 rfl) ?_
      obtain ⟨v_18, v_19, v_21, v_23, v_24, v_26, v_27, v_28, v_30, v_31, v_32, F_a_15, c_20, c_22, c_25, c_29⟩ := TI_node hT T_17
      refine hm_get (ci := 1) (v := .int v_30) (C := R_No) (T := F_No) (N := 11) hx hb hts ig_No hown hK hH F_a_15 rfl 8 (by decide) (hts _ mw_280) (fun _ h9 => h9) rfl d_Wr_writeNewFiles_63 ?_
      refine hm_put (ci := 1) (v := .int v_30) (ty := .int) (C := R_No) (T := F_No) (N := 11) hx hb hts ig_No t_No tk_No nm_No hown hK hH hLo F_a_15 rfl 9 (by decide) (hts _ mw_241) (fun _ h9 => h9) rfl (by decide +kernel) rfl rfl (Nat.le_of_ble_eq_true rfl) d_Wr_writeNewFiles_66 (fun H_33 locs hH z_34 hLo => ?_)
      have hz : s.heap.size ≤ H_33.size := by rw [z_34]; exact hz
      obtain ⟨h_35, e_36⟩ : ∃ z, z = hu HH a_15 (.inr (1, [.int v_18, va_rf v_19, .int v_21, .long v_23, .int v_24, .int v_26, .int v_27, .int v_28, .int v_30, .int v_30, .int v_32])) := ⟨_, rfl⟩
      have hH : hm D vwCl G h_35 H_33 := by rw [e_36]; exact hH
      have hOld := F_a_15
      have F_a_15 : h_35 a_15 = some (.inr (1, [.int v_18, va_rf v_19, .int v_21, .long v_23, .int v_24, .int v_26, .int v_27, .int v_28, .int v_30, .int v_30, .int v_32])) := by rw [e_36]; exact hu_s _ _ _
      have hT : TI τ t n h_35 := by rw [e_36]; exact TI_put hT T_17 (by decide) ⟨v_18, v_19, v_21, v_23, v_24, v_26, v_27, v_28, v_30, v_30, v_32, rfl, c_20, c_22, c_25, c_29⟩
      have hkf : kf τ [(13, 0), (11, 0), (3, 0), (5, 0), (10, f)] [] h h_35 := by rw [e_36]; exact kf_put hkf T_17 (List.mem_cons_of_mem _ (List.mem_cons_of_mem _ (List.mem_cons_of_mem _ (List.mem_cons_of_mem _ List.mem_cons_self))))
      have hnl : cs + nl L h_35 ≤ nl L h := Nat.le_trans (Nat.add_le_add_left (nl_mono hL (by rw [e_36]; exact nlp_put2 nlp_rf (fun z => by have := z.symm.trans T_17; simp at this))) _) hnl
      have hnp_f : knp τ f h h_35 := by rw [e_36]; exact knp_put hnp_f hOld
      obtain ⟨j_37, e_38⟩ : ∃ z : Int32, z = i9 + 1 := ⟨_, rfl⟩
      refine lv_iinc (v := j_37) (lv' := [(3, .int j_37), (0, .ref w9), (1, .ref P9), (2, .ref m9), (4, .ref a_15)]) hx hb d_Wr_writeNewFiles_69 hl (k := 3) rfl e_38.symm (by decide) rfl (fun ls hl => ?_)
      refine lv_goto (tgt := 2) hx hb d_Wr_writeNewFiles_72 (by decide) ?_
      have is_39 : j_37.toInt = i9.toInt + 1 := by rw [e_38]; exact iAddK 1 rfl (by omega) (by omega)
      exact ih2 (mU j_37) ls _ locs _ _ _ (by rw [hk2]; exact mU_lt (by omega)) ⟨j_37, cs, rfl, (by omega), (by omega), (lv_sub hl [1, 2, 3, 0] rfl), hH, hz, hLo, hT, hkf, hnl, hnp_f, (by omega)⟩
    · skip
      refine lv_aload hx hb d_Wr_writeNewFiles_18 (lv_at hl 0 rfl) ?_
      obtain ⟨v_40, v_41, v_43, v_45, v_46, v_48, v_49, v_50, v_52, v_53, v_54, F_a_15, c_42, c_44, c_47, c_51⟩ := TI_node hT T_17
      refine hm_callPi (va_runV (As := []) (b := a_15) (rest := []) ⟨hx, hb, hml, hown, hts⟩ (t_needs l D t G ak av hh2 τ n f a_15  hn hT T_17) ⟨cw9B 0 hts mw_281 mw_282 mw_106 rfl rfl (by decide +kernel) ⟨Nat.le_of_ble_eq_true rfl, Nat.le_of_ble_eq_true rfl⟩, hts _ mw_283, hts _ mw_284⟩ (hP_V (q := (R_No, F_No, 11)) kE_ok hE hK hH F_a_15 rfl) rfl rfl hl.1 rfl (lv_room (Nat.le_of_ble_eq_true rfl)) d_Wr_writeNewFiles_20 ⟨show cs + 0 ≤ B by omega, show (2048 * cs) + 0 ≤ 2048 * B by omega⟩) (fun r_55 h_56 H_57 hp_59  hH z_58 => ?_)
      have hz : s.heap.size ≤ H_57.size := Nat.le_trans hz z_58
      obtain ⟨c_60, rfl⟩ := hp_59
      refine lv_if_eq (tgt := 59) hx hb d_Wr_writeNewFiles_23 (by decide) (fun hc_62 => ?_) (fun hc_62 => ?_)
      · skip
        have ic_63 : r_55.toInt = 0 := congrArg Int32.toInt hc_62
        exact J59 () _ _ _ _ _ _ ⟨cs, (by omega), (by omega), (lv_sub hl [1, 2, 3, 4, 0] rfl), hH, hz, hLo, hT, hkf, hnl, hnp_f⟩
      · skip
        refine lv_aload hx hb d_Wr_writeNewFiles_26 (lv_at hl 0 rfl) ?_
        refine hm_get (ci := 1) (v := .int v_50) (C := R_No) (T := F_No) (N := 11) hx hb hts ig_No hown hK hH F_a_15 rfl 7 (by decide) (hts _ mw_285) (fun _ h9 => h9) rfl d_Wr_writeNewFiles_28 ?_
        refine lv_if_ne (tgt := 59) hx hb d_Wr_writeNewFiles_31 (by decide) (fun hc_64 => ?_) (fun hc_64 => ?_)
        · skip
          exact J59 () _ _ _ _ _ _ ⟨cs, (by omega), (by omega), (lv_sub hl [1, 2, 3, 4, 0] rfl), hH, hz, hLo, hT, hkf, hnl, hnp_f⟩
        · skip
          have ic_65 : v_50.toInt = 0 := congrArg Int32.toInt hc_64
          refine lv_aload_n hx hb d_Wr_writeNewFiles_34 rfl (lv_at hl 1 rfl) ?_
          refine lv_aload hx hb d_Wr_writeNewFiles_35 (lv_at hl 0 rfl) ?_
          refine lv_aload_n hx hb d_Wr_writeNewFiles_37 rfl (lv_at hl 3 rfl) ?_
          refine lv_aload_n hx hb d_Wr_writeNewFiles_38 rfl (lv_at hl 3 rfl) ?_
          obtain ⟨v_66, v_68, F_w9, c_67, c_69⟩ := TI_wri hT T_w9
          refine hm_callDi (va_runVD (As := [.ref a_15, .ref m9, .ref m9]) (b := w9) (rest := []) ⟨hx, hb, hml, hown, hts⟩ (t_wfile l D t G ak av hh2 τ n f w9 a_15 m9 m9 hn hT T_w9 T_17 T_m9 T_m9 L (B - cs) hL hL2 (by omega)) ⟨cw9B 3 hts mw_286 mw_287 mw_275 rfl rfl (by decide +kernel) ⟨Nat.le_of_ble_eq_true rfl, Nat.le_of_ble_eq_true rfl⟩, hts _ mw_288, hts _ mw_289⟩ (hP_V (q := (R_Wr, F_Wr, 2)) kE_ok hE hK hH F_w9 rfl) rfl rfl hl.1 rfl (lv_room (Nat.le_of_ble_eq_true rfl)) d_Wr_writeNewFiles_39 ⟨show cs + (B - cs) ≤ B by omega, show (2048 * cs) + 2048 * (B - cs) ≤ 2048 * B by omega⟩) hLo (fun r_70 h_71 H_72 locs k_75 n_76 hp_74 hH z_73 hLo => ?_)
          have hz : s.heap.size ≤ H_72.size := Nat.le_trans hz z_73
          obtain ⟨rfl, hnl2, hT, kf_77⟩ := hp_74
          have F_P9 : h_71 P9 = some (.inr (2, [.ref v_1, .ref v_3, .int v_5, .int v_7])) := kf_at kf_77 T_P9 (by decide) (tnc (by decide) (tnc (by decide) (tnc (by decide) (tnc (by decide) tn0)))) nm0 F_P9
          have F_v_1 : h_71 v_1 = some (.inl ((t 4), 30, .inr (.inr (.inr (.inr g_12))))) := kf_at kf_77 c_2 (by decide) (tnc (by decide) (tnc (by decide) (tnc (by decide) (tnc (by decide) tn0)))) nm0 F_v_1
          have F_a_15 : h_71 a_15 = some (.inr (1, [.int v_40, va_rf v_41, .int v_43, .long v_45, .int v_46, .int v_48, .int v_49, .int v_50, .int v_52, .int v_53, .int v_54])) := kf_at kf_77 T_17 (by decide) (tnc (by decide) (tnc (by decide) (tnc (by decide) (tnc (by decide) tn0)))) nm0 F_a_15
          have F_w9 : h_71 w9 = some (.inr (7, [.ref v_66, .ref v_68])) := kf_at kf_77 T_w9 (by decide) (tnc (by decide) (tnc (by decide) (tnc (by decide) (tnc (by decide) tn0)))) nm0 F_w9
          have hnl : (cs + k_75) + nl L h_71 ≤ nl L h := by omega
          have hnp_f : knp τ f h h_71 := knp_kf hnp_f kf_77 (tnc (by decide) (tnc (by decide) (tnc (by decide) (tnc (by decide) tn0)))) (List.forall_mem_nil _)
          have hkf : kf τ [(13, 0), (11, 0), (3, 0), (5, 0), (10, f)] [] h h_71 := kf_tr hkf kf_77 (List.forall_mem_cons.mpr ⟨List.mem_cons_self, List.forall_mem_cons.mpr ⟨(List.mem_cons_of_mem _ List.mem_cons_self), List.forall_mem_cons.mpr ⟨(List.mem_cons_of_mem _ (List.mem_cons_of_mem _ List.mem_cons_self)), List.forall_mem_cons.mpr ⟨(List.mem_cons_of_mem _ (List.mem_cons_of_mem _ (List.mem_cons_of_mem _ List.mem_cons_self))), List.forall_mem_nil _⟩⟩⟩⟩) (List.forall_mem_nil _)
          refine lv_istore (lv' := [(5, .int r_70), (4, .ref a_15), (0, .ref w9), (1, .ref P9), (2, .ref m9), (3, .int i9)]) hx hb d_Wr_writeNewFiles_42 hl (by decide) rfl (fun ls hl => ?_)
          refine lv_iload hx hb d_Wr_writeNewFiles_44 (lv_at hl 0 rfl) ?_
          refine lv_if_ge (tgt := 52) hx hb d_Wr_writeNewFiles_46 (by decide) (fun hc_79 => ?_) (fun hc_79 => ?_)
          · skip
            have ic_80 : 0 ≤ r_70.toInt := iLe hc_79
            refine lv_aload hx hb d_Wr_writeNewFiles_52 (lv_at hl 1 rfl) ?_
            refine lv_iload hx hb d_Wr_writeNewFiles_54 (lv_at hl 0 rfl) ?_
            refine hm_callv (va_runV (As := [.int r_70]) (b := a_15) (rest := []) ⟨hx, hb, hml, hown, hts⟩ (t_nsettle l D t G ak av h_71 τ n f a_15 r_70  hn hT T_17) ⟨cw9B 1 hts mw_124 mw_290 mw_106 rfl rfl (by decide +kernel) ⟨Nat.le_of_ble_eq_true rfl, Nat.le_of_ble_eq_true rfl⟩, hts _ mw_126, hts _ mw_127⟩ (hP_V (q := (R_No, F_No, 11)) kE_ok hE hK hH F_a_15 rfl) rfl rfl hl.1 rfl (lv_room (Nat.le_of_ble_eq_true rfl)) d_Wr_writeNewFiles_56 ⟨show (cs + k_75) + 0 ≤ B by omega, show ((2048 * cs) + 2048 * k_75) + 0 ≤ 2048 * B by omega⟩) hLo (fun h_81 H_82 locs hp_84 hH z_83 hLo => ?_)
            have hz : s.heap.size ≤ H_82.size := Nat.le_trans hz z_83
            have hT0 := hT
            obtain ⟨hT, kf_86, xk_87⟩ := hp_84
            have F_P9 : h_81 P9 = some (.inr (2, [.ref v_1, .ref v_3, .int v_5, .int v_7])) := kf_at kf_86 T_P9 (by decide) tn0 (nmc (tne T_P9 T_17 (by decide)) nm0) F_P9
            have F_v_1 : h_81 v_1 = some (.inl ((t 4), 30, .inr (.inr (.inr (.inr g_12))))) := kf_at kf_86 c_2 (by decide) tn0 (nmc (tne c_2 T_17 (by decide)) nm0) F_v_1
            have F_w9 : h_81 w9 = some (.inr (7, [.ref v_66, .ref v_68])) := kf_at kf_86 T_w9 (by decide) tn0 (nmc (tne T_w9 T_17 (by decide)) nm0) F_w9
            have hnl : (cs + k_75) + nl L h_81 ≤ nl L h := Nat.le_trans (Nat.add_le_add_left (nl_mono hL (nlp_kf nlp_rf kf_86 tn0 (List.forall_mem_cons.mpr ⟨(fun z => by have := z.symm.trans T_17; simp at this), List.forall_mem_nil _⟩))) _) hnl
            have hnp_f : knp τ f h h_81 := knp_tr hnp_f xk_87
            have hkf : kf τ [(13, 0), (11, 0), (3, 0), (5, 0), (10, f)] [] h h_81 := kf_tr hkf kf_86 (List.forall_mem_nil _) (List.forall_mem_cons.mpr ⟨Or.inr (by rw [T_17]; exact (List.mem_cons_of_mem _ (List.mem_cons_of_mem _ (List.mem_cons_of_mem _ (List.mem_cons_of_mem _ List.mem_cons_self))))), List.forall_mem_nil _⟩)
            exact J59 () _ _ _ _ _ _ ⟨(cs + k_75), (by omega), (by omega), (lv_sub hl [2, 3, 4, 5, 1] rfl), hH, hz, hLo, hT, hkf, hnl, hnp_f⟩
          · skip
            have ic_88 : r_70.toInt < 0 := iNe hc_79
            refine lv_iload hx hb d_Wr_writeNewFiles_49 (lv_at hl 0 rfl) ?_
            refine W.toD ?_
            exact W.iret (v := r_70) hx hb hr (fun t9 ht hW => ⟨r_70, h_71, rfl, ⟨(by omega), (by omega), hT, hkf, hnp_f⟩, by rw [ht]; exact hH, by rw [ht]; exact hz⟩) hLo d_Wr_writeNewFiles_51

set_option maxHeartbeats 4000000 in
set_option maxRecDepth 100000 in
theorem t_allFiles (l : Launch) (D : va_G) (t : Nat → ClassId) (G : hG) (ak av : Nat → Nat) (h : hM) (τ : tM) (n f : Nat) (w9 : Nat) (P9 : Nat) (m8 : Nat) (m9 : Nat) (hn : n ≤ 200) (hT : TI τ t n h) (T_w9 : τ w9 = (2, 0)) (T_P9 : τ P9 = (7, f)) (T_m8 : τ m8 = (11, 0)) (T_m9 : τ m9 = (11, 0)) (L : List Nat) (B : Nat) (hL : ∀ a ∈ L, τ a = (13, 0)) (hL2 : ∀ a, τ a = (13, 0) → a ∈ L) (hB : nl L h ≤ B) : MetD l y_Wr_writeAllFiles (.code y_Wr_writeAllFiles b_Wr_writeAllFiles 7 (some .int) :: lw_g) { frames := 5, cells := B, slots := 2048 * B, locals := 182 } (hP (kE D t G ak av) D vwCl G h [.ref w9, .ref P9, .ref m8, .ref m9]) (fun kk nn => hQi D vwCl G (fun r h' => nn = 2048 * kk ∧ kk + nl L h' ≤ nl L h ∧ TI τ t n h' ∧ kf τ [(13, 0), (11, 0), (3, 0), (5, 0), (10, f)] [] h h' ∧ knp τ f h h')) G.P := by
  refine MetD.ofW (cc := b_Wr_writeAllFiles) (maxL := 7) (ret := (some .int)) (by decide) rfl ?_
  intro p e s m args below meth c s₁ Bd hml hv
  obtain ⟨ha, hE, hH⟩ := hv
  have hx := Bd.exec
  have hb := Bd.bytes
  have hr := Bd.returns
  have hts : ∀ w ∈ lw_g, w.before args s = true := fun w hw => atoms_spec (ws := (.code y_Wr_writeAllFiles b_Wr_writeAllFiles 7 (some .int) :: lw_g)) Bd.pre w (List.mem_cons_of_mem _ hw)
  have hown : s.vm.findClass R_Wr = some m.cls := findClass_of_methodNamed Bd.named
  have hlocks := Bd.notSynchronized
  have hK := hE.1
  have hH0 := hH
  have hLo : hLc G.P [] := hLc_nil
  have hz : s.heap.size ≤ s.heap.size := Nat.le_refl _
  have hl := lv_entry [.ref w9, .ref P9, .ref m8, .ref m9] (n := 7) (Nat.le_of_ble_eq_true rfl)
  rw [show entryFrame m args 7 = F0 m 0 ((lg_sl [.ref w9, .ref P9, .ref m8, .ref m9] ++ List.replicate (7 - (lg_sl [.ref w9, .ref P9, .ref m8, .ref m9]).length) Slot.unset).toArray) [] from (by rw [ha]; exact lg_entry_eq m [.ref w9, .ref P9, .ref m8, .ref m9] 7)]
  generalize (lg_sl [.ref w9, .ref P9, .ref m8, .ref m9] ++ List.replicate (7 - (lg_sl [.ref w9, .ref P9, .ref m8, .ref m9]).length) Slot.unset).toArray = ls at hl ⊢
  have hl : lv_has ls 7 [(0, .ref w9), (1, .ref P9), (2, .ref m8), (3, .ref m9)] := hl
  have hkf : kf τ [(13, 0), (11, 0), (3, 0), (5, 0), (10, f)] [] h h := kf_rf
  have hnl : 0 + nl L h ≤ nl L h := Nat.le_of_eq (Nat.zero_add _)
  have hnp_f : knp τ f h h := knp_rf
  refine lv_iconst (v := 0) hx hb d_Wr_writeAllFiles_0 (by decide) ?_
  refine lv_istore (lv' := [(4, .int 0), (0, .ref w9), (1, .ref P9), (2, .ref m8), (3, .ref m9)]) hx hb d_Wr_writeAllFiles_1 hl (by decide) rfl (fun ls hl => ?_)
  refine hm_loopC (fun k3 ls H locs hh3 cs ss => ∃ (i9 : Int32) (kc3 : Nat), k3 = mU i9 ∧ cs = kc3 ∧ ss = 2048 * kc3 ∧ lv_has ls 7 [(0, .ref w9), (1, .ref P9), (2, .ref m8), (3, .ref m9), (4, .int i9)] ∧ hm D vwCl G hh3 H ∧ s.heap.size ≤ H.size ∧ hLc G.P locs ∧ (TI τ t n hh3) ∧ (kf τ [(13, 0), (11, 0), (3, 0), (5, 0), (10, f)] [] h hh3) ∧ (kc3 + nl L hh3 ≤ nl L h) ∧ (knp τ f h hh3) ∧ (0 ≤ i9.toInt)) ?_ (hh := h) ⟨0, 0, rfl, (by omega), (by omega), (lv_sub hl [1, 2, 3, 4, 0] rfl), hH, hz, hLo, hT, hkf, hnl, hnp_f, (by decide)⟩
  rintro k3 ls H locs hh3 cs ss ⟨i9, kc3, hk3, rfl, rfl, hl, hH, hz, hLo, hT, hkf, hnl, hnp_f, I_i9⟩ ih3
  refine lv_iload hx hb d_Wr_writeAllFiles_3 (lv_at hl 4 rfl) ?_
  refine lv_aload_n hx hb d_Wr_writeAllFiles_5 rfl (lv_at hl 1 rfl) ?_
  obtain ⟨v_1, v_3, v_5, v_7, F_P9, c_2, c_4, c_6⟩ := TI_nds hT T_P9
  refine hm_get (ci := 2) (v := .int v_5) (C := R_Ns) (T := F_Ns) (N := 4) hx hb hts ig_Ns hown hK hH F_P9 rfl 2 (by decide) (hts _ mw_238) (fun _ h9 => h9) rfl d_Wr_writeAllFiles_6 ?_
  refine lv_icmp_ge (tgt := 64) hx hb d_Wr_writeAllFiles_9 (by decide) (fun hc_8 => ?_) (fun hc_8 => ?_)
  · skip
    have ic_9 : v_5.toInt ≤ i9.toInt := iLe hc_8
    refine lv_iconst (v := 1) hx hb d_Wr_writeAllFiles_64 (by decide) ?_
    refine W.toD ?_
    exact W.iret (v := 1) hx hb hr (fun t9 ht hW => ⟨1, hh3, rfl, ⟨(by omega), (by omega), hT, hkf, hnp_f⟩, by rw [ht]; exact hH, by rw [ht]; exact hz⟩) hLo d_Wr_writeAllFiles_65
  · skip
    have ic_10 : i9.toInt < v_5.toInt := iNe hc_8
    have iu_11 : v_5.toInt < 2147483648 := iUp _
    refine lv_aload_n hx hb d_Wr_writeAllFiles_12 rfl (lv_at hl 1 rfl) ?_
    refine hm_get (ci := 2) (v := .ref v_1) (C := R_Ns) (T := F_Ns) (N := 4) hx hb hts ig_Ns hown hK hH F_P9 rfl 0 (by decide) (hts _ mw_279) (fun _ h9 => h9) rfl d_Wr_writeAllFiles_13 ?_
    refine lv_iload hx hb d_Wr_writeAllFiles_16 (lv_at hl 4 rfl) ?_
    obtain ⟨g_12, F_v_1, c_13, c_14⟩ := TI_slo hT c_2
    obtain ⟨a_15, e_16, T_17⟩ := c_13 i9.toNatClampNeg (iCl (by omega) (by omega))
    refine hm_aald (v := .ref a_15) hx hb hK hH 4 F_v_1 (C := R_No) rfl (iIn (by omega) (by omega)) (by rw [e_16]; rfl) d_Wr_writeAllFiles_18 ?_
    refine lv_astore (lv' := [(5, .ref a_15), (0, .ref w9), (1, .ref P9), (2, .ref m8), (3, .ref m9), (4, .int i9)]) hx hb d_Wr_writeAllFiles_19 hl (by decide) rfl (fun ls hl => ?_)
    refine hm_cutC (α := Int32) (fun st9 ls H locs HH cs ss => ∃ (kq41 : Nat), (cs = kq41) ∧ (ss = 2048 * kq41) ∧ (lv_has ls 7 [(0, .ref w9), (1, .ref P9), (2, .ref m8), (3, .ref m9), (4, .int i9), (5, .ref a_15)]) ∧ (hm D vwCl G HH H) ∧ (s.heap.size ≤ H.size) ∧ (hLc G.P locs) ∧ (TI τ t n HH) ∧ (kf τ [(13, 0), (11, 0), (3, 0), (5, 0), (10, f)] [] h HH) ∧ (kq41 + nl L HH ≤ nl L h) ∧ (knp τ f h HH)) 41 (fun st9 => [.int st9]) ?_ (fun J41 => ?_)
    · skip
      rintro st9 ls H locs HH cs ss ⟨kq41, rfl, rfl, hl, hH, hz, hLo, hT, hkf, hnl, hnp_f⟩
      refine lv_istore (lv' := [(6, .int st9), (0, .ref w9), (1, .ref P9), (2, .ref m8), (3, .ref m9), (4, .int i9), (5, .ref a_15)]) hx hb d_Wr_writeAllFiles_41 hl (by decide) rfl (fun ls hl => ?_)
      refine lv_iload hx hb d_Wr_writeAllFiles_43 (lv_at hl 0 rfl) ?_
      refine lv_if_ge (tgt := 51) hx hb d_Wr_writeAllFiles_45 (by decide) (fun hc_18 => ?_) (fun hc_18 => ?_)
      · skip
        have ic_19 : 0 ≤ st9.toInt := iLe hc_18
        refine lv_aload hx hb d_Wr_writeAllFiles_51 (lv_at hl 6 rfl) ?_
        refine lv_iload hx hb d_Wr_writeAllFiles_53 (lv_at hl 0 rfl) ?_
        obtain ⟨v_20, v_21, v_23, v_25, v_26, v_28, v_29, v_30, v_32, v_33, v_34, F_a_15, c_22, c_24, c_27, c_31⟩ := TI_node hT T_17
        refine hm_put (ci := 1) (v := .int st9) (ty := .int) (C := R_No) (T := F_No) (N := 11) hx hb hts ig_No t_No tk_No nm_No hown hK hH hLo F_a_15 rfl 9 (by decide) (hts _ mw_241) (fun _ h9 => h9) rfl (by decide +kernel) rfl rfl (Nat.le_of_ble_eq_true rfl) d_Wr_writeAllFiles_55 (fun H_35 locs hH z_36 hLo => ?_)
        have hz : s.heap.size ≤ H_35.size := by rw [z_36]; exact hz
        obtain ⟨h_37, e_38⟩ : ∃ z, z = hu HH a_15 (.inr (1, [.int v_20, va_rf v_21, .int v_23, .long v_25, .int v_26, .int v_28, .int v_29, .int v_30, .int v_32, .int st9, .int v_34])) := ⟨_, rfl⟩
        have hH : hm D vwCl G h_37 H_35 := by rw [e_38]; exact hH
        have hOld := F_a_15
        have F_a_15 : h_37 a_15 = some (.inr (1, [.int v_20, va_rf v_21, .int v_23, .long v_25, .int v_26, .int v_28, .int v_29, .int v_30, .int v_32, .int st9, .int v_34])) := by rw [e_38]; exact hu_s _ _ _
        have hT : TI τ t n h_37 := by rw [e_38]; exact TI_put hT T_17 (by decide) ⟨v_20, v_21, v_23, v_25, v_26, v_28, v_29, v_30, v_32, st9, v_34, rfl, c_22, c_24, c_27, c_31⟩
        have hkf : kf τ [(13, 0), (11, 0), (3, 0), (5, 0), (10, f)] [] h h_37 := by rw [e_38]; exact kf_put hkf T_17 (List.mem_cons_of_mem _ (List.mem_cons_of_mem _ (List.mem_cons_of_mem _ (List.mem_cons_of_mem _ List.mem_cons_self))))
        have hnl : cs + nl L h_37 ≤ nl L h := Nat.le_trans (Nat.add_le_add_left (nl_mono hL (by rw [e_38]; exact nlp_put2 nlp_rf (fun z => by have := z.symm.trans T_17; simp at this))) _) hnl
        have hnp_f : knp τ f h h_37 := by rw [e_38]; exact knp_put hnp_f hOld
        obtain ⟨j_39, e_40⟩ : ∃ z : Int32, z = i9 + 1 := ⟨_, rfl⟩
        refine lv_iinc (v := j_39) (lv' := [(4, .int j_39), (6, .int st9), (0, .ref w9), (1, .ref P9), (2, .ref m8), (3, .ref m9), (5, .ref a_15)]) hx hb d_Wr_writeAllFiles_58 hl (k := 5) rfl e_40.symm (by decide) rfl (fun ls hl => ?_)
        refine lv_goto (tgt := 3) hx hb d_Wr_writeAllFiles_61 (by decide) ?_
        have is_41 : j_39.toInt = i9.toInt + 1 := by rw [e_40]; exact iAddK 1 rfl (by omega) (by omega)
        exact ih3 (mU j_39) ls _ locs _ _ _ (by rw [hk3]; exact mU_lt (by omega)) ⟨j_39, cs, rfl, (by omega), (by omega), (lv_sub hl [2, 3, 4, 5, 0] rfl), hH, hz, hLo, hT, hkf, hnl, hnp_f, (by omega)⟩
      · skip
        have ic_42 : st9.toInt < 0 := iNe hc_18
        refine lv_iload hx hb d_Wr_writeAllFiles_48 (lv_at hl 0 rfl) ?_
        refine W.toD ?_
        exact W.iret (v := st9) hx hb hr (fun t9 ht hW => ⟨st9, HH, rfl, ⟨(by omega), (by omega), hT, hkf, hnp_f⟩, by rw [ht]; exact hH, by rw [ht]; exact hz⟩) hLo d_Wr_writeAllFiles_50
    · skip
      refine lv_aload hx hb d_Wr_writeAllFiles_21 (lv_at hl 0 rfl) ?_
      obtain ⟨v_43, v_44, v_46, v_48, v_49, v_51, v_52, v_53, v_55, v_56, v_57, F_a_15, c_45, c_47, c_50, c_54⟩ := TI_node hT T_17
      refine hm_callPi (va_runV (As := []) (b := a_15) (rest := []) ⟨hx, hb, hml, hown, hts⟩ (t_needs l D t G ak av hh3 τ n f a_15  hn hT T_17) ⟨cw9B 0 hts mw_281 mw_282 mw_106 rfl rfl (by decide +kernel) ⟨Nat.le_of_ble_eq_true rfl, Nat.le_of_ble_eq_true rfl⟩, hts _ mw_283, hts _ mw_284⟩ (hP_V (q := (R_No, F_No, 11)) kE_ok hE hK hH F_a_15 rfl) rfl rfl hl.1 rfl (lv_room (Nat.le_of_ble_eq_true rfl)) d_Wr_writeAllFiles_23 ⟨show cs + 0 ≤ B by omega, show (2048 * cs) + 0 ≤ 2048 * B by omega⟩) (fun r_58 h_59 H_60 hp_62  hH z_61 => ?_)
      have hz : s.heap.size ≤ H_60.size := Nat.le_trans hz z_61
      obtain ⟨c_63, rfl⟩ := hp_62
      refine lv_if_eq (tgt := 40) hx hb d_Wr_writeAllFiles_26 (by decide) (fun hc_65 => ?_) (fun hc_65 => ?_)
      · skip
        have ic_66 : r_58.toInt = 0 := congrArg Int32.toInt hc_65
        refine lv_iconst (v := 0) hx hb d_Wr_writeAllFiles_40 (by decide) ?_
        exact J41 0 _ _ _ _ _ _ ⟨cs, (by omega), (by omega), (lv_sub hl [1, 2, 3, 4, 5, 0] rfl), hH, hz, hLo, hT, hkf, hnl, hnp_f⟩
      · skip
        refine lv_aload_n hx hb d_Wr_writeAllFiles_29 rfl (lv_at hl 1 rfl) ?_
        refine lv_aload hx hb d_Wr_writeAllFiles_30 (lv_at hl 0 rfl) ?_
        refine lv_aload_n hx hb d_Wr_writeAllFiles_32 rfl (lv_at hl 3 rfl) ?_
        refine lv_aload_n hx hb d_Wr_writeAllFiles_33 rfl (lv_at hl 4 rfl) ?_
        obtain ⟨v_67, v_69, F_w9, c_68, c_70⟩ := TI_wri hT T_w9
        refine hm_callDi (va_runVD (As := [.ref a_15, .ref m8, .ref m9]) (b := w9) (rest := []) ⟨hx, hb, hml, hown, hts⟩ (t_wfile l D t G ak av hh3 τ n f w9 a_15 m8 m9 hn hT T_w9 T_17 T_m8 T_m9 L (B - cs) hL hL2 (by omega)) ⟨cw9B 3 hts mw_286 mw_287 mw_275 rfl rfl (by decide +kernel) ⟨Nat.le_of_ble_eq_true rfl, Nat.le_of_ble_eq_true rfl⟩, hts _ mw_288, hts _ mw_289⟩ (hP_V (q := (R_Wr, F_Wr, 2)) kE_ok hE hK hH F_w9 rfl) rfl rfl hl.1 rfl (lv_room (Nat.le_of_ble_eq_true rfl)) d_Wr_writeAllFiles_34 ⟨show cs + (B - cs) ≤ B by omega, show (2048 * cs) + 2048 * (B - cs) ≤ 2048 * B by omega⟩) hLo (fun r_71 h_72 H_73 locs k_76 n_77 hp_75 hH z_74 hLo => ?_)
        have hz : s.heap.size ≤ H_73.size := Nat.le_trans hz z_74
        obtain ⟨rfl, hnl2, hT, kf_78⟩ := hp_75
        have F_P9 : h_72 P9 = some (.inr (2, [.ref v_1, .ref v_3, .int v_5, .int v_7])) := kf_at kf_78 T_P9 (by decide) (tnc (by decide) (tnc (by decide) (tnc (by decide) (tnc (by decide) tn0)))) nm0 F_P9
        have F_v_1 : h_72 v_1 = some (.inl ((t 4), 30, .inr (.inr (.inr (.inr g_12))))) := kf_at kf_78 c_2 (by decide) (tnc (by decide) (tnc (by decide) (tnc (by decide) (tnc (by decide) tn0)))) nm0 F_v_1
        have F_a_15 : h_72 a_15 = some (.inr (1, [.int v_43, va_rf v_44, .int v_46, .long v_48, .int v_49, .int v_51, .int v_52, .int v_53, .int v_55, .int v_56, .int v_57])) := kf_at kf_78 T_17 (by decide) (tnc (by decide) (tnc (by decide) (tnc (by decide) (tnc (by decide) tn0)))) nm0 F_a_15
        have F_w9 : h_72 w9 = some (.inr (7, [.ref v_67, .ref v_69])) := kf_at kf_78 T_w9 (by decide) (tnc (by decide) (tnc (by decide) (tnc (by decide) (tnc (by decide) tn0)))) nm0 F_w9
        have hnl : (cs + k_76) + nl L h_72 ≤ nl L h := by omega
        have hnp_f : knp τ f h h_72 := knp_kf hnp_f kf_78 (tnc (by decide) (tnc (by decide) (tnc (by decide) (tnc (by decide) tn0)))) (List.forall_mem_nil _)
        have hkf : kf τ [(13, 0), (11, 0), (3, 0), (5, 0), (10, f)] [] h h_72 := kf_tr hkf kf_78 (List.forall_mem_cons.mpr ⟨List.mem_cons_self, List.forall_mem_cons.mpr ⟨(List.mem_cons_of_mem _ List.mem_cons_self), List.forall_mem_cons.mpr ⟨(List.mem_cons_of_mem _ (List.mem_cons_of_mem _ List.mem_cons_self)), List.forall_mem_cons.mpr ⟨(List.mem_cons_of_mem _ (List.mem_cons_of_mem _ (List.mem_cons_of_mem _ List.mem_cons_self))), List.forall_mem_nil _⟩⟩⟩⟩) (List.forall_mem_nil _)
        refine lv_goto (tgt := 41) hx hb d_Wr_writeAllFiles_37 (by decide) ?_
        exact J41 r_71 _ _ _ _ _ _ ⟨(cs + k_76), (by omega), (by omega), (lv_sub hl [1, 2, 3, 4, 5, 0] rfl), hH, hz, hLo, hT, hkf, hnl, hnp_f⟩

set_option maxHeartbeats 4000000 in
set_option maxRecDepth 100000 in
theorem t_whead (l : Launch) (D : va_G) (t : Nat → ClassId) (G : hG) (ak av : Nat → Nat) (h : hM) (τ : tM) (n f : Nat) (w9 : Nat) (P9 : Nat) (m9 : Nat) (b8 : Int32) (hn : n ≤ 200) (hT : TI τ t n h) (T_w9 : τ w9 = (2, 0)) (T_P9 : τ P9 = (7, f)) (T_m9 : τ m9 = (11, 0)) (L : List Nat) (B : Nat) (hL : ∀ a ∈ L, τ a = (13, 0)) (hL2 : ∀ a, τ a = (13, 0) → a ∈ L) (hB : nl L h ≤ B) : MetD l y_Wr_writeHead (.code y_Wr_writeHead b_Wr_writeHead 7 (some .int) :: lw_g) { frames := 8, cells := B, slots := 2048 * B, locals := 181 } (hP (kE D t G ak av) D vwCl G h [.ref w9, .ref P9, .ref m9, .int b8]) (fun kk nn => hQi D vwCl G (fun r h' => nn = 2048 * kk ∧ kk + nl L h' ≤ nl L h ∧ TI τ t n h' ∧ kf τ [(13, 0), (11, 0), (3, 0), (5, 0), (10, f)] [] h h' ∧ knp τ f h h')) G.P := by
  refine MetD.ofW (cc := b_Wr_writeHead) (maxL := 7) (ret := (some .int)) (by decide) rfl ?_
  intro p e s m args below meth c s₁ Bd hml hv
  obtain ⟨ha, hE, hH⟩ := hv
  have hx := Bd.exec
  have hb := Bd.bytes
  have hr := Bd.returns
  have hts : ∀ w ∈ lw_g, w.before args s = true := fun w hw => atoms_spec (ws := (.code y_Wr_writeHead b_Wr_writeHead 7 (some .int) :: lw_g)) Bd.pre w (List.mem_cons_of_mem _ hw)
  have hown : s.vm.findClass R_Wr = some m.cls := findClass_of_methodNamed Bd.named
  have hlocks := Bd.notSynchronized
  have hK := hE.1
  have hH0 := hH
  have hLo : hLc G.P [] := hLc_nil
  have hz : s.heap.size ≤ s.heap.size := Nat.le_refl _
  have hl := lv_entry [.ref w9, .ref P9, .ref m9, .int b8] (n := 7) (Nat.le_of_ble_eq_true rfl)
  rw [show entryFrame m args 7 = F0 m 0 ((lg_sl [.ref w9, .ref P9, .ref m9, .int b8] ++ List.replicate (7 - (lg_sl [.ref w9, .ref P9, .ref m9, .int b8]).length) Slot.unset).toArray) [] from (by rw [ha]; exact lg_entry_eq m [.ref w9, .ref P9, .ref m9, .int b8] 7)]
  generalize (lg_sl [.ref w9, .ref P9, .ref m9, .int b8] ++ List.replicate (7 - (lg_sl [.ref w9, .ref P9, .ref m9, .int b8]).length) Slot.unset).toArray = ls at hl ⊢
  have hl : lv_has ls 7 [(0, .ref w9), (1, .ref P9), (2, .ref m9), (3, .int b8)] := hl
  have hkf : kf τ [(13, 0), (11, 0), (3, 0), (5, 0), (10, f)] [] h h := kf_rf
  have hnl : 0 + nl L h ≤ nl L h := Nat.le_of_eq (Nat.zero_add _)
  have hnp_f : knp τ f h h := knp_rf
  refine lv_aload_n hx hb d_Wr_writeHead_0 rfl (lv_at hl 0 rfl) ?_
  obtain ⟨v_1, v_3, F_w9, c_2, c_4⟩ := TI_wri hT T_w9
  refine hm_get (ci := 7) (v := .ref v_3) (C := R_Wr) (T := F_Wr) (N := 2) hx hb hts ig_Wr hown hK hH F_w9 rfl 1 (by decide) (hts _ mw_256) (fun _ h9 => h9) rfl d_Wr_writeHead_1 ?_
  refine lv_aload_n hx hb d_Wr_writeHead_4 rfl (lv_at hl 1 rfl) ?_
  obtain ⟨v_5, v_7, v_9, v_11, F_P9, c_6, c_8, c_10⟩ := TI_nds hT T_P9
  refine hm_get (ci := 2) (v := .ref v_7) (C := R_Ns) (T := F_Ns) (N := 4) hx hb hts ig_Ns hown hK hH F_P9 rfl 1 (by decide) (hts _ mw_239) (fun _ h9 => h9) rfl d_Wr_writeHead_5 ?_
  refine lv_aload_n hx hb d_Wr_writeHead_8 rfl (lv_at hl 1 rfl) ?_
  refine hm_get (ci := 2) (v := .int v_9) (C := R_Ns) (T := F_Ns) (N := 4) hx hb hts ig_Ns hown hK hH F_P9 rfl 2 (by decide) (hts _ mw_238) (fun _ h9 => h9) rfl d_Wr_writeHead_9 ?_
  refine lv_iconst (v := 1) hx hb d_Wr_writeHead_12 (by decide) ?_
  obtain ⟨v_12, F_v_3, c_13⟩ := TI_page hT c_4
  refine hm_calli (va_runV (As := [.ref v_7, .int v_9, .int 1]) (b := v_3) (rest := []) ⟨hx, hb, hml, hown, hts⟩ (t_fpath9 l D t G ak av h τ n 0 f v_3 v_7 v_9 (1 : Int32)  hn hT c_4 c_8 zb1) ⟨cw9B 3 hts mw_291 mw_292 mw_77 rfl rfl (by decide +kernel) ⟨Nat.le_of_ble_eq_true rfl, Nat.le_of_ble_eq_true rfl⟩, hts _ mw_293, hts _ mw_294⟩ (hP_V (q := (R_Pg, F_Pg, 1)) kE_ok hE hK hH F_v_3 rfl) rfl rfl hl.1 rfl (lv_room (Nat.le_of_ble_eq_true rfl)) d_Wr_writeHead_13 ⟨show 0 + 0 ≤ B by omega, show 0 + 0 ≤ 2048 * B by omega⟩) hLo (fun r_14 h_15 H_16 locs hp_18 hH z_17 hLo => ?_)
  have hz : s.heap.size ≤ H_16.size := Nat.le_trans hz z_17
  have hT0 := hT
  obtain ⟨hT, kf_20, xk_21⟩ := hp_18
  have F_w9 : h_15 w9 = some (.inr (7, [.ref v_1, .ref v_3])) := kf_at kf_20 T_w9 (by decide) (tnc (by decide) (tnc (by decide) tn0)) nm0 F_w9
  have F_P9 : h_15 P9 = some (.inr (2, [.ref v_5, .ref v_7, .int v_9, .int v_11])) := kf_at kf_20 T_P9 (by decide) (tnc (by decide) (tnc (by decide) tn0)) nm0 F_P9
  have F_v_3 : h_15 v_3 = some (.inr (3, [.ref v_12])) := kf_at kf_20 c_4 (by decide) (tnc (by decide) (tnc (by decide) tn0)) nm0 F_v_3
  have hnl : 0 + nl L h_15 ≤ nl L h := Nat.le_trans (Nat.add_le_add_left (nl_mono hL (nlp_kf nlp_rf kf_20 (tnc (by decide) (tnc (by decide) tn0)) (List.forall_mem_nil _))) _) hnl
  have hnp_f : knp τ f h h_15 := knp_tr hnp_f xk_21
  have hkf : kf τ [(13, 0), (11, 0), (3, 0), (5, 0), (10, f)] [] h h_15 := kf_tr hkf kf_20 (List.forall_mem_cons.mpr ⟨(List.mem_cons_of_mem _ (List.mem_cons_of_mem _ (List.mem_cons_of_mem _ List.mem_cons_self))), List.forall_mem_cons.mpr ⟨(List.mem_cons_of_mem _ (List.mem_cons_of_mem _ (List.mem_cons_of_mem _ (List.mem_cons_of_mem _ List.mem_cons_self)))), List.forall_mem_nil _⟩⟩) (List.forall_mem_nil _)
  refine lv_istore (lv' := [(4, .int r_14), (0, .ref w9), (1, .ref P9), (2, .ref m9), (3, .int b8)]) hx hb d_Wr_writeHead_16 hl (by decide) rfl (fun ls hl => ?_)
  refine lv_iconst (v := 1) hx hb d_Wr_writeHead_18 (by decide) ?_
  refine lv_istore (lv' := [(5, .int 1), (4, .int r_14), (0, .ref w9), (1, .ref P9), (2, .ref m9), (3, .int b8)]) hx hb d_Wr_writeHead_19 hl (by decide) rfl (fun ls hl => ?_)
  refine lv_bipush (v := 16) hx hb d_Wr_writeHead_21 (by decide) ?_
  refine lv_istore (lv' := [(6, .int 16), (5, .int 1), (4, .int r_14), (0, .ref w9), (1, .ref P9), (2, .ref m9), (3, .int b8)]) hx hb d_Wr_writeHead_23 hl (by decide) rfl (fun ls hl => ?_)
  refine hm_loopC (fun k25 ls H locs hh25 cs ss => ∃ (oc9 : Int32) (i9 : Int32) (kc25 : Nat), k25 = (20 - i9.toInt).toNat ∧ cs = kc25 ∧ ss = 2048 * kc25 ∧ lv_has ls 7 [(0, .ref w9), (1, .ref P9), (2, .ref m9), (3, .int b8), (4, .int r_14), (5, .int oc9), (6, .int i9)] ∧ hm D vwCl G hh25 H ∧ s.heap.size ≤ H.size ∧ hLc G.P locs ∧ (TI τ t n hh25) ∧ (kf τ [(13, 0), (11, 0), (3, 0), (5, 0), (10, f)] [] h hh25) ∧ (kc25 + nl L hh25 ≤ nl L h) ∧ (knp τ f h hh25) ∧ (16 ≤ i9.toInt ∧ i9.toInt ≤ 20)) ?_ (hh := h_15) ⟨1, 16, 0, rfl, (by omega), (by omega), (lv_sub hl [3, 4, 5, 6, 2, 1, 0] rfl), hH, hz, hLo, hT, hkf, hnl, hnp_f, (by decide)⟩
  rintro k25 ls H locs hh25 cs ss ⟨oc9, i9, kc25, hk25, rfl, rfl, hl, hH, hz, hLo, hT, hkf, hnl, hnp_f, I_i9⟩ ih25
  refine lv_iload hx hb d_Wr_writeHead_25 (lv_at hl 6 rfl) ?_
  refine lv_bipush (v := 19) hx hb d_Wr_writeHead_27 (by decide) ?_
  refine lv_icmp_gt (tgt := 156) hx hb d_Wr_writeHead_29 (by decide) (fun hc_22 => ?_) (fun hc_22 => ?_)
  · skip
    have ic_23 : 19 < i9.toInt := iLt hc_22
    have iu_24 : i9.toInt < 2147483648 := iUp _
    refine lv_iload hx hb d_Wr_writeHead_156 (lv_at hl 5 rfl) ?_
    refine W.toD ?_
    exact W.iret (v := oc9) hx hb hr (fun t9 ht hW => ⟨oc9, hh25, rfl, ⟨(by omega), (by omega), hT, hkf, hnp_f⟩, by rw [ht]; exact hH, by rw [ht]; exact hz⟩) hLo d_Wr_writeHead_158
  · skip
    have ic_25 : i9.toInt ≤ 19 := iNl hc_22
    refine lv_iload hx hb d_Wr_writeHead_32 (lv_at hl 5 rfl) ?_
    refine lv_iconst (v := 1) hx hb d_Wr_writeHead_34 (by decide) ?_
    refine lv_icmp_ne (tgt := 156) hx hb d_Wr_writeHead_35 (by decide) (fun hc_26 => ?_) (fun hc_26 => ?_)
    · skip
      refine lv_iload hx hb d_Wr_writeHead_156 (lv_at hl 5 rfl) ?_
      refine W.toD ?_
      exact W.iret (v := oc9) hx hb hr (fun t9 ht hW => ⟨oc9, hh25, rfl, ⟨(by omega), (by omega), hT, hkf, hnp_f⟩, by rw [ht]; exact hH, by rw [ht]; exact hz⟩) hLo d_Wr_writeHead_158
    · skip
      have ic_27 : oc9.toInt = 1 := congrArg Int32.toInt hc_26
      refine hm_cutC (α := Unit) (fun un9 ls H locs HH cs ss => ∃ (kq129 : Nat), (cs = kq129) ∧ (ss = 2048 * kq129) ∧ (lv_has ls 7 [(0, .ref w9), (1, .ref P9), (2, .ref m9), (3, .int b8), (4, .int r_14), (5, .int oc9), (6, .int i9)]) ∧ (hm D vwCl G HH H) ∧ (s.heap.size ≤ H.size) ∧ (hLc G.P locs) ∧ (TI τ t n HH) ∧ (kf τ [(13, 0), (11, 0), (3, 0), (5, 0), (10, f)] [] h HH) ∧ (kq129 + nl L HH ≤ nl L h) ∧ (knp τ f h HH)) 129 (fun un9 => []) ?_ (fun J129 => ?_)
      · skip
        rintro un9 ls H locs HH cs ss ⟨kq129, rfl, rfl, hl, hH, hz, hLo, hT, hkf, hnl, hnp_f⟩
        refine lv_aload_n hx hb d_Wr_writeHead_129 rfl (lv_at hl 2 rfl) ?_
        refine lv_iload_n hx hb d_Wr_writeHead_130 rfl (lv_at hl 3 rfl) ?_
        refine lv_iload hx hb d_Wr_writeHead_131 (lv_at hl 6 rfl) ?_
        refine lv_iadd hx hb d_Wr_writeHead_133 ?_
        refine lv_aload_n hx hb d_Wr_writeHead_134 rfl (lv_at hl 0 rfl) ?_
        obtain ⟨v_28, v_30, F_w9, c_29, c_31⟩ := TI_wri hT T_w9
        refine hm_get (ci := 7) (v := .ref v_30) (C := R_Wr) (T := F_Wr) (N := 2) hx hb hts ig_Wr hown hK hH F_w9 rfl 1 (by decide) (hts _ mw_256) (fun _ h9 => h9) rfl d_Wr_writeHead_135 ?_
        obtain ⟨v_32, F_v_30, c_33⟩ := TI_page hT c_31
        refine hm_get (ci := 3) (v := .ref v_32) (C := R_Pg) (T := F_Pg) (N := 1) hx hb hts ig_Pg hown hK hH F_v_30 rfl 0 (by decide) (hts _ mw_262) (fun _ h9 => h9) rfl d_Wr_writeHead_138 ?_
        refine lv_aload_n hx hb d_Wr_writeHead_141 rfl (lv_at hl 0 rfl) ?_
        refine hm_get (ci := 7) (v := .ref v_28) (C := R_Wr) (T := F_Wr) (N := 2) hx hb hts ig_Wr hown hK hH F_w9 rfl 0 (by decide) (hts _ mw_263) (fun _ h9 => h9) rfl d_Wr_writeHead_142 ?_
        obtain ⟨v_34, v_36, F_m9, c_35⟩ := TI_med hT T_m9
        refine hm_callDi (va_runVD (As := [.int (b8 + i9), .ref v_32, .ref v_28]) (b := m9) (rest := []) ⟨hx, hb, hml, hown, hts⟩ (t_write l D t G ak av HH τ n m9 (b8 + i9) v_32 v_28 hn hT T_m9 c_33 c_29 L (B - cs) hL hL2 (by omega)) ⟨cw9B 3 hts mw_264 mw_265 mw_32 rfl rfl (by decide +kernel) ⟨Nat.le_of_ble_eq_true rfl, Nat.le_of_ble_eq_true rfl⟩, hts _ mw_266, hts _ mw_267⟩ (hP_V (q := (R_Me, F_Me, 2)) kE_ok hE hK hH F_m9 rfl) rfl rfl hl.1 rfl (lv_room (Nat.le_of_ble_eq_true rfl)) d_Wr_writeHead_145 ⟨show cs + (B - cs) ≤ B by omega, show (2048 * cs) + 2048 * (B - cs) ≤ 2048 * B by omega⟩) hLo (fun r_37 h_38 H_39 locs k_42 n_43 hp_41 hH z_40 hLo => ?_)
        have hz : s.heap.size ≤ H_39.size := Nat.le_trans hz z_40
        obtain ⟨rfl, hnl2, hT, kf_44⟩ := hp_41
        have F_w9 : h_38 w9 = some (.inr (7, [.ref v_28, .ref v_30])) := kf_at kf_44 T_w9 (by decide) (tnc (by decide) (tnc (by decide) (tnc (by decide) tn0))) nm0 F_w9
        have F_v_30 : h_38 v_30 = some (.inr (3, [.ref v_32])) := kf_at kf_44 c_31 (by decide) (tnc (by decide) (tnc (by decide) (tnc (by decide) tn0))) nm0 F_v_30
        have hnl : (cs + k_42) + nl L h_38 ≤ nl L h := by omega
        have hnp_f : knp τ f h h_38 := knp_kf hnp_f kf_44 (tnc (by decide) (tnc (by decide) (tnc (by decide) tn0))) (List.forall_mem_nil _)
        have hkf : kf τ [(13, 0), (11, 0), (3, 0), (5, 0), (10, f)] [] h h_38 := kf_tr hkf kf_44 (List.forall_mem_cons.mpr ⟨List.mem_cons_self, List.forall_mem_cons.mpr ⟨(List.mem_cons_of_mem _ List.mem_cons_self), List.forall_mem_cons.mpr ⟨(List.mem_cons_of_mem _ (List.mem_cons_of_mem _ List.mem_cons_self)), List.forall_mem_nil _⟩⟩⟩) (List.forall_mem_nil _)
        refine lv_istore (lv' := [(5, .int r_37), (0, .ref w9), (1, .ref P9), (2, .ref m9), (3, .int b8), (4, .int r_14), (6, .int i9)]) hx hb d_Wr_writeHead_148 hl (by decide) rfl (fun ls hl => ?_)
        obtain ⟨j_46, e_47⟩ : ∃ z : Int32, z = i9 + 1 := ⟨_, rfl⟩
        refine lv_iinc (v := j_46) (lv' := [(6, .int j_46), (5, .int r_37), (0, .ref w9), (1, .ref P9), (2, .ref m9), (3, .int b8), (4, .int r_14)]) hx hb d_Wr_writeHead_150 hl (k := 6) rfl e_47.symm (by decide) rfl (fun ls hl => ?_)
        refine lv_goto (tgt := 25) hx hb d_Wr_writeHead_153 (by decide) ?_
        have is_48 : j_46.toInt = i9.toInt + 1 := by rw [e_47]; exact iAddK 1 rfl (by omega) (by omega)
        exact ih25 ((20 - j_46.toInt).toNat) ls _ locs _ _ _ (by rw [hk25]; omega) ⟨r_37, j_46, (cs + k_42), rfl, (by omega), (by omega), (lv_sub hl [2, 3, 4, 5, 6, 1, 0] rfl), hH, hz, hLo, hT, hkf, hnl, hnp_f, ⟨by omega, by omega⟩⟩
      · skip
        refine lv_iload hx hb d_Wr_writeHead_38 (lv_at hl 6 rfl) ?_
        rcases (show i9.toInt = 16 ∨ i9.toInt = 17 ∨ (i9.toInt ≠ 16 ∧ i9.toInt ≠ 17) by omega) with hsw | hsw | hsw
        · skip
          refine lv_lookup (x := i9) (off := 28) (tgt := 68) hx hb d_Wr_writeHead_40 (by decide) (by rw [hsw]; decide) (by decide) ?_
          refine lv_aload_n hx hb d_Wr_writeHead_68 rfl (lv_at hl 0 rfl) ?_
          obtain ⟨v_49, v_51, F_w9, c_50, c_52⟩ := TI_wri hT T_w9
          refine hm_get (ci := 7) (v := .ref v_51) (C := R_Wr) (T := F_Wr) (N := 2) hx hb hts ig_Wr hown hK hH F_w9 rfl 1 (by decide) (hts _ mw_256) (fun _ h9 => h9) rfl d_Wr_writeHead_69 ?_
          refine lv_aload_n hx hb d_Wr_writeHead_72 rfl (lv_at hl 2 rfl) ?_
          refine lv_iload_n hx hb d_Wr_writeHead_73 rfl (lv_at hl 3 rfl) ?_
          refine lv_iload hx hb d_Wr_writeHead_74 (lv_at hl 4 rfl) ?_
          refine lv_aload_n hx hb d_Wr_writeHead_76 rfl (lv_at hl 1 rfl) ?_
          obtain ⟨v_53, v_55, v_57, v_59, F_P9, c_54, c_56, c_58⟩ := TI_nds hT T_P9
          refine hm_get (ci := 2) (v := .ref v_53) (C := R_Ns) (T := F_Ns) (N := 4) hx hb hts ig_Ns hown hK hH F_P9 rfl 0 (by decide) (hts _ mw_279) (fun _ h9 => h9) rfl d_Wr_writeHead_77 ?_
          refine lv_iconst (v := 0) hx hb d_Wr_writeHead_80 (by decide) ?_
          obtain ⟨g_60, F_v_53, c_61, c_62⟩ := TI_slo hT c_54
          obtain ⟨a_63, e_64, T_65⟩ := c_61 ((0 : Int32).toNatClampNeg) (by decide)
          refine hm_aald (v := .ref a_63) hx hb hK hH 4 F_v_53 (C := R_No) rfl (iIn (by decide) (by decide)) (by rw [e_64]; rfl) d_Wr_writeHead_81 ?_
          obtain ⟨v_66, F_v_51, c_67⟩ := TI_page hT c_52
          refine hm_callv (va_runV (As := [.ref m9, .int b8, .int r_14, .ref a_63]) (b := v_51) (rest := []) ⟨hx, hb, hml, hown, hts⟩ (t_fdesc l D t G ak av hh25 τ n 0 f v_51 m9 b8 r_14 a_63  hn hT c_52 T_m9 T_65) ⟨cw9B 4 hts mw_295 mw_296 mw_77 rfl rfl (by decide +kernel) ⟨Nat.le_of_ble_eq_true rfl, Nat.le_of_ble_eq_true rfl⟩, hts _ mw_297, hts _ mw_298⟩ (hP_V (q := (R_Pg, F_Pg, 1)) kE_ok hE hK hH F_v_51 rfl) rfl rfl hl.1 rfl (lv_room (Nat.le_of_ble_eq_true rfl)) d_Wr_writeHead_82 ⟨show cs + 0 ≤ B by omega, show (2048 * cs) + 0 ≤ 2048 * B by omega⟩) hLo (fun h_68 H_69 locs hp_71 hH z_70 hLo => ?_)
          have hz : s.heap.size ≤ H_69.size := Nat.le_trans hz z_70
          have hT0 := hT
          obtain ⟨hT, kf_73⟩ := hp_71
          have F_w9 : h_68 w9 = some (.inr (7, [.ref v_49, .ref v_51])) := kf_at kf_73 T_w9 (by decide) (tnc (by decide) tn0) nm0 F_w9
          have F_P9 : h_68 P9 = some (.inr (2, [.ref v_53, .ref v_55, .int v_57, .int v_59])) := kf_at kf_73 T_P9 (by decide) (tnc (by decide) tn0) nm0 F_P9
          have F_v_53 : h_68 v_53 = some (.inl ((t 4), 30, .inr (.inr (.inr (.inr g_60))))) := kf_at kf_73 c_54 (by decide) (tnc (by decide) tn0) nm0 F_v_53
          have F_v_51 : h_68 v_51 = some (.inr (3, [.ref v_66])) := kf_at kf_73 c_52 (by decide) (tnc (by decide) tn0) nm0 F_v_51
          have hnl : cs + nl L h_68 ≤ nl L h := Nat.le_trans (Nat.add_le_add_left (nl_mono hL (nlp_kf nlp_rf kf_73 (tnc (by decide) tn0) (List.forall_mem_nil _))) _) hnl
          have hnp_f : knp τ f h h_68 := knp_kf hnp_f kf_73 (tnc (by decide) tn0) (List.forall_mem_nil _)
          have hkf : kf τ [(13, 0), (11, 0), (3, 0), (5, 0), (10, f)] [] h h_68 := kf_tr hkf kf_73 (List.forall_mem_cons.mpr ⟨(List.mem_cons_of_mem _ (List.mem_cons_of_mem _ (List.mem_cons_of_mem _ List.mem_cons_self))), List.forall_mem_nil _⟩) (List.forall_mem_nil _)
          refine lv_goto (tgt := 129) hx hb d_Wr_writeHead_85 (by decide) ?_
          exact J129 () _ _ _ _ _ _ ⟨cs, (by omega), (by omega), (lv_sub hl [0, 1, 2, 3, 4, 5, 6] rfl), hH, hz, hLo, hT, hkf, hnl, hnp_f⟩
        · skip
          refine lv_lookup (x := i9) (off := 48) (tgt := 88) hx hb d_Wr_writeHead_40 (by decide) (by rw [hsw]; decide) (by decide) ?_
          refine lv_aload_n hx hb d_Wr_writeHead_88 rfl (lv_at hl 0 rfl) ?_
          obtain ⟨v_74, v_76, F_w9, c_75, c_77⟩ := TI_wri hT T_w9
          refine hm_get (ci := 7) (v := .ref v_76) (C := R_Wr) (T := F_Wr) (N := 2) hx hb hts ig_Wr hown hK hH F_w9 rfl 1 (by decide) (hts _ mw_256) (fun _ h9 => h9) rfl d_Wr_writeHead_89 ?_
          refine lv_sipush (v := 255) hx hb d_Wr_writeHead_92 (by decide) ?_
          obtain ⟨v_78, F_v_76, c_79⟩ := TI_page hT c_77
          refine hm_callv (va_runV (As := [.int 255]) (b := v_76) (rest := []) ⟨hx, hb, hml, hown, hts⟩ (t_std l D t G ak av hh25 τ n 0 v_76 255  hn hT c_77) ⟨cw9B 1 hts mw_193 mw_299 mw_77 rfl rfl (by decide +kernel) ⟨Nat.le_of_ble_eq_true rfl, Nat.le_of_ble_eq_true rfl⟩, hts _ mw_195, hts _ mw_196⟩ (hP_V (q := (R_Pg, F_Pg, 1)) kE_ok hE hK hH F_v_76 rfl) rfl rfl hl.1 rfl (lv_room (Nat.le_of_ble_eq_true rfl)) d_Wr_writeHead_95 ⟨show cs + 0 ≤ B by omega, show (2048 * cs) + 0 ≤ 2048 * B by omega⟩) hLo (fun h_80 H_81 locs hp_83 hH z_82 hLo => ?_)
          have hz : s.heap.size ≤ H_81.size := Nat.le_trans hz z_82
          have hT0 := hT
          obtain ⟨hT, kf_85⟩ := hp_83
          have F_w9 : h_80 w9 = some (.inr (7, [.ref v_74, .ref v_76])) := kf_at kf_85 T_w9 (by decide) (tnc (by decide) tn0) nm0 F_w9
          have F_v_76 : h_80 v_76 = some (.inr (3, [.ref v_78])) := kf_at kf_85 c_77 (by decide) (tnc (by decide) tn0) nm0 F_v_76
          have hnl : cs + nl L h_80 ≤ nl L h := Nat.le_trans (Nat.add_le_add_left (nl_mono hL (nlp_kf nlp_rf kf_85 (tnc (by decide) tn0) (List.forall_mem_nil _))) _) hnl
          have hnp_f : knp τ f h h_80 := knp_kf hnp_f kf_85 (tnc (by decide) tn0) (List.forall_mem_nil _)
          have hkf : kf τ [(13, 0), (11, 0), (3, 0), (5, 0), (10, f)] [] h h_80 := kf_tr hkf kf_85 (List.forall_mem_cons.mpr ⟨(List.mem_cons_of_mem _ (List.mem_cons_of_mem _ (List.mem_cons_of_mem _ List.mem_cons_self))), List.forall_mem_nil _⟩) (List.forall_mem_nil _)
          refine lv_goto (tgt := 129) hx hb d_Wr_writeHead_98 (by decide) ?_
          exact J129 () _ _ _ _ _ _ ⟨cs, (by omega), (by omega), (lv_sub hl [0, 1, 2, 3, 4, 5, 6] rfl), hH, hz, hLo, hT, hkf, hnl, hnp_f⟩
        · skip
          refine lv_lookup (x := i9) (off := 61) (tgt := 101) hx hb d_Wr_writeHead_40 (by decide) (by simp [Op.lookupswitch.offset, Ne.symm hsw.1, Ne.symm hsw.2]) (by decide) ?_
          refine lv_aload_n hx hb d_Wr_writeHead_101 rfl (lv_at hl 0 rfl) ?_
          obtain ⟨v_86, v_88, F_w9, c_87, c_89⟩ := TI_wri hT T_w9
          refine hm_get (ci := 7) (v := .ref v_88) (C := R_Wr) (T := F_Wr) (N := 2) hx hb hts ig_Wr hown hK hH F_w9 rfl 1 (by decide) (hts _ mw_256) (fun _ h9 => h9) rfl d_Wr_writeHead_102 ?_
          refine lv_aload_n hx hb d_Wr_writeHead_105 rfl (lv_at hl 1 rfl) ?_
          obtain ⟨v_90, v_92, v_94, v_96, F_P9, c_91, c_93, c_95⟩ := TI_nds hT T_P9
          refine hm_get (ci := 2) (v := .ref v_92) (C := R_Ns) (T := F_Ns) (N := 4) hx hb hts ig_Ns hown hK hH F_P9 rfl 1 (by decide) (hts _ mw_239) (fun _ h9 => h9) rfl d_Wr_writeHead_106 ?_
          refine lv_aload_n hx hb d_Wr_writeHead_109 rfl (lv_at hl 1 rfl) ?_
          refine hm_get (ci := 2) (v := .int v_94) (C := R_Ns) (T := F_Ns) (N := 4) hx hb hts ig_Ns hown hK hH F_P9 rfl 2 (by decide) (hts _ mw_238) (fun _ h9 => h9) rfl d_Wr_writeHead_110 ?_
          refine lv_iload hx hb d_Wr_writeHead_113 (lv_at hl 6 rfl) ?_
          refine lv_bipush (v := 18) hx hb d_Wr_writeHead_115 (by decide) ?_
          refine lv_icmp_ne (tgt := 124) hx hb d_Wr_writeHead_117 (by decide) (fun hc_97 => ?_) (fun hc_97 => ?_)
          · skip
            refine lv_iconst (v := 0) hx hb d_Wr_writeHead_124 (by decide) ?_
            obtain ⟨v_98, F_v_88, c_99⟩ := TI_page hT c_89
            refine hm_calli (va_runV (As := [.ref v_92, .int v_94, .int 0]) (b := v_88) (rest := []) ⟨hx, hb, hml, hown, hts⟩ (t_fpath9 l D t G ak av hh25 τ n 0 f v_88 v_92 v_94 (0 : Int32)  hn hT c_89 c_93 zb0) ⟨cw9B 3 hts mw_291 mw_292 mw_77 rfl rfl (by decide +kernel) ⟨Nat.le_of_ble_eq_true rfl, Nat.le_of_ble_eq_true rfl⟩, hts _ mw_293, hts _ mw_294⟩ (hP_V (q := (R_Pg, F_Pg, 1)) kE_ok hE hK hH F_v_88 rfl) rfl rfl hl.1 rfl (lv_room (Nat.le_of_ble_eq_true rfl)) d_Wr_writeHead_125 ⟨show cs + 0 ≤ B by omega, show (2048 * cs) + 0 ≤ 2048 * B by omega⟩) hLo (fun r_100 h_101 H_102 locs hp_104 hH z_103 hLo => ?_)
            have hz : s.heap.size ≤ H_102.size := Nat.le_trans hz z_103
            have hT0 := hT
            obtain ⟨hT, kf_106, xk_107⟩ := hp_104
            have F_w9 : h_101 w9 = some (.inr (7, [.ref v_86, .ref v_88])) := kf_at kf_106 T_w9 (by decide) (tnc (by decide) (tnc (by decide) tn0)) nm0 F_w9
            have F_P9 : h_101 P9 = some (.inr (2, [.ref v_90, .ref v_92, .int v_94, .int v_96])) := kf_at kf_106 T_P9 (by decide) (tnc (by decide) (tnc (by decide) tn0)) nm0 F_P9
            have F_v_88 : h_101 v_88 = some (.inr (3, [.ref v_98])) := kf_at kf_106 c_89 (by decide) (tnc (by decide) (tnc (by decide) tn0)) nm0 F_v_88
            have hnl : cs + nl L h_101 ≤ nl L h := Nat.le_trans (Nat.add_le_add_left (nl_mono hL (nlp_kf nlp_rf kf_106 (tnc (by decide) (tnc (by decide) tn0)) (List.forall_mem_nil _))) _) hnl
            have hnp_f : knp τ f h h_101 := knp_tr hnp_f xk_107
            have hkf : kf τ [(13, 0), (11, 0), (3, 0), (5, 0), (10, f)] [] h h_101 := kf_tr hkf kf_106 (List.forall_mem_cons.mpr ⟨(List.mem_cons_of_mem _ (List.mem_cons_of_mem _ (List.mem_cons_of_mem _ List.mem_cons_self))), List.forall_mem_cons.mpr ⟨(List.mem_cons_of_mem _ (List.mem_cons_of_mem _ (List.mem_cons_of_mem _ (List.mem_cons_of_mem _ List.mem_cons_self)))), List.forall_mem_nil _⟩⟩) (List.forall_mem_nil _)
            refine lv_pop hx hb d_Wr_writeHead_128 rfl ?_
            exact J129 () _ _ _ _ _ _ ⟨cs, (by omega), (by omega), (lv_sub hl [0, 1, 2, 3, 4, 5, 6] rfl), hH, hz, hLo, hT, hkf, hnl, hnp_f⟩
          · skip
            have ic_108 : i9.toInt = 18 := congrArg Int32.toInt hc_97
            refine lv_iconst (v := 1) hx hb d_Wr_writeHead_120 (by decide) ?_
            refine lv_goto (tgt := 125) hx hb d_Wr_writeHead_121 (by decide) ?_
            obtain ⟨v_109, F_v_88, c_110⟩ := TI_page hT c_89
            refine hm_calli (va_runV (As := [.ref v_92, .int v_94, .int 1]) (b := v_88) (rest := []) ⟨hx, hb, hml, hown, hts⟩ (t_fpath9 l D t G ak av hh25 τ n 0 f v_88 v_92 v_94 (1 : Int32)  hn hT c_89 c_93 zb1) ⟨cw9B 3 hts mw_291 mw_292 mw_77 rfl rfl (by decide +kernel) ⟨Nat.le_of_ble_eq_true rfl, Nat.le_of_ble_eq_true rfl⟩, hts _ mw_293, hts _ mw_294⟩ (hP_V (q := (R_Pg, F_Pg, 1)) kE_ok hE hK hH F_v_88 rfl) rfl rfl hl.1 rfl (lv_room (Nat.le_of_ble_eq_true rfl)) d_Wr_writeHead_125 ⟨show cs + 0 ≤ B by omega, show (2048 * cs) + 0 ≤ 2048 * B by omega⟩) hLo (fun r_111 h_112 H_113 locs hp_115 hH z_114 hLo => ?_)
            have hz : s.heap.size ≤ H_113.size := Nat.le_trans hz z_114
            have hT0 := hT
            obtain ⟨hT, kf_117, xk_118⟩ := hp_115
            have F_w9 : h_112 w9 = some (.inr (7, [.ref v_86, .ref v_88])) := kf_at kf_117 T_w9 (by decide) (tnc (by decide) (tnc (by decide) tn0)) nm0 F_w9
            have F_P9 : h_112 P9 = some (.inr (2, [.ref v_90, .ref v_92, .int v_94, .int v_96])) := kf_at kf_117 T_P9 (by decide) (tnc (by decide) (tnc (by decide) tn0)) nm0 F_P9
            have F_v_88 : h_112 v_88 = some (.inr (3, [.ref v_109])) := kf_at kf_117 c_89 (by decide) (tnc (by decide) (tnc (by decide) tn0)) nm0 F_v_88
            have hnl : cs + nl L h_112 ≤ nl L h := Nat.le_trans (Nat.add_le_add_left (nl_mono hL (nlp_kf nlp_rf kf_117 (tnc (by decide) (tnc (by decide) tn0)) (List.forall_mem_nil _))) _) hnl
            have hnp_f : knp τ f h h_112 := knp_tr hnp_f xk_118
            have hkf : kf τ [(13, 0), (11, 0), (3, 0), (5, 0), (10, f)] [] h h_112 := kf_tr hkf kf_117 (List.forall_mem_cons.mpr ⟨(List.mem_cons_of_mem _ (List.mem_cons_of_mem _ (List.mem_cons_of_mem _ List.mem_cons_self))), List.forall_mem_cons.mpr ⟨(List.mem_cons_of_mem _ (List.mem_cons_of_mem _ (List.mem_cons_of_mem _ (List.mem_cons_of_mem _ List.mem_cons_self)))), List.forall_mem_nil _⟩⟩) (List.forall_mem_nil _)
            refine lv_pop hx hb d_Wr_writeHead_128 rfl ?_
            exact J129 () _ _ _ _ _ _ ⟨cs, (by omega), (by omega), (lv_sub hl [0, 1, 2, 3, 4, 5, 6] rfl), hH, hz, hLo, hT, hkf, hnl, hnp_f⟩

set_option maxHeartbeats 4000000 in
set_option maxRecDepth 100000 in
theorem t_wdirs (l : Launch) (D : va_G) (t : Nat → ClassId) (G : hG) (ak av : Nat → Nat) (h : hM) (τ : tM) (n f : Nat) (w9 : Nat) (P9 : Nat) (m9 : Nat) (hn : n ≤ 200) (hT : TI τ t n h) (T_w9 : τ w9 = (2, 0)) (T_P9 : τ P9 = (7, f)) (T_m9 : τ m9 = (11, 0)) (L : List Nat) (B : Nat) (hL : ∀ a ∈ L, τ a = (13, 0)) (hL2 : ∀ a, τ a = (13, 0) → a ∈ L) (hB : nl L h ≤ B) : MetD l y_Wr_writeDirectories (.code y_Wr_writeDirectories b_Wr_writeDirectories 5 (some .int) :: lw_g) { frames := 8, cells := B, slots := 2048 * B, locals := 180 } (hP (kE D t G ak av) D vwCl G h [.ref w9, .ref P9, .ref m9]) (fun kk nn => hQi D vwCl G (fun r h' => nn = 2048 * kk ∧ kk + nl L h' ≤ nl L h ∧ TI τ t n h' ∧ kf τ [(13, 0), (11, 0), (3, 0), (5, 0)] [] h h')) G.P := by
  refine MetD.ofW (cc := b_Wr_writeDirectories) (maxL := 5) (ret := (some .int)) (by decide) rfl ?_
  intro p e s m args below meth c s₁ Bd hml hv
  obtain ⟨ha, hE, hH⟩ := hv
  have hx := Bd.exec
  have hb := Bd.bytes
  have hr := Bd.returns
  have hts : ∀ w ∈ lw_g, w.before args s = true := fun w hw => atoms_spec (ws := (.code y_Wr_writeDirectories b_Wr_writeDirectories 5 (some .int) :: lw_g)) Bd.pre w (List.mem_cons_of_mem _ hw)
  have hown : s.vm.findClass R_Wr = some m.cls := findClass_of_methodNamed Bd.named
  have hlocks := Bd.notSynchronized
  have hK := hE.1
  have hH0 := hH
  have hLo : hLc G.P [] := hLc_nil
  have hz : s.heap.size ≤ s.heap.size := Nat.le_refl _
  have hl := lv_entry [.ref w9, .ref P9, .ref m9] (n := 5) (Nat.le_of_ble_eq_true rfl)
  rw [show entryFrame m args 5 = F0 m 0 ((lg_sl [.ref w9, .ref P9, .ref m9] ++ List.replicate (5 - (lg_sl [.ref w9, .ref P9, .ref m9]).length) Slot.unset).toArray) [] from (by rw [ha]; exact lg_entry_eq m [.ref w9, .ref P9, .ref m9] 5)]
  generalize (lg_sl [.ref w9, .ref P9, .ref m9] ++ List.replicate (5 - (lg_sl [.ref w9, .ref P9, .ref m9]).length) Slot.unset).toArray = ls at hl ⊢
  have hl : lv_has ls 5 [(0, .ref w9), (1, .ref P9), (2, .ref m9)] := hl
  have hkf : kf τ [(13, 0), (11, 0), (3, 0), (5, 0)] [] h h := kf_rf
  have hnl : 0 + nl L h ≤ nl L h := Nat.le_of_eq (Nat.zero_add _)
  refine lv_iconst (v := 1) hx hb d_Wr_writeDirectories_0 (by decide) ?_
  refine lv_istore_n (lv' := [(3, .int 1), (0, .ref w9), (1, .ref P9), (2, .ref m9)]) hx hb d_Wr_writeDirectories_1 rfl hl (by decide) rfl (fun ls hl => ?_)
  refine lv_iconst (v := 0) hx hb d_Wr_writeDirectories_2 (by decide) ?_
  refine lv_istore (lv' := [(4, .int 0), (3, .int 1), (0, .ref w9), (1, .ref P9), (2, .ref m9)]) hx hb d_Wr_writeDirectories_3 hl (by decide) rfl (fun ls hl => ?_)
  refine hm_loopC (fun k5 ls H locs hh5 cs ss => ∃ (oc9 : Int32) (i9 : Int32) (kc5 : Nat), k5 = mU i9 ∧ cs = kc5 ∧ ss = 2048 * kc5 ∧ lv_has ls 5 [(0, .ref w9), (1, .ref P9), (2, .ref m9), (3, .int oc9), (4, .int i9)] ∧ hm D vwCl G hh5 H ∧ s.heap.size ≤ H.size ∧ hLc G.P locs ∧ (TI τ t n hh5) ∧ (kf τ [(13, 0), (11, 0), (3, 0), (5, 0)] [] h hh5) ∧ (kc5 + nl L hh5 ≤ nl L h) ∧ (0 ≤ i9.toInt)) ?_ (hh := h) ⟨1, 0, 0, rfl, (by omega), (by omega), (lv_sub hl [2, 3, 4, 1, 0] rfl), hH, hz, hLo, hT, hkf, hnl, (by decide)⟩
  rintro k5 ls H locs hh5 cs ss ⟨oc9, i9, kc5, hk5, rfl, rfl, hl, hH, hz, hLo, hT, hkf, hnl, I_i9⟩ ih5
  refine lv_iload hx hb d_Wr_writeDirectories_5 (lv_at hl 4 rfl) ?_
  refine lv_aload_n hx hb d_Wr_writeDirectories_7 rfl (lv_at hl 1 rfl) ?_
  obtain ⟨v_1, v_3, v_5, v_7, F_P9, c_2, c_4, c_6⟩ := TI_nds hT T_P9
  refine hm_get (ci := 2) (v := .int v_5) (C := R_Ns) (T := F_Ns) (N := 4) hx hb hts ig_Ns hown hK hH F_P9 rfl 2 (by decide) (hts _ mw_238) (fun _ h9 => h9) rfl d_Wr_writeDirectories_8 ?_
  refine lv_icmp_ge (tgt := 86) hx hb d_Wr_writeDirectories_11 (by decide) (fun hc_8 => ?_) (fun hc_8 => ?_)
  · skip
    have ic_9 : v_5.toInt ≤ i9.toInt := iLe hc_8
    refine lv_iload_n hx hb d_Wr_writeDirectories_86 rfl (lv_at hl 3 rfl) ?_
    refine W.toD ?_
    exact W.iret (v := oc9) hx hb hr (fun t9 ht hW => ⟨oc9, hh5, rfl, ⟨(by omega), (by omega), hT, hkf⟩, by rw [ht]; exact hH, by rw [ht]; exact hz⟩) hLo d_Wr_writeDirectories_87
  · skip
    have ic_10 : i9.toInt < v_5.toInt := iNe hc_8
    have iu_11 : v_5.toInt < 2147483648 := iUp _
    refine lv_iload_n hx hb d_Wr_writeDirectories_14 rfl (lv_at hl 3 rfl) ?_
    refine lv_iconst (v := 1) hx hb d_Wr_writeDirectories_15 (by decide) ?_
    refine lv_icmp_ne (tgt := 86) hx hb d_Wr_writeDirectories_16 (by decide) (fun hc_12 => ?_) (fun hc_12 => ?_)
    · skip
      refine lv_iload_n hx hb d_Wr_writeDirectories_86 rfl (lv_at hl 3 rfl) ?_
      refine W.toD ?_
      exact W.iret (v := oc9) hx hb hr (fun t9 ht hW => ⟨oc9, hh5, rfl, ⟨(by omega), (by omega), hT, hkf⟩, by rw [ht]; exact hH, by rw [ht]; exact hz⟩) hLo d_Wr_writeDirectories_87
    · skip
      have ic_13 : oc9.toInt = 1 := congrArg Int32.toInt hc_12
      refine lv_aload_n hx hb d_Wr_writeDirectories_19 rfl (lv_at hl 1 rfl) ?_
      refine hm_get (ci := 2) (v := .ref v_3) (C := R_Ns) (T := F_Ns) (N := 4) hx hb hts ig_Ns hown hK hH F_P9 rfl 1 (by decide) (hts _ mw_239) (fun _ h9 => h9) rfl d_Wr_writeDirectories_20 ?_
      refine lv_iload hx hb d_Wr_writeDirectories_23 (lv_at hl 4 rfl) ?_
      obtain ⟨g_14, F_v_3, c_15⟩ := TI_ord hT c_4
      obtain ⟨a_16, e_17, T_18⟩ := c_15 i9.toNatClampNeg (iCl (by omega) (by omega))
      refine hm_aald (v := .ref a_16) hx hb hK hH 4 F_v_3 (C := R_No) rfl (iIn (by omega) (by omega)) (by rw [e_17]; rfl) d_Wr_writeDirectories_25 ?_
      obtain ⟨v_19, v_20, v_22, v_24, v_25, v_27, v_28, v_29, v_31, v_32, v_33, F_a_16, c_21, c_23, c_26, c_30⟩ := TI_node hT T_18
      refine hm_get (ci := 1) (v := .int v_22) (C := R_No) (T := F_No) (N := 11) hx hb hts ig_No hown hK hH F_a_16 rfl 2 (by decide) (hts _ mw_240) (fun _ h9 => h9) rfl d_Wr_writeDirectories_26 ?_
      refine lv_if_eq (tgt := 80) hx hb d_Wr_writeDirectories_29 (by decide) (fun hc_34 => ?_) (fun hc_34 => ?_)
      · skip
        have ic_35 : v_22.toInt = 0 := congrArg Int32.toInt hc_34
        obtain ⟨j_36, e_37⟩ : ∃ z : Int32, z = i9 + 1 := ⟨_, rfl⟩
        refine lv_iinc (v := j_36) (lv' := [(4, .int j_36), (0, .ref w9), (1, .ref P9), (2, .ref m9), (3, .int oc9)]) hx hb d_Wr_writeDirectories_80 hl (k := 4) rfl e_37.symm (by decide) rfl (fun ls hl => ?_)
        refine lv_goto (tgt := 5) hx hb d_Wr_writeDirectories_83 (by decide) ?_
        have is_38 : j_36.toInt = i9.toInt + 1 := by rw [e_37]; exact iAddK 1 rfl (by omega) (by omega)
        exact ih5 (mU j_36) ls _ locs _ _ _ (by rw [hk5]; exact mU_lt (by omega)) ⟨oc9, j_36, cs, rfl, (by omega), (by omega), (lv_sub hl [1, 2, 3, 4, 0] rfl), hH, hz, hLo, hT, hkf, hnl, (by omega)⟩
      · skip
        refine lv_aload_n hx hb d_Wr_writeDirectories_32 rfl (lv_at hl 0 rfl) ?_
        obtain ⟨v_39, v_41, F_w9, c_40, c_42⟩ := TI_wri hT T_w9
        refine hm_get (ci := 7) (v := .ref v_41) (C := R_Wr) (T := F_Wr) (N := 2) hx hb hts ig_Wr hown hK hH F_w9 rfl 1 (by decide) (hts _ mw_256) (fun _ h9 => h9) rfl d_Wr_writeDirectories_33 ?_
        refine lv_aload_n hx hb d_Wr_writeDirectories_36 rfl (lv_at hl 1 rfl) ?_
        refine hm_get (ci := 2) (v := .ref v_3) (C := R_Ns) (T := F_Ns) (N := 4) hx hb hts ig_Ns hown hK hH F_P9 rfl 1 (by decide) (hts _ mw_239) (fun _ h9 => h9) rfl d_Wr_writeDirectories_37 ?_
        refine lv_iload hx hb d_Wr_writeDirectories_40 (lv_at hl 4 rfl) ?_
        refine hm_aald (v := .ref a_16) hx hb hK hH 4 F_v_3 (C := R_No) rfl (iIn (by omega) (by omega)) (by rw [e_17]; rfl) d_Wr_writeDirectories_42 ?_
        refine lv_aload_n hx hb d_Wr_writeDirectories_43 rfl (lv_at hl 1 rfl) ?_
        refine hm_get (ci := 2) (v := .ref v_3) (C := R_Ns) (T := F_Ns) (N := 4) hx hb hts ig_Ns hown hK hH F_P9 rfl 1 (by decide) (hts _ mw_239) (fun _ h9 => h9) rfl d_Wr_writeDirectories_44 ?_
        refine lv_aload_n hx hb d_Wr_writeDirectories_47 rfl (lv_at hl 1 rfl) ?_
        refine hm_get (ci := 2) (v := .int v_5) (C := R_Ns) (T := F_Ns) (N := 4) hx hb hts ig_Ns hown hK hH F_P9 rfl 2 (by decide) (hts _ mw_238) (fun _ h9 => h9) rfl d_Wr_writeDirectories_48 ?_
        obtain ⟨v_43, F_v_41, c_44⟩ := TI_page hT c_42
        refine hm_callv (va_runV (As := [.ref a_16, .ref v_3, .int v_5]) (b := v_41) (rest := []) ⟨hx, hb, hml, hown, hts⟩ (t_fdir l D t G ak av hh5 τ n 0 f v_41 a_16 v_3 v_5  hn hT c_42 T_18 c_4) ⟨cw9B 3 hts mw_300 mw_301 mw_77 rfl rfl (by decide +kernel) ⟨Nat.le_of_ble_eq_true rfl, Nat.le_of_ble_eq_true rfl⟩, hts _ mw_302, hts _ mw_303⟩ (hP_V (q := (R_Pg, F_Pg, 1)) kE_ok hE hK hH F_v_41 rfl) rfl rfl hl.1 rfl (lv_room (Nat.le_of_ble_eq_true rfl)) d_Wr_writeDirectories_51 ⟨show cs + 0 ≤ B by omega, show (2048 * cs) + 0 ≤ 2048 * B by omega⟩) hLo (fun h_45 H_46 locs hp_48 hH z_47 hLo => ?_)
        have hz : s.heap.size ≤ H_46.size := Nat.le_trans hz z_47
        have hT0 := hT
        obtain ⟨hT, kf_50⟩ := hp_48
        have F_P9 : h_45 P9 = some (.inr (2, [.ref v_1, .ref v_3, .int v_5, .int v_7])) := kf_at kf_50 T_P9 (by decide) (tnc (by decide) tn0) nm0 F_P9
        have F_v_3 : h_45 v_3 = some (.inl ((t 4), 30, .inr (.inr (.inr (.inr g_14))))) := kf_at kf_50 c_4 (by decide) (tnc (by decide) tn0) nm0 F_v_3
        have F_a_16 : h_45 a_16 = some (.inr (1, [.int v_19, va_rf v_20, .int v_22, .long v_24, .int v_25, .int v_27, .int v_28, .int v_29, .int v_31, .int v_32, .int v_33])) := kf_at kf_50 T_18 (by decide) (tnc (by decide) tn0) nm0 F_a_16
        have F_w9 : h_45 w9 = some (.inr (7, [.ref v_39, .ref v_41])) := kf_at kf_50 T_w9 (by decide) (tnc (by decide) tn0) nm0 F_w9
        have F_v_41 : h_45 v_41 = some (.inr (3, [.ref v_43])) := kf_at kf_50 c_42 (by decide) (tnc (by decide) tn0) nm0 F_v_41
        have hnl : cs + nl L h_45 ≤ nl L h := Nat.le_trans (Nat.add_le_add_left (nl_mono hL (nlp_kf nlp_rf kf_50 (tnc (by decide) tn0) (List.forall_mem_nil _))) _) hnl
        have hkf : kf τ [(13, 0), (11, 0), (3, 0), (5, 0)] [] h h_45 := kf_tr hkf kf_50 (List.forall_mem_cons.mpr ⟨(List.mem_cons_of_mem _ (List.mem_cons_of_mem _ (List.mem_cons_of_mem _ List.mem_cons_self))), List.forall_mem_nil _⟩) (List.forall_mem_nil _)
        refine lv_aload_n hx hb d_Wr_writeDirectories_54 rfl (lv_at hl 2 rfl) ?_
        refine lv_aload_n hx hb d_Wr_writeDirectories_55 rfl (lv_at hl 1 rfl) ?_
        refine hm_get (ci := 2) (v := .ref v_3) (C := R_Ns) (T := F_Ns) (N := 4) hx hb hts ig_Ns hown hK hH F_P9 rfl 1 (by decide) (hts _ mw_239) (fun _ h9 => h9) rfl d_Wr_writeDirectories_56 ?_
        refine lv_iload hx hb d_Wr_writeDirectories_59 (lv_at hl 4 rfl) ?_
        refine hm_aald (v := .ref a_16) hx hb hK hH 4 F_v_3 (C := R_No) rfl (iIn (by omega) (by omega)) (by rw [e_17]; rfl) d_Wr_writeDirectories_61 ?_
        refine hm_get (ci := 1) (v := .int v_32) (C := R_No) (T := F_No) (N := 11) hx hb hts ig_No hown hK hH F_a_16 rfl 9 (by decide) (hts _ mw_241) (fun _ h9 => h9) rfl d_Wr_writeDirectories_62 ?_
        refine lv_aload_n hx hb d_Wr_writeDirectories_65 rfl (lv_at hl 0 rfl) ?_
        refine hm_get (ci := 7) (v := .ref v_41) (C := R_Wr) (T := F_Wr) (N := 2) hx hb hts ig_Wr hown hK hH F_w9 rfl 1 (by decide) (hts _ mw_256) (fun _ h9 => h9) rfl d_Wr_writeDirectories_66 ?_
        refine hm_get (ci := 3) (v := .ref v_43) (C := R_Pg) (T := F_Pg) (N := 1) hx hb hts ig_Pg hown hK hH F_v_41 rfl 0 (by decide) (hts _ mw_262) (fun _ h9 => h9) rfl d_Wr_writeDirectories_69 ?_
        refine lv_aload_n hx hb d_Wr_writeDirectories_72 rfl (lv_at hl 0 rfl) ?_
        refine hm_get (ci := 7) (v := .ref v_39) (C := R_Wr) (T := F_Wr) (N := 2) hx hb hts ig_Wr hown hK hH F_w9 rfl 0 (by decide) (hts _ mw_263) (fun _ h9 => h9) rfl d_Wr_writeDirectories_73 ?_
        obtain ⟨v_51, v_53, F_m9, c_52⟩ := TI_med hT T_m9
        refine hm_callDi (va_runVD (As := [.int v_32, .ref v_43, .ref v_39]) (b := m9) (rest := []) ⟨hx, hb, hml, hown, hts⟩ (t_write l D t G ak av h_45 τ n m9 v_32 v_43 v_39 hn hT T_m9 c_44 c_40 L (B - cs) hL hL2 (by omega)) ⟨cw9B 3 hts mw_264 mw_265 mw_32 rfl rfl (by decide +kernel) ⟨Nat.le_of_ble_eq_true rfl, Nat.le_of_ble_eq_true rfl⟩, hts _ mw_266, hts _ mw_267⟩ (hP_V (q := (R_Me, F_Me, 2)) kE_ok hE hK hH F_m9 rfl) rfl rfl hl.1 rfl (lv_room (Nat.le_of_ble_eq_true rfl)) d_Wr_writeDirectories_76 ⟨show cs + (B - cs) ≤ B by omega, show (2048 * cs) + 2048 * (B - cs) ≤ 2048 * B by omega⟩) hLo (fun r_54 h_55 H_56 locs k_59 n_60 hp_58 hH z_57 hLo => ?_)
        have hz : s.heap.size ≤ H_56.size := Nat.le_trans hz z_57
        obtain ⟨rfl, hnl2, hT, kf_61⟩ := hp_58
        have F_P9 : h_55 P9 = some (.inr (2, [.ref v_1, .ref v_3, .int v_5, .int v_7])) := kf_at kf_61 T_P9 (by decide) (tnc (by decide) (tnc (by decide) (tnc (by decide) tn0))) nm0 F_P9
        have F_v_3 : h_55 v_3 = some (.inl ((t 4), 30, .inr (.inr (.inr (.inr g_14))))) := kf_at kf_61 c_4 (by decide) (tnc (by decide) (tnc (by decide) (tnc (by decide) tn0))) nm0 F_v_3
        have F_a_16 : h_55 a_16 = some (.inr (1, [.int v_19, va_rf v_20, .int v_22, .long v_24, .int v_25, .int v_27, .int v_28, .int v_29, .int v_31, .int v_32, .int v_33])) := kf_at kf_61 T_18 (by decide) (tnc (by decide) (tnc (by decide) (tnc (by decide) tn0))) nm0 F_a_16
        have F_w9 : h_55 w9 = some (.inr (7, [.ref v_39, .ref v_41])) := kf_at kf_61 T_w9 (by decide) (tnc (by decide) (tnc (by decide) (tnc (by decide) tn0))) nm0 F_w9
        have F_v_41 : h_55 v_41 = some (.inr (3, [.ref v_43])) := kf_at kf_61 c_42 (by decide) (tnc (by decide) (tnc (by decide) (tnc (by decide) tn0))) nm0 F_v_41
        have hnl : (cs + k_59) + nl L h_55 ≤ nl L h := by omega
        have hkf : kf τ [(13, 0), (11, 0), (3, 0), (5, 0)] [] h h_55 := kf_tr hkf kf_61 (List.forall_mem_cons.mpr ⟨List.mem_cons_self, List.forall_mem_cons.mpr ⟨(List.mem_cons_of_mem _ List.mem_cons_self), List.forall_mem_cons.mpr ⟨(List.mem_cons_of_mem _ (List.mem_cons_of_mem _ List.mem_cons_self)), List.forall_mem_nil _⟩⟩⟩) (List.forall_mem_nil _)
        refine lv_istore_n (lv' := [(3, .int r_54), (0, .ref w9), (1, .ref P9), (2, .ref m9), (4, .int i9)]) hx hb d_Wr_writeDirectories_79 rfl hl (by decide) rfl (fun ls hl => ?_)
        obtain ⟨j_63, e_64⟩ : ∃ z : Int32, z = i9 + 1 := ⟨_, rfl⟩
        refine lv_iinc (v := j_63) (lv' := [(4, .int j_63), (3, .int r_54), (0, .ref w9), (1, .ref P9), (2, .ref m9)]) hx hb d_Wr_writeDirectories_80 hl (k := 4) rfl e_64.symm (by decide) rfl (fun ls hl => ?_)
        refine lv_goto (tgt := 5) hx hb d_Wr_writeDirectories_83 (by decide) ?_
        have is_65 : j_63.toInt = i9.toInt + 1 := by rw [e_64]; exact iAddK 1 rfl (by omega) (by omega)
        exact ih5 (mU j_63) ls _ locs _ _ _ (by rw [hk5]; exact mU_lt (by omega)) ⟨r_54, j_63, (cs + k_59), rfl, (by omega), (by omega), (lv_sub hl [2, 3, 4, 1, 0] rfl), hH, hz, hLo, hT, hkf, hnl, (by omega)⟩

set_option maxHeartbeats 4000000 in
set_option maxRecDepth 100000 in
theorem t_wmark (l : Launch) (D : va_G) (t : Nat → ClassId) (G : hG) (ak av : Nat → Nat) (h : hM) (τ : tM) (n : Nat) (w9 : Nat) (m9 : Nat) (b8 : Int32) (c8 : Int32) (hn : n ≤ 200) (hT : TI τ t n h) (T_w9 : τ w9 = (2, 0)) (T_m9 : τ m9 = (11, 0)) (L : List Nat) (B : Nat) (hL : ∀ a ∈ L, τ a = (13, 0)) (hL2 : ∀ a, τ a = (13, 0) → a ∈ L) (hB : nl L h ≤ B) : MetD l y_Wr_writeMark (.code y_Wr_writeMark b_Wr_writeMark 4 (some .int) :: lw_g) { frames := 6, cells := B, slots := 2048 * B, locals := 130 } (hP (kE D t G ak av) D vwCl G h [.ref w9, .ref m9, .int b8, .int c8]) (fun kk nn => hQi D vwCl G (fun r h' => nn = 2048 * kk ∧ kk + nl L h' ≤ nl L h ∧ TI τ t n h' ∧ kf τ [(13, 0), (11, 0), (3, 0), (5, 0)] [] h h')) G.P := by
  refine MetD.ofW (cc := b_Wr_writeMark) (maxL := 4) (ret := (some .int)) (by decide) rfl ?_
  intro p e s m args below meth c s₁ Bd hml hv
  obtain ⟨ha, hE, hH⟩ := hv
  have hx := Bd.exec
  have hb := Bd.bytes
  have hr := Bd.returns
  have hts : ∀ w ∈ lw_g, w.before args s = true := fun w hw => atoms_spec (ws := (.code y_Wr_writeMark b_Wr_writeMark 4 (some .int) :: lw_g)) Bd.pre w (List.mem_cons_of_mem _ hw)
  have hown : s.vm.findClass R_Wr = some m.cls := findClass_of_methodNamed Bd.named
  have hlocks := Bd.notSynchronized
  have hK := hE.1
  have hH0 := hH
  have hLo : hLc G.P [] := hLc_nil
  have hz : s.heap.size ≤ s.heap.size := Nat.le_refl _
  have hl := lv_entry [.ref w9, .ref m9, .int b8, .int c8] (n := 4) (Nat.le_of_ble_eq_true rfl)
  rw [show entryFrame m args 4 = F0 m 0 ((lg_sl [.ref w9, .ref m9, .int b8, .int c8] ++ List.replicate (4 - (lg_sl [.ref w9, .ref m9, .int b8, .int c8]).length) Slot.unset).toArray) [] from (by rw [ha]; exact lg_entry_eq m [.ref w9, .ref m9, .int b8, .int c8] 4)]
  generalize (lg_sl [.ref w9, .ref m9, .int b8, .int c8] ++ List.replicate (4 - (lg_sl [.ref w9, .ref m9, .int b8, .int c8]).length) Slot.unset).toArray = ls at hl ⊢
  have hl : lv_has ls 4 [(0, .ref w9), (1, .ref m9), (2, .int b8), (3, .int c8)] := hl
  have hkf : kf τ [(13, 0), (11, 0), (3, 0), (5, 0)] [] h h := kf_rf
  have hnl : 0 + nl L h ≤ nl L h := Nat.le_of_eq (Nat.zero_add _)
  refine lv_aload_n hx hb d_Wr_writeMark_0 rfl (lv_at hl 0 rfl) ?_
  obtain ⟨v_1, v_3, F_w9, c_2, c_4⟩ := TI_wri hT T_w9
  refine hm_get (ci := 7) (v := .ref v_3) (C := R_Wr) (T := F_Wr) (N := 2) hx hb hts ig_Wr hown hK hH F_w9 rfl 1 (by decide) (hts _ mw_256) (fun _ h9 => h9) rfl d_Wr_writeMark_1 ?_
  refine lv_iload_n hx hb d_Wr_writeMark_4 rfl (lv_at hl 2 rfl) ?_
  refine lv_iload_n hx hb d_Wr_writeMark_5 rfl (lv_at hl 3 rfl) ?_
  obtain ⟨v_5, F_v_3, c_6⟩ := TI_page hT c_4
  refine hm_callv (va_runV (As := [.int b8, .int c8]) (b := v_3) (rest := []) ⟨hx, hb, hml, hown, hts⟩ (t_fmark l D t G ak av h τ n 0 v_3 b8 c8  hn hT c_4) ⟨cw9B 2 hts mw_304 mw_305 mw_77 rfl rfl (by decide +kernel) ⟨Nat.le_of_ble_eq_true rfl, Nat.le_of_ble_eq_true rfl⟩, hts _ mw_306, hts _ mw_307⟩ (hP_V (q := (R_Pg, F_Pg, 1)) kE_ok hE hK hH F_v_3 rfl) rfl rfl hl.1 rfl (lv_room (Nat.le_of_ble_eq_true rfl)) d_Wr_writeMark_6 ⟨show 0 + 0 ≤ B by omega, show 0 + 0 ≤ 2048 * B by omega⟩) hLo (fun h_7 H_8 locs hp_10 hH z_9 hLo => ?_)
  have hz : s.heap.size ≤ H_8.size := Nat.le_trans hz z_9
  have hT0 := hT
  obtain ⟨hT, kf_12⟩ := hp_10
  have F_w9 : h_7 w9 = some (.inr (7, [.ref v_1, .ref v_3])) := kf_at kf_12 T_w9 (by decide) (tnc (by decide) tn0) nm0 F_w9
  have F_v_3 : h_7 v_3 = some (.inr (3, [.ref v_5])) := kf_at kf_12 c_4 (by decide) (tnc (by decide) tn0) nm0 F_v_3
  have hnl : 0 + nl L h_7 ≤ nl L h := Nat.le_trans (Nat.add_le_add_left (nl_mono hL (nlp_kf nlp_rf kf_12 (tnc (by decide) tn0) (List.forall_mem_nil _))) _) hnl
  have hkf : kf τ [(13, 0), (11, 0), (3, 0), (5, 0)] [] h h_7 := kf_tr hkf kf_12 (List.forall_mem_cons.mpr ⟨(List.mem_cons_of_mem _ (List.mem_cons_of_mem _ (List.mem_cons_of_mem _ List.mem_cons_self))), List.forall_mem_nil _⟩) (List.forall_mem_nil _)
  refine lv_aload_n hx hb d_Wr_writeMark_9 rfl (lv_at hl 1 rfl) ?_
  refine lv_aload_n hx hb d_Wr_writeMark_10 rfl (lv_at hl 1 rfl) ?_
  obtain ⟨v_13, v_15, F_m9, c_14⟩ := TI_med hT T_m9
  refine hm_get (ci := 0) (v := .int v_15) (C := R_Me) (T := F_Me) (N := 2) hx hb hts ig_Me hown hK hH F_m9 rfl 1 (by decide) (hts _ mw_261) (fun _ h9 => h9) rfl d_Wr_writeMark_11 ?_
  refine lv_aload_n hx hb d_Wr_writeMark_14 rfl (lv_at hl 0 rfl) ?_
  refine hm_get (ci := 7) (v := .ref v_3) (C := R_Wr) (T := F_Wr) (N := 2) hx hb hts ig_Wr hown hK hH F_w9 rfl 1 (by decide) (hts _ mw_256) (fun _ h9 => h9) rfl d_Wr_writeMark_15 ?_
  refine hm_get (ci := 3) (v := .ref v_5) (C := R_Pg) (T := F_Pg) (N := 1) hx hb hts ig_Pg hown hK hH F_v_3 rfl 0 (by decide) (hts _ mw_262) (fun _ h9 => h9) rfl d_Wr_writeMark_18 ?_
  refine lv_aload_n hx hb d_Wr_writeMark_21 rfl (lv_at hl 0 rfl) ?_
  refine hm_get (ci := 7) (v := .ref v_1) (C := R_Wr) (T := F_Wr) (N := 2) hx hb hts ig_Wr hown hK hH F_w9 rfl 0 (by decide) (hts _ mw_263) (fun _ h9 => h9) rfl d_Wr_writeMark_22 ?_
  refine hm_callDi (va_runVD (As := [.int v_15, .ref v_5, .ref v_1]) (b := m9) (rest := []) ⟨hx, hb, hml, hown, hts⟩ (t_write l D t G ak av h_7 τ n m9 v_15 v_5 v_1 hn hT T_m9 c_6 c_2 L (B - 0) hL hL2 (by omega)) ⟨cw9B 3 hts mw_264 mw_265 mw_32 rfl rfl (by decide +kernel) ⟨Nat.le_of_ble_eq_true rfl, Nat.le_of_ble_eq_true rfl⟩, hts _ mw_266, hts _ mw_267⟩ (hP_V (q := (R_Me, F_Me, 2)) kE_ok hE hK hH F_m9 rfl) rfl rfl hl.1 rfl (lv_room (Nat.le_of_ble_eq_true rfl)) d_Wr_writeMark_25 ⟨show 0 + (B - 0) ≤ B by omega, show 0 + 2048 * (B - 0) ≤ 2048 * B by omega⟩) hLo (fun r_16 h_17 H_18 locs k_21 n_22 hp_20 hH z_19 hLo => ?_)
  have hz : s.heap.size ≤ H_18.size := Nat.le_trans hz z_19
  obtain ⟨rfl, hnl2, hT, kf_23⟩ := hp_20
  have F_w9 : h_17 w9 = some (.inr (7, [.ref v_1, .ref v_3])) := kf_at kf_23 T_w9 (by decide) (tnc (by decide) (tnc (by decide) (tnc (by decide) tn0))) nm0 F_w9
  have F_v_3 : h_17 v_3 = some (.inr (3, [.ref v_5])) := kf_at kf_23 c_4 (by decide) (tnc (by decide) (tnc (by decide) (tnc (by decide) tn0))) nm0 F_v_3
  have hnl : (0 + k_21) + nl L h_17 ≤ nl L h := by omega
  have hkf : kf τ [(13, 0), (11, 0), (3, 0), (5, 0)] [] h h_17 := kf_tr hkf kf_23 (List.forall_mem_cons.mpr ⟨List.mem_cons_self, List.forall_mem_cons.mpr ⟨(List.mem_cons_of_mem _ List.mem_cons_self), List.forall_mem_cons.mpr ⟨(List.mem_cons_of_mem _ (List.mem_cons_of_mem _ List.mem_cons_self)), List.forall_mem_nil _⟩⟩⟩) (List.forall_mem_nil _)
  refine W.toD ?_
  exact W.iret (v := r_16) hx hb hr (fun t9 ht hW => ⟨r_16, h_17, rfl, ⟨(by omega), (by omega), hT, hkf⟩, by rw [ht]; exact hH, by rw [ht]; exact hz⟩) hLo d_Wr_writeMark_28

set_option maxHeartbeats 4000000 in
set_option maxRecDepth 100000 in
theorem t_wsess (l : Launch) (D : va_G) (t : Nat → ClassId) (G : hG) (ak av : Nat → Nat) (h : hM) (τ : tM) (n f : Nat) (w9 : Nat) (P9 : Nat) (m9 : Nat) (c8 : Int32) (hn : n ≤ 200) (hT : TI τ t n h) (T_w9 : τ w9 = (2, 0)) (T_P9 : τ P9 = (7, f)) (T_m9 : τ m9 = (11, 0)) (L : List Nat) (B : Nat) (hL : ∀ a ∈ L, τ a = (13, 0)) (hL2 : ∀ a, τ a = (13, 0) → a ∈ L) (hB : nl L h ≤ B) : MetD l y_Wr_writeSession (.code y_Wr_writeSession b_Wr_writeSession 8 (some .int) :: lw_g) { frames := 9, cells := B, slots := 2048 * B, locals := 207 } (hP (kE D t G ak av) D vwCl G h [.ref w9, .ref P9, .ref m9, .int c8]) (fun kk nn => hQi D vwCl G (fun r h' => nn = 2048 * kk ∧ kk + nl L h' ≤ nl L h ∧ TI τ t n h' ∧ kf τ [(13, 0), (11, 0), (3, 0), (5, 0), (10, f), (9, f)] [] h h' ∧ knp τ f h h')) G.P := by
  refine MetD.ofW (cc := b_Wr_writeSession) (maxL := 8) (ret := (some .int)) (by decide) rfl ?_
  intro p e s m args below meth c s₁ Bd hml hv
  obtain ⟨ha, hE, hH⟩ := hv
  have hx := Bd.exec
  have hb := Bd.bytes
  have hr := Bd.returns
  have hts : ∀ w ∈ lw_g, w.before args s = true := fun w hw => atoms_spec (ws := (.code y_Wr_writeSession b_Wr_writeSession 8 (some .int) :: lw_g)) Bd.pre w (List.mem_cons_of_mem _ hw)
  have hown : s.vm.findClass R_Wr = some m.cls := findClass_of_methodNamed Bd.named
  have hlocks := Bd.notSynchronized
  have hK := hE.1
  have hH0 := hH
  have hLo : hLc G.P [] := hLc_nil
  have hz : s.heap.size ≤ s.heap.size := Nat.le_refl _
  have hl := lv_entry [.ref w9, .ref P9, .ref m9, .int c8] (n := 8) (Nat.le_of_ble_eq_true rfl)
  rw [show entryFrame m args 8 = F0 m 0 ((lg_sl [.ref w9, .ref P9, .ref m9, .int c8] ++ List.replicate (8 - (lg_sl [.ref w9, .ref P9, .ref m9, .int c8]).length) Slot.unset).toArray) [] from (by rw [ha]; exact lg_entry_eq m [.ref w9, .ref P9, .ref m9, .int c8] 8)]
  generalize (lg_sl [.ref w9, .ref P9, .ref m9, .int c8] ++ List.replicate (8 - (lg_sl [.ref w9, .ref P9, .ref m9, .int c8]).length) Slot.unset).toArray = ls at hl ⊢
  have hl : lv_has ls 8 [(0, .ref w9), (1, .ref P9), (2, .ref m9), (3, .int c8)] := hl
  have hkf : kf τ [(13, 0), (11, 0), (3, 0), (5, 0), (10, f), (9, f)] [] h h := kf_rf
  have hnl : 0 + nl L h ≤ nl L h := Nat.le_of_eq (Nat.zero_add _)
  have hnp_f : knp τ f h h := knp_rf
  refine lv_aload_n hx hb d_Wr_writeSession_0 rfl (lv_at hl 1 rfl) ?_
  obtain ⟨v_1, v_3, v_5, v_7, F_P9, c_2, c_4, c_6⟩ := TI_nds hT T_P9
  refine hm_callv (va_runV (As := []) (b := P9) (rest := []) ⟨hx, hb, hml, hown, hts⟩ (t_inOrder l D t G ak av h τ n f P9  hn hT T_P9) ⟨cw9B 0 hts mw_308 mw_309 mw_132 rfl rfl (by decide +kernel) ⟨Nat.le_of_ble_eq_true rfl, Nat.le_of_ble_eq_true rfl⟩, hts _ mw_310, hts _ mw_311⟩ (hP_V (q := (R_Ns, F_Ns, 4)) kE_ok hE hK hH F_P9 rfl) rfl rfl hl.1 rfl (lv_room (Nat.le_of_ble_eq_true rfl)) d_Wr_writeSession_1 ⟨show 0 + 0 ≤ B by omega, show 0 + 0 ≤ 2048 * B by omega⟩) hLo (fun h_8 H_9 locs hp_11 hH z_10 hLo => ?_)
  have hz : s.heap.size ≤ H_9.size := Nat.le_trans hz z_10
  have hT0 := hT
  obtain ⟨hT, kf_13⟩ := hp_11
  have F_P9 : h_8 P9 = some (.inr (2, [.ref v_1, .ref v_3, .int v_5, .int v_7])) := kf_at kf_13 T_P9 (by decide) (tnc (by decide) tn0) nm0 F_P9
  have hnl : 0 + nl L h_8 ≤ nl L h := Nat.le_trans (Nat.add_le_add_left (nl_mono hL (nlp_kf nlp_rf kf_13 (tnc (by decide) tn0) (List.forall_mem_nil _))) _) hnl
  have hnp_f : knp τ f h h_8 := knp_kf hnp_f kf_13 (tnc (by decide) tn0) (List.forall_mem_nil _)
  have hkf : kf τ [(13, 0), (11, 0), (3, 0), (5, 0), (10, f), (9, f)] [] h h_8 := kf_tr hkf kf_13 (List.forall_mem_cons.mpr ⟨(List.mem_cons_of_mem _ (List.mem_cons_of_mem _ (List.mem_cons_of_mem _ (List.mem_cons_of_mem _ (List.mem_cons_of_mem _ List.mem_cons_self))))), List.forall_mem_nil _⟩) (List.forall_mem_nil _)
  refine lv_iconst (v := 0) hx hb d_Wr_writeSession_4 (by decide) ?_
  refine lv_istore (lv' := [(4, .int 0), (0, .ref w9), (1, .ref P9), (2, .ref m9), (3, .int c8)]) hx hb d_Wr_writeSession_5 hl (by decide) rfl (fun ls hl => ?_)
  refine hm_loopC (fun k7 ls H locs hh7 cs ss => ∃ (i9 : Int32) (kc7 : Nat), k7 = mU i9 ∧ cs = kc7 ∧ ss = 2048 * kc7 ∧ lv_has ls 8 [(0, .ref w9), (1, .ref P9), (2, .ref m9), (3, .int c8), (4, .int i9)] ∧ hm D vwCl G hh7 H ∧ s.heap.size ≤ H.size ∧ hLc G.P locs ∧ (TI τ t n hh7) ∧ (kf τ [(13, 0), (11, 0), (3, 0), (5, 0), (10, f), (9, f)] [] h hh7) ∧ (kc7 + nl L hh7 ≤ nl L h) ∧ (knp τ f h hh7) ∧ (0 ≤ i9.toInt)) ?_ (hh := h_8) ⟨0, 0, rfl, (by omega), (by omega), (lv_sub hl [1, 2, 3, 4, 0] rfl), hH, hz, hLo, hT, hkf, hnl, hnp_f, (by decide)⟩
  rintro k7 ls H locs hh7 cs ss ⟨i9, kc7, hk7, rfl, rfl, hl, hH, hz, hLo, hT, hkf, hnl, hnp_f, I_i9⟩ ih7
  refine lv_iload hx hb d_Wr_writeSession_7 (lv_at hl 4 rfl) ?_
  refine lv_aload_n hx hb d_Wr_writeSession_9 rfl (lv_at hl 2 rfl) ?_
  obtain ⟨v_14, v_16, F_m9, c_15⟩ := TI_med hT T_m9
  refine hm_get (ci := 0) (v := .ref v_14) (C := R_Me) (T := F_Me) (N := 2) hx hb hts ig_Me hown hK hH F_m9 rfl 0 (by decide) (hts _ mw_269) (fun _ h9 => h9) rfl d_Wr_writeSession_10 ?_
  obtain ⟨g_17, F_v_14, c_18⟩ := TI_secs hT c_15
  have iln_19 : (nI n).toInt = (n : Nat) := nI_toInt (by omega)
  refine hm_alen (v := nI n) hx hb hK hH 5 F_v_14 (ty := (.object "WriteOnceDisc$Sector")) rfl rfl d_Wr_writeSession_13 ?_
  refine lv_icmp_gt (tgt := 109) hx hb d_Wr_writeSession_14 (by decide) (fun hc_20 => ?_) (fun hc_20 => ?_)
  · skip
    have ic_21 : (nI n).toInt < i9.toInt := iLt hc_20
    have iu_22 : i9.toInt < 2147483648 := iUp _
    refine lv_bipush (v := -3) hx hb d_Wr_writeSession_109 (by decide) ?_
    refine W.toD ?_
    exact W.iret (v := (-3)) hx hb hr (fun t9 ht hW => ⟨(-3), hh7, rfl, ⟨(by omega), (by omega), hT, hkf, hnp_f⟩, by rw [ht]; exact hH, by rw [ht]; exact hz⟩) hLo d_Wr_writeSession_111
  · skip
    have ic_23 : i9.toInt ≤ (nI n).toInt := iNl hc_20
    refine lv_aload_n hx hb d_Wr_writeSession_17 rfl (lv_at hl 2 rfl) ?_
    refine hm_get (ci := 0) (v := .int v_16) (C := R_Me) (T := F_Me) (N := 2) hx hb hts ig_Me hown hK hH F_m9 rfl 1 (by decide) (hts _ mw_261) (fun _ h9 => h9) rfl d_Wr_writeSession_18 ?_
    refine lv_istore (lv' := [(5, .int v_16), (0, .ref w9), (1, .ref P9), (2, .ref m9), (3, .int c8), (4, .int i9)]) hx hb d_Wr_writeSession_21 hl (by decide) rfl (fun ls hl => ?_)
    refine lv_aload_n hx hb d_Wr_writeSession_23 rfl (lv_at hl 1 rfl) ?_
    refine lv_aload_n hx hb d_Wr_writeSession_24 rfl (lv_at hl 2 rfl) ?_
    refine lv_iload hx hb d_Wr_writeSession_25 (lv_at hl 0 rfl) ?_
    refine lv_bipush (v := 20) hx hb d_Wr_writeSession_27 (by decide) ?_
    refine lv_iadd hx hb d_Wr_writeSession_29 ?_
    obtain ⟨v_24, v_26, F_w9, c_25, c_27⟩ := TI_wri hT T_w9
    refine hm_calli (va_runV (As := [.ref P9, .int (v_16 + 20)]) (b := w9) (rest := []) ⟨hx, hb, hml, hown, hts⟩ (t_place l D t G ak av hh7 τ n f w9 P9 (v_16 + 20)  hn hT T_w9 T_P9) ⟨cw9B 2 hts mw_312 mw_313 mw_275 rfl rfl (by decide +kernel) ⟨Nat.le_of_ble_eq_true rfl, Nat.le_of_ble_eq_true rfl⟩, hts _ mw_314, hts _ mw_315⟩ (hP_V (q := (R_Wr, F_Wr, 2)) kE_ok hE hK hH F_w9 rfl) rfl rfl hl.1 rfl (lv_room (Nat.le_of_ble_eq_true rfl)) d_Wr_writeSession_30 ⟨show cs + 0 ≤ B by omega, show (2048 * cs) + 0 ≤ 2048 * B by omega⟩) hLo (fun r_28 h_29 H_30 locs hp_32 hH z_31 hLo => ?_)
    have hz : s.heap.size ≤ H_30.size := Nat.le_trans hz z_31
    have hT0 := hT
    obtain ⟨hT, kf_34, xk_35⟩ := hp_32
    have F_m9 : h_29 m9 = some (.inr (0, [.ref v_14, .int v_16])) := kf_at kf_34 T_m9 (by decide) (tnc (by decide) tn0) nm0 F_m9
    have F_v_14 : h_29 v_14 = some (.inl ((t 5), n, .inr (.inr (.inr (.inr g_17))))) := kf_at kf_34 c_15 (by decide) (tnc (by decide) tn0) nm0 F_v_14
    have F_w9 : h_29 w9 = some (.inr (7, [.ref v_24, .ref v_26])) := kf_at kf_34 T_w9 (by decide) (tnc (by decide) tn0) nm0 F_w9
    have hnl : cs + nl L h_29 ≤ nl L h := Nat.le_trans (Nat.add_le_add_left (nl_mono hL (nlp_kf nlp_rf kf_34 (tnc (by decide) tn0) (List.forall_mem_nil _))) _) hnl
    have hnp_f : knp τ f h h_29 := knp_tr hnp_f xk_35
    have hkf : kf τ [(13, 0), (11, 0), (3, 0), (5, 0), (10, f), (9, f)] [] h h_29 := kf_tr hkf kf_34 (List.forall_mem_cons.mpr ⟨(List.mem_cons_of_mem _ (List.mem_cons_of_mem _ (List.mem_cons_of_mem _ (List.mem_cons_of_mem _ List.mem_cons_self)))), List.forall_mem_nil _⟩) (List.forall_mem_nil _)
    refine lv_istore (lv' := [(6, .int r_28), (5, .int v_16), (0, .ref w9), (1, .ref P9), (2, .ref m9), (3, .int c8), (4, .int i9)]) hx hb d_Wr_writeSession_33 hl (by decide) rfl (fun ls hl => ?_)
    refine lv_aload_n hx hb d_Wr_writeSession_35 rfl (lv_at hl 4 rfl) ?_
    refine lv_iload hx hb d_Wr_writeSession_36 (lv_at hl 1 rfl) ?_
    refine lv_bipush (v := 20) hx hb d_Wr_writeSession_38 (by decide) ?_
    refine lv_iload hx hb d_Wr_writeSession_40 (lv_at hl 0 rfl) ?_
    refine lv_iadd hx hb d_Wr_writeSession_42 ?_
    refine lv_iconst (v := 1) hx hb d_Wr_writeSession_43 (by decide) ?_
    refine lv_iadd hx hb d_Wr_writeSession_44 ?_
    refine hm_callPi (va_runV (As := [.int v_16, .int ((20 + r_28) + 1)]) (b := m9) (rest := []) ⟨hx, hb, hml, hown, hts⟩ (t_hasRoom l D t G ak av h_29 τ n m9 v_16 ((20 + r_28) + 1)  hn hT T_m9) ⟨cw9B 2 hts mw_270 mw_271 mw_32 rfl rfl (by decide +kernel) ⟨Nat.le_of_ble_eq_true rfl, Nat.le_of_ble_eq_true rfl⟩, hts _ mw_272, hts _ mw_273⟩ (hP_V (q := (R_Me, F_Me, 2)) kE_ok hE hK hH F_m9 rfl) rfl rfl hl.1 rfl (lv_room (Nat.le_of_ble_eq_true rfl)) d_Wr_writeSession_45 ⟨show cs + 0 ≤ B by omega, show (2048 * cs) + 0 ≤ 2048 * B by omega⟩) (fun r_36 h_37 H_38 hp_40  hH z_39 => ?_)
    have hz : s.heap.size ≤ H_38.size := Nat.le_trans hz z_39
    obtain ⟨c_41, xp_42, rfl⟩ := hp_40
    refine lv_if_ne (tgt := 54) hx hb d_Wr_writeSession_48 (by decide) (fun hc_43 => ?_) (fun hc_43 => ?_)
    · skip
      refine lv_aload_n hx hb d_Wr_writeSession_54 rfl (lv_at hl 2 rfl) ?_
      refine lv_aload_n hx hb d_Wr_writeSession_55 rfl (lv_at hl 3 rfl) ?_
      refine lv_aload_n hx hb d_Wr_writeSession_56 rfl (lv_at hl 4 rfl) ?_
      refine lv_iload hx hb d_Wr_writeSession_57 (lv_at hl 1 rfl) ?_
      refine hm_callDi (va_runVD (As := [.ref P9, .ref m9, .int v_16]) (b := w9) (rest := []) ⟨hx, hb, hml, hown, hts⟩ (t_whead l D t G ak av h_29 τ n f w9 P9 m9 v_16 hn hT T_w9 T_P9 T_m9 L (B - cs) hL hL2 (by omega)) ⟨cw9B 3 hts mw_316 mw_317 mw_275 rfl rfl (by decide +kernel) ⟨Nat.le_of_ble_eq_true rfl, Nat.le_of_ble_eq_true rfl⟩, hts _ mw_318, hts _ mw_319⟩ (hP_V (q := (R_Wr, F_Wr, 2)) kE_ok hE hK hH F_w9 rfl) rfl rfl hl.1 rfl (lv_room (Nat.le_of_ble_eq_true rfl)) d_Wr_writeSession_59 ⟨show cs + (B - cs) ≤ B by omega, show (2048 * cs) + 2048 * (B - cs) ≤ 2048 * B by omega⟩) hLo (fun r_44 h_45 H_46 locs k_49 n_50 hp_48 hH z_47 hLo => ?_)
      have hz : s.heap.size ≤ H_46.size := Nat.le_trans hz z_47
      obtain ⟨rfl, hnl2, hT, kf_51, xk_52⟩ := hp_48
      have F_v_14 : h_45 v_14 = some (.inl ((t 5), n, .inr (.inr (.inr (.inr g_17))))) := kf_at kf_51 c_15 (by decide) (tnc (by decide) (tnc (by decide) (tnc (by decide) (tnc (by decide) (tnc (by decide) tn0))))) nm0 F_v_14
      have F_w9 : h_45 w9 = some (.inr (7, [.ref v_24, .ref v_26])) := kf_at kf_51 T_w9 (by decide) (tnc (by decide) (tnc (by decide) (tnc (by decide) (tnc (by decide) (tnc (by decide) tn0))))) nm0 F_w9
      have hnl : (cs + k_49) + nl L h_45 ≤ nl L h := by omega
      have hnp_f : knp τ f h h_45 := knp_tr hnp_f xk_52
      have hkf : kf τ [(13, 0), (11, 0), (3, 0), (5, 0), (10, f), (9, f)] [] h h_45 := kf_tr hkf kf_51 (List.forall_mem_cons.mpr ⟨List.mem_cons_self, List.forall_mem_cons.mpr ⟨(List.mem_cons_of_mem _ List.mem_cons_self), List.forall_mem_cons.mpr ⟨(List.mem_cons_of_mem _ (List.mem_cons_of_mem _ List.mem_cons_self)), List.forall_mem_cons.mpr ⟨(List.mem_cons_of_mem _ (List.mem_cons_of_mem _ (List.mem_cons_of_mem _ List.mem_cons_self))), List.forall_mem_cons.mpr ⟨(List.mem_cons_of_mem _ (List.mem_cons_of_mem _ (List.mem_cons_of_mem _ (List.mem_cons_of_mem _ List.mem_cons_self)))), List.forall_mem_nil _⟩⟩⟩⟩⟩) (List.forall_mem_nil _)
      refine lv_istore (lv' := [(7, .int r_44), (6, .int r_28), (5, .int v_16), (0, .ref w9), (1, .ref P9), (2, .ref m9), (3, .int c8), (4, .int i9)]) hx hb d_Wr_writeSession_62 hl (by decide) rfl (fun ls hl => ?_)
      refine hm_cutC (α := Unit) (fun un9 ls H locs HH cs ss => ∃ (oc8 : Int32), ∃ (kq78 : Nat), (cs = kq78) ∧ (ss = 2048 * kq78) ∧ (lv_has ls 8 [(0, .ref w9), (1, .ref P9), (2, .ref m9), (3, .int c8), (4, .int i9), (5, .int v_16), (6, .int r_28), (7, .int oc8)]) ∧ (hm D vwCl G HH H) ∧ (s.heap.size ≤ H.size) ∧ (hLc G.P locs) ∧ (TI τ t n HH) ∧ (kf τ [(13, 0), (11, 0), (3, 0), (5, 0), (10, f), (9, f)] [] h HH) ∧ (kq78 + nl L HH ≤ nl L h) ∧ (knp τ f h HH)) 78 (fun un9 => []) ?_ (fun J78 => ?_)
      · skip
        rintro un9 ls H locs HH cs ss ⟨oc8, kq78, rfl, rfl, hl, hH, hz, hLo, hT, hkf, hnl, hnp_f⟩
        refine hm_cutC (α := Unit) (fun un9 ls H locs HH cs ss => ∃ (oc7 : Int32), ∃ (kq94 : Nat), (cs = kq94) ∧ (ss = 2048 * kq94) ∧ (lv_has ls 8 [(0, .ref w9), (1, .ref P9), (2, .ref m9), (3, .int c8), (4, .int i9), (5, .int v_16), (6, .int r_28), (7, .int oc7)]) ∧ (hm D vwCl G HH H) ∧ (s.heap.size ≤ H.size) ∧ (hLc G.P locs) ∧ (TI τ t n HH) ∧ (kf τ [(13, 0), (11, 0), (3, 0), (5, 0), (10, f), (9, f)] [] h HH) ∧ (kq94 + nl L HH ≤ nl L h) ∧ (knp τ f h HH)) 94 (fun un9 => []) ?_ (fun J94 => ?_)
        · skip
          rintro un9 ls H locs HH cs ss ⟨oc7, kq94, rfl, rfl, hl, hH, hz, hLo, hT, hkf, hnl, hnp_f⟩
          refine lv_iload hx hb d_Wr_writeSession_94 (lv_at hl 7 rfl) ?_
          refine lv_iconst (v := 2) hx hb d_Wr_writeSession_96 (by decide) ?_
          refine lv_icmp_eq (tgt := 103) hx hb d_Wr_writeSession_97 (by decide) (fun hc_54 => ?_) (fun hc_54 => ?_)
          · skip
            have ic_55 : oc7.toInt = 2 := congrArg Int32.toInt hc_54
            obtain ⟨j_56, e_57⟩ : ∃ z : Int32, z = i9 + 1 := ⟨_, rfl⟩
            refine lv_iinc (v := j_56) (lv' := [(4, .int j_56), (0, .ref w9), (1, .ref P9), (2, .ref m9), (3, .int c8), (5, .int v_16), (6, .int r_28), (7, .int oc7)]) hx hb d_Wr_writeSession_103 hl (k := 4) rfl e_57.symm (by decide) rfl (fun ls hl => ?_)
            refine lv_goto (tgt := 7) hx hb d_Wr_writeSession_106 (by decide) ?_
            have is_58 : j_56.toInt = i9.toInt + 1 := by rw [e_57]; exact iAddK 1 rfl (by omega) (by omega)
            exact ih7 (mU j_56) ls _ locs _ _ _ (by rw [hk7]; exact mU_lt (by omega)) ⟨j_56, cs, rfl, (by omega), (by omega), (lv_sub hl [1, 2, 3, 4, 0] rfl), hH, hz, hLo, hT, hkf, hnl, hnp_f, (by omega)⟩
          · skip
            refine lv_iload hx hb d_Wr_writeSession_100 (lv_at hl 7 rfl) ?_
            refine W.toD ?_
            exact W.iret (v := oc7) hx hb hr (fun t9 ht hW => ⟨oc7, HH, rfl, ⟨(by omega), (by omega), hT, hkf, hnp_f⟩, by rw [ht]; exact hH, by rw [ht]; exact hz⟩) hLo d_Wr_writeSession_102
        · skip
          refine lv_iload hx hb d_Wr_writeSession_78 (lv_at hl 7 rfl) ?_
          refine lv_iconst (v := 1) hx hb d_Wr_writeSession_80 (by decide) ?_
          refine lv_icmp_ne (tgt := 94) hx hb d_Wr_writeSession_81 (by decide) (fun hc_59 => ?_) (fun hc_59 => ?_)
          · skip
            exact J94 () _ _ _ _ _ _ ⟨oc8, cs, (by omega), (by omega), (lv_sub hl [0, 1, 2, 3, 4, 5, 6, 7] rfl), hH, hz, hLo, hT, hkf, hnl, hnp_f⟩
          · skip
            have ic_60 : oc8.toInt = 1 := congrArg Int32.toInt hc_59
            refine lv_aload_n hx hb d_Wr_writeSession_84 rfl (lv_at hl 0 rfl) ?_
            refine lv_aload_n hx hb d_Wr_writeSession_85 rfl (lv_at hl 2 rfl) ?_
            refine lv_iload hx hb d_Wr_writeSession_86 (lv_at hl 5 rfl) ?_
            refine lv_iload_n hx hb d_Wr_writeSession_88 rfl (lv_at hl 3 rfl) ?_
            obtain ⟨v_61, v_63, F_w9, c_62, c_64⟩ := TI_wri hT T_w9
            refine hm_callDi (va_runVD (As := [.ref m9, .int v_16, .int c8]) (b := w9) (rest := []) ⟨hx, hb, hml, hown, hts⟩ (t_wmark l D t G ak av HH τ n w9 m9 v_16 c8 hn hT T_w9 T_m9 L (B - cs) hL hL2 (by omega)) ⟨cw9B 3 hts mw_320 mw_321 mw_275 rfl rfl (by decide +kernel) ⟨Nat.le_of_ble_eq_true rfl, Nat.le_of_ble_eq_true rfl⟩, hts _ mw_322, hts _ mw_323⟩ (hP_V (q := (R_Wr, F_Wr, 2)) kE_ok hE hK hH F_w9 rfl) rfl rfl hl.1 rfl (lv_room (Nat.le_of_ble_eq_true rfl)) d_Wr_writeSession_89 ⟨show cs + (B - cs) ≤ B by omega, show (2048 * cs) + 2048 * (B - cs) ≤ 2048 * B by omega⟩) hLo (fun r_65 h_66 H_67 locs k_70 n_71 hp_69 hH z_68 hLo => ?_)
            have hz : s.heap.size ≤ H_67.size := Nat.le_trans hz z_68
            obtain ⟨rfl, hnl2, hT, kf_72⟩ := hp_69
            have F_w9 : h_66 w9 = some (.inr (7, [.ref v_61, .ref v_63])) := kf_at kf_72 T_w9 (by decide) (tnc (by decide) (tnc (by decide) (tnc (by decide) (tnc (by decide) tn0)))) nm0 F_w9
            have hnl : (cs + k_70) + nl L h_66 ≤ nl L h := by omega
            have hnp_f : knp τ f h h_66 := knp_kf hnp_f kf_72 (tnc (by decide) (tnc (by decide) (tnc (by decide) (tnc (by decide) tn0)))) (List.forall_mem_nil _)
            have hkf : kf τ [(13, 0), (11, 0), (3, 0), (5, 0), (10, f), (9, f)] [] h h_66 := kf_tr hkf kf_72 (List.forall_mem_cons.mpr ⟨List.mem_cons_self, List.forall_mem_cons.mpr ⟨(List.mem_cons_of_mem _ List.mem_cons_self), List.forall_mem_cons.mpr ⟨(List.mem_cons_of_mem _ (List.mem_cons_of_mem _ List.mem_cons_self)), List.forall_mem_cons.mpr ⟨(List.mem_cons_of_mem _ (List.mem_cons_of_mem _ (List.mem_cons_of_mem _ List.mem_cons_self))), List.forall_mem_nil _⟩⟩⟩⟩) (List.forall_mem_nil _)
            refine lv_istore (lv' := [(7, .int r_65), (0, .ref w9), (1, .ref P9), (2, .ref m9), (3, .int c8), (4, .int i9), (5, .int v_16), (6, .int r_28)]) hx hb d_Wr_writeSession_92 hl (by decide) rfl (fun ls hl => ?_)
            exact J94 () _ _ _ _ _ _ ⟨r_65, (cs + k_70), (by omega), (by omega), (lv_sub hl [1, 2, 3, 4, 5, 6, 7, 0] rfl), hH, hz, hLo, hT, hkf, hnl, hnp_f⟩
      · skip
        refine lv_iload hx hb d_Wr_writeSession_64 (lv_at hl 0 rfl) ?_
        refine lv_iconst (v := 1) hx hb d_Wr_writeSession_66 (by decide) ?_
        refine lv_icmp_ne (tgt := 78) hx hb d_Wr_writeSession_67 (by decide) (fun hc_74 => ?_) (fun hc_74 => ?_)
        · skip
          exact J78 () _ _ _ _ _ _ ⟨r_44, (cs + k_49), (by omega), (by omega), (lv_sub hl [3, 4, 5, 6, 7, 2, 1, 0] rfl), hH, hz, hLo, hT, hkf, hnl, hnp_f⟩
        · skip
          have ic_75 : r_44.toInt = 1 := congrArg Int32.toInt hc_74
          refine lv_aload_n hx hb d_Wr_writeSession_70 rfl (lv_at hl 3 rfl) ?_
          refine lv_aload_n hx hb d_Wr_writeSession_71 rfl (lv_at hl 4 rfl) ?_
          refine lv_aload_n hx hb d_Wr_writeSession_72 rfl (lv_at hl 5 rfl) ?_
          refine hm_callDi (va_runVD (As := [.ref P9, .ref m9]) (b := w9) (rest := []) ⟨hx, hb, hml, hown, hts⟩ (t_wdirs l D t G ak av h_45 τ n f w9 P9 m9 hn hT T_w9 T_P9 T_m9 L (B - (cs + k_49)) hL hL2 (by omega)) ⟨cw9B 2 hts mw_324 mw_325 mw_275 rfl rfl (by decide +kernel) ⟨Nat.le_of_ble_eq_true rfl, Nat.le_of_ble_eq_true rfl⟩, hts _ mw_326, hts _ mw_327⟩ (hP_V (q := (R_Wr, F_Wr, 2)) kE_ok hE hK hH F_w9 rfl) rfl rfl hl.1 rfl (lv_room (Nat.le_of_ble_eq_true rfl)) d_Wr_writeSession_73 ⟨show (cs + k_49) + (B - (cs + k_49)) ≤ B by omega, show ((2048 * cs) + 2048 * k_49) + 2048 * (B - (cs + k_49)) ≤ 2048 * B by omega⟩) hLo (fun r_76 h_77 H_78 locs k_81 n_82 hp_80 hH z_79 hLo => ?_)
          have hz : s.heap.size ≤ H_78.size := Nat.le_trans hz z_79
          obtain ⟨rfl, hnl2, hT, kf_83⟩ := hp_80
          have F_v_14 : h_77 v_14 = some (.inl ((t 5), n, .inr (.inr (.inr (.inr g_17))))) := kf_at kf_83 c_15 (by decide) (tnc (by decide) (tnc (by decide) (tnc (by decide) (tnc (by decide) tn0)))) nm0 F_v_14
          have F_w9 : h_77 w9 = some (.inr (7, [.ref v_24, .ref v_26])) := kf_at kf_83 T_w9 (by decide) (tnc (by decide) (tnc (by decide) (tnc (by decide) (tnc (by decide) tn0)))) nm0 F_w9
          have hnl : ((cs + k_49) + k_81) + nl L h_77 ≤ nl L h := by omega
          have hnp_f : knp τ f h h_77 := knp_kf hnp_f kf_83 (tnc (by decide) (tnc (by decide) (tnc (by decide) (tnc (by decide) tn0)))) (List.forall_mem_nil _)
          have hkf : kf τ [(13, 0), (11, 0), (3, 0), (5, 0), (10, f), (9, f)] [] h h_77 := kf_tr hkf kf_83 (List.forall_mem_cons.mpr ⟨List.mem_cons_self, List.forall_mem_cons.mpr ⟨(List.mem_cons_of_mem _ List.mem_cons_self), List.forall_mem_cons.mpr ⟨(List.mem_cons_of_mem _ (List.mem_cons_of_mem _ List.mem_cons_self)), List.forall_mem_cons.mpr ⟨(List.mem_cons_of_mem _ (List.mem_cons_of_mem _ (List.mem_cons_of_mem _ List.mem_cons_self))), List.forall_mem_nil _⟩⟩⟩⟩) (List.forall_mem_nil _)
          refine lv_istore (lv' := [(7, .int r_76), (6, .int r_28), (5, .int v_16), (0, .ref w9), (1, .ref P9), (2, .ref m9), (3, .int c8), (4, .int i9)]) hx hb d_Wr_writeSession_76 hl (by decide) rfl (fun ls hl => ?_)
          exact J78 () _ _ _ _ _ _ ⟨r_76, ((cs + k_49) + k_81), (by omega), (by omega), (lv_sub hl [3, 4, 5, 6, 7, 2, 1, 0] rfl), hH, hz, hLo, hT, hkf, hnl, hnp_f⟩
    · skip
      have ic_85 : r_36.toInt = 0 := congrArg Int32.toInt hc_43
      refine lv_bipush (v := -3) hx hb d_Wr_writeSession_51 (by decide) ?_
      refine W.toD ?_
      exact W.iret (v := (-3)) hx hb hr (fun t9 ht hW => ⟨(-3), h_29, rfl, ⟨(by omega), (by omega), hT, hkf, hnp_f⟩, by rw [ht]; exact hH, by rw [ht]; exact hz⟩) hLo d_Wr_writeSession_53
