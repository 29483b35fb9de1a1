theorem tw_i {w : Cond} (i : Nat) (h : lw_tbl[i]? = some w) (hg : goodWord w = true) : w ∈ tw := List.mem_filter.mpr ⟨List.mem_of_getElem? h, hg⟩
theorem nw_i {w : Cond} (i : Nat) (h : lw_tbl[i]? = some w) (hg : isNs w = true) : w ∈ nw := List.mem_filter.mpr ⟨List.mem_of_getElem? h, hg⟩
abbrev rmd (f l : Nat) : Room := { frames := f, cells := 0, slots := 0, locals := l }
theorem ti_X5 : Cond.initialized RX5 ∈ tw := tw_i 66 (by decide +kernel) (by decide +kernel)
theorem ti_X0 : Cond.initialized RX0 ∈ tw := tw_i 71 (by decide +kernel) (by decide +kernel)
theorem ti_X1 : Cond.initialized RX1 ∈ tw := tw_i 67 (by decide +kernel) (by decide +kernel)
theorem ti_X2 : Cond.initialized RX2 ∈ tw := tw_i 70 (by decide +kernel) (by decide +kernel)
theorem ti_X3 : Cond.initialized RX3 ∈ tw := tw_i 68 (by decide +kernel) (by decide +kernel)
theorem ti_X4 : Cond.initialized RX4 ∈ tw := tw_i 69 (by decide +kernel) (by decide +kernel)
theorem ti_L : Cond.initialized RL ∈ tw := tw_i 65 (by decide +kernel) (by decide +kernel)
theorem ti_X6 : Cond.initialized RX6 ∈ tw := tw_i 72 (by decide +kernel) (by decide +kernel)
theorem ti_java_lang_Exception : Cond.initialized "java/lang/Exception" ∈ tw := tw_i 75 (by decide +kernel) (by decide +kernel)
theorem ti_J6 : Cond.initialized RJ6 ∈ tw := tw_i 80 (by decide +kernel) (by decide +kernel)
theorem ti_J9 : Cond.initialized RJ9 ∈ tw := tw_i 78 (by decide +kernel) (by decide +kernel)
theorem ti_java_lang_RuntimeException : Cond.initialized "java/lang/RuntimeException" ∈ tw := tw_i 76 (by decide +kernel) (by decide +kernel)
theorem ti_J10 : Cond.initialized RJ10 ∈ tw := tw_i 79 (by decide +kernel) (by decide +kernel)
theorem ti_java_lang_Throwable : Cond.initialized "java/lang/Throwable" ∈ tw := tw_i 74 (by decide +kernel) (by decide +kernel)
theorem ti_J7 : Cond.initialized RJ7 ∈ tw := tw_i 73 (by decide +kernel) (by decide +kernel)
theorem ti_java_util_NoSuchElementException : Cond.initialized "java/util/NoSuchElementException" ∈ tw := tw_i 77 (by decide +kernel) (by decide +kernel)
abbrev mX0_has : Mb := (yX0_has, cX0_has, 2, (some .boolean))
set_option maxRecDepth 100000 in
theorem tc_X0_has : Cond.code yX0_has cX0_has 2 (some .boolean) ∈ tw := tw_i 587 rfl rfl
theorem mw_X0_has : Mw mX0_has 1 := ⟨tc_X0_has, ti_X0, by decide +kernel, by decide +kernel, by decide +kernel⟩
theorem tn_X0_has : Cond.instanceMethod yX0_has ∈ tw := tw_i 586 (by decide +kernel) (by decide +kernel)
theorem ts_X0_has : Cond.selects RX0 yX0_has yX0_has ∈ tw := tw_i 43 (by decide +kernel) (by decide +kernel)
theorem mi_X0_has : Mi mX0_has := ⟨tn_X0_has, ts_X0_has⟩
abbrev mX0_makeDoubled : Mb := (yX0_makeDoubled, cX0_makeDoubled, 4, none)
set_option maxRecDepth 100000 in
theorem tc_X0_makeDoubled : Cond.code yX0_makeDoubled cX0_makeDoubled 4 none ∈ tw := tw_i 558 rfl rfl
theorem mw_X0_makeDoubled : Mw mX0_makeDoubled 1 := ⟨tc_X0_makeDoubled, ti_X0, by decide +kernel, by decide +kernel, by decide +kernel⟩
theorem tn_X0_makeDoubled : Cond.instanceMethod yX0_makeDoubled ∈ tw := tw_i 557 (by decide +kernel) (by decide +kernel)
theorem ts_X0_makeDoubled : Cond.selects RX0 yX0_makeDoubled yX0_makeDoubled ∈ tw := tw_i 39 (by decide +kernel) (by decide +kernel)
theorem mi_X0_makeDoubled : Mi mX0_makeDoubled := ⟨tn_X0_makeDoubled, ts_X0_makeDoubled⟩
abbrev mX0_makeByRests : Mb := (yX0_makeByRests, cX0_makeByRests, 4, none)
set_option maxRecDepth 100000 in
theorem tc_X0_makeByRests : Cond.code yX0_makeByRests cX0_makeByRests 4 none ∈ tw := tw_i 563 rfl rfl
theorem mw_X0_makeByRests : Mw mX0_makeByRests 1 := ⟨tc_X0_makeByRests, ti_X0, by decide +kernel, by decide +kernel, by decide +kernel⟩
theorem tn_X0_makeByRests : Cond.instanceMethod yX0_makeByRests ∈ tw := tw_i 562 (by decide +kernel) (by decide +kernel)
theorem ts_X0_makeByRests : Cond.selects RX0 yX0_makeByRests yX0_makeByRests ∈ tw := tw_i 40 (by decide +kernel) (by decide +kernel)
theorem mi_X0_makeByRests : Mi mX0_makeByRests := ⟨tn_X0_makeByRests, ts_X0_makeByRests⟩
abbrev mX0_doubleUp : Mb := (yX0_doubleUp, cX0_doubleUp, 4, none)
set_option maxRecDepth 100000 in
theorem tc_X0_doubleUp : Cond.code yX0_doubleUp cX0_doubleUp 4 none ∈ tw := tw_i 572 rfl rfl
theorem mw_X0_doubleUp : Mw mX0_doubleUp 0 := ⟨tc_X0_doubleUp, ti_X0, by decide +kernel, by decide +kernel, by decide +kernel⟩
theorem tn_X0_doubleUp : Cond.instanceMethod yX0_doubleUp ∈ tw := tw_i 571 (by decide +kernel) (by decide +kernel)
theorem ts_X0_doubleUp : Cond.selects RX0 yX0_doubleUp yX0_doubleUp ∈ tw := tw_i 41 (by decide +kernel) (by decide +kernel)
theorem mi_X0_doubleUp : Mi mX0_doubleUp := ⟨tn_X0_doubleUp, ts_X0_doubleUp⟩
abbrev mX0_allColumns : Mb := (yX0_allColumns, cX0_allColumns, 1, (some .int))
set_option maxRecDepth 100000 in
theorem tc_X0_allColumns : Cond.code yX0_allColumns cX0_allColumns 1 (some .int) ∈ tw := tw_i 575 rfl rfl
theorem mw_X0_allColumns : Mw mX0_allColumns 1 := ⟨tc_X0_allColumns, ti_X0, by decide +kernel, by decide +kernel, by decide +kernel⟩
theorem ms_X0_allColumns : Cond.static yX0_allColumns ∈ tw := tw_i 574 (by decide +kernel) (by decide +kernel)
abbrev mX0_swapRows : Mb := (yX0_swapRows, cX0_swapRows, 4, none)
set_option maxRecDepth 100000 in
theorem tc_X0_swapRows : Cond.code yX0_swapRows cX0_swapRows 4 none ∈ tw := tw_i 591 rfl rfl
theorem mw_X0_swapRows : Mw mX0_swapRows 2 := ⟨tc_X0_swapRows, ti_X0, by decide +kernel, by decide +kernel, by decide +kernel⟩
theorem tn_X0_swapRows : Cond.instanceMethod yX0_swapRows ∈ tw := tw_i 590 (by decide +kernel) (by decide +kernel)
theorem ts_X0_swapRows : Cond.selects RX0 yX0_swapRows yX0_swapRows ∈ tw := tw_i 44 (by decide +kernel) (by decide +kernel)
theorem mi_X0_swapRows : Mi mX0_swapRows := ⟨tn_X0_swapRows, ts_X0_swapRows⟩
abbrev mX0_signAt : Mb := (yX0_signAt, cX0_signAt, 3, (some .int))
set_option maxRecDepth 100000 in
theorem tc_X0_signAt : Cond.code yX0_signAt cX0_signAt 3 (some .int) ∈ tw := tw_i 599 rfl rfl
theorem mw_X0_signAt : Mw mX0_signAt 2 := ⟨tc_X0_signAt, ti_X0, by decide +kernel, by decide +kernel, by decide +kernel⟩
theorem tn_X0_signAt : Cond.instanceMethod yX0_signAt ∈ tw := tw_i 598 (by decide +kernel) (by decide +kernel)
theorem ts_X0_signAt : Cond.selects RX0 yX0_signAt yX0_signAt ∈ tw := tw_i 45 (by decide +kernel) (by decide +kernel)
theorem mi_X0_signAt : Mi mX0_signAt := ⟨tn_X0_signAt, ts_X0_signAt⟩
abbrev mX0_rowProduct : Mb := (yX0_rowProduct, cX0_rowProduct, 3, (some .int))
set_option maxRecDepth 100000 in
theorem tc_X0_rowProduct : Cond.code yX0_rowProduct cX0_rowProduct 3 (some .int) ∈ tw := tw_i 607 rfl rfl
theorem mw_X0_rowProduct : Mw mX0_rowProduct 2 := ⟨tc_X0_rowProduct, ti_X0, by decide +kernel, by decide +kernel, by decide +kernel⟩
theorem tn_X0_rowProduct : Cond.instanceMethod yX0_rowProduct ∈ tw := tw_i 606 (by decide +kernel) (by decide +kernel)
theorem ts_X0_rowProduct : Cond.selects RX0 yX0_rowProduct yX0_rowProduct ∈ tw := tw_i 46 (by decide +kernel) (by decide +kernel)
theorem mi_X0_rowProduct : Mi mX0_rowProduct := ⟨tn_X0_rowProduct, ts_X0_rowProduct⟩
abbrev mX1_isRow : Mb := (yX1_isRow, cX1_isRow, 1, (some .boolean))
set_option maxRecDepth 100000 in
theorem tc_X1_isRow : Cond.code yX1_isRow cX1_isRow 1 (some .boolean) ∈ tw := tw_i 258 rfl rfl
theorem mw_X1_isRow : Mw mX1_isRow 1 := ⟨tc_X1_isRow, ti_X1, by decide +kernel, by decide +kernel, by decide +kernel⟩
theorem ms_X1_isRow : Cond.static yX1_isRow ∈ tw := tw_i 257 (by decide +kernel) (by decide +kernel)
abbrev mX1_fits : Mb := (yX1_fits, cX1_fits, 2, (some .boolean))
set_option maxRecDepth 100000 in
theorem tc_X1_fits : Cond.code yX1_fits cX1_fits 2 (some .boolean) ∈ tw := tw_i 265 rfl rfl
theorem mw_X1_fits : Mw mX1_fits 2 := ⟨tc_X1_fits, ti_X1, by decide +kernel, by decide +kernel, by decide +kernel⟩
theorem ms_X1_fits : Cond.static yX1_fits ∈ tw := tw_i 264 (by decide +kernel) (by decide +kernel)
abbrev mX1_start : Mb := (yX1_start, cX1_start, 3, none)
set_option maxRecDepth 100000 in
theorem tc_X1_start : Cond.code yX1_start cX1_start 3 none ∈ tw := tw_i 224 rfl rfl
theorem mw_X1_start : Mw mX1_start 1 := ⟨tc_X1_start, ti_X1, by decide +kernel, by decide +kernel, by decide +kernel⟩
theorem tn_X1_start : Cond.instanceMethod yX1_start ∈ tw := tw_i 223 (by decide +kernel) (by decide +kernel)
theorem ts_X1_start : Cond.selects RX1 yX1_start yX1_start ∈ tw := tw_i 2 (by decide +kernel) (by decide +kernel)
theorem mi_X1_start : Mi mX1_start := ⟨tn_X1_start, ts_X1_start⟩
abbrev mX1_has : Mb := (yX1_has, cX1_has, 2, (some .boolean))
set_option maxRecDepth 100000 in
theorem tc_X1_has : Cond.code yX1_has cX1_has 2 (some .boolean) ∈ tw := tw_i 287 rfl rfl
theorem mw_X1_has : Mw mX1_has 1 := ⟨tc_X1_has, ti_X1, by decide +kernel, by decide +kernel, by decide +kernel⟩
theorem tn_X1_has : Cond.instanceMethod yX1_has ∈ tw := tw_i 286 (by decide +kernel) (by decide +kernel)
theorem ts_X1_has : Cond.selects RX1 yX1_has yX1_has ∈ tw := tw_i 10 (by decide +kernel) (by decide +kernel)
theorem mi_X1_has : Mi mX1_has := ⟨tn_X1_has, ts_X1_has⟩
abbrev mX1_get : Mb := (yX1_get, cX1_get, 3, (some .int))
set_option maxRecDepth 100000 in
theorem tc_X1_get : Cond.code yX1_get cX1_get 3 (some .int) ∈ tw := tw_i 359 rfl rfl
theorem mw_X1_get : Mw mX1_get 2 := ⟨tc_X1_get, ti_X1, by decide +kernel, by decide +kernel, by decide +kernel⟩
theorem tn_X1_get : Cond.instanceMethod yX1_get ∈ tw := tw_i 358 (by decide +kernel) (by decide +kernel)
theorem ts_X1_get : Cond.selects RX1 yX1_get yX1_get ∈ tw := tw_i 18 (by decide +kernel) (by decide +kernel)
theorem mi_X1_get : Mi mX1_get := ⟨tn_X1_get, ts_X1_get⟩
abbrev mX1_put : Mb := (yX1_put, cX1_put, 4, none)
set_option maxRecDepth 100000 in
theorem tc_X1_put : Cond.code yX1_put cX1_put 4 none ∈ tw := tw_i 271 rfl rfl
theorem mw_X1_put : Mw mX1_put 3 := ⟨tc_X1_put, ti_X1, by decide +kernel, by decide +kernel, by decide +kernel⟩
theorem tn_X1_put : Cond.instanceMethod yX1_put ∈ tw := tw_i 270 (by decide +kernel) (by decide +kernel)
theorem ts_X1_put : Cond.selects RX1 yX1_put yX1_put ∈ tw := tw_i 7 (by decide +kernel) (by decide +kernel)
theorem mi_X1_put : Mi mX1_put := ⟨tn_X1_put, ts_X1_put⟩
abbrev mX1_wrap : Mb := (yX1_wrap, cX1_wrap, 2, (some .int))
set_option maxRecDepth 100000 in
theorem tc_X1_wrap : Cond.code yX1_wrap cX1_wrap 2 (some .int) ∈ tw := tw_i 316 rfl rfl
theorem mw_X1_wrap : Mw mX1_wrap 1 := ⟨tc_X1_wrap, ti_X1, by decide +kernel, by decide +kernel, by decide +kernel⟩
theorem tn_X1_wrap : Cond.instanceMethod yX1_wrap ∈ tw := tw_i 315 (by decide +kernel) (by decide +kernel)
theorem ts_X1_wrap : Cond.selects RX1 yX1_wrap yX1_wrap ∈ tw := tw_i 15 (by decide +kernel) (by decide +kernel)
theorem mi_X1_wrap : Mi mX1_wrap := ⟨tn_X1_wrap, ts_X1_wrap⟩
abbrev mX1_tally : Mb := (yX1_tally, cX1_tally, 5, (some .int))
set_option maxRecDepth 100000 in
theorem tc_X1_tally : Cond.code yX1_tally cX1_tally 5 (some .int) ∈ tw := tw_i 300 rfl rfl
theorem mw_X1_tally : Mw mX1_tally 2 := ⟨tc_X1_tally, ti_X1, by decide +kernel, by decide +kernel, by decide +kernel⟩
theorem tn_X1_tally : Cond.instanceMethod yX1_tally ∈ tw := tw_i 299 (by decide +kernel) (by decide +kernel)
theorem ts_X1_tally : Cond.selects RX1 yX1_tally yX1_tally ∈ tw := tw_i 11 (by decide +kernel) (by decide +kernel)
theorem mi_X1_tally : Mi mX1_tally := ⟨tn_X1_tally, ts_X1_tally⟩
abbrev mX1_share : Mb := (yX1_share, cX1_share, 3, (some .int))
set_option maxRecDepth 100000 in
theorem tc_X1_share : Cond.code yX1_share cX1_share 3 (some .int) ∈ tw := tw_i 440 rfl rfl
theorem mw_X1_share : Mw mX1_share 2 := ⟨tc_X1_share, ti_X1, by decide +kernel, by decide +kernel, by decide +kernel⟩
theorem tn_X1_share : Cond.instanceMethod yX1_share ∈ tw := tw_i 439 (by decide +kernel) (by decide +kernel)
theorem ts_X1_share : Cond.selects RX1 yX1_share yX1_share ∈ tw := tw_i 24 (by decide +kernel) (by decide +kernel)
theorem mi_X1_share : Mi mX1_share := ⟨tn_X1_share, ts_X1_share⟩
abbrev mX1_shadowAt : Mb := (yX1_shadowAt, cX1_shadowAt, 2, (some .int))
set_option maxRecDepth 100000 in
theorem tc_X1_shadowAt : Cond.code yX1_shadowAt cX1_shadowAt 2 (some .int) ∈ tw := tw_i 324 rfl rfl
theorem mw_X1_shadowAt : Mw mX1_shadowAt 1 := ⟨tc_X1_shadowAt, ti_X1, by decide +kernel, by decide +kernel, by decide +kernel⟩
theorem tn_X1_shadowAt : Cond.instanceMethod yX1_shadowAt ∈ tw := tw_i 323 (by decide +kernel) (by decide +kernel)
theorem ts_X1_shadowAt : Cond.selects RX1 yX1_shadowAt yX1_shadowAt ∈ tw := tw_i 16 (by decide +kernel) (by decide +kernel)
theorem mi_X1_shadowAt : Mi mX1_shadowAt := ⟨tn_X1_shadowAt, ts_X1_shadowAt⟩
abbrev mX1_meetsAt : Mb := (yX1_meetsAt, cX1_meetsAt, 2, (some .int))
set_option maxRecDepth 100000 in
theorem tc_X1_meetsAt : Cond.code yX1_meetsAt cX1_meetsAt 2 (some .int) ∈ tw := tw_i 308 rfl rfl
theorem mw_X1_meetsAt : Mw mX1_meetsAt 1 := ⟨tc_X1_meetsAt, ti_X1, by decide +kernel, by decide +kernel, by decide +kernel⟩
theorem tn_X1_meetsAt : Cond.instanceMethod yX1_meetsAt ∈ tw := tw_i 307 (by decide +kernel) (by decide +kernel)
theorem ts_X1_meetsAt : Cond.selects RX1 yX1_meetsAt yX1_meetsAt ∈ tw := tw_i 13 (by decide +kernel) (by decide +kernel)
theorem mi_X1_meetsAt : Mi mX1_meetsAt := ⟨tn_X1_meetsAt, ts_X1_meetsAt⟩
abbrev mX1_throughMask : Mb := (yX1_throughMask, cX1_throughMask, 5, (some .int))
set_option maxRecDepth 100000 in
theorem tc_X1_throughMask : Cond.code yX1_throughMask cX1_throughMask 5 (some .int) ∈ tw := tw_i 312 rfl rfl
theorem mw_X1_throughMask : Mw mX1_throughMask 2 := ⟨tc_X1_throughMask, ti_X1, by decide +kernel, by decide +kernel, by decide +kernel⟩
theorem tn_X1_throughMask : Cond.instanceMethod yX1_throughMask ∈ tw := tw_i 311 (by decide +kernel) (by decide +kernel)
theorem ts_X1_throughMask : Cond.selects RX1 yX1_throughMask yX1_throughMask ∈ tw := tw_i 14 (by decide +kernel) (by decide +kernel)
theorem mi_X1_throughMask : Mi mX1_throughMask := ⟨tn_X1_throughMask, ts_X1_throughMask⟩
abbrev mX1_firstOff : Mb := (yX1_firstOff, cX1_firstOff, 2, (some .int))
set_option maxRecDepth 100000 in
theorem tc_X1_firstOff : Cond.code yX1_firstOff cX1_firstOff 2 (some .int) ∈ tw := tw_i 304 rfl rfl
theorem mw_X1_firstOff : Mw mX1_firstOff 0 := ⟨tc_X1_firstOff, ti_X1, by decide +kernel, by decide +kernel, by decide +kernel⟩
theorem tn_X1_firstOff : Cond.instanceMethod yX1_firstOff ∈ tw := tw_i 303 (by decide +kernel) (by decide +kernel)
theorem ts_X1_firstOff : Cond.selects RX1 yX1_firstOff yX1_firstOff ∈ tw := tw_i 12 (by decide +kernel) (by decide +kernel)
theorem mi_X1_firstOff : Mi mX1_firstOff := ⟨tn_X1_firstOff, ts_X1_firstOff⟩
abbrev mX1_turnMask : Mb := (yX1_turnMask, cX1_turnMask, 4, none)
set_option maxRecDepth 100000 in
theorem tc_X1_turnMask : Cond.code yX1_turnMask cX1_turnMask 4 none ∈ tw := tw_i 345 rfl rfl
theorem mw_X1_turnMask : Mw mX1_turnMask 1 := ⟨tc_X1_turnMask, ti_X1, by decide +kernel, by decide +kernel, by decide +kernel⟩
theorem tn_X1_turnMask : Cond.instanceMethod yX1_turnMask ∈ tw := tw_i 344 (by decide +kernel) (by decide +kernel)
theorem ts_X1_turnMask : Cond.selects RX1 yX1_turnMask yX1_turnMask ∈ tw := tw_i 17 (by decide +kernel) (by decide +kernel)
theorem mi_X1_turnMask : Mi mX1_turnMask := ⟨tn_X1_turnMask, ts_X1_turnMask⟩
abbrev mX2_search : Mb := (yX2_search, cX2_search, 5, none)
set_option maxRecDepth 100000 in
theorem tc_X2_search : Cond.code yX2_search cX2_search 5 none ∈ tw := tw_i 510 rfl rfl
theorem mw_X2_search : Mw mX2_search 2 := ⟨tc_X2_search, ti_X2, by decide +kernel, by decide +kernel, by decide +kernel⟩
theorem tn_X2_search : Cond.instanceMethod yX2_search ∈ tw := tw_i 509 (by decide +kernel) (by decide +kernel)
theorem ts_X2_search : Cond.selects RX2 yX2_search yX2_search ∈ tw := tw_i 32 (by decide +kernel) (by decide +kernel)
theorem mi_X2_search : Mi mX2_search := ⟨tn_X2_search, ts_X2_search⟩
abbrev mX2_searchPairs : Mb := (yX2_searchPairs, cX2_searchPairs, 6, none)
set_option maxRecDepth 100000 in
theorem tc_X2_searchPairs : Cond.code yX2_searchPairs cX2_searchPairs 6 none ∈ tw := tw_i 538 rfl rfl
theorem mw_X2_searchPairs : Mw mX2_searchPairs 3 := ⟨tc_X2_searchPairs, ti_X2, by decide +kernel, by decide +kernel, by decide +kernel⟩
theorem tn_X2_searchPairs : Cond.instanceMethod yX2_searchPairs ∈ tw := tw_i 537 (by decide +kernel) (by decide +kernel)
theorem ts_X2_searchPairs : Cond.selects RX2 yX2_searchPairs yX2_searchPairs ∈ tw := tw_i 36 (by decide +kernel) (by decide +kernel)
theorem mi_X2_searchPairs : Mi mX2_searchPairs := ⟨tn_X2_searchPairs, ts_X2_searchPairs⟩
abbrev mX2_openWindows : Mb := (yX2_openWindows, cX2_openWindows, 13, none)
set_option maxRecDepth 100000 in
theorem tc_X2_openWindows : Cond.code yX2_openWindows cX2_openWindows 13 none ∈ tw := tw_i 514 rfl rfl
theorem mw_X2_openWindows : Mw mX2_openWindows 4 := ⟨tc_X2_openWindows, ti_X2, by decide +kernel, by decide +kernel, by decide +kernel⟩
theorem tn_X2_openWindows : Cond.instanceMethod yX2_openWindows ∈ tw := tw_i 513 (by decide +kernel) (by decide +kernel)
theorem ts_X2_openWindows : Cond.selects RX2 yX2_openWindows yX2_openWindows ∈ tw := tw_i 33 (by decide +kernel) (by decide +kernel)
theorem mi_X2_openWindows : Mi mX2_openWindows := ⟨tn_X2_openWindows, ts_X2_openWindows⟩
abbrev mX2_holds : Mb := (yX2_holds, cX2_holds, 3, (some .boolean))
set_option maxRecDepth 100000 in
theorem tc_X2_holds : Cond.code yX2_holds cX2_holds 3 (some .boolean) ∈ tw := tw_i 530 rfl rfl
theorem mw_X2_holds : Mw mX2_holds 2 := ⟨tc_X2_holds, ti_X2, by decide +kernel, by decide +kernel, by decide +kernel⟩
theorem tn_X2_holds : Cond.instanceMethod yX2_holds ∈ tw := tw_i 529 (by decide +kernel) (by decide +kernel)
theorem ts_X2_holds : Cond.selects RX2 yX2_holds yX2_holds ∈ tw := tw_i 34 (by decide +kernel) (by decide +kernel)
theorem mi_X2_holds : Mi mX2_holds := ⟨tn_X2_holds, ts_X2_holds⟩
abbrev mX2_tellSeconds : Mb := (yX2_tellSeconds, cX2_tellSeconds, 8, none)
set_option maxRecDepth 100000 in
theorem tc_X2_tellSeconds : Cond.code yX2_tellSeconds cX2_tellSeconds 8 none ∈ tw := tw_i 542 rfl rfl
theorem mw_X2_tellSeconds : Mw mX2_tellSeconds 3 := ⟨tc_X2_tellSeconds, ti_X2, by decide +kernel, by decide +kernel, by decide +kernel⟩
theorem tn_X2_tellSeconds : Cond.instanceMethod yX2_tellSeconds ∈ tw := tw_i 541 (by decide +kernel) (by decide +kernel)
theorem ts_X2_tellSeconds : Cond.selects RX2 yX2_tellSeconds yX2_tellSeconds ∈ tw := tw_i 37 (by decide +kernel) (by decide +kernel)
theorem mi_X2_tellSeconds : Mi mX2_tellSeconds := ⟨tn_X2_tellSeconds, ts_X2_tellSeconds⟩
abbrev mX2_tell : Mb := (yX2_tell, cX2_tell, 6, none)
set_option maxRecDepth 100000 in
theorem tc_X2_tell : Cond.code yX2_tell cX2_tell 6 none ∈ tw := tw_i 534 rfl rfl
theorem mw_X2_tell : Mw mX2_tell 4 := ⟨tc_X2_tell, ti_X2, by decide +kernel, by decide +kernel, by decide +kernel⟩
theorem tn_X2_tell : Cond.instanceMethod yX2_tell ∈ tw := tw_i 533 (by decide +kernel) (by decide +kernel)
theorem ts_X2_tell : Cond.selects RX2 yX2_tell yX2_tell ∈ tw := tw_i 35 (by decide +kernel) (by decide +kernel)
theorem mi_X2_tell : Mi mX2_tell := ⟨tn_X2_tell, ts_X2_tell⟩
abbrev mX2_part : Mb := (yX2_part, cX2_part, 4, (some .int))
set_option maxRecDepth 100000 in
theorem tc_X2_part : Cond.code yX2_part cX2_part 4 (some .int) ∈ tw := tw_i 550 rfl rfl
theorem mw_X2_part : Mw mX2_part 2 := ⟨tc_X2_part, ti_X2, by decide +kernel, by decide +kernel, by decide +kernel⟩
theorem tn_X2_part : Cond.instanceMethod yX2_part ∈ tw := tw_i 549 (by decide +kernel) (by decide +kernel)
theorem ts_X2_part : Cond.selects RX2 yX2_part yX2_part ∈ tw := tw_i 38 (by decide +kernel) (by decide +kernel)
theorem mi_X2_part : Mi mX2_part := ⟨tn_X2_part, ts_X2_part⟩
abbrev mX3_take : Mb := (yX3_take, cX3_take, 3, none)
set_option maxRecDepth 100000 in
theorem tc_X3_take : Cond.code yX3_take cX3_take 3 none ∈ tw := tw_i 238 rfl rfl
theorem mw_X3_take : Mw mX3_take 2 := ⟨tc_X3_take, ti_X3, by decide +kernel, by decide +kernel, by decide +kernel⟩
theorem tn_X3_take : Cond.instanceMethod yX3_take ∈ tw := tw_i 237 (by decide +kernel) (by decide +kernel)
theorem ts_X3_take : Cond.selects RX3 yX3_take yX3_take ∈ tw := tw_i 3 (by decide +kernel) (by decide +kernel)
theorem mi_X3_take : Mi mX3_take := ⟨tn_X3_take, ts_X3_take⟩
abbrev mX3_drop : Mb := (yX3_drop, cX3_drop, 1, none)
set_option maxRecDepth 100000 in
theorem tc_X3_drop : Cond.code yX3_drop cX3_drop 1 none ∈ tw := tw_i 275 rfl rfl
theorem mw_X3_drop : Mw mX3_drop 0 := ⟨tc_X3_drop, ti_X3, by decide +kernel, by decide +kernel, by decide +kernel⟩
theorem tn_X3_drop : Cond.instanceMethod yX3_drop ∈ tw := tw_i 274 (by decide +kernel) (by decide +kernel)
theorem ts_X3_drop : Cond.selects RX3 yX3_drop yX3_drop ∈ tw := tw_i 8 (by decide +kernel) (by decide +kernel)
theorem mi_X3_drop : Mi mX3_drop := ⟨tn_X3_drop, ts_X3_drop⟩
abbrev mX3_write : Mb := (yX3_write, cX3_write, 3, none)
set_option maxRecDepth 100000 in
theorem tc_X3_write : Cond.code yX3_write cX3_write 3 none ∈ tw := tw_i 247 rfl rfl
theorem mw_X3_write : Mw mX3_write 2 := ⟨tc_X3_write, ti_X3, by decide +kernel, by decide +kernel, by decide +kernel⟩
theorem tn_X3_write : Cond.instanceMethod yX3_write ∈ tw := tw_i 246 (by decide +kernel) (by decide +kernel)
theorem ts_X3_write : Cond.selects RX3 yX3_write yX3_write ∈ tw := tw_i 4 (by decide +kernel) (by decide +kernel)
theorem mi_X3_write : Mi mX3_write := ⟨tn_X3_write, ts_X3_write⟩
abbrev mX3_read : Mb := (yX3_read, cX3_read, 2, (some .int))
set_option maxRecDepth 100000 in
theorem tc_X3_read : Cond.code yX3_read cX3_read 2 (some .int) ∈ tw := tw_i 262 rfl rfl
theorem mw_X3_read : Mw mX3_read 1 := ⟨tc_X3_read, ti_X3, by decide +kernel, by decide +kernel, by decide +kernel⟩
theorem tn_X3_read : Cond.instanceMethod yX3_read ∈ tw := tw_i 261 (by decide +kernel) (by decide +kernel)
theorem ts_X3_read : Cond.selects RX3 yX3_read yX3_read ∈ tw := tw_i 6 (by decide +kernel) (by decide +kernel)
theorem mi_X3_read : Mi mX3_read := ⟨tn_X3_read, ts_X3_read⟩
abbrev mX4_reduce : Mb := (yX4_reduce, cX4_reduce, 7, (some .int))
set_option maxRecDepth 100000 in
theorem tc_X4_reduce : Cond.code yX4_reduce cX4_reduce 7 (some .int) ∈ tw := tw_i 432 rfl rfl
theorem mw_X4_reduce : Mw mX4_reduce 1 := ⟨tc_X4_reduce, ti_X4, by decide +kernel, by decide +kernel, by decide +kernel⟩
theorem tn_X4_reduce : Cond.instanceMethod yX4_reduce ∈ tw := tw_i 431 (by decide +kernel) (by decide +kernel)
theorem ts_X4_reduce : Cond.selects RX4 yX4_reduce yX4_reduce ∈ tw := tw_i 22 (by decide +kernel) (by decide +kernel)
theorem mi_X4_reduce : Mi mX4_reduce := ⟨tn_X4_reduce, ts_X4_reduce⟩
abbrev mX4_fillCells : Mb := (yX4_fillCells, cX4_fillCells, 5, none)
set_option maxRecDepth 100000 in
theorem tc_X4_fillCells : Cond.code yX4_fillCells cX4_fillCells 5 none ∈ tw := tw_i 436 rfl rfl
theorem mw_X4_fillCells : Mw mX4_fillCells 2 := ⟨tc_X4_fillCells, ti_X4, by decide +kernel, by decide +kernel, by decide +kernel⟩
theorem tn_X4_fillCells : Cond.instanceMethod yX4_fillCells ∈ tw := tw_i 435 (by decide +kernel) (by decide +kernel)
theorem ts_X4_fillCells : Cond.selects RX4 yX4_fillCells yX4_fillCells ∈ tw := tw_i 23 (by decide +kernel) (by decide +kernel)
theorem mi_X4_fillCells : Mi mX4_fillCells := ⟨tn_X4_fillCells, ts_X4_fillCells⟩
abbrev mX4_rowToLead : Mb := (yX4_rowToLead, cX4_rowToLead, 4, (some .int))
set_option maxRecDepth 100000 in
theorem tc_X4_rowToLead : Cond.code yX4_rowToLead cX4_rowToLead 4 (some .int) ∈ tw := tw_i 444 rfl rfl
theorem mw_X4_rowToLead : Mw mX4_rowToLead 2 := ⟨tc_X4_rowToLead, ti_X4, by decide +kernel, by decide +kernel, by decide +kernel⟩
theorem tn_X4_rowToLead : Cond.instanceMethod yX4_rowToLead ∈ tw := tw_i 443 (by decide +kernel) (by decide +kernel)
theorem ts_X4_rowToLead : Cond.selects RX4 yX4_rowToLead yX4_rowToLead ∈ tw := tw_i 25 (by decide +kernel) (by decide +kernel)
theorem mi_X4_rowToLead : Mi mX4_rowToLead := ⟨tn_X4_rowToLead, ts_X4_rowToLead⟩
abbrev mX4_swapCells : Mb := (yX4_swapCells, cX4_swapCells, 7, none)
set_option maxRecDepth 100000 in
theorem tc_X4_swapCells : Cond.code yX4_swapCells cX4_swapCells 7 none ∈ tw := tw_i 448 rfl rfl
theorem mw_X4_swapCells : Mw mX4_swapCells 3 := ⟨tc_X4_swapCells, ti_X4, by decide +kernel, by decide +kernel, by decide +kernel⟩
theorem tn_X4_swapCells : Cond.instanceMethod yX4_swapCells ∈ tw := tw_i 447 (by decide +kernel) (by decide +kernel)
theorem ts_X4_swapCells : Cond.selects RX4 yX4_swapCells yX4_swapCells ∈ tw := tw_i 26 (by decide +kernel) (by decide +kernel)
theorem mi_X4_swapCells : Mi mX4_swapCells := ⟨tn_X4_swapCells, ts_X4_swapCells⟩
abbrev mX4_clearColumn : Mb := (yX4_clearColumn, cX4_clearColumn, 11, none)
set_option maxRecDepth 100000 in
theorem tc_X4_clearColumn : Cond.code yX4_clearColumn cX4_clearColumn 11 none ∈ tw := tw_i 452 rfl rfl
theorem mw_X4_clearColumn : Mw mX4_clearColumn 3 := ⟨tc_X4_clearColumn, ti_X4, by decide +kernel, by decide +kernel, by decide +kernel⟩
theorem tn_X4_clearColumn : Cond.instanceMethod yX4_clearColumn ∈ tw := tw_i 451 (by decide +kernel) (by decide +kernel)
theorem ts_X4_clearColumn : Cond.selects RX4 yX4_clearColumn yX4_clearColumn ∈ tw := tw_i 27 (by decide +kernel) (by decide +kernel)
theorem mi_X4_clearColumn : Mi mX4_clearColumn := ⟨tn_X4_clearColumn, ts_X4_clearColumn⟩
abbrev mX4_invert : Mb := (yX4_invert, cX4_invert, 10, (some .boolean))
set_option maxRecDepth 100000 in
theorem tc_X4_invert : Cond.code yX4_invert cX4_invert 10 (some .boolean) ∈ tw := tw_i 425 rfl rfl
theorem mw_X4_invert : Mw mX4_invert 1 := ⟨tc_X4_invert, ti_X4, by decide +kernel, by decide +kernel, by decide +kernel⟩
theorem tn_X4_invert : Cond.instanceMethod yX4_invert ∈ tw := tw_i 424 (by decide +kernel) (by decide +kernel)
theorem ts_X4_invert : Cond.selects RX4 yX4_invert yX4_invert ∈ tw := tw_i 21 (by decide +kernel) (by decide +kernel)
theorem mi_X4_invert : Mi mX4_invert := ⟨tn_X4_invert, ts_X4_invert⟩
abbrev mX4_backAt : Mb := (yX4_backAt, cX4_backAt, 2, (some .long))
set_option maxRecDepth 100000 in
theorem tc_X4_backAt : Cond.code yX4_backAt cX4_backAt 2 (some .long) ∈ tw := tw_i 465 rfl rfl
theorem mw_X4_backAt : Mw mX4_backAt 1 := ⟨tc_X4_backAt, ti_X4, by decide +kernel, by decide +kernel, by decide +kernel⟩
theorem tn_X4_backAt : Cond.instanceMethod yX4_backAt ∈ tw := tw_i 464 (by decide +kernel) (by decide +kernel)
theorem ts_X4_backAt : Cond.selects RX4 yX4_backAt yX4_backAt ∈ tw := tw_i 28 (by decide +kernel) (by decide +kernel)
theorem mi_X4_backAt : Mi mX4_backAt := ⟨tn_X4_backAt, ts_X4_backAt⟩
abbrev mX4_noisePart : Mb := (yX4_noisePart, cX4_noisePart, 7, (some .long))
set_option maxRecDepth 100000 in
theorem tc_X4_noisePart : Cond.code yX4_noisePart cX4_noisePart 7 (some .long) ∈ tw := tw_i 473 rfl rfl
theorem mw_X4_noisePart : Mw mX4_noisePart 2 := ⟨tc_X4_noisePart, ti_X4, by decide +kernel, by decide +kernel, by decide +kernel⟩
theorem tn_X4_noisePart : Cond.instanceMethod yX4_noisePart ∈ tw := tw_i 472 (by decide +kernel) (by decide +kernel)
theorem ts_X4_noisePart : Cond.selects RX4 yX4_noisePart yX4_noisePart ∈ tw := tw_i 29 (by decide +kernel) (by decide +kernel)
theorem mi_X4_noisePart : Mi mX4_noisePart := ⟨tn_X4_noisePart, ts_X4_noisePart⟩
abbrev mX4_showLost : Mb := (yX4_showLost, cX4_showLost, 12, none)
set_option maxRecDepth 100000 in
theorem tc_X4_showLost : Cond.code yX4_showLost cX4_showLost 12 none ∈ tw := tw_i 486 rfl rfl
theorem mw_X4_showLost : Mw mX4_showLost 2 := ⟨tc_X4_showLost, ti_X4, by decide +kernel, by decide +kernel, by decide +kernel⟩
theorem tn_X4_showLost : Cond.instanceMethod yX4_showLost ∈ tw := tw_i 485 (by decide +kernel) (by decide +kernel)
theorem ts_X4_showLost : Cond.selects RX4 yX4_showLost yX4_showLost ∈ tw := tw_i 30 (by decide +kernel) (by decide +kernel)
theorem mi_X4_showLost : Mi mX4_showLost := ⟨tn_X4_showLost, ts_X4_showLost⟩
abbrev mX4_showSolved : Mb := (yX4_showSolved, cX4_showSolved, 7, (some .boolean))
set_option maxRecDepth 100000 in
theorem tc_X4_showSolved : Cond.code yX4_showSolved cX4_showSolved 7 (some .boolean) ∈ tw := tw_i 495 rfl rfl
theorem mw_X4_showSolved : Mw mX4_showSolved 1 := ⟨tc_X4_showSolved, ti_X4, by decide +kernel, by decide +kernel, by decide +kernel⟩
theorem tn_X4_showSolved : Cond.instanceMethod yX4_showSolved ∈ tw := tw_i 494 (by decide +kernel) (by decide +kernel)
theorem ts_X4_showSolved : Cond.selects RX4 yX4_showSolved yX4_showSolved ∈ tw := tw_i 31 (by decide +kernel) (by decide +kernel)
theorem mi_X4_showSolved : Mi mX4_showSolved := ⟨tn_X4_showSolved, ts_X4_showSolved⟩
abbrev mX5_ring : Mb := (yX5_ring, cX5_ring, 2, (some .boolean))
set_option maxRecDepth 100000 in
theorem tc_X5_ring : Cond.code yX5_ring cX5_ring 2 (some .boolean) ∈ tw := tw_i 212 rfl rfl
theorem mw_X5_ring : Mw mX5_ring 1 := ⟨tc_X5_ring, ti_X5, by decide +kernel, by decide +kernel, by decide +kernel⟩
theorem tn_X5_ring : Cond.instanceMethod yX5_ring ∈ tw := tw_i 210 (by decide +kernel) (by decide +kernel)
theorem ts_X5_ring : Cond.selects RX5 yX5_ring yX5_ring ∈ tw := tw_i 211 (by decide +kernel) (by decide +kernel)
theorem mi_X5_ring : Mi mX5_ring := ⟨tn_X5_ring, ts_X5_ring⟩
abbrev mX5_sheet : Mb := (yX5_sheet, cX5_sheet, 3, (some .int))
set_option maxRecDepth 100000 in
theorem tc_X5_sheet : Cond.code yX5_sheet cX5_sheet 3 (some .int) ∈ tw := tw_i 231 rfl rfl
theorem mw_X5_sheet : Mw mX5_sheet 2 := ⟨tc_X5_sheet, ti_X5, by decide +kernel, by decide +kernel, by decide +kernel⟩
theorem tn_X5_sheet : Cond.instanceMethod yX5_sheet ∈ tw := tw_i 229 (by decide +kernel) (by decide +kernel)
theorem ts_X5_sheet : Cond.selects RX5 yX5_sheet yX5_sheet ∈ tw := tw_i 230 (by decide +kernel) (by decide +kernel)
theorem mi_X5_sheet : Mi mX5_sheet := ⟨tn_X5_sheet, ts_X5_sheet⟩
abbrev mX5_entry : Mb := (yX5_entry, cX5_entry, 4, (some .boolean))
set_option maxRecDepth 100000 in
theorem tc_X5_entry : Cond.code yX5_entry cX5_entry 4 (some .boolean) ∈ tw := tw_i 243 rfl rfl
theorem mw_X5_entry : Mw mX5_entry 2 := ⟨tc_X5_entry, ti_X5, by decide +kernel, by decide +kernel, by decide +kernel⟩
theorem tn_X5_entry : Cond.instanceMethod yX5_entry ∈ tw := tw_i 241 (by decide +kernel) (by decide +kernel)
theorem ts_X5_entry : Cond.selects RX5 yX5_entry yX5_entry ∈ tw := tw_i 242 (by decide +kernel) (by decide +kernel)
theorem mi_X5_entry : Mi mX5_entry := ⟨tn_X5_entry, ts_X5_entry⟩
abbrev mX5_lay : Mb := (yX5_lay, cX5_lay, 3, (some .boolean))
set_option maxRecDepth 100000 in
theorem tc_X5_lay : Cond.code yX5_lay cX5_lay 3 (some .boolean) ∈ tw := tw_i 251 rfl rfl
theorem mw_X5_lay : Mw mX5_lay 1 := ⟨tc_X5_lay, ti_X5, by decide +kernel, by decide +kernel, by decide +kernel⟩
theorem tn_X5_lay : Cond.instanceMethod yX5_lay ∈ tw := tw_i 249 (by decide +kernel) (by decide +kernel)
theorem ts_X5_lay : Cond.selects RX5 yX5_lay yX5_lay ∈ tw := tw_i 250 (by decide +kernel) (by decide +kernel)
theorem mi_X5_lay : Mi mX5_lay := ⟨tn_X5_lay, ts_X5_lay⟩
abbrev mX5_set : Mb := (yX5_set, cX5_set, 5, (some .boolean))
set_option maxRecDepth 100000 in
theorem tc_X5_set : Cond.code yX5_set cX5_set 5 (some .boolean) ∈ tw := tw_i 283 rfl rfl
theorem mw_X5_set : Mw mX5_set 3 := ⟨tc_X5_set, ti_X5, by decide +kernel, by decide +kernel, by decide +kernel⟩
theorem tn_X5_set : Cond.instanceMethod yX5_set ∈ tw := tw_i 281 (by decide +kernel) (by decide +kernel)
theorem ts_X5_set : Cond.selects RX5 yX5_set yX5_set ∈ tw := tw_i 282 (by decide +kernel) (by decide +kernel)
theorem mi_X5_set : Mi mX5_set := ⟨tn_X5_set, ts_X5_set⟩
abbrev mX5_miss : Mb := (yX5_miss, cX5_miss, 2, (some .boolean))
set_option maxRecDepth 100000 in
theorem tc_X5_miss : Cond.code yX5_miss cX5_miss 2 (some .boolean) ∈ tw := tw_i 291 rfl rfl
theorem mw_X5_miss : Mw mX5_miss 1 := ⟨tc_X5_miss, ti_X5, by decide +kernel, by decide +kernel, by decide +kernel⟩
theorem tn_X5_miss : Cond.instanceMethod yX5_miss ∈ tw := tw_i 289 (by decide +kernel) (by decide +kernel)
theorem ts_X5_miss : Cond.selects RX5 yX5_miss yX5_miss ∈ tw := tw_i 290 (by decide +kernel) (by decide +kernel)
theorem mi_X5_miss : Mi mX5_miss := ⟨tn_X5_miss, ts_X5_miss⟩
abbrev mX5_at : Mb := (yX5_at, cX5_at, 4, (some .int))
set_option maxRecDepth 100000 in
theorem tc_X5_at : Cond.code yX5_at cX5_at 4 (some .int) ∈ tw := tw_i 624 rfl rfl
theorem mw_X5_at : Mw mX5_at 2 := ⟨tc_X5_at, ti_X5, by decide +kernel, by decide +kernel, by decide +kernel⟩
theorem tn_X5_at : Cond.instanceMethod yX5_at ∈ tw := tw_i 622 (by decide +kernel) (by decide +kernel)
theorem ts_X5_at : Cond.selects RX5 yX5_at yX5_at ∈ tw := tw_i 623 (by decide +kernel) (by decide +kernel)
theorem mi_X5_at : Mi mX5_at := ⟨tn_X5_at, ts_X5_at⟩
abbrev mX5_count : Mb := (yX5_count, cX5_count, 2, (some .int))
set_option maxRecDepth 100000 in
theorem tc_X5_count : Cond.code yX5_count cX5_count 2 (some .int) ∈ tw := tw_i 296 rfl rfl
theorem mw_X5_count : Mw mX5_count 1 := ⟨tc_X5_count, ti_X5, by decide +kernel, by decide +kernel, by decide +kernel⟩
theorem tn_X5_count : Cond.instanceMethod yX5_count ∈ tw := tw_i 294 (by decide +kernel) (by decide +kernel)
theorem ts_X5_count : Cond.selects RX5 yX5_count yX5_count ∈ tw := tw_i 295 (by decide +kernel) (by decide +kernel)
theorem mi_X5_count : Mi mX5_count := ⟨tn_X5_count, ts_X5_count⟩
abbrev mX5_shadow : Mb := (yX5_shadow, cX5_shadow, 2, (some .int))
set_option maxRecDepth 100000 in
theorem tc_X5_shadow : Cond.code yX5_shadow cX5_shadow 2 (some .int) ∈ tw := tw_i 320 rfl rfl
theorem mw_X5_shadow : Mw mX5_shadow 1 := ⟨tc_X5_shadow, ti_X5, by decide +kernel, by decide +kernel, by decide +kernel⟩
theorem tn_X5_shadow : Cond.instanceMethod yX5_shadow ∈ tw := tw_i 318 (by decide +kernel) (by decide +kernel)
theorem ts_X5_shadow : Cond.selects RX5 yX5_shadow yX5_shadow ∈ tw := tw_i 319 (by decide +kernel) (by decide +kernel)
theorem mi_X5_shadow : Mi mX5_shadow := ⟨tn_X5_shadow, ts_X5_shadow⟩
abbrev mX5_cast : Mb := (yX5_cast, cX5_cast, 2, (some .boolean))
set_option maxRecDepth 100000 in
theorem tc_X5_cast : Cond.code yX5_cast cX5_cast 2 (some .boolean) ∈ tw := tw_i 328 rfl rfl
theorem mw_X5_cast : Mw mX5_cast 0 := ⟨tc_X5_cast, ti_X5, by decide +kernel, by decide +kernel, by decide +kernel⟩
theorem tn_X5_cast : Cond.instanceMethod yX5_cast ∈ tw := tw_i 326 (by decide +kernel) (by decide +kernel)
theorem ts_X5_cast : Cond.selects RX5 yX5_cast yX5_cast ∈ tw := tw_i 327 (by decide +kernel) (by decide +kernel)
theorem mi_X5_cast : Mi mX5_cast := ⟨tn_X5_cast, ts_X5_cast⟩
abbrev mX5_meets : Mb := (yX5_meets, cX5_meets, 2, (some .int))
set_option maxRecDepth 100000 in
theorem tc_X5_meets : Cond.code yX5_meets cX5_meets 2 (some .int) ∈ tw := tw_i 332 rfl rfl
theorem mw_X5_meets : Mw mX5_meets 1 := ⟨tc_X5_meets, ti_X5, by decide +kernel, by decide +kernel, by decide +kernel⟩
theorem tn_X5_meets : Cond.instanceMethod yX5_meets ∈ tw := tw_i 330 (by decide +kernel) (by decide +kernel)
theorem ts_X5_meets : Cond.selects RX5 yX5_meets yX5_meets ∈ tw := tw_i 331 (by decide +kernel) (by decide +kernel)
theorem mi_X5_meets : Mi mX5_meets := ⟨tn_X5_meets, ts_X5_meets⟩
abbrev mX5_off : Mb := (yX5_off, cX5_off, 1, (some .int))
set_option maxRecDepth 100000 in
theorem tc_X5_off : Cond.code yX5_off cX5_off 1 (some .int) ∈ tw := tw_i 337 rfl rfl
theorem mw_X5_off : Mw mX5_off 0 := ⟨tc_X5_off, ti_X5, by decide +kernel, by decide +kernel, by decide +kernel⟩
theorem tn_X5_off : Cond.instanceMethod yX5_off ∈ tw := tw_i 335 (by decide +kernel) (by decide +kernel)
theorem ts_X5_off : Cond.selects RX5 yX5_off yX5_off ∈ tw := tw_i 336 (by decide +kernel) (by decide +kernel)
theorem mi_X5_off : Mi mX5_off := ⟨tn_X5_off, ts_X5_off⟩
abbrev mX5_turn : Mb := (yX5_turn, cX5_turn, 2, (some .boolean))
set_option maxRecDepth 100000 in
theorem tc_X5_turn : Cond.code yX5_turn cX5_turn 2 (some .boolean) ∈ tw := tw_i 341 rfl rfl
theorem mw_X5_turn : Mw mX5_turn 1 := ⟨tc_X5_turn, ti_X5, by decide +kernel, by decide +kernel, by decide +kernel⟩
theorem tn_X5_turn : Cond.instanceMethod yX5_turn ∈ tw := tw_i 339 (by decide +kernel) (by decide +kernel)
theorem ts_X5_turn : Cond.selects RX5 yX5_turn yX5_turn ∈ tw := tw_i 340 (by decide +kernel) (by decide +kernel)
theorem mi_X5_turn : Mi mX5_turn := ⟨tn_X5_turn, ts_X5_turn⟩
abbrev mX5_anti : Mb := (yX5_anti, cX5_anti, 2, (some .boolean))
set_option maxRecDepth 100000 in
theorem tc_X5_anti : Cond.code yX5_anti cX5_anti 2 (some .boolean) ∈ tw := tw_i 355 rfl rfl
theorem mw_X5_anti : Mw mX5_anti 0 := ⟨tc_X5_anti, ti_X5, by decide +kernel, by decide +kernel, by decide +kernel⟩
theorem tn_X5_anti : Cond.instanceMethod yX5_anti ∈ tw := tw_i 353 (by decide +kernel) (by decide +kernel)
theorem ts_X5_anti : Cond.selects RX5 yX5_anti yX5_anti ∈ tw := tw_i 354 (by decide +kernel) (by decide +kernel)
theorem mi_X5_anti : Mi mX5_anti := ⟨tn_X5_anti, ts_X5_anti⟩
abbrev mX5_fold : Mb := (yX5_fold, cX5_fold, 6, (some .int))
set_option maxRecDepth 100000 in
theorem tc_X5_fold : Cond.code yX5_fold cX5_fold 6 (some .int) ∈ tw := tw_i 363 rfl rfl
theorem mw_X5_fold : Mw mX5_fold 4 := ⟨tc_X5_fold, ti_X5, by decide +kernel, by decide +kernel, by decide +kernel⟩
theorem tn_X5_fold : Cond.instanceMethod yX5_fold ∈ tw := tw_i 361 (by decide +kernel) (by decide +kernel)
theorem ts_X5_fold : Cond.selects RX5 yX5_fold yX5_fold ∈ tw := tw_i 362 (by decide +kernel) (by decide +kernel)
theorem mi_X5_fold : Mi mX5_fold := ⟨tn_X5_fold, ts_X5_fold⟩
abbrev mX5_rests : Mb := (yX5_rests, cX5_rests, 3, (some .int))
set_option maxRecDepth 100000 in
theorem tc_X5_rests : Cond.code yX5_rests cX5_rests 3 (some .int) ∈ tw := tw_i 377 rfl rfl
theorem mw_X5_rests : Mw mX5_rests 1 := ⟨tc_X5_rests, ti_X5, by decide +kernel, by decide +kernel, by decide +kernel⟩
theorem tn_X5_rests : Cond.instanceMethod yX5_rests ∈ tw := tw_i 375 (by decide +kernel) (by decide +kernel)
theorem ts_X5_rests : Cond.selects RX5 yX5_rests yX5_rests ∈ tw := tw_i 376 (by decide +kernel) (by decide +kernel)
theorem mi_X5_rests : Mi mX5_rests := ⟨tn_X5_rests, ts_X5_rests⟩
abbrev mX5_twins : Mb := (yX5_twins, cX5_twins, 5, (some .int))
set_option maxRecDepth 100000 in
theorem tc_X5_twins : Cond.code yX5_twins cX5_twins 5 (some .int) ∈ tw := tw_i 390 rfl rfl
theorem mw_X5_twins : Mw mX5_twins 1 := ⟨tc_X5_twins, ti_X5, by decide +kernel, by decide +kernel, by decide +kernel⟩
theorem tn_X5_twins : Cond.instanceMethod yX5_twins ∈ tw := tw_i 388 (by decide +kernel) (by decide +kernel)
theorem ts_X5_twins : Cond.selects RX5 yX5_twins yX5_twins ∈ tw := tw_i 389 (by decide +kernel) (by decide +kernel)
theorem mi_X5_twins : Mi mX5_twins := ⟨tn_X5_twins, ts_X5_twins⟩
abbrev mX5_shift : Mb := (yX5_shift, cX5_shift, 6, (some .int))
set_option maxRecDepth 100000 in
theorem tc_X5_shift : Cond.code yX5_shift cX5_shift 6 (some .int) ∈ tw := tw_i 397 rfl rfl
theorem mw_X5_shift : Mw mX5_shift 1 := ⟨tc_X5_shift, ti_X5, by decide +kernel, by decide +kernel, by decide +kernel⟩
theorem tn_X5_shift : Cond.instanceMethod yX5_shift ∈ tw := tw_i 395 (by decide +kernel) (by decide +kernel)
theorem ts_X5_shift : Cond.selects RX5 yX5_shift yX5_shift ∈ tw := tw_i 396 (by decide +kernel) (by decide +kernel)
theorem mi_X5_shift : Mi mX5_shift := ⟨tn_X5_shift, ts_X5_shift⟩
abbrev mX5_undo : Mb := (yX5_undo, cX5_undo, 1, (some .long))
set_option maxRecDepth 100000 in
theorem tc_X5_undo : Cond.code yX5_undo cX5_undo 1 (some .long) ∈ tw := tw_i 416 rfl rfl
theorem mw_X5_undo : Mw mX5_undo 0 := ⟨tc_X5_undo, ti_X5, by decide +kernel, by decide +kernel, by decide +kernel⟩
theorem tn_X5_undo : Cond.instanceMethod yX5_undo ∈ tw := tw_i 414 (by decide +kernel) (by decide +kernel)
theorem ts_X5_undo : Cond.selects RX5 yX5_undo yX5_undo ∈ tw := tw_i 415 (by decide +kernel) (by decide +kernel)
theorem mi_X5_undo : Mi mX5_undo := ⟨tn_X5_undo, ts_X5_undo⟩
abbrev mX5_back : Mb := (yX5_back, cX5_back, 2, (some .long))
set_option maxRecDepth 100000 in
theorem tc_X5_back : Cond.code yX5_back cX5_back 2 (some .long) ∈ tw := tw_i 461 rfl rfl
theorem mw_X5_back : Mw mX5_back 1 := ⟨tc_X5_back, ti_X5, by decide +kernel, by decide +kernel, by decide +kernel⟩
theorem tn_X5_back : Cond.instanceMethod yX5_back ∈ tw := tw_i 459 (by decide +kernel) (by decide +kernel)
theorem ts_X5_back : Cond.selects RX5 yX5_back yX5_back ∈ tw := tw_i 460 (by decide +kernel) (by decide +kernel)
theorem mi_X5_back : Mi mX5_back := ⟨tn_X5_back, ts_X5_back⟩
abbrev mX5_noise : Mb := (yX5_noise, cX5_noise, 2, (some .long))
set_option maxRecDepth 100000 in
theorem tc_X5_noise : Cond.code yX5_noise cX5_noise 2 (some .long) ∈ tw := tw_i 469 rfl rfl
theorem mw_X5_noise : Mw mX5_noise 1 := ⟨tc_X5_noise, ti_X5, by decide +kernel, by decide +kernel, by decide +kernel⟩
theorem tn_X5_noise : Cond.instanceMethod yX5_noise ∈ tw := tw_i 467 (by decide +kernel) (by decide +kernel)
theorem ts_X5_noise : Cond.selects RX5 yX5_noise yX5_noise ∈ tw := tw_i 468 (by decide +kernel) (by decide +kernel)
theorem mi_X5_noise : Mi mX5_noise := ⟨tn_X5_noise, ts_X5_noise⟩
abbrev mX5_rank : Mb := (yX5_rank, cX5_rank, 1, (some .int))
set_option maxRecDepth 100000 in
theorem tc_X5_rank : Cond.code yX5_rank cX5_rank 1 (some .int) ∈ tw := tw_i 477 rfl rfl
theorem mw_X5_rank : Mw mX5_rank 0 := ⟨tc_X5_rank, ti_X5, by decide +kernel, by decide +kernel, by decide +kernel⟩
theorem tn_X5_rank : Cond.instanceMethod yX5_rank ∈ tw := tw_i 475 (by decide +kernel) (by decide +kernel)
theorem ts_X5_rank : Cond.selects RX5 yX5_rank yX5_rank ∈ tw := tw_i 476 (by decide +kernel) (by decide +kernel)
theorem mi_X5_rank : Mi mX5_rank := ⟨tn_X5_rank, ts_X5_rank⟩
abbrev mX5_lost : Mb := (yX5_lost, cX5_lost, 2, (some .int))
set_option maxRecDepth 100000 in
theorem tc_X5_lost : Cond.code yX5_lost cX5_lost 2 (some .int) ∈ tw := tw_i 482 rfl rfl
theorem mw_X5_lost : Mw mX5_lost 0 := ⟨tc_X5_lost, ti_X5, by decide +kernel, by decide +kernel, by decide +kernel⟩
theorem tn_X5_lost : Cond.instanceMethod yX5_lost ∈ tw := tw_i 480 (by decide +kernel) (by decide +kernel)
theorem ts_X5_lost : Cond.selects RX5 yX5_lost yX5_lost ∈ tw := tw_i 481 (by decide +kernel) (by decide +kernel)
theorem mi_X5_lost : Mi mX5_lost := ⟨tn_X5_lost, ts_X5_lost⟩
abbrev mX5_solve : Mb := (yX5_solve, cX5_solve, 2, (some .int))
set_option maxRecDepth 100000 in
theorem tc_X5_solve : Cond.code yX5_solve cX5_solve 2 (some .int) ∈ tw := tw_i 491 rfl rfl
theorem mw_X5_solve : Mw mX5_solve 0 := ⟨tc_X5_solve, ti_X5, by decide +kernel, by decide +kernel, by decide +kernel⟩
theorem tn_X5_solve : Cond.instanceMethod yX5_solve ∈ tw := tw_i 489 (by decide +kernel) (by decide +kernel)
theorem ts_X5_solve : Cond.selects RX5 yX5_solve yX5_solve ∈ tw := tw_i 490 (by decide +kernel) (by decide +kernel)
theorem mi_X5_solve : Mi mX5_solve := ⟨tn_X5_solve, ts_X5_solve⟩
abbrev mX5_sure : Mb := (yX5_sure, cX5_sure, 2, (some .int))
set_option maxRecDepth 100000 in
theorem tc_X5_sure : Cond.code yX5_sure cX5_sure 2 (some .int) ∈ tw := tw_i 502 rfl rfl
theorem mw_X5_sure : Mw mX5_sure 0 := ⟨tc_X5_sure, ti_X5, by decide +kernel, by decide +kernel, by decide +kernel⟩
theorem tn_X5_sure : Cond.instanceMethod yX5_sure ∈ tw := tw_i 500 (by decide +kernel) (by decide +kernel)
theorem ts_X5_sure : Cond.selects RX5 yX5_sure yX5_sure ∈ tw := tw_i 501 (by decide +kernel) (by decide +kernel)
theorem mi_X5_sure : Mi mX5_sure := ⟨tn_X5_sure, ts_X5_sure⟩
abbrev mX5_points : Mb := (yX5_points, cX5_points, 2, (some .int))
set_option maxRecDepth 100000 in
theorem tc_X5_points : Cond.code yX5_points cX5_points 2 (some .int) ∈ tw := tw_i 506 rfl rfl
theorem mw_X5_points : Mw mX5_points 1 := ⟨tc_X5_points, ti_X5, by decide +kernel, by decide +kernel, by decide +kernel⟩
theorem tn_X5_points : Cond.instanceMethod yX5_points ∈ tw := tw_i 504 (by decide +kernel) (by decide +kernel)
theorem ts_X5_points : Cond.selects RX5 yX5_points yX5_points ∈ tw := tw_i 505 (by decide +kernel) (by decide +kernel)
theorem mi_X5_points : Mi mX5_points := ⟨tn_X5_points, ts_X5_points⟩
abbrev mX5_point : Mb := (yX5_point, cX5_point, 3, (some .int))
set_option maxRecDepth 100000 in
theorem tc_X5_point : Cond.code yX5_point cX5_point 3 (some .int) ∈ tw := tw_i 546 rfl rfl
theorem mw_X5_point : Mw mX5_point 2 := ⟨tc_X5_point, ti_X5, by decide +kernel, by decide +kernel, by decide +kernel⟩
theorem tn_X5_point : Cond.instanceMethod yX5_point ∈ tw := tw_i 544 (by decide +kernel) (by decide +kernel)
theorem ts_X5_point : Cond.selects RX5 yX5_point yX5_point ∈ tw := tw_i 545 (by decide +kernel) (by decide +kernel)
theorem mi_X5_point : Mi mX5_point := ⟨tn_X5_point, ts_X5_point⟩
abbrev mX5_table : Mb := (yX5_table, cX5_table, 5, (some .int))
set_option maxRecDepth 100000 in
theorem tc_X5_table : Cond.code yX5_table cX5_table 5 (some .int) ∈ tw := tw_i 554 rfl rfl
theorem mw_X5_table : Mw mX5_table 2 := ⟨tc_X5_table, ti_X5, by decide +kernel, by decide +kernel, by decide +kernel⟩
theorem tn_X5_table : Cond.instanceMethod yX5_table ∈ tw := tw_i 552 (by decide +kernel) (by decide +kernel)
theorem ts_X5_table : Cond.selects RX5 yX5_table yX5_table ∈ tw := tw_i 553 (by decide +kernel) (by decide +kernel)
theorem mi_X5_table : Mi mX5_table := ⟨tn_X5_table, ts_X5_table⟩
abbrev mX5_twice : Mb := (yX5_twice, cX5_twice, 2, (some .int))
set_option maxRecDepth 100000 in
theorem tc_X5_twice : Cond.code yX5_twice cX5_twice 2 (some .int) ∈ tw := tw_i 568 rfl rfl
theorem mw_X5_twice : Mw mX5_twice 0 := ⟨tc_X5_twice, ti_X5, by decide +kernel, by decide +kernel, by decide +kernel⟩
theorem tn_X5_twice : Cond.instanceMethod yX5_twice ∈ tw := tw_i 566 (by decide +kernel) (by decide +kernel)
theorem ts_X5_twice : Cond.selects RX5 yX5_twice yX5_twice ∈ tw := tw_i 567 (by decide +kernel) (by decide +kernel)
theorem mi_X5_twice : Mi mX5_twice := ⟨tn_X5_twice, ts_X5_twice⟩
abbrev mX5_swap : Mb := (yX5_swap, cX5_swap, 3, (some .boolean))
set_option maxRecDepth 100000 in
theorem tc_X5_swap : Cond.code yX5_swap cX5_swap 3 (some .boolean) ∈ tw := tw_i 579 rfl rfl
theorem mw_X5_swap : Mw mX5_swap 2 := ⟨tc_X5_swap, ti_X5, by decide +kernel, by decide +kernel, by decide +kernel⟩
theorem tn_X5_swap : Cond.instanceMethod yX5_swap ∈ tw := tw_i 577 (by decide +kernel) (by decide +kernel)
theorem ts_X5_swap : Cond.selects RX5 yX5_swap yX5_swap ∈ tw := tw_i 578 (by decide +kernel) (by decide +kernel)
theorem mi_X5_swap : Mi mX5_swap := ⟨tn_X5_swap, ts_X5_swap⟩
abbrev mX5_sign : Mb := (yX5_sign, cX5_sign, 3, (some .int))
set_option maxRecDepth 100000 in
theorem tc_X5_sign : Cond.code yX5_sign cX5_sign 3 (some .int) ∈ tw := tw_i 595 rfl rfl
theorem mw_X5_sign : Mw mX5_sign 2 := ⟨tc_X5_sign, ti_X5, by decide +kernel, by decide +kernel, by decide +kernel⟩
theorem tn_X5_sign : Cond.instanceMethod yX5_sign ∈ tw := tw_i 593 (by decide +kernel) (by decide +kernel)
theorem ts_X5_sign : Cond.selects RX5 yX5_sign yX5_sign ∈ tw := tw_i 594 (by decide +kernel) (by decide +kernel)
theorem mi_X5_sign : Mi mX5_sign := ⟨tn_X5_sign, ts_X5_sign⟩
abbrev mX5_product : Mb := (yX5_product, cX5_product, 3, (some .int))
set_option maxRecDepth 100000 in
theorem tc_X5_product : Cond.code yX5_product cX5_product 3 (some .int) ∈ tw := tw_i 603 rfl rfl
theorem mw_X5_product : Mw mX5_product 2 := ⟨tc_X5_product, ti_X5, by decide +kernel, by decide +kernel, by decide +kernel⟩
theorem tn_X5_product : Cond.instanceMethod yX5_product ∈ tw := tw_i 601 (by decide +kernel) (by decide +kernel)
theorem ts_X5_product : Cond.selects RX5 yX5_product yX5_product ∈ tw := tw_i 602 (by decide +kernel) (by decide +kernel)
theorem mi_X5_product : Mi mX5_product := ⟨tn_X5_product, ts_X5_product⟩
abbrev mX5_look : Mb := (yX5_look, cX5_look, 5, (some .int))
set_option maxRecDepth 100000 in
theorem tc_X5_look : Cond.code yX5_look cX5_look 5 (some .int) ∈ tw := tw_i 611 rfl rfl
theorem mw_X5_look : Mw mX5_look 1 := ⟨tc_X5_look, ti_X5, by decide +kernel, by decide +kernel, by decide +kernel⟩
theorem tn_X5_look : Cond.instanceMethod yX5_look ∈ tw := tw_i 609 (by decide +kernel) (by decide +kernel)
theorem ts_X5_look : Cond.selects RX5 yX5_look yX5_look ∈ tw := tw_i 610 (by decide +kernel) (by decide +kernel)
theorem mi_X5_look : Mi mX5_look := ⟨tn_X5_look, ts_X5_look⟩
abbrev mX5_fault : Mb := (yX5_fault, cX5_fault, 1, (some .int))
set_option maxRecDepth 100000 in
theorem tc_X5_fault : Cond.code yX5_fault cX5_fault 1 (some .int) ∈ tw := tw_i 616 rfl rfl
theorem mw_X5_fault : Mw mX5_fault 0 := ⟨tc_X5_fault, ti_X5, by decide +kernel, by decide +kernel, by decide +kernel⟩
theorem tn_X5_fault : Cond.instanceMethod yX5_fault ∈ tw := tw_i 614 (by decide +kernel) (by decide +kernel)
theorem ts_X5_fault : Cond.selects RX5 yX5_fault yX5_fault ∈ tw := tw_i 615 (by decide +kernel) (by decide +kernel)
theorem mi_X5_fault : Mi mX5_fault := ⟨tn_X5_fault, ts_X5_fault⟩
abbrev mX5_refuses : Mb := (yX5_refuses, cX5_refuses, 2, (some .boolean))
set_option maxRecDepth 100000 in
theorem tc_X5_refuses : Cond.code yX5_refuses cX5_refuses 2 (some .boolean) ∈ tw := tw_i 216 rfl rfl
theorem mw_X5_refuses : Mw mX5_refuses 1 := ⟨tc_X5_refuses, ti_X5, by decide +kernel, by decide +kernel, by decide +kernel⟩
theorem tn_X5_refuses : Cond.instanceMethod yX5_refuses ∈ tw := tw_i 215 (by decide +kernel) (by decide +kernel)
theorem ts_X5_refuses : Cond.selects RX5 yX5_refuses yX5_refuses ∈ tw := tw_i 0 (by decide +kernel) (by decide +kernel)
theorem mi_X5_refuses : Mi mX5_refuses := ⟨tn_X5_refuses, ts_X5_refuses⟩
abbrev mX5_startRing : Mb := (yX5_startRing, cX5_startRing, 2, none)
set_option maxRecDepth 100000 in
theorem tc_X5_startRing : Cond.code yX5_startRing cX5_startRing 2 none ∈ tw := tw_i 220 rfl rfl
theorem mw_X5_startRing : Mw mX5_startRing 1 := ⟨tc_X5_startRing, ti_X5, by decide +kernel, by decide +kernel, by decide +kernel⟩
theorem tn_X5_startRing : Cond.instanceMethod yX5_startRing ∈ tw := tw_i 219 (by decide +kernel) (by decide +kernel)
theorem ts_X5_startRing : Cond.selects RX5 yX5_startRing yX5_startRing ∈ tw := tw_i 1 (by decide +kernel) (by decide +kernel)
theorem mi_X5_startRing : Mi mX5_startRing := ⟨tn_X5_startRing, ts_X5_startRing⟩
abbrev mX5_forgetBackOf : Mb := (yX5_forgetBackOf, cX5_forgetBackOf, 2, none)
set_option maxRecDepth 100000 in
theorem tc_X5_forgetBackOf : Cond.code yX5_forgetBackOf cX5_forgetBackOf 2 none ∈ tw := tw_i 279 rfl rfl
theorem mw_X5_forgetBackOf : Mw mX5_forgetBackOf 1 := ⟨tc_X5_forgetBackOf, ti_X5, by decide +kernel, by decide +kernel, by decide +kernel⟩
theorem tn_X5_forgetBackOf : Cond.instanceMethod yX5_forgetBackOf ∈ tw := tw_i 278 (by decide +kernel) (by decide +kernel)
theorem ts_X5_forgetBackOf : Cond.selects RX5 yX5_forgetBackOf yX5_forgetBackOf ∈ tw := tw_i 9 (by decide +kernel) (by decide +kernel)
theorem mi_X5_forgetBackOf : Mi mX5_forgetBackOf := ⟨tn_X5_forgetBackOf, ts_X5_forgetBackOf⟩
abbrev mX5_sheetFault : Mb := (yX5_sheetFault, cX5_sheetFault, 2, (some .int))
set_option maxRecDepth 100000 in
theorem tc_X5_sheetFault : Cond.code yX5_sheetFault cX5_sheetFault 2 (some .int) ∈ tw := tw_i 234 rfl rfl
theorem mw_X5_sheetFault : Mw mX5_sheetFault 2 := ⟨tc_X5_sheetFault, ti_X5, by decide +kernel, by decide +kernel, by decide +kernel⟩
theorem ms_X5_sheetFault : Cond.static yX5_sheetFault ∈ tw := tw_i 233 (by decide +kernel) (by decide +kernel)
abbrev mX5_layFault : Mb := (yX5_layFault, cX5_layFault, 3, (some .int))
set_option maxRecDepth 100000 in
theorem tc_X5_layFault : Cond.code yX5_layFault cX5_layFault 3 (some .int) ∈ tw := tw_i 255 rfl rfl
theorem mw_X5_layFault : Mw mX5_layFault 1 := ⟨tc_X5_layFault, ti_X5, by decide +kernel, by decide +kernel, by decide +kernel⟩
theorem tn_X5_layFault : Cond.instanceMethod yX5_layFault ∈ tw := tw_i 254 (by decide +kernel) (by decide +kernel)
theorem ts_X5_layFault : Cond.selects RX5 yX5_layFault yX5_layFault ∈ tw := tw_i 5 (by decide +kernel) (by decide +kernel)
theorem mi_X5_layFault : Mi mX5_layFault := ⟨tn_X5_layFault, ts_X5_layFault⟩
abbrev mX5_canFold : Mb := (yX5_canFold, cX5_canFold, 5, (some .boolean))
set_option maxRecDepth 100000 in
theorem tc_X5_canFold : Cond.code yX5_canFold cX5_canFold 5 (some .boolean) ∈ tw := tw_i 367 rfl rfl
theorem mw_X5_canFold : Mw mX5_canFold 4 := ⟨tc_X5_canFold, ti_X5, by decide +kernel, by decide +kernel, by decide +kernel⟩
theorem tn_X5_canFold : Cond.instanceMethod yX5_canFold ∈ tw := tw_i 366 (by decide +kernel) (by decide +kernel)
theorem ts_X5_canFold : Cond.selects RX5 yX5_canFold yX5_canFold ∈ tw := tw_i 19 (by decide +kernel) (by decide +kernel)
theorem mi_X5_canFold : Mi mX5_canFold := ⟨tn_X5_canFold, ts_X5_canFold⟩
abbrev mX5_smallRingFault : Mb := (yX5_smallRingFault, cX5_smallRingFault, 1, (some .int))
set_option maxRecDepth 100000 in
theorem tc_X5_smallRingFault : Cond.code yX5_smallRingFault cX5_smallRingFault 1 (some .int) ∈ tw := tw_i 420 rfl rfl
theorem mw_X5_smallRingFault : Mw mX5_smallRingFault 0 := ⟨tc_X5_smallRingFault, ti_X5, by decide +kernel, by decide +kernel, by decide +kernel⟩
theorem tn_X5_smallRingFault : Cond.instanceMethod yX5_smallRingFault ∈ tw := tw_i 419 (by decide +kernel) (by decide +kernel)
theorem ts_X5_smallRingFault : Cond.selects RX5 yX5_smallRingFault yX5_smallRingFault ∈ tw := tw_i 20 (by decide +kernel) (by decide +kernel)
theorem mi_X5_smallRingFault : Mi mX5_smallRingFault := ⟨tn_X5_smallRingFault, ts_X5_smallRingFault⟩
abbrev mX5_rowsFault : Mb := (yX5_rowsFault, cX5_rowsFault, 3, (some .int))
set_option maxRecDepth 100000 in
theorem tc_X5_rowsFault : Cond.code yX5_rowsFault cX5_rowsFault 3 (some .int) ∈ tw := tw_i 583 rfl rfl
theorem mw_X5_rowsFault : Mw mX5_rowsFault 2 := ⟨tc_X5_rowsFault, ti_X5, by decide +kernel, by decide +kernel, by decide +kernel⟩
theorem tn_X5_rowsFault : Cond.instanceMethod yX5_rowsFault ∈ tw := tw_i 582 (by decide +kernel) (by decide +kernel)
theorem ts_X5_rowsFault : Cond.selects RX5 yX5_rowsFault yX5_rowsFault ∈ tw := tw_i 42 (by decide +kernel) (by decide +kernel)
theorem mi_X5_rowsFault : Mi mX5_rowsFault := ⟨tn_X5_rowsFault, ts_X5_rowsFault⟩
abbrev mX5_isPrime : Mb := (yX5_isPrime, cX5_isPrime, 2, (some .boolean))
set_option maxRecDepth 100000 in
theorem tc_X5_isPrime : Cond.code yX5_isPrime cX5_isPrime 2 (some .boolean) ∈ tw := tw_i 383 rfl rfl
theorem mw_X5_isPrime : Mw mX5_isPrime 1 := ⟨tc_X5_isPrime, ti_X5, by decide +kernel, by decide +kernel, by decide +kernel⟩
theorem ms_X5_isPrime : Cond.static yX5_isPrime ∈ tw := tw_i 382 (by decide +kernel) (by decide +kernel)
abbrev mX5_isRestPrime : Mb := (yX5_isRestPrime, cX5_isRestPrime, 1, (some .boolean))
set_option maxRecDepth 100000 in
theorem tc_X5_isRestPrime : Cond.code yX5_isRestPrime cX5_isRestPrime 1 (some .boolean) ∈ tw := tw_i 380 rfl rfl
theorem mw_X5_isRestPrime : Mw mX5_isRestPrime 1 := ⟨tc_X5_isRestPrime, ti_X5, by decide +kernel, by decide +kernel, by decide +kernel⟩
theorem ms_X5_isRestPrime : Cond.static yX5_isRestPrime ∈ tw := tw_i 379 (by decide +kernel) (by decide +kernel)
abbrev mX5_isTwinPrime : Mb := (yX5_isTwinPrime, cX5_isTwinPrime, 1, (some .boolean))
set_option maxRecDepth 100000 in
theorem tc_X5_isTwinPrime : Cond.code yX5_isTwinPrime cX5_isTwinPrime 1 (some .boolean) ∈ tw := tw_i 393 rfl rfl
theorem mw_X5_isTwinPrime : Mw mX5_isTwinPrime 1 := ⟨tc_X5_isTwinPrime, ti_X5, by decide +kernel, by decide +kernel, by decide +kernel⟩
theorem ms_X5_isTwinPrime : Cond.static yX5_isTwinPrime ∈ tw := tw_i 392 (by decide +kernel) (by decide +kernel)
abbrev mX5_isSquare : Mb := (yX5_isSquare, cX5_isSquare, 3, (some .boolean))
set_option maxRecDepth 100000 in
theorem tc_X5_isSquare : Cond.code yX5_isSquare cX5_isSquare 3 (some .boolean) ∈ tw := tw_i 386 rfl rfl
theorem mw_X5_isSquare : Mw mX5_isSquare 2 := ⟨tc_X5_isSquare, ti_X5, by decide +kernel, by decide +kernel, by decide +kernel⟩
theorem ms_X5_isSquare : Cond.static yX5_isSquare ∈ tw := tw_i 385 (by decide +kernel) (by decide +kernel)
abbrev mX5_nextState : Mb := (yX5_nextState, cX5_nextState, 4, (some .int))
set_option maxRecDepth 100000 in
theorem tc_X5_nextState : Cond.code yX5_nextState cX5_nextState 4 (some .int) ∈ tw := tw_i 406 rfl rfl
theorem mw_X5_nextState : Mw mX5_nextState 3 := ⟨tc_X5_nextState, ti_X5, by decide +kernel, by decide +kernel, by decide +kernel⟩
theorem ms_X5_nextState : Cond.static yX5_nextState ∈ tw := tw_i 405 (by decide +kernel) (by decide +kernel)
abbrev mX5_leastTaps : Mb := (yX5_leastTaps, cX5_leastTaps, 3, (some .int))
set_option maxRecDepth 100000 in
theorem tc_X5_leastTaps : Cond.code yX5_leastTaps cX5_leastTaps 3 (some .int) ∈ tw := tw_i 400 rfl rfl
theorem mw_X5_leastTaps : Mw mX5_leastTaps 2 := ⟨tc_X5_leastTaps, ti_X5, by decide +kernel, by decide +kernel, by decide +kernel⟩
theorem ms_X5_leastTaps : Cond.static yX5_leastTaps ∈ tw := tw_i 399 (by decide +kernel) (by decide +kernel)
abbrev mX5_stepsRound : Mb := (yX5_stepsRound, cX5_stepsRound, 6, (some .int))
set_option maxRecDepth 100000 in
theorem tc_X5_stepsRound : Cond.code yX5_stepsRound cX5_stepsRound 6 (some .int) ∈ tw := tw_i 403 rfl rfl
theorem mw_X5_stepsRound : Mw mX5_stepsRound 3 := ⟨tc_X5_stepsRound, ti_X5, by decide +kernel, by decide +kernel, by decide +kernel⟩
theorem ms_X5_stepsRound : Cond.static yX5_stepsRound ∈ tw := tw_i 402 (by decide +kernel) (by decide +kernel)
abbrev mX5_commonDivisor : Mb := (yX5_commonDivisor, cX5_commonDivisor, 11, (some .long))
set_option maxRecDepth 100000 in
theorem tc_X5_commonDivisor : Cond.code yX5_commonDivisor cX5_commonDivisor 11 (some .long) ∈ tw := tw_i 370 rfl rfl
theorem mw_X5_commonDivisor : Mw mX5_commonDivisor 2 := ⟨tc_X5_commonDivisor, ti_X5, by decide +kernel, by decide +kernel, by decide +kernel⟩
theorem ms_X5_commonDivisor : Cond.static yX5_commonDivisor ∈ tw := tw_i 369 (by decide +kernel) (by decide +kernel)
abbrev mX5_quotient : Mb := (yX5_quotient, cX5_quotient, 4, (some .long))
set_option maxRecDepth 100000 in
theorem tc_X5_quotient : Cond.code yX5_quotient cX5_quotient 4 (some .long) ∈ tw := tw_i 455 rfl rfl
theorem mw_X5_quotient : Mw mX5_quotient 2 := ⟨tc_X5_quotient, ti_X5, by decide +kernel, by decide +kernel, by decide +kernel⟩
theorem ms_X5_quotient : Cond.static yX5_quotient ∈ tw := tw_i 454 (by decide +kernel) (by decide +kernel)
abbrev mX6_thrown : Mb := (yX6_thrown, cX6_thrown, 1, (some .int))
set_option maxRecDepth 100000 in
theorem tc_X6_thrown : Cond.code yX6_thrown cX6_thrown 1 (some .int) ∈ tw := tw_i 766 rfl rfl
theorem mw_X6_thrown : Mw mX6_thrown 0 := ⟨tc_X6_thrown, ti_X6, by decide +kernel, by decide +kernel, by decide +kernel⟩
theorem tn_X6_thrown : Cond.instanceMethod yX6_thrown ∈ tw := tw_i 764 (by decide +kernel) (by decide +kernel)
theorem ts_X6_thrown : Cond.selects RX6 yX6_thrown yX6_thrown ∈ tw := tw_i 765 (by decide +kernel) (by decide +kernel)
theorem mi_X6_thrown : Mi mX6_thrown := ⟨tn_X6_thrown, ts_X6_thrown⟩
abbrev mX6_no : Mb := (yX6_no, cX6_no, 2, (some .int))
set_option maxRecDepth 100000 in
theorem tc_X6_no : Cond.code yX6_no cX6_no 2 (some .int) ∈ tw := tw_i 790 rfl rfl
theorem mw_X6_no : Mw mX6_no 1 := ⟨tc_X6_no, ti_X6, by decide +kernel, by decide +kernel, by decide +kernel⟩
theorem tn_X6_no : Cond.instanceMethod yX6_no ∈ tw := tw_i 789 (by decide +kernel) (by decide +kernel)
theorem ts_X6_no : Cond.selects RX6 yX6_no yX6_no ∈ tw := tw_i 51 (by decide +kernel) (by decide +kernel)
theorem mi_X6_no : Mi mX6_no := ⟨tn_X6_no, ts_X6_no⟩
abbrev mX6_not : Mb := (yX6_not, cX6_not, 2, (some .boolean))
set_option maxRecDepth 100000 in
theorem tc_X6_not : Cond.code yX6_not cX6_not 2 (some .boolean) ∈ tw := tw_i 778 rfl rfl
theorem mw_X6_not : Mw mX6_not 1 := ⟨tc_X6_not, ti_X6, by decide +kernel, by decide +kernel, by decide +kernel⟩
theorem tn_X6_not : Cond.instanceMethod yX6_not ∈ tw := tw_i 777 (by decide +kernel) (by decide +kernel)
theorem ts_X6_not : Cond.selects RX6 yX6_not yX6_not ∈ tw := tw_i 49 (by decide +kernel) (by decide +kernel)
theorem mi_X6_not : Mi mX6_not := ⟨tn_X6_not, ts_X6_not⟩
abbrev mX6_start : Mb := (yX6_start, cX6_start, 1, none)
set_option maxRecDepth 100000 in
theorem tc_X6_start : Cond.code yX6_start cX6_start 1 none ∈ tw := tw_i 774 rfl rfl
theorem mw_X6_start : Mw mX6_start 0 := ⟨tc_X6_start, ti_X6, by decide +kernel, by decide +kernel, by decide +kernel⟩
theorem tn_X6_start : Cond.instanceMethod yX6_start ∈ tw := tw_i 773 (by decide +kernel) (by decide +kernel)
theorem ts_X6_start : Cond.selects RX6 yX6_start yX6_start ∈ tw := tw_i 48 (by decide +kernel) (by decide +kernel)
theorem mi_X6_start : Mi mX6_start := ⟨tn_X6_start, ts_X6_start⟩
abbrev mX6_isPlace : Mb := (yX6_isPlace, cX6_isPlace, 2, (some .boolean))
set_option maxRecDepth 100000 in
theorem tc_X6_isPlace : Cond.code yX6_isPlace cX6_isPlace 2 (some .boolean) ∈ tw := tw_i 814 rfl rfl
theorem mw_X6_isPlace : Mw mX6_isPlace 1 := ⟨tc_X6_isPlace, ti_X6, by decide +kernel, by decide +kernel, by decide +kernel⟩
theorem tn_X6_isPlace : Cond.instanceMethod yX6_isPlace ∈ tw := tw_i 813 (by decide +kernel) (by decide +kernel)
theorem ts_X6_isPlace : Cond.selects RX6 yX6_isPlace yX6_isPlace ∈ tw := tw_i 53 (by decide +kernel) (by decide +kernel)
theorem mi_X6_isPlace : Mi mX6_isPlace := ⟨tn_X6_isPlace, ts_X6_isPlace⟩
abbrev mX6_begin : Mb := (yX6_begin, cX6_begin, 3, none)
set_option maxRecDepth 100000 in
theorem tc_X6_begin : Cond.code yX6_begin cX6_begin 3 none ∈ tw := tw_i 782 rfl rfl
theorem mw_X6_begin : Mw mX6_begin 1 := ⟨tc_X6_begin, ti_X6, by decide +kernel, by decide +kernel, by decide +kernel⟩
theorem tn_X6_begin : Cond.instanceMethod yX6_begin ∈ tw := tw_i 781 (by decide +kernel) (by decide +kernel)
theorem ts_X6_begin : Cond.selects RX6 yX6_begin yX6_begin ∈ tw := tw_i 50 (by decide +kernel) (by decide +kernel)
theorem mi_X6_begin : Mi mX6_begin := ⟨tn_X6_begin, ts_X6_begin⟩
abbrev mX6_ring : Mb := (yX6_ring, cX6_ring, 2, (some .boolean))
set_option maxRecDepth 100000 in
theorem tc_X6_ring : Cond.code yX6_ring cX6_ring 2 (some .boolean) ∈ tw := tw_i 770 rfl rfl
theorem mw_X6_ring : Mw mX6_ring 1 := ⟨tc_X6_ring, ti_X6, by decide +kernel, by decide +kernel, by decide +kernel⟩
theorem tn_X6_ring : Cond.instanceMethod yX6_ring ∈ tw := tw_i 768 (by decide +kernel) (by decide +kernel)
theorem ts_X6_ring : Cond.selects RX6 yX6_ring yX6_ring ∈ tw := tw_i 769 (by decide +kernel) (by decide +kernel)
theorem mi_X6_ring : Mi mX6_ring := ⟨tn_X6_ring, ts_X6_ring⟩
abbrev mX6_sheet : Mb := (yX6_sheet, cX6_sheet, 4, (some .int))
set_option maxRecDepth 100000 in
theorem tc_X6_sheet : Cond.code yX6_sheet cX6_sheet 4 (some .int) ∈ tw := tw_i 786 rfl rfl
theorem mw_X6_sheet : Mw mX6_sheet 2 := ⟨tc_X6_sheet, ti_X6, by decide +kernel, by decide +kernel, by decide +kernel⟩
theorem tn_X6_sheet : Cond.instanceMethod yX6_sheet ∈ tw := tw_i 784 (by decide +kernel) (by decide +kernel)
theorem ts_X6_sheet : Cond.selects RX6 yX6_sheet yX6_sheet ∈ tw := tw_i 785 (by decide +kernel) (by decide +kernel)
theorem mi_X6_sheet : Mi mX6_sheet := ⟨tn_X6_sheet, ts_X6_sheet⟩
abbrev mX6_entry : Mb := (yX6_entry, cX6_entry, 4, (some .boolean))
set_option maxRecDepth 100000 in
theorem tc_X6_entry : Cond.code yX6_entry cX6_entry 4 (some .boolean) ∈ tw := tw_i 794 rfl rfl
theorem mw_X6_entry : Mw mX6_entry 2 := ⟨tc_X6_entry, ti_X6, by decide +kernel, by decide +kernel, by decide +kernel⟩
theorem tn_X6_entry : Cond.instanceMethod yX6_entry ∈ tw := tw_i 792 (by decide +kernel) (by decide +kernel)
theorem ts_X6_entry : Cond.selects RX6 yX6_entry yX6_entry ∈ tw := tw_i 793 (by decide +kernel) (by decide +kernel)
theorem mi_X6_entry : Mi mX6_entry := ⟨tn_X6_entry, ts_X6_entry⟩
abbrev mX6_most : Mb := (yX6_most, cX6_most, 1, (some .int))
set_option maxRecDepth 100000 in
theorem tc_X6_most : Cond.code yX6_most cX6_most 1 (some .int) ∈ tw := tw_i 801 rfl rfl
theorem mw_X6_most : Mw mX6_most 1 := ⟨tc_X6_most, ti_X6, by decide +kernel, by decide +kernel, by decide +kernel⟩
theorem ms_X6_most : Cond.static yX6_most ∈ tw := tw_i 800 (by decide +kernel) (by decide +kernel)
abbrev mX6_lay : Mb := (yX6_lay, cX6_lay, 3, (some .boolean))
set_option maxRecDepth 100000 in
theorem tc_X6_lay : Cond.code yX6_lay cX6_lay 3 (some .boolean) ∈ tw := tw_i 798 rfl rfl
theorem mw_X6_lay : Mw mX6_lay 1 := ⟨tc_X6_lay, ti_X6, by decide +kernel, by decide +kernel, by decide +kernel⟩
theorem tn_X6_lay : Cond.instanceMethod yX6_lay ∈ tw := tw_i 796 (by decide +kernel) (by decide +kernel)
theorem ts_X6_lay : Cond.selects RX6 yX6_lay yX6_lay ∈ tw := tw_i 797 (by decide +kernel) (by decide +kernel)
theorem mi_X6_lay : Mi mX6_lay := ⟨tn_X6_lay, ts_X6_lay⟩
abbrev mX6_put : Mb := (yX6_put, cX6_put, 4, none)
set_option maxRecDepth 100000 in
theorem tc_X6_put : Cond.code yX6_put cX6_put 4 none ∈ tw := tw_i 806 rfl rfl
theorem mw_X6_put : Mw mX6_put 3 := ⟨tc_X6_put, ti_X6, by decide +kernel, by decide +kernel, by decide +kernel⟩
theorem tn_X6_put : Cond.instanceMethod yX6_put ∈ tw := tw_i 805 (by decide +kernel) (by decide +kernel)
theorem ts_X6_put : Cond.selects RX6 yX6_put yX6_put ∈ tw := tw_i 52 (by decide +kernel) (by decide +kernel)
theorem mi_X6_put : Mi mX6_put := ⟨tn_X6_put, ts_X6_put⟩
abbrev mX6_set : Mb := (yX6_set, cX6_set, 4, (some .boolean))
set_option maxRecDepth 100000 in
theorem tc_X6_set : Cond.code yX6_set cX6_set 4 (some .boolean) ∈ tw := tw_i 810 rfl rfl
theorem mw_X6_set : Mw mX6_set 3 := ⟨tc_X6_set, ti_X6, by decide +kernel, by decide +kernel, by decide +kernel⟩
theorem tn_X6_set : Cond.instanceMethod yX6_set ∈ tw := tw_i 808 (by decide +kernel) (by decide +kernel)
theorem ts_X6_set : Cond.selects RX6 yX6_set yX6_set ∈ tw := tw_i 809 (by decide +kernel) (by decide +kernel)
theorem mi_X6_set : Mi mX6_set := ⟨tn_X6_set, ts_X6_set⟩
abbrev mX6_miss : Mb := (yX6_miss, cX6_miss, 2, (some .boolean))
set_option maxRecDepth 100000 in
theorem tc_X6_miss : Cond.code yX6_miss cX6_miss 2 (some .boolean) ∈ tw := tw_i 818 rfl rfl
theorem mw_X6_miss : Mw mX6_miss 1 := ⟨tc_X6_miss, ti_X6, by decide +kernel, by decide +kernel, by decide +kernel⟩
theorem tn_X6_miss : Cond.instanceMethod yX6_miss ∈ tw := tw_i 816 (by decide +kernel) (by decide +kernel)
theorem ts_X6_miss : Cond.selects RX6 yX6_miss yX6_miss ∈ tw := tw_i 817 (by decide +kernel) (by decide +kernel)
theorem mi_X6_miss : Mi mX6_miss := ⟨tn_X6_miss, ts_X6_miss⟩
abbrev mX6_at : Mb := (yX6_at, cX6_at, 3, (some .int))
set_option maxRecDepth 100000 in
theorem tc_X6_at : Cond.code yX6_at cX6_at 3 (some .int) ∈ tw := tw_i 822 rfl rfl
theorem mw_X6_at : Mw mX6_at 2 := ⟨tc_X6_at, ti_X6, by decide +kernel, by decide +kernel, by decide +kernel⟩
theorem tn_X6_at : Cond.instanceMethod yX6_at ∈ tw := tw_i 820 (by decide +kernel) (by decide +kernel)
theorem ts_X6_at : Cond.selects RX6 yX6_at yX6_at ∈ tw := tw_i 821 (by decide +kernel) (by decide +kernel)
theorem mi_X6_at : Mi mX6_at := ⟨tn_X6_at, ts_X6_at⟩
abbrev mX6_meetsAt : Mb := (yX6_meetsAt, cX6_meetsAt, 4, (some .int))
set_option maxRecDepth 100000 in
theorem tc_X6_meetsAt : Cond.code yX6_meetsAt cX6_meetsAt 4 (some .int) ∈ tw := tw_i 834 rfl rfl
theorem mw_X6_meetsAt : Mw mX6_meetsAt 1 := ⟨tc_X6_meetsAt, ti_X6, by decide +kernel, by decide +kernel, by decide +kernel⟩
theorem tn_X6_meetsAt : Cond.instanceMethod yX6_meetsAt ∈ tw := tw_i 833 (by decide +kernel) (by decide +kernel)
theorem ts_X6_meetsAt : Cond.selects RX6 yX6_meetsAt yX6_meetsAt ∈ tw := tw_i 55 (by decide +kernel) (by decide +kernel)
theorem mi_X6_meetsAt : Mi mX6_meetsAt := ⟨tn_X6_meetsAt, ts_X6_meetsAt⟩
abbrev mX6_firstOff : Mb := (yX6_firstOff, cX6_firstOff, 2, (some .int))
set_option maxRecDepth 100000 in
theorem tc_X6_firstOff : Cond.code yX6_firstOff cX6_firstOff 2 (some .int) ∈ tw := tw_i 830 rfl rfl
theorem mw_X6_firstOff : Mw mX6_firstOff 0 := ⟨tc_X6_firstOff, ti_X6, by decide +kernel, by decide +kernel, by decide +kernel⟩
theorem tn_X6_firstOff : Cond.instanceMethod yX6_firstOff ∈ tw := tw_i 829 (by decide +kernel) (by decide +kernel)
theorem ts_X6_firstOff : Cond.selects RX6 yX6_firstOff yX6_firstOff ∈ tw := tw_i 54 (by decide +kernel) (by decide +kernel)
theorem mi_X6_firstOff : Mi mX6_firstOff := ⟨tn_X6_firstOff, ts_X6_firstOff⟩
abbrev mX6_count : Mb := (yX6_count, cX6_count, 4, (some .int))
set_option maxRecDepth 100000 in
theorem tc_X6_count : Cond.code yX6_count cX6_count 4 (some .int) ∈ tw := tw_i 826 rfl rfl
theorem mw_X6_count : Mw mX6_count 1 := ⟨tc_X6_count, ti_X6, by decide +kernel, by decide +kernel, by decide +kernel⟩
theorem tn_X6_count : Cond.instanceMethod yX6_count ∈ tw := tw_i 824 (by decide +kernel) (by decide +kernel)
theorem ts_X6_count : Cond.selects RX6 yX6_count yX6_count ∈ tw := tw_i 825 (by decide +kernel) (by decide +kernel)
theorem mi_X6_count : Mi mX6_count := ⟨tn_X6_count, ts_X6_count⟩
abbrev mX6_shadowAt : Mb := (yX6_shadowAt, cX6_shadowAt, 4, (some .int))
set_option maxRecDepth 100000 in
theorem tc_X6_shadowAt : Cond.code yX6_shadowAt cX6_shadowAt 4 (some .int) ∈ tw := tw_i 842 rfl rfl
theorem mw_X6_shadowAt : Mw mX6_shadowAt 1 := ⟨tc_X6_shadowAt, ti_X6, by decide +kernel, by decide +kernel, by decide +kernel⟩
theorem tn_X6_shadowAt : Cond.instanceMethod yX6_shadowAt ∈ tw := tw_i 841 (by decide +kernel) (by decide +kernel)
theorem ts_X6_shadowAt : Cond.selects RX6 yX6_shadowAt yX6_shadowAt ∈ tw := tw_i 56 (by decide +kernel) (by decide +kernel)
theorem mi_X6_shadowAt : Mi mX6_shadowAt := ⟨tn_X6_shadowAt, ts_X6_shadowAt⟩
abbrev mX6_shadow : Mb := (yX6_shadow, cX6_shadow, 2, (some .int))
set_option maxRecDepth 100000 in
theorem tc_X6_shadow : Cond.code yX6_shadow cX6_shadow 2 (some .int) ∈ tw := tw_i 838 rfl rfl
theorem mw_X6_shadow : Mw mX6_shadow 1 := ⟨tc_X6_shadow, ti_X6, by decide +kernel, by decide +kernel, by decide +kernel⟩
theorem tn_X6_shadow : Cond.instanceMethod yX6_shadow ∈ tw := tw_i 836 (by decide +kernel) (by decide +kernel)
theorem ts_X6_shadow : Cond.selects RX6 yX6_shadow yX6_shadow ∈ tw := tw_i 837 (by decide +kernel) (by decide +kernel)
theorem mi_X6_shadow : Mi mX6_shadow := ⟨tn_X6_shadow, ts_X6_shadow⟩
abbrev mX6_cast : Mb := (yX6_cast, cX6_cast, 2, (some .boolean))
set_option maxRecDepth 100000 in
theorem tc_X6_cast : Cond.code yX6_cast cX6_cast 2 (some .boolean) ∈ tw := tw_i 846 rfl rfl
theorem mw_X6_cast : Mw mX6_cast 0 := ⟨tc_X6_cast, ti_X6, by decide +kernel, by decide +kernel, by decide +kernel⟩
theorem tn_X6_cast : Cond.instanceMethod yX6_cast ∈ tw := tw_i 844 (by decide +kernel) (by decide +kernel)
theorem ts_X6_cast : Cond.selects RX6 yX6_cast yX6_cast ∈ tw := tw_i 845 (by decide +kernel) (by decide +kernel)
theorem mi_X6_cast : Mi mX6_cast := ⟨tn_X6_cast, ts_X6_cast⟩
abbrev mX6_meets : Mb := (yX6_meets, cX6_meets, 2, (some .int))
set_option maxRecDepth 100000 in
theorem tc_X6_meets : Cond.code yX6_meets cX6_meets 2 (some .int) ∈ tw := tw_i 850 rfl rfl
theorem mw_X6_meets : Mw mX6_meets 1 := ⟨tc_X6_meets, ti_X6, by decide +kernel, by decide +kernel, by decide +kernel⟩
theorem tn_X6_meets : Cond.instanceMethod yX6_meets ∈ tw := tw_i 848 (by decide +kernel) (by decide +kernel)
theorem ts_X6_meets : Cond.selects RX6 yX6_meets yX6_meets ∈ tw := tw_i 849 (by decide +kernel) (by decide +kernel)
theorem mi_X6_meets : Mi mX6_meets := ⟨tn_X6_meets, ts_X6_meets⟩
abbrev mX6_off : Mb := (yX6_off, cX6_off, 1, (some .int))
set_option maxRecDepth 100000 in
theorem tc_X6_off : Cond.code yX6_off cX6_off 1 (some .int) ∈ tw := tw_i 854 rfl rfl
theorem mw_X6_off : Mw mX6_off 0 := ⟨tc_X6_off, ti_X6, by decide +kernel, by decide +kernel, by decide +kernel⟩
theorem tn_X6_off : Cond.instanceMethod yX6_off ∈ tw := tw_i 852 (by decide +kernel) (by decide +kernel)
theorem ts_X6_off : Cond.selects RX6 yX6_off yX6_off ∈ tw := tw_i 853 (by decide +kernel) (by decide +kernel)
theorem mi_X6_off : Mi mX6_off := ⟨tn_X6_off, ts_X6_off⟩
abbrev mX6_turn : Mb := (yX6_turn, cX6_turn, 4, (some .boolean))
set_option maxRecDepth 100000 in
theorem tc_X6_turn : Cond.code yX6_turn cX6_turn 4 (some .boolean) ∈ tw := tw_i 858 rfl rfl
theorem mw_X6_turn : Mw mX6_turn 1 := ⟨tc_X6_turn, ti_X6, by decide +kernel, by decide +kernel, by decide +kernel⟩
theorem tn_X6_turn : Cond.instanceMethod yX6_turn ∈ tw := tw_i 856 (by decide +kernel) (by decide +kernel)
theorem ts_X6_turn : Cond.selects RX6 yX6_turn yX6_turn ∈ tw := tw_i 857 (by decide +kernel) (by decide +kernel)
theorem mi_X6_turn : Mi mX6_turn := ⟨tn_X6_turn, ts_X6_turn⟩
abbrev mX6_anti : Mb := (yX6_anti, cX6_anti, 2, (some .boolean))
set_option maxRecDepth 100000 in
theorem tc_X6_anti : Cond.code yX6_anti cX6_anti 2 (some .boolean) ∈ tw := tw_i 862 rfl rfl
theorem mw_X6_anti : Mw mX6_anti 0 := ⟨tc_X6_anti, ti_X6, by decide +kernel, by decide +kernel, by decide +kernel⟩
theorem tn_X6_anti : Cond.instanceMethod yX6_anti ∈ tw := tw_i 860 (by decide +kernel) (by decide +kernel)
theorem ts_X6_anti : Cond.selects RX6 yX6_anti yX6_anti ∈ tw := tw_i 861 (by decide +kernel) (by decide +kernel)
theorem mi_X6_anti : Mi mX6_anti := ⟨tn_X6_anti, ts_X6_anti⟩
abbrev mX6_common : Mb := (yX6_common, cX6_common, 5, (some .int))
set_option maxRecDepth 100000 in
theorem tc_X6_common : Cond.code yX6_common cX6_common 5 (some .int) ∈ tw := tw_i 869 rfl rfl
theorem mw_X6_common : Mw mX6_common 2 := ⟨tc_X6_common, ti_X6, by decide +kernel, by decide +kernel, by decide +kernel⟩
theorem ms_X6_common : Cond.static yX6_common ∈ tw := tw_i 868 (by decide +kernel) (by decide +kernel)
abbrev mX6_fold : Mb := (yX6_fold, cX6_fold, 6, (some .int))
set_option maxRecDepth 100000 in
theorem tc_X6_fold : Cond.code yX6_fold cX6_fold 6 (some .int) ∈ tw := tw_i 866 rfl rfl
theorem mw_X6_fold : Mw mX6_fold 4 := ⟨tc_X6_fold, ti_X6, by decide +kernel, by decide +kernel, by decide +kernel⟩
theorem tn_X6_fold : Cond.instanceMethod yX6_fold ∈ tw := tw_i 864 (by decide +kernel) (by decide +kernel)
theorem ts_X6_fold : Cond.selects RX6 yX6_fold yX6_fold ∈ tw := tw_i 865 (by decide +kernel) (by decide +kernel)
theorem mi_X6_fold : Mi mX6_fold := ⟨tn_X6_fold, ts_X6_fold⟩
abbrev mX6_isPrime : Mb := (yX6_isPrime, cX6_isPrime, 2, (some .boolean))
set_option maxRecDepth 100000 in
theorem tc_X6_isPrime : Cond.code yX6_isPrime cX6_isPrime 2 (some .boolean) ∈ tw := tw_i 876 rfl rfl
theorem mw_X6_isPrime : Mw mX6_isPrime 1 := ⟨tc_X6_isPrime, ti_X6, by decide +kernel, by decide +kernel, by decide +kernel⟩
theorem ms_X6_isPrime : Cond.static yX6_isPrime ∈ tw := tw_i 875 (by decide +kernel) (by decide +kernel)
abbrev mX6_isSquare : Mb := (yX6_isSquare, cX6_isSquare, 4, (some .boolean))
set_option maxRecDepth 100000 in
theorem tc_X6_isSquare : Cond.code yX6_isSquare cX6_isSquare 4 (some .boolean) ∈ tw := tw_i 879 rfl rfl
theorem mw_X6_isSquare : Mw mX6_isSquare 2 := ⟨tc_X6_isSquare, ti_X6, by decide +kernel, by decide +kernel, by decide +kernel⟩
theorem ms_X6_isSquare : Cond.static yX6_isSquare ∈ tw := tw_i 878 (by decide +kernel) (by decide +kernel)
abbrev mX6_holes : Mb := (yX6_holes, cX6_holes, 3, (some .int))
set_option maxRecDepth 100000 in
theorem tc_X6_holes : Cond.code yX6_holes cX6_holes 3 (some .int) ∈ tw := tw_i 883 rfl rfl
theorem mw_X6_holes : Mw mX6_holes 0 := ⟨tc_X6_holes, ti_X6, by decide +kernel, by decide +kernel, by decide +kernel⟩
theorem tn_X6_holes : Cond.instanceMethod yX6_holes ∈ tw := tw_i 882 (by decide +kernel) (by decide +kernel)
theorem ts_X6_holes : Cond.selects RX6 yX6_holes yX6_holes ∈ tw := tw_i 57 (by decide +kernel) (by decide +kernel)
theorem mi_X6_holes : Mi mX6_holes := ⟨tn_X6_holes, ts_X6_holes⟩
abbrev mX6_rests : Mb := (yX6_rests, cX6_rests, 3, (some .int))
set_option maxRecDepth 100000 in
theorem tc_X6_rests : Cond.code yX6_rests cX6_rests 3 (some .int) ∈ tw := tw_i 873 rfl rfl
theorem mw_X6_rests : Mw mX6_rests 1 := ⟨tc_X6_rests, ti_X6, by decide +kernel, by decide +kernel, by decide +kernel⟩
theorem tn_X6_rests : Cond.instanceMethod yX6_rests ∈ tw := tw_i 871 (by decide +kernel) (by decide +kernel)
theorem ts_X6_rests : Cond.selects RX6 yX6_rests yX6_rests ∈ tw := tw_i 872 (by decide +kernel) (by decide +kernel)
theorem mi_X6_rests : Mi mX6_rests := ⟨tn_X6_rests, ts_X6_rests⟩
abbrev mX6_twins : Mb := (yX6_twins, cX6_twins, 5, (some .int))
set_option maxRecDepth 100000 in
theorem tc_X6_twins : Cond.code yX6_twins cX6_twins 5 (some .int) ∈ tw := tw_i 887 rfl rfl
theorem mw_X6_twins : Mw mX6_twins 1 := ⟨tc_X6_twins, ti_X6, by decide +kernel, by decide +kernel, by decide +kernel⟩
theorem tn_X6_twins : Cond.instanceMethod yX6_twins ∈ tw := tw_i 885 (by decide +kernel) (by decide +kernel)
theorem ts_X6_twins : Cond.selects RX6 yX6_twins yX6_twins ∈ tw := tw_i 886 (by decide +kernel) (by decide +kernel)
theorem mi_X6_twins : Mi mX6_twins := ⟨tn_X6_twins, ts_X6_twins⟩
abbrev mX6_round : Mb := (yX6_round, cX6_round, 8, (some .int))
set_option maxRecDepth 100000 in
theorem tc_X6_round : Cond.code yX6_round cX6_round 8 (some .int) ∈ tw := tw_i 895 rfl rfl
theorem mw_X6_round : Mw mX6_round 4 := ⟨tc_X6_round, ti_X6, by decide +kernel, by decide +kernel, by decide +kernel⟩
theorem tn_X6_round : Cond.instanceMethod yX6_round ∈ tw := tw_i 894 (by decide +kernel) (by decide +kernel)
theorem ts_X6_round : Cond.selects RX6 yX6_round yX6_round ∈ tw := tw_i 58 (by decide +kernel) (by decide +kernel)
theorem mi_X6_round : Mi mX6_round := ⟨tn_X6_round, ts_X6_round⟩
abbrev mX6_shift : Mb := (yX6_shift, cX6_shift, 4, (some .int))
set_option maxRecDepth 100000 in
theorem tc_X6_shift : Cond.code yX6_shift cX6_shift 4 (some .int) ∈ tw := tw_i 891 rfl rfl
theorem mw_X6_shift : Mw mX6_shift 1 := ⟨tc_X6_shift, ti_X6, by decide +kernel, by decide +kernel, by decide +kernel⟩
theorem tn_X6_shift : Cond.instanceMethod yX6_shift ∈ tw := tw_i 889 (by decide +kernel) (by decide +kernel)
theorem ts_X6_shift : Cond.selects RX6 yX6_shift yX6_shift ∈ tw := tw_i 890 (by decide +kernel) (by decide +kernel)
theorem mi_X6_shift : Mi mX6_shift := ⟨tn_X6_shift, ts_X6_shift⟩
abbrev mX6_down : Mb := (yX6_down, cX6_down, 15, (some .int))
set_option maxRecDepth 100000 in
theorem tc_X6_down : Cond.code yX6_down cX6_down 15 (some .int) ∈ tw := tw_i 908 rfl rfl
theorem mw_X6_down : Mw mX6_down 3 := ⟨tc_X6_down, ti_X6, by decide +kernel, by decide +kernel, by decide +kernel⟩
theorem tn_X6_down : Cond.instanceMethod yX6_down ∈ tw := tw_i 907 (by decide +kernel) (by decide +kernel)
theorem ts_X6_down : Cond.selects RX6 yX6_down yX6_down ∈ tw := tw_i 60 (by decide +kernel) (by decide +kernel)
theorem mi_X6_down : Mi mX6_down := ⟨tn_X6_down, ts_X6_down⟩
abbrev mX6_gcd : Mb := (yX6_gcd, cX6_gcd, 10, (some .long))
set_option maxRecDepth 100000 in
theorem tc_X6_gcd : Cond.code yX6_gcd cX6_gcd 10 (some .long) ∈ tw := tw_i 911 rfl rfl
theorem mw_X6_gcd : Mw mX6_gcd 2 := ⟨tc_X6_gcd, ti_X6, by decide +kernel, by decide +kernel, by decide +kernel⟩
theorem ms_X6_gcd : Cond.static yX6_gcd ∈ tw := tw_i 910 (by decide +kernel) (by decide +kernel)
abbrev mX6_solveBack : Mb := (yX6_solveBack, cX6_solveBack, 5, (some .boolean))
set_option maxRecDepth 100000 in
theorem tc_X6_solveBack : Cond.code yX6_solveBack cX6_solveBack 5 (some .boolean) ∈ tw := tw_i 904 rfl rfl
theorem mw_X6_solveBack : Mw mX6_solveBack 0 := ⟨tc_X6_solveBack, ti_X6, by decide +kernel, by decide +kernel, by decide +kernel⟩
theorem tn_X6_solveBack : Cond.instanceMethod yX6_solveBack ∈ tw := tw_i 903 (by decide +kernel) (by decide +kernel)
theorem ts_X6_solveBack : Cond.selects RX6 yX6_solveBack yX6_solveBack ∈ tw := tw_i 59 (by decide +kernel) (by decide +kernel)
theorem mi_X6_solveBack : Mi mX6_solveBack := ⟨tn_X6_solveBack, ts_X6_solveBack⟩
abbrev mX6_undo : Mb := (yX6_undo, cX6_undo, 2, (some .long))
set_option maxRecDepth 100000 in
theorem tc_X6_undo : Cond.code yX6_undo cX6_undo 2 (some .long) ∈ tw := tw_i 900 rfl rfl
theorem mw_X6_undo : Mw mX6_undo 0 := ⟨tc_X6_undo, ti_X6, by decide +kernel, by decide +kernel, by decide +kernel⟩
theorem tn_X6_undo : Cond.instanceMethod yX6_undo ∈ tw := tw_i 898 (by decide +kernel) (by decide +kernel)
theorem ts_X6_undo : Cond.selects RX6 yX6_undo yX6_undo ∈ tw := tw_i 899 (by decide +kernel) (by decide +kernel)
theorem mi_X6_undo : Mi mX6_undo := ⟨tn_X6_undo, ts_X6_undo⟩
abbrev mX6_back : Mb := (yX6_back, cX6_back, 2, (some .long))
set_option maxRecDepth 100000 in
theorem tc_X6_back : Cond.code yX6_back cX6_back 2 (some .long) ∈ tw := tw_i 915 rfl rfl
theorem mw_X6_back : Mw mX6_back 1 := ⟨tc_X6_back, ti_X6, by decide +kernel, by decide +kernel, by decide +kernel⟩
theorem tn_X6_back : Cond.instanceMethod yX6_back ∈ tw := tw_i 913 (by decide +kernel) (by decide +kernel)
theorem ts_X6_back : Cond.selects RX6 yX6_back yX6_back ∈ tw := tw_i 914 (by decide +kernel) (by decide +kernel)
theorem mi_X6_back : Mi mX6_back := ⟨tn_X6_back, ts_X6_back⟩
abbrev mX6_noise : Mb := (yX6_noise, cX6_noise, 8, (some .long))
set_option maxRecDepth 100000 in
theorem tc_X6_noise : Cond.code yX6_noise cX6_noise 8 (some .long) ∈ tw := tw_i 919 rfl rfl
theorem mw_X6_noise : Mw mX6_noise 1 := ⟨tc_X6_noise, ti_X6, by decide +kernel, by decide +kernel, by decide +kernel⟩
theorem tn_X6_noise : Cond.instanceMethod yX6_noise ∈ tw := tw_i 917 (by decide +kernel) (by decide +kernel)
theorem ts_X6_noise : Cond.selects RX6 yX6_noise yX6_noise ∈ tw := tw_i 918 (by decide +kernel) (by decide +kernel)
theorem mi_X6_noise : Mi mX6_noise := ⟨tn_X6_noise, ts_X6_noise⟩
abbrev mX6_layShadow : Mb := (yX6_layShadow, cX6_layShadow, 7, (some .int))
set_option maxRecDepth 100000 in
theorem tc_X6_layShadow : Cond.code yX6_layShadow cX6_layShadow 7 (some .int) ∈ tw := tw_i 927 rfl rfl
theorem mw_X6_layShadow : Mw mX6_layShadow 3 := ⟨tc_X6_layShadow, ti_X6, by decide +kernel, by decide +kernel, by decide +kernel⟩
theorem tn_X6_layShadow : Cond.instanceMethod yX6_layShadow ∈ tw := tw_i 926 (by decide +kernel) (by decide +kernel)
theorem ts_X6_layShadow : Cond.selects RX6 yX6_layShadow yX6_layShadow ∈ tw := tw_i 61 (by decide +kernel) (by decide +kernel)
theorem mi_X6_layShadow : Mi mX6_layShadow := ⟨tn_X6_layShadow, ts_X6_layShadow⟩
abbrev mX6_rank : Mb := (yX6_rank, cX6_rank, 1, (some .int))
set_option maxRecDepth 100000 in
theorem tc_X6_rank : Cond.code yX6_rank cX6_rank 1 (some .int) ∈ tw := tw_i 923 rfl rfl
theorem mw_X6_rank : Mw mX6_rank 0 := ⟨tc_X6_rank, ti_X6, by decide +kernel, by decide +kernel, by decide +kernel⟩
theorem tn_X6_rank : Cond.instanceMethod yX6_rank ∈ tw := tw_i 921 (by decide +kernel) (by decide +kernel)
theorem ts_X6_rank : Cond.selects RX6 yX6_rank yX6_rank ∈ tw := tw_i 922 (by decide +kernel) (by decide +kernel)
theorem mi_X6_rank : Mi mX6_rank := ⟨tn_X6_rank, ts_X6_rank⟩
abbrev mX6_sure : Mb := (yX6_sure, cX6_sure, 1, (some .int))
set_option maxRecDepth 100000 in
theorem tc_X6_sure : Cond.code yX6_sure cX6_sure 1 (some .int) ∈ tw := tw_i 931 rfl rfl
theorem mw_X6_sure : Mw mX6_sure 0 := ⟨tc_X6_sure, ti_X6, by decide +kernel, by decide +kernel, by decide +kernel⟩
theorem tn_X6_sure : Cond.instanceMethod yX6_sure ∈ tw := tw_i 929 (by decide +kernel) (by decide +kernel)
theorem ts_X6_sure : Cond.selects RX6 yX6_sure yX6_sure ∈ tw := tw_i 930 (by decide +kernel) (by decide +kernel)
theorem mi_X6_sure : Mi mX6_sure := ⟨tn_X6_sure, ts_X6_sure⟩
abbrev mX6_lost : Mb := (yX6_lost, cX6_lost, 9, (some .int))
set_option maxRecDepth 100000 in
theorem tc_X6_lost : Cond.code yX6_lost cX6_lost 9 (some .int) ∈ tw := tw_i 935 rfl rfl
theorem mw_X6_lost : Mw mX6_lost 0 := ⟨tc_X6_lost, ti_X6, by decide +kernel, by decide +kernel, by decide +kernel⟩
theorem tn_X6_lost : Cond.instanceMethod yX6_lost ∈ tw := tw_i 933 (by decide +kernel) (by decide +kernel)
theorem ts_X6_lost : Cond.selects RX6 yX6_lost yX6_lost ∈ tw := tw_i 934 (by decide +kernel) (by decide +kernel)
theorem mi_X6_lost : Mi mX6_lost := ⟨tn_X6_lost, ts_X6_lost⟩
abbrev mX6_solve : Mb := (yX6_solve, cX6_solve, 6, (some .int))
set_option maxRecDepth 100000 in
theorem tc_X6_solve : Cond.code yX6_solve cX6_solve 6 (some .int) ∈ tw := tw_i 939 rfl rfl
theorem mw_X6_solve : Mw mX6_solve 0 := ⟨tc_X6_solve, ti_X6, by decide +kernel, by decide +kernel, by decide +kernel⟩
theorem tn_X6_solve : Cond.instanceMethod yX6_solve ∈ tw := tw_i 937 (by decide +kernel) (by decide +kernel)
theorem ts_X6_solve : Cond.selects RX6 yX6_solve yX6_solve ∈ tw := tw_i 938 (by decide +kernel) (by decide +kernel)
theorem mi_X6_solve : Mi mX6_solve := ⟨tn_X6_solve, ts_X6_solve⟩
abbrev mX6_fits : Mb := (yX6_fits, cX6_fits, 8, (some .boolean))
set_option maxRecDepth 100000 in
theorem tc_X6_fits : Cond.code yX6_fits cX6_fits 8 (some .boolean) ∈ tw := tw_i 949 rfl rfl
theorem mw_X6_fits : Mw mX6_fits 5 := ⟨tc_X6_fits, ti_X6, by decide +kernel, by decide +kernel, by decide +kernel⟩
theorem tn_X6_fits : Cond.instanceMethod yX6_fits ∈ tw := tw_i 948 (by decide +kernel) (by decide +kernel)
theorem ts_X6_fits : Cond.selects RX6 yX6_fits yX6_fits ∈ tw := tw_i 62 (by decide +kernel) (by decide +kernel)
theorem mi_X6_fits : Mi mX6_fits := ⟨tn_X6_fits, ts_X6_fits⟩
abbrev mX6_note : Mb := (yX6_note, cX6_note, 5, none)
set_option maxRecDepth 100000 in
theorem tc_X6_note : Cond.code yX6_note cX6_note 5 none ∈ tw := tw_i 953 rfl rfl
theorem mw_X6_note : Mw mX6_note 4 := ⟨tc_X6_note, ti_X6, by decide +kernel, by decide +kernel, by decide +kernel⟩
theorem tn_X6_note : Cond.instanceMethod yX6_note ∈ tw := tw_i 952 (by decide +kernel) (by decide +kernel)
theorem ts_X6_note : Cond.selects RX6 yX6_note yX6_note ∈ tw := tw_i 63 (by decide +kernel) (by decide +kernel)
theorem mi_X6_note : Mi mX6_note := ⟨tn_X6_note, ts_X6_note⟩
abbrev mX6_points : Mb := (yX6_points, cX6_points, 6, (some .int))
set_option maxRecDepth 100000 in
theorem tc_X6_points : Cond.code yX6_points cX6_points 6 (some .int) ∈ tw := tw_i 945 rfl rfl
theorem mw_X6_points : Mw mX6_points 1 := ⟨tc_X6_points, ti_X6, by decide +kernel, by decide +kernel, by decide +kernel⟩
theorem tn_X6_points : Cond.instanceMethod yX6_points ∈ tw := tw_i 943 (by decide +kernel) (by decide +kernel)
theorem ts_X6_points : Cond.selects RX6 yX6_points yX6_points ∈ tw := tw_i 944 (by decide +kernel) (by decide +kernel)
theorem mi_X6_points : Mi mX6_points := ⟨tn_X6_points, ts_X6_points⟩
abbrev mX6_point : Mb := (yX6_point, cX6_point, 3, (some .int))
set_option maxRecDepth 100000 in
theorem tc_X6_point : Cond.code yX6_point cX6_point 3 (some .int) ∈ tw := tw_i 957 rfl rfl
theorem mw_X6_point : Mw mX6_point 2 := ⟨tc_X6_point, ti_X6, by decide +kernel, by decide +kernel, by decide +kernel⟩
theorem tn_X6_point : Cond.instanceMethod yX6_point ∈ tw := tw_i 955 (by decide +kernel) (by decide +kernel)
theorem ts_X6_point : Cond.selects RX6 yX6_point yX6_point ∈ tw := tw_i 956 (by decide +kernel) (by decide +kernel)
theorem mi_X6_point : Mi mX6_point := ⟨tn_X6_point, ts_X6_point⟩
abbrev mX6_table : Mb := (yX6_table, cX6_table, 7, (some .int))
set_option maxRecDepth 100000 in
theorem tc_X6_table : Cond.code yX6_table cX6_table 7 (some .int) ∈ tw := tw_i 961 rfl rfl
theorem mw_X6_table : Mw mX6_table 2 := ⟨tc_X6_table, ti_X6, by decide +kernel, by decide +kernel, by decide +kernel⟩
theorem tn_X6_table : Cond.instanceMethod yX6_table ∈ tw := tw_i 959 (by decide +kernel) (by decide +kernel)
theorem ts_X6_table : Cond.selects RX6 yX6_table yX6_table ∈ tw := tw_i 960 (by decide +kernel) (by decide +kernel)
theorem mi_X6_table : Mi mX6_table := ⟨tn_X6_table, ts_X6_table⟩
abbrev mX6_twice : Mb := (yX6_twice, cX6_twice, 5, (some .int))
set_option maxRecDepth 100000 in
theorem tc_X6_twice : Cond.code yX6_twice cX6_twice 5 (some .int) ∈ tw := tw_i 965 rfl rfl
theorem mw_X6_twice : Mw mX6_twice 0 := ⟨tc_X6_twice, ti_X6, by decide +kernel, by decide +kernel, by decide +kernel⟩
theorem tn_X6_twice : Cond.instanceMethod yX6_twice ∈ tw := tw_i 963 (by decide +kernel) (by decide +kernel)
theorem ts_X6_twice : Cond.selects RX6 yX6_twice yX6_twice ∈ tw := tw_i 964 (by decide +kernel) (by decide +kernel)
theorem mi_X6_twice : Mi mX6_twice := ⟨tn_X6_twice, ts_X6_twice⟩
abbrev mX6_isRow : Mb := (yX6_isRow, cX6_isRow, 2, (some .boolean))
set_option maxRecDepth 100000 in
theorem tc_X6_isRow : Cond.code yX6_isRow cX6_isRow 2 (some .boolean) ∈ tw := tw_i 973 rfl rfl
theorem mw_X6_isRow : Mw mX6_isRow 1 := ⟨tc_X6_isRow, ti_X6, by decide +kernel, by decide +kernel, by decide +kernel⟩
theorem tn_X6_isRow : Cond.instanceMethod yX6_isRow ∈ tw := tw_i 972 (by decide +kernel) (by decide +kernel)
theorem ts_X6_isRow : Cond.selects RX6 yX6_isRow yX6_isRow ∈ tw := tw_i 64 (by decide +kernel) (by decide +kernel)
theorem mi_X6_isRow : Mi mX6_isRow := ⟨tn_X6_isRow, ts_X6_isRow⟩
abbrev mX6_swap : Mb := (yX6_swap, cX6_swap, 5, (some .boolean))
set_option maxRecDepth 100000 in
theorem tc_X6_swap : Cond.code yX6_swap cX6_swap 5 (some .boolean) ∈ tw := tw_i 969 rfl rfl
theorem mw_X6_swap : Mw mX6_swap 2 := ⟨tc_X6_swap, ti_X6, by decide +kernel, by decide +kernel, by decide +kernel⟩
theorem tn_X6_swap : Cond.instanceMethod yX6_swap ∈ tw := tw_i 967 (by decide +kernel) (by decide +kernel)
theorem ts_X6_swap : Cond.selects RX6 yX6_swap yX6_swap ∈ tw := tw_i 968 (by decide +kernel) (by decide +kernel)
theorem mi_X6_swap : Mi mX6_swap := ⟨tn_X6_swap, ts_X6_swap⟩
abbrev mX6_sign : Mb := (yX6_sign, cX6_sign, 3, (some .int))
set_option maxRecDepth 100000 in
theorem tc_X6_sign : Cond.code yX6_sign cX6_sign 3 (some .int) ∈ tw := tw_i 977 rfl rfl
theorem mw_X6_sign : Mw mX6_sign 2 := ⟨tc_X6_sign, ti_X6, by decide +kernel, by decide +kernel, by decide +kernel⟩
theorem tn_X6_sign : Cond.instanceMethod yX6_sign ∈ tw := tw_i 975 (by decide +kernel) (by decide +kernel)
theorem ts_X6_sign : Cond.selects RX6 yX6_sign yX6_sign ∈ tw := tw_i 976 (by decide +kernel) (by decide +kernel)
theorem mi_X6_sign : Mi mX6_sign := ⟨tn_X6_sign, ts_X6_sign⟩
abbrev mX6_product : Mb := (yX6_product, cX6_product, 5, (some .int))
set_option maxRecDepth 100000 in
theorem tc_X6_product : Cond.code yX6_product cX6_product 5 (some .int) ∈ tw := tw_i 981 rfl rfl
theorem mw_X6_product : Mw mX6_product 2 := ⟨tc_X6_product, ti_X6, by decide +kernel, by decide +kernel, by decide +kernel⟩
theorem tn_X6_product : Cond.instanceMethod yX6_product ∈ tw := tw_i 979 (by decide +kernel) (by decide +kernel)
theorem ts_X6_product : Cond.selects RX6 yX6_product yX6_product ∈ tw := tw_i 980 (by decide +kernel) (by decide +kernel)
theorem mi_X6_product : Mi mX6_product := ⟨tn_X6_product, ts_X6_product⟩
abbrev mX6_look : Mb := (yX6_look, cX6_look, 4, (some .int))
set_option maxRecDepth 100000 in
theorem tc_X6_look : Cond.code yX6_look cX6_look 4 (some .int) ∈ tw := tw_i 985 rfl rfl
theorem mw_X6_look : Mw mX6_look 1 := ⟨tc_X6_look, ti_X6, by decide +kernel, by decide +kernel, by decide +kernel⟩
theorem tn_X6_look : Cond.instanceMethod yX6_look ∈ tw := tw_i 983 (by decide +kernel) (by decide +kernel)
theorem ts_X6_look : Cond.selects RX6 yX6_look yX6_look ∈ tw := tw_i 984 (by decide +kernel) (by decide +kernel)
theorem mi_X6_look : Mi mX6_look := ⟨tn_X6_look, ts_X6_look⟩
abbrev mX6_fault : Mb := (yX6_fault, cX6_fault, 1, (some .int))
set_option maxRecDepth 100000 in
theorem tc_X6_fault : Cond.code yX6_fault cX6_fault 1 (some .int) ∈ tw := tw_i 989 rfl rfl
theorem mw_X6_fault : Mw mX6_fault 0 := ⟨tc_X6_fault, ti_X6, by decide +kernel, by decide +kernel, by decide +kernel⟩
theorem tn_X6_fault : Cond.instanceMethod yX6_fault ∈ tw := tw_i 987 (by decide +kernel) (by decide +kernel)
theorem ts_X6_fault : Cond.selects RX6 yX6_fault yX6_fault ∈ tw := tw_i 988 (by decide +kernel) (by decide +kernel)
theorem mi_X6_fault : Mi mX6_fault := ⟨tn_X6_fault, ts_X6_fault⟩
abbrev mJ6_bitCount_0f7a4 : Mb := (yJ6_bitCount_0f7a4, cJ6_bitCount_0f7a4, 1, (some .int))
set_option maxRecDepth 100000 in
theorem tc_J6_bitCount_0f7a4 : Cond.code yJ6_bitCount_0f7a4 cJ6_bitCount_0f7a4 1 (some .int) ∈ tw := tw_i 409 rfl rfl
theorem mw_J6_bitCount_0f7a4 : Mw mJ6_bitCount_0f7a4 1 := ⟨tc_J6_bitCount_0f7a4, ti_J6, by decide +kernel, by decide +kernel, by decide +kernel⟩
theorem ms_J6_bitCount_0f7a4 : Cond.static yJ6_bitCount_0f7a4 ∈ tw := tw_i 408 (by decide +kernel) (by decide +kernel)
abbrev mJ9_floorMod_7cf53 : Mb := (yJ9_floorMod_7cf53, cJ9_floorMod_7cf53, 3, (some .int))
set_option maxRecDepth 100000 in
theorem tc_J9_floorMod_7cf53 : Cond.code yJ9_floorMod_7cf53 cJ9_floorMod_7cf53 3 (some .int) ∈ tw := tw_i 348 rfl rfl
theorem mw_J9_floorMod_7cf53 : Mw mJ9_floorMod_7cf53 2 := ⟨tc_J9_floorMod_7cf53, ti_J9, by decide +kernel, by decide +kernel, by decide +kernel⟩
theorem ms_J9_floorMod_7cf53 : Cond.static yJ9_floorMod_7cf53 ∈ tw := tw_i 347 (by decide +kernel) (by decide +kernel)
abbrev mJ7_fill_53178 : Mb := (yJ7_fill_53178, cJ7_fill_53178, 4, none)
set_option maxRecDepth 100000 in
theorem tc_J7_fill_53178 : Cond.code yJ7_fill_53178 cJ7_fill_53178 4 none ∈ tw := tw_i 227 rfl rfl
theorem mw_J7_fill_53178 : Mw mJ7_fill_53178 2 := ⟨tc_J7_fill_53178, ti_J7, by decide +kernel, by decide +kernel, by decide +kernel⟩
theorem ms_J7_fill_53178 : Cond.static yJ7_fill_53178 ∈ tw := tw_i 226 (by decide +kernel) (by decide +kernel)
theorem ml_L_19 : Cond.methodLink RL 19 yX5_ring ∈ tw := tw_i 209 (by decide +kernel) (by decide +kernel)
theorem ml_X5_48 : Cond.methodLink RX5 48 yX5_refuses ∈ tw := tw_i 213 (by decide +kernel) (by decide +kernel)
theorem ml_X5_52 : Cond.methodLink RX5 52 yX5_startRing ∈ tw := tw_i 217 (by decide +kernel) (by decide +kernel)
theorem ml_X1_27 : Cond.methodLink RX1 27 yJ7_fill_53178 ∈ tw := tw_i 225 (by decide +kernel) (by decide +kernel)
theorem ml_L_24 : Cond.methodLink RL 24 yX5_sheet ∈ tw := tw_i 228 (by decide +kernel) (by decide +kernel)
theorem ml_X5_56 : Cond.methodLink RX5 56 yX5_sheetFault ∈ tw := tw_i 232 (by decide +kernel) (by decide +kernel)
theorem ml_X3_22 : Cond.methodLink RX3 22 yJ7_fill_53178 ∈ tw := tw_i 239 (by decide +kernel) (by decide +kernel)
theorem ml_L_28 : Cond.methodLink RL 28 yX5_entry ∈ tw := tw_i 240 (by decide +kernel) (by decide +kernel)
theorem ml_L_33 : Cond.methodLink RL 33 yX5_lay ∈ tw := tw_i 248 (by decide +kernel) (by decide +kernel)
theorem ml_X5_73 : Cond.methodLink RX5 73 yX5_layFault ∈ tw := tw_i 252 (by decide +kernel) (by decide +kernel)
theorem ml_X5_90 : Cond.methodLink RX5 90 yX5_forgetBackOf ∈ tw := tw_i 276 (by decide +kernel) (by decide +kernel)
theorem ml_L_37 : Cond.methodLink RL 37 yX5_set ∈ tw := tw_i 280 (by decide +kernel) (by decide +kernel)
theorem ml_L_42 : Cond.methodLink RL 42 yX5_miss ∈ tw := tw_i 288 (by decide +kernel) (by decide +kernel)
theorem ml_L_56 : Cond.methodLink RL 56 yX5_count ∈ tw := tw_i 293 (by decide +kernel) (by decide +kernel)
theorem ml_X1_41 : Cond.methodLink RX1 41 yX1_meetsAt ∈ tw := tw_i 305 (by decide +kernel) (by decide +kernel)
theorem ml_X1_37 : Cond.methodLink RX1 37 yX1_throughMask ∈ tw := tw_i 309 (by decide +kernel) (by decide +kernel)
theorem ml_X1_33 : Cond.methodLink RX1 33 yX1_wrap ∈ tw := tw_i 313 (by decide +kernel) (by decide +kernel)
theorem ml_L_61 : Cond.methodLink RL 61 yX5_shadow ∈ tw := tw_i 317 (by decide +kernel) (by decide +kernel)
theorem ml_L_65 : Cond.methodLink RL 65 yX5_cast ∈ tw := tw_i 325 (by decide +kernel) (by decide +kernel)
theorem ml_L_70 : Cond.methodLink RL 70 yX5_meets ∈ tw := tw_i 329 (by decide +kernel) (by decide +kernel)
theorem ml_L_74 : Cond.methodLink RL 74 yX5_off ∈ tw := tw_i 334 (by decide +kernel) (by decide +kernel)
theorem ml_L_78 : Cond.methodLink RL 78 yX5_turn ∈ tw := tw_i 338 (by decide +kernel) (by decide +kernel)
theorem ml_X1_44 : Cond.methodLink RX1 44 yJ9_floorMod_7cf53 ∈ tw := tw_i 346 (by decide +kernel) (by decide +kernel)
theorem ml_L_82 : Cond.methodLink RL 82 yX5_anti ∈ tw := tw_i 352 (by decide +kernel) (by decide +kernel)
theorem ml_L_86 : Cond.methodLink RL 86 yX5_fold ∈ tw := tw_i 360 (by decide +kernel) (by decide +kernel)
theorem ml_X5_142 : Cond.methodLink RX5 142 yX5_canFold ∈ tw := tw_i 364 (by decide +kernel) (by decide +kernel)
theorem ml_X5_230 : Cond.methodLink RX5 230 yX5_commonDivisor ∈ tw := tw_i 368 (by decide +kernel) (by decide +kernel)
theorem ml_L_91 : Cond.methodLink RL 91 yX5_rests ∈ tw := tw_i 374 (by decide +kernel) (by decide +kernel)
theorem ml_X5_146 : Cond.methodLink RX5 146 yX5_isRestPrime ∈ tw := tw_i 378 (by decide +kernel) (by decide +kernel)
theorem ml_X5_234 : Cond.methodLink RX5 234 yX5_isPrime ∈ tw := tw_i 381 (by decide +kernel) (by decide +kernel)
theorem ml_X5_149 : Cond.methodLink RX5 149 yX5_isSquare ∈ tw := tw_i 384 (by decide +kernel) (by decide +kernel)
theorem ml_L_95 : Cond.methodLink RL 95 yX5_twins ∈ tw := tw_i 387 (by decide +kernel) (by decide +kernel)
theorem ml_X5_152 : Cond.methodLink RX5 152 yX5_isTwinPrime ∈ tw := tw_i 391 (by decide +kernel) (by decide +kernel)
theorem ml_L_99 : Cond.methodLink RL 99 yX5_shift ∈ tw := tw_i 394 (by decide +kernel) (by decide +kernel)
theorem ml_X5_155 : Cond.methodLink RX5 155 yX5_leastTaps ∈ tw := tw_i 398 (by decide +kernel) (by decide +kernel)
theorem ml_X5_242 : Cond.methodLink RX5 242 yX5_stepsRound ∈ tw := tw_i 401 (by decide +kernel) (by decide +kernel)
theorem ml_X5_158 : Cond.methodLink RX5 158 yX5_nextState ∈ tw := tw_i 404 (by decide +kernel) (by decide +kernel)
theorem ml_X5_237 : Cond.methodLink RX5 237 yJ6_bitCount_0f7a4 ∈ tw := tw_i 407 (by decide +kernel) (by decide +kernel)
theorem ml_L_103 : Cond.methodLink RL 103 yX5_undo ∈ tw := tw_i 413 (by decide +kernel) (by decide +kernel)
theorem ml_X5_162 : Cond.methodLink RX5 162 yX5_smallRingFault ∈ tw := tw_i 417 (by decide +kernel) (by decide +kernel)
theorem ml_X4_65 : Cond.methodLink RX4 65 yX4_reduce ∈ tw := tw_i 429 (by decide +kernel) (by decide +kernel)
theorem ml_X4_43 : Cond.methodLink RX4 43 yX4_fillCells ∈ tw := tw_i 433 (by decide +kernel) (by decide +kernel)
theorem ml_X4_47 : Cond.methodLink RX4 47 yX4_rowToLead ∈ tw := tw_i 441 (by decide +kernel) (by decide +kernel)
theorem ml_X4_50 : Cond.methodLink RX4 50 yX4_swapCells ∈ tw := tw_i 445 (by decide +kernel) (by decide +kernel)
theorem ml_X4_54 : Cond.methodLink RX4 54 yX4_clearColumn ∈ tw := tw_i 449 (by decide +kernel) (by decide +kernel)
theorem ml_L_108 : Cond.methodLink RL 108 yX5_back ∈ tw := tw_i 458 (by decide +kernel) (by decide +kernel)
theorem ml_L_113 : Cond.methodLink RL 113 yX5_noise ∈ tw := tw_i 466 (by decide +kernel) (by decide +kernel)
theorem ml_L_117 : Cond.methodLink RL 117 yX5_rank ∈ tw := tw_i 474 (by decide +kernel) (by decide +kernel)
theorem ml_L_121 : Cond.methodLink RL 121 yX5_lost ∈ tw := tw_i 479 (by decide +kernel) (by decide +kernel)
theorem ml_L_125 : Cond.methodLink RL 125 yX5_solve ∈ tw := tw_i 488 (by decide +kernel) (by decide +kernel)
theorem ml_L_129 : Cond.methodLink RL 129 yX5_sure ∈ tw := tw_i 499 (by decide +kernel) (by decide +kernel)
theorem ml_L_133 : Cond.methodLink RL 133 yX5_points ∈ tw := tw_i 503 (by decide +kernel) (by decide +kernel)
theorem ml_X2_25 : Cond.methodLink RX2 25 yX2_openWindows ∈ tw := tw_i 511 (by decide +kernel) (by decide +kernel)
theorem ml_X2_29 : Cond.methodLink RX2 29 yX2_holds ∈ tw := tw_i 527 (by decide +kernel) (by decide +kernel)
theorem ml_X2_33 : Cond.methodLink RX2 33 yX2_tell ∈ tw := tw_i 531 (by decide +kernel) (by decide +kernel)
theorem ml_X2_42 : Cond.methodLink RX2 42 yX2_searchPairs ∈ tw := tw_i 535 (by decide +kernel) (by decide +kernel)
theorem ml_X2_46 : Cond.methodLink RX2 46 yX2_tellSeconds ∈ tw := tw_i 539 (by decide +kernel) (by decide +kernel)
theorem ml_L_137 : Cond.methodLink RL 137 yX5_point ∈ tw := tw_i 543 (by decide +kernel) (by decide +kernel)
theorem ml_L_141 : Cond.methodLink RL 141 yX5_table ∈ tw := tw_i 551 (by decide +kernel) (by decide +kernel)
theorem ml_X0_17 : Cond.methodLink RX0 17 yJ6_bitCount_0f7a4 ∈ tw := tw_i 559 (by decide +kernel) (by decide +kernel)
theorem ml_L_145 : Cond.methodLink RL 145 yX5_twice ∈ tw := tw_i 565 (by decide +kernel) (by decide +kernel)
theorem ml_X0_29 : Cond.methodLink RX0 29 yX0_allColumns ∈ tw := tw_i 573 (by decide +kernel) (by decide +kernel)
theorem ml_L_149 : Cond.methodLink RL 149 yX5_swap ∈ tw := tw_i 576 (by decide +kernel) (by decide +kernel)
theorem ml_X5_209 : Cond.methodLink RX5 209 yX5_rowsFault ∈ tw := tw_i 580 (by decide +kernel) (by decide +kernel)
theorem ml_L_153 : Cond.methodLink RL 153 yX5_sign ∈ tw := tw_i 592 (by decide +kernel) (by decide +kernel)
theorem ml_L_157 : Cond.methodLink RL 157 yX5_product ∈ tw := tw_i 600 (by decide +kernel) (by decide +kernel)
theorem ml_L_161 : Cond.methodLink RL 161 yX5_look ∈ tw := tw_i 608 (by decide +kernel) (by decide +kernel)
theorem ml_L_165 : Cond.methodLink RL 165 yX5_fault ∈ tw := tw_i 613 (by decide +kernel) (by decide +kernel)
theorem ml_L_7 : Cond.methodLink RL 7 yX5_at ∈ tw := tw_i 621 (by decide +kernel) (by decide +kernel)
theorem ml_L_52 : Cond.methodLink RL 52 yX6_thrown ∈ tw := tw_i 763 (by decide +kernel) (by decide +kernel)
theorem ml_L_23 : Cond.methodLink RL 23 yX6_ring ∈ tw := tw_i 767 (by decide +kernel) (by decide +kernel)
theorem ml_X6_68 : Cond.methodLink RX6 68 yX6_start ∈ tw := tw_i 771 (by decide +kernel) (by decide +kernel)
theorem ml_X6_71 : Cond.methodLink RX6 71 yX6_not ∈ tw := tw_i 775 (by decide +kernel) (by decide +kernel)
theorem ml_X6_75 : Cond.methodLink RX6 75 yX6_begin ∈ tw := tw_i 779 (by decide +kernel) (by decide +kernel)
theorem ml_L_27 : Cond.methodLink RL 27 yX6_sheet ∈ tw := tw_i 783 (by decide +kernel) (by decide +kernel)
theorem ml_X6_79 : Cond.methodLink RX6 79 yX6_no ∈ tw := tw_i 787 (by decide +kernel) (by decide +kernel)
theorem ml_L_32 : Cond.methodLink RL 32 yX6_entry ∈ tw := tw_i 791 (by decide +kernel) (by decide +kernel)
theorem ml_L_36 : Cond.methodLink RL 36 yX6_lay ∈ tw := tw_i 795 (by decide +kernel) (by decide +kernel)
theorem ml_X6_87 : Cond.methodLink RX6 87 yX6_most ∈ tw := tw_i 799 (by decide +kernel) (by decide +kernel)
theorem ml_X6_90 : Cond.methodLink RX6 90 yX6_put ∈ tw := tw_i 803 (by decide +kernel) (by decide +kernel)
theorem ml_L_41 : Cond.methodLink RL 41 yX6_set ∈ tw := tw_i 807 (by decide +kernel) (by decide +kernel)
theorem ml_X6_94 : Cond.methodLink RX6 94 yX6_isPlace ∈ tw := tw_i 811 (by decide +kernel) (by decide +kernel)
theorem ml_L_45 : Cond.methodLink RL 45 yX6_miss ∈ tw := tw_i 815 (by decide +kernel) (by decide +kernel)
theorem ml_L_51 : Cond.methodLink RL 51 yX6_at ∈ tw := tw_i 819 (by decide +kernel) (by decide +kernel)
theorem ml_L_60 : Cond.methodLink RL 60 yX6_count ∈ tw := tw_i 823 (by decide +kernel) (by decide +kernel)
theorem ml_X6_100 : Cond.methodLink RX6 100 yX6_firstOff ∈ tw := tw_i 827 (by decide +kernel) (by decide +kernel)
theorem ml_X6_97 : Cond.methodLink RX6 97 yX6_meetsAt ∈ tw := tw_i 831 (by decide +kernel) (by decide +kernel)
theorem ml_L_64 : Cond.methodLink RL 64 yX6_shadow ∈ tw := tw_i 835 (by decide +kernel) (by decide +kernel)
theorem ml_X6_107 : Cond.methodLink RX6 107 yX6_shadowAt ∈ tw := tw_i 839 (by decide +kernel) (by decide +kernel)
theorem ml_L_69 : Cond.methodLink RL 69 yX6_cast ∈ tw := tw_i 843 (by decide +kernel) (by decide +kernel)
theorem ml_L_73 : Cond.methodLink RL 73 yX6_meets ∈ tw := tw_i 847 (by decide +kernel) (by decide +kernel)
theorem ml_L_77 : Cond.methodLink RL 77 yX6_off ∈ tw := tw_i 851 (by decide +kernel) (by decide +kernel)
theorem ml_L_81 : Cond.methodLink RL 81 yX6_turn ∈ tw := tw_i 855 (by decide +kernel) (by decide +kernel)
theorem ml_L_85 : Cond.methodLink RL 85 yX6_anti ∈ tw := tw_i 859 (by decide +kernel) (by decide +kernel)
theorem ml_L_90 : Cond.methodLink RL 90 yX6_fold ∈ tw := tw_i 863 (by decide +kernel) (by decide +kernel)
theorem ml_X6_110 : Cond.methodLink RX6 110 yX6_common ∈ tw := tw_i 867 (by decide +kernel) (by decide +kernel)
theorem ml_L_94 : Cond.methodLink RL 94 yX6_rests ∈ tw := tw_i 870 (by decide +kernel) (by decide +kernel)
theorem ml_X6_114 : Cond.methodLink RX6 114 yX6_isPrime ∈ tw := tw_i 874 (by decide +kernel) (by decide +kernel)
theorem ml_X6_117 : Cond.methodLink RX6 117 yX6_isSquare ∈ tw := tw_i 877 (by decide +kernel) (by decide +kernel)
theorem ml_X6_121 : Cond.methodLink RX6 121 yX6_holes ∈ tw := tw_i 880 (by decide +kernel) (by decide +kernel)
theorem ml_L_98 : Cond.methodLink RL 98 yX6_twins ∈ tw := tw_i 884 (by decide +kernel) (by decide +kernel)
theorem ml_L_102 : Cond.methodLink RL 102 yX6_shift ∈ tw := tw_i 888 (by decide +kernel) (by decide +kernel)
theorem ml_X6_129 : Cond.methodLink RX6 129 yX6_round ∈ tw := tw_i 892 (by decide +kernel) (by decide +kernel)
theorem ml_X6_124 : Cond.methodLink RX6 124 yJ6_bitCount_0f7a4 ∈ tw := tw_i 896 (by decide +kernel) (by decide +kernel)
theorem ml_L_107 : Cond.methodLink RL 107 yX6_undo ∈ tw := tw_i 897 (by decide +kernel) (by decide +kernel)
theorem ml_X6_144 : Cond.methodLink RX6 144 yX6_solveBack ∈ tw := tw_i 901 (by decide +kernel) (by decide +kernel)
theorem ml_X6_136 : Cond.methodLink RX6 136 yX6_down ∈ tw := tw_i 905 (by decide +kernel) (by decide +kernel)
theorem ml_X6_140 : Cond.methodLink RX6 140 yX6_gcd ∈ tw := tw_i 909 (by decide +kernel) (by decide +kernel)
theorem ml_L_112 : Cond.methodLink RL 112 yX6_back ∈ tw := tw_i 912 (by decide +kernel) (by decide +kernel)
theorem ml_L_116 : Cond.methodLink RL 116 yX6_noise ∈ tw := tw_i 916 (by decide +kernel) (by decide +kernel)
theorem ml_L_120 : Cond.methodLink RL 120 yX6_rank ∈ tw := tw_i 920 (by decide +kernel) (by decide +kernel)
theorem ml_X6_148 : Cond.methodLink RX6 148 yX6_layShadow ∈ tw := tw_i 924 (by decide +kernel) (by decide +kernel)
theorem ml_L_132 : Cond.methodLink RL 132 yX6_sure ∈ tw := tw_i 928 (by decide +kernel) (by decide +kernel)
theorem ml_L_124 : Cond.methodLink RL 124 yX6_lost ∈ tw := tw_i 932 (by decide +kernel) (by decide +kernel)
theorem ml_L_128 : Cond.methodLink RL 128 yX6_solve ∈ tw := tw_i 936 (by decide +kernel) (by decide +kernel)
theorem ml_L_136 : Cond.methodLink RL 136 yX6_points ∈ tw := tw_i 942 (by decide +kernel) (by decide +kernel)
theorem ml_X6_156 : Cond.methodLink RX6 156 yX6_fits ∈ tw := tw_i 946 (by decide +kernel) (by decide +kernel)
theorem ml_X6_160 : Cond.methodLink RX6 160 yX6_note ∈ tw := tw_i 950 (by decide +kernel) (by decide +kernel)
theorem ml_L_140 : Cond.methodLink RL 140 yX6_point ∈ tw := tw_i 954 (by decide +kernel) (by decide +kernel)
theorem ml_L_144 : Cond.methodLink RL 144 yX6_table ∈ tw := tw_i 958 (by decide +kernel) (by decide +kernel)
theorem ml_L_148 : Cond.methodLink RL 148 yX6_twice ∈ tw := tw_i 962 (by decide +kernel) (by decide +kernel)
theorem ml_L_152 : Cond.methodLink RL 152 yX6_swap ∈ tw := tw_i 966 (by decide +kernel) (by decide +kernel)
theorem ml_X6_164 : Cond.methodLink RX6 164 yX6_isRow ∈ tw := tw_i 970 (by decide +kernel) (by decide +kernel)
theorem ml_L_156 : Cond.methodLink RL 156 yX6_sign ∈ tw := tw_i 974 (by decide +kernel) (by decide +kernel)
theorem ml_L_160 : Cond.methodLink RL 160 yX6_product ∈ tw := tw_i 978 (by decide +kernel) (by decide +kernel)
theorem ml_L_164 : Cond.methodLink RL 164 yX6_look ∈ tw := tw_i 982 (by decide +kernel) (by decide +kernel)
theorem ml_L_168 : Cond.methodLink RL 168 yX6_fault ∈ tw := tw_i 986 (by decide +kernel) (by decide +kernel)
theorem mn_X5_227 : Cond.methodLinkNest RX5 227 yX1_start "HoleMask" ∈ nw := nw_i 221 (by decide +kernel) rfl
theorem mn_X5_60 : Cond.methodLinkNest RX5 60 yX3_take "HoleMask" ∈ nw := nw_i 235 (by decide +kernel) rfl
theorem mn_X5_70 : Cond.methodLinkNest RX5 70 yX3_write "HoleMask" ∈ nw := nw_i 244 (by decide +kernel) rfl
theorem mn_X5_93 : Cond.methodLinkNest RX5 93 yX1_isRow "HoleMask" ∈ nw := nw_i 256 (by decide +kernel) rfl
theorem mn_X5_80 : Cond.methodLinkNest RX5 80 yX3_read "HoleMask" ∈ nw := nw_i 259 (by decide +kernel) rfl
theorem mn_X5_99 : Cond.methodLinkNest RX5 99 yX1_fits "HoleMask" ∈ nw := nw_i 263 (by decide +kernel) rfl
theorem mn_X5_83 : Cond.methodLinkNest RX5 83 yX1_put "HoleMask" ∈ nw := nw_i 268 (by decide +kernel) rfl
theorem mn_X5_87 : Cond.methodLinkNest RX5 87 yX3_drop "HoleMask" ∈ nw := nw_i 272 (by decide +kernel) rfl
theorem mn_X5_96 : Cond.methodLinkNest RX5 96 yX1_has "HoleMask" ∈ nw := nw_i 284 (by decide +kernel) rfl
theorem mn_X5_116 : Cond.methodLinkNest RX5 116 yX1_tally "HoleMask" ∈ nw := nw_i 297 (by decide +kernel) rfl
theorem mn_X5_119 : Cond.methodLinkNest RX5 119 yX1_firstOff "HoleMask" ∈ nw := nw_i 301 (by decide +kernel) rfl
theorem mn_X5_129 : Cond.methodLinkNest RX5 129 yX1_shadowAt "HoleMask" ∈ nw := nw_i 321 (by decide +kernel) rfl
theorem mn_X5_132 : Cond.methodLinkNest RX5 132 yX1_meetsAt "HoleMask" ∈ nw := nw_i 333 (by decide +kernel) rfl
theorem mn_X5_135 : Cond.methodLinkNest RX5 135 yX1_turnMask "HoleMask" ∈ nw := nw_i 342 (by decide +kernel) rfl
theorem mn_X5_111 : Cond.methodLinkNest RX5 111 yX1_get "HoleMask" ∈ nw := nw_i 356 (by decide +kernel) rfl
theorem mn_X5_167 : Cond.methodLinkNest RX5 167 yX4_invert "HoleMask" ∈ nw := nw_i 422 (by decide +kernel) rfl
theorem mn_X4_58 : Cond.methodLinkNest RX4 58 yX1_share "HoleMask" ∈ nw := nw_i 437 (by decide +kernel) rfl
theorem mn_X4_61 : Cond.methodLinkNest RX4 61 yX5_quotient "HoleMask" ∈ nw := nw_i 453 (by decide +kernel) rfl
theorem mn_X4_69 : Cond.methodLinkNest RX4 69 yX5_commonDivisor "HoleMask" ∈ nw := nw_i 456 (by decide +kernel) rfl
theorem mn_X4_72 : Cond.methodLinkNest RX4 72 yX1_wrap "HoleMask" ∈ nw := nw_i 457 (by decide +kernel) rfl
theorem mn_X5_175 : Cond.methodLinkNest RX5 175 yX4_backAt "HoleMask" ∈ nw := nw_i 462 (by decide +kernel) rfl
theorem mn_X5_179 : Cond.methodLinkNest RX5 179 yX4_noisePart "HoleMask" ∈ nw := nw_i 470 (by decide +kernel) rfl
theorem mn_X5_183 : Cond.methodLinkNest RX5 183 yX4_reduce "HoleMask" ∈ nw := nw_i 478 (by decide +kernel) rfl
theorem mn_X5_187 : Cond.methodLinkNest RX5 187 yX4_showLost "HoleMask" ∈ nw := nw_i 483 (by decide +kernel) rfl
theorem mn_X4_76 : Cond.methodLinkNest RX4 76 yX1_put "HoleMask" ∈ nw := nw_i 487 (by decide +kernel) rfl
theorem mn_X5_191 : Cond.methodLinkNest RX5 191 yX4_showSolved "HoleMask" ∈ nw := nw_i 492 (by decide +kernel) rfl
theorem mn_X4_79 : Cond.methodLinkNest RX4 79 yX1_get "HoleMask" ∈ nw := nw_i 496 (by decide +kernel) rfl
theorem mn_X5_194 : Cond.methodLinkNest RX5 194 yX2_search "HoleMask" ∈ nw := nw_i 507 (by decide +kernel) rfl
theorem mn_X2_52 : Cond.methodLinkNest RX2 52 yX1_get "HoleMask" ∈ nw := nw_i 517 (by decide +kernel) rfl
theorem mn_X2_57 : Cond.methodLinkNest RX2 57 yX1_share "HoleMask" ∈ nw := nw_i 519 (by decide +kernel) rfl
theorem mn_X5_197 : Cond.methodLinkNest RX5 197 yX2_part "HoleMask" ∈ nw := nw_i 547 (by decide +kernel) rfl
theorem mn_X5_200 : Cond.methodLinkNest RX5 200 yX0_makeDoubled "HoleMask" ∈ nw := nw_i 555 (by decide +kernel) rfl
theorem mn_X5_203 : Cond.methodLinkNest RX5 203 yX0_makeByRests "HoleMask" ∈ nw := nw_i 560 (by decide +kernel) rfl
theorem mn_X0_23 : Cond.methodLinkNest RX0 23 yX5_isSquare "HoleMask" ∈ nw := nw_i 564 (by decide +kernel) rfl
theorem mn_X5_206 : Cond.methodLinkNest RX5 206 yX0_doubleUp "HoleMask" ∈ nw := nw_i 569 (by decide +kernel) rfl
theorem mn_X5_215 : Cond.methodLinkNest RX5 215 yX0_has "HoleMask" ∈ nw := nw_i 584 (by decide +kernel) rfl
theorem mn_X5_212 : Cond.methodLinkNest RX5 212 yX0_swapRows "HoleMask" ∈ nw := nw_i 588 (by decide +kernel) rfl
theorem mn_X5_216 : Cond.methodLinkNest RX5 216 yX0_signAt "HoleMask" ∈ nw := nw_i 596 (by decide +kernel) rfl
theorem mn_X5_219 : Cond.methodLinkNest RX5 219 yX0_rowProduct "HoleMask" ∈ nw := nw_i 604 (by decide +kernel) rfl
theorem kc_X5_103 : Cond.constant RX5 103 (1073741824) ∈ tw := tw_i 292 (by decide +kernel) (by decide +kernel)
theorem kc_J6_265 : Cond.constant RJ6 265 (1431655765) ∈ tw := tw_i 410 (by decide +kernel) (by decide +kernel)
theorem kc_J6_266 : Cond.constant RJ6 266 (858993459) ∈ tw := tw_i 411 (by decide +kernel) (by decide +kernel)
theorem kc_J6_267 : Cond.constant RJ6 267 (252645135) ∈ tw := tw_i 412 (by decide +kernel) (by decide +kernel)
theorem kc_X2_50 : Cond.constant RX2 50 (-2000000) ∈ tw := tw_i 515 (by decide +kernel) (by decide +kernel)
theorem kc_X2_51 : Cond.constant RX2 51 (2000000) ∈ tw := tw_i 516 (by decide +kernel) (by decide +kernel)
theorem kc_X2_56 : Cond.constant RX2 56 (1073741824) ∈ tw := tw_i 518 (by decide +kernel) (by decide +kernel)
theorem kc_X6_86 : Cond.constant RX6 86 (1000000) ∈ tw := tw_i 802 (by decide +kernel) (by decide +kernel)
theorem kl_X5_165 : Cond.constantLong RX5 165 (-1) ∈ tw := tw_i 421 (by decide +kernel) (by decide +kernel)
theorem kl_X4_82 : Cond.constantLong RX4 82 (-1000) ∈ tw := tw_i 497 (by decide +kernel) (by decide +kernel)
theorem kl_X4_84 : Cond.constantLong RX4 84 (1000) ∈ tw := tw_i 498 (by decide +kernel) (by decide +kernel)
theorem kl_X6_152 : Cond.constantLong RX6 152 (-1000) ∈ tw := tw_i 940 (by decide +kernel) (by decide +kernel)
theorem kl_X6_154 : Cond.constantLong RX6 154 (1000) ∈ tw := tw_i 941 (by decide +kernel) (by decide +kernel)
theorem ly_X0_0 : u_lay RX0 TX0 0 ∈ tw := tw_i 185 (by decide +kernel) (by decide +kernel)
theorem ly_X0_1 : u_lay RX0 TX0 1 ∈ tw := tw_i 187 (by decide +kernel) (by decide +kernel)
theorem in_X0 : ∀ w ∈ u_ws RX0 TX0 2, w ∈ tw := by
  intro w hw
  obtain ⟨k, hk, rfl⟩ := List.mem_map.mp hw
  have hk := List.mem_range.mp hk
  match k, hk with
  | 0, _ => exact ly_X0_0
  | 1, _ => exact ly_X0_1
  | k + 2, hk => exact absurd hk (by omega)
theorem isF_5 : isF 5 0 (fun ad a b => (match cellOf ad (fun _ => 0) 5 a b with | .inr q => q.2 | .inl _ => [])) := ⟨by decide, fun _ _ _ _ => rfl⟩
theorem isO_5 : isO 5 RX0 := ⟨0, _, _, isF_5, rfl, rfl⟩
theorem ly_X1_0 : u_lay RX1 TX1 0 ∈ tw := tw_i 103 (by decide +kernel) (by decide +kernel)
theorem ly_X1_1 : u_lay RX1 TX1 1 ∈ tw := tw_i 105 (by decide +kernel) (by decide +kernel)
theorem ly_X1_2 : u_lay RX1 TX1 2 ∈ tw := tw_i 107 (by decide +kernel) (by decide +kernel)
theorem in_X1 : ∀ w ∈ u_ws RX1 TX1 3, w ∈ tw := by
  intro w hw
  obtain ⟨k, hk, rfl⟩ := List.mem_map.mp hw
  have hk := List.mem_range.mp hk
  match k, hk with
  | 0, _ => exact ly_X1_0
  | 1, _ => exact ly_X1_1
  | 2, _ => exact ly_X1_2
  | k + 3, hk => exact absurd hk (by omega)
theorem isF_1 : isF 1 1 (fun ad a b => (match cellOf ad (fun _ => 0) 1 a b with | .inr q => q.2 | .inl _ => [])) := ⟨by decide, fun _ _ _ _ => rfl⟩
theorem isO_1 : isO 1 RX1 := ⟨1, _, _, isF_1, rfl, rfl⟩
theorem ly_X2_0 : u_lay RX2 TX2 0 ∈ tw := tw_i 167 (by decide +kernel) (by decide +kernel)
theorem ly_X2_1 : u_lay RX2 TX2 1 ∈ tw := tw_i 169 (by decide +kernel) (by decide +kernel)
theorem ly_X2_2 : u_lay RX2 TX2 2 ∈ tw := tw_i 171 (by decide +kernel) (by decide +kernel)
theorem ly_X2_3 : u_lay RX2 TX2 3 ∈ tw := tw_i 173 (by decide +kernel) (by decide +kernel)
theorem in_X2 : ∀ w ∈ u_ws RX2 TX2 4, w ∈ tw := by
  intro w hw
  obtain ⟨k, hk, rfl⟩ := List.mem_map.mp hw
  have hk := List.mem_range.mp hk
  match k, hk with
  | 0, _ => exact ly_X2_0
  | 1, _ => exact ly_X2_1
  | 2, _ => exact ly_X2_2
  | 3, _ => exact ly_X2_3
  | k + 4, hk => exact absurd hk (by omega)
theorem isF_4 : isF 4 2 (fun ad a b => (match cellOf ad (fun _ => 0) 4 a b with | .inr q => q.2 | .inl _ => [])) := ⟨by decide, fun _ _ _ _ => rfl⟩
theorem isO_4 : isO 4 RX2 := ⟨2, _, _, isF_4, rfl, rfl⟩
theorem ly_X3_0 : u_lay RX3 TX3 0 ∈ tw := tw_i 122 (by decide +kernel) (by decide +kernel)
theorem ly_X3_1 : u_lay RX3 TX3 1 ∈ tw := tw_i 124 (by decide +kernel) (by decide +kernel)
theorem ly_X3_2 : u_lay RX3 TX3 2 ∈ tw := tw_i 126 (by decide +kernel) (by decide +kernel)
theorem in_X3 : ∀ w ∈ u_ws RX3 TX3 3, w ∈ tw := by
  intro w hw
  obtain ⟨k, hk, rfl⟩ := List.mem_map.mp hw
  have hk := List.mem_range.mp hk
  match k, hk with
  | 0, _ => exact ly_X3_0
  | 1, _ => exact ly_X3_1
  | 2, _ => exact ly_X3_2
  | k + 3, hk => exact absurd hk (by omega)
theorem isF_2 : isF 2 3 (fun ad a b => (match cellOf ad (fun _ => 0) 2 a b with | .inr q => q.2 | .inl _ => [])) := ⟨by decide, fun _ _ _ _ => rfl⟩
theorem isO_2 : isO 2 RX3 := ⟨3, _, _, isF_2, rfl, rfl⟩
theorem ly_X4_0 : u_lay RX4 TX4 0 ∈ tw := tw_i 144 (by decide +kernel) (by decide +kernel)
theorem ly_X4_1 : u_lay RX4 TX4 1 ∈ tw := tw_i 146 (by decide +kernel) (by decide +kernel)
theorem ly_X4_2 : u_lay RX4 TX4 2 ∈ tw := tw_i 148 (by decide +kernel) (by decide +kernel)
theorem ly_X4_3 : u_lay RX4 TX4 3 ∈ tw := tw_i 150 (by decide +kernel) (by decide +kernel)
theorem ly_X4_4 : u_lay RX4 TX4 4 ∈ tw := tw_i 152 (by decide +kernel) (by decide +kernel)
theorem in_X4 : ∀ w ∈ u_ws RX4 TX4 5, w ∈ tw := by
  intro w hw
  obtain ⟨k, hk, rfl⟩ := List.mem_map.mp hw
  have hk := List.mem_range.mp hk
  match k, hk with
  | 0, _ => exact ly_X4_0
  | 1, _ => exact ly_X4_1
  | 2, _ => exact ly_X4_2
  | 3, _ => exact ly_X4_3
  | 4, _ => exact ly_X4_4
  | k + 5, hk => exact absurd hk (by omega)
theorem isF_3 : isF 3 4 (fun ad a b => (match cellOf ad (fun _ => 0) 3 a b with | .inr q => q.2 | .inl _ => [])) := ⟨by decide, fun _ _ _ _ => rfl⟩
theorem isO_3 : isO 3 RX4 := ⟨4, _, _, isF_3, rfl, rfl⟩
theorem ly_X5_0 : u_lay RX5 TX5 0 ∈ tw := tw_i 196 (by decide +kernel) (by decide +kernel)
theorem ly_X5_1 : u_lay RX5 TX5 1 ∈ tw := tw_i 198 (by decide +kernel) (by decide +kernel)
theorem ly_X5_2 : u_lay RX5 TX5 2 ∈ tw := tw_i 200 (by decide +kernel) (by decide +kernel)
theorem ly_X5_3 : u_lay RX5 TX5 3 ∈ tw := tw_i 202 (by decide +kernel) (by decide +kernel)
theorem ly_X5_4 : u_lay RX5 TX5 4 ∈ tw := tw_i 204 (by decide +kernel) (by decide +kernel)
theorem ly_X5_5 : u_lay RX5 TX5 5 ∈ tw := tw_i 206 (by decide +kernel) (by decide +kernel)
theorem in_X5 : ∀ w ∈ u_ws RX5 TX5 6, w ∈ tw := by
  intro w hw
  obtain ⟨k, hk, rfl⟩ := List.mem_map.mp hw
  have hk := List.mem_range.mp hk
  match k, hk with
  | 0, _ => exact ly_X5_0
  | 1, _ => exact ly_X5_1
  | 2, _ => exact ly_X5_2
  | 3, _ => exact ly_X5_3
  | 4, _ => exact ly_X5_4
  | 5, _ => exact ly_X5_5
  | k + 6, hk => exact absurd hk (by omega)
theorem isF_0 : isF 0 5 (fun ad a b => (match cellOf ad (fun _ => 0) 0 a b with | .inr q => q.2 | .inl _ => [])) := ⟨by decide, fun _ _ _ _ => rfl⟩
theorem isO_0 : isO 0 RX5 := ⟨5, _, _, isF_0, rfl, rfl⟩
theorem ly_X6_0 : u_lay RX6 TX6 0 ∈ tw := tw_i 719 (by decide +kernel) (by decide +kernel)
theorem ly_X6_1 : u_lay RX6 TX6 1 ∈ tw := tw_i 721 (by decide +kernel) (by decide +kernel)
theorem ly_X6_2 : u_lay RX6 TX6 2 ∈ tw := tw_i 723 (by decide +kernel) (by decide +kernel)
theorem ly_X6_3 : u_lay RX6 TX6 3 ∈ tw := tw_i 725 (by decide +kernel) (by decide +kernel)
theorem ly_X6_4 : u_lay RX6 TX6 4 ∈ tw := tw_i 727 (by decide +kernel) (by decide +kernel)
theorem ly_X6_5 : u_lay RX6 TX6 5 ∈ tw := tw_i 729 (by decide +kernel) (by decide +kernel)
theorem ly_X6_6 : u_lay RX6 TX6 6 ∈ tw := tw_i 731 (by decide +kernel) (by decide +kernel)
theorem ly_X6_7 : u_lay RX6 TX6 7 ∈ tw := tw_i 733 (by decide +kernel) (by decide +kernel)
theorem ly_X6_8 : u_lay RX6 TX6 8 ∈ tw := tw_i 735 (by decide +kernel) (by decide +kernel)
theorem ly_X6_9 : u_lay RX6 TX6 9 ∈ tw := tw_i 737 (by decide +kernel) (by decide +kernel)
theorem ly_X6_10 : u_lay RX6 TX6 10 ∈ tw := tw_i 739 (by decide +kernel) (by decide +kernel)
theorem ly_X6_11 : u_lay RX6 TX6 11 ∈ tw := tw_i 741 (by decide +kernel) (by decide +kernel)
theorem ly_X6_12 : u_lay RX6 TX6 12 ∈ tw := tw_i 743 (by decide +kernel) (by decide +kernel)
theorem ly_X6_13 : u_lay RX6 TX6 13 ∈ tw := tw_i 745 (by decide +kernel) (by decide +kernel)
theorem ly_X6_14 : u_lay RX6 TX6 14 ∈ tw := tw_i 747 (by decide +kernel) (by decide +kernel)
theorem ly_X6_15 : u_lay RX6 TX6 15 ∈ tw := tw_i 749 (by decide +kernel) (by decide +kernel)
theorem ly_X6_16 : u_lay RX6 TX6 16 ∈ tw := tw_i 751 (by decide +kernel) (by decide +kernel)
theorem ly_X6_17 : u_lay RX6 TX6 17 ∈ tw := tw_i 753 (by decide +kernel) (by decide +kernel)
theorem ly_X6_18 : u_lay RX6 TX6 18 ∈ tw := tw_i 755 (by decide +kernel) (by decide +kernel)
theorem ly_X6_19 : u_lay RX6 TX6 19 ∈ tw := tw_i 757 (by decide +kernel) (by decide +kernel)
theorem ly_X6_20 : u_lay RX6 TX6 20 ∈ tw := tw_i 759 (by decide +kernel) (by decide +kernel)
theorem in_X6 : ∀ w ∈ u_ws RX6 TX6 21, w ∈ tw := by
  intro w hw
  obtain ⟨k, hk, rfl⟩ := List.mem_map.mp hw
  have hk := List.mem_range.mp hk
  match k, hk with
  | 0, _ => exact ly_X6_0
  | 1, _ => exact ly_X6_1
  | 2, _ => exact ly_X6_2
  | 3, _ => exact ly_X6_3
  | 4, _ => exact ly_X6_4
  | 5, _ => exact ly_X6_5
  | 6, _ => exact ly_X6_6
  | 7, _ => exact ly_X6_7
  | 8, _ => exact ly_X6_8
  | 9, _ => exact ly_X6_9
  | 10, _ => exact ly_X6_10
  | 11, _ => exact ly_X6_11
  | 12, _ => exact ly_X6_12
  | 13, _ => exact ly_X6_13
  | 14, _ => exact ly_X6_14
  | 15, _ => exact ly_X6_15
  | 16, _ => exact ly_X6_16
  | 17, _ => exact ly_X6_17
  | 18, _ => exact ly_X6_18
  | 19, _ => exact ly_X6_19
  | 20, _ => exact ly_X6_20
  | k + 21, hk => exact absurd hk (by omega)
theorem isF_33 : isF 33 6 (fun ad a b => (match cellOf ad (fun _ => 0) 33 a b with | .inr q => q.2 | .inl _ => [])) := ⟨by decide, fun _ _ _ _ => rfl⟩
theorem isO_33 : isO 33 RX6 := ⟨6, _, _, isF_33, rfl, rfl⟩
section
variable {M : Mb} {rm : Room} {R : Option Value × Mm} {μ : Mm} {pc : Nat} {lo : List (Option Value)} {st : List Value}
theorem fl_X1_11 : Cond.fieldLink RX1 11 (TX1 0).1 (TX1 0).2.1 (TX1 0).2.2.1 ∈ tw := tw_i 97 (by decide +kernel) (by decide +kernel)
theorem gf_X1_11 (ho : M.1.cls = RX1) (d : decode M.2.1 pc = .ok (.getfield 11, 3)) (kk : G M rm R μ (pc + 3) lo (.ref 6 :: st)) : G M rm R μ pc lo (.ref 1 :: st) := g_getf (f := 0) ho isF_1 rfl in_X1 (by decide) fl_X1_11 (fun _ => rfl) d kk
theorem fl_X1_16 : Cond.fieldLink RX1 16 (TX1 1).1 (TX1 1).2.1 (TX1 1).2.2.1 ∈ tw := tw_i 98 (by decide +kernel) (by decide +kernel)
theorem gf_X1_16 (ho : M.1.cls = RX1) (d : decode M.2.1 pc = .ok (.getfield 16, 3)) (kk : G M rm R μ (pc + 3) lo (.ref 10 :: st)) : G M rm R μ pc lo (.ref 1 :: st) := g_getf (f := 1) ho isF_1 rfl in_X1 (by decide) fl_X1_16 (fun _ => rfl) d kk
theorem fl_X1_20 : Cond.fieldLink RX1 20 (TX1 2).1 (TX1 2).2.1 (TX1 2).2.2.1 ∈ tw := tw_i 99 (by decide +kernel) (by decide +kernel)
theorem gf_X1_20 (ho : M.1.cls = RX1) (d : decode M.2.1 pc = .ok (.getfield 20, 3)) (kk : G M rm R μ (pc + 3) lo (.int (μ.1 1 2) :: st)) : G M rm R μ pc lo (.ref 1 :: st) := g_getf (f := 2) ho isF_1 rfl in_X1 (by decide) fl_X1_20 (fun _ => rfl) d kk
theorem gp_X1_20 {x : Int32} (ho : M.1.cls = RX1) (d : decode M.2.1 pc = .ok (.putfield 20, 3)) (kk : G M rm R (sI μ 1 2 x) (pc + 3) lo st) : G M rm R μ pc lo (.int x :: .ref 1 :: st) := g_putf (f := 2) (ty0 := tyX1) ho isF_1 rfl in_X1 tyX1_ok nmX1 (by decide) fl_X1_20 rfl rfl rfl (fun _ => rfl) (fun _ _ _ => Nat.le_of_ble_eq_true rfl) sI_off (fun _ => rfl) d kk
theorem fl_X3_9 : Cond.fieldLink RX3 9 (TX3 0).1 (TX3 0).2.1 (TX3 0).2.2.1 ∈ tw := tw_i 117 (by decide +kernel) (by decide +kernel)
theorem gf_X3_9 (ho : M.1.cls = RX3) (d : decode M.2.1 pc = .ok (.getfield 9, 3)) (kk : G M rm R μ (pc + 3) lo (.ref 11 :: st)) : G M rm R μ pc lo (.ref 2 :: st) := g_getf (f := 0) ho isF_2 rfl in_X3 (by decide) fl_X3_9 (fun _ => rfl) d kk
theorem fl_X3_15 : Cond.fieldLink RX3 15 (TX3 1).1 (TX3 1).2.1 (TX3 1).2.2.1 ∈ tw := tw_i 118 (by decide +kernel) (by decide +kernel)
theorem gf_X3_15 (ho : M.1.cls = RX3) (d : decode M.2.1 pc = .ok (.getfield 15, 3)) (kk : G M rm R μ (pc + 3) lo (.int (μ.1 2 1) :: st)) : G M rm R μ pc lo (.ref 2 :: st) := g_getf (f := 1) ho isF_2 rfl in_X3 (by decide) fl_X3_15 (fun _ => rfl) d kk
theorem gp_X3_15 {x : Int32} (ho : M.1.cls = RX3) (d : decode M.2.1 pc = .ok (.putfield 15, 3)) (kk : G M rm R (sI μ 2 1 x) (pc + 3) lo st) : G M rm R μ pc lo (.int x :: .ref 2 :: st) := g_putf (f := 1) (ty0 := tyX3) ho isF_2 rfl in_X3 tyX3_ok nmX3 (by decide) fl_X3_15 rfl rfl rfl (fun _ => rfl) (fun _ _ _ => Nat.le_of_ble_eq_true rfl) sI_off (fun _ => rfl) d kk
theorem fl_X3_19 : Cond.fieldLink RX3 19 (TX3 2).1 (TX3 2).2.1 (TX3 2).2.2.1 ∈ tw := tw_i 120 (by decide +kernel) (by decide +kernel)
theorem gf_X3_19 (ho : M.1.cls = RX3) (d : decode M.2.1 pc = .ok (.getfield 19, 3)) (kk : G M rm R μ (pc + 3) lo (.int (μ.1 2 2) :: st)) : G M rm R μ pc lo (.ref 2 :: st) := g_getf (f := 2) ho isF_2 rfl in_X3 (by decide) fl_X3_19 (fun _ => rfl) d kk
theorem gp_X3_19 {x : Int32} (ho : M.1.cls = RX3) (d : decode M.2.1 pc = .ok (.putfield 19, 3)) (kk : G M rm R (sI μ 2 2 x) (pc + 3) lo st) : G M rm R μ pc lo (.int x :: .ref 2 :: st) := g_putf (f := 2) (ty0 := tyX3) ho isF_2 rfl in_X3 tyX3_ok nmX3 (by decide) fl_X3_19 rfl rfl rfl (fun _ => rfl) (fun _ _ _ => Nat.le_of_ble_eq_true rfl) sI_off (fun _ => rfl) d kk
theorem fl_X4_13 : Cond.fieldLink RX4 13 (TX4 0).1 (TX4 0).2.1 (TX4 0).2.2.1 ∈ tw := tw_i 137 (by decide +kernel) (by decide +kernel)
theorem gf_X4_13 (ho : M.1.cls = RX4) (d : decode M.2.1 pc = .ok (.getfield 13, 3)) (kk : G M rm R μ (pc + 3) lo (.ref 12 :: st)) : G M rm R μ pc lo (.ref 3 :: st) := g_getf (f := 0) ho isF_3 rfl in_X4 (by decide) fl_X4_13 (fun _ => rfl) d kk
theorem fl_X4_16 : Cond.fieldLink RX4 16 (TX4 1).1 (TX4 1).2.1 (TX4 1).2.2.1 ∈ tw := tw_i 138 (by decide +kernel) (by decide +kernel)
theorem gf_X4_16 (ho : M.1.cls = RX4) (d : decode M.2.1 pc = .ok (.getfield 16, 3)) (kk : G M rm R μ (pc + 3) lo (.ref 27 :: st)) : G M rm R μ pc lo (.ref 3 :: st) := g_getf (f := 1) ho isF_3 rfl in_X4 (by decide) fl_X4_16 (fun _ => rfl) d kk
theorem fl_X4_20 : Cond.fieldLink RX4 20 (TX4 2).1 (TX4 2).2.1 (TX4 2).2.2.1 ∈ tw := tw_i 139 (by decide +kernel) (by decide +kernel)
theorem gf_X4_20 (ho : M.1.cls = RX4) (d : decode M.2.1 pc = .ok (.getfield 20, 3)) (kk : G M rm R μ (pc + 3) lo (.ref 28 :: st)) : G M rm R μ pc lo (.ref 3 :: st) := g_getf (f := 2) ho isF_3 rfl in_X4 (by decide) fl_X4_20 (fun _ => rfl) d kk
theorem fl_X4_23 : Cond.fieldLink RX4 23 (TX4 3).1 (TX4 3).2.1 (TX4 3).2.2.1 ∈ tw := tw_i 140 (by decide +kernel) (by decide +kernel)
theorem gf_X4_23 (ho : M.1.cls = RX4) (d : decode M.2.1 pc = .ok (.getfield 23, 3)) (kk : G M rm R μ (pc + 3) lo (.long (μ.2 3 3) :: st)) : G M rm R μ pc lo (.ref 3 :: st) := g_getf (f := 3) ho isF_3 rfl in_X4 (by decide) fl_X4_23 (fun _ => rfl) d kk
theorem gp_X4_23 {x : Int64} (ho : M.1.cls = RX4) (d : decode M.2.1 pc = .ok (.putfield 23, 3)) (kk : G M rm R (sL μ 3 3 x) (pc + 3) lo st) : G M rm R μ pc lo (.long x :: .ref 3 :: st) := g_putf (f := 3) (ty0 := tyX4) ho isF_3 rfl in_X4 tyX4_ok nmX4 (by decide) fl_X4_23 rfl rfl rfl (fun _ => rfl) (fun _ _ _ => Nat.le_of_ble_eq_true rfl) sL_off (fun _ => rfl) d kk
theorem fl_X4_27 : Cond.fieldLink RX4 27 (TX4 4).1 (TX4 4).2.1 (TX4 4).2.2.1 ∈ tw := tw_i 142 (by decide +kernel) (by decide +kernel)
theorem gf_X4_27 (ho : M.1.cls = RX4) (d : decode M.2.1 pc = .ok (.getfield 27, 3)) (kk : G M rm R μ (pc + 3) lo (.int (μ.1 3 4) :: st)) : G M rm R μ pc lo (.ref 3 :: st) := g_getf (f := 4) ho isF_3 rfl in_X4 (by decide) fl_X4_27 (fun _ => rfl) d kk
theorem gp_X4_27 {x : Int32} (hb : narrow .boolean (.int x) = .int x) (hb2 : fits .boolean (.int x) = true) (ho : M.1.cls = RX4) (d : decode M.2.1 pc = .ok (.putfield 27, 3)) (kk : G M rm R (sI μ 3 4 x) (pc + 3) lo st) : G M rm R μ pc lo (.int x :: .ref 3 :: st) := g_putf (f := 4) (ty0 := tyX4) ho isF_3 rfl in_X4 tyX4_ok nmX4 (by decide) fl_X4_27 rfl hb hb2 (fun _ => rfl) (fun _ _ _ => Nat.le_of_ble_eq_true rfl) sI_off (fun _ => rfl) d kk
theorem fl_X2_11 : Cond.fieldLink RX2 11 (TX2 0).1 (TX2 0).2.1 (TX2 0).2.2.1 ∈ tw := tw_i 162 (by decide +kernel) (by decide +kernel)
theorem gf_X2_11 (ho : M.1.cls = RX2) (d : decode M.2.1 pc = .ok (.getfield 11, 3)) (kk : G M rm R μ (pc + 3) lo (.ref 29 :: st)) : G M rm R μ pc lo (.ref 4 :: st) := g_getf (f := 0) ho isF_4 rfl in_X2 (by decide) fl_X2_11 (fun _ => rfl) d kk
theorem fl_X2_15 : Cond.fieldLink RX2 15 (TX2 1).1 (TX2 1).2.1 (TX2 1).2.2.1 ∈ tw := tw_i 163 (by decide +kernel) (by decide +kernel)
theorem gf_X2_15 (ho : M.1.cls = RX2) (d : decode M.2.1 pc = .ok (.getfield 15, 3)) (kk : G M rm R μ (pc + 3) lo (.ref 30 :: st)) : G M rm R μ pc lo (.ref 4 :: st) := g_getf (f := 1) ho isF_4 rfl in_X2 (by decide) fl_X2_15 (fun _ => rfl) d kk
theorem fl_X2_18 : Cond.fieldLink RX2 18 (TX2 2).1 (TX2 2).2.1 (TX2 2).2.2.1 ∈ tw := tw_i 164 (by decide +kernel) (by decide +kernel)
theorem gf_X2_18 (ho : M.1.cls = RX2) (d : decode M.2.1 pc = .ok (.getfield 18, 3)) (kk : G M rm R μ (pc + 3) lo (.ref 31 :: st)) : G M rm R μ pc lo (.ref 4 :: st) := g_getf (f := 2) ho isF_4 rfl in_X2 (by decide) fl_X2_18 (fun _ => rfl) d kk
theorem fl_X2_21 : Cond.fieldLink RX2 21 (TX2 3).1 (TX2 3).2.1 (TX2 3).2.2.1 ∈ tw := tw_i 165 (by decide +kernel) (by decide +kernel)
theorem gf_X2_21 (ho : M.1.cls = RX2) (d : decode M.2.1 pc = .ok (.getfield 21, 3)) (kk : G M rm R μ (pc + 3) lo (.int (μ.1 4 3) :: st)) : G M rm R μ pc lo (.ref 4 :: st) := g_getf (f := 3) ho isF_4 rfl in_X2 (by decide) fl_X2_21 (fun _ => rfl) d kk
theorem gp_X2_21 {x : Int32} (ho : M.1.cls = RX2) (d : decode M.2.1 pc = .ok (.putfield 21, 3)) (kk : G M rm R (sI μ 4 3 x) (pc + 3) lo st) : G M rm R μ pc lo (.int x :: .ref 4 :: st) := g_putf (f := 3) (ty0 := tyX2) ho isF_4 rfl in_X2 tyX2_ok nmX2 (by decide) fl_X2_21 rfl rfl rfl (fun _ => rfl) (fun _ _ _ => Nat.le_of_ble_eq_true rfl) sI_off (fun _ => rfl) d kk
theorem fl_X0_9 : Cond.fieldLink RX0 9 (TX0 0).1 (TX0 0).2.1 (TX0 0).2.2.1 ∈ tw := tw_i 182 (by decide +kernel) (by decide +kernel)
theorem gf_X0_9 (ho : M.1.cls = RX0) (d : decode M.2.1 pc = .ok (.getfield 9, 3)) (kk : G M rm R μ (pc + 3) lo (.ref 32 :: st)) : G M rm R μ pc lo (.ref 5 :: st) := g_getf (f := 0) ho isF_5 rfl in_X0 (by decide) fl_X0_9 (fun _ => rfl) d kk
theorem fl_X0_13 : Cond.fieldLink RX0 13 (TX0 1).1 (TX0 1).2.1 (TX0 1).2.2.1 ∈ tw := tw_i 183 (by decide +kernel) (by decide +kernel)
theorem gf_X0_13 (ho : M.1.cls = RX0) (d : decode M.2.1 pc = .ok (.getfield 13, 3)) (kk : G M rm R μ (pc + 3) lo (.int (μ.1 5 1) :: st)) : G M rm R μ pc lo (.ref 5 :: st) := g_getf (f := 1) ho isF_5 rfl in_X0 (by decide) fl_X0_13 (fun _ => rfl) d kk
theorem gp_X0_13 {x : Int32} (ho : M.1.cls = RX0) (d : decode M.2.1 pc = .ok (.putfield 13, 3)) (kk : G M rm R (sI μ 5 1 x) (pc + 3) lo st) : G M rm R μ pc lo (.int x :: .ref 5 :: st) := g_putf (f := 1) (ty0 := tyX0) ho isF_5 rfl in_X0 tyX0_ok nmX0 (by decide) fl_X0_13 rfl rfl rfl (fun _ => rfl) (fun _ _ _ => Nat.le_of_ble_eq_true rfl) sI_off (fun _ => rfl) d kk
theorem fl_X5_10 : Cond.fieldLink RX5 10 (TX5 0).1 (TX5 0).2.1 (TX5 0).2.2.1 ∈ tw := tw_i 190 (by decide +kernel) (by decide +kernel)
theorem gf_X5_10 (ho : M.1.cls = RX5) (d : decode M.2.1 pc = .ok (.getfield 10, 3)) (kk : G M rm R μ (pc + 3) lo (.ref 1 :: st)) : G M rm R μ pc lo (.ref 0 :: st) := g_getf (f := 0) ho isF_0 rfl in_X5 (by decide) fl_X5_10 (fun _ => rfl) d kk
theorem fl_X5_19 : Cond.fieldLink RX5 19 (TX5 1).1 (TX5 1).2.1 (TX5 1).2.2.1 ∈ tw := tw_i 191 (by decide +kernel) (by decide +kernel)
theorem gf_X5_19 (ho : M.1.cls = RX5) (d : decode M.2.1 pc = .ok (.getfield 19, 3)) (kk : G M rm R μ (pc + 3) lo (.ref 2 :: st)) : G M rm R μ pc lo (.ref 0 :: st) := g_getf (f := 1) ho isF_0 rfl in_X5 (by decide) fl_X5_19 (fun _ => rfl) d kk
theorem fl_X5_26 : Cond.fieldLink RX5 26 (TX5 2).1 (TX5 2).2.1 (TX5 2).2.2.1 ∈ tw := tw_i 192 (by decide +kernel) (by decide +kernel)
theorem gf_X5_26 (ho : M.1.cls = RX5) (d : decode M.2.1 pc = .ok (.getfield 26, 3)) (kk : G M rm R μ (pc + 3) lo (.ref 3 :: st)) : G M rm R μ pc lo (.ref 0 :: st) := g_getf (f := 2) ho isF_0 rfl in_X5 (by decide) fl_X5_26 (fun _ => rfl) d kk
theorem fl_X5_33 : Cond.fieldLink RX5 33 (TX5 3).1 (TX5 3).2.1 (TX5 3).2.2.1 ∈ tw := tw_i 193 (by decide +kernel) (by decide +kernel)
theorem gf_X5_33 (ho : M.1.cls = RX5) (d : decode M.2.1 pc = .ok (.getfield 33, 3)) (kk : G M rm R μ (pc + 3) lo (.ref 4 :: st)) : G M rm R μ pc lo (.ref 0 :: st) := g_getf (f := 3) ho isF_0 rfl in_X5 (by decide) fl_X5_33 (fun _ => rfl) d kk
theorem fl_X5_40 : Cond.fieldLink RX5 40 (TX5 4).1 (TX5 4).2.1 (TX5 4).2.2.1 ∈ tw := tw_i 194 (by decide +kernel) (by decide +kernel)
theorem gf_X5_40 (ho : M.1.cls = RX5) (d : decode M.2.1 pc = .ok (.getfield 40, 3)) (kk : G M rm R μ (pc + 3) lo (.ref 5 :: st)) : G M rm R μ pc lo (.ref 0 :: st) := g_getf (f := 4) ho isF_0 rfl in_X5 (by decide) fl_X5_40 (fun _ => rfl) d kk
theorem fl_X5_44 : Cond.fieldLink RX5 44 (TX5 5).1 (TX5 5).2.1 (TX5 5).2.2.1 ∈ tw := tw_i 195 (by decide +kernel) (by decide +kernel)
theorem gf_X5_44 (ho : M.1.cls = RX5) (d : decode M.2.1 pc = .ok (.getfield 44, 3)) (kk : G M rm R μ (pc + 3) lo (.int (μ.1 0 5) :: st)) : G M rm R μ pc lo (.ref 0 :: st) := g_getf (f := 5) ho isF_0 rfl in_X5 (by decide) fl_X5_44 (fun _ => rfl) d kk
theorem gp_X5_44 {x : Int32} (ho : M.1.cls = RX5) (d : decode M.2.1 pc = .ok (.putfield 44, 3)) (kk : G M rm R (sI μ 0 5 x) (pc + 3) lo st) : G M rm R μ pc lo (.int x :: .ref 0 :: st) := g_putf (f := 5) (ty0 := tyX5) ho isF_0 rfl in_X5 tyX5_ok nmX5 (by decide) fl_X5_44 rfl rfl rfl (fun _ => rfl) (fun _ _ _ => Nat.le_of_ble_eq_true rfl) sI_off (fun _ => rfl) d kk
theorem fl_X6_7 : Cond.fieldLink RX6 7 (TX6 0).1 (TX6 0).2.1 (TX6 0).2.2.1 ∈ tw := tw_i 698 (by decide +kernel) (by decide +kernel)
theorem gf_X6_7 (ho : M.1.cls = RX6) (d : decode M.2.1 pc = .ok (.getfield 7, 3)) (kk : G M rm R μ (pc + 3) lo (.int (μ.1 33 0) :: st)) : G M rm R μ pc lo (.ref 33 :: st) := g_getf (f := 0) ho isF_33 rfl in_X6 (by decide) fl_X6_7 (fun _ => rfl) d kk
theorem gp_X6_7 {x : Int32} (ho : M.1.cls = RX6) (d : decode M.2.1 pc = .ok (.putfield 7, 3)) (kk : G M rm R (sI μ 33 0 x) (pc + 3) lo st) : G M rm R μ pc lo (.int x :: .ref 33 :: st) := g_putf (f := 0) (ty0 := tyX6) ho isF_33 rfl in_X6 tyX6_ok nmX6 (by decide) fl_X6_7 rfl rfl rfl (fun _ => rfl) (fun _ _ _ => Nat.le_of_ble_eq_true rfl) sI_off (fun _ => rfl) d kk
theorem fl_X6_13 : Cond.fieldLink RX6 13 (TX6 1).1 (TX6 1).2.1 (TX6 1).2.2.1 ∈ tw := tw_i 699 (by decide +kernel) (by decide +kernel)
theorem gf_X6_13 (ho : M.1.cls = RX6) (d : decode M.2.1 pc = .ok (.getfield 13, 3)) (kk : G M rm R μ (pc + 3) lo (.ref 34 :: st)) : G M rm R μ pc lo (.ref 33 :: st) := g_getf (f := 1) ho isF_33 rfl in_X6 (by decide) fl_X6_13 (fun _ => rfl) d kk
theorem fl_X6_17 : Cond.fieldLink RX6 17 (TX6 2).1 (TX6 2).2.1 (TX6 2).2.2.1 ∈ tw := tw_i 700 (by decide +kernel) (by decide +kernel)
theorem gf_X6_17 (ho : M.1.cls = RX6) (d : decode M.2.1 pc = .ok (.getfield 17, 3)) (kk : G M rm R μ (pc + 3) lo (.ref 35 :: st)) : G M rm R μ pc lo (.ref 33 :: st) := g_getf (f := 2) ho isF_33 rfl in_X6 (by decide) fl_X6_17 (fun _ => rfl) d kk
theorem fl_X6_20 : Cond.fieldLink RX6 20 (TX6 3).1 (TX6 3).2.1 (TX6 3).2.2.1 ∈ tw := tw_i 701 (by decide +kernel) (by decide +kernel)
theorem gf_X6_20 (ho : M.1.cls = RX6) (d : decode M.2.1 pc = .ok (.getfield 20, 3)) (kk : G M rm R μ (pc + 3) lo (.ref 36 :: st)) : G M rm R μ pc lo (.ref 33 :: st) := g_getf (f := 3) ho isF_33 rfl in_X6 (by decide) fl_X6_20 (fun _ => rfl) d kk
theorem fl_X6_23 : Cond.fieldLink RX6 23 (TX6 4).1 (TX6 4).2.1 (TX6 4).2.2.1 ∈ tw := tw_i 702 (by decide +kernel) (by decide +kernel)
theorem gf_X6_23 (ho : M.1.cls = RX6) (d : decode M.2.1 pc = .ok (.getfield 23, 3)) (kk : G M rm R μ (pc + 3) lo (.ref 37 :: st)) : G M rm R μ pc lo (.ref 33 :: st) := g_getf (f := 4) ho isF_33 rfl in_X6 (by decide) fl_X6_23 (fun _ => rfl) d kk
theorem fl_X6_27 : Cond.fieldLink RX6 27 (TX6 5).1 (TX6 5).2.1 (TX6 5).2.2.1 ∈ tw := tw_i 703 (by decide +kernel) (by decide +kernel)
theorem gf_X6_27 (ho : M.1.cls = RX6) (d : decode M.2.1 pc = .ok (.getfield 27, 3)) (kk : G M rm R μ (pc + 3) lo (.int (μ.1 33 5) :: st)) : G M rm R μ pc lo (.ref 33 :: st) := g_getf (f := 5) ho isF_33 rfl in_X6 (by decide) fl_X6_27 (fun _ => rfl) d kk
theorem gp_X6_27 {x : Int32} (ho : M.1.cls = RX6) (d : decode M.2.1 pc = .ok (.putfield 27, 3)) (kk : G M rm R (sI μ 33 5 x) (pc + 3) lo st) : G M rm R μ pc lo (.int x :: .ref 33 :: st) := g_putf (f := 5) (ty0 := tyX6) ho isF_33 rfl in_X6 tyX6_ok nmX6 (by decide) fl_X6_27 rfl rfl rfl (fun _ => rfl) (fun _ _ _ => Nat.le_of_ble_eq_true rfl) sI_off (fun _ => rfl) d kk
theorem fl_X6_83 : Cond.fieldLink RX6 83 (TX6 6).1 (TX6 6).2.1 (TX6 6).2.2.1 ∈ tw := tw_i 704 (by decide +kernel) (by decide +kernel)
theorem gf_X6_83 (ho : M.1.cls = RX6) (d : decode M.2.1 pc = .ok (.getfield 83, 3)) (kk : G M rm R μ (pc + 3) lo (.int (μ.1 33 6) :: st)) : G M rm R μ pc lo (.ref 33 :: st) := g_getf (f := 6) ho isF_33 rfl in_X6 (by decide) fl_X6_83 (fun _ => rfl) d kk
theorem gp_X6_83 {x : Int32} (ho : M.1.cls = RX6) (d : decode M.2.1 pc = .ok (.putfield 83, 3)) (kk : G M rm R (sI μ 33 6 x) (pc + 3) lo st) : G M rm R μ pc lo (.int x :: .ref 33 :: st) := g_putf (f := 6) (ty0 := tyX6) ho isF_33 rfl in_X6 tyX6_ok nmX6 (by decide) fl_X6_83 rfl rfl rfl (fun _ => rfl) (fun _ _ _ => Nat.le_of_ble_eq_true rfl) sI_off (fun _ => rfl) d kk
theorem fl_X6_30 : Cond.fieldLink RX6 30 (TX6 7).1 (TX6 7).2.1 (TX6 7).2.2.1 ∈ tw := tw_i 705 (by decide +kernel) (by decide +kernel)
theorem gf_X6_30 (ho : M.1.cls = RX6) (d : decode M.2.1 pc = .ok (.getfield 30, 3)) (kk : G M rm R μ (pc + 3) lo (.ref 38 :: st)) : G M rm R μ pc lo (.ref 33 :: st) := g_getf (f := 7) ho isF_33 rfl in_X6 (by decide) fl_X6_30 (fun _ => rfl) d kk
theorem fl_X6_64 : Cond.fieldLink RX6 64 (TX6 8).1 (TX6 8).2.1 (TX6 8).2.2.1 ∈ tw := tw_i 706 (by decide +kernel) (by decide +kernel)
theorem gf_X6_64 (ho : M.1.cls = RX6) (d : decode M.2.1 pc = .ok (.getfield 64, 3)) (kk : G M rm R μ (pc + 3) lo (.long (μ.2 33 8) :: st)) : G M rm R μ pc lo (.ref 33 :: st) := g_getf (f := 8) ho isF_33 rfl in_X6 (by decide) fl_X6_64 (fun _ => rfl) d kk
theorem gp_X6_64 {x : Int64} (ho : M.1.cls = RX6) (d : decode M.2.1 pc = .ok (.putfield 64, 3)) (kk : G M rm R (sL μ 33 8 x) (pc + 3) lo st) : G M rm R μ pc lo (.long x :: .ref 33 :: st) := g_putf (f := 8) (ty0 := tyX6) ho isF_33 rfl in_X6 tyX6_ok nmX6 (by decide) fl_X6_64 rfl rfl rfl (fun _ => rfl) (fun _ _ _ => Nat.le_of_ble_eq_true rfl) sL_off (fun _ => rfl) d kk
theorem fl_X6_33 : Cond.fieldLink RX6 33 (TX6 9).1 (TX6 9).2.1 (TX6 9).2.2.1 ∈ tw := tw_i 707 (by decide +kernel) (by decide +kernel)
theorem gf_X6_33 (ho : M.1.cls = RX6) (d : decode M.2.1 pc = .ok (.getfield 33, 3)) (kk : G M rm R μ (pc + 3) lo (.ref 39 :: st)) : G M rm R μ pc lo (.ref 33 :: st) := g_getf (f := 9) ho isF_33 rfl in_X6 (by decide) fl_X6_33 (fun _ => rfl) d kk
theorem fl_X6_37 : Cond.fieldLink RX6 37 (TX6 10).1 (TX6 10).2.1 (TX6 10).2.2.1 ∈ tw := tw_i 708 (by decide +kernel) (by decide +kernel)
theorem gf_X6_37 (ho : M.1.cls = RX6) (d : decode M.2.1 pc = .ok (.getfield 37, 3)) (kk : G M rm R μ (pc + 3) lo (.int (μ.1 33 10) :: st)) : G M rm R μ pc lo (.ref 33 :: st) := g_getf (f := 10) ho isF_33 rfl in_X6 (by decide) fl_X6_37 (fun _ => rfl) d kk
theorem gp_X6_37 {x : Int32} (ho : M.1.cls = RX6) (d : decode M.2.1 pc = .ok (.putfield 37, 3)) (kk : G M rm R (sI μ 33 10 x) (pc + 3) lo st) : G M rm R μ pc lo (.int x :: .ref 33 :: st) := g_putf (f := 10) (ty0 := tyX6) ho isF_33 rfl in_X6 tyX6_ok nmX6 (by decide) fl_X6_37 rfl rfl rfl (fun _ => rfl) (fun _ _ _ => Nat.le_of_ble_eq_true rfl) sI_off (fun _ => rfl) d kk
theorem fl_X6_40 : Cond.fieldLink RX6 40 (TX6 11).1 (TX6 11).2.1 (TX6 11).2.2.1 ∈ tw := tw_i 709 (by decide +kernel) (by decide +kernel)
theorem gf_X6_40 (ho : M.1.cls = RX6) (d : decode M.2.1 pc = .ok (.getfield 40, 3)) (kk : G M rm R μ (pc + 3) lo (.ref 40 :: st)) : G M rm R μ pc lo (.ref 33 :: st) := g_getf (f := 11) ho isF_33 rfl in_X6 (by decide) fl_X6_40 (fun _ => rfl) d kk
theorem fl_X6_43 : Cond.fieldLink RX6 43 (TX6 12).1 (TX6 12).2.1 (TX6 12).2.2.1 ∈ tw := tw_i 710 (by decide +kernel) (by decide +kernel)
theorem gf_X6_43 (ho : M.1.cls = RX6) (d : decode M.2.1 pc = .ok (.getfield 43, 3)) (kk : G M rm R μ (pc + 3) lo (.ref 41 :: st)) : G M rm R μ pc lo (.ref 33 :: st) := g_getf (f := 12) ho isF_33 rfl in_X6 (by decide) fl_X6_43 (fun _ => rfl) d kk
theorem fl_X6_104 : Cond.fieldLink RX6 104 (TX6 13).1 (TX6 13).2.1 (TX6 13).2.2.1 ∈ tw := tw_i 711 (by decide +kernel) (by decide +kernel)
theorem gf_X6_104 (ho : M.1.cls = RX6) (d : decode M.2.1 pc = .ok (.getfield 104, 3)) (kk : G M rm R μ (pc + 3) lo (.int (μ.1 33 13) :: st)) : G M rm R μ pc lo (.ref 33 :: st) := g_getf (f := 13) ho isF_33 rfl in_X6 (by decide) fl_X6_104 (fun _ => rfl) d kk
theorem gp_X6_104 {x : Int32} (ho : M.1.cls = RX6) (d : decode M.2.1 pc = .ok (.putfield 104, 3)) (kk : G M rm R (sI μ 33 13 x) (pc + 3) lo st) : G M rm R μ pc lo (.int x :: .ref 33 :: st) := g_putf (f := 13) (ty0 := tyX6) ho isF_33 rfl in_X6 tyX6_ok nmX6 (by decide) fl_X6_104 rfl rfl rfl (fun _ => rfl) (fun _ _ _ => Nat.le_of_ble_eq_true rfl) sI_off (fun _ => rfl) d kk
theorem fl_X6_61 : Cond.fieldLink RX6 61 (TX6 14).1 (TX6 14).2.1 (TX6 14).2.2.1 ∈ tw := tw_i 712 (by decide +kernel) (by decide +kernel)
theorem gf_X6_61 (ho : M.1.cls = RX6) (d : decode M.2.1 pc = .ok (.getfield 61, 3)) (kk : G M rm R μ (pc + 3) lo (.int (μ.1 33 14) :: st)) : G M rm R μ pc lo (.ref 33 :: st) := g_getf (f := 14) ho isF_33 rfl in_X6 (by decide) fl_X6_61 (fun _ => rfl) d kk
theorem gp_X6_61 {x : Int32} (ho : M.1.cls = RX6) (d : decode M.2.1 pc = .ok (.putfield 61, 3)) (kk : G M rm R (sI μ 33 14 x) (pc + 3) lo st) : G M rm R μ pc lo (.int x :: .ref 33 :: st) := g_putf (f := 14) (ty0 := tyX6) ho isF_33 rfl in_X6 tyX6_ok nmX6 (by decide) fl_X6_61 rfl rfl rfl (fun _ => rfl) (fun _ _ _ => Nat.le_of_ble_eq_true rfl) sI_off (fun _ => rfl) d kk
theorem fl_X6_58 : Cond.fieldLink RX6 58 (TX6 15).1 (TX6 15).2.1 (TX6 15).2.2.1 ∈ tw := tw_i 713 (by decide +kernel) (by decide +kernel)
theorem gf_X6_58 (ho : M.1.cls = RX6) (d : decode M.2.1 pc = .ok (.getfield 58, 3)) (kk : G M rm R μ (pc + 3) lo (.int (μ.1 33 15) :: st)) : G M rm R μ pc lo (.ref 33 :: st) := g_getf (f := 15) ho isF_33 rfl in_X6 (by decide) fl_X6_58 (fun _ => rfl) d kk
theorem gp_X6_58 {x : Int32} (ho : M.1.cls = RX6) (d : decode M.2.1 pc = .ok (.putfield 58, 3)) (kk : G M rm R (sI μ 33 15 x) (pc + 3) lo st) : G M rm R μ pc lo (.int x :: .ref 33 :: st) := g_putf (f := 15) (ty0 := tyX6) ho isF_33 rfl in_X6 tyX6_ok nmX6 (by decide) fl_X6_58 rfl rfl rfl (fun _ => rfl) (fun _ _ _ => Nat.le_of_ble_eq_true rfl) sI_off (fun _ => rfl) d kk
theorem fl_X6_46 : Cond.fieldLink RX6 46 (TX6 16).1 (TX6 16).2.1 (TX6 16).2.2.1 ∈ tw := tw_i 714 (by decide +kernel) (by decide +kernel)
theorem gf_X6_46 (ho : M.1.cls = RX6) (d : decode M.2.1 pc = .ok (.getfield 46, 3)) (kk : G M rm R μ (pc + 3) lo (.ref 42 :: st)) : G M rm R μ pc lo (.ref 33 :: st) := g_getf (f := 16) ho isF_33 rfl in_X6 (by decide) fl_X6_46 (fun _ => rfl) d kk
theorem fl_X6_49 : Cond.fieldLink RX6 49 (TX6 17).1 (TX6 17).2.1 (TX6 17).2.2.1 ∈ tw := tw_i 715 (by decide +kernel) (by decide +kernel)
theorem gf_X6_49 (ho : M.1.cls = RX6) (d : decode M.2.1 pc = .ok (.getfield 49, 3)) (kk : G M rm R μ (pc + 3) lo (.ref 43 :: st)) : G M rm R μ pc lo (.ref 33 :: st) := g_getf (f := 17) ho isF_33 rfl in_X6 (by decide) fl_X6_49 (fun _ => rfl) d kk
theorem fl_X6_52 : Cond.fieldLink RX6 52 (TX6 18).1 (TX6 18).2.1 (TX6 18).2.2.1 ∈ tw := tw_i 716 (by decide +kernel) (by decide +kernel)
theorem gf_X6_52 (ho : M.1.cls = RX6) (d : decode M.2.1 pc = .ok (.getfield 52, 3)) (kk : G M rm R μ (pc + 3) lo (.ref 44 :: st)) : G M rm R μ pc lo (.ref 33 :: st) := g_getf (f := 18) ho isF_33 rfl in_X6 (by decide) fl_X6_52 (fun _ => rfl) d kk
theorem fl_X6_55 : Cond.fieldLink RX6 55 (TX6 19).1 (TX6 19).2.1 (TX6 19).2.2.1 ∈ tw := tw_i 717 (by decide +kernel) (by decide +kernel)
theorem gf_X6_55 (ho : M.1.cls = RX6) (d : decode M.2.1 pc = .ok (.getfield 55, 3)) (kk : G M rm R μ (pc + 3) lo (.ref 45 :: st)) : G M rm R μ pc lo (.ref 33 :: st) := g_getf (f := 19) ho isF_33 rfl in_X6 (by decide) fl_X6_55 (fun _ => rfl) d kk
theorem fl_X6_133 : Cond.fieldLink RX6 133 (TX6 20).1 (TX6 20).2.1 (TX6 20).2.2.1 ∈ tw := tw_i 718 (by decide +kernel) (by decide +kernel)
theorem gf_X6_133 (ho : M.1.cls = RX6) (d : decode M.2.1 pc = .ok (.getfield 133, 3)) (kk : G M rm R μ (pc + 3) lo (.long (μ.2 33 20) :: st)) : G M rm R μ pc lo (.ref 33 :: st) := g_getf (f := 20) ho isF_33 rfl in_X6 (by decide) fl_X6_133 (fun _ => rfl) d kk
theorem gp_X6_133 {x : Int64} (ho : M.1.cls = RX6) (d : decode M.2.1 pc = .ok (.putfield 133, 3)) (kk : G M rm R (sL μ 33 20 x) (pc + 3) lo st) : G M rm R μ pc lo (.long x :: .ref 33 :: st) := g_putf (f := 20) (ty0 := tyX6) ho isF_33 rfl in_X6 tyX6_ok nmX6 (by decide) fl_X6_133 rfl rfl rfl (fun _ => rfl) (fun _ _ _ => Nat.le_of_ble_eq_true rfl) sL_off (fun _ => rfl) d kk
theorem fn_X4_31 : Cond.fieldLinkNest RX4 31 (TX1 2).1 (TX1 2).2.1 (TX1 2).2.2.1 "HoleMask" ∈ nw := nw_i 100 (by decide +kernel) rfl
theorem gf_X4_31 (ho : M.1.cls = RX4) (d : decode M.2.1 pc = .ok (.getfield 31, 3)) (kk : G M rm R μ (pc + 3) lo (.int (μ.1 1 2) :: st)) : G M rm R μ pc lo (.ref 1 :: st) := g_getN (f := 2) ho isF_1 rfl in_X1 (by decide) fn_X4_31 (fun _ => rfl) d kk
theorem gp_X4_31 {x : Int32} (ho : M.1.cls = RX4) (d : decode M.2.1 pc = .ok (.putfield 31, 3)) (kk : G M rm R (sI μ 1 2 x) (pc + 3) lo st) : G M rm R μ pc lo (.int x :: .ref 1 :: st) := g_putN (f := 2) (ty0 := tyX1) ho isF_1 rfl in_X1 tyX1_ok nmX1 (by decide) fn_X4_31 rfl rfl rfl (fun _ => rfl) (fun _ _ _ => Nat.le_of_ble_eq_true rfl) sI_off (fun _ => rfl) d kk
theorem fn_X2_37 : Cond.fieldLinkNest RX2 37 (TX1 2).1 (TX1 2).2.1 (TX1 2).2.2.1 "HoleMask" ∈ nw := nw_i 101 (by decide +kernel) rfl
theorem gf_X2_37 (ho : M.1.cls = RX2) (d : decode M.2.1 pc = .ok (.getfield 37, 3)) (kk : G M rm R μ (pc + 3) lo (.int (μ.1 1 2) :: st)) : G M rm R μ pc lo (.ref 1 :: st) := g_getN (f := 2) ho isF_1 rfl in_X1 (by decide) fn_X2_37 (fun _ => rfl) d kk
theorem gp_X2_37 {x : Int32} (ho : M.1.cls = RX2) (d : decode M.2.1 pc = .ok (.putfield 37, 3)) (kk : G M rm R (sI μ 1 2 x) (pc + 3) lo st) : G M rm R μ pc lo (.int x :: .ref 1 :: st) := g_putN (f := 2) (ty0 := tyX1) ho isF_1 rfl in_X1 tyX1_ok nmX1 (by decide) fn_X2_37 rfl rfl rfl (fun _ => rfl) (fun _ _ _ => Nat.le_of_ble_eq_true rfl) sI_off (fun _ => rfl) d kk
theorem fn_X5_77 : Cond.fieldLinkNest RX5 77 (TX1 2).1 (TX1 2).2.1 (TX1 2).2.2.1 "HoleMask" ∈ nw := nw_i 102 (by decide +kernel) rfl
theorem gf_X5_77 (ho : M.1.cls = RX5) (d : decode M.2.1 pc = .ok (.getfield 77, 3)) (kk : G M rm R μ (pc + 3) lo (.int (μ.1 1 2) :: st)) : G M rm R μ pc lo (.ref 1 :: st) := g_getN (f := 2) ho isF_1 rfl in_X1 (by decide) fn_X5_77 (fun _ => rfl) d kk
theorem gp_X5_77 {x : Int32} (ho : M.1.cls = RX5) (d : decode M.2.1 pc = .ok (.putfield 77, 3)) (kk : G M rm R (sI μ 1 2 x) (pc + 3) lo st) : G M rm R μ pc lo (.int x :: .ref 1 :: st) := g_putN (f := 2) (ty0 := tyX1) ho isF_1 rfl in_X1 tyX1_ok nmX1 (by decide) fn_X5_77 rfl rfl rfl (fun _ => rfl) (fun _ _ _ => Nat.le_of_ble_eq_true rfl) sI_off (fun _ => rfl) d kk
theorem fn_X5_67 : Cond.fieldLinkNest RX5 67 (TX3 1).1 (TX3 1).2.1 (TX3 1).2.2.1 "HoleMask" ∈ nw := nw_i 119 (by decide +kernel) rfl
theorem gf_X5_67 (ho : M.1.cls = RX5) (d : decode M.2.1 pc = .ok (.getfield 67, 3)) (kk : G M rm R μ (pc + 3) lo (.int (μ.1 2 1) :: st)) : G M rm R μ pc lo (.ref 2 :: st) := g_getN (f := 1) ho isF_2 rfl in_X3 (by decide) fn_X5_67 (fun _ => rfl) d kk
theorem gp_X5_67 {x : Int32} (ho : M.1.cls = RX5) (d : decode M.2.1 pc = .ok (.putfield 67, 3)) (kk : G M rm R (sI μ 2 1 x) (pc + 3) lo st) : G M rm R μ pc lo (.int x :: .ref 2 :: st) := g_putN (f := 1) (ty0 := tyX3) ho isF_2 rfl in_X3 tyX3_ok nmX3 (by decide) fn_X5_67 rfl rfl rfl (fun _ => rfl) (fun _ _ _ => Nat.le_of_ble_eq_true rfl) sI_off (fun _ => rfl) d kk
theorem fn_X5_64 : Cond.fieldLinkNest RX5 64 (TX3 2).1 (TX3 2).2.1 (TX3 2).2.2.1 "HoleMask" ∈ nw := nw_i 121 (by decide +kernel) rfl
theorem gf_X5_64 (ho : M.1.cls = RX5) (d : decode M.2.1 pc = .ok (.getfield 64, 3)) (kk : G M rm R μ (pc + 3) lo (.int (μ.1 2 2) :: st)) : G M rm R μ pc lo (.ref 2 :: st) := g_getN (f := 2) ho isF_2 rfl in_X3 (by decide) fn_X5_64 (fun _ => rfl) d kk
theorem gp_X5_64 {x : Int32} (ho : M.1.cls = RX5) (d : decode M.2.1 pc = .ok (.putfield 64, 3)) (kk : G M rm R (sI μ 2 2 x) (pc + 3) lo st) : G M rm R μ pc lo (.int x :: .ref 2 :: st) := g_putN (f := 2) (ty0 := tyX3) ho isF_2 rfl in_X3 tyX3_ok nmX3 (by decide) fn_X5_64 rfl rfl rfl (fun _ => rfl) (fun _ _ _ => Nat.le_of_ble_eq_true rfl) sI_off (fun _ => rfl) d kk
theorem fn_X5_171 : Cond.fieldLinkNest RX5 171 (TX4 3).1 (TX4 3).2.1 (TX4 3).2.2.1 "HoleMask" ∈ nw := nw_i 141 (by decide +kernel) rfl
theorem gf_X5_171 (ho : M.1.cls = RX5) (d : decode M.2.1 pc = .ok (.getfield 171, 3)) (kk : G M rm R μ (pc + 3) lo (.long (μ.2 3 3) :: st)) : G M rm R μ pc lo (.ref 3 :: st) := g_getN (f := 3) ho isF_3 rfl in_X4 (by decide) fn_X5_171 (fun _ => rfl) d kk
theorem gp_X5_171 {x : Int64} (ho : M.1.cls = RX5) (d : decode M.2.1 pc = .ok (.putfield 171, 3)) (kk : G M rm R (sL μ 3 3 x) (pc + 3) lo st) : G M rm R μ pc lo (.long x :: .ref 3 :: st) := g_putN (f := 3) (ty0 := tyX4) ho isF_3 rfl in_X4 tyX4_ok nmX4 (by decide) fn_X5_171 rfl rfl rfl (fun _ => rfl) (fun _ _ _ => Nat.le_of_ble_eq_true rfl) sL_off (fun _ => rfl) d kk
theorem fn_X5_138 : Cond.fieldLinkNest RX5 138 (TX4 4).1 (TX4 4).2.1 (TX4 4).2.2.1 "HoleMask" ∈ nw := nw_i 143 (by decide +kernel) rfl
theorem gf_X5_138 (ho : M.1.cls = RX5) (d : decode M.2.1 pc = .ok (.getfield 138, 3)) (kk : G M rm R μ (pc + 3) lo (.int (μ.1 3 4) :: st)) : G M rm R μ pc lo (.ref 3 :: st) := g_getN (f := 4) ho isF_3 rfl in_X4 (by decide) fn_X5_138 (fun _ => rfl) d kk
theorem gp_X5_138 {x : Int32} (hb : narrow .boolean (.int x) = .int x) (hb2 : fits .boolean (.int x) = true) (ho : M.1.cls = RX5) (d : decode M.2.1 pc = .ok (.putfield 138, 3)) (kk : G M rm R (sI μ 3 4 x) (pc + 3) lo st) : G M rm R μ pc lo (.int x :: .ref 3 :: st) := g_putN (f := 4) (ty0 := tyX4) ho isF_3 rfl in_X4 tyX4_ok nmX4 (by decide) fn_X5_138 rfl hb hb2 (fun _ => rfl) (fun _ _ _ => Nat.le_of_ble_eq_true rfl) sI_off (fun _ => rfl) d kk
theorem fn_X5_126 : Cond.fieldLinkNest RX5 126 (TX2 3).1 (TX2 3).2.1 (TX2 3).2.2.1 "HoleMask" ∈ nw := nw_i 166 (by decide +kernel) rfl
theorem gf_X5_126 (ho : M.1.cls = RX5) (d : decode M.2.1 pc = .ok (.getfield 126, 3)) (kk : G M rm R μ (pc + 3) lo (.int (μ.1 4 3) :: st)) : G M rm R μ pc lo (.ref 4 :: st) := g_getN (f := 3) ho isF_4 rfl in_X2 (by decide) fn_X5_126 (fun _ => rfl) d kk
theorem gp_X5_126 {x : Int32} (ho : M.1.cls = RX5) (d : decode M.2.1 pc = .ok (.putfield 126, 3)) (kk : G M rm R (sI μ 4 3 x) (pc + 3) lo st) : G M rm R μ pc lo (.int x :: .ref 4 :: st) := g_putN (f := 3) (ty0 := tyX2) ho isF_4 rfl in_X2 tyX2_ok nmX2 (by decide) fn_X5_126 rfl rfl rfl (fun _ => rfl) (fun _ _ _ => Nat.le_of_ble_eq_true rfl) sI_off (fun _ => rfl) d kk
theorem fn_X5_123 : Cond.fieldLinkNest RX5 123 (TX0 1).1 (TX0 1).2.1 (TX0 1).2.2.1 "HoleMask" ∈ nw := nw_i 184 (by decide +kernel) rfl
theorem gf_X5_123 (ho : M.1.cls = RX5) (d : decode M.2.1 pc = .ok (.getfield 123, 3)) (kk : G M rm R μ (pc + 3) lo (.int (μ.1 5 1) :: st)) : G M rm R μ pc lo (.ref 5 :: st) := g_getN (f := 1) ho isF_5 rfl in_X0 (by decide) fn_X5_123 (fun _ => rfl) d kk
theorem gp_X5_123 {x : Int32} (ho : M.1.cls = RX5) (d : decode M.2.1 pc = .ok (.putfield 123, 3)) (kk : G M rm R (sI μ 5 1 x) (pc + 3) lo st) : G M rm R μ pc lo (.int x :: .ref 5 :: st) := g_putN (f := 1) (ty0 := tyX0) ho isF_5 rfl in_X0 tyX0_ok nmX0 (by decide) fn_X5_123 rfl rfl rfl (fun _ => rfl) (fun _ _ _ => Nat.le_of_ble_eq_true rfl) sI_off (fun _ => rfl) d kk
end
