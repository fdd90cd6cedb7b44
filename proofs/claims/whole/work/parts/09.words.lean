theorem zu_mem {w : Cond} (i : Nat) (h : tables_1[i]? = some w) (g : goodWord w = true) : w ∈ zu_tbl := List.mem_filter.mpr ⟨List.mem_append_right _ (List.mem_of_getElem? h), g⟩
theorem zu_sel {w : Cond} (i : Nat) (h : (k2_sels lw_privs)[i]? = some w) (g : goodWord w = true) : w ∈ zu_tbl := List.mem_filter.mpr ⟨List.mem_append_left _ (List.mem_of_getElem? h), g⟩
set_option maxRecDepth 20000 in
theorem fl_X0_7 : Cond.fieldLink RX0 7 (TX0 0).1 (TX0 0).2.1 (TX0 0).2.2.1 ∈ zu_tbl := zu_mem 217 rfl rfl
set_option maxRecDepth 20000 in
theorem fl_X0_13 : Cond.fieldLink RX0 13 (TX0 1).1 (TX0 1).2.1 (TX0 1).2.2.1 ∈ zu_tbl := zu_mem 219 rfl rfl
set_option maxRecDepth 20000 in
theorem fl_X0_16 : Cond.fieldLink RX0 16 (TX0 2).1 (TX0 2).2.1 (TX0 2).2.2.1 ∈ zu_tbl := zu_mem 221 rfl rfl
set_option maxRecDepth 20000 in
theorem fl_X0_19 : Cond.fieldLink RX0 19 (TX0 3).1 (TX0 3).2.1 (TX0 3).2.2.1 ∈ zu_tbl := zu_mem 223 rfl rfl
set_option maxRecDepth 20000 in
theorem fl_X1_9 : Cond.fieldLink RX1 9 (TX1 0).1 (TX1 0).2.1 (TX1 0).2.2.1 ∈ zu_tbl := zu_mem 36 rfl rfl
set_option maxRecDepth 20000 in
theorem fl_X1_23 : Cond.fieldLink RX1 23 (TX1 1).1 (TX1 1).2.1 (TX1 1).2.2.1 ∈ zu_tbl := zu_mem 37 rfl rfl
set_option maxRecDepth 20000 in
theorem fl_X2_11 : Cond.fieldLink RX2 11 (TX2 0).1 (TX2 0).2.1 (TX2 0).2.2.1 ∈ zu_tbl := zu_mem 23 rfl rfl
set_option maxRecDepth 20000 in
theorem fl_X2_21 : Cond.fieldLink RX2 21 (TX2 1).1 (TX2 1).2.1 (TX2 1).2.2.1 ∈ zu_tbl := zu_mem 24 rfl rfl
set_option maxRecDepth 20000 in
theorem fl_X3_10 : Cond.fieldLink RX3 10 (TX3 0).1 (TX3 0).2.1 (TX3 0).2.2.1 ∈ zu_tbl := zu_mem 45 rfl rfl
set_option maxRecDepth 20000 in
theorem fl_X3_19 : Cond.fieldLink RX3 19 (TX3 1).1 (TX3 1).2.1 (TX3 1).2.2.1 ∈ zu_tbl := zu_mem 46 rfl rfl
set_option maxRecDepth 20000 in
theorem fl_X3_25 : Cond.fieldLink RX3 25 (TX3 2).1 (TX3 2).2.1 (TX3 2).2.2.1 ∈ zu_tbl := zu_mem 47 rfl rfl
set_option maxRecDepth 20000 in
theorem fl_X3_66 : Cond.fieldLink RX3 66 (TX3 11).1 (TX3 11).2.1 (TX3 11).2.2.1 ∈ zu_tbl := zu_mem 56 rfl rfl
set_option maxRecDepth 20000 in
theorem fl_X3_83 : Cond.fieldLink RX3 83 (TX3 3).1 (TX3 3).2.1 (TX3 3).2.2.1 ∈ zu_tbl := zu_mem 48 rfl rfl
set_option maxRecDepth 20000 in
theorem fl_X3_122 : Cond.fieldLink RX3 122 (TX3 10).1 (TX3 10).2.1 (TX3 10).2.2.1 ∈ zu_tbl := zu_mem 55 rfl rfl
set_option maxRecDepth 20000 in
theorem fl_X3_125 : Cond.fieldLink RX3 125 (TX3 7).1 (TX3 7).2.1 (TX3 7).2.2.1 ∈ zu_tbl := zu_mem 52 rfl rfl
set_option maxRecDepth 20000 in
theorem fl_X3_128 : Cond.fieldLink RX3 128 (TX3 8).1 (TX3 8).2.1 (TX3 8).2.2.1 ∈ zu_tbl := zu_mem 53 rfl rfl
set_option maxRecDepth 20000 in
theorem fl_X3_131 : Cond.fieldLink RX3 131 (TX3 9).1 (TX3 9).2.1 (TX3 9).2.2.1 ∈ zu_tbl := zu_mem 54 rfl rfl
set_option maxRecDepth 20000 in
theorem fl_X3_134 : Cond.fieldLink RX3 134 (TX3 4).1 (TX3 4).2.1 (TX3 4).2.2.1 ∈ zu_tbl := zu_mem 49 rfl rfl
set_option maxRecDepth 20000 in
theorem fl_X3_137 : Cond.fieldLink RX3 137 (TX3 5).1 (TX3 5).2.1 (TX3 5).2.2.1 ∈ zu_tbl := zu_mem 50 rfl rfl
set_option maxRecDepth 20000 in
theorem fl_X3_140 : Cond.fieldLink RX3 140 (TX3 6).1 (TX3 6).2.1 (TX3 6).2.2.1 ∈ zu_tbl := zu_mem 51 rfl rfl
set_option maxRecDepth 20000 in
theorem fl_X4_7 : Cond.fieldLink RX4 7 (TX4 0).1 (TX4 0).2.1 (TX4 0).2.2.1 ∈ zu_tbl := zu_mem 337 rfl rfl
set_option maxRecDepth 20000 in
theorem fl_X4_13 : Cond.fieldLink RX4 13 (TX4 1).1 (TX4 1).2.1 (TX4 1).2.2.1 ∈ zu_tbl := zu_mem 338 rfl rfl
set_option maxRecDepth 20000 in
theorem fl_X4_16 : Cond.fieldLink RX4 16 (TX4 2).1 (TX4 2).2.1 (TX4 2).2.2.1 ∈ zu_tbl := zu_mem 339 rfl rfl
set_option maxRecDepth 20000 in
theorem fl_X4_19 : Cond.fieldLink RX4 19 (TX4 6).1 (TX4 6).2.1 (TX4 6).2.2.1 ∈ zu_tbl := zu_mem 343 rfl rfl
set_option maxRecDepth 20000 in
theorem fl_X4_22 : Cond.fieldLink RX4 22 (TX4 7).1 (TX4 7).2.1 (TX4 7).2.2.1 ∈ zu_tbl := zu_mem 344 rfl rfl
set_option maxRecDepth 20000 in
theorem fl_X4_25 : Cond.fieldLink RX4 25 (TX4 9).1 (TX4 9).2.1 (TX4 9).2.2.1 ∈ zu_tbl := zu_mem 346 rfl rfl
set_option maxRecDepth 20000 in
theorem fl_X4_28 : Cond.fieldLink RX4 28 (TX4 10).1 (TX4 10).2.1 (TX4 10).2.2.1 ∈ zu_tbl := zu_mem 347 rfl rfl
set_option maxRecDepth 20000 in
theorem fl_X4_31 : Cond.fieldLink RX4 31 (TX4 11).1 (TX4 11).2.1 (TX4 11).2.2.1 ∈ zu_tbl := zu_mem 348 rfl rfl
set_option maxRecDepth 20000 in
theorem fl_X4_34 : Cond.fieldLink RX4 34 (TX4 12).1 (TX4 12).2.1 (TX4 12).2.2.1 ∈ zu_tbl := zu_mem 349 rfl rfl
set_option maxRecDepth 20000 in
theorem fl_X4_41 : Cond.fieldLink RX4 41 (TX4 13).1 (TX4 13).2.1 (TX4 13).2.2.1 ∈ zu_tbl := zu_mem 350 rfl rfl
set_option maxRecDepth 20000 in
theorem fl_X4_60 : Cond.fieldLink RX4 60 (TX4 14).1 (TX4 14).2.1 (TX4 14).2.2.1 ∈ zu_tbl := zu_mem 351 rfl rfl
set_option maxRecDepth 20000 in
theorem fl_X4_63 : Cond.fieldLink RX4 63 (TX4 15).1 (TX4 15).2.1 (TX4 15).2.2.1 ∈ zu_tbl := zu_mem 352 rfl rfl
set_option maxRecDepth 20000 in
theorem fl_X4_70 : Cond.fieldLink RX4 70 (TX4 20).1 (TX4 20).2.1 (TX4 20).2.2.1 ∈ zu_tbl := zu_mem 357 rfl rfl
set_option maxRecDepth 20000 in
theorem fl_X4_84 : Cond.fieldLink RX4 84 (TX4 16).1 (TX4 16).2.1 (TX4 16).2.2.1 ∈ zu_tbl := zu_mem 353 rfl rfl
set_option maxRecDepth 20000 in
theorem fl_X4_100 : Cond.fieldLink RX4 100 (TX4 22).1 (TX4 22).2.1 (TX4 22).2.2.1 ∈ zu_tbl := zu_mem 359 rfl rfl
set_option maxRecDepth 20000 in
theorem fl_X4_106 : Cond.fieldLink RX4 106 (TX4 8).1 (TX4 8).2.1 (TX4 8).2.2.1 ∈ zu_tbl := zu_mem 345 rfl rfl
set_option maxRecDepth 20000 in
theorem fl_X4_109 : Cond.fieldLink RX4 109 (TX4 18).1 (TX4 18).2.1 (TX4 18).2.2.1 ∈ zu_tbl := zu_mem 355 rfl rfl
set_option maxRecDepth 20000 in
theorem fl_X4_112 : Cond.fieldLink RX4 112 (TX4 19).1 (TX4 19).2.1 (TX4 19).2.2.1 ∈ zu_tbl := zu_mem 356 rfl rfl
set_option maxRecDepth 20000 in
theorem fl_X4_115 : Cond.fieldLink RX4 115 (TX4 17).1 (TX4 17).2.1 (TX4 17).2.2.1 ∈ zu_tbl := zu_mem 354 rfl rfl
set_option maxRecDepth 20000 in
theorem fl_X4_118 : Cond.fieldLink RX4 118 (TX4 3).1 (TX4 3).2.1 (TX4 3).2.2.1 ∈ zu_tbl := zu_mem 340 rfl rfl
set_option maxRecDepth 20000 in
theorem fl_X4_122 : Cond.fieldLink RX4 122 (TX4 4).1 (TX4 4).2.1 (TX4 4).2.2.1 ∈ zu_tbl := zu_mem 341 rfl rfl
set_option maxRecDepth 20000 in
theorem fl_X4_125 : Cond.fieldLink RX4 125 (TX4 5).1 (TX4 5).2.1 (TX4 5).2.2.1 ∈ zu_tbl := zu_mem 342 rfl rfl
set_option maxRecDepth 20000 in
theorem fl_X4_131 : Cond.fieldLink RX4 131 (TX4 21).1 (TX4 21).2.1 (TX4 21).2.2.1 ∈ zu_tbl := zu_mem 358 rfl rfl
set_option maxRecDepth 20000 in
theorem ml_L_9 : Cond.methodLink RL 9 yX3_init ∈ zu_tbl := zu_mem 9 rfl rfl
set_option maxRecDepth 20000 in
theorem ml_L_12 : Cond.methodLink RL 12 yX4_init ∈ zu_tbl := zu_mem 333 rfl rfl
set_option maxRecDepth 20000 in
theorem ml_L_13 : Cond.methodLink RL 13 yX3_hang ∈ zu_tbl := zu_mem 82 rfl rfl
set_option maxRecDepth 20000 in
theorem ml_L_17 : Cond.methodLink RL 17 yX4_hang ∈ zu_tbl := zu_mem 407 rfl rfl
set_option maxRecDepth 20000 in
theorem ml_L_18 : Cond.methodLink RL 18 yX3_strike ∈ zu_tbl := zu_mem 105 rfl rfl
set_option maxRecDepth 20000 in
theorem ml_L_22 : Cond.methodLink RL 22 yX4_strike ∈ zu_tbl := zu_mem 424 rfl rfl
set_option maxRecDepth 20000 in
theorem ml_L_23 : Cond.methodLink RL 23 yX3_share ∈ zu_tbl := zu_mem 113 rfl rfl
set_option maxRecDepth 20000 in
theorem ml_L_26 : Cond.methodLink RL 26 yX4_share ∈ zu_tbl := zu_mem 428 rfl rfl
set_option maxRecDepth 20000 in
theorem ml_L_27 : Cond.methodLink RL 27 yX3_size ∈ zu_tbl := zu_mem 117 rfl rfl
set_option maxRecDepth 20000 in
theorem ml_L_30 : Cond.methodLink RL 30 yX4_size ∈ zu_tbl := zu_mem 432 rfl rfl
set_option maxRecDepth 20000 in
theorem ml_L_31 : Cond.methodLink RL 31 yX3_get ∈ zu_tbl := zu_mem 129 rfl rfl
set_option maxRecDepth 20000 in
theorem ml_L_34 : Cond.methodLink RL 34 yX4_get ∈ zu_tbl := zu_mem 440 rfl rfl
set_option maxRecDepth 20000 in
theorem ml_L_35 : Cond.methodLink RL 35 yX3_set ∈ zu_tbl := zu_mem 146 rfl rfl
set_option maxRecDepth 20000 in
theorem ml_L_39 : Cond.methodLink RL 39 yX4_set ∈ zu_tbl := zu_mem 456 rfl rfl
set_option maxRecDepth 20000 in
theorem ml_L_40 : Cond.methodLink RL 40 yX3_patch ∈ zu_tbl := zu_mem 173 rfl rfl
set_option maxRecDepth 20000 in
theorem ml_L_44 : Cond.methodLink RL 44 yX4_patch ∈ zu_tbl := zu_mem 474 rfl rfl
set_option maxRecDepth 20000 in
theorem ml_L_45 : Cond.methodLink RL 45 yX3_ripple ∈ zu_tbl := zu_mem 177 rfl rfl
set_option maxRecDepth 20000 in
theorem ml_L_48 : Cond.methodLink RL 48 yX4_ripple ∈ zu_tbl := zu_mem 478 rfl rfl
set_option maxRecDepth 20000 in
theorem ml_L_49 : Cond.methodLink RL 49 yX3_probe ∈ zu_tbl := zu_mem 181 rfl rfl
set_option maxRecDepth 20000 in
theorem ml_L_52 : Cond.methodLink RL 52 yX4_probe ∈ zu_tbl := zu_mem 482 rfl rfl
set_option maxRecDepth 20000 in
theorem ml_L_53 : Cond.methodLink RL 53 yX3_poke ∈ zu_tbl := zu_mem 188 rfl rfl
set_option maxRecDepth 20000 in
theorem ml_L_56 : Cond.methodLink RL 56 yX4_poke ∈ zu_tbl := zu_mem 489 rfl rfl
set_option maxRecDepth 20000 in
theorem ml_L_57 : Cond.methodLink RL 57 yX3_shown ∈ zu_tbl := zu_mem 192 rfl rfl
set_option maxRecDepth 20000 in
theorem ml_L_60 : Cond.methodLink RL 60 yX4_shown ∈ zu_tbl := zu_mem 493 rfl rfl
set_option maxRecDepth 20000 in
theorem ml_L_61 : Cond.methodLink RL 61 yX3_lit ∈ zu_tbl := zu_mem 200 rfl rfl
set_option maxRecDepth 20000 in
theorem ml_L_65 : Cond.methodLink RL 65 yX4_lit ∈ zu_tbl := zu_mem 501 rfl rfl
set_option maxRecDepth 20000 in
theorem ml_L_66 : Cond.methodLink RL 66 yX3_fade ∈ zu_tbl := zu_mem 208 rfl rfl
set_option maxRecDepth 20000 in
theorem ml_L_69 : Cond.methodLink RL 69 yX4_fade ∈ zu_tbl := zu_mem 505 rfl rfl
set_option maxRecDepth 20000 in
theorem ml_L_70 : Cond.methodLink RL 70 yX3_tick ∈ zu_tbl := zu_mem 233 rfl rfl
set_option maxRecDepth 20000 in
theorem ml_L_74 : Cond.methodLink RL 74 yX4_tick ∈ zu_tbl := zu_mem 509 rfl rfl
set_option maxRecDepth 20000 in
theorem ml_L_75 : Cond.methodLink RL 75 yX3_sheet ∈ zu_tbl := zu_mem 252 rfl rfl
set_option maxRecDepth 20000 in
theorem ml_L_78 : Cond.methodLink RL 78 yX4_sheet ∈ zu_tbl := zu_mem 513 rfl rfl
set_option maxRecDepth 20000 in
theorem ml_L_79 : Cond.methodLink RL 79 yX3_cell ∈ zu_tbl := zu_mem 261 rfl rfl
set_option maxRecDepth 20000 in
theorem ml_L_82 : Cond.methodLink RL 82 yX4_cell ∈ zu_tbl := zu_mem 517 rfl rfl
set_option maxRecDepth 20000 in
theorem ml_L_83 : Cond.methodLink RL 83 yX3_tear ∈ zu_tbl := zu_mem 281 rfl rfl
set_option maxRecDepth 20000 in
theorem ml_L_86 : Cond.methodLink RL 86 yX4_tear ∈ zu_tbl := zu_mem 525 rfl rfl
set_option maxRecDepth 20000 in
theorem ml_L_87 : Cond.methodLink RL 87 yX3_draw ∈ zu_tbl := zu_mem 298 rfl rfl
set_option maxRecDepth 20000 in
theorem ml_L_90 : Cond.methodLink RL 90 yX4_draw ∈ zu_tbl := zu_mem 529 rfl rfl
set_option maxRecDepth 20000 in
theorem ml_L_91 : Cond.methodLink RL 91 yX3_status ∈ zu_tbl := zu_mem 310 rfl rfl
set_option maxRecDepth 20000 in
theorem ml_L_94 : Cond.methodLink RL 94 yX4_status ∈ zu_tbl := zu_mem 533 rfl rfl
set_option maxRecDepth 20000 in
theorem ml_L_95 : Cond.methodLink RL 95 yX3_count ∈ zu_tbl := zu_mem 314 rfl rfl
set_option maxRecDepth 20000 in
theorem ml_L_98 : Cond.methodLink RL 98 yX4_count ∈ zu_tbl := zu_mem 537 rfl rfl
set_option maxRecDepth 20000 in
theorem ml_X0_1 : Cond.methodLink RX0 1 objectInit ∈ zu_tbl := zu_mem 216 rfl rfl
set_option maxRecDepth 20000 in
theorem ml_X0_22 : Cond.methodLink RX0 22 Lib.Math.abs.name ∈ zu_tbl := zu_mem 249 rfl rfl
set_option maxRecDepth 20000 in
theorem ml_X1_3 : Cond.methodLink RX1 3 objectInit ∈ zu_tbl := zu_mem 35 rfl rfl
set_option maxRecDepth 20000 in
theorem ml_X1_15 : Cond.methodLink RX1 15 yX1_rowCount ∈ zu_tbl := zu_mem 273 rfl rfl
set_option maxRecDepth 20000 in
theorem ml_X1_19 : Cond.methodLink RX1 19 yX1_hasRow ∈ zu_tbl := zu_mem 269 rfl rfl
set_option maxRecDepth 20000 in
theorem ml_X2_3 : Cond.methodLink RX2 3 objectInit ∈ zu_tbl := zu_mem 20 rfl rfl
set_option maxRecDepth 20000 in
theorem ml_X2_17 : Cond.methodLink RX2 17 yX2_stripOf ∈ zu_tbl := zu_mem 141 rfl rfl
set_option maxRecDepth 20000 in
theorem ml_X3_1 : Cond.methodLink RX3 1 objectInit ∈ zu_tbl := zu_mem 12 rfl rfl
set_option maxRecDepth 20000 in
theorem ml_X3_9 : Cond.methodLink RX3 9 yX2_init ∈ zu_tbl := zu_mem 17 rfl rfl
set_option maxRecDepth 20000 in
theorem ml_X3_29 : Cond.methodLink RX3 29 yX3_isBank ∈ zu_tbl := zu_mem 86 rfl rfl
set_option maxRecDepth 20000 in
theorem ml_X3_33 : Cond.methodLink RX3 33 yX3_isStrip ∈ zu_tbl := zu_mem 89 rfl rfl
set_option maxRecDepth 20000 in
theorem ml_X3_36 : Cond.methodLink RX3 36 yX3_leave ∈ zu_tbl := zu_mem 92 rfl rfl
set_option maxRecDepth 20000 in
theorem ml_X3_40 : Cond.methodLink RX3 40 yX3_counted ∈ zu_tbl := zu_mem 96 rfl rfl
set_option maxRecDepth 20000 in
theorem ml_X3_44 : Cond.methodLink RX3 44 yX2_replace ∈ zu_tbl := zu_mem 100 rfl rfl
set_option maxRecDepth 20000 in
theorem ml_X3_48 : Cond.methodLink RX3 48 yX2_stripOf ∈ zu_tbl := zu_mem 109 rfl rfl
set_option maxRecDepth 20000 in
theorem ml_X3_52 : Cond.methodLink RX3 52 yX3_measure ∈ zu_tbl := zu_mem 121 rfl rfl
set_option maxRecDepth 20000 in
theorem ml_X3_55 : Cond.methodLink RX3 55 yX3_leaveFound ∈ zu_tbl := zu_mem 125 rfl rfl
set_option maxRecDepth 20000 in
theorem ml_X3_58 : Cond.methodLink RX3 58 yX3_look ∈ zu_tbl := zu_mem 133 rfl rfl
set_option maxRecDepth 20000 in
theorem ml_X3_62 : Cond.methodLink RX3 62 yX3_put ∈ zu_tbl := zu_mem 150 rfl rfl
set_option maxRecDepth 20000 in
theorem ml_X3_70 : Cond.methodLink RX3 70 yX3_asLevel ∈ zu_tbl := zu_mem 158 rfl rfl
set_option maxRecDepth 20000 in
theorem ml_X3_73 : Cond.methodLink RX3 73 yX3_digitOf ∈ zu_tbl := zu_mem 185 rfl rfl
set_option maxRecDepth 20000 in
theorem ml_X3_76 : Cond.methodLink RX3 76 yX3_findShown ∈ zu_tbl := zu_mem 196 rfl rfl
set_option maxRecDepth 20000 in
theorem ml_X3_79 : Cond.methodLink RX3 79 yX3_isLit ∈ zu_tbl := zu_mem 204 rfl rfl
set_option maxRecDepth 20000 in
theorem ml_X3_86 : Cond.methodLink RX3 86 yX0_init ∈ zu_tbl := zu_mem 213 rfl rfl
set_option maxRecDepth 20000 in
theorem ml_X3_89 : Cond.methodLink RX3 89 yX3_runsOn ∈ zu_tbl := zu_mem 237 rfl rfl
set_option maxRecDepth 20000 in
theorem ml_X3_95 : Cond.methodLink RX3 95 yX1_replace ∈ zu_tbl := zu_mem 257 rfl rfl
set_option maxRecDepth 20000 in
theorem ml_X3_98 : Cond.methodLink RX3 98 yX1_refusalAt ∈ zu_tbl := zu_mem 265 rfl rfl
set_option maxRecDepth 20000 in
theorem ml_X3_101 : Cond.methodLink RX3 101 yX1_numberAt ∈ zu_tbl := zu_mem 277 rfl rfl
set_option maxRecDepth 20000 in
theorem ml_X3_104 : Cond.methodLink RX3 104 yX1_isThere ∈ zu_tbl := zu_mem 285 rfl rfl
set_option maxRecDepth 20000 in
theorem ml_X3_108 : Cond.methodLink RX3 108 yX1_hasRow ∈ zu_tbl := zu_mem 289 rfl rfl
set_option maxRecDepth 20000 in
theorem ml_X3_111 : Cond.methodLink RX3 111 yX1_rowOf ∈ zu_tbl := zu_mem 290 rfl rfl
set_option maxRecDepth 20000 in
theorem ml_X3_115 : Cond.methodLink RX3 115 yX1_replaceRow ∈ zu_tbl := zu_mem 294 rfl rfl
set_option maxRecDepth 20000 in
theorem ml_X3_119 : Cond.methodLink RX3 119 yX3_drawLamp ∈ zu_tbl := zu_mem 302 rfl rfl
set_option maxRecDepth 20000 in
theorem ml_X3_143 : Cond.methodLink RX3 143 yX2_stripsThere ∈ zu_tbl := zu_mem 318 rfl rfl
set_option maxRecDepth 20000 in
theorem ml_X3_147 : Cond.methodLink RX3 147 yX2_placesSet ∈ zu_tbl := zu_mem 322 rfl rfl
set_option maxRecDepth 20000 in
theorem ml_X3_150 : Cond.methodLink RX3 150 yX1_rowCount ∈ zu_tbl := zu_mem 326 rfl rfl
set_option maxRecDepth 20000 in
theorem ml_X3_153 : Cond.methodLink RX3 153 yX1_cellsWritten ∈ zu_tbl := zu_mem 327 rfl rfl
set_option maxRecDepth 20000 in
theorem ml_X3_156 : Cond.methodLink RX3 156 yX2_refusalAt ∈ zu_tbl := zu_mem 137 rfl rfl
set_option maxRecDepth 20000 in
theorem ml_X3_158 : Cond.methodLink RX3 158 yX2_numberAt ∈ zu_tbl := zu_mem 142 rfl rfl
set_option maxRecDepth 20000 in
theorem ml_X3_160 : Cond.methodLink RX3 160 yX3_asNumber ∈ zu_tbl := zu_mem 154 rfl rfl
set_option maxRecDepth 20000 in
theorem ml_X3_163 : Cond.methodLink RX3 163 yX2_setAt ∈ zu_tbl := zu_mem 169 rfl rfl
set_option maxRecDepth 20000 in
theorem ml_X3_166 : Cond.methodLink RX3 166 yX1_write ∈ zu_tbl := zu_mem 306 rfl rfl
set_option maxRecDepth 20000 in
theorem ml_X3_176 : Cond.methodLink RX3 176 yX3_countDropped ∈ zu_tbl := zu_mem 241 rfl rfl
set_option maxRecDepth 20000 in
theorem ml_X3_180 : Cond.methodLink RX3 180 yX0_nextLevel ∈ zu_tbl := zu_mem 245 rfl rfl
set_option maxRecDepth 20000 in
theorem ml_X3_189 : Cond.methodLink RX3 189 Lib.Math.min.name ∈ zu_tbl := zu_mem 163 rfl rfl
set_option maxRecDepth 20000 in
theorem ml_X3_194 : Cond.methodLink RX3 194 Lib.Math.max.name ∈ zu_tbl := zu_mem 166 rfl rfl
set_option maxRecDepth 20000 in
theorem ml_X4_1 : Cond.methodLink RX4 1 objectInit ∈ zu_tbl := zu_mem 336 rfl rfl
set_option maxRecDepth 20000 in
theorem ml_X4_37 : Cond.methodLink RX4 37 yX4_in ∈ zu_tbl := zu_mem 414 rfl rfl
set_option maxRecDepth 20000 in
theorem ml_X4_49 : Cond.methodLink RX4 49 yX4_nearest ∈ zu_tbl := zu_mem 469 rfl rfl
set_option maxRecDepth 20000 in
theorem ml_X4_53 : Cond.methodLink RX4 53 yX4_why ∈ zu_tbl := zu_mem 448 rfl rfl
set_option maxRecDepth 20000 in
theorem ml_X4_57 : Cond.methodLink RX4 57 yX4_counted ∈ zu_tbl := zu_mem 436 rfl rfl
set_option maxRecDepth 20000 in
theorem ml_X4_66 : Cond.methodLink RX4 66 yX4_kept ∈ zu_tbl := zu_mem 464 rfl rfl
set_option maxRecDepth 20000 in
theorem ml_X4_73 : Cond.methodLink RX4 73 yX4_isBank ∈ zu_tbl := zu_mem 411 rfl rfl
set_option maxRecDepth 20000 in
theorem ml_X4_77 : Cond.methodLink RX4 77 yX4_isStrip ∈ zu_tbl := zu_mem 417 rfl rfl
set_option maxRecDepth 20000 in
theorem ml_X4_80 : Cond.methodLink RX4 80 yX4_begins ∈ zu_tbl := zu_mem 420 rfl rfl
set_option maxRecDepth 20000 in
theorem ml_X4_87 : Cond.methodLink RX4 87 yX4_refused ∈ zu_tbl := zu_mem 444 rfl rfl
set_option maxRecDepth 20000 in
theorem ml_X4_90 : Cond.methodLink RX4 90 yX4_at ∈ zu_tbl := zu_mem 452 rfl rfl
set_option maxRecDepth 20000 in
theorem ml_X4_93 : Cond.methodLink RX4 93 yX4_put ∈ zu_tbl := zu_mem 460 rfl rfl
set_option maxRecDepth 20000 in
theorem ml_X4_97 : Cond.methodLink RX4 97 yX4_digit ∈ zu_tbl := zu_mem 486 rfl rfl
set_option maxRecDepth 20000 in
theorem ml_X4_103 : Cond.methodLink RX4 103 yX4_light ∈ zu_tbl := zu_mem 497 rfl rfl
set_option maxRecDepth 20000 in
theorem ml_X4_128 : Cond.methodLink RX4 128 yX4_whyCell ∈ zu_tbl := zu_mem 521 rfl rfl
set_option maxRecDepth 20000 in
theorem in_L : Cond.initialized RL ∈ zu_tbl := zu_mem 0 rfl rfl
set_option maxRecDepth 20000 in
theorem in_X3 : Cond.initialized RX3 ∈ zu_tbl := zu_mem 1 rfl rfl
set_option maxRecDepth 20000 in
theorem in_X2 : Cond.initialized RX2 ∈ zu_tbl := zu_mem 2 rfl rfl
set_option maxRecDepth 20000 in
theorem in_X1 : Cond.initialized RX1 ∈ zu_tbl := zu_mem 3 rfl rfl
set_option maxRecDepth 20000 in
theorem in_X4 : Cond.initialized RX4 ∈ zu_tbl := zu_mem 4 rfl rfl
set_option maxRecDepth 20000 in
theorem in_Math : Cond.initialized "java/lang/Math" ∈ zu_tbl := zu_mem 5 rfl rfl
set_option maxRecDepth 20000 in
theorem in_X0 : Cond.initialized RX0 ∈ zu_tbl := zu_mem 6 rfl rfl
set_option maxRecDepth 20000 in
theorem cl_L_7 : Cond.classLink RL 7 RX3 ∈ zu_tbl := zu_mem 7 rfl rfl
set_option maxRecDepth 20000 in
theorem it_X3 : Cond.instantiable RX3 12 ∈ zu_tbl := zu_mem 8 rfl rfl
set_option maxRecDepth 20000 in
theorem oi_inst : Cond.instanceMethod objectInit ∈ zu_tbl := zu_mem 13 rfl rfl
set_option maxRecDepth 20000 in
theorem oi_code : Cond.code objectInit ⟨#[0xb1]⟩ 1 none ∈ zu_tbl := zu_mem 14 rfl rfl
set_option maxRecDepth 20000 in
theorem cl_X3_7 : Cond.classLink RX3 7 RX2 ∈ zu_tbl := zu_mem 15 rfl rfl
set_option maxRecDepth 20000 in
theorem it_X2 : Cond.instantiable RX2 2 ∈ zu_tbl := zu_mem 16 rfl rfl
set_option maxRecDepth 20000 in
theorem cl_X2_9 : Cond.classLink RX2 9 (FieldType.array .int).toString ∈ zu_tbl := zu_mem 21 rfl rfl
set_option maxRecDepth 20000 in
theorem cl_X3_16 : Cond.classLink RX3 16 RX1 ∈ zu_tbl := zu_mem 30 rfl rfl
set_option maxRecDepth 20000 in
theorem it_X1 : Cond.instantiable RX1 2 ∈ zu_tbl := zu_mem 31 rfl rfl
set_option maxRecDepth 20000 in
theorem cl_X3_23 : Cond.classLink RX3 23 RX0 ∈ zu_tbl := zu_mem 43 rfl rfl
set_option maxRecDepth 20000 in
theorem ac_int : Cond.arrayClass .int ∈ zu_tbl := zu_mem 104 rfl rfl
set_option maxRecDepth 20000 in
theorem kc_X3_186 : Cond.constant RX3 186 (65535) ∈ zu_tbl := zu_mem 157 rfl rfl
set_option maxRecDepth 20000 in
theorem kc_X3_187 : Cond.constant RX3 187 (-8000000) ∈ zu_tbl := zu_mem 161 rfl rfl
set_option maxRecDepth 20000 in
theorem kc_X3_188 : Cond.constant RX3 188 (8000000) ∈ zu_tbl := zu_mem 162 rfl rfl
set_option maxRecDepth 20000 in
theorem ms_min : Cond.static Lib.Math.min.name ∈ zu_tbl := zu_mem 164 rfl rfl
set_option maxRecDepth 20000 in
theorem mc_min : Cond.code Lib.Math.min.name Lib.Math.min.code 2 (some .int) ∈ zu_tbl := zu_mem 165 rfl rfl
set_option maxRecDepth 20000 in
theorem ms_max : Cond.static Lib.Math.max.name ∈ zu_tbl := zu_mem 167 rfl rfl
set_option maxRecDepth 20000 in
theorem mc_max : Cond.code Lib.Math.max.name Lib.Math.max.code 2 (some .int) ∈ zu_tbl := zu_mem 168 rfl rfl
set_option maxRecDepth 20000 in
theorem it_X0 : Cond.instantiable RX0 4 ∈ zu_tbl := zu_mem 212 rfl rfl
set_option maxRecDepth 20000 in
theorem ms_abs : Cond.static Lib.Math.abs.name ∈ zu_tbl := zu_mem 250 rfl rfl
set_option maxRecDepth 20000 in
theorem mc_abs : Cond.code Lib.Math.abs.name Lib.Math.abs.code 1 (some .int) ∈ zu_tbl := zu_mem 251 rfl rfl
set_option maxRecDepth 20000 in
theorem cl_X3_93 : Cond.classLink RX3 93 (FieldType.array .int).toString ∈ zu_tbl := zu_mem 256 rfl rfl
set_option maxRecDepth 20000 in
theorem cl_L_10 : Cond.classLink RL 10 RX4 ∈ zu_tbl := zu_mem 331 rfl rfl
set_option maxRecDepth 20000 in
theorem it_X4 : Cond.instantiable RX4 23 ∈ zu_tbl := zu_mem 332 rfl rfl
set_option maxRecDepth 20000 in
theorem kc_X4_47 : Cond.constant RX4 47 (65535) ∈ zu_tbl := zu_mem 467 rfl rfl
set_option maxRecDepth 20000 in
theorem kc_X4_48 : Cond.constant RX4 48 (65536) ∈ zu_tbl := zu_mem 468 rfl rfl
set_option maxRecDepth 20000 in
theorem kc_X4_45 : Cond.constant RX4 45 (-8000000) ∈ zu_tbl := zu_mem 472 rfl rfl
set_option maxRecDepth 20000 in
theorem kc_X4_46 : Cond.constant RX4 46 (8000000) ∈ zu_tbl := zu_mem 473 rfl rfl
theorem zu_all {ws : List Cond} (h : ws.all (fun w => decide (w ∈ lw_tbl) && goodWord w) = true) : ∀ w ∈ ws, w ∈ zu_tbl := fun w hw => by
  have h1 := List.all_eq_true.mp h w hw
  simp only [Bool.and_eq_true, decide_eq_true_eq] at h1
  exact List.mem_filter.mpr h1
theorem iu_X0 : ∀ w ∈ u_ws RX0 TX0 4, w ∈ zu_tbl := zu_all (by decide +kernel)
theorem iu_X1 : ∀ w ∈ u_ws RX1 TX1 2, w ∈ zu_tbl := zu_all (by decide +kernel)
theorem iu_X2 : ∀ w ∈ u_ws RX2 TX2 2, w ∈ zu_tbl := zu_all (by decide +kernel)
theorem iu_X3 : ∀ w ∈ u_ws RX3 TX3 12, w ∈ zu_tbl := zu_all (by decide +kernel)
theorem iu_X4 : ∀ w ∈ u_ws RX4 TX4 23, w ∈ zu_tbl := zu_all (by decide +kernel)
set_option maxRecDepth 20000 in
theorem ci_X3_init : zz_I yX3_init RX3 cX3_init 1 0 := ⟨zu_mem 10 rfl rfl, in_X3, zu_mem 11 rfl rfl, ⟨by decide +kernel, by decide +kernel, by decide +kernel, by decide +kernel⟩, rfl⟩
set_option maxRecDepth 20000 in
theorem ci_X2_init : zz_I yX2_init RX2 cX2_init 1 0 := ⟨zu_mem 18 rfl rfl, in_X2, zu_mem 19 rfl rfl, ⟨by decide +kernel, by decide +kernel, by decide +kernel, by decide +kernel⟩, rfl⟩
set_option maxRecDepth 20000 in
theorem ci_X1_init : zz_I yX1_init RX1 cX1_init 1 0 := ⟨zu_mem 33 rfl rfl, in_X1, zu_mem 34 rfl rfl, ⟨by decide +kernel, by decide +kernel, by decide +kernel, by decide +kernel⟩, rfl⟩
set_option maxRecDepth 20000 in
theorem cv_X3_hang : zz_V yX3_hang RX3 cX3_hang 4 (some .int) 3 := ⟨zu_mem 83 rfl rfl, zu_mem 84 rfl rfl, in_X3, zu_mem 85 rfl rfl, ⟨by decide +kernel, by decide +kernel, by decide +kernel, by decide +kernel⟩⟩
set_option maxRecDepth 20000 in
theorem cs_X3_isBank : zz_S yX3_isBank RX3 cX3_isBank 1 (some .boolean) 1 := ⟨zu_mem 87 rfl rfl, in_X3, zu_mem 88 rfl rfl, ⟨by decide +kernel, by decide +kernel, by decide +kernel, by decide +kernel⟩⟩
set_option maxRecDepth 20000 in
theorem cs_X3_isStrip : zz_S yX3_isStrip RX3 cX3_isStrip 1 (some .boolean) 1 := ⟨zu_mem 90 rfl rfl, in_X3, zu_mem 91 rfl rfl, ⟨by decide +kernel, by decide +kernel, by decide +kernel, by decide +kernel⟩⟩
set_option maxRecDepth 20000 in
theorem cv_X3_leave : zz_V yX3_leave RX3 cX3_leave 3 (some .int) 2 := ⟨zu_mem 94 rfl rfl, zu_sel 0 rfl rfl, in_X3, zu_mem 95 rfl rfl, ⟨by decide +kernel, by decide +kernel, by decide +kernel, by decide +kernel⟩⟩
set_option maxRecDepth 20000 in
theorem cv_X3_counted : zz_V yX3_counted RX3 cX3_counted 2 (some .int) 1 := ⟨zu_mem 98 rfl rfl, zu_sel 1 rfl rfl, in_X3, zu_mem 99 rfl rfl, ⟨by decide +kernel, by decide +kernel, by decide +kernel, by decide +kernel⟩⟩
set_option maxRecDepth 20000 in
theorem cv_X2_replace : zz_V yX2_replace RX2 cX2_replace 4 none 3 := ⟨zu_mem 101 rfl rfl, zu_mem 102 rfl rfl, in_X2, zu_mem 103 rfl rfl, ⟨by decide +kernel, by decide +kernel, by decide +kernel, by decide +kernel⟩⟩
set_option maxRecDepth 20000 in
theorem cv_X3_strike : zz_V yX3_strike RX3 cX3_strike 4 (some .int) 2 := ⟨zu_mem 106 rfl rfl, zu_mem 107 rfl rfl, in_X3, zu_mem 108 rfl rfl, ⟨by decide +kernel, by decide +kernel, by decide +kernel, by decide +kernel⟩⟩
set_option maxRecDepth 20000 in
theorem cv_X2_stripOf : zz_V yX2_stripOf RX2 cX2_stripOf 3 (some (.array .int)) 2 := ⟨zu_mem 110 rfl rfl, zu_mem 111 rfl rfl, in_X2, zu_mem 112 rfl rfl, ⟨by decide +kernel, by decide +kernel, by decide +kernel, by decide +kernel⟩⟩
set_option maxRecDepth 20000 in
theorem cv_X3_share : zz_V yX3_share RX3 cX3_share 5 (some .int) 3 := ⟨zu_mem 114 rfl rfl, zu_mem 115 rfl rfl, in_X3, zu_mem 116 rfl rfl, ⟨by decide +kernel, by decide +kernel, by decide +kernel, by decide +kernel⟩⟩
set_option maxRecDepth 20000 in
theorem cv_X3_size : zz_V yX3_size RX3 cX3_size 3 (some .int) 2 := ⟨zu_mem 118 rfl rfl, zu_mem 119 rfl rfl, in_X3, zu_mem 120 rfl rfl, ⟨by decide +kernel, by decide +kernel, by decide +kernel, by decide +kernel⟩⟩
set_option maxRecDepth 20000 in
theorem cv_X3_measure : zz_V yX3_measure RX3 cX3_measure 4 (some .int) 2 := ⟨zu_mem 123 rfl rfl, zu_sel 2 rfl rfl, in_X3, zu_mem 124 rfl rfl, ⟨by decide +kernel, by decide +kernel, by decide +kernel, by decide +kernel⟩⟩
set_option maxRecDepth 20000 in
theorem cv_X3_leaveFound : zz_V yX3_leaveFound RX3 cX3_leaveFound 2 (some .int) 1 := ⟨zu_mem 127 rfl rfl, zu_sel 3 rfl rfl, in_X3, zu_mem 128 rfl rfl, ⟨by decide +kernel, by decide +kernel, by decide +kernel, by decide +kernel⟩⟩
set_option maxRecDepth 20000 in
theorem cv_X3_get : zz_V yX3_get RX3 cX3_get 4 (some .int) 3 := ⟨zu_mem 130 rfl rfl, zu_mem 131 rfl rfl, in_X3, zu_mem 132 rfl rfl, ⟨by decide +kernel, by decide +kernel, by decide +kernel, by decide +kernel⟩⟩
set_option maxRecDepth 20000 in
theorem cv_X3_look : zz_V yX3_look RX3 cX3_look 5 (some .int) 3 := ⟨zu_mem 135 rfl rfl, zu_sel 4 rfl rfl, in_X3, zu_mem 136 rfl rfl, ⟨by decide +kernel, by decide +kernel, by decide +kernel, by decide +kernel⟩⟩
set_option maxRecDepth 20000 in
theorem cv_X2_refusalAt : zz_V yX2_refusalAt RX2 cX2_refusalAt 5 (some .int) 3 := ⟨zu_mem 138 rfl rfl, zu_mem 139 rfl rfl, in_X2, zu_mem 140 rfl rfl, ⟨by decide +kernel, by decide +kernel, by decide +kernel, by decide +kernel⟩⟩
set_option maxRecDepth 20000 in
theorem cv_X2_numberAt : zz_V yX2_numberAt RX2 cX2_numberAt 4 (some .int) 3 := ⟨zu_mem 143 rfl rfl, zu_mem 144 rfl rfl, in_X2, zu_mem 145 rfl rfl, ⟨by decide +kernel, by decide +kernel, by decide +kernel, by decide +kernel⟩⟩
set_option maxRecDepth 20000 in
theorem cv_X3_set : zz_V yX3_set RX3 cX3_set 6 (some .int) 4 := ⟨zu_mem 147 rfl rfl, zu_mem 148 rfl rfl, in_X3, zu_mem 149 rfl rfl, ⟨by decide +kernel, by decide +kernel, by decide +kernel, by decide +kernel⟩⟩
set_option maxRecDepth 20000 in
theorem cv_X3_put : zz_V yX3_put RX3 cX3_put 6 (some .int) 4 := ⟨zu_mem 152 rfl rfl, zu_sel 5 rfl rfl, in_X3, zu_mem 153 rfl rfl, ⟨by decide +kernel, by decide +kernel, by decide +kernel, by decide +kernel⟩⟩
set_option maxRecDepth 20000 in
theorem cs_X3_asNumber : zz_S yX3_asNumber RX3 cX3_asNumber 2 (some .int) 2 := ⟨zu_mem 155 rfl rfl, in_X3, zu_mem 156 rfl rfl, ⟨by decide +kernel, by decide +kernel, by decide +kernel, by decide +kernel⟩⟩
set_option maxRecDepth 20000 in
theorem cs_X3_asLevel : zz_S yX3_asLevel RX3 cX3_asLevel 1 (some .int) 1 := ⟨zu_mem 159 rfl rfl, in_X3, zu_mem 160 rfl rfl, ⟨by decide +kernel, by decide +kernel, by decide +kernel, by decide +kernel⟩⟩
set_option maxRecDepth 20000 in
theorem cv_X2_setAt : zz_V yX2_setAt RX2 cX2_setAt 5 none 4 := ⟨zu_mem 170 rfl rfl, zu_mem 171 rfl rfl, in_X2, zu_mem 172 rfl rfl, ⟨by decide +kernel, by decide +kernel, by decide +kernel, by decide +kernel⟩⟩
set_option maxRecDepth 20000 in
theorem cv_X3_patch : zz_V yX3_patch RX3 cX3_patch 7 (some .int) 5 := ⟨zu_mem 174 rfl rfl, zu_mem 175 rfl rfl, in_X3, zu_mem 176 rfl rfl, ⟨by decide +kernel, by decide +kernel, by decide +kernel, by decide +kernel⟩⟩
set_option maxRecDepth 20000 in
theorem cv_X3_ripple : zz_V yX3_ripple RX3 cX3_ripple 10 (some .int) 5 := ⟨zu_mem 178 rfl rfl, zu_mem 179 rfl rfl, in_X3, zu_mem 180 rfl rfl, ⟨by decide +kernel, by decide +kernel, by decide +kernel, by decide +kernel⟩⟩
set_option maxRecDepth 20000 in
theorem cv_X3_probe : zz_V yX3_probe RX3 cX3_probe 6 (some .int) 2 := ⟨zu_mem 182 rfl rfl, zu_mem 183 rfl rfl, in_X3, zu_mem 184 rfl rfl, ⟨by decide +kernel, by decide +kernel, by decide +kernel, by decide +kernel⟩⟩
set_option maxRecDepth 20000 in
theorem cs_X3_digitOf : zz_S yX3_digitOf RX3 cX3_digitOf 1 (some .int) 1 := ⟨zu_mem 186 rfl rfl, in_X3, zu_mem 187 rfl rfl, ⟨by decide +kernel, by decide +kernel, by decide +kernel, by decide +kernel⟩⟩
set_option maxRecDepth 20000 in
theorem cv_X3_poke : zz_V yX3_poke RX3 cX3_poke 7 (some .int) 3 := ⟨zu_mem 189 rfl rfl, zu_mem 190 rfl rfl, in_X3, zu_mem 191 rfl rfl, ⟨by decide +kernel, by decide +kernel, by decide +kernel, by decide +kernel⟩⟩
set_option maxRecDepth 20000 in
theorem cv_X3_shown : zz_V yX3_shown RX3 cX3_shown 3 (some .int) 2 := ⟨zu_mem 193 rfl rfl, zu_mem 194 rfl rfl, in_X3, zu_mem 195 rfl rfl, ⟨by decide +kernel, by decide +kernel, by decide +kernel, by decide +kernel⟩⟩
set_option maxRecDepth 20000 in
theorem cv_X3_findShown : zz_V yX3_findShown RX3 cX3_findShown 6 (some .int) 2 := ⟨zu_mem 198 rfl rfl, zu_sel 6 rfl rfl, in_X3, zu_mem 199 rfl rfl, ⟨by decide +kernel, by decide +kernel, by decide +kernel, by decide +kernel⟩⟩
set_option maxRecDepth 20000 in
theorem cv_X3_lit : zz_V yX3_lit RX3 cX3_lit 6 (some .int) 1 := ⟨zu_mem 201 rfl rfl, zu_mem 202 rfl rfl, in_X3, zu_mem 203 rfl rfl, ⟨by decide +kernel, by decide +kernel, by decide +kernel, by decide +kernel⟩⟩
set_option maxRecDepth 20000 in
theorem cv_X3_isLit : zz_V yX3_isLit RX3 cX3_isLit 3 (some .boolean) 2 := ⟨zu_mem 206 rfl rfl, zu_sel 7 rfl rfl, in_X3, zu_mem 207 rfl rfl, ⟨by decide +kernel, by decide +kernel, by decide +kernel, by decide +kernel⟩⟩
set_option maxRecDepth 20000 in
theorem cv_X3_fade : zz_V yX3_fade RX3 cX3_fade 6 (some .int) 4 := ⟨zu_mem 209 rfl rfl, zu_mem 210 rfl rfl, in_X3, zu_mem 211 rfl rfl, ⟨by decide +kernel, by decide +kernel, by decide +kernel, by decide +kernel⟩⟩
set_option maxRecDepth 20000 in
theorem ci_X0_init : zz_I yX0_init RX0 cX0_init 5 4 := ⟨zu_mem 214 rfl rfl, in_X0, zu_mem 215 rfl rfl, ⟨by decide +kernel, by decide +kernel, by decide +kernel, by decide +kernel⟩, rfl⟩
set_option maxRecDepth 20000 in
theorem cv_X3_tick : zz_V yX3_tick RX3 cX3_tick 4 (some .int) 0 := ⟨zu_mem 234 rfl rfl, zu_mem 235 rfl rfl, in_X3, zu_mem 236 rfl rfl, ⟨by decide +kernel, by decide +kernel, by decide +kernel, by decide +kernel⟩⟩
set_option maxRecDepth 20000 in
theorem cv_X3_runsOn : zz_V yX3_runsOn RX3 cX3_runsOn 4 (some .boolean) 1 := ⟨zu_mem 239 rfl rfl, zu_sel 8 rfl rfl, in_X3, zu_mem 240 rfl rfl, ⟨by decide +kernel, by decide +kernel, by decide +kernel, by decide +kernel⟩⟩
set_option maxRecDepth 20000 in
theorem cv_X3_countDropped : zz_V yX3_countDropped RX3 cX3_countDropped 2 none 1 := ⟨zu_mem 243 rfl rfl, zu_sel 9 rfl rfl, in_X3, zu_mem 244 rfl rfl, ⟨by decide +kernel, by decide +kernel, by decide +kernel, by decide +kernel⟩⟩
set_option maxRecDepth 20000 in
theorem cv_X0_nextLevel : zz_V yX0_nextLevel RX0 cX0_nextLevel 2 (some .int) 1 := ⟨zu_mem 246 rfl rfl, zu_mem 247 rfl rfl, in_X0, zu_mem 248 rfl rfl, ⟨by decide +kernel, by decide +kernel, by decide +kernel, by decide +kernel⟩⟩
set_option maxRecDepth 20000 in
theorem cv_X3_sheet : zz_V yX3_sheet RX3 cX3_sheet 5 (some .int) 2 := ⟨zu_mem 253 rfl rfl, zu_mem 254 rfl rfl, in_X3, zu_mem 255 rfl rfl, ⟨by decide +kernel, by decide +kernel, by decide +kernel, by decide +kernel⟩⟩
set_option maxRecDepth 20000 in
theorem cv_X1_replace : zz_V yX1_replace RX1 cX1_replace 2 none 1 := ⟨zu_mem 258 rfl rfl, zu_mem 259 rfl rfl, in_X1, zu_mem 260 rfl rfl, ⟨by decide +kernel, by decide +kernel, by decide +kernel, by decide +kernel⟩⟩
set_option maxRecDepth 20000 in
theorem cv_X3_cell : zz_V yX3_cell RX3 cX3_cell 4 (some .int) 2 := ⟨zu_mem 262 rfl rfl, zu_mem 263 rfl rfl, in_X3, zu_mem 264 rfl rfl, ⟨by decide +kernel, by decide +kernel, by decide +kernel, by decide +kernel⟩⟩
set_option maxRecDepth 20000 in
theorem cv_X1_refusalAt : zz_V yX1_refusalAt RX1 cX1_refusalAt 4 (some .int) 2 := ⟨zu_mem 266 rfl rfl, zu_mem 267 rfl rfl, in_X1, zu_mem 268 rfl rfl, ⟨by decide +kernel, by decide +kernel, by decide +kernel, by decide +kernel⟩⟩
set_option maxRecDepth 20000 in
theorem cv_X1_hasRow : zz_V yX1_hasRow RX1 cX1_hasRow 2 (some .boolean) 1 := ⟨zu_mem 270 rfl rfl, zu_mem 271 rfl rfl, in_X1, zu_mem 272 rfl rfl, ⟨by decide +kernel, by decide +kernel, by decide +kernel, by decide +kernel⟩⟩
set_option maxRecDepth 20000 in
theorem cv_X1_rowCount : zz_V yX1_rowCount RX1 cX1_rowCount 1 (some .int) 0 := ⟨zu_mem 274 rfl rfl, zu_mem 275 rfl rfl, in_X1, zu_mem 276 rfl rfl, ⟨by decide +kernel, by decide +kernel, by decide +kernel, by decide +kernel⟩⟩
set_option maxRecDepth 20000 in
theorem cv_X1_numberAt : zz_V yX1_numberAt RX1 cX1_numberAt 3 (some .int) 2 := ⟨zu_mem 278 rfl rfl, zu_mem 279 rfl rfl, in_X1, zu_mem 280 rfl rfl, ⟨by decide +kernel, by decide +kernel, by decide +kernel, by decide +kernel⟩⟩
set_option maxRecDepth 20000 in
theorem cv_X3_tear : zz_V yX3_tear RX3 cX3_tear 5 (some .int) 2 := ⟨zu_mem 282 rfl rfl, zu_mem 283 rfl rfl, in_X3, zu_mem 284 rfl rfl, ⟨by decide +kernel, by decide +kernel, by decide +kernel, by decide +kernel⟩⟩
set_option maxRecDepth 20000 in
theorem cv_X1_isThere : zz_V yX1_isThere RX1 cX1_isThere 1 (some .boolean) 0 := ⟨zu_mem 286 rfl rfl, zu_mem 287 rfl rfl, in_X1, zu_mem 288 rfl rfl, ⟨by decide +kernel, by decide +kernel, by decide +kernel, by decide +kernel⟩⟩
set_option maxRecDepth 20000 in
theorem cv_X1_rowOf : zz_V yX1_rowOf RX1 cX1_rowOf 2 (some (.array .int)) 1 := ⟨zu_mem 291 rfl rfl, zu_mem 292 rfl rfl, in_X1, zu_mem 293 rfl rfl, ⟨by decide +kernel, by decide +kernel, by decide +kernel, by decide +kernel⟩⟩
set_option maxRecDepth 20000 in
theorem cv_X1_replaceRow : zz_V yX1_replaceRow RX1 cX1_replaceRow 3 none 2 := ⟨zu_mem 295 rfl rfl, zu_mem 296 rfl rfl, in_X1, zu_mem 297 rfl rfl, ⟨by decide +kernel, by decide +kernel, by decide +kernel, by decide +kernel⟩⟩
set_option maxRecDepth 20000 in
theorem cv_X3_draw : zz_V yX3_draw RX3 cX3_draw 5 (some .int) 2 := ⟨zu_mem 299 rfl rfl, zu_mem 300 rfl rfl, in_X3, zu_mem 301 rfl rfl, ⟨by decide +kernel, by decide +kernel, by decide +kernel, by decide +kernel⟩⟩
set_option maxRecDepth 20000 in
theorem cv_X3_drawLamp : zz_V yX3_drawLamp RX3 cX3_drawLamp 5 (some .int) 3 := ⟨zu_mem 304 rfl rfl, zu_sel 10 rfl rfl, in_X3, zu_mem 305 rfl rfl, ⟨by decide +kernel, by decide +kernel, by decide +kernel, by decide +kernel⟩⟩
set_option maxRecDepth 20000 in
theorem cv_X1_write : zz_V yX1_write RX1 cX1_write 4 none 3 := ⟨zu_mem 307 rfl rfl, zu_mem 308 rfl rfl, in_X1, zu_mem 309 rfl rfl, ⟨by decide +kernel, by decide +kernel, by decide +kernel, by decide +kernel⟩⟩
set_option maxRecDepth 20000 in
theorem cv_X3_status : zz_V yX3_status RX3 cX3_status 1 (some .int) 0 := ⟨zu_mem 311 rfl rfl, zu_mem 312 rfl rfl, in_X3, zu_mem 313 rfl rfl, ⟨by decide +kernel, by decide +kernel, by decide +kernel, by decide +kernel⟩⟩
set_option maxRecDepth 20000 in
theorem cv_X3_count : zz_V yX3_count RX3 cX3_count 2 (some .int) 1 := ⟨zu_mem 315 rfl rfl, zu_mem 316 rfl rfl, in_X3, zu_mem 317 rfl rfl, ⟨by decide +kernel, by decide +kernel, by decide +kernel, by decide +kernel⟩⟩
set_option maxRecDepth 20000 in
theorem cv_X2_stripsThere : zz_V yX2_stripsThere RX2 cX2_stripsThere 3 (some .int) 0 := ⟨zu_mem 319 rfl rfl, zu_mem 320 rfl rfl, in_X2, zu_mem 321 rfl rfl, ⟨by decide +kernel, by decide +kernel, by decide +kernel, by decide +kernel⟩⟩
set_option maxRecDepth 20000 in
theorem cv_X2_placesSet : zz_V yX2_placesSet RX2 cX2_placesSet 1 (some .int) 0 := ⟨zu_mem 323 rfl rfl, zu_mem 324 rfl rfl, in_X2, zu_mem 325 rfl rfl, ⟨by decide +kernel, by decide +kernel, by decide +kernel, by decide +kernel⟩⟩
set_option maxRecDepth 20000 in
theorem cv_X1_cellsWritten : zz_V yX1_cellsWritten RX1 cX1_cellsWritten 1 (some .int) 0 := ⟨zu_mem 328 rfl rfl, zu_mem 329 rfl rfl, in_X1, zu_mem 330 rfl rfl, ⟨by decide +kernel, by decide +kernel, by decide +kernel, by decide +kernel⟩⟩
set_option maxRecDepth 20000 in
theorem ci_X4_init : zz_I yX4_init RX4 cX4_init 2 0 := ⟨zu_mem 334 rfl rfl, in_X4, zu_mem 335 rfl rfl, ⟨by decide +kernel, by decide +kernel, by decide +kernel, by decide +kernel⟩, rfl⟩
set_option maxRecDepth 20000 in
theorem cv_X4_hang : zz_V yX4_hang RX4 cX4_hang 8 (some .int) 3 := ⟨zu_mem 408 rfl rfl, zu_mem 409 rfl rfl, in_X4, zu_mem 410 rfl rfl, ⟨by decide +kernel, by decide +kernel, by decide +kernel, by decide +kernel⟩⟩
set_option maxRecDepth 20000 in
theorem cs_X4_isBank : zz_S yX4_isBank RX4 cX4_isBank 1 (some .boolean) 1 := ⟨zu_mem 412 rfl rfl, in_X4, zu_mem 413 rfl rfl, ⟨by decide +kernel, by decide +kernel, by decide +kernel, by decide +kernel⟩⟩
set_option maxRecDepth 20000 in
theorem cs_X4_in : zz_S yX4_in RX4 cX4_in 3 (some .boolean) 3 := ⟨zu_mem 415 rfl rfl, in_X4, zu_mem 416 rfl rfl, ⟨by decide +kernel, by decide +kernel, by decide +kernel, by decide +kernel⟩⟩
set_option maxRecDepth 20000 in
theorem cs_X4_isStrip : zz_S yX4_isStrip RX4 cX4_isStrip 1 (some .boolean) 1 := ⟨zu_mem 418 rfl rfl, in_X4, zu_mem 419 rfl rfl, ⟨by decide +kernel, by decide +kernel, by decide +kernel, by decide +kernel⟩⟩
set_option maxRecDepth 20000 in
theorem cv_X4_begins : zz_V yX4_begins RX4 cX4_begins 2 (some .boolean) 1 := ⟨zu_mem 422 rfl rfl, zu_sel 11 rfl rfl, in_X4, zu_mem 423 rfl rfl, ⟨by decide +kernel, by decide +kernel, by decide +kernel, by decide +kernel⟩⟩
set_option maxRecDepth 20000 in
theorem cv_X4_strike : zz_V yX4_strike RX4 cX4_strike 4 (some .int) 2 := ⟨zu_mem 425 rfl rfl, zu_mem 426 rfl rfl, in_X4, zu_mem 427 rfl rfl, ⟨by decide +kernel, by decide +kernel, by decide +kernel, by decide +kernel⟩⟩
set_option maxRecDepth 20000 in
theorem cv_X4_share : zz_V yX4_share RX4 cX4_share 4 (some .int) 3 := ⟨zu_mem 429 rfl rfl, zu_mem 430 rfl rfl, in_X4, zu_mem 431 rfl rfl, ⟨by decide +kernel, by decide +kernel, by decide +kernel, by decide +kernel⟩⟩
set_option maxRecDepth 20000 in
theorem cv_X4_size : zz_V yX4_size RX4 cX4_size 4 (some .int) 2 := ⟨zu_mem 433 rfl rfl, zu_mem 434 rfl rfl, in_X4, zu_mem 435 rfl rfl, ⟨by decide +kernel, by decide +kernel, by decide +kernel, by decide +kernel⟩⟩
set_option maxRecDepth 20000 in
theorem cv_X4_counted : zz_V yX4_counted RX4 cX4_counted 2 (some .int) 1 := ⟨zu_mem 438 rfl rfl, zu_sel 12 rfl rfl, in_X4, zu_mem 439 rfl rfl, ⟨by decide +kernel, by decide +kernel, by decide +kernel, by decide +kernel⟩⟩
set_option maxRecDepth 20000 in
theorem cv_X4_get : zz_V yX4_get RX4 cX4_get 4 (some .int) 3 := ⟨zu_mem 441 rfl rfl, zu_mem 442 rfl rfl, in_X4, zu_mem 443 rfl rfl, ⟨by decide +kernel, by decide +kernel, by decide +kernel, by decide +kernel⟩⟩
set_option maxRecDepth 20000 in
theorem cv_X4_refused : zz_V yX4_refused RX4 cX4_refused 4 (some .int) 3 := ⟨zu_mem 446 rfl rfl, zu_sel 13 rfl rfl, in_X4, zu_mem 447 rfl rfl, ⟨by decide +kernel, by decide +kernel, by decide +kernel, by decide +kernel⟩⟩
set_option maxRecDepth 20000 in
theorem cv_X4_why : zz_V yX4_why RX4 cX4_why 5 (some .int) 3 := ⟨zu_mem 450 rfl rfl, zu_sel 14 rfl rfl, in_X4, zu_mem 451 rfl rfl, ⟨by decide +kernel, by decide +kernel, by decide +kernel, by decide +kernel⟩⟩
set_option maxRecDepth 20000 in
theorem cv_X4_at : zz_V yX4_at RX4 cX4_at 4 (some .int) 3 := ⟨zu_mem 454 rfl rfl, zu_sel 15 rfl rfl, in_X4, zu_mem 455 rfl rfl, ⟨by decide +kernel, by decide +kernel, by decide +kernel, by decide +kernel⟩⟩
set_option maxRecDepth 20000 in
theorem cv_X4_set : zz_V yX4_set RX4 cX4_set 6 (some .int) 4 := ⟨zu_mem 457 rfl rfl, zu_mem 458 rfl rfl, in_X4, zu_mem 459 rfl rfl, ⟨by decide +kernel, by decide +kernel, by decide +kernel, by decide +kernel⟩⟩
set_option maxRecDepth 20000 in
theorem cv_X4_put : zz_V yX4_put RX4 cX4_put 5 none 4 := ⟨zu_mem 462 rfl rfl, zu_sel 16 rfl rfl, in_X4, zu_mem 463 rfl rfl, ⟨by decide +kernel, by decide +kernel, by decide +kernel, by decide +kernel⟩⟩
set_option maxRecDepth 20000 in
theorem cs_X4_kept : zz_S yX4_kept RX4 cX4_kept 3 (some .int) 2 := ⟨zu_mem 465 rfl rfl, in_X4, zu_mem 466 rfl rfl, ⟨by decide +kernel, by decide +kernel, by decide +kernel, by decide +kernel⟩⟩
set_option maxRecDepth 20000 in
theorem cs_X4_nearest : zz_S yX4_nearest RX4 cX4_nearest 1 (some .int) 1 := ⟨zu_mem 470 rfl rfl, in_X4, zu_mem 471 rfl rfl, ⟨by decide +kernel, by decide +kernel, by decide +kernel, by decide +kernel⟩⟩
set_option maxRecDepth 20000 in
theorem cv_X4_patch : zz_V yX4_patch RX4 cX4_patch 7 (some .int) 5 := ⟨zu_mem 475 rfl rfl, zu_mem 476 rfl rfl, in_X4, zu_mem 477 rfl rfl, ⟨by decide +kernel, by decide +kernel, by decide +kernel, by decide +kernel⟩⟩
set_option maxRecDepth 20000 in
theorem cv_X4_ripple : zz_V yX4_ripple RX4 cX4_ripple 8 (some .int) 5 := ⟨zu_mem 479 rfl rfl, zu_mem 480 rfl rfl, in_X4, zu_mem 481 rfl rfl, ⟨by decide +kernel, by decide +kernel, by decide +kernel, by decide +kernel⟩⟩
set_option maxRecDepth 20000 in
theorem cv_X4_probe : zz_V yX4_probe RX4 cX4_probe 6 (some .int) 2 := ⟨zu_mem 483 rfl rfl, zu_mem 484 rfl rfl, in_X4, zu_mem 485 rfl rfl, ⟨by decide +kernel, by decide +kernel, by decide +kernel, by decide +kernel⟩⟩
set_option maxRecDepth 20000 in
theorem cs_X4_digit : zz_S yX4_digit RX4 cX4_digit 1 (some .int) 1 := ⟨zu_mem 487 rfl rfl, in_X4, zu_mem 488 rfl rfl, ⟨by decide +kernel, by decide +kernel, by decide +kernel, by decide +kernel⟩⟩
set_option maxRecDepth 20000 in
theorem cv_X4_poke : zz_V yX4_poke RX4 cX4_poke 8 (some .int) 3 := ⟨zu_mem 490 rfl rfl, zu_mem 491 rfl rfl, in_X4, zu_mem 492 rfl rfl, ⟨by decide +kernel, by decide +kernel, by decide +kernel, by decide +kernel⟩⟩
set_option maxRecDepth 20000 in
theorem cv_X4_shown : zz_V yX4_shown RX4 cX4_shown 4 (some .int) 2 := ⟨zu_mem 494 rfl rfl, zu_mem 495 rfl rfl, in_X4, zu_mem 496 rfl rfl, ⟨by decide +kernel, by decide +kernel, by decide +kernel, by decide +kernel⟩⟩
set_option maxRecDepth 20000 in
theorem cv_X4_light : zz_V yX4_light RX4 cX4_light 4 (some .int) 2 := ⟨zu_mem 499 rfl rfl, zu_sel 17 rfl rfl, in_X4, zu_mem 500 rfl rfl, ⟨by decide +kernel, by decide +kernel, by decide +kernel, by decide +kernel⟩⟩
set_option maxRecDepth 20000 in
theorem cv_X4_lit : zz_V yX4_lit RX4 cX4_lit 6 (some .int) 1 := ⟨zu_mem 502 rfl rfl, zu_mem 503 rfl rfl, in_X4, zu_mem 504 rfl rfl, ⟨by decide +kernel, by decide +kernel, by decide +kernel, by decide +kernel⟩⟩
set_option maxRecDepth 20000 in
theorem cv_X4_fade : zz_V yX4_fade RX4 cX4_fade 5 (some .int) 4 := ⟨zu_mem 506 rfl rfl, zu_mem 507 rfl rfl, in_X4, zu_mem 508 rfl rfl, ⟨by decide +kernel, by decide +kernel, by decide +kernel, by decide +kernel⟩⟩
set_option maxRecDepth 20000 in
theorem cv_X4_tick : zz_V yX4_tick RX4 cX4_tick 9 (some .int) 0 := ⟨zu_mem 510 rfl rfl, zu_mem 511 rfl rfl, in_X4, zu_mem 512 rfl rfl, ⟨by decide +kernel, by decide +kernel, by decide +kernel, by decide +kernel⟩⟩
set_option maxRecDepth 20000 in
theorem cv_X4_sheet : zz_V yX4_sheet RX4 cX4_sheet 4 (some .int) 2 := ⟨zu_mem 514 rfl rfl, zu_mem 515 rfl rfl, in_X4, zu_mem 516 rfl rfl, ⟨by decide +kernel, by decide +kernel, by decide +kernel, by decide +kernel⟩⟩
set_option maxRecDepth 20000 in
theorem cv_X4_cell : zz_V yX4_cell RX4 cX4_cell 3 (some .int) 2 := ⟨zu_mem 518 rfl rfl, zu_mem 519 rfl rfl, in_X4, zu_mem 520 rfl rfl, ⟨by decide +kernel, by decide +kernel, by decide +kernel, by decide +kernel⟩⟩
set_option maxRecDepth 20000 in
theorem cv_X4_whyCell : zz_V yX4_whyCell RX4 cX4_whyCell 3 (some .int) 2 := ⟨zu_mem 523 rfl rfl, zu_sel 18 rfl rfl, in_X4, zu_mem 524 rfl rfl, ⟨by decide +kernel, by decide +kernel, by decide +kernel, by decide +kernel⟩⟩
set_option maxRecDepth 20000 in
theorem cv_X4_tear : zz_V yX4_tear RX4 cX4_tear 3 (some .int) 2 := ⟨zu_mem 526 rfl rfl, zu_mem 527 rfl rfl, in_X4, zu_mem 528 rfl rfl, ⟨by decide +kernel, by decide +kernel, by decide +kernel, by decide +kernel⟩⟩
set_option maxRecDepth 20000 in
theorem cv_X4_draw : zz_V yX4_draw RX4 cX4_draw 5 (some .int) 2 := ⟨zu_mem 530 rfl rfl, zu_mem 531 rfl rfl, in_X4, zu_mem 532 rfl rfl, ⟨by decide +kernel, by decide +kernel, by decide +kernel, by decide +kernel⟩⟩
set_option maxRecDepth 20000 in
theorem cv_X4_status : zz_V yX4_status RX4 cX4_status 1 (some .int) 0 := ⟨zu_mem 534 rfl rfl, zu_mem 535 rfl rfl, in_X4, zu_mem 536 rfl rfl, ⟨by decide +kernel, by decide +kernel, by decide +kernel, by decide +kernel⟩⟩
set_option maxRecDepth 20000 in
theorem cv_X4_count : zz_V yX4_count RX4 cX4_count 4 (some .int) 1 := ⟨zu_mem 538 rfl rfl, zu_mem 539 rfl rfl, in_X4, zu_mem 540 rfl rfl, ⟨by decide +kernel, by decide +kernel, by decide +kernel, by decide +kernel⟩⟩
