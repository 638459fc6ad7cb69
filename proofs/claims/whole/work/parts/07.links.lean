theorem tb_at (i : Nat) {w : Cond} (h : lw_tbl[i]? = some w) (g : goodWord w = true) : w ∈ tb_w := tb_of (List.mem_of_getElem? h) g
set_option maxRecDepth 100000 in
theorem oi_X0_3 : Cond.methodLink RX0 3 objectInit ∈ tb_w := tb_at 206 (by decide +kernel) (by decide +kernel)
set_option maxRecDepth 100000 in
theorem fl_X0_9 : fl_c RX0 9 0 0 := ⟨by decide, by decide, tb_at 207 (by decide +kernel) (by decide +kernel)⟩
set_option maxRecDepth 100000 in
theorem fl_X0_15 : fl_c RX0 15 0 1 := ⟨by decide, by decide, tb_at 208 (by decide +kernel) (by decide +kernel)⟩
set_option maxRecDepth 100000 in
theorem fl_X0_18 : fl_c RX0 18 0 2 := ⟨by decide, by decide, tb_at 210 (by decide +kernel) (by decide +kernel)⟩
set_option maxRecDepth 100000 in
theorem fl_X0_21 : fl_c RX0 21 0 3 := ⟨by decide, by decide, tb_at 212 (by decide +kernel) (by decide +kernel)⟩
set_option maxRecDepth 100000 in
theorem fl_X0_24 : fl_c RX0 24 0 4 := ⟨by decide, by decide, tb_at 214 (by decide +kernel) (by decide +kernel)⟩
set_option maxRecDepth 100000 in
theorem fl_X0_27 : fl_c RX0 27 0 5 := ⟨by decide, by decide, tb_at 217 (by decide +kernel) (by decide +kernel)⟩
set_option maxRecDepth 100000 in
theorem fl_X0_31 : fl_c RX0 31 0 6 := ⟨by decide, by decide, tb_at 219 (by decide +kernel) (by decide +kernel)⟩
set_option maxRecDepth 100000 in
theorem fl_X0_34 : fl_c RX0 34 0 7 := ⟨by decide, by decide, tb_at 221 (by decide +kernel) (by decide +kernel)⟩
set_option maxRecDepth 100000 in
theorem fl_X0_37 : fl_c RX0 37 0 8 := ⟨by decide, by decide, tb_at 222 (by decide +kernel) (by decide +kernel)⟩
set_option maxRecDepth 100000 in
theorem fl_X0_40 : fl_c RX0 40 0 9 := ⟨by decide, by decide, tb_at 225 (by decide +kernel) (by decide +kernel)⟩
set_option maxRecDepth 100000 in
theorem fl_X0_43 : fl_c RX0 43 0 10 := ⟨by decide, by decide, tb_at 228 (by decide +kernel) (by decide +kernel)⟩
set_option maxRecDepth 100000 in
theorem cm_X0_allOf : cm_c mX0_allOf 1 := ⟨tb_at 271 (by decide +kernel) (by decide +kernel), tb_at 30 (by decide +kernel) (by decide +kernel), ⟨by decide +kernel, by decide +kernel, by decide +kernel⟩, by decide, by decide +kernel⟩
set_option maxRecDepth 100000 in
theorem cs_X0_46 : cs_c RX0 46 mX0_allOf 1 := ⟨tb_at 269 (by decide +kernel) (by decide +kernel), tb_at 270 (by decide +kernel) (by decide +kernel), cm_X0_allOf, by decide⟩
set_option maxRecDepth 100000 in
theorem cm_X5_within : cm_c mX5_within 3 := ⟨tb_at 264 (by decide +kernel) (by decide +kernel), tb_at 25 (by decide +kernel) (by decide +kernel), ⟨by decide +kernel, by decide +kernel, by decide +kernel⟩, by decide, by decide +kernel⟩
set_option maxRecDepth 100000 in
theorem cn_X0_50 : cn_c RX0 50 mX5_within 3 := ⟨by decide +kernel, tb_at 263 (by decide +kernel) (by decide +kernel), cm_X5_within, by decide⟩
set_option maxRecDepth 100000 in
theorem cm_J6_bitCount_0f7a4 : cm_c mJ6_bitCount_0f7a4 1 := ⟨tb_at 291 (by decide +kernel) (by decide +kernel), tb_at 31 (by decide +kernel) (by decide +kernel), ⟨by decide +kernel, by decide +kernel, by decide +kernel⟩, by decide, by decide +kernel⟩
set_option maxRecDepth 100000 in
theorem cs_X0_54 : cs_c RX0 54 mJ6_bitCount_0f7a4 1 := ⟨tb_at 289 (by decide +kernel) (by decide +kernel), tb_at 290 (by decide +kernel) (by decide +kernel), cm_J6_bitCount_0f7a4, by decide⟩
set_option maxRecDepth 100000 in
theorem oi_X1_3 : Cond.methodLink RX1 3 objectInit ∈ tb_w := tb_at 145 (by decide +kernel) (by decide +kernel)
set_option maxRecDepth 100000 in
theorem fl_X1_9 : fl_c RX1 9 1 0 := ⟨by decide, by decide, tb_at 146 (by decide +kernel) (by decide +kernel)⟩
set_option maxRecDepth 100000 in
theorem fl_X1_15 : fl_c RX1 15 1 1 := ⟨by decide, by decide, tb_at 148 (by decide +kernel) (by decide +kernel)⟩
set_option maxRecDepth 100000 in
theorem fl_X1_18 : fl_c RX1 18 1 2 := ⟨by decide, by decide, tb_at 150 (by decide +kernel) (by decide +kernel)⟩
set_option maxRecDepth 100000 in
theorem fl_X1_22 : fl_c RX1 22 1 3 := ⟨by decide, by decide, tb_at 151 (by decide +kernel) (by decide +kernel)⟩
set_option maxRecDepth 100000 in
theorem fl_X1_25 : fl_c RX1 25 1 4 := ⟨by decide, by decide, tb_at 152 (by decide +kernel) (by decide +kernel)⟩
set_option maxRecDepth 100000 in
theorem fl_X1_28 : fl_c RX1 28 1 5 := ⟨by decide, by decide, tb_at 153 (by decide +kernel) (by decide +kernel)⟩
set_option maxRecDepth 100000 in
theorem fl_X1_31 : fl_c RX1 31 1 6 := ⟨by decide, by decide, tb_at 154 (by decide +kernel) (by decide +kernel)⟩
set_option maxRecDepth 100000 in
theorem fl_X1_34 : fl_c RX1 34 1 7 := ⟨by decide, by decide, tb_at 155 (by decide +kernel) (by decide +kernel)⟩
set_option maxRecDepth 100000 in
theorem cn_X1_37 : cn_c RX1 37 mX5_within 3 := ⟨by decide +kernel, tb_at 263 (by decide +kernel) (by decide +kernel), cm_X5_within, by decide⟩
set_option maxRecDepth 100000 in
theorem cm_X1_penceAt : cm_c mX1_penceAt 3 := ⟨tb_at 582 (by decide +kernel) (by decide +kernel), tb_at 28 (by decide +kernel) (by decide +kernel), ⟨by decide +kernel, by decide +kernel, by decide +kernel⟩, by decide, by decide +kernel⟩
set_option maxRecDepth 100000 in
theorem cv_X1_41 : cv_c RX1 41 mX1_penceAt 1 3 := ⟨by decide, rfl, tb_at 592 (by decide +kernel) (by decide +kernel), tb_at 580 (by decide +kernel) (by decide +kernel), tb_at 581 (by decide +kernel) (by decide +kernel), cm_X1_penceAt, by decide⟩
set_option maxRecDepth 100000 in
theorem oi_X2_3 : Cond.methodLink RX2 3 objectInit ∈ tb_w := tb_at 49 (by decide +kernel) (by decide +kernel)
set_option maxRecDepth 100000 in
theorem fl_X2_9 : fl_c RX2 9 2 0 := ⟨by decide, by decide, tb_at 50 (by decide +kernel) (by decide +kernel)⟩
set_option maxRecDepth 100000 in
theorem fl_X2_15 : fl_c RX2 15 2 1 := ⟨by decide, by decide, tb_at 52 (by decide +kernel) (by decide +kernel)⟩
set_option maxRecDepth 100000 in
theorem fl_X2_18 : fl_c RX2 18 2 2 := ⟨by decide, by decide, tb_at 53 (by decide +kernel) (by decide +kernel)⟩
set_option maxRecDepth 100000 in
theorem fl_X2_21 : fl_c RX2 21 2 3 := ⟨by decide, by decide, tb_at 54 (by decide +kernel) (by decide +kernel)⟩
set_option maxRecDepth 100000 in
theorem fl_X2_24 : fl_c RX2 24 2 4 := ⟨by decide, by decide, tb_at 55 (by decide +kernel) (by decide +kernel)⟩
set_option maxRecDepth 100000 in
theorem fl_X2_27 : fl_c RX2 27 2 5 := ⟨by decide, by decide, tb_at 56 (by decide +kernel) (by decide +kernel)⟩
set_option maxRecDepth 100000 in
theorem fl_X2_30 : fl_c RX2 30 2 6 := ⟨by decide, by decide, tb_at 57 (by decide +kernel) (by decide +kernel)⟩
set_option maxRecDepth 100000 in
theorem fl_X2_33 : fl_c RX2 33 2 7 := ⟨by decide, by decide, tb_at 58 (by decide +kernel) (by decide +kernel)⟩
set_option maxRecDepth 100000 in
theorem fl_X2_36 : fl_c RX2 36 2 8 := ⟨by decide, by decide, tb_at 59 (by decide +kernel) (by decide +kernel)⟩
set_option maxRecDepth 100000 in
theorem fl_X2_39 : fl_c RX2 39 2 9 := ⟨by decide, by decide, tb_at 60 (by decide +kernel) (by decide +kernel)⟩
set_option maxRecDepth 100000 in
theorem fl_X2_43 : fl_c RX2 43 2 10 := ⟨by decide, by decide, tb_at 61 (by decide +kernel) (by decide +kernel)⟩
set_option maxRecDepth 100000 in
theorem fl_X2_46 : fl_c RX2 46 2 11 := ⟨by decide, by decide, tb_at 62 (by decide +kernel) (by decide +kernel)⟩
set_option maxRecDepth 100000 in
theorem fl_X2_49 : fl_c RX2 49 0 4 := ⟨by decide, by decide, tb_at 215 (by decide +kernel) (by decide +kernel)⟩
set_option maxRecDepth 100000 in
theorem fl_X2_52 : fl_c RX2 52 0 8 := ⟨by decide, by decide, tb_at 223 (by decide +kernel) (by decide +kernel)⟩
set_option maxRecDepth 100000 in
theorem fl_X2_54 : fl_c RX2 54 0 9 := ⟨by decide, by decide, tb_at 226 (by decide +kernel) (by decide +kernel)⟩
set_option maxRecDepth 100000 in
theorem fl_X2_56 : fl_c RX2 56 0 10 := ⟨by decide, by decide, tb_at 229 (by decide +kernel) (by decide +kernel)⟩
set_option maxRecDepth 100000 in
theorem kc_X2_59 : Cond.constant RX2 59 1000000000 ∈ tb_w := tb_at 359 (by decide +kernel) (by decide +kernel)
set_option maxRecDepth 100000 in
theorem cm_X2_search : cm_c mX2_search 3 := ⟨tb_at 363 (by decide +kernel) (by decide +kernel), tb_at 26 (by decide +kernel) (by decide +kernel), ⟨by decide +kernel, by decide +kernel, by decide +kernel⟩, by decide, by decide +kernel⟩
set_option maxRecDepth 100000 in
theorem cv_X2_60 : cv_c RX2 60 mX2_search 2 3 := ⟨by decide, rfl, tb_at 360 (by decide +kernel) (by decide +kernel), tb_at 362 (by decide +kernel) (by decide +kernel), tb_at 1 (by decide +kernel) (by decide +kernel), cm_X2_search, by decide⟩
set_option maxRecDepth 100000 in
theorem cm_X2_work : cm_c mX2_work 2 := ⟨tb_at 367 (by decide +kernel) (by decide +kernel), tb_at 26 (by decide +kernel) (by decide +kernel), ⟨by decide +kernel, by decide +kernel, by decide +kernel⟩, by decide, by decide +kernel⟩
set_option maxRecDepth 100000 in
theorem cv_X2_64 : cv_c RX2 64 mX2_work 2 2 := ⟨by decide, rfl, tb_at 364 (by decide +kernel) (by decide +kernel), tb_at 366 (by decide +kernel) (by decide +kernel), tb_at 2 (by decide +kernel) (by decide +kernel), cm_X2_work, by decide⟩
set_option maxRecDepth 100000 in
theorem cn_X2_68 : cn_c RX2 68 mX5_within 3 := ⟨by decide +kernel, tb_at 263 (by decide +kernel) (by decide +kernel), cm_X5_within, by decide⟩
set_option maxRecDepth 100000 in
theorem cm_X2_numberAt : cm_c mX2_numberAt 1 := ⟨tb_at 387 (by decide +kernel) (by decide +kernel), tb_at 26 (by decide +kernel) (by decide +kernel), ⟨by decide +kernel, by decide +kernel, by decide +kernel⟩, by decide, by decide +kernel⟩
set_option maxRecDepth 100000 in
theorem cv_X2_72 : cv_c RX2 72 mX2_numberAt 2 1 := ⟨by decide, rfl, tb_at 396 (by decide +kernel) (by decide +kernel), tb_at 385 (by decide +kernel) (by decide +kernel), tb_at 386 (by decide +kernel) (by decide +kernel), cm_X2_numberAt, by decide⟩
set_option maxRecDepth 100000 in
theorem mx_X2_76 : Cond.methodLink RX2 76 Lib.Math.max.name ∈ tb_w ∧ Cond.static Lib.Math.max.name ∈ tb_w ∧ Cond.initialized "java/lang/Math" ∈ tb_w ∧ Cond.code Lib.Math.max.name Lib.Math.max.code 2 (some .int) ∈ tb_w := ⟨tb_at 368 (by decide +kernel) (by decide +kernel), tb_at 369 (by decide +kernel) (by decide +kernel), tb_at 32 (by decide +kernel) (by decide +kernel), tb_at 370 (by decide +kernel) (by decide +kernel)⟩
set_option maxRecDepth 100000 in
theorem cm_X2_keepTrial : cm_c mX2_keepTrial 2 := ⟨tb_at 374 (by decide +kernel) (by decide +kernel), tb_at 26 (by decide +kernel) (by decide +kernel), ⟨by decide +kernel, by decide +kernel, by decide +kernel⟩, by decide, by decide +kernel⟩
set_option maxRecDepth 100000 in
theorem cv_X2_81 : cv_c RX2 81 mX2_keepTrial 2 2 := ⟨by decide, rfl, tb_at 371 (by decide +kernel) (by decide +kernel), tb_at 373 (by decide +kernel) (by decide +kernel), tb_at 3 (by decide +kernel) (by decide +kernel), cm_X2_keepTrial, by decide⟩
set_option maxRecDepth 100000 in
theorem oi_X3_3 : Cond.methodLink RX3 3 objectInit ∈ tb_w := tb_at 480 (by decide +kernel) (by decide +kernel)
set_option maxRecDepth 100000 in
theorem fl_X3_9 : fl_c RX3 9 3 4 := ⟨by decide, by decide, tb_at 486 (by decide +kernel) (by decide +kernel)⟩
set_option maxRecDepth 100000 in
theorem fl_X3_15 : fl_c RX3 15 3 5 := ⟨by decide, by decide, tb_at 487 (by decide +kernel) (by decide +kernel)⟩
set_option maxRecDepth 100000 in
theorem fl_X3_18 : fl_c RX3 18 3 1 := ⟨by decide, by decide, tb_at 483 (by decide +kernel) (by decide +kernel)⟩
set_option maxRecDepth 100000 in
theorem fl_X3_21 : fl_c RX3 21 3 2 := ⟨by decide, by decide, tb_at 484 (by decide +kernel) (by decide +kernel)⟩
set_option maxRecDepth 100000 in
theorem fl_X3_24 : fl_c RX3 24 3 0 := ⟨by decide, by decide, tb_at 481 (by decide +kernel) (by decide +kernel)⟩
set_option maxRecDepth 100000 in
theorem fl_X3_27 : fl_c RX3 27 3 3 := ⟨by decide, by decide, tb_at 485 (by decide +kernel) (by decide +kernel)⟩
set_option maxRecDepth 100000 in
theorem cn_X3_31 : cn_c RX3 31 mX5_within 3 := ⟨by decide +kernel, tb_at 263 (by decide +kernel) (by decide +kernel), cm_X5_within, by decide⟩
set_option maxRecDepth 100000 in
theorem cm_X3_cutHere : cm_c mX3_cutHere 4 := ⟨tb_at 533 (by decide +kernel) (by decide +kernel), tb_at 33 (by decide +kernel) (by decide +kernel), ⟨by decide +kernel, by decide +kernel, by decide +kernel⟩, by decide, by decide +kernel⟩
set_option maxRecDepth 100000 in
theorem cv_X3_35 : cv_c RX3 35 mX3_cutHere 3 4 := ⟨by decide, rfl, tb_at 530 (by decide +kernel) (by decide +kernel), tb_at 532 (by decide +kernel) (by decide +kernel), tb_at 7 (by decide +kernel) (by decide +kernel), cm_X3_cutHere, by decide⟩
set_option maxRecDepth 100000 in
theorem cm_X3_cutCover : cm_c mX3_cutCover 2 := ⟨tb_at 529 (by decide +kernel) (by decide +kernel), tb_at 33 (by decide +kernel) (by decide +kernel), ⟨by decide +kernel, by decide +kernel, by decide +kernel⟩, by decide, by decide +kernel⟩
set_option maxRecDepth 100000 in
theorem cv_X3_39 : cv_c RX3 39 mX3_cutCover 3 2 := ⟨by decide, rfl, tb_at 547 (by decide +kernel) (by decide +kernel), tb_at 527 (by decide +kernel) (by decide +kernel), tb_at 528 (by decide +kernel) (by decide +kernel), cm_X3_cutCover, by decide⟩
set_option maxRecDepth 100000 in
theorem cm_X3_isFree : cm_c mX3_isFree 4 := ⟨tb_at 537 (by decide +kernel) (by decide +kernel), tb_at 33 (by decide +kernel) (by decide +kernel), ⟨by decide +kernel, by decide +kernel, by decide +kernel⟩, by decide, by decide +kernel⟩
set_option maxRecDepth 100000 in
theorem cv_X3_43 : cv_c RX3 43 mX3_isFree 3 4 := ⟨by decide, rfl, tb_at 534 (by decide +kernel) (by decide +kernel), tb_at 536 (by decide +kernel) (by decide +kernel), tb_at 8 (by decide +kernel) (by decide +kernel), cm_X3_isFree, by decide⟩
set_option maxRecDepth 100000 in
theorem cm_X3_fill : cm_c mX3_fill 5 := ⟨tb_at 521 (by decide +kernel) (by decide +kernel), tb_at 33 (by decide +kernel) (by decide +kernel), ⟨by decide +kernel, by decide +kernel, by decide +kernel⟩, by decide, by decide +kernel⟩
set_option maxRecDepth 100000 in
theorem cv_X3_46 : cv_c RX3 46 mX3_fill 3 5 := ⟨by decide, rfl, tb_at 538 (by decide +kernel) (by decide +kernel), tb_at 519 (by decide +kernel) (by decide +kernel), tb_at 520 (by decide +kernel) (by decide +kernel), cm_X3_fill, by decide⟩
set_option maxRecDepth 100000 in
theorem oi_X4_3 : Cond.methodLink RX4 3 objectInit ∈ tb_w := tb_at 94 (by decide +kernel) (by decide +kernel)
set_option maxRecDepth 100000 in
theorem fl_X4_9 : fl_c RX4 9 4 0 := ⟨by decide, by decide, tb_at 95 (by decide +kernel) (by decide +kernel)⟩
set_option maxRecDepth 100000 in
theorem fl_X4_15 : fl_c RX4 15 4 1 := ⟨by decide, by decide, tb_at 97 (by decide +kernel) (by decide +kernel)⟩
set_option maxRecDepth 100000 in
theorem fl_X4_18 : fl_c RX4 18 4 2 := ⟨by decide, by decide, tb_at 99 (by decide +kernel) (by decide +kernel)⟩
set_option maxRecDepth 100000 in
theorem fl_X4_21 : fl_c RX4 21 4 3 := ⟨by decide, by decide, tb_at 101 (by decide +kernel) (by decide +kernel)⟩
set_option maxRecDepth 100000 in
theorem fl_X4_25 : fl_c RX4 25 4 4 := ⟨by decide, by decide, tb_at 103 (by decide +kernel) (by decide +kernel)⟩
set_option maxRecDepth 100000 in
theorem fl_X4_28 : fl_c RX4 28 4 5 := ⟨by decide, by decide, tb_at 105 (by decide +kernel) (by decide +kernel)⟩
set_option maxRecDepth 100000 in
theorem fl_X4_31 : fl_c RX4 31 4 6 := ⟨by decide, by decide, tb_at 107 (by decide +kernel) (by decide +kernel)⟩
set_option maxRecDepth 100000 in
theorem fl_X4_34 : fl_c RX4 34 4 7 := ⟨by decide, by decide, tb_at 108 (by decide +kernel) (by decide +kernel)⟩
set_option maxRecDepth 100000 in
theorem fl_X4_37 : fl_c RX4 37 4 8 := ⟨by decide, by decide, tb_at 109 (by decide +kernel) (by decide +kernel)⟩
set_option maxRecDepth 100000 in
theorem fl_X4_40 : fl_c RX4 40 4 9 := ⟨by decide, by decide, tb_at 110 (by decide +kernel) (by decide +kernel)⟩
set_option maxRecDepth 100000 in
theorem fl_X4_43 : fl_c RX4 43 4 10 := ⟨by decide, by decide, tb_at 111 (by decide +kernel) (by decide +kernel)⟩
set_option maxRecDepth 100000 in
theorem fl_X4_46 : fl_c RX4 46 4 11 := ⟨by decide, by decide, tb_at 112 (by decide +kernel) (by decide +kernel)⟩
set_option maxRecDepth 100000 in
theorem cm_X4_readWords : cm_c mX4_readWords 0 := ⟨tb_at 431 (by decide +kernel) (by decide +kernel), tb_at 27 (by decide +kernel) (by decide +kernel), ⟨by decide +kernel, by decide +kernel, by decide +kernel⟩, by decide, by decide +kernel⟩
set_option maxRecDepth 100000 in
theorem cv_X4_49 : cv_c RX4 49 mX4_readWords 4 0 := ⟨by decide, rfl, tb_at 428 (by decide +kernel) (by decide +kernel), tb_at 429 (by decide +kernel) (by decide +kernel), tb_at 430 (by decide +kernel) (by decide +kernel), cm_X4_readWords, by decide⟩
set_option maxRecDepth 100000 in
theorem kc_X4_53 : Cond.constant RX4 53 1000000000 ∈ tb_w := tb_at 432 (by decide +kernel) (by decide +kernel)
set_option maxRecDepth 100000 in
theorem cm_X4_weigh : cm_c mX4_weigh 3 := ⟨tb_at 436 (by decide +kernel) (by decide +kernel), tb_at 27 (by decide +kernel) (by decide +kernel), ⟨by decide +kernel, by decide +kernel, by decide +kernel⟩, by decide, by decide +kernel⟩
set_option maxRecDepth 100000 in
theorem cv_X4_54 : cv_c RX4 54 mX4_weigh 4 3 := ⟨by decide, rfl, tb_at 433 (by decide +kernel) (by decide +kernel), tb_at 435 (by decide +kernel) (by decide +kernel), tb_at 4 (by decide +kernel) (by decide +kernel), cm_X4_weigh, by decide⟩
set_option maxRecDepth 100000 in
theorem cm_X4_layOut : cm_c mX4_layOut 1 := ⟨tb_at 440 (by decide +kernel) (by decide +kernel), tb_at 27 (by decide +kernel) (by decide +kernel), ⟨by decide +kernel, by decide +kernel, by decide +kernel⟩, by decide, by decide +kernel⟩
set_option maxRecDepth 100000 in
theorem cv_X4_58 : cv_c RX4 58 mX4_layOut 4 1 := ⟨by decide, rfl, tb_at 437 (by decide +kernel) (by decide +kernel), tb_at 439 (by decide +kernel) (by decide +kernel), tb_at 5 (by decide +kernel) (by decide +kernel), cm_X4_layOut, by decide⟩
set_option maxRecDepth 100000 in
theorem oi_X5_3 : Cond.methodLink RX5 3 objectInit ∈ tb_w := tb_at 39 (by decide +kernel) (by decide +kernel)
set_option maxRecDepth 100000 in
theorem nq_X5_9 : Cond.classLink RX5 9 "Bindery$Book" ∈ tb_w := tb_at 42 (by decide +kernel) (by decide +kernel)
set_option maxRecDepth 100000 in
theorem fl_X5_11 : fl_c RX5 11 5 0 := ⟨by decide, by decide, tb_at 173 (by decide +kernel) (by decide +kernel)⟩
set_option maxRecDepth 100000 in
theorem nw_X5_15 : Cond.classLink RX5 15 (cl_R 2) ∈ tb_w := tb_at 44 (by decide +kernel) (by decide +kernel)
set_option maxRecDepth 100000 in
theorem cm_X2_init : cm_c mX2_init 0 := ⟨tb_at 48 (by decide +kernel) (by decide +kernel), tb_at 26 (by decide +kernel) (by decide +kernel), ⟨by decide +kernel, by decide +kernel, by decide +kernel⟩, by decide, by decide +kernel⟩
set_option maxRecDepth 100000 in
theorem ci_X5_17 : ci_c RX5 17 mX2_init 0 := ⟨Or.inr (by decide +kernel), tb_at 47 (by decide +kernel) (by decide +kernel), rfl, rfl, cm_X2_init, by decide⟩
set_option maxRecDepth 100000 in
theorem fl_X5_18 : fl_c RX5 18 5 1 := ⟨by decide, by decide, tb_at 174 (by decide +kernel) (by decide +kernel)⟩
set_option maxRecDepth 100000 in
theorem nw_X5_22 : Cond.classLink RX5 22 (cl_R 4) ∈ tb_w := tb_at 89 (by decide +kernel) (by decide +kernel)
set_option maxRecDepth 100000 in
theorem cm_X4_init : cm_c mX4_init 0 := ⟨tb_at 93 (by decide +kernel) (by decide +kernel), tb_at 27 (by decide +kernel) (by decide +kernel), ⟨by decide +kernel, by decide +kernel, by decide +kernel⟩, by decide, by decide +kernel⟩
set_option maxRecDepth 100000 in
theorem ci_X5_24 : ci_c RX5 24 mX4_init 0 := ⟨Or.inl (tb_at 91 (by decide +kernel) (by decide +kernel)), tb_at 92 (by decide +kernel) (by decide +kernel), rfl, rfl, cm_X4_init, by decide⟩
set_option maxRecDepth 100000 in
theorem fl_X5_25 : fl_c RX5 25 5 2 := ⟨by decide, by decide, tb_at 175 (by decide +kernel) (by decide +kernel)⟩
set_option maxRecDepth 100000 in
theorem nq_X5_29 : Cond.classLink RX5 29 "Bindery$Skin" ∈ tb_w := tb_at 138 (by decide +kernel) (by decide +kernel)
set_option maxRecDepth 100000 in
theorem fl_X5_31 : fl_c RX5 31 5 3 := ⟨by decide, by decide, tb_at 176 (by decide +kernel) (by decide +kernel)⟩
set_option maxRecDepth 100000 in
theorem nw_X5_35 : Cond.classLink RX5 35 (cl_R 1) ∈ tb_w := tb_at 140 (by decide +kernel) (by decide +kernel)
set_option maxRecDepth 100000 in
theorem cm_X1_init : cm_c mX1_init 0 := ⟨tb_at 144 (by decide +kernel) (by decide +kernel), tb_at 28 (by decide +kernel) (by decide +kernel), ⟨by decide +kernel, by decide +kernel, by decide +kernel⟩, by decide, by decide +kernel⟩
set_option maxRecDepth 100000 in
theorem ci_X5_37 : ci_c RX5 37 mX1_init 0 := ⟨Or.inr (by decide +kernel), tb_at 143 (by decide +kernel) (by decide +kernel), rfl, rfl, cm_X1_init, by decide⟩
set_option maxRecDepth 100000 in
theorem fl_X5_38 : fl_c RX5 38 5 4 := ⟨by decide, by decide, tb_at 177 (by decide +kernel) (by decide +kernel)⟩
set_option maxRecDepth 100000 in
theorem fl_X5_42 : fl_c RX5 42 5 5 := ⟨by decide, by decide, tb_at 178 (by decide +kernel) (by decide +kernel)⟩
set_option maxRecDepth 100000 in
theorem fl_X5_46 : fl_c RX5 46 5 6 := ⟨by decide, by decide, tb_at 179 (by decide +kernel) (by decide +kernel)⟩
set_option maxRecDepth 100000 in
theorem fl_X5_49 : fl_c RX5 49 5 7 := ⟨by decide, by decide, tb_at 180 (by decide +kernel) (by decide +kernel)⟩
set_option maxRecDepth 100000 in
theorem nw_X5_9 : Cond.classLink RX5 9 (cl_R 0) ∈ tb_w := tb_at 42 (by decide +kernel) (by decide +kernel)
set_option maxRecDepth 100000 in
theorem cm_X0_init : cm_c mX0_init 0 := ⟨tb_at 205 (by decide +kernel) (by decide +kernel), tb_at 30 (by decide +kernel) (by decide +kernel), ⟨by decide +kernel, by decide +kernel, by decide +kernel⟩, by decide, by decide +kernel⟩
set_option maxRecDepth 100000 in
theorem ci_X5_52 : ci_c RX5 52 mX0_init 0 := ⟨Or.inl (tb_at 203 (by decide +kernel) (by decide +kernel)), tb_at 204 (by decide +kernel) (by decide +kernel), rfl, rfl, cm_X0_init, by decide⟩
set_option maxRecDepth 100000 in
theorem cm_X5_bookAt : cm_c mX5_bookAt 1 := ⟨tb_at 261 (by decide +kernel) (by decide +kernel), tb_at 25 (by decide +kernel) (by decide +kernel), ⟨by decide +kernel, by decide +kernel, by decide +kernel⟩, by decide, by decide +kernel⟩
set_option maxRecDepth 100000 in
theorem cv_X5_53 : cv_c RX5 53 mX5_bookAt 5 1 := ⟨by decide, rfl, tb_at 258 (by decide +kernel) (by decide +kernel), tb_at 260 (by decide +kernel) (by decide +kernel), tb_at 0 (by decide +kernel) (by decide +kernel), cm_X5_bookAt, by decide⟩
set_option maxRecDepth 100000 in
theorem cs_X5_57 : cs_c RX5 57 mX5_within 3 := ⟨tb_at 262 (by decide +kernel) (by decide +kernel), tb_at 263 (by decide +kernel) (by decide +kernel), cm_X5_within, by decide⟩
set_option maxRecDepth 100000 in
theorem fl_X5_61 : fl_c RX5 61 0 6 := ⟨by decide, by decide, tb_at 220 (by decide +kernel) (by decide +kernel)⟩
set_option maxRecDepth 100000 in
theorem cm_X0_addGathering : cm_c mX0_addGathering 1 := ⟨tb_at 268 (by decide +kernel) (by decide +kernel), tb_at 30 (by decide +kernel) (by decide +kernel), ⟨by decide +kernel, by decide +kernel, by decide +kernel⟩, by decide, by decide +kernel⟩
set_option maxRecDepth 100000 in
theorem cv_X5_64 : cv_c RX5 64 mX0_addGathering 0 1 := ⟨by decide, rfl, tb_at 265 (by decide +kernel) (by decide +kernel), tb_at 266 (by decide +kernel) (by decide +kernel), tb_at 267 (by decide +kernel) (by decide +kernel), cm_X0_addGathering, by decide⟩
set_option maxRecDepth 100000 in
theorem cm_X0_hasGathering : cm_c mX0_hasGathering 1 := ⟨tb_at 279 (by decide +kernel) (by decide +kernel), tb_at 30 (by decide +kernel) (by decide +kernel), ⟨by decide +kernel, by decide +kernel, by decide +kernel⟩, by decide, by decide +kernel⟩
set_option maxRecDepth 100000 in
theorem cv_X5_68 : cv_c RX5 68 mX0_hasGathering 0 1 := ⟨by decide, rfl, tb_at 276 (by decide +kernel) (by decide +kernel), tb_at 277 (by decide +kernel) (by decide +kernel), tb_at 278 (by decide +kernel) (by decide +kernel), cm_X0_hasGathering, by decide⟩
set_option maxRecDepth 100000 in
theorem cm_X0_hasLeaves : cm_c mX0_hasLeaves 2 := ⟨tb_at 284 (by decide +kernel) (by decide +kernel), tb_at 30 (by decide +kernel) (by decide +kernel), ⟨by decide +kernel, by decide +kernel, by decide +kernel⟩, by decide, by decide +kernel⟩
set_option maxRecDepth 100000 in
theorem cv_X5_72 : cv_c RX5 72 mX0_hasLeaves 0 2 := ⟨by decide, rfl, tb_at 281 (by decide +kernel) (by decide +kernel), tb_at 282 (by decide +kernel) (by decide +kernel), tb_at 283 (by decide +kernel) (by decide +kernel), cm_X0_hasLeaves, by decide⟩
set_option maxRecDepth 100000 in
theorem cm_X0_inspect : cm_c mX0_inspect 2 := ⟨tb_at 288 (by decide +kernel) (by decide +kernel), tb_at 30 (by decide +kernel) (by decide +kernel), ⟨by decide +kernel, by decide +kernel, by decide +kernel⟩, by decide, by decide +kernel⟩
set_option maxRecDepth 100000 in
theorem cv_X5_76 : cv_c RX5 76 mX0_inspect 0 2 := ⟨by decide, rfl, tb_at 285 (by decide +kernel) (by decide +kernel), tb_at 286 (by decide +kernel) (by decide +kernel), tb_at 287 (by decide +kernel) (by decide +kernel), cm_X0_inspect, by decide⟩
set_option maxRecDepth 100000 in
theorem cm_X0_mayMoveOn : cm_c mX0_mayMoveOn 0 := ⟨tb_at 302 (by decide +kernel) (by decide +kernel), tb_at 30 (by decide +kernel) (by decide +kernel), ⟨by decide +kernel, by decide +kernel, by decide +kernel⟩, by decide, by decide +kernel⟩
set_option maxRecDepth 100000 in
theorem cv_X5_80 : cv_c RX5 80 mX0_mayMoveOn 0 0 := ⟨by decide, rfl, tb_at 299 (by decide +kernel) (by decide +kernel), tb_at 300 (by decide +kernel) (by decide +kernel), tb_at 301 (by decide +kernel) (by decide +kernel), cm_X0_mayMoveOn, by decide⟩
set_option maxRecDepth 100000 in
theorem cm_X1_notePass : cm_c mX1_notePass 2 := ⟨tb_at 306 (by decide +kernel) (by decide +kernel), tb_at 28 (by decide +kernel) (by decide +kernel), ⟨by decide +kernel, by decide +kernel, by decide +kernel⟩, by decide, by decide +kernel⟩
set_option maxRecDepth 100000 in
theorem cv_X5_84 : cv_c RX5 84 mX1_notePass 1 2 := ⟨by decide, rfl, tb_at 303 (by decide +kernel) (by decide +kernel), tb_at 304 (by decide +kernel) (by decide +kernel), tb_at 305 (by decide +kernel) (by decide +kernel), cm_X1_notePass, by decide⟩
set_option maxRecDepth 100000 in
theorem cm_X0_moveOn : cm_c mX0_moveOn 0 := ⟨tb_at 310 (by decide +kernel) (by decide +kernel), tb_at 30 (by decide +kernel) (by decide +kernel), ⟨by decide +kernel, by decide +kernel, by decide +kernel⟩, by decide, by decide +kernel⟩
set_option maxRecDepth 100000 in
theorem cv_X5_88 : cv_c RX5 88 mX0_moveOn 0 0 := ⟨by decide, rfl, tb_at 307 (by decide +kernel) (by decide +kernel), tb_at 308 (by decide +kernel) (by decide +kernel), tb_at 309 (by decide +kernel) (by decide +kernel), cm_X0_moveOn, by decide⟩
set_option maxRecDepth 100000 in
theorem fl_X5_92 : fl_c RX5 92 0 5 := ⟨by decide, by decide, tb_at 218 (by decide +kernel) (by decide +kernel)⟩
set_option maxRecDepth 100000 in
theorem cm_X0_leavesBelieved : cm_c mX0_leavesBelieved 0 := ⟨tb_at 318 (by decide +kernel) (by decide +kernel), tb_at 30 (by decide +kernel) (by decide +kernel), ⟨by decide +kernel, by decide +kernel, by decide +kernel⟩, by decide, by decide +kernel⟩
set_option maxRecDepth 100000 in
theorem cv_X5_95 : cv_c RX5 95 mX0_leavesBelieved 0 0 := ⟨by decide, rfl, tb_at 315 (by decide +kernel) (by decide +kernel), tb_at 316 (by decide +kernel) (by decide +kernel), tb_at 317 (by decide +kernel) (by decide +kernel), cm_X0_leavesBelieved, by decide⟩
set_option maxRecDepth 100000 in
theorem cm_X0_leavesInAll : cm_c mX0_leavesInAll 0 := ⟨tb_at 322 (by decide +kernel) (by decide +kernel), tb_at 30 (by decide +kernel) (by decide +kernel), ⟨by decide +kernel, by decide +kernel, by decide +kernel⟩, by decide, by decide +kernel⟩
set_option maxRecDepth 100000 in
theorem cv_X5_98 : cv_c RX5 98 mX0_leavesInAll 0 0 := ⟨by decide, rfl, tb_at 319 (by decide +kernel) (by decide +kernel), tb_at 320 (by decide +kernel) (by decide +kernel), tb_at 321 (by decide +kernel) (by decide +kernel), cm_X0_leavesInAll, by decide⟩
set_option maxRecDepth 100000 in
theorem fl_X5_101 : fl_c RX5 101 0 1 := ⟨by decide, by decide, tb_at 209 (by decide +kernel) (by decide +kernel)⟩
set_option maxRecDepth 100000 in
theorem cm_X5_isBench : cm_c mX5_isBench 1 := ⟨tb_at 333 (by decide +kernel) (by decide +kernel), tb_at 25 (by decide +kernel) (by decide +kernel), ⟨by decide +kernel, by decide +kernel, by decide +kernel⟩, by decide, by decide +kernel⟩
set_option maxRecDepth 100000 in
theorem cs_X5_105 : cs_c RX5 105 mX5_isBench 1 := ⟨tb_at 331 (by decide +kernel) (by decide +kernel), tb_at 332 (by decide +kernel) (by decide +kernel), cm_X5_isBench, by decide⟩
set_option maxRecDepth 100000 in
theorem fl_X5_108 : fl_c RX5 108 0 2 := ⟨by decide, by decide, tb_at 211 (by decide +kernel) (by decide +kernel)⟩
set_option maxRecDepth 100000 in
theorem fl_X5_111 : fl_c RX5 111 0 3 := ⟨by decide, by decide, tb_at 213 (by decide +kernel) (by decide +kernel)⟩
set_option maxRecDepth 100000 in
theorem fl_X5_114 : fl_c RX5 114 0 4 := ⟨by decide, by decide, tb_at 216 (by decide +kernel) (by decide +kernel)⟩
set_option maxRecDepth 100000 in
theorem fl_X5_117 : fl_c RX5 117 0 8 := ⟨by decide, by decide, tb_at 224 (by decide +kernel) (by decide +kernel)⟩
set_option maxRecDepth 100000 in
theorem fl_X5_120 : fl_c RX5 120 0 9 := ⟨by decide, by decide, tb_at 227 (by decide +kernel) (by decide +kernel)⟩
set_option maxRecDepth 100000 in
theorem fl_X5_123 : fl_c RX5 123 0 10 := ⟨by decide, by decide, tb_at 230 (by decide +kernel) (by decide +kernel)⟩
set_option maxRecDepth 100000 in
theorem cs_X5_126 : cs_c RX5 126 mJ6_bitCount_0f7a4 1 := ⟨tb_at 346 (by decide +kernel) (by decide +kernel), tb_at 290 (by decide +kernel) (by decide +kernel), cm_J6_bitCount_0f7a4, by decide⟩
set_option maxRecDepth 100000 in
theorem cm_X2_clear : cm_c mX2_clear 0 := ⟨tb_at 350 (by decide +kernel) (by decide +kernel), tb_at 26 (by decide +kernel) (by decide +kernel), ⟨by decide +kernel, by decide +kernel, by decide +kernel⟩, by decide, by decide +kernel⟩
set_option maxRecDepth 100000 in
theorem cv_X5_131 : cv_c RX5 131 mX2_clear 2 0 := ⟨by decide, rfl, tb_at 347 (by decide +kernel) (by decide +kernel), tb_at 348 (by decide +kernel) (by decide +kernel), tb_at 349 (by decide +kernel) (by decide +kernel), cm_X2_clear, by decide⟩
set_option maxRecDepth 100000 in
theorem cm_X2_enlist : cm_c mX2_enlist 2 := ⟨tb_at 354 (by decide +kernel) (by decide +kernel), tb_at 26 (by decide +kernel) (by decide +kernel), ⟨by decide +kernel, by decide +kernel, by decide +kernel⟩, by decide, by decide +kernel⟩
set_option maxRecDepth 100000 in
theorem cv_X5_134 : cv_c RX5 134 mX2_enlist 2 2 := ⟨by decide, rfl, tb_at 351 (by decide +kernel) (by decide +kernel), tb_at 352 (by decide +kernel) (by decide +kernel), tb_at 353 (by decide +kernel) (by decide +kernel), cm_X2_enlist, by decide⟩
set_option maxRecDepth 100000 in
theorem cm_X2_arrange : cm_c mX2_arrange 0 := ⟨tb_at 358 (by decide +kernel) (by decide +kernel), tb_at 26 (by decide +kernel) (by decide +kernel), ⟨by decide +kernel, by decide +kernel, by decide +kernel⟩, by decide, by decide +kernel⟩
set_option maxRecDepth 100000 in
theorem cv_X5_138 : cv_c RX5 138 mX2_arrange 2 0 := ⟨by decide, rfl, tb_at 355 (by decide +kernel) (by decide +kernel), tb_at 356 (by decide +kernel) (by decide +kernel), tb_at 357 (by decide +kernel) (by decide +kernel), cm_X2_arrange, by decide⟩
set_option maxRecDepth 100000 in
theorem cm_X2_hasPlace : cm_c mX2_hasPlace 1 := ⟨tb_at 382 (by decide +kernel) (by decide +kernel), tb_at 26 (by decide +kernel) (by decide +kernel), ⟨by decide +kernel, by decide +kernel, by decide +kernel⟩, by decide, by decide +kernel⟩
set_option maxRecDepth 100000 in
theorem cv_X5_141 : cv_c RX5 141 mX2_hasPlace 2 1 := ⟨by decide, rfl, tb_at 379 (by decide +kernel) (by decide +kernel), tb_at 380 (by decide +kernel) (by decide +kernel), tb_at 381 (by decide +kernel) (by decide +kernel), cm_X2_hasPlace, by decide⟩
set_option maxRecDepth 100000 in
theorem cv_X5_144 : cv_c RX5 144 mX2_numberAt 2 1 := ⟨by decide, rfl, tb_at 384 (by decide +kernel) (by decide +kernel), tb_at 385 (by decide +kernel) (by decide +kernel), tb_at 386 (by decide +kernel) (by decide +kernel), cm_X2_numberAt, by decide⟩
set_option maxRecDepth 100000 in
theorem fl_X5_147 : fl_c RX5 147 2 0 := ⟨by decide, by decide, tb_at 51 (by decide +kernel) (by decide +kernel)⟩
set_option maxRecDepth 100000 in
theorem cm_X2_placeOf : cm_c mX2_placeOf 1 := ⟨tb_at 395 (by decide +kernel) (by decide +kernel), tb_at 26 (by decide +kernel) (by decide +kernel), ⟨by decide +kernel, by decide +kernel, by decide +kernel⟩, by decide, by decide +kernel⟩
set_option maxRecDepth 100000 in
theorem cv_X5_150 : cv_c RX5 150 mX2_placeOf 2 1 := ⟨by decide, rfl, tb_at 392 (by decide +kernel) (by decide +kernel), tb_at 393 (by decide +kernel) (by decide +kernel), tb_at 394 (by decide +kernel) (by decide +kernel), cm_X2_placeOf, by decide⟩
set_option maxRecDepth 100000 in
theorem cm_X2_delayedBy : cm_c mX2_delayedBy 1 := ⟨tb_at 400 (by decide +kernel) (by decide +kernel), tb_at 26 (by decide +kernel) (by decide +kernel), ⟨by decide +kernel, by decide +kernel, by decide +kernel⟩, by decide, by decide +kernel⟩
set_option maxRecDepth 100000 in
theorem cv_X5_153 : cv_c RX5 153 mX2_delayedBy 2 1 := ⟨by decide, rfl, tb_at 397 (by decide +kernel) (by decide +kernel), tb_at 398 (by decide +kernel) (by decide +kernel), tb_at 399 (by decide +kernel) (by decide +kernel), cm_X2_delayedBy, by decide⟩
set_option maxRecDepth 100000 in
theorem cm_X5_isSign : cm_c mX5_isSign 1 := ⟨tb_at 407 (by decide +kernel) (by decide +kernel), tb_at 25 (by decide +kernel) (by decide +kernel), ⟨by decide +kernel, by decide +kernel, by decide +kernel⟩, by decide, by decide +kernel⟩
set_option maxRecDepth 100000 in
theorem cs_X5_156 : cs_c RX5 156 mX5_isSign 1 := ⟨tb_at 405 (by decide +kernel) (by decide +kernel), tb_at 406 (by decide +kernel) (by decide +kernel), cm_X5_isSign, by decide⟩
set_option maxRecDepth 100000 in
theorem fl_X5_159 : fl_c RX5 159 4 0 := ⟨by decide, by decide, tb_at 96 (by decide +kernel) (by decide +kernel)⟩
set_option maxRecDepth 100000 in
theorem cm_X4_addSign : cm_c mX4_addSign 1 := ⟨tb_at 415 (by decide +kernel) (by decide +kernel), tb_at 27 (by decide +kernel) (by decide +kernel), ⟨by decide +kernel, by decide +kernel, by decide +kernel⟩, by decide, by decide +kernel⟩
set_option maxRecDepth 100000 in
theorem cv_X5_162 : cv_c RX5 162 mX4_addSign 4 1 := ⟨by decide, rfl, tb_at 412 (by decide +kernel) (by decide +kernel), tb_at 413 (by decide +kernel) (by decide +kernel), tb_at 414 (by decide +kernel) (by decide +kernel), cm_X4_addSign, by decide⟩
set_option maxRecDepth 100000 in
theorem fl_X5_165 : fl_c RX5 165 4 3 := ⟨by decide, by decide, tb_at 102 (by decide +kernel) (by decide +kernel)⟩
set_option maxRecDepth 100000 in
theorem cm_X4_breakUp : cm_c mX4_breakUp 2 := ⟨tb_at 427 (by decide +kernel) (by decide +kernel), tb_at 27 (by decide +kernel) (by decide +kernel), ⟨by decide +kernel, by decide +kernel, by decide +kernel⟩, by decide, by decide +kernel⟩
set_option maxRecDepth 100000 in
theorem cv_X5_168 : cv_c RX5 168 mX4_breakUp 4 2 := ⟨by decide, rfl, tb_at 424 (by decide +kernel) (by decide +kernel), tb_at 425 (by decide +kernel) (by decide +kernel), tb_at 426 (by decide +kernel) (by decide +kernel), cm_X4_breakUp, by decide⟩
set_option maxRecDepth 100000 in
theorem fl_X5_171 : fl_c RX5 171 4 4 := ⟨by decide, by decide, tb_at 104 (by decide +kernel) (by decide +kernel)⟩
set_option maxRecDepth 100000 in
theorem fl_X5_174 : fl_c RX5 174 4 2 := ⟨by decide, by decide, tb_at 100 (by decide +kernel) (by decide +kernel)⟩
set_option maxRecDepth 100000 in
theorem cm_X4_countLetters : cm_c mX4_countLetters 0 := ⟨tb_at 452 (by decide +kernel) (by decide +kernel), tb_at 27 (by decide +kernel) (by decide +kernel), ⟨by decide +kernel, by decide +kernel, by decide +kernel⟩, by decide, by decide +kernel⟩
set_option maxRecDepth 100000 in
theorem cv_X5_177 : cv_c RX5 177 mX4_countLetters 4 0 := ⟨by decide, rfl, tb_at 449 (by decide +kernel) (by decide +kernel), tb_at 450 (by decide +kernel) (by decide +kernel), tb_at 451 (by decide +kernel) (by decide +kernel), cm_X4_countLetters, by decide⟩
set_option maxRecDepth 100000 in
theorem cm_X4_wouldBlunt : cm_c mX4_wouldBlunt 0 := ⟨tb_at 456 (by decide +kernel) (by decide +kernel), tb_at 27 (by decide +kernel) (by decide +kernel), ⟨by decide +kernel, by decide +kernel, by decide +kernel⟩, by decide, by decide +kernel⟩
set_option maxRecDepth 100000 in
theorem cv_X5_180 : cv_c RX5 180 mX4_wouldBlunt 4 0 := ⟨by decide, rfl, tb_at 453 (by decide +kernel) (by decide +kernel), tb_at 454 (by decide +kernel) (by decide +kernel), tb_at 455 (by decide +kernel) (by decide +kernel), cm_X4_wouldBlunt, by decide⟩
set_option maxRecDepth 100000 in
theorem cm_X4_stampAll : cm_c mX4_stampAll 0 := ⟨tb_at 460 (by decide +kernel) (by decide +kernel), tb_at 27 (by decide +kernel) (by decide +kernel), ⟨by decide +kernel, by decide +kernel, by decide +kernel⟩, by decide, by decide +kernel⟩
set_option maxRecDepth 100000 in
theorem cv_X5_183 : cv_c RX5 183 mX4_stampAll 4 0 := ⟨by decide, rfl, tb_at 457 (by decide +kernel) (by decide +kernel), tb_at 458 (by decide +kernel) (by decide +kernel), tb_at 459 (by decide +kernel) (by decide +kernel), cm_X4_stampAll, by decide⟩
set_option maxRecDepth 100000 in
theorem fl_X5_186 : fl_c RX5 186 4 1 := ⟨by decide, by decide, tb_at 98 (by decide +kernel) (by decide +kernel)⟩
set_option maxRecDepth 100000 in
theorem fl_X5_189 : fl_c RX5 189 4 5 := ⟨by decide, by decide, tb_at 106 (by decide +kernel) (by decide +kernel)⟩
set_option maxRecDepth 100000 in
theorem cm_X5_isSize : cm_c mX5_isSize 2 := ⟨tb_at 475 (by decide +kernel) (by decide +kernel), tb_at 25 (by decide +kernel) (by decide +kernel), ⟨by decide +kernel, by decide +kernel, by decide +kernel⟩, by decide, by decide +kernel⟩
set_option maxRecDepth 100000 in
theorem cs_X5_192 : cs_c RX5 192 mX5_isSize 2 := ⟨tb_at 473 (by decide +kernel) (by decide +kernel), tb_at 474 (by decide +kernel) (by decide +kernel), cm_X5_isSize, by decide⟩
set_option maxRecDepth 100000 in
theorem nw_X5_29 : Cond.classLink RX5 29 (cl_R 3) ∈ tb_w := tb_at 138 (by decide +kernel) (by decide +kernel)
set_option maxRecDepth 100000 in
theorem cm_X3_init : cm_c mX3_init 3 := ⟨tb_at 479 (by decide +kernel) (by decide +kernel), tb_at 33 (by decide +kernel) (by decide +kernel), ⟨by decide +kernel, by decide +kernel, by decide +kernel⟩, by decide, by decide +kernel⟩
set_option maxRecDepth 100000 in
theorem ci_X5_195 : ci_c RX5 195 mX3_init 3 := ⟨Or.inl (tb_at 477 (by decide +kernel) (by decide +kernel)), tb_at 478 (by decide +kernel) (by decide +kernel), rfl, rfl, cm_X3_init, by decide⟩
set_option maxRecDepth 100000 in
theorem cm_X5_skinAt : cm_c mX5_skinAt 1 := ⟨tb_at 508 (by decide +kernel) (by decide +kernel), tb_at 25 (by decide +kernel) (by decide +kernel), ⟨by decide +kernel, by decide +kernel, by decide +kernel⟩, by decide, by decide +kernel⟩
set_option maxRecDepth 100000 in
theorem cv_X5_198 : cv_c RX5 198 mX5_skinAt 5 1 := ⟨by decide, rfl, tb_at 505 (by decide +kernel) (by decide +kernel), tb_at 507 (by decide +kernel) (by decide +kernel), tb_at 6 (by decide +kernel) (by decide +kernel), cm_X5_skinAt, by decide⟩
set_option maxRecDepth 100000 in
theorem cm_X3_hasPlace : cm_c mX3_hasPlace 2 := ⟨tb_at 512 (by decide +kernel) (by decide +kernel), tb_at 33 (by decide +kernel) (by decide +kernel), ⟨by decide +kernel, by decide +kernel, by decide +kernel⟩, by decide, by decide +kernel⟩
set_option maxRecDepth 100000 in
theorem cv_X5_202 : cv_c RX5 202 mX3_hasPlace 3 2 := ⟨by decide, rfl, tb_at 509 (by decide +kernel) (by decide +kernel), tb_at 510 (by decide +kernel) (by decide +kernel), tb_at 511 (by decide +kernel) (by decide +kernel), cm_X3_hasPlace, by decide⟩
set_option maxRecDepth 100000 in
theorem cm_X3_stateOf : cm_c mX3_stateOf 2 := ⟨tb_at 517 (by decide +kernel) (by decide +kernel), tb_at 33 (by decide +kernel) (by decide +kernel), ⟨by decide +kernel, by decide +kernel, by decide +kernel⟩, by decide, by decide +kernel⟩
set_option maxRecDepth 100000 in
theorem cv_X5_204 : cv_c RX5 204 mX3_stateOf 3 2 := ⟨by decide, rfl, tb_at 514 (by decide +kernel) (by decide +kernel), tb_at 515 (by decide +kernel) (by decide +kernel), tb_at 516 (by decide +kernel) (by decide +kernel), cm_X3_stateOf, by decide⟩
set_option maxRecDepth 100000 in
theorem cv_X5_207 : cv_c RX5 207 mX3_fill 3 5 := ⟨by decide, rfl, tb_at 518 (by decide +kernel) (by decide +kernel), tb_at 519 (by decide +kernel) (by decide +kernel), tb_at 520 (by decide +kernel) (by decide +kernel), cm_X3_fill, by decide⟩
set_option maxRecDepth 100000 in
theorem cv_X5_211 : cv_c RX5 211 mX3_cutCover 3 2 := ⟨by decide, rfl, tb_at 526 (by decide +kernel) (by decide +kernel), tb_at 527 (by decide +kernel) (by decide +kernel), tb_at 528 (by decide +kernel) (by decide +kernel), cm_X3_cutCover, by decide⟩
set_option maxRecDepth 100000 in
theorem fl_X5_214 : fl_c RX5 214 3 0 := ⟨by decide, by decide, tb_at 482 (by decide +kernel) (by decide +kernel)⟩
set_option maxRecDepth 100000 in
theorem cm_X3_cutAlike : cm_c mX3_cutAlike 3 := ⟨tb_at 546 (by decide +kernel) (by decide +kernel), tb_at 33 (by decide +kernel) (by decide +kernel), ⟨by decide +kernel, by decide +kernel, by decide +kernel⟩, by decide, by decide +kernel⟩
set_option maxRecDepth 100000 in
theorem cv_X5_217 : cv_c RX5 217 mX3_cutAlike 3 3 := ⟨by decide, rfl, tb_at 543 (by decide +kernel) (by decide +kernel), tb_at 544 (by decide +kernel) (by decide +kernel), tb_at 545 (by decide +kernel) (by decide +kernel), cm_X3_cutAlike, by decide⟩
set_option maxRecDepth 100000 in
theorem cm_X5_takeBackAlike : cm_c mX5_takeBackAlike 1 := ⟨tb_at 551 (by decide +kernel) (by decide +kernel), tb_at 25 (by decide +kernel) (by decide +kernel), ⟨by decide +kernel, by decide +kernel, by decide +kernel⟩, by decide, by decide +kernel⟩
set_option maxRecDepth 100000 in
theorem cv_X5_221 : cv_c RX5 221 mX5_takeBackAlike 5 1 := ⟨by decide, rfl, tb_at 548 (by decide +kernel) (by decide +kernel), tb_at 550 (by decide +kernel) (by decide +kernel), tb_at 9 (by decide +kernel) (by decide +kernel), cm_X5_takeBackAlike, by decide⟩
set_option maxRecDepth 100000 in
theorem cm_X5_isDay : cm_c mX5_isDay 1 := ⟨tb_at 570 (by decide +kernel) (by decide +kernel), tb_at 25 (by decide +kernel) (by decide +kernel), ⟨by decide +kernel, by decide +kernel, by decide +kernel⟩, by decide, by decide +kernel⟩
set_option maxRecDepth 100000 in
theorem cs_X5_225 : cs_c RX5 225 mX5_isDay 1 := ⟨tb_at 568 (by decide +kernel) (by decide +kernel), tb_at 569 (by decide +kernel) (by decide +kernel), cm_X5_isDay, by decide⟩
set_option maxRecDepth 100000 in
theorem cm_X1_noteRate : cm_c mX1_noteRate 4 := ⟨tb_at 574 (by decide +kernel) (by decide +kernel), tb_at 28 (by decide +kernel) (by decide +kernel), ⟨by decide +kernel, by decide +kernel, by decide +kernel⟩, by decide, by decide +kernel⟩
set_option maxRecDepth 100000 in
theorem cv_X5_228 : cv_c RX5 228 mX1_noteRate 1 4 := ⟨by decide, rfl, tb_at 571 (by decide +kernel) (by decide +kernel), tb_at 572 (by decide +kernel) (by decide +kernel), tb_at 573 (by decide +kernel) (by decide +kernel), cm_X1_noteRate, by decide⟩
set_option maxRecDepth 100000 in
theorem cv_X5_232 : cv_c RX5 232 mX1_penceAt 1 3 := ⟨by decide, rfl, tb_at 579 (by decide +kernel) (by decide +kernel), tb_at 580 (by decide +kernel) (by decide +kernel), tb_at 581 (by decide +kernel) (by decide +kernel), cm_X1_penceAt, by decide⟩
set_option maxRecDepth 100000 in
theorem cm_X1_earned : cm_c mX1_earned 3 := ⟨tb_at 590 (by decide +kernel) (by decide +kernel), tb_at 28 (by decide +kernel) (by decide +kernel), ⟨by decide +kernel, by decide +kernel, by decide +kernel⟩, by decide, by decide +kernel⟩
set_option maxRecDepth 100000 in
theorem cv_X5_235 : cv_c RX5 235 mX1_earned 1 3 := ⟨by decide, rfl, tb_at 587 (by decide +kernel) (by decide +kernel), tb_at 588 (by decide +kernel) (by decide +kernel), tb_at 589 (by decide +kernel) (by decide +kernel), cm_X1_earned, by decide⟩
set_option maxRecDepth 100000 in
theorem fl_X5_238 : fl_c RX5 238 1 1 := ⟨by decide, by decide, tb_at 149 (by decide +kernel) (by decide +kernel)⟩
set_option maxRecDepth 100000 in
theorem cv_X5_241 : cv_c RX5 241 mX4_readWords 4 0 := ⟨by decide, rfl, tb_at 597 (by decide +kernel) (by decide +kernel), tb_at 429 (by decide +kernel) (by decide +kernel), tb_at 430 (by decide +kernel) (by decide +kernel), cm_X4_readWords, by decide⟩
set_option maxRecDepth 100000 in
theorem fl_X5_244 : fl_c RX5 244 1 0 := ⟨by decide, by decide, tb_at 147 (by decide +kernel) (by decide +kernel)⟩
set_option maxRecDepth 100000 in
theorem cm_X3_takeBackAlike : cm_c mX3_takeBackAlike 0 := ⟨tb_at 555 (by decide +kernel) (by decide +kernel), tb_at 33 (by decide +kernel) (by decide +kernel), ⟨by decide +kernel, by decide +kernel, by decide +kernel⟩, by decide, by decide +kernel⟩
set_option maxRecDepth 100000 in
theorem cv_X5_247 : cv_c RX5 247 mX3_takeBackAlike 3 0 := ⟨by decide, rfl, tb_at 552 (by decide +kernel) (by decide +kernel), tb_at 553 (by decide +kernel) (by decide +kernel), tb_at 554 (by decide +kernel) (by decide +kernel), cm_X3_takeBackAlike, by decide⟩
set_option maxRecDepth 100000 in
theorem oi_X6_1 : Cond.methodLink RX6 1 objectInit ∈ tb_w := tb_at 603 (by decide +kernel) (by decide +kernel)
set_option maxRecDepth 100000 in
theorem fl_X6_7 : fl_c RX6 7 6 2 := ⟨by decide, by decide, tb_at 606 (by decide +kernel) (by decide +kernel)⟩
set_option maxRecDepth 100000 in
theorem fl_X6_13 : fl_c RX6 13 6 3 := ⟨by decide, by decide, tb_at 607 (by decide +kernel) (by decide +kernel)⟩
set_option maxRecDepth 100000 in
theorem fl_X6_16 : fl_c RX6 16 6 4 := ⟨by decide, by decide, tb_at 608 (by decide +kernel) (by decide +kernel)⟩
set_option maxRecDepth 100000 in
theorem fl_X6_19 : fl_c RX6 19 6 5 := ⟨by decide, by decide, tb_at 609 (by decide +kernel) (by decide +kernel)⟩
set_option maxRecDepth 100000 in
theorem fl_X6_22 : fl_c RX6 22 6 6 := ⟨by decide, by decide, tb_at 610 (by decide +kernel) (by decide +kernel)⟩
set_option maxRecDepth 100000 in
theorem fl_X6_26 : fl_c RX6 26 6 7 := ⟨by decide, by decide, tb_at 611 (by decide +kernel) (by decide +kernel)⟩
set_option maxRecDepth 100000 in
theorem fl_X6_29 : fl_c RX6 29 6 8 := ⟨by decide, by decide, tb_at 612 (by decide +kernel) (by decide +kernel)⟩
set_option maxRecDepth 100000 in
theorem fl_X6_32 : fl_c RX6 32 6 9 := ⟨by decide, by decide, tb_at 613 (by decide +kernel) (by decide +kernel)⟩
set_option maxRecDepth 100000 in
theorem fl_X6_35 : fl_c RX6 35 6 10 := ⟨by decide, by decide, tb_at 614 (by decide +kernel) (by decide +kernel)⟩
set_option maxRecDepth 100000 in
theorem fl_X6_38 : fl_c RX6 38 6 11 := ⟨by decide, by decide, tb_at 615 (by decide +kernel) (by decide +kernel)⟩
set_option maxRecDepth 100000 in
theorem fl_X6_41 : fl_c RX6 41 6 12 := ⟨by decide, by decide, tb_at 616 (by decide +kernel) (by decide +kernel)⟩
set_option maxRecDepth 100000 in
theorem fl_X6_44 : fl_c RX6 44 6 14 := ⟨by decide, by decide, tb_at 618 (by decide +kernel) (by decide +kernel)⟩
set_option maxRecDepth 100000 in
theorem fl_X6_47 : fl_c RX6 47 6 15 := ⟨by decide, by decide, tb_at 619 (by decide +kernel) (by decide +kernel)⟩
set_option maxRecDepth 100000 in
theorem fl_X6_50 : fl_c RX6 50 6 17 := ⟨by decide, by decide, tb_at 621 (by decide +kernel) (by decide +kernel)⟩
set_option maxRecDepth 100000 in
theorem fl_X6_53 : fl_c RX6 53 6 18 := ⟨by decide, by decide, tb_at 622 (by decide +kernel) (by decide +kernel)⟩
set_option maxRecDepth 100000 in
theorem fl_X6_56 : fl_c RX6 56 6 19 := ⟨by decide, by decide, tb_at 623 (by decide +kernel) (by decide +kernel)⟩
set_option maxRecDepth 100000 in
theorem fl_X6_59 : fl_c RX6 59 6 20 := ⟨by decide, by decide, tb_at 624 (by decide +kernel) (by decide +kernel)⟩
set_option maxRecDepth 100000 in
theorem fl_X6_62 : fl_c RX6 62 6 21 := ⟨by decide, by decide, tb_at 625 (by decide +kernel) (by decide +kernel)⟩
set_option maxRecDepth 100000 in
theorem fl_X6_65 : fl_c RX6 65 6 22 := ⟨by decide, by decide, tb_at 626 (by decide +kernel) (by decide +kernel)⟩
set_option maxRecDepth 100000 in
theorem fl_X6_68 : fl_c RX6 68 6 23 := ⟨by decide, by decide, tb_at 627 (by decide +kernel) (by decide +kernel)⟩
set_option maxRecDepth 100000 in
theorem fl_X6_71 : fl_c RX6 71 6 24 := ⟨by decide, by decide, tb_at 628 (by decide +kernel) (by decide +kernel)⟩
set_option maxRecDepth 100000 in
theorem fl_X6_74 : fl_c RX6 74 6 26 := ⟨by decide, by decide, tb_at 630 (by decide +kernel) (by decide +kernel)⟩
set_option maxRecDepth 100000 in
theorem fl_X6_77 : fl_c RX6 77 6 28 := ⟨by decide, by decide, tb_at 632 (by decide +kernel) (by decide +kernel)⟩
set_option maxRecDepth 100000 in
theorem fl_X6_80 : fl_c RX6 80 6 29 := ⟨by decide, by decide, tb_at 633 (by decide +kernel) (by decide +kernel)⟩
set_option maxRecDepth 100000 in
theorem fl_X6_83 : fl_c RX6 83 6 31 := ⟨by decide, by decide, tb_at 635 (by decide +kernel) (by decide +kernel)⟩
set_option maxRecDepth 100000 in
theorem fl_X6_86 : fl_c RX6 86 6 32 := ⟨by decide, by decide, tb_at 636 (by decide +kernel) (by decide +kernel)⟩
set_option maxRecDepth 100000 in
theorem fl_X6_89 : fl_c RX6 89 6 33 := ⟨by decide, by decide, tb_at 637 (by decide +kernel) (by decide +kernel)⟩
set_option maxRecDepth 100000 in
theorem fl_X6_93 : fl_c RX6 93 6 35 := ⟨by decide, by decide, tb_at 639 (by decide +kernel) (by decide +kernel)⟩
set_option maxRecDepth 100000 in
theorem fl_X6_96 : fl_c RX6 96 6 36 := ⟨by decide, by decide, tb_at 640 (by decide +kernel) (by decide +kernel)⟩
set_option maxRecDepth 100000 in
theorem fl_X6_99 : fl_c RX6 99 6 37 := ⟨by decide, by decide, tb_at 641 (by decide +kernel) (by decide +kernel)⟩
set_option maxRecDepth 100000 in
theorem fl_X6_102 : fl_c RX6 102 6 38 := ⟨by decide, by decide, tb_at 642 (by decide +kernel) (by decide +kernel)⟩
set_option maxRecDepth 100000 in
theorem fl_X6_105 : fl_c RX6 105 6 39 := ⟨by decide, by decide, tb_at 643 (by decide +kernel) (by decide +kernel)⟩
set_option maxRecDepth 100000 in
theorem fl_X6_108 : fl_c RX6 108 6 40 := ⟨by decide, by decide, tb_at 644 (by decide +kernel) (by decide +kernel)⟩
set_option maxRecDepth 100000 in
theorem fl_X6_111 : fl_c RX6 111 6 41 := ⟨by decide, by decide, tb_at 645 (by decide +kernel) (by decide +kernel)⟩
set_option maxRecDepth 100000 in
theorem fl_X6_114 : fl_c RX6 114 6 43 := ⟨by decide, by decide, tb_at 647 (by decide +kernel) (by decide +kernel)⟩
set_option maxRecDepth 100000 in
theorem fl_X6_117 : fl_c RX6 117 6 44 := ⟨by decide, by decide, tb_at 648 (by decide +kernel) (by decide +kernel)⟩
set_option maxRecDepth 100000 in
theorem fl_X6_120 : fl_c RX6 120 6 45 := ⟨by decide, by decide, tb_at 649 (by decide +kernel) (by decide +kernel)⟩
set_option maxRecDepth 100000 in
theorem fl_X6_123 : fl_c RX6 123 6 46 := ⟨by decide, by decide, tb_at 650 (by decide +kernel) (by decide +kernel)⟩
set_option maxRecDepth 100000 in
theorem fl_X6_126 : fl_c RX6 126 6 1 := ⟨by decide, by decide, tb_at 605 (by decide +kernel) (by decide +kernel)⟩
set_option maxRecDepth 100000 in
theorem cm_X6_in : cm_c mX6_in 3 := ⟨tb_at 761 (by decide +kernel) (by decide +kernel), tb_at 29 (by decide +kernel) (by decide +kernel), ⟨by decide +kernel, by decide +kernel, by decide +kernel⟩, by decide, by decide +kernel⟩
set_option maxRecDepth 100000 in
theorem cs_X6_129 : cs_c RX6 129 mX6_in 3 := ⟨tb_at 759 (by decide +kernel) (by decide +kernel), tb_at 760 (by decide +kernel) (by decide +kernel), cm_X6_in, by decide⟩
set_option maxRecDepth 100000 in
theorem cm_X6_isBook : cm_c mX6_isBook 1 := ⟨tb_at 758 (by decide +kernel) (by decide +kernel), tb_at 29 (by decide +kernel) (by decide +kernel), ⟨by decide +kernel, by decide +kernel, by decide +kernel⟩, by decide, by decide +kernel⟩
set_option maxRecDepth 100000 in
theorem cv_X6_133 : cv_c RX6 133 mX6_isBook 6 1 := ⟨by decide, rfl, tb_at 755 (by decide +kernel) (by decide +kernel), tb_at 757 (by decide +kernel) (by decide +kernel), tb_at 10 (by decide +kernel) (by decide +kernel), cm_X6_isBook, by decide⟩
set_option maxRecDepth 100000 in
theorem cm_X6_isGathering : cm_c mX6_isGathering 2 := ⟨tb_at 769 (by decide +kernel) (by decide +kernel), tb_at 29 (by decide +kernel) (by decide +kernel), ⟨by decide +kernel, by decide +kernel, by decide +kernel⟩, by decide, by decide +kernel⟩
set_option maxRecDepth 100000 in
theorem cv_X6_137 : cv_c RX6 137 mX6_isGathering 6 2 := ⟨by decide, rfl, tb_at 766 (by decide +kernel) (by decide +kernel), tb_at 768 (by decide +kernel) (by decide +kernel), tb_at 11 (by decide +kernel) (by decide +kernel), cm_X6_isGathering, by decide⟩
set_option maxRecDepth 100000 in
theorem cm_X6_many : cm_c mX6_many 1 := ⟨tb_at 772 (by decide +kernel) (by decide +kernel), tb_at 29 (by decide +kernel) (by decide +kernel), ⟨by decide +kernel, by decide +kernel, by decide +kernel⟩, by decide, by decide +kernel⟩
set_option maxRecDepth 100000 in
theorem cs_X6_141 : cs_c RX6 141 mX6_many 1 := ⟨tb_at 770 (by decide +kernel) (by decide +kernel), tb_at 771 (by decide +kernel) (by decide +kernel), cm_X6_many, by decide⟩
set_option maxRecDepth 100000 in
theorem fl_X6_145 : fl_c RX6 145 6 13 := ⟨by decide, by decide, tb_at 617 (by decide +kernel) (by decide +kernel)⟩
set_option maxRecDepth 100000 in
theorem fl_X6_148 : fl_c RX6 148 6 0 := ⟨by decide, by decide, tb_at 604 (by decide +kernel) (by decide +kernel)⟩
set_option maxRecDepth 100000 in
theorem cm_X6_isBench : cm_c mX6_isBench 1 := ⟨tb_at 791 (by decide +kernel) (by decide +kernel), tb_at 29 (by decide +kernel) (by decide +kernel), ⟨by decide +kernel, by decide +kernel, by decide +kernel⟩, by decide, by decide +kernel⟩
set_option maxRecDepth 100000 in
theorem cs_X6_151 : cs_c RX6 151 mX6_isBench 1 := ⟨tb_at 789 (by decide +kernel) (by decide +kernel), tb_at 790 (by decide +kernel) (by decide +kernel), cm_X6_isBench, by decide⟩
set_option maxRecDepth 100000 in
theorem cm_X6_tell : cm_c mX6_tell 4 := ⟨tb_at 807 (by decide +kernel) (by decide +kernel), tb_at 29 (by decide +kernel) (by decide +kernel), ⟨by decide +kernel, by decide +kernel, by decide +kernel⟩, by decide, by decide +kernel⟩
set_option maxRecDepth 100000 in
theorem cv_X6_154 : cv_c RX6 154 mX6_tell 6 4 := ⟨by decide, rfl, tb_at 804 (by decide +kernel) (by decide +kernel), tb_at 806 (by decide +kernel) (by decide +kernel), tb_at 12 (by decide +kernel) (by decide +kernel), cm_X6_tell, by decide⟩
set_option maxRecDepth 100000 in
theorem cm_X6_findEnds : cm_c mX6_findEnds 1 := ⟨tb_at 811 (by decide +kernel) (by decide +kernel), tb_at 29 (by decide +kernel) (by decide +kernel), ⟨by decide +kernel, by decide +kernel, by decide +kernel⟩, by decide, by decide +kernel⟩
set_option maxRecDepth 100000 in
theorem cv_X6_158 : cv_c RX6 158 mX6_findEnds 6 1 := ⟨by decide, rfl, tb_at 808 (by decide +kernel) (by decide +kernel), tb_at 810 (by decide +kernel) (by decide +kernel), tb_at 13 (by decide +kernel) (by decide +kernel), cm_X6_findEnds, by decide⟩
set_option maxRecDepth 100000 in
theorem fl_X6_162 : fl_c RX6 162 6 16 := ⟨by decide, by decide, tb_at 620 (by decide +kernel) (by decide +kernel)⟩
set_option maxRecDepth 100000 in
theorem fl_X6_165 : fl_c RX6 165 6 25 := ⟨by decide, by decide, tb_at 629 (by decide +kernel) (by decide +kernel)⟩
set_option maxRecDepth 100000 in
theorem fl_X6_168 : fl_c RX6 168 6 27 := ⟨by decide, by decide, tb_at 631 (by decide +kernel) (by decide +kernel)⟩
set_option maxRecDepth 100000 in
theorem cm_X6_wideOf : cm_c mX6_wideOf 2 := ⟨tb_at 847 (by decide +kernel) (by decide +kernel), tb_at 29 (by decide +kernel) (by decide +kernel), ⟨by decide +kernel, by decide +kernel, by decide +kernel⟩, by decide, by decide +kernel⟩
set_option maxRecDepth 100000 in
theorem cv_X6_171 : cv_c RX6 171 mX6_wideOf 6 2 := ⟨by decide, rfl, tb_at 844 (by decide +kernel) (by decide +kernel), tb_at 846 (by decide +kernel) (by decide +kernel), tb_at 16 (by decide +kernel) (by decide +kernel), cm_X6_wideOf, by decide⟩
set_option maxRecDepth 100000 in
theorem cm_X6_findWords : cm_c mX6_findWords 0 := ⟨tb_at 839 (by decide +kernel) (by decide +kernel), tb_at 29 (by decide +kernel) (by decide +kernel), ⟨by decide +kernel, by decide +kernel, by decide +kernel⟩, by decide, by decide +kernel⟩
set_option maxRecDepth 100000 in
theorem cv_X6_175 : cv_c RX6 175 mX6_findWords 6 0 := ⟨by decide, rfl, tb_at 836 (by decide +kernel) (by decide +kernel), tb_at 838 (by decide +kernel) (by decide +kernel), tb_at 14 (by decide +kernel) (by decide +kernel), cm_X6_findWords, by decide⟩
set_option maxRecDepth 100000 in
theorem cm_X6_through : cm_c mX6_through 4 := ⟨tb_at 843 (by decide +kernel) (by decide +kernel), tb_at 29 (by decide +kernel) (by decide +kernel), ⟨by decide +kernel, by decide +kernel, by decide +kernel⟩, by decide, by decide +kernel⟩
set_option maxRecDepth 100000 in
theorem cv_X6_178 : cv_c RX6 178 mX6_through 6 4 := ⟨by decide, rfl, tb_at 840 (by decide +kernel) (by decide +kernel), tb_at 842 (by decide +kernel) (by decide +kernel), tb_at 15 (by decide +kernel) (by decide +kernel), cm_X6_through, by decide⟩
set_option maxRecDepth 100000 in
theorem fl_X6_182 : fl_c RX6 182 6 30 := ⟨by decide, by decide, tb_at 634 (by decide +kernel) (by decide +kernel)⟩
set_option maxRecDepth 100000 in
theorem cm_X6_often : cm_c mX6_often 1 := ⟨tb_at 859 (by decide +kernel) (by decide +kernel), tb_at 29 (by decide +kernel) (by decide +kernel), ⟨by decide +kernel, by decide +kernel, by decide +kernel⟩, by decide, by decide +kernel⟩
set_option maxRecDepth 100000 in
theorem cv_X6_185 : cv_c RX6 185 mX6_often 6 1 := ⟨by decide, rfl, tb_at 856 (by decide +kernel) (by decide +kernel), tb_at 858 (by decide +kernel) (by decide +kernel), tb_at 17 (by decide +kernel) (by decide +kernel), cm_X6_often, by decide⟩
set_option maxRecDepth 100000 in
theorem fl_X6_188 : fl_c RX6 188 6 34 := ⟨by decide, by decide, tb_at 638 (by decide +kernel) (by decide +kernel)⟩
set_option maxRecDepth 100000 in
theorem cm_X6_isSkin : cm_c mX6_isSkin 1 := ⟨tb_at 879 (by decide +kernel) (by decide +kernel), tb_at 29 (by decide +kernel) (by decide +kernel), ⟨by decide +kernel, by decide +kernel, by decide +kernel⟩, by decide, by decide +kernel⟩
set_option maxRecDepth 100000 in
theorem cv_X6_191 : cv_c RX6 191 mX6_isSkin 6 1 := ⟨by decide, rfl, tb_at 876 (by decide +kernel) (by decide +kernel), tb_at 878 (by decide +kernel) (by decide +kernel), tb_at 18 (by decide +kernel) (by decide +kernel), cm_X6_isSkin, by decide⟩
set_option maxRecDepth 100000 in
theorem cm_X6_isSpot : cm_c mX6_isSpot 3 := ⟨tb_at 883 (by decide +kernel) (by decide +kernel), tb_at 29 (by decide +kernel) (by decide +kernel), ⟨by decide +kernel, by decide +kernel, by decide +kernel⟩, by decide, by decide +kernel⟩
set_option maxRecDepth 100000 in
theorem cv_X6_194 : cv_c RX6 194 mX6_isSpot 6 3 := ⟨by decide, rfl, tb_at 880 (by decide +kernel) (by decide +kernel), tb_at 882 (by decide +kernel) (by decide +kernel), tb_at 19 (by decide +kernel) (by decide +kernel), cm_X6_isSpot, by decide⟩
set_option maxRecDepth 100000 in
theorem cm_X6_fits : cm_c mX6_fits 5 := ⟨tb_at 895 (by decide +kernel) (by decide +kernel), tb_at 29 (by decide +kernel) (by decide +kernel), ⟨by decide +kernel, by decide +kernel, by decide +kernel⟩, by decide, by decide +kernel⟩
set_option maxRecDepth 100000 in
theorem cv_X6_197 : cv_c RX6 197 mX6_fits 6 5 := ⟨by decide, rfl, tb_at 892 (by decide +kernel) (by decide +kernel), tb_at 894 (by decide +kernel) (by decide +kernel), tb_at 21 (by decide +kernel) (by decide +kernel), cm_X6_fits, by decide⟩
set_option maxRecDepth 100000 in
theorem cm_X6_take : cm_c mX6_take 6 := ⟨tb_at 899 (by decide +kernel) (by decide +kernel), tb_at 29 (by decide +kernel) (by decide +kernel), ⟨by decide +kernel, by decide +kernel, by decide +kernel⟩, by decide, by decide +kernel⟩
set_option maxRecDepth 100000 in
theorem cv_X6_201 : cv_c RX6 201 mX6_take 6 6 := ⟨by decide, rfl, tb_at 896 (by decide +kernel) (by decide +kernel), tb_at 898 (by decide +kernel) (by decide +kernel), tb_at 22 (by decide +kernel) (by decide +kernel), cm_X6_take, by decide⟩
set_option maxRecDepth 100000 in
theorem cm_X6_cutOf : cm_c mX6_cutOf 3 := ⟨tb_at 891 (by decide +kernel) (by decide +kernel), tb_at 29 (by decide +kernel) (by decide +kernel), ⟨by decide +kernel, by decide +kernel, by decide +kernel⟩, by decide, by decide +kernel⟩
set_option maxRecDepth 100000 in
theorem cv_X6_205 : cv_c RX6 205 mX6_cutOf 6 3 := ⟨by decide, rfl, tb_at 888 (by decide +kernel) (by decide +kernel), tb_at 890 (by decide +kernel) (by decide +kernel), tb_at 20 (by decide +kernel) (by decide +kernel), cm_X6_cutOf, by decide⟩
set_option maxRecDepth 100000 in
theorem cm_X6_isDay : cm_c mX6_isDay 1 := ⟨tb_at 918 (by decide +kernel) (by decide +kernel), tb_at 29 (by decide +kernel) (by decide +kernel), ⟨by decide +kernel, by decide +kernel, by decide +kernel⟩, by decide, by decide +kernel⟩
set_option maxRecDepth 100000 in
theorem cs_X6_209 : cs_c RX6 209 mX6_isDay 1 := ⟨tb_at 916 (by decide +kernel) (by decide +kernel), tb_at 917 (by decide +kernel) (by decide +kernel), cm_X6_isDay, by decide⟩
set_option maxRecDepth 100000 in
theorem fl_X6_212 : fl_c RX6 212 6 42 := ⟨by decide, by decide, tb_at 646 (by decide +kernel) (by decide +kernel)⟩
set_option maxRecDepth 100000 in
theorem cm_X6_rateOf : cm_c mX6_rateOf 3 := ⟨tb_at 926 (by decide +kernel) (by decide +kernel), tb_at 29 (by decide +kernel) (by decide +kernel), ⟨by decide +kernel, by decide +kernel, by decide +kernel⟩, by decide, by decide +kernel⟩
set_option maxRecDepth 100000 in
theorem cv_X6_215 : cv_c RX6 215 mX6_rateOf 6 3 := ⟨by decide, rfl, tb_at 923 (by decide +kernel) (by decide +kernel), tb_at 925 (by decide +kernel) (by decide +kernel), tb_at 23 (by decide +kernel) (by decide +kernel), cm_X6_rateOf, by decide⟩
set_option maxRecDepth 100000 in
theorem nw_L_7 : Cond.classLink RL 7 (cl_R 5) ∈ tb_w := tb_at 34 (by decide +kernel) (by decide +kernel)
set_option maxRecDepth 100000 in
theorem cm_X5_init : cm_c mX5_init 0 := ⟨tb_at 38 (by decide +kernel) (by decide +kernel), tb_at 25 (by decide +kernel) (by decide +kernel), ⟨by decide +kernel, by decide +kernel, by decide +kernel⟩, by decide, by decide +kernel⟩
set_option maxRecDepth 100000 in
theorem ci_L_9 : ci_c RL 9 mX5_init 0 := ⟨Or.inl (tb_at 36 (by decide +kernel) (by decide +kernel)), tb_at 37 (by decide +kernel) (by decide +kernel), rfl, rfl, cm_X5_init, by decide⟩
set_option maxRecDepth 100000 in
theorem nw_L_10 : Cond.classLink RL 10 (cl_R 6) ∈ tb_w := tb_at 598 (by decide +kernel) (by decide +kernel)
set_option maxRecDepth 100000 in
theorem cm_X6_init : cm_c mX6_init 0 := ⟨tb_at 602 (by decide +kernel) (by decide +kernel), tb_at 29 (by decide +kernel) (by decide +kernel), ⟨by decide +kernel, by decide +kernel, by decide +kernel⟩, by decide, by decide +kernel⟩
set_option maxRecDepth 100000 in
theorem ci_L_12 : ci_c RL 12 mX6_init 0 := ⟨Or.inl (tb_at 600 (by decide +kernel) (by decide +kernel)), tb_at 601 (by decide +kernel) (by decide +kernel), rfl, rfl, cm_X6_init, by decide⟩
set_option maxRecDepth 100000 in
theorem cm_X5_book : cm_c mX5_book 0 := ⟨tb_at 201 (by decide +kernel) (by decide +kernel), tb_at 25 (by decide +kernel) (by decide +kernel), ⟨by decide +kernel, by decide +kernel, by decide +kernel⟩, by decide, by decide +kernel⟩
set_option maxRecDepth 100000 in
theorem cv_L_13 : cv_c RL 13 mX5_book 5 0 := ⟨by decide, rfl, tb_at 198 (by decide +kernel) (by decide +kernel), tb_at 199 (by decide +kernel) (by decide +kernel), tb_at 200 (by decide +kernel) (by decide +kernel), cm_X5_book, by decide⟩
set_option maxRecDepth 100000 in
theorem cm_X6_book : cm_c mX6_book 0 := ⟨tb_at 750 (by decide +kernel) (by decide +kernel), tb_at 29 (by decide +kernel) (by decide +kernel), ⟨by decide +kernel, by decide +kernel, by decide +kernel⟩, by decide, by decide +kernel⟩
set_option maxRecDepth 100000 in
theorem cv_L_17 : cv_c RL 17 mX6_book 6 0 := ⟨by decide, rfl, tb_at 747 (by decide +kernel) (by decide +kernel), tb_at 748 (by decide +kernel) (by decide +kernel), tb_at 749 (by decide +kernel) (by decide +kernel), cm_X6_book, by decide⟩
set_option maxRecDepth 100000 in
theorem cm_X5_gather : cm_c mX5_gather 2 := ⟨tb_at 257 (by decide +kernel) (by decide +kernel), tb_at 25 (by decide +kernel) (by decide +kernel), ⟨by decide +kernel, by decide +kernel, by decide +kernel⟩, by decide, by decide +kernel⟩
set_option maxRecDepth 100000 in
theorem cv_L_18 : cv_c RL 18 mX5_gather 5 2 := ⟨by decide, rfl, tb_at 254 (by decide +kernel) (by decide +kernel), tb_at 255 (by decide +kernel) (by decide +kernel), tb_at 256 (by decide +kernel) (by decide +kernel), cm_X5_gather, by decide⟩
set_option maxRecDepth 100000 in
theorem cm_X6_gather : cm_c mX6_gather 2 := ⟨tb_at 754 (by decide +kernel) (by decide +kernel), tb_at 29 (by decide +kernel) (by decide +kernel), ⟨by decide +kernel, by decide +kernel, by decide +kernel⟩, by decide, by decide +kernel⟩
set_option maxRecDepth 100000 in
theorem cv_L_22 : cv_c RL 22 mX6_gather 6 2 := ⟨by decide, rfl, tb_at 751 (by decide +kernel) (by decide +kernel), tb_at 752 (by decide +kernel) (by decide +kernel), tb_at 753 (by decide +kernel) (by decide +kernel), cm_X6_gather, by decide⟩
set_option maxRecDepth 100000 in
theorem cm_X5_look : cm_c mX5_look 3 := ⟨tb_at 275 (by decide +kernel) (by decide +kernel), tb_at 25 (by decide +kernel) (by decide +kernel), ⟨by decide +kernel, by decide +kernel, by decide +kernel⟩, by decide, by decide +kernel⟩
set_option maxRecDepth 100000 in
theorem cv_L_23 : cv_c RL 23 mX5_look 5 3 := ⟨by decide, rfl, tb_at 272 (by decide +kernel) (by decide +kernel), tb_at 273 (by decide +kernel) (by decide +kernel), tb_at 274 (by decide +kernel) (by decide +kernel), cm_X5_look, by decide⟩
set_option maxRecDepth 100000 in
theorem cm_X6_look : cm_c mX6_look 3 := ⟨tb_at 765 (by decide +kernel) (by decide +kernel), tb_at 29 (by decide +kernel) (by decide +kernel), ⟨by decide +kernel, by decide +kernel, by decide +kernel⟩, by decide, by decide +kernel⟩
set_option maxRecDepth 100000 in
theorem cv_L_27 : cv_c RL 27 mX6_look 6 3 := ⟨by decide, rfl, tb_at 762 (by decide +kernel) (by decide +kernel), tb_at 763 (by decide +kernel) (by decide +kernel), tb_at 764 (by decide +kernel) (by decide +kernel), cm_X6_look, by decide⟩
set_option maxRecDepth 100000 in
theorem cm_X5_pass : cm_c mX5_pass 1 := ⟨tb_at 298 (by decide +kernel) (by decide +kernel), tb_at 25 (by decide +kernel) (by decide +kernel), ⟨by decide +kernel, by decide +kernel, by decide +kernel⟩, by decide, by decide +kernel⟩
set_option maxRecDepth 100000 in
theorem cv_L_28 : cv_c RL 28 mX5_pass 5 1 := ⟨by decide, rfl, tb_at 295 (by decide +kernel) (by decide +kernel), tb_at 296 (by decide +kernel) (by decide +kernel), tb_at 297 (by decide +kernel) (by decide +kernel), cm_X5_pass, by decide⟩
set_option maxRecDepth 100000 in
theorem cm_X6_pass : cm_c mX6_pass 1 := ⟨tb_at 776 (by decide +kernel) (by decide +kernel), tb_at 29 (by decide +kernel) (by decide +kernel), ⟨by decide +kernel, by decide +kernel, by decide +kernel⟩, by decide, by decide +kernel⟩
set_option maxRecDepth 100000 in
theorem cv_L_32 : cv_c RL 32 mX6_pass 6 1 := ⟨by decide, rfl, tb_at 773 (by decide +kernel) (by decide +kernel), tb_at 774 (by decide +kernel) (by decide +kernel), tb_at 775 (by decide +kernel) (by decide +kernel), cm_X6_pass, by decide⟩
set_option maxRecDepth 100000 in
theorem cm_X5_told : cm_c mX5_told 2 := ⟨tb_at 314 (by decide +kernel) (by decide +kernel), tb_at 25 (by decide +kernel) (by decide +kernel), ⟨by decide +kernel, by decide +kernel, by decide +kernel⟩, by decide, by decide +kernel⟩
set_option maxRecDepth 100000 in
theorem cv_L_33 : cv_c RL 33 mX5_told 5 2 := ⟨by decide, rfl, tb_at 311 (by decide +kernel) (by decide +kernel), tb_at 312 (by decide +kernel) (by decide +kernel), tb_at 313 (by decide +kernel) (by decide +kernel), cm_X5_told, by decide⟩
set_option maxRecDepth 100000 in
theorem cm_X6_told : cm_c mX6_told 2 := ⟨tb_at 780 (by decide +kernel) (by decide +kernel), tb_at 29 (by decide +kernel) (by decide +kernel), ⟨by decide +kernel, by decide +kernel, by decide +kernel⟩, by decide, by decide +kernel⟩
set_option maxRecDepth 100000 in
theorem cv_L_36 : cv_c RL 36 mX6_told 6 2 := ⟨by decide, rfl, tb_at 777 (by decide +kernel) (by decide +kernel), tb_at 778 (by decide +kernel) (by decide +kernel), tb_at 779 (by decide +kernel) (by decide +kernel), cm_X6_told, by decide⟩
set_option maxRecDepth 100000 in
theorem cm_X5_there : cm_c mX5_there 2 := ⟨tb_at 326 (by decide +kernel) (by decide +kernel), tb_at 25 (by decide +kernel) (by decide +kernel), ⟨by decide +kernel, by decide +kernel, by decide +kernel⟩, by decide, by decide +kernel⟩
set_option maxRecDepth 100000 in
theorem cv_L_37 : cv_c RL 37 mX5_there 5 2 := ⟨by decide, rfl, tb_at 323 (by decide +kernel) (by decide +kernel), tb_at 324 (by decide +kernel) (by decide +kernel), tb_at 325 (by decide +kernel) (by decide +kernel), cm_X5_there, by decide⟩
set_option maxRecDepth 100000 in
theorem cm_X6_there : cm_c mX6_there 2 := ⟨tb_at 784 (by decide +kernel) (by decide +kernel), tb_at 29 (by decide +kernel) (by decide +kernel), ⟨by decide +kernel, by decide +kernel, by decide +kernel⟩, by decide, by decide +kernel⟩
set_option maxRecDepth 100000 in
theorem cv_L_40 : cv_c RL 40 mX6_there 6 2 := ⟨by decide, rfl, tb_at 781 (by decide +kernel) (by decide +kernel), tb_at 782 (by decide +kernel) (by decide +kernel), tb_at 783 (by decide +kernel) (by decide +kernel), cm_X6_there, by decide⟩
set_option maxRecDepth 100000 in
theorem cm_X5_gone : cm_c mX5_gone 3 := ⟨tb_at 330 (by decide +kernel) (by decide +kernel), tb_at 25 (by decide +kernel) (by decide +kernel), ⟨by decide +kernel, by decide +kernel, by decide +kernel⟩, by decide, by decide +kernel⟩
set_option maxRecDepth 100000 in
theorem cv_L_41 : cv_c RL 41 mX5_gone 5 3 := ⟨by decide, rfl, tb_at 327 (by decide +kernel) (by decide +kernel), tb_at 328 (by decide +kernel) (by decide +kernel), tb_at 329 (by decide +kernel) (by decide +kernel), cm_X5_gone, by decide⟩
set_option maxRecDepth 100000 in
theorem cm_X6_gone : cm_c mX6_gone 3 := ⟨tb_at 788 (by decide +kernel) (by decide +kernel), tb_at 29 (by decide +kernel) (by decide +kernel), ⟨by decide +kernel, by decide +kernel, by decide +kernel⟩, by decide, by decide +kernel⟩
set_option maxRecDepth 100000 in
theorem cv_L_44 : cv_c RL 44 mX6_gone 6 3 := ⟨by decide, rfl, tb_at 785 (by decide +kernel) (by decide +kernel), tb_at 786 (by decide +kernel) (by decide +kernel), tb_at 787 (by decide +kernel) (by decide +kernel), cm_X6_gone, by decide⟩
set_option maxRecDepth 100000 in
theorem cm_X5_hours : cm_c mX5_hours 3 := ⟨tb_at 337 (by decide +kernel) (by decide +kernel), tb_at 25 (by decide +kernel) (by decide +kernel), ⟨by decide +kernel, by decide +kernel, by decide +kernel⟩, by decide, by decide +kernel⟩
set_option maxRecDepth 100000 in
theorem cv_L_45 : cv_c RL 45 mX5_hours 5 3 := ⟨by decide, rfl, tb_at 334 (by decide +kernel) (by decide +kernel), tb_at 335 (by decide +kernel) (by decide +kernel), tb_at 336 (by decide +kernel) (by decide +kernel), cm_X5_hours, by decide⟩
set_option maxRecDepth 100000 in
theorem cm_X6_hours : cm_c mX6_hours 3 := ⟨tb_at 795 (by decide +kernel) (by decide +kernel), tb_at 29 (by decide +kernel) (by decide +kernel), ⟨by decide +kernel, by decide +kernel, by decide +kernel⟩, by decide, by decide +kernel⟩
set_option maxRecDepth 100000 in
theorem cv_L_48 : cv_c RL 48 mX6_hours 6 3 := ⟨by decide, rfl, tb_at 792 (by decide +kernel) (by decide +kernel), tb_at 793 (by decide +kernel) (by decide +kernel), tb_at 794 (by decide +kernel) (by decide +kernel), cm_X6_hours, by decide⟩
set_option maxRecDepth 100000 in
theorem cm_X5_promise : cm_c mX5_promise 4 := ⟨tb_at 341 (by decide +kernel) (by decide +kernel), tb_at 25 (by decide +kernel) (by decide +kernel), ⟨by decide +kernel, by decide +kernel, by decide +kernel⟩, by decide, by decide +kernel⟩
set_option maxRecDepth 100000 in
theorem cv_L_49 : cv_c RL 49 mX5_promise 5 4 := ⟨by decide, rfl, tb_at 338 (by decide +kernel) (by decide +kernel), tb_at 339 (by decide +kernel) (by decide +kernel), tb_at 340 (by decide +kernel) (by decide +kernel), cm_X5_promise, by decide⟩
set_option maxRecDepth 100000 in
theorem cm_X6_promise : cm_c mX6_promise 4 := ⟨tb_at 799 (by decide +kernel) (by decide +kernel), tb_at 29 (by decide +kernel) (by decide +kernel), ⟨by decide +kernel, by decide +kernel, by decide +kernel⟩, by decide, by decide +kernel⟩
set_option maxRecDepth 100000 in
theorem cv_L_53 : cv_c RL 53 mX6_promise 6 4 := ⟨by decide, rfl, tb_at 796 (by decide +kernel) (by decide +kernel), tb_at 797 (by decide +kernel) (by decide +kernel), tb_at 798 (by decide +kernel) (by decide +kernel), cm_X6_promise, by decide⟩
set_option maxRecDepth 100000 in
theorem cm_X5_plan : cm_c mX5_plan 1 := ⟨tb_at 345 (by decide +kernel) (by decide +kernel), tb_at 25 (by decide +kernel) (by decide +kernel), ⟨by decide +kernel, by decide +kernel, by decide +kernel⟩, by decide, by decide +kernel⟩
set_option maxRecDepth 100000 in
theorem cv_L_54 : cv_c RL 54 mX5_plan 5 1 := ⟨by decide, rfl, tb_at 342 (by decide +kernel) (by decide +kernel), tb_at 343 (by decide +kernel) (by decide +kernel), tb_at 344 (by decide +kernel) (by decide +kernel), cm_X5_plan, by decide⟩
set_option maxRecDepth 100000 in
theorem cm_X6_plan : cm_c mX6_plan 1 := ⟨tb_at 803 (by decide +kernel) (by decide +kernel), tb_at 29 (by decide +kernel) (by decide +kernel), ⟨by decide +kernel, by decide +kernel, by decide +kernel⟩, by decide, by decide +kernel⟩
set_option maxRecDepth 100000 in
theorem cv_L_57 : cv_c RL 57 mX6_plan 6 1 := ⟨by decide, rfl, tb_at 800 (by decide +kernel) (by decide +kernel), tb_at 801 (by decide +kernel) (by decide +kernel), tb_at 802 (by decide +kernel) (by decide +kernel), cm_X6_plan, by decide⟩
set_option maxRecDepth 100000 in
theorem cm_X5_planned : cm_c mX5_planned 2 := ⟨tb_at 378 (by decide +kernel) (by decide +kernel), tb_at 25 (by decide +kernel) (by decide +kernel), ⟨by decide +kernel, by decide +kernel, by decide +kernel⟩, by decide, by decide +kernel⟩
set_option maxRecDepth 100000 in
theorem cv_L_58 : cv_c RL 58 mX5_planned 5 2 := ⟨by decide, rfl, tb_at 375 (by decide +kernel) (by decide +kernel), tb_at 376 (by decide +kernel) (by decide +kernel), tb_at 377 (by decide +kernel) (by decide +kernel), cm_X5_planned, by decide⟩
set_option maxRecDepth 100000 in
theorem cm_X6_planned : cm_c mX6_planned 2 := ⟨tb_at 815 (by decide +kernel) (by decide +kernel), tb_at 29 (by decide +kernel) (by decide +kernel), ⟨by decide +kernel, by decide +kernel, by decide +kernel⟩, by decide, by decide +kernel⟩
set_option maxRecDepth 100000 in
theorem cv_L_61 : cv_c RL 61 mX6_planned 6 2 := ⟨by decide, rfl, tb_at 812 (by decide +kernel) (by decide +kernel), tb_at 813 (by decide +kernel) (by decide +kernel), tb_at 814 (by decide +kernel) (by decide +kernel), cm_X6_planned, by decide⟩
set_option maxRecDepth 100000 in
theorem cm_X5_delays : cm_c mX5_delays 1 := ⟨tb_at 391 (by decide +kernel) (by decide +kernel), tb_at 25 (by decide +kernel) (by decide +kernel), ⟨by decide +kernel, by decide +kernel, by decide +kernel⟩, by decide, by decide +kernel⟩
set_option maxRecDepth 100000 in
theorem cv_L_62 : cv_c RL 62 mX5_delays 5 1 := ⟨by decide, rfl, tb_at 388 (by decide +kernel) (by decide +kernel), tb_at 389 (by decide +kernel) (by decide +kernel), tb_at 390 (by decide +kernel) (by decide +kernel), cm_X5_delays, by decide⟩
set_option maxRecDepth 100000 in
theorem cm_X6_delays : cm_c mX6_delays 1 := ⟨tb_at 819 (by decide +kernel) (by decide +kernel), tb_at 29 (by decide +kernel) (by decide +kernel), ⟨by decide +kernel, by decide +kernel, by decide +kernel⟩, by decide, by decide +kernel⟩
set_option maxRecDepth 100000 in
theorem cv_L_65 : cv_c RL 65 mX6_delays 6 1 := ⟨by decide, rfl, tb_at 816 (by decide +kernel) (by decide +kernel), tb_at 817 (by decide +kernel) (by decide +kernel), tb_at 818 (by decide +kernel) (by decide +kernel), cm_X6_delays, by decide⟩
set_option maxRecDepth 100000 in
theorem cm_X5_width : cm_c mX5_width 2 := ⟨tb_at 404 (by decide +kernel) (by decide +kernel), tb_at 25 (by decide +kernel) (by decide +kernel), ⟨by decide +kernel, by decide +kernel, by decide +kernel⟩, by decide, by decide +kernel⟩
set_option maxRecDepth 100000 in
theorem cv_L_66 : cv_c RL 66 mX5_width 5 2 := ⟨by decide, rfl, tb_at 401 (by decide +kernel) (by decide +kernel), tb_at 402 (by decide +kernel) (by decide +kernel), tb_at 403 (by decide +kernel) (by decide +kernel), cm_X5_width, by decide⟩
set_option maxRecDepth 100000 in
theorem cm_X6_width : cm_c mX6_width 2 := ⟨tb_at 823 (by decide +kernel) (by decide +kernel), tb_at 29 (by decide +kernel) (by decide +kernel), ⟨by decide +kernel, by decide +kernel, by decide +kernel⟩, by decide, by decide +kernel⟩
set_option maxRecDepth 100000 in
theorem cv_L_69 : cv_c RL 69 mX6_width 6 2 := ⟨by decide, rfl, tb_at 820 (by decide +kernel) (by decide +kernel), tb_at 821 (by decide +kernel) (by decide +kernel), tb_at 822 (by decide +kernel) (by decide +kernel), cm_X6_width, by decide⟩
set_option maxRecDepth 100000 in
theorem cm_X5_sign : cm_c mX5_sign 1 := ⟨tb_at 411 (by decide +kernel) (by decide +kernel), tb_at 25 (by decide +kernel) (by decide +kernel), ⟨by decide +kernel, by decide +kernel, by decide +kernel⟩, by decide, by decide +kernel⟩
set_option maxRecDepth 100000 in
theorem cv_L_70 : cv_c RL 70 mX5_sign 5 1 := ⟨by decide, rfl, tb_at 408 (by decide +kernel) (by decide +kernel), tb_at 409 (by decide +kernel) (by decide +kernel), tb_at 410 (by decide +kernel) (by decide +kernel), cm_X5_sign, by decide⟩
set_option maxRecDepth 100000 in
theorem cm_X6_sign : cm_c mX6_sign 1 := ⟨tb_at 827 (by decide +kernel) (by decide +kernel), tb_at 29 (by decide +kernel) (by decide +kernel), ⟨by decide +kernel, by decide +kernel, by decide +kernel⟩, by decide, by decide +kernel⟩
set_option maxRecDepth 100000 in
theorem cv_L_73 : cv_c RL 73 mX6_sign 6 1 := ⟨by decide, rfl, tb_at 824 (by decide +kernel) (by decide +kernel), tb_at 825 (by decide +kernel) (by decide +kernel), tb_at 826 (by decide +kernel) (by decide +kernel), cm_X6_sign, by decide⟩
set_option maxRecDepth 100000 in
theorem cm_X5_wipe : cm_c mX5_wipe 0 := ⟨tb_at 419 (by decide +kernel) (by decide +kernel), tb_at 25 (by decide +kernel) (by decide +kernel), ⟨by decide +kernel, by decide +kernel, by decide +kernel⟩, by decide, by decide +kernel⟩
set_option maxRecDepth 100000 in
theorem cv_L_74 : cv_c RL 74 mX5_wipe 5 0 := ⟨by decide, rfl, tb_at 416 (by decide +kernel) (by decide +kernel), tb_at 417 (by decide +kernel) (by decide +kernel), tb_at 418 (by decide +kernel) (by decide +kernel), cm_X5_wipe, by decide⟩
set_option maxRecDepth 100000 in
theorem cm_X6_wipe : cm_c mX6_wipe 0 := ⟨tb_at 831 (by decide +kernel) (by decide +kernel), tb_at 29 (by decide +kernel) (by decide +kernel), ⟨by decide +kernel, by decide +kernel, by decide +kernel⟩, by decide, by decide +kernel⟩
set_option maxRecDepth 100000 in
theorem cv_L_77 : cv_c RL 77 mX6_wipe 6 0 := ⟨by decide, rfl, tb_at 828 (by decide +kernel) (by decide +kernel), tb_at 829 (by decide +kernel) (by decide +kernel), tb_at 830 (by decide +kernel) (by decide +kernel), cm_X6_wipe, by decide⟩
set_option maxRecDepth 100000 in
theorem cm_X5_broken : cm_c mX5_broken 2 := ⟨tb_at 423 (by decide +kernel) (by decide +kernel), tb_at 25 (by decide +kernel) (by decide +kernel), ⟨by decide +kernel, by decide +kernel, by decide +kernel⟩, by decide, by decide +kernel⟩
set_option maxRecDepth 100000 in
theorem cv_L_78 : cv_c RL 78 mX5_broken 5 2 := ⟨by decide, rfl, tb_at 420 (by decide +kernel) (by decide +kernel), tb_at 421 (by decide +kernel) (by decide +kernel), tb_at 422 (by decide +kernel) (by decide +kernel), cm_X5_broken, by decide⟩
set_option maxRecDepth 100000 in
theorem cm_X6_broken : cm_c mX6_broken 2 := ⟨tb_at 835 (by decide +kernel) (by decide +kernel), tb_at 29 (by decide +kernel) (by decide +kernel), ⟨by decide +kernel, by decide +kernel, by decide +kernel⟩, by decide, by decide +kernel⟩
set_option maxRecDepth 100000 in
theorem cv_L_81 : cv_c RL 81 mX6_broken 6 2 := ⟨by decide, rfl, tb_at 832 (by decide +kernel) (by decide +kernel), tb_at 833 (by decide +kernel) (by decide +kernel), tb_at 834 (by decide +kernel) (by decide +kernel), cm_X6_broken, by decide⟩
set_option maxRecDepth 100000 in
theorem cm_X5_line : cm_c mX5_line 1 := ⟨tb_at 444 (by decide +kernel) (by decide +kernel), tb_at 25 (by decide +kernel) (by decide +kernel), ⟨by decide +kernel, by decide +kernel, by decide +kernel⟩, by decide, by decide +kernel⟩
set_option maxRecDepth 100000 in
theorem cv_L_82 : cv_c RL 82 mX5_line 5 1 := ⟨by decide, rfl, tb_at 441 (by decide +kernel) (by decide +kernel), tb_at 442 (by decide +kernel) (by decide +kernel), tb_at 443 (by decide +kernel) (by decide +kernel), cm_X5_line, by decide⟩
set_option maxRecDepth 100000 in
theorem cm_X6_line : cm_c mX6_line 1 := ⟨tb_at 851 (by decide +kernel) (by decide +kernel), tb_at 29 (by decide +kernel) (by decide +kernel), ⟨by decide +kernel, by decide +kernel, by decide +kernel⟩, by decide, by decide +kernel⟩
set_option maxRecDepth 100000 in
theorem cv_L_85 : cv_c RL 85 mX6_line 6 1 := ⟨by decide, rfl, tb_at 848 (by decide +kernel) (by decide +kernel), tb_at 849 (by decide +kernel) (by decide +kernel), tb_at 850 (by decide +kernel) (by decide +kernel), cm_X6_line, by decide⟩
set_option maxRecDepth 100000 in
theorem cm_X5_stamp : cm_c mX5_stamp 0 := ⟨tb_at 448 (by decide +kernel) (by decide +kernel), tb_at 25 (by decide +kernel) (by decide +kernel), ⟨by decide +kernel, by decide +kernel, by decide +kernel⟩, by decide, by decide +kernel⟩
set_option maxRecDepth 100000 in
theorem cv_L_86 : cv_c RL 86 mX5_stamp 5 0 := ⟨by decide, rfl, tb_at 445 (by decide +kernel) (by decide +kernel), tb_at 446 (by decide +kernel) (by decide +kernel), tb_at 447 (by decide +kernel) (by decide +kernel), cm_X5_stamp, by decide⟩
set_option maxRecDepth 100000 in
theorem cm_X6_stamp : cm_c mX6_stamp 0 := ⟨tb_at 855 (by decide +kernel) (by decide +kernel), tb_at 29 (by decide +kernel) (by decide +kernel), ⟨by decide +kernel, by decide +kernel, by decide +kernel⟩, by decide, by decide +kernel⟩
set_option maxRecDepth 100000 in
theorem cv_L_89 : cv_c RL 89 mX6_stamp 6 0 := ⟨by decide, rfl, tb_at 852 (by decide +kernel) (by decide +kernel), tb_at 853 (by decide +kernel) (by decide +kernel), tb_at 854 (by decide +kernel) (by decide +kernel), cm_X6_stamp, by decide⟩
set_option maxRecDepth 100000 in
theorem cm_X5_sharpen : cm_c mX5_sharpen 1 := ⟨tb_at 464 (by decide +kernel) (by decide +kernel), tb_at 25 (by decide +kernel) (by decide +kernel), ⟨by decide +kernel, by decide +kernel, by decide +kernel⟩, by decide, by decide +kernel⟩
set_option maxRecDepth 100000 in
theorem cv_L_90 : cv_c RL 90 mX5_sharpen 5 1 := ⟨by decide, rfl, tb_at 461 (by decide +kernel) (by decide +kernel), tb_at 462 (by decide +kernel) (by decide +kernel), tb_at 463 (by decide +kernel) (by decide +kernel), cm_X5_sharpen, by decide⟩
set_option maxRecDepth 100000 in
theorem cm_X6_sharpen : cm_c mX6_sharpen 1 := ⟨tb_at 863 (by decide +kernel) (by decide +kernel), tb_at 29 (by decide +kernel) (by decide +kernel), ⟨by decide +kernel, by decide +kernel, by decide +kernel⟩, by decide, by decide +kernel⟩
set_option maxRecDepth 100000 in
theorem cv_L_93 : cv_c RL 93 mX6_sharpen 6 1 := ⟨by decide, rfl, tb_at 860 (by decide +kernel) (by decide +kernel), tb_at 861 (by decide +kernel) (by decide +kernel), tb_at 862 (by decide +kernel) (by decide +kernel), cm_X6_sharpen, by decide⟩
set_option maxRecDepth 100000 in
theorem cm_X5_last : cm_c mX5_last 1 := ⟨tb_at 468 (by decide +kernel) (by decide +kernel), tb_at 25 (by decide +kernel) (by decide +kernel), ⟨by decide +kernel, by decide +kernel, by decide +kernel⟩, by decide, by decide +kernel⟩
set_option maxRecDepth 100000 in
theorem cv_L_94 : cv_c RL 94 mX5_last 5 1 := ⟨by decide, rfl, tb_at 465 (by decide +kernel) (by decide +kernel), tb_at 466 (by decide +kernel) (by decide +kernel), tb_at 467 (by decide +kernel) (by decide +kernel), cm_X5_last, by decide⟩
set_option maxRecDepth 100000 in
theorem cm_X6_last : cm_c mX6_last 1 := ⟨tb_at 867 (by decide +kernel) (by decide +kernel), tb_at 29 (by decide +kernel) (by decide +kernel), ⟨by decide +kernel, by decide +kernel, by decide +kernel⟩, by decide, by decide +kernel⟩
set_option maxRecDepth 100000 in
theorem cv_L_97 : cv_c RL 97 mX6_last 6 1 := ⟨by decide, rfl, tb_at 864 (by decide +kernel) (by decide +kernel), tb_at 865 (by decide +kernel) (by decide +kernel), tb_at 866 (by decide +kernel) (by decide +kernel), cm_X6_last, by decide⟩
set_option maxRecDepth 100000 in
theorem cm_X5_skin : cm_c mX5_skin 3 := ⟨tb_at 472 (by decide +kernel) (by decide +kernel), tb_at 25 (by decide +kernel) (by decide +kernel), ⟨by decide +kernel, by decide +kernel, by decide +kernel⟩, by decide, by decide +kernel⟩
set_option maxRecDepth 100000 in
theorem cv_L_98 : cv_c RL 98 mX5_skin 5 3 := ⟨by decide, rfl, tb_at 469 (by decide +kernel) (by decide +kernel), tb_at 470 (by decide +kernel) (by decide +kernel), tb_at 471 (by decide +kernel) (by decide +kernel), cm_X5_skin, by decide⟩
set_option maxRecDepth 100000 in
theorem cm_X6_skin : cm_c mX6_skin 3 := ⟨tb_at 871 (by decide +kernel) (by decide +kernel), tb_at 29 (by decide +kernel) (by decide +kernel), ⟨by decide +kernel, by decide +kernel, by decide +kernel⟩, by decide, by decide +kernel⟩
set_option maxRecDepth 100000 in
theorem cv_L_101 : cv_c RL 101 mX6_skin 6 3 := ⟨by decide, rfl, tb_at 868 (by decide +kernel) (by decide +kernel), tb_at 869 (by decide +kernel) (by decide +kernel), tb_at 870 (by decide +kernel) (by decide +kernel), cm_X6_skin, by decide⟩
set_option maxRecDepth 100000 in
theorem cm_X5_flaw : cm_c mX5_flaw 3 := ⟨tb_at 504 (by decide +kernel) (by decide +kernel), tb_at 25 (by decide +kernel) (by decide +kernel), ⟨by decide +kernel, by decide +kernel, by decide +kernel⟩, by decide, by decide +kernel⟩
set_option maxRecDepth 100000 in
theorem cv_L_102 : cv_c RL 102 mX5_flaw 5 3 := ⟨by decide, rfl, tb_at 501 (by decide +kernel) (by decide +kernel), tb_at 502 (by decide +kernel) (by decide +kernel), tb_at 503 (by decide +kernel) (by decide +kernel), cm_X5_flaw, by decide⟩
set_option maxRecDepth 100000 in
theorem cm_X6_flaw : cm_c mX6_flaw 3 := ⟨tb_at 875 (by decide +kernel) (by decide +kernel), tb_at 29 (by decide +kernel) (by decide +kernel), ⟨by decide +kernel, by decide +kernel, by decide +kernel⟩, by decide, by decide +kernel⟩
set_option maxRecDepth 100000 in
theorem cv_L_105 : cv_c RL 105 mX6_flaw 6 3 := ⟨by decide, rfl, tb_at 872 (by decide +kernel) (by decide +kernel), tb_at 873 (by decide +kernel) (by decide +kernel), tb_at 874 (by decide +kernel) (by decide +kernel), cm_X6_flaw, by decide⟩
set_option maxRecDepth 100000 in
theorem cm_X5_cut : cm_c mX5_cut 3 := ⟨tb_at 525 (by decide +kernel) (by decide +kernel), tb_at 25 (by decide +kernel) (by decide +kernel), ⟨by decide +kernel, by decide +kernel, by decide +kernel⟩, by decide, by decide +kernel⟩
set_option maxRecDepth 100000 in
theorem cv_L_106 : cv_c RL 106 mX5_cut 5 3 := ⟨by decide, rfl, tb_at 522 (by decide +kernel) (by decide +kernel), tb_at 523 (by decide +kernel) (by decide +kernel), tb_at 524 (by decide +kernel) (by decide +kernel), cm_X5_cut, by decide⟩
set_option maxRecDepth 100000 in
theorem cm_X6_cut : cm_c mX6_cut 3 := ⟨tb_at 887 (by decide +kernel) (by decide +kernel), tb_at 29 (by decide +kernel) (by decide +kernel), ⟨by decide +kernel, by decide +kernel, by decide +kernel⟩, by decide, by decide +kernel⟩
set_option maxRecDepth 100000 in
theorem cv_L_109 : cv_c RL 109 mX6_cut 6 3 := ⟨by decide, rfl, tb_at 884 (by decide +kernel) (by decide +kernel), tb_at 885 (by decide +kernel) (by decide +kernel), tb_at 886 (by decide +kernel) (by decide +kernel), cm_X6_cut, by decide⟩
set_option maxRecDepth 100000 in
theorem cm_X5_covers : cm_c mX5_covers 4 := ⟨tb_at 542 (by decide +kernel) (by decide +kernel), tb_at 25 (by decide +kernel) (by decide +kernel), ⟨by decide +kernel, by decide +kernel, by decide +kernel⟩, by decide, by decide +kernel⟩
set_option maxRecDepth 100000 in
theorem cv_L_110 : cv_c RL 110 mX5_covers 5 4 := ⟨by decide, rfl, tb_at 539 (by decide +kernel) (by decide +kernel), tb_at 540 (by decide +kernel) (by decide +kernel), tb_at 541 (by decide +kernel) (by decide +kernel), cm_X5_covers, by decide⟩
set_option maxRecDepth 100000 in
theorem cm_X6_covers : cm_c mX6_covers 4 := ⟨tb_at 903 (by decide +kernel) (by decide +kernel), tb_at 29 (by decide +kernel) (by decide +kernel), ⟨by decide +kernel, by decide +kernel, by decide +kernel⟩, by decide, by decide +kernel⟩
set_option maxRecDepth 100000 in
theorem cv_L_113 : cv_c RL 113 mX6_covers 6 4 := ⟨by decide, rfl, tb_at 900 (by decide +kernel) (by decide +kernel), tb_at 901 (by decide +kernel) (by decide +kernel), tb_at 902 (by decide +kernel) (by decide +kernel), cm_X6_covers, by decide⟩
set_option maxRecDepth 100000 in
theorem cm_X5_spot : cm_c mX5_spot 3 := ⟨tb_at 559 (by decide +kernel) (by decide +kernel), tb_at 25 (by decide +kernel) (by decide +kernel), ⟨by decide +kernel, by decide +kernel, by decide +kernel⟩, by decide, by decide +kernel⟩
set_option maxRecDepth 100000 in
theorem cv_L_114 : cv_c RL 114 mX5_spot 5 3 := ⟨by decide, rfl, tb_at 556 (by decide +kernel) (by decide +kernel), tb_at 557 (by decide +kernel) (by decide +kernel), tb_at 558 (by decide +kernel) (by decide +kernel), cm_X5_spot, by decide⟩
set_option maxRecDepth 100000 in
theorem cm_X6_spot : cm_c mX6_spot 3 := ⟨tb_at 907 (by decide +kernel) (by decide +kernel), tb_at 29 (by decide +kernel) (by decide +kernel), ⟨by decide +kernel, by decide +kernel, by decide +kernel⟩, by decide, by decide +kernel⟩
set_option maxRecDepth 100000 in
theorem cv_L_117 : cv_c RL 117 mX6_spot 6 3 := ⟨by decide, rfl, tb_at 904 (by decide +kernel) (by decide +kernel), tb_at 905 (by decide +kernel) (by decide +kernel), tb_at 906 (by decide +kernel) (by decide +kernel), cm_X6_spot, by decide⟩
set_option maxRecDepth 100000 in
theorem cm_X5_days : cm_c mX5_days 1 := ⟨tb_at 563 (by decide +kernel) (by decide +kernel), tb_at 25 (by decide +kernel) (by decide +kernel), ⟨by decide +kernel, by decide +kernel, by decide +kernel⟩, by decide, by decide +kernel⟩
set_option maxRecDepth 100000 in
theorem cv_L_118 : cv_c RL 118 mX5_days 5 1 := ⟨by decide, rfl, tb_at 560 (by decide +kernel) (by decide +kernel), tb_at 561 (by decide +kernel) (by decide +kernel), tb_at 562 (by decide +kernel) (by decide +kernel), cm_X5_days, by decide⟩
set_option maxRecDepth 100000 in
theorem cm_X6_days : cm_c mX6_days 1 := ⟨tb_at 911 (by decide +kernel) (by decide +kernel), tb_at 29 (by decide +kernel) (by decide +kernel), ⟨by decide +kernel, by decide +kernel, by decide +kernel⟩, by decide, by decide +kernel⟩
set_option maxRecDepth 100000 in
theorem cv_L_121 : cv_c RL 121 mX6_days 6 1 := ⟨by decide, rfl, tb_at 908 (by decide +kernel) (by decide +kernel), tb_at 909 (by decide +kernel) (by decide +kernel), tb_at 910 (by decide +kernel) (by decide +kernel), cm_X6_days, by decide⟩
set_option maxRecDepth 100000 in
theorem cm_X5_rate : cm_c mX5_rate 3 := ⟨tb_at 567 (by decide +kernel) (by decide +kernel), tb_at 25 (by decide +kernel) (by decide +kernel), ⟨by decide +kernel, by decide +kernel, by decide +kernel⟩, by decide, by decide +kernel⟩
set_option maxRecDepth 100000 in
theorem cv_L_122 : cv_c RL 122 mX5_rate 5 3 := ⟨by decide, rfl, tb_at 564 (by decide +kernel) (by decide +kernel), tb_at 565 (by decide +kernel) (by decide +kernel), tb_at 566 (by decide +kernel) (by decide +kernel), cm_X5_rate, by decide⟩
set_option maxRecDepth 100000 in
theorem cm_X6_rate : cm_c mX6_rate 3 := ⟨tb_at 915 (by decide +kernel) (by decide +kernel), tb_at 29 (by decide +kernel) (by decide +kernel), ⟨by decide +kernel, by decide +kernel, by decide +kernel⟩, by decide, by decide +kernel⟩
set_option maxRecDepth 100000 in
theorem cv_L_125 : cv_c RL 125 mX6_rate 6 3 := ⟨by decide, rfl, tb_at 912 (by decide +kernel) (by decide +kernel), tb_at 913 (by decide +kernel) (by decide +kernel), tb_at 914 (by decide +kernel) (by decide +kernel), cm_X6_rate, by decide⟩
set_option maxRecDepth 100000 in
theorem cm_X5_rateAt : cm_c mX5_rateAt 3 := ⟨tb_at 578 (by decide +kernel) (by decide +kernel), tb_at 25 (by decide +kernel) (by decide +kernel), ⟨by decide +kernel, by decide +kernel, by decide +kernel⟩, by decide, by decide +kernel⟩
set_option maxRecDepth 100000 in
theorem cv_L_126 : cv_c RL 126 mX5_rateAt 5 3 := ⟨by decide, rfl, tb_at 575 (by decide +kernel) (by decide +kernel), tb_at 576 (by decide +kernel) (by decide +kernel), tb_at 577 (by decide +kernel) (by decide +kernel), cm_X5_rateAt, by decide⟩
set_option maxRecDepth 100000 in
theorem cm_X6_rateAt : cm_c mX6_rateAt 3 := ⟨tb_at 922 (by decide +kernel) (by decide +kernel), tb_at 29 (by decide +kernel) (by decide +kernel), ⟨by decide +kernel, by decide +kernel, by decide +kernel⟩, by decide, by decide +kernel⟩
set_option maxRecDepth 100000 in
theorem cv_L_129 : cv_c RL 129 mX6_rateAt 6 3 := ⟨by decide, rfl, tb_at 919 (by decide +kernel) (by decide +kernel), tb_at 920 (by decide +kernel) (by decide +kernel), tb_at 921 (by decide +kernel) (by decide +kernel), cm_X6_rateAt, by decide⟩
set_option maxRecDepth 100000 in
theorem cm_X5_wages : cm_c mX5_wages 3 := ⟨tb_at 586 (by decide +kernel) (by decide +kernel), tb_at 25 (by decide +kernel) (by decide +kernel), ⟨by decide +kernel, by decide +kernel, by decide +kernel⟩, by decide, by decide +kernel⟩
set_option maxRecDepth 100000 in
theorem cv_L_130 : cv_c RL 130 mX5_wages 5 3 := ⟨by decide, rfl, tb_at 583 (by decide +kernel) (by decide +kernel), tb_at 584 (by decide +kernel) (by decide +kernel), tb_at 585 (by decide +kernel) (by decide +kernel), cm_X5_wages, by decide⟩
set_option maxRecDepth 100000 in
theorem cm_X6_wages : cm_c mX6_wages 3 := ⟨tb_at 930 (by decide +kernel) (by decide +kernel), tb_at 29 (by decide +kernel) (by decide +kernel), ⟨by decide +kernel, by decide +kernel, by decide +kernel⟩, by decide, by decide +kernel⟩
set_option maxRecDepth 100000 in
theorem cv_L_133 : cv_c RL 133 mX6_wages 6 3 := ⟨by decide, rfl, tb_at 927 (by decide +kernel) (by decide +kernel), tb_at 928 (by decide +kernel) (by decide +kernel), tb_at 929 (by decide +kernel) (by decide +kernel), cm_X6_wages, by decide⟩
set_option maxRecDepth 100000 in
theorem cm_X5_count : cm_c mX5_count 1 := ⟨tb_at 596 (by decide +kernel) (by decide +kernel), tb_at 25 (by decide +kernel) (by decide +kernel), ⟨by decide +kernel, by decide +kernel, by decide +kernel⟩, by decide, by decide +kernel⟩
set_option maxRecDepth 100000 in
theorem cv_L_134 : cv_c RL 134 mX5_count 5 1 := ⟨by decide, rfl, tb_at 593 (by decide +kernel) (by decide +kernel), tb_at 594 (by decide +kernel) (by decide +kernel), tb_at 595 (by decide +kernel) (by decide +kernel), cm_X5_count, by decide⟩
set_option maxRecDepth 100000 in
theorem cm_X6_count : cm_c mX6_count 1 := ⟨tb_at 934 (by decide +kernel) (by decide +kernel), tb_at 29 (by decide +kernel) (by decide +kernel), ⟨by decide +kernel, by decide +kernel, by decide +kernel⟩, by decide, by decide +kernel⟩
set_option maxRecDepth 100000 in
theorem cv_L_137 : cv_c RL 137 mX6_count 6 1 := ⟨by decide, rfl, tb_at 931 (by decide +kernel) (by decide +kernel), tb_at 932 (by decide +kernel) (by decide +kernel), tb_at 933 (by decide +kernel) (by decide +kernel), cm_X6_count, by decide⟩
set_option maxRecDepth 100000 in
theorem ins_0 : Cond.instantiable (cl_R 0) (cl_n 0) ∈ tb_w ∧ Cond.initialized (cl_R 0) ∈ tb_w := ⟨tb_at 202 (by decide +kernel) (by decide +kernel), tb_at 30 (by decide +kernel) (by decide +kernel)⟩
set_option maxRecDepth 100000 in
theorem ins_1 : Cond.instantiable (cl_R 1) (cl_n 1) ∈ tb_w ∧ Cond.initialized (cl_R 1) ∈ tb_w := ⟨tb_at 141 (by decide +kernel) (by decide +kernel), tb_at 28 (by decide +kernel) (by decide +kernel)⟩
set_option maxRecDepth 100000 in
theorem ins_2 : Cond.instantiable (cl_R 2) (cl_n 2) ∈ tb_w ∧ Cond.initialized (cl_R 2) ∈ tb_w := ⟨tb_at 45 (by decide +kernel) (by decide +kernel), tb_at 26 (by decide +kernel) (by decide +kernel)⟩
set_option maxRecDepth 100000 in
theorem ins_3 : Cond.instantiable (cl_R 3) (cl_n 3) ∈ tb_w ∧ Cond.initialized (cl_R 3) ∈ tb_w := ⟨tb_at 476 (by decide +kernel) (by decide +kernel), tb_at 33 (by decide +kernel) (by decide +kernel)⟩
set_option maxRecDepth 100000 in
theorem ins_4 : Cond.instantiable (cl_R 4) (cl_n 4) ∈ tb_w ∧ Cond.initialized (cl_R 4) ∈ tb_w := ⟨tb_at 90 (by decide +kernel) (by decide +kernel), tb_at 27 (by decide +kernel) (by decide +kernel)⟩
set_option maxRecDepth 100000 in
theorem ins_5 : Cond.instantiable (cl_R 5) (cl_n 5) ∈ tb_w ∧ Cond.initialized (cl_R 5) ∈ tb_w := ⟨tb_at 35 (by decide +kernel) (by decide +kernel), tb_at 25 (by decide +kernel) (by decide +kernel)⟩
set_option maxRecDepth 100000 in
theorem ins_6 : Cond.instantiable (cl_R 6) (cl_n 6) ∈ tb_w ∧ Cond.initialized (cl_R 6) ∈ tb_w := ⟨tb_at 599 (by decide +kernel) (by decide +kernel), tb_at 29 (by decide +kernel) (by decide +kernel)⟩
set_option maxRecDepth 100000 in
theorem oi_w : Cond.instanceMethod objectInit ∈ tb_w ∧ Cond.code objectInit ⟨#[0xb1]⟩ 1 none ∈ tb_w := ⟨by decide +kernel, by decide +kernel⟩
set_option maxRecDepth 100000 in
theorem ar_w : Cond.arrayClass .int ∈ tb_w ∧ Cond.arrayClass .boolean ∈ tb_w := ⟨by decide +kernel, by decide +kernel⟩
set_option maxRecDepth 100000 in
theorem kc_J6_265 : Cond.constant RJ6 265 1431655765 ∈ tb_w := tb_at 292 (by decide +kernel) (by decide +kernel)
set_option maxRecDepth 100000 in
theorem kc_J6_266 : Cond.constant RJ6 266 858993459 ∈ tb_w := tb_at 293 (by decide +kernel) (by decide +kernel)
set_option maxRecDepth 100000 in
theorem kc_J6_267 : Cond.constant RJ6 267 252645135 ∈ tb_w := tb_at 294 (by decide +kernel) (by decide +kernel)
