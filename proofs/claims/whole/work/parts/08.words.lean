theorem h_at (i : Nat) {w : Cond} (h : lw_tbl[i]? = some w) (hg : goodWord w = true) : w ∈ h_tb := h_tb_in (List.mem_of_getElem? h) hg
theorem ly_X0_0 : Cond.laysFinal RX0 "CopyPolls$Item" "pack" "I" ∈ h_tb := h_at 183 (by decide +kernel) (by decide +kernel)
theorem ly_X0_1 : Cond.laysFinal RX0 "CopyPolls$Item" "rows" "[LCopyPolls$Row;" ∈ h_tb := h_at 185 (by decide +kernel) (by decide +kernel)
theorem ly_X0_2 : Cond.lays RX0 "CopyPolls$Item" "renewed" "I" ∈ h_tb := h_at 187 (by decide +kernel) (by decide +kernel)
theorem in_X0 : ∀ w ∈ u_ws RX0 TX0 3, w ∈ h_tb := by
  intro w hw
  obtain ⟨j, hj, rfl⟩ := List.mem_map.mp hw
  rw [List.mem_range] at hj
  rcases (show j = 0 ∨ j = 1 ∨ j = 2 by omega) with rfl | rfl | rfl
  · exact ly_X0_0
  · exact ly_X0_1
  · exact ly_X0_2
theorem ly_X1_0 : Cond.laysFinal RX1 "CopyPolls$Row" "bytes" "[I" ∈ h_tb := h_at 64 (by decide +kernel) (by decide +kernel)
theorem ly_X1_1 : Cond.lays RX1 "CopyPolls$Row" "size" "I" ∈ h_tb := h_at 66 (by decide +kernel) (by decide +kernel)
theorem in_X1 : ∀ w ∈ u_ws RX1 TX1 2, w ∈ h_tb := by
  intro w hw
  obtain ⟨j, hj, rfl⟩ := List.mem_map.mp hw
  rw [List.mem_range] at hj
  rcases (show j = 0 ∨ j = 1 by omega) with rfl | rfl
  · exact ly_X1_0
  · exact ly_X1_1
theorem ly_X2_0 : Cond.laysFinal RX2 "CopyPolls$Store" "place" "I" ∈ h_tb := h_at 134 (by decide +kernel) (by decide +kernel)
theorem ly_X2_1 : Cond.lays RX2 "CopyPolls$Store" "answering" "Z" ∈ h_tb := h_at 136 (by decide +kernel) (by decide +kernel)
theorem ly_X2_2 : Cond.lays RX2 "CopyPolls$Store" "up" "I" ∈ h_tb := h_at 138 (by decide +kernel) (by decide +kernel)
theorem ly_X2_3 : Cond.lays RX2 "CopyPolls$Store" "down" "I" ∈ h_tb := h_at 140 (by decide +kernel) (by decide +kernel)
theorem in_X2 : ∀ w ∈ u_ws RX2 TX2 4, w ∈ h_tb := by
  intro w hw
  obtain ⟨j, hj, rfl⟩ := List.mem_map.mp hw
  rw [List.mem_range] at hj
  rcases (show j = 0 ∨ j = 1 ∨ j = 2 ∨ j = 3 by omega) with rfl | rfl | rfl | rfl
  · exact ly_X2_0
  · exact ly_X2_1
  · exact ly_X2_2
  · exact ly_X2_3
theorem ly_X3_0 : Cond.laysFinal RX3 "CopyPolls" "copies" "I" ∈ h_tb := h_at 88 (by decide +kernel) (by decide +kernel)
theorem ly_X3_1 : Cond.laysFinal RX3 "CopyPolls" "stores" "[LCopyPolls$Store;" ∈ h_tb := h_at 90 (by decide +kernel) (by decide +kernel)
theorem ly_X3_2 : Cond.lays RX3 "CopyPolls" "storeCount" "I" ∈ h_tb := h_at 92 (by decide +kernel) (by decide +kernel)
theorem ly_X3_3 : Cond.laysFinal RX3 "CopyPolls" "items" "[LCopyPolls$Item;" ∈ h_tb := h_at 94 (by decide +kernel) (by decide +kernel)
theorem ly_X3_4 : Cond.lays RX3 "CopyPolls" "itemCount" "I" ∈ h_tb := h_at 96 (by decide +kernel) (by decide +kernel)
theorem ly_X3_5 : Cond.laysFinal RX3 "CopyPolls" "collected" "LCopyPolls$Row;" ∈ h_tb := h_at 98 (by decide +kernel) (by decide +kernel)
theorem ly_X3_6 : Cond.laysFinal RX3 "CopyPolls" "mixed" "[I" ∈ h_tb := h_at 100 (by decide +kernel) (by decide +kernel)
theorem ly_X3_7 : Cond.laysFinal RX3 "CopyPolls" "askedFiles" "[I" ∈ h_tb := h_at 102 (by decide +kernel) (by decide +kernel)
theorem ly_X3_8 : Cond.laysFinal RX3 "CopyPolls" "askedStores" "[I" ∈ h_tb := h_at 104 (by decide +kernel) (by decide +kernel)
theorem ly_X3_9 : Cond.laysFinal RX3 "CopyPolls" "askedDigests" "[I" ∈ h_tb := h_at 106 (by decide +kernel) (by decide +kernel)
theorem ly_X3_10 : Cond.lays RX3 "CopyPolls" "askedCount" "I" ∈ h_tb := h_at 108 (by decide +kernel) (by decide +kernel)
theorem ly_X3_11 : Cond.lays RX3 "CopyPolls" "foundDigest" "I" ∈ h_tb := h_at 110 (by decide +kernel) (by decide +kernel)
theorem in_X3 : ∀ w ∈ u_ws RX3 TX3 12, w ∈ h_tb := by
  intro w hw
  obtain ⟨j, hj, rfl⟩ := List.mem_map.mp hw
  rw [List.mem_range] at hj
  rcases (show j = 0 ∨ j = 1 ∨ j = 2 ∨ j = 3 ∨ j = 4 ∨ j = 5 ∨ j = 6 ∨ j = 7 ∨ j = 8 ∨ j = 9 ∨ j = 10 ∨ j = 11 by omega) with rfl | rfl | rfl | rfl | rfl | rfl | rfl | rfl | rfl | rfl | rfl | rfl
  · exact ly_X3_0
  · exact ly_X3_1
  · exact ly_X3_2
  · exact ly_X3_3
  · exact ly_X3_4
  · exact ly_X3_5
  · exact ly_X3_6
  · exact ly_X3_7
  · exact ly_X3_8
  · exact ly_X3_9
  · exact ly_X3_10
  · exact ly_X3_11
theorem ly_X4_0 : Cond.lays RX4 "CopyPollsModel" "thrown" "I" ∈ h_tb := h_at 486 (by decide +kernel) (by decide +kernel)
theorem ly_X4_1 : Cond.laysFinal RX4 "CopyPollsModel" "copies" "I" ∈ h_tb := h_at 488 (by decide +kernel) (by decide +kernel)
theorem ly_X4_2 : Cond.lays RX4 "CopyPollsModel" "stores" "I" ∈ h_tb := h_at 490 (by decide +kernel) (by decide +kernel)
theorem ly_X4_3 : Cond.laysFinal RX4 "CopyPollsModel" "place" "[I" ∈ h_tb := h_at 492 (by decide +kernel) (by decide +kernel)
theorem ly_X4_4 : Cond.laysFinal RX4 "CopyPollsModel" "silent" "[Z" ∈ h_tb := h_at 494 (by decide +kernel) (by decide +kernel)
theorem ly_X4_5 : Cond.laysFinal RX4 "CopyPollsModel" "up" "[I" ∈ h_tb := h_at 496 (by decide +kernel) (by decide +kernel)
theorem ly_X4_6 : Cond.laysFinal RX4 "CopyPollsModel" "down" "[I" ∈ h_tb := h_at 498 (by decide +kernel) (by decide +kernel)
theorem ly_X4_7 : Cond.lays RX4 "CopyPollsModel" "collected" "I" ∈ h_tb := h_at 500 (by decide +kernel) (by decide +kernel)
theorem ly_X4_8 : Cond.laysFinal RX4 "CopyPollsModel" "said" "[B" ∈ h_tb := h_at 502 (by decide +kernel) (by decide +kernel)
theorem ly_X4_9 : Cond.lays RX4 "CopyPollsModel" "files" "I" ∈ h_tb := h_at 504 (by decide +kernel) (by decide +kernel)
theorem ly_X4_10 : Cond.laysFinal RX4 "CopyPollsModel" "packages" "[I" ∈ h_tb := h_at 506 (by decide +kernel) (by decide +kernel)
theorem ly_X4_11 : Cond.laysFinal RX4 "CopyPollsModel" "mended" "[I" ∈ h_tb := h_at 508 (by decide +kernel) (by decide +kernel)
theorem ly_X4_12 : Cond.laysFinal RX4 "CopyPollsModel" "size" "[I" ∈ h_tb := h_at 510 (by decide +kernel) (by decide +kernel)
theorem ly_X4_13 : Cond.laysFinal RX4 "CopyPollsModel" "bytes" "[B" ∈ h_tb := h_at 512 (by decide +kernel) (by decide +kernel)
theorem ly_X4_14 : Cond.lays RX4 "CopyPollsModel" "polls" "I" ∈ h_tb := h_at 514 (by decide +kernel) (by decide +kernel)
theorem ly_X4_15 : Cond.laysFinal RX4 "CopyPollsModel" "pollFile" "[I" ∈ h_tb := h_at 516 (by decide +kernel) (by decide +kernel)
theorem ly_X4_16 : Cond.laysFinal RX4 "CopyPollsModel" "pollStore" "[I" ∈ h_tb := h_at 518 (by decide +kernel) (by decide +kernel)
theorem ly_X4_17 : Cond.laysFinal RX4 "CopyPollsModel" "pollDigest" "[I" ∈ h_tb := h_at 520 (by decide +kernel) (by decide +kernel)
theorem ly_X4_18 : Cond.laysFinal RX4 "CopyPollsModel" "mixed" "[I" ∈ h_tb := h_at 522 (by decide +kernel) (by decide +kernel)
theorem ly_X4_19 : Cond.lays RX4 "CopyPollsModel" "found" "I" ∈ h_tb := h_at 524 (by decide +kernel) (by decide +kernel)
theorem in_X4 : ∀ w ∈ u_ws RX4 TX4 20, w ∈ h_tb := by
  intro w hw
  obtain ⟨j, hj, rfl⟩ := List.mem_map.mp hw
  rw [List.mem_range] at hj
  rcases (show j = 0 ∨ j = 1 ∨ j = 2 ∨ j = 3 ∨ j = 4 ∨ j = 5 ∨ j = 6 ∨ j = 7 ∨ j = 8 ∨ j = 9 ∨ j = 10 ∨ j = 11 ∨ j = 12 ∨ j = 13 ∨ j = 14 ∨ j = 15 ∨ j = 16 ∨ j = 17 ∨ j = 18 ∨ j = 19 by omega) with rfl | rfl | rfl | rfl | rfl | rfl | rfl | rfl | rfl | rfl | rfl | rfl | rfl | rfl | rfl | rfl | rfl | rfl | rfl | rfl
  · exact ly_X4_0
  · exact ly_X4_1
  · exact ly_X4_2
  · exact ly_X4_3
  · exact ly_X4_4
  · exact ly_X4_5
  · exact ly_X4_6
  · exact ly_X4_7
  · exact ly_X4_8
  · exact ly_X4_9
  · exact ly_X4_10
  · exact ly_X4_11
  · exact ly_X4_12
  · exact ly_X4_13
  · exact ly_X4_14
  · exact ly_X4_15
  · exact ly_X4_16
  · exact ly_X4_17
  · exact ly_X4_18
  · exact ly_X4_19
theorem fl_X1_9 : Cond.fieldLink RX1 9 "CopyPolls$Row" "bytes" "[I" ∈ h_tb := h_at 60 (by decide +kernel) (by decide +kernel)
theorem fl_X3_106 : Cond.fieldLinkNest RX3 106 "CopyPolls$Row" "bytes" "[I" RX3 ∈ h_nw := by decide +kernel
theorem fl_X1_15 : Cond.fieldLink RX1 15 "CopyPolls$Row" "size" "I" ∈ h_tb := h_at 62 (by decide +kernel) (by decide +kernel)
theorem fl_X3_79 : Cond.fieldLinkNest RX3 79 "CopyPolls$Row" "size" "I" RX3 ∈ h_nw := by decide +kernel
theorem fl_X3_63 : Cond.fieldLink RX3 63 "CopyPolls" "copies" "I" ∈ h_tb := h_at 76 (by decide +kernel) (by decide +kernel)
theorem fl_X3_11 : Cond.fieldLink RX3 11 "CopyPolls" "stores" "[LCopyPolls$Store;" ∈ h_tb := h_at 77 (by decide +kernel) (by decide +kernel)
theorem fl_X3_15 : Cond.fieldLink RX3 15 "CopyPolls" "storeCount" "I" ∈ h_tb := h_at 78 (by decide +kernel) (by decide +kernel)
theorem fl_X3_21 : Cond.fieldLink RX3 21 "CopyPolls" "items" "[LCopyPolls$Item;" ∈ h_tb := h_at 79 (by decide +kernel) (by decide +kernel)
theorem fl_X3_25 : Cond.fieldLink RX3 25 "CopyPolls" "itemCount" "I" ∈ h_tb := h_at 80 (by decide +kernel) (by decide +kernel)
theorem fl_X3_31 : Cond.fieldLink RX3 31 "CopyPolls" "collected" "LCopyPolls$Row;" ∈ h_tb := h_at 81 (by decide +kernel) (by decide +kernel)
theorem fl_X3_35 : Cond.fieldLink RX3 35 "CopyPolls" "mixed" "[I" ∈ h_tb := h_at 82 (by decide +kernel) (by decide +kernel)
theorem fl_X3_39 : Cond.fieldLink RX3 39 "CopyPolls" "askedFiles" "[I" ∈ h_tb := h_at 83 (by decide +kernel) (by decide +kernel)
theorem fl_X3_42 : Cond.fieldLink RX3 42 "CopyPolls" "askedStores" "[I" ∈ h_tb := h_at 84 (by decide +kernel) (by decide +kernel)
theorem fl_X3_45 : Cond.fieldLink RX3 45 "CopyPolls" "askedDigests" "[I" ∈ h_tb := h_at 85 (by decide +kernel) (by decide +kernel)
theorem fl_X3_48 : Cond.fieldLink RX3 48 "CopyPolls" "askedCount" "I" ∈ h_tb := h_at 86 (by decide +kernel) (by decide +kernel)
theorem fl_X3_51 : Cond.fieldLink RX3 51 "CopyPolls" "foundDigest" "I" ∈ h_tb := h_at 87 (by decide +kernel) (by decide +kernel)
theorem fl_X2_20 : Cond.fieldLink RX2 20 "CopyPolls$Store" "place" "I" ∈ h_tb := h_at 126 (by decide +kernel) (by decide +kernel)
theorem fl_X3_195 : Cond.fieldLinkNest RX3 195 "CopyPolls$Store" "place" "I" RX3 ∈ h_nw := by decide +kernel
theorem fl_X2_7 : Cond.fieldLink RX2 7 "CopyPolls$Store" "answering" "Z" ∈ h_tb := h_at 128 (by decide +kernel) (by decide +kernel)
theorem fl_X3_95 : Cond.fieldLinkNest RX3 95 "CopyPolls$Store" "answering" "Z" RX3 ∈ h_nw := by decide +kernel
theorem fl_X2_13 : Cond.fieldLink RX2 13 "CopyPolls$Store" "up" "I" ∈ h_tb := h_at 130 (by decide +kernel) (by decide +kernel)
theorem fl_X3_156 : Cond.fieldLinkNest RX3 156 "CopyPolls$Store" "up" "I" RX3 ∈ h_nw := by decide +kernel
theorem fl_X2_17 : Cond.fieldLink RX2 17 "CopyPolls$Store" "down" "I" ∈ h_tb := h_at 132 (by decide +kernel) (by decide +kernel)
theorem fl_X3_159 : Cond.fieldLinkNest RX3 159 "CopyPolls$Store" "down" "I" RX3 ∈ h_nw := by decide +kernel
theorem fl_X0_21 : Cond.fieldLink RX0 21 "CopyPolls$Item" "pack" "I" ∈ h_tb := h_at 177 (by decide +kernel) (by decide +kernel)
theorem fl_X3_117 : Cond.fieldLinkNest RX3 117 "CopyPolls$Item" "pack" "I" RX3 ∈ h_nw := by decide +kernel
theorem fl_X0_11 : Cond.fieldLink RX0 11 "CopyPolls$Item" "rows" "[LCopyPolls$Row;" ∈ h_tb := h_at 179 (by decide +kernel) (by decide +kernel)
theorem fl_X3_113 : Cond.fieldLinkNest RX3 113 "CopyPolls$Item" "rows" "[LCopyPolls$Row;" RX3 ∈ h_nw := by decide +kernel
theorem fl_X0_17 : Cond.fieldLink RX0 17 "CopyPolls$Item" "renewed" "I" ∈ h_tb := h_at 181 (by decide +kernel) (by decide +kernel)
theorem fl_X3_188 : Cond.fieldLinkNest RX3 188 "CopyPolls$Item" "renewed" "I" RX3 ∈ h_nw := by decide +kernel
theorem fl_X4_55 : Cond.fieldLink RX4 55 "CopyPollsModel" "thrown" "I" ∈ h_tb := h_at 466 (by decide +kernel) (by decide +kernel)
theorem fl_X4_51 : Cond.fieldLink RX4 51 "CopyPollsModel" "copies" "I" ∈ h_tb := h_at 467 (by decide +kernel) (by decide +kernel)
theorem fl_X4_58 : Cond.fieldLink RX4 58 "CopyPollsModel" "stores" "I" ∈ h_tb := h_at 468 (by decide +kernel) (by decide +kernel)
theorem fl_X4_7 : Cond.fieldLink RX4 7 "CopyPollsModel" "place" "[I" ∈ h_tb := h_at 469 (by decide +kernel) (by decide +kernel)
theorem fl_X4_13 : Cond.fieldLink RX4 13 "CopyPollsModel" "silent" "[Z" ∈ h_tb := h_at 470 (by decide +kernel) (by decide +kernel)
theorem fl_X4_17 : Cond.fieldLink RX4 17 "CopyPollsModel" "up" "[I" ∈ h_tb := h_at 471 (by decide +kernel) (by decide +kernel)
theorem fl_X4_20 : Cond.fieldLink RX4 20 "CopyPollsModel" "down" "[I" ∈ h_tb := h_at 472 (by decide +kernel) (by decide +kernel)
theorem fl_X4_79 : Cond.fieldLink RX4 79 "CopyPollsModel" "collected" "I" ∈ h_tb := h_at 473 (by decide +kernel) (by decide +kernel)
theorem fl_X4_23 : Cond.fieldLink RX4 23 "CopyPollsModel" "said" "[B" ∈ h_tb := h_at 474 (by decide +kernel) (by decide +kernel)
theorem fl_X4_65 : Cond.fieldLink RX4 65 "CopyPollsModel" "files" "I" ∈ h_tb := h_at 475 (by decide +kernel) (by decide +kernel)
theorem fl_X4_27 : Cond.fieldLink RX4 27 "CopyPollsModel" "packages" "[I" ∈ h_tb := h_at 476 (by decide +kernel) (by decide +kernel)
theorem fl_X4_30 : Cond.fieldLink RX4 30 "CopyPollsModel" "mended" "[I" ∈ h_tb := h_at 477 (by decide +kernel) (by decide +kernel)
theorem fl_X4_33 : Cond.fieldLink RX4 33 "CopyPollsModel" "size" "[I" ∈ h_tb := h_at 478 (by decide +kernel) (by decide +kernel)
theorem fl_X4_36 : Cond.fieldLink RX4 36 "CopyPollsModel" "bytes" "[B" ∈ h_tb := h_at 479 (by decide +kernel) (by decide +kernel)
theorem fl_X4_96 : Cond.fieldLink RX4 96 "CopyPollsModel" "polls" "I" ∈ h_tb := h_at 480 (by decide +kernel) (by decide +kernel)
theorem fl_X4_39 : Cond.fieldLink RX4 39 "CopyPollsModel" "pollFile" "[I" ∈ h_tb := h_at 481 (by decide +kernel) (by decide +kernel)
theorem fl_X4_42 : Cond.fieldLink RX4 42 "CopyPollsModel" "pollStore" "[I" ∈ h_tb := h_at 482 (by decide +kernel) (by decide +kernel)
theorem fl_X4_45 : Cond.fieldLink RX4 45 "CopyPollsModel" "pollDigest" "[I" ∈ h_tb := h_at 483 (by decide +kernel) (by decide +kernel)
theorem fl_X4_48 : Cond.fieldLink RX4 48 "CopyPollsModel" "mixed" "[I" ∈ h_tb := h_at 484 (by decide +kernel) (by decide +kernel)
theorem fl_X4_106 : Cond.fieldLink RX4 106 "CopyPollsModel" "found" "I" ∈ h_tb := h_at 485 (by decide +kernel) (by decide +kernel)
theorem wn_L : Cond.initialized RL ∈ h_tb := h_at 29 (by decide +kernel) (by decide +kernel)
theorem wn_X3 : Cond.initialized RX3 ∈ h_tb := h_at 30 (by decide +kernel) (by decide +kernel)
theorem wn_X1 : Cond.initialized RX1 ∈ h_tb := h_at 31 (by decide +kernel) (by decide +kernel)
theorem wn_java_lang_Math : Cond.initialized "java/lang/Math" ∈ h_tb := h_at 32 (by decide +kernel) (by decide +kernel)
theorem wn_X4 : Cond.initialized RX4 ∈ h_tb := h_at 33 (by decide +kernel) (by decide +kernel)
theorem wn_X2 : Cond.initialized RX2 ∈ h_tb := h_at 34 (by decide +kernel) (by decide +kernel)
theorem wn_X0 : Cond.initialized RX0 ∈ h_tb := h_at 35 (by decide +kernel) (by decide +kernel)
theorem wn_java_lang_Throwable : Cond.initialized "java/lang/Throwable" ∈ h_tb := h_at 36 (by decide +kernel) (by decide +kernel)
theorem wn_java_lang_Exception : Cond.initialized "java/lang/Exception" ∈ h_tb := h_at 37 (by decide +kernel) (by decide +kernel)
theorem wn_java_lang_RuntimeException : Cond.initialized "java/lang/RuntimeException" ∈ h_tb := h_at 38 (by decide +kernel) (by decide +kernel)
theorem wn_java_lang_IndexOutOfBoundsException : Cond.initialized "java/lang/IndexOutOfBoundsException" ∈ h_tb := h_at 39 (by decide +kernel) (by decide +kernel)
theorem wn_java_lang_ArithmeticException : Cond.initialized "java/lang/ArithmeticException" ∈ h_tb := h_at 40 (by decide +kernel) (by decide +kernel)
theorem wn_java_lang_ArrayIndexOutOfBoundsException : Cond.initialized "java/lang/ArrayIndexOutOfBoundsException" ∈ h_tb := h_at 41 (by decide +kernel) (by decide +kernel)
theorem wk_L_8 : Cond.classLink RL 8 RX3 ∈ h_tb := h_at 42 (by decide +kernel) (by decide +kernel)
theorem wa_X3 : Cond.instantiable RX3 12 ∈ h_tb := h_at 43 (by decide +kernel) (by decide +kernel)
theorem wi_X3_init : Cond.instanceMethod yX3_init ∈ h_tb := h_at 45 (by decide +kernel) (by decide +kernel)
theorem wc_X3_init : Cond.code yX3_init cX3_init 2 none ∈ h_tb := h_at 46 (by decide +kernel) (by decide +kernel)
theorem wk_X3_9 : Cond.classLink RX3 9 RX2 ∈ h_tb := h_at 50 (by decide +kernel) (by decide +kernel)
theorem wk_X3_19 : Cond.classLink RX3 19 RX0 ∈ h_tb := h_at 52 (by decide +kernel) (by decide +kernel)
theorem wk_X3_28 : Cond.classLink RX3 28 RX1 ∈ h_tb := h_at 54 (by decide +kernel) (by decide +kernel)
theorem wa_X1 : Cond.instantiable RX1 2 ∈ h_tb := h_at 55 (by decide +kernel) (by decide +kernel)
theorem wi_X1_init : Cond.instanceMethod yX1_init ∈ h_tb := h_at 57 (by decide +kernel) (by decide +kernel)
theorem wc_X1_init : Cond.code yX1_init cX1_init 1 none ∈ h_tb := h_at 58 (by decide +kernel) (by decide +kernel)
theorem wr_int : Cond.arrayClass .int ∈ h_tb := h_at 69 (by decide +kernel) (by decide +kernel)
theorem wi_X3_store : Cond.instanceMethod yX3_store ∈ h_tb := h_at 114 (by decide +kernel) (by decide +kernel)
theorem wl_X3_store : Cond.selects RX3 yX3_store yX3_store ∈ h_tb := h_at 115 (by decide +kernel) (by decide +kernel)
theorem wc_X3_store : Cond.code yX3_store cX3_store 2 (some .int) ∈ h_tb := h_at 116 (by decide +kernel) (by decide +kernel)
theorem wi_X3_isTaken : Cond.instanceMethod yX3_isTaken ∈ h_tb := h_at 119 (by decide +kernel) (by decide +kernel)
theorem wc_X3_isTaken : Cond.code yX3_isTaken cX3_isTaken 4 (some .boolean) ∈ h_tb := h_at 120 (by decide +kernel) (by decide +kernel)
theorem wa_X2 : Cond.instantiable RX2 4 ∈ h_tb := h_at 121 (by decide +kernel) (by decide +kernel)
theorem wi_X2_init : Cond.instanceMethod yX2_init ∈ h_tb := h_at 123 (by decide +kernel) (by decide +kernel)
theorem wc_X2_init : Cond.code yX2_init cX2_init 2 none ∈ h_tb := h_at 124 (by decide +kernel) (by decide +kernel)
theorem wi_X3_octet : Cond.instanceMethod yX3_octet ∈ h_tb := h_at 144 (by decide +kernel) (by decide +kernel)
theorem wl_X3_octet : Cond.selects RX3 yX3_octet yX3_octet ∈ h_tb := h_at 145 (by decide +kernel) (by decide +kernel)
theorem wc_X3_octet : Cond.code yX3_octet cX3_octet 2 none ∈ h_tb := h_at 146 (by decide +kernel) (by decide +kernel)
theorem wi_X1_append : Cond.instanceMethod yX1_append ∈ h_tb := h_at 148 (by decide +kernel) (by decide +kernel)
theorem wl_X1_append : Cond.selects RX1 yX1_append yX1_append ∈ h_tb := h_at 149 (by decide +kernel) (by decide +kernel)
theorem wc_X1_append : Cond.code yX1_append cX1_append 2 none ∈ h_tb := h_at 150 (by decide +kernel) (by decide +kernel)
theorem wi_X3_put : Cond.instanceMethod yX3_put ∈ h_tb := h_at 152 (by decide +kernel) (by decide +kernel)
theorem wl_X3_put : Cond.selects RX3 yX3_put yX3_put ∈ h_tb := h_at 153 (by decide +kernel) (by decide +kernel)
theorem wc_X3_put : Cond.code yX3_put cX3_put 4 (some .int) ∈ h_tb := h_at 154 (by decide +kernel) (by decide +kernel)
theorem wt_X3_isPackage : Cond.static yX3_isPackage ∈ h_tb := h_at 156 (by decide +kernel) (by decide +kernel)
theorem wc_X3_isPackage : Cond.code yX3_isPackage cX3_isPackage 1 (some .boolean) ∈ h_tb := h_at 157 (by decide +kernel) (by decide +kernel)
theorem wi_X3_answeringStores : Cond.instanceMethod yX3_answeringStores ∈ h_tb := h_at 160 (by decide +kernel) (by decide +kernel)
theorem wc_X3_answeringStores : Cond.code yX3_answeringStores cX3_answeringStores 3 (some .int) ∈ h_tb := h_at 161 (by decide +kernel) (by decide +kernel)
theorem wi_X3_isAnswering : Cond.instanceMethod yX3_isAnswering ∈ h_tb := h_at 164 (by decide +kernel) (by decide +kernel)
theorem wc_X3_isAnswering : Cond.code yX3_isAnswering cX3_isAnswering 3 (some .boolean) ∈ h_tb := h_at 165 (by decide +kernel) (by decide +kernel)
theorem wi_X3_storeOf : Cond.instanceMethod yX3_storeOf ∈ h_tb := h_at 168 (by decide +kernel) (by decide +kernel)
theorem wc_X3_storeOf : Cond.code yX3_storeOf cX3_storeOf 2 (some (.object "CopyPolls$Store")) ∈ h_tb := h_at 169 (by decide +kernel) (by decide +kernel)
theorem wa_X0 : Cond.instantiable RX0 3 ∈ h_tb := h_at 170 (by decide +kernel) (by decide +kernel)
theorem wi_X0_init : Cond.instanceMethod yX0_init ∈ h_tb := h_at 172 (by decide +kernel) (by decide +kernel)
theorem wc_X0_init : Cond.code yX0_init cX0_init 2 none ∈ h_tb := h_at 173 (by decide +kernel) (by decide +kernel)
theorem wk_X0_9 : Cond.classLink RX0 9 RX1 ∈ h_tb := h_at 175 (by decide +kernel) (by decide +kernel)
theorem wi_X3_placeCollected : Cond.instanceMethod yX3_placeCollected ∈ h_tb := h_at 192 (by decide +kernel) (by decide +kernel)
theorem wc_X3_placeCollected : Cond.code yX3_placeCollected cX3_placeCollected 6 none ∈ h_tb := h_at 193 (by decide +kernel) (by decide +kernel)
theorem wi_X3_copiesOn : Cond.instanceMethod yX3_copiesOn ∈ h_tb := h_at 196 (by decide +kernel) (by decide +kernel)
theorem wc_X3_copiesOn : Cond.code yX3_copiesOn cX3_copiesOn 4 (some .int) ∈ h_tb := h_at 197 (by decide +kernel) (by decide +kernel)
theorem wi_X3_copyOf : Cond.instanceMethod yX3_copyOf ∈ h_tb := h_at 200 (by decide +kernel) (by decide +kernel)
theorem wc_X3_copyOf : Cond.code yX3_copyOf cX3_copyOf 4 (some (.object "CopyPolls$Row")) ∈ h_tb := h_at 201 (by decide +kernel) (by decide +kernel)
theorem wi_X3_itemOf : Cond.instanceMethod yX3_itemOf ∈ h_tb := h_at 204 (by decide +kernel) (by decide +kernel)
theorem wc_X3_itemOf : Cond.code yX3_itemOf cX3_itemOf 2 (some (.object "CopyPolls$Item")) ∈ h_tb := h_at 205 (by decide +kernel) (by decide +kernel)
theorem wi_X1_twin : Cond.instanceMethod yX1_twin ∈ h_tb := h_at 207 (by decide +kernel) (by decide +kernel)
theorem wl_X1_twin : Cond.selects RX1 yX1_twin yX1_twin ∈ h_tb := h_at 208 (by decide +kernel) (by decide +kernel)
theorem wc_X1_twin : Cond.code yX1_twin cX1_twin 2 (some (.object "CopyPolls$Row")) ∈ h_tb := h_at 209 (by decide +kernel) (by decide +kernel)
theorem wk_X1_10 : Cond.classLink RX1 10 RX1 ∈ h_tb := h_at 210 (by decide +kernel) (by decide +kernel)
theorem wi_X1_become : Cond.instanceMethod yX1_become ∈ h_tb := h_at 213 (by decide +kernel) (by decide +kernel)
theorem wl_X1_become : Cond.selects RX1 yX1_become yX1_become ∈ h_tb := h_at 214 (by decide +kernel) (by decide +kernel)
theorem wc_X1_become : Cond.code yX1_become cX1_become 3 none ∈ h_tb := h_at 215 (by decide +kernel) (by decide +kernel)
theorem wi_X3_answers : Cond.instanceMethod yX3_answers ∈ h_tb := h_at 217 (by decide +kernel) (by decide +kernel)
theorem wl_X3_answers : Cond.selects RX3 yX3_answers yX3_answers ∈ h_tb := h_at 218 (by decide +kernel) (by decide +kernel)
theorem wc_X3_answers : Cond.code yX3_answers cX3_answers 4 (some .int) ∈ h_tb := h_at 219 (by decide +kernel) (by decide +kernel)
theorem wi_X3_alter : Cond.instanceMethod yX3_alter ∈ h_tb := h_at 221 (by decide +kernel) (by decide +kernel)
theorem wl_X3_alter : Cond.selects RX3 yX3_alter yX3_alter ∈ h_tb := h_at 222 (by decide +kernel) (by decide +kernel)
theorem wc_X3_alter : Cond.code yX3_alter cX3_alter 7 (some .int) ∈ h_tb := h_at 223 (by decide +kernel) (by decide +kernel)
theorem wi_X1_has : Cond.instanceMethod yX1_has ∈ h_tb := h_at 225 (by decide +kernel) (by decide +kernel)
theorem wl_X1_has : Cond.selects RX1 yX1_has yX1_has ∈ h_tb := h_at 226 (by decide +kernel) (by decide +kernel)
theorem wc_X1_has : Cond.code yX1_has cX1_has 2 (some .boolean) ∈ h_tb := h_at 227 (by decide +kernel) (by decide +kernel)
theorem wi_X3_cut : Cond.instanceMethod yX3_cut ∈ h_tb := h_at 229 (by decide +kernel) (by decide +kernel)
theorem wl_X3_cut : Cond.selects RX3 yX3_cut yX3_cut ∈ h_tb := h_at 230 (by decide +kernel) (by decide +kernel)
theorem wc_X3_cut : Cond.code yX3_cut cX3_cut 6 (some .int) ∈ h_tb := h_at 231 (by decide +kernel) (by decide +kernel)
theorem wi_X3_lose : Cond.instanceMethod yX3_lose ∈ h_tb := h_at 233 (by decide +kernel) (by decide +kernel)
theorem wl_X3_lose : Cond.selects RX3 yX3_lose yX3_lose ∈ h_tb := h_at 234 (by decide +kernel) (by decide +kernel)
theorem wc_X3_lose : Cond.code yX3_lose cX3_lose 4 (some .int) ∈ h_tb := h_at 235 (by decide +kernel) (by decide +kernel)
theorem wi_X3_poll : Cond.instanceMethod yX3_poll ∈ h_tb := h_at 237 (by decide +kernel) (by decide +kernel)
theorem wl_X3_poll : Cond.selects RX3 yX3_poll yX3_poll ∈ h_tb := h_at 238 (by decide +kernel) (by decide +kernel)
theorem wc_X3_poll : Cond.code yX3_poll cX3_poll 9 (some .int) ∈ h_tb := h_at 239 (by decide +kernel) (by decide +kernel)
theorem wi_X3_listCounting : Cond.instanceMethod yX3_listCounting ∈ h_tb := h_at 242 (by decide +kernel) (by decide +kernel)
theorem wc_X3_listCounting : Cond.code yX3_listCounting cX3_listCounting 4 (some .int) ∈ h_tb := h_at 243 (by decide +kernel) (by decide +kernel)
theorem wi_X3_countingRow : Cond.instanceMethod yX3_countingRow ∈ h_tb := h_at 246 (by decide +kernel) (by decide +kernel)
theorem wc_X3_countingRow : Cond.code yX3_countingRow cX3_countingRow 3 (some (.object "CopyPolls$Row")) ∈ h_tb := h_at 247 (by decide +kernel) (by decide +kernel)
theorem wi_X3_mix : Cond.instanceMethod yX3_mix ∈ h_tb := h_at 250 (by decide +kernel) (by decide +kernel)
theorem wc_X3_mix : Cond.code yX3_mix cX3_mix 9 (some .long) ∈ h_tb := h_at 251 (by decide +kernel) (by decide +kernel)
theorem wj_X3_206 : Cond.constantLong RX3 206 (6364136223846793005) ∈ h_tb := h_at 252 (by decide +kernel) (by decide +kernel)
theorem wj_X3_208 : Cond.constantLong RX3 208 (1442695040888963407) ∈ h_tb := h_at 253 (by decide +kernel) (by decide +kernel)
theorem wi_X3_ask : Cond.instanceMethod yX3_ask ∈ h_tb := h_at 256 (by decide +kernel) (by decide +kernel)
theorem wc_X3_ask : Cond.code yX3_ask cX3_ask 6 none ∈ h_tb := h_at 257 (by decide +kernel) (by decide +kernel)
theorem wi_X1_sum : Cond.instanceMethod yX1_sum ∈ h_tb := h_at 259 (by decide +kernel) (by decide +kernel)
theorem wl_X1_sum : Cond.selects RX1 yX1_sum yX1_sum ∈ h_tb := h_at 260 (by decide +kernel) (by decide +kernel)
theorem wc_X1_sum : Cond.code yX1_sum cX1_sum 3 (some .int) ∈ h_tb := h_at 261 (by decide +kernel) (by decide +kernel)
theorem wi_X3_majority : Cond.instanceMethod yX3_majority ∈ h_tb := h_at 263 (by decide +kernel) (by decide +kernel)
theorem wl_X3_majority : Cond.selects RX3 yX3_majority yX3_majority ∈ h_tb := h_at 264 (by decide +kernel) (by decide +kernel)
theorem wc_X3_majority : Cond.code yX3_majority cX3_majority 4 (some .int) ∈ h_tb := h_at 265 (by decide +kernel) (by decide +kernel)
theorem wi_X3_majorityRow : Cond.instanceMethod yX3_majorityRow ∈ h_tb := h_at 268 (by decide +kernel) (by decide +kernel)
theorem wc_X3_majorityRow : Cond.code yX3_majorityRow cX3_majorityRow 5 (some (.object "CopyPolls$Row")) ∈ h_tb := h_at 269 (by decide +kernel) (by decide +kernel)
theorem wi_X3_countingCopies : Cond.instanceMethod yX3_countingCopies ∈ h_tb := h_at 272 (by decide +kernel) (by decide +kernel)
theorem wc_X3_countingCopies : Cond.code yX3_countingCopies cX3_countingCopies 4 (some .int) ∈ h_tb := h_at 273 (by decide +kernel) (by decide +kernel)
theorem wi_X3_countingWith : Cond.instanceMethod yX3_countingWith ∈ h_tb := h_at 276 (by decide +kernel) (by decide +kernel)
theorem wc_X3_countingWith : Cond.code yX3_countingWith cX3_countingWith 6 (some .int) ∈ h_tb := h_at 277 (by decide +kernel) (by decide +kernel)
theorem wi_X3_digest : Cond.instanceMethod yX3_digest ∈ h_tb := h_at 279 (by decide +kernel) (by decide +kernel)
theorem wl_X3_digest : Cond.selects RX3 yX3_digest yX3_digest ∈ h_tb := h_at 280 (by decide +kernel) (by decide +kernel)
theorem wc_X3_digest : Cond.code yX3_digest cX3_digest 1 (some .int) ∈ h_tb := h_at 281 (by decide +kernel) (by decide +kernel)
theorem wi_X3_mend : Cond.instanceMethod yX3_mend ∈ h_tb := h_at 283 (by decide +kernel) (by decide +kernel)
theorem wl_X3_mend : Cond.selects RX3 yX3_mend yX3_mend ∈ h_tb := h_at 284 (by decide +kernel) (by decide +kernel)
theorem wc_X3_mend : Cond.code yX3_mend cX3_mend 5 (some .int) ∈ h_tb := h_at 285 (by decide +kernel) (by decide +kernel)
theorem wi_X3_mendItem : Cond.instanceMethod yX3_mendItem ∈ h_tb := h_at 288 (by decide +kernel) (by decide +kernel)
theorem wc_X3_mendItem : Cond.code yX3_mendItem cX3_mendItem 7 (some .int) ∈ h_tb := h_at 289 (by decide +kernel) (by decide +kernel)
theorem wi_X3_stale : Cond.instanceMethod yX3_stale ∈ h_tb := h_at 292 (by decide +kernel) (by decide +kernel)
theorem wl_X3_stale : Cond.selects RX3 yX3_stale yX3_stale ∈ h_tb := h_at 293 (by decide +kernel) (by decide +kernel)
theorem wc_X3_stale : Cond.code yX3_stale cX3_stale 6 (some .int) ∈ h_tb := h_at 294 (by decide +kernel) (by decide +kernel)
theorem wi_X3_fill : Cond.instanceMethod yX3_fill ∈ h_tb := h_at 296 (by decide +kernel) (by decide +kernel)
theorem wl_X3_fill : Cond.selects RX3 yX3_fill yX3_fill ∈ h_tb := h_at 297 (by decide +kernel) (by decide +kernel)
theorem wc_X3_fill : Cond.code yX3_fill cX3_fill 6 (some .int) ∈ h_tb := h_at 298 (by decide +kernel) (by decide +kernel)
theorem wi_X3_fillItem : Cond.instanceMethod yX3_fillItem ∈ h_tb := h_at 301 (by decide +kernel) (by decide +kernel)
theorem wc_X3_fillItem : Cond.code yX3_fillItem cX3_fillItem 4 (some .boolean) ∈ h_tb := h_at 302 (by decide +kernel) (by decide +kernel)
theorem wi_X0_copyCount : Cond.instanceMethod yX0_copyCount ∈ h_tb := h_at 304 (by decide +kernel) (by decide +kernel)
theorem wl_X0_copyCount : Cond.selects RX0 yX0_copyCount yX0_copyCount ∈ h_tb := h_at 305 (by decide +kernel) (by decide +kernel)
theorem wc_X0_copyCount : Cond.code yX0_copyCount cX0_copyCount 6 (some .int) ∈ h_tb := h_at 306 (by decide +kernel) (by decide +kernel)
theorem wi_X3_move : Cond.instanceMethod yX3_move ∈ h_tb := h_at 308 (by decide +kernel) (by decide +kernel)
theorem wl_X3_move : Cond.selects RX3 yX3_move yX3_move ∈ h_tb := h_at 309 (by decide +kernel) (by decide +kernel)
theorem wc_X3_move : Cond.code yX3_move cX3_move 6 (some .int) ∈ h_tb := h_at 310 (by decide +kernel) (by decide +kernel)
theorem wi_X3_rate : Cond.instanceMethod yX3_rate ∈ h_tb := h_at 312 (by decide +kernel) (by decide +kernel)
theorem wl_X3_rate : Cond.selects RX3 yX3_rate yX3_rate ∈ h_tb := h_at 313 (by decide +kernel) (by decide +kernel)
theorem wc_X3_rate : Cond.code yX3_rate cX3_rate 5 (some .int) ∈ h_tb := h_at 314 (by decide +kernel) (by decide +kernel)
theorem wi_X3_about : Cond.instanceMethod yX3_about ∈ h_tb := h_at 316 (by decide +kernel) (by decide +kernel)
theorem wl_X3_about : Cond.selects RX3 yX3_about yX3_about ∈ h_tb := h_at 317 (by decide +kernel) (by decide +kernel)
theorem wc_X3_about : Cond.code yX3_about cX3_about 4 (some .int) ∈ h_tb := h_at 318 (by decide +kernel) (by decide +kernel)
theorem wi_X3_load : Cond.instanceMethod yX3_load ∈ h_tb := h_at 320 (by decide +kernel) (by decide +kernel)
theorem wl_X3_load : Cond.selects RX3 yX3_load yX3_load ∈ h_tb := h_at 321 (by decide +kernel) (by decide +kernel)
theorem wc_X3_load : Cond.code yX3_load cX3_load 2 (some .int) ∈ h_tb := h_at 322 (by decide +kernel) (by decide +kernel)
theorem wt_L_cell : Cond.static yL_cell ∈ h_tb := h_at 324 (by decide +kernel) (by decide +kernel)
theorem wc_L_cell : Cond.code yL_cell cL_cell 2 (some .int) ∈ h_tb := h_at 325 (by decide +kernel) (by decide +kernel)
theorem wt_L_polled : Cond.static yL_polled ∈ h_tb := h_at 327 (by decide +kernel) (by decide +kernel)
theorem wk_L_13 : Cond.classLink RL 13 "java/lang/IndexOutOfBoundsException" ∈ h_tb := h_at 329 (by decide +kernel) (by decide +kernel)
theorem wi_X3_polled : Cond.instanceMethod yX3_polled ∈ h_tb := h_at 331 (by decide +kernel) (by decide +kernel)
theorem wl_X3_polled : Cond.selects RX3 yX3_polled yX3_polled ∈ h_tb := h_at 332 (by decide +kernel) (by decide +kernel)
theorem wc_X3_polled : Cond.code yX3_polled cX3_polled 3 (some .int) ∈ h_tb := h_at 333 (by decide +kernel) (by decide +kernel)
theorem wk_X3_132 : Cond.classLink RX3 132 "java/lang/IndexOutOfBoundsException" ∈ h_tb := h_at 334 (by decide +kernel) (by decide +kernel)
theorem wr_byte : Cond.arrayClass .byte ∈ h_tb := h_at 401 (by decide +kernel) (by decide +kernel)
theorem wt_L_odds : Cond.static yL_odds ∈ h_tb := h_at 403 (by decide +kernel) (by decide +kernel)
theorem wk_L_19 : Cond.classLink RL 19 "java/lang/ArithmeticException" ∈ h_tb := h_at 405 (by decide +kernel) (by decide +kernel)
theorem wi_X3_odds : Cond.instanceMethod yX3_odds ∈ h_tb := h_at 407 (by decide +kernel) (by decide +kernel)
theorem wl_X3_odds : Cond.selects RX3 yX3_odds yX3_odds ∈ h_tb := h_at 408 (by decide +kernel) (by decide +kernel)
theorem wc_X3_odds : Cond.code yX3_odds cX3_odds 13 (some .long) ∈ h_tb := h_at 409 (by decide +kernel) (by decide +kernel)
theorem wj_X3_162 : Cond.constantLong RX3 162 (-1) ∈ h_tb := h_at 410 (by decide +kernel) (by decide +kernel)
theorem wi_X3_bearsOdds : Cond.instanceMethod yX3_bearsOdds ∈ h_tb := h_at 413 (by decide +kernel) (by decide +kernel)
theorem wc_X3_bearsOdds : Cond.code yX3_bearsOdds cX3_bearsOdds 5 (some .boolean) ∈ h_tb := h_at 414 (by decide +kernel) (by decide +kernel)
theorem wk_X3_168 : Cond.classLink RX3 168 "java/lang/ArithmeticException" ∈ h_tb := h_at 415 (by decide +kernel) (by decide +kernel)
theorem wt_X3_commonDivisor : Cond.static yX3_commonDivisor ∈ h_tb := h_at 432 (by decide +kernel) (by decide +kernel)
theorem wc_X3_commonDivisor : Cond.code yX3_commonDivisor cX3_commonDivisor 11 (some .long) ∈ h_tb := h_at 433 (by decide +kernel) (by decide +kernel)
theorem wt_L_at : Cond.static yL_at ∈ h_tb := h_at 435 (by decide +kernel) (by decide +kernel)
theorem wk_L_25 : Cond.classLink RL 25 "java/lang/ArrayIndexOutOfBoundsException" ∈ h_tb := h_at 437 (by decide +kernel) (by decide +kernel)
theorem wi_X3_at : Cond.instanceMethod yX3_at ∈ h_tb := h_at 439 (by decide +kernel) (by decide +kernel)
theorem wl_X3_at : Cond.selects RX3 yX3_at yX3_at ∈ h_tb := h_at 440 (by decide +kernel) (by decide +kernel)
theorem wc_X3_at : Cond.code yX3_at cX3_at 5 (some .int) ∈ h_tb := h_at 441 (by decide +kernel) (by decide +kernel)
theorem wk_X3_177 : Cond.classLink RX3 177 "java/lang/ArrayIndexOutOfBoundsException" ∈ h_tb := h_at 442 (by decide +kernel) (by decide +kernel)
theorem wk_L_36 : Cond.classLink RL 36 RX4 ∈ h_tb := h_at 460 (by decide +kernel) (by decide +kernel)
theorem wa_X4 : Cond.instantiable RX4 20 ∈ h_tb := h_at 461 (by decide +kernel) (by decide +kernel)
theorem wi_X4_init : Cond.instanceMethod yX4_init ∈ h_tb := h_at 463 (by decide +kernel) (by decide +kernel)
theorem wc_X4_init : Cond.code yX4_init cX4_init 3 none ∈ h_tb := h_at 464 (by decide +kernel) (by decide +kernel)
theorem wr_boolean : Cond.arrayClass .boolean ∈ h_tb := h_at 527 (by decide +kernel) (by decide +kernel)
theorem wi_X4_thrown : Cond.instanceMethod yX4_thrown ∈ h_tb := h_at 529 (by decide +kernel) (by decide +kernel)
theorem wl_X4_thrown : Cond.selects RX4 yX4_thrown yX4_thrown ∈ h_tb := h_at 530 (by decide +kernel) (by decide +kernel)
theorem wc_X4_thrown : Cond.code yX4_thrown cX4_thrown 1 (some .int) ∈ h_tb := h_at 531 (by decide +kernel) (by decide +kernel)
theorem wi_X4_store : Cond.instanceMethod yX4_store ∈ h_tb := h_at 533 (by decide +kernel) (by decide +kernel)
theorem wl_X4_store : Cond.selects RX4 yX4_store yX4_store ∈ h_tb := h_at 534 (by decide +kernel) (by decide +kernel)
theorem wc_X4_store : Cond.code yX4_store cX4_store 3 (some .int) ∈ h_tb := h_at 535 (by decide +kernel) (by decide +kernel)
theorem wt_X4_in : Cond.static yX4_in ∈ h_tb := h_at 537 (by decide +kernel) (by decide +kernel)
theorem wc_X4_in : Cond.code yX4_in cX4_in 3 (some .boolean) ∈ h_tb := h_at 538 (by decide +kernel) (by decide +kernel)
theorem wi_X4_octet : Cond.instanceMethod yX4_octet ∈ h_tb := h_at 540 (by decide +kernel) (by decide +kernel)
theorem wl_X4_octet : Cond.selects RX4 yX4_octet yX4_octet ∈ h_tb := h_at 541 (by decide +kernel) (by decide +kernel)
theorem wc_X4_octet : Cond.code yX4_octet cX4_octet 2 none ∈ h_tb := h_at 542 (by decide +kernel) (by decide +kernel)
theorem wi_X4_put : Cond.instanceMethod yX4_put ∈ h_tb := h_at 544 (by decide +kernel) (by decide +kernel)
theorem wl_X4_put : Cond.selects RX4 yX4_put yX4_put ∈ h_tb := h_at 545 (by decide +kernel) (by decide +kernel)
theorem wc_X4_put : Cond.code yX4_put cX4_put 6 (some .int) ∈ h_tb := h_at 546 (by decide +kernel) (by decide +kernel)
theorem wi_X4_ahead : Cond.instanceMethod yX4_ahead ∈ h_tb := h_at 549 (by decide +kernel) (by decide +kernel)
theorem wc_X4_ahead : Cond.code yX4_ahead cX4_ahead 4 (some .int) ∈ h_tb := h_at 550 (by decide +kernel) (by decide +kernel)
theorem wi_X4_loadOf : Cond.instanceMethod yX4_loadOf ∈ h_tb := h_at 553 (by decide +kernel) (by decide +kernel)
theorem wc_X4_loadOf : Cond.code yX4_loadOf cX4_loadOf 4 (some .int) ∈ h_tb := h_at 554 (by decide +kernel) (by decide +kernel)
theorem wi_X4_answers : Cond.instanceMethod yX4_answers ∈ h_tb := h_at 556 (by decide +kernel) (by decide +kernel)
theorem wl_X4_answers : Cond.selects RX4 yX4_answers yX4_answers ∈ h_tb := h_at 557 (by decide +kernel) (by decide +kernel)
theorem wc_X4_answers : Cond.code yX4_answers cX4_answers 3 (some .int) ∈ h_tb := h_at 558 (by decide +kernel) (by decide +kernel)
theorem wi_X4_isStore : Cond.instanceMethod yX4_isStore ∈ h_tb := h_at 561 (by decide +kernel) (by decide +kernel)
theorem wc_X4_isStore : Cond.code yX4_isStore cX4_isStore 2 (some .boolean) ∈ h_tb := h_at 562 (by decide +kernel) (by decide +kernel)
theorem wi_X4_alter : Cond.instanceMethod yX4_alter ∈ h_tb := h_at 564 (by decide +kernel) (by decide +kernel)
theorem wl_X4_alter : Cond.selects RX4 yX4_alter yX4_alter ∈ h_tb := h_at 565 (by decide +kernel) (by decide +kernel)
theorem wc_X4_alter : Cond.code yX4_alter cX4_alter 7 (some .int) ∈ h_tb := h_at 566 (by decide +kernel) (by decide +kernel)
theorem wi_X4_has : Cond.instanceMethod yX4_has ∈ h_tb := h_at 569 (by decide +kernel) (by decide +kernel)
theorem wc_X4_has : Cond.code yX4_has cX4_has 3 (some .boolean) ∈ h_tb := h_at 570 (by decide +kernel) (by decide +kernel)
theorem wi_X4_isFile : Cond.instanceMethod yX4_isFile ∈ h_tb := h_at 573 (by decide +kernel) (by decide +kernel)
theorem wc_X4_isFile : Cond.code yX4_isFile cX4_isFile 2 (some .boolean) ∈ h_tb := h_at 574 (by decide +kernel) (by decide +kernel)
theorem wi_X4_cut : Cond.instanceMethod yX4_cut ∈ h_tb := h_at 576 (by decide +kernel) (by decide +kernel)
theorem wl_X4_cut : Cond.selects RX4 yX4_cut yX4_cut ∈ h_tb := h_at 577 (by decide +kernel) (by decide +kernel)
theorem wc_X4_cut : Cond.code yX4_cut cX4_cut 5 (some .int) ∈ h_tb := h_at 578 (by decide +kernel) (by decide +kernel)
theorem wi_X4_lose : Cond.instanceMethod yX4_lose ∈ h_tb := h_at 580 (by decide +kernel) (by decide +kernel)
theorem wl_X4_lose : Cond.selects RX4 yX4_lose yX4_lose ∈ h_tb := h_at 581 (by decide +kernel) (by decide +kernel)
theorem wc_X4_lose : Cond.code yX4_lose cX4_lose 3 (some .int) ∈ h_tb := h_at 582 (by decide +kernel) (by decide +kernel)
theorem wi_X4_poll : Cond.instanceMethod yX4_poll ∈ h_tb := h_at 584 (by decide +kernel) (by decide +kernel)
theorem wl_X4_poll : Cond.selects RX4 yX4_poll yX4_poll ∈ h_tb := h_at 585 (by decide +kernel) (by decide +kernel)
theorem wc_X4_poll : Cond.code yX4_poll cX4_poll 11 (some .int) ∈ h_tb := h_at 586 (by decide +kernel) (by decide +kernel)
theorem wi_X4_counts : Cond.instanceMethod yX4_counts ∈ h_tb := h_at 589 (by decide +kernel) (by decide +kernel)
theorem wc_X4_counts : Cond.code yX4_counts cX4_counts 3 (some .boolean) ∈ h_tb := h_at 590 (by decide +kernel) (by decide +kernel)
theorem wj_X4_99 : Cond.constantLong RX4 99 (6364136223846793005) ∈ h_tb := h_at 591 (by decide +kernel) (by decide +kernel)
theorem wj_X4_101 : Cond.constantLong RX4 101 (1442695040888963407) ∈ h_tb := h_at 592 (by decide +kernel) (by decide +kernel)
theorem wi_X4_digestOf : Cond.instanceMethod yX4_digestOf ∈ h_tb := h_at 595 (by decide +kernel) (by decide +kernel)
theorem wc_X4_digestOf : Cond.code yX4_digestOf cX4_digestOf 6 (some .int) ∈ h_tb := h_at 596 (by decide +kernel) (by decide +kernel)
theorem wi_X4_polled : Cond.instanceMethod yX4_polled ∈ h_tb := h_at 598 (by decide +kernel) (by decide +kernel)
theorem wl_X4_polled : Cond.selects RX4 yX4_polled yX4_polled ∈ h_tb := h_at 599 (by decide +kernel) (by decide +kernel)
theorem wc_X4_polled : Cond.code yX4_polled cX4_polled 3 (some .int) ∈ h_tb := h_at 600 (by decide +kernel) (by decide +kernel)
theorem wi_X4_majority : Cond.instanceMethod yX4_majority ∈ h_tb := h_at 602 (by decide +kernel) (by decide +kernel)
theorem wl_X4_majority : Cond.selects RX4 yX4_majority yX4_majority ∈ h_tb := h_at 603 (by decide +kernel) (by decide +kernel)
theorem wc_X4_majority : Cond.code yX4_majority cX4_majority 3 (some .int) ∈ h_tb := h_at 604 (by decide +kernel) (by decide +kernel)
theorem wi_X4_leader : Cond.instanceMethod yX4_leader ∈ h_tb := h_at 607 (by decide +kernel) (by decide +kernel)
theorem wc_X4_leader : Cond.code yX4_leader cX4_leader 6 (some .int) ∈ h_tb := h_at 608 (by decide +kernel) (by decide +kernel)
theorem wi_X4_digest : Cond.instanceMethod yX4_digest ∈ h_tb := h_at 610 (by decide +kernel) (by decide +kernel)
theorem wl_X4_digest : Cond.selects RX4 yX4_digest yX4_digest ∈ h_tb := h_at 611 (by decide +kernel) (by decide +kernel)
theorem wc_X4_digest : Cond.code yX4_digest cX4_digest 1 (some .int) ∈ h_tb := h_at 612 (by decide +kernel) (by decide +kernel)
theorem wi_X4_mend : Cond.instanceMethod yX4_mend ∈ h_tb := h_at 614 (by decide +kernel) (by decide +kernel)
theorem wl_X4_mend : Cond.selects RX4 yX4_mend yX4_mend ∈ h_tb := h_at 615 (by decide +kernel) (by decide +kernel)
theorem wc_X4_mend : Cond.code yX4_mend cX4_mend 6 (some .int) ∈ h_tb := h_at 616 (by decide +kernel) (by decide +kernel)
theorem wi_X4_copy : Cond.instanceMethod yX4_copy ∈ h_tb := h_at 619 (by decide +kernel) (by decide +kernel)
theorem wc_X4_copy : Cond.code yX4_copy cX4_copy 5 none ∈ h_tb := h_at 620 (by decide +kernel) (by decide +kernel)
theorem wi_X4_stale : Cond.instanceMethod yX4_stale ∈ h_tb := h_at 622 (by decide +kernel) (by decide +kernel)
theorem wl_X4_stale : Cond.selects RX4 yX4_stale yX4_stale ∈ h_tb := h_at 623 (by decide +kernel) (by decide +kernel)
theorem wc_X4_stale : Cond.code yX4_stale cX4_stale 4 (some .int) ∈ h_tb := h_at 624 (by decide +kernel) (by decide +kernel)
theorem wi_X4_fill : Cond.instanceMethod yX4_fill ∈ h_tb := h_at 626 (by decide +kernel) (by decide +kernel)
theorem wl_X4_fill : Cond.selects RX4 yX4_fill yX4_fill ∈ h_tb := h_at 627 (by decide +kernel) (by decide +kernel)
theorem wc_X4_fill : Cond.code yX4_fill cX4_fill 5 (some .int) ∈ h_tb := h_at 628 (by decide +kernel) (by decide +kernel)
theorem wi_X4_copiesOf : Cond.instanceMethod yX4_copiesOf ∈ h_tb := h_at 631 (by decide +kernel) (by decide +kernel)
theorem wc_X4_copiesOf : Cond.code yX4_copiesOf cX4_copiesOf 5 (some .int) ∈ h_tb := h_at 632 (by decide +kernel) (by decide +kernel)
theorem wi_X4_move : Cond.instanceMethod yX4_move ∈ h_tb := h_at 634 (by decide +kernel) (by decide +kernel)
theorem wl_X4_move : Cond.selects RX4 yX4_move yX4_move ∈ h_tb := h_at 635 (by decide +kernel) (by decide +kernel)
theorem wc_X4_move : Cond.code yX4_move cX4_move 4 (some .int) ∈ h_tb := h_at 636 (by decide +kernel) (by decide +kernel)
theorem wi_X4_rate : Cond.instanceMethod yX4_rate ∈ h_tb := h_at 638 (by decide +kernel) (by decide +kernel)
theorem wl_X4_rate : Cond.selects RX4 yX4_rate yX4_rate ∈ h_tb := h_at 639 (by decide +kernel) (by decide +kernel)
theorem wc_X4_rate : Cond.code yX4_rate cX4_rate 4 (some .int) ∈ h_tb := h_at 640 (by decide +kernel) (by decide +kernel)
theorem wi_X4_odds : Cond.instanceMethod yX4_odds ∈ h_tb := h_at 642 (by decide +kernel) (by decide +kernel)
theorem wl_X4_odds : Cond.selects RX4 yX4_odds yX4_odds ∈ h_tb := h_at 643 (by decide +kernel) (by decide +kernel)
theorem wc_X4_odds : Cond.code yX4_odds cX4_odds 14 (some .long) ∈ h_tb := h_at 644 (by decide +kernel) (by decide +kernel)
theorem wj_X4_117 : Cond.constantLong RX4 117 (-1) ∈ h_tb := h_at 645 (by decide +kernel) (by decide +kernel)
theorem wi_X4_at : Cond.instanceMethod yX4_at ∈ h_tb := h_at 647 (by decide +kernel) (by decide +kernel)
theorem wl_X4_at : Cond.selects RX4 yX4_at yX4_at ∈ h_tb := h_at 648 (by decide +kernel) (by decide +kernel)
theorem wc_X4_at : Cond.code yX4_at cX4_at 4 (some .int) ∈ h_tb := h_at 649 (by decide +kernel) (by decide +kernel)
theorem wi_X4_about : Cond.instanceMethod yX4_about ∈ h_tb := h_at 651 (by decide +kernel) (by decide +kernel)
theorem wl_X4_about : Cond.selects RX4 yX4_about yX4_about ∈ h_tb := h_at 652 (by decide +kernel) (by decide +kernel)
theorem wc_X4_about : Cond.code yX4_about cX4_about 3 (some .int) ∈ h_tb := h_at 653 (by decide +kernel) (by decide +kernel)
theorem wi_X4_load : Cond.instanceMethod yX4_load ∈ h_tb := h_at 655 (by decide +kernel) (by decide +kernel)
theorem wl_X4_load : Cond.selects RX4 yX4_load yX4_load ∈ h_tb := h_at 656 (by decide +kernel) (by decide +kernel)
theorem wc_X4_load : Cond.code yX4_load cX4_load 2 (some .int) ∈ h_tb := h_at 657 (by decide +kernel) (by decide +kernel)
theorem wj_L_70 : Cond.constantLong RL 70 (4294967295) ∈ h_tb := h_at 658 (by decide +kernel) (by decide +kernel)
theorem wr_long : Cond.arrayClass .long ∈ h_tb := h_at 659 (by decide +kernel) (by decide +kernel)
theorem wl_X3_isTaken : Cond.selects RX3 yX3_isTaken yX3_isTaken ∈ h_tb := h_at 0 (by decide +kernel) (by decide +kernel)
theorem wl_X3_answeringStores : Cond.selects RX3 yX3_answeringStores yX3_answeringStores ∈ h_tb := h_at 1 (by decide +kernel) (by decide +kernel)
theorem wl_X3_isAnswering : Cond.selects RX3 yX3_isAnswering yX3_isAnswering ∈ h_tb := h_at 2 (by decide +kernel) (by decide +kernel)
theorem wl_X3_storeOf : Cond.selects RX3 yX3_storeOf yX3_storeOf ∈ h_tb := h_at 3 (by decide +kernel) (by decide +kernel)
theorem wl_X3_placeCollected : Cond.selects RX3 yX3_placeCollected yX3_placeCollected ∈ h_tb := h_at 4 (by decide +kernel) (by decide +kernel)
theorem wl_X3_copiesOn : Cond.selects RX3 yX3_copiesOn yX3_copiesOn ∈ h_tb := h_at 5 (by decide +kernel) (by decide +kernel)
theorem wl_X3_copyOf : Cond.selects RX3 yX3_copyOf yX3_copyOf ∈ h_tb := h_at 6 (by decide +kernel) (by decide +kernel)
theorem wl_X3_itemOf : Cond.selects RX3 yX3_itemOf yX3_itemOf ∈ h_tb := h_at 7 (by decide +kernel) (by decide +kernel)
theorem wl_X3_listCounting : Cond.selects RX3 yX3_listCounting yX3_listCounting ∈ h_tb := h_at 8 (by decide +kernel) (by decide +kernel)
theorem wl_X3_countingRow : Cond.selects RX3 yX3_countingRow yX3_countingRow ∈ h_tb := h_at 9 (by decide +kernel) (by decide +kernel)
theorem wl_X3_mix : Cond.selects RX3 yX3_mix yX3_mix ∈ h_tb := h_at 10 (by decide +kernel) (by decide +kernel)
theorem wl_X3_ask : Cond.selects RX3 yX3_ask yX3_ask ∈ h_tb := h_at 11 (by decide +kernel) (by decide +kernel)
theorem wl_X3_majorityRow : Cond.selects RX3 yX3_majorityRow yX3_majorityRow ∈ h_tb := h_at 12 (by decide +kernel) (by decide +kernel)
theorem wl_X3_countingCopies : Cond.selects RX3 yX3_countingCopies yX3_countingCopies ∈ h_tb := h_at 13 (by decide +kernel) (by decide +kernel)
theorem wl_X3_countingWith : Cond.selects RX3 yX3_countingWith yX3_countingWith ∈ h_tb := h_at 14 (by decide +kernel) (by decide +kernel)
theorem wl_X3_mendItem : Cond.selects RX3 yX3_mendItem yX3_mendItem ∈ h_tb := h_at 15 (by decide +kernel) (by decide +kernel)
theorem wl_X3_fillItem : Cond.selects RX3 yX3_fillItem yX3_fillItem ∈ h_tb := h_at 16 (by decide +kernel) (by decide +kernel)
theorem wl_X3_bearsOdds : Cond.selects RX3 yX3_bearsOdds yX3_bearsOdds ∈ h_tb := h_at 18 (by decide +kernel) (by decide +kernel)
theorem wl_X4_ahead : Cond.selects RX4 yX4_ahead yX4_ahead ∈ h_tb := h_at 19 (by decide +kernel) (by decide +kernel)
theorem wl_X4_loadOf : Cond.selects RX4 yX4_loadOf yX4_loadOf ∈ h_tb := h_at 20 (by decide +kernel) (by decide +kernel)
theorem wl_X4_isStore : Cond.selects RX4 yX4_isStore yX4_isStore ∈ h_tb := h_at 21 (by decide +kernel) (by decide +kernel)
theorem wl_X4_has : Cond.selects RX4 yX4_has yX4_has ∈ h_tb := h_at 22 (by decide +kernel) (by decide +kernel)
theorem wl_X4_isFile : Cond.selects RX4 yX4_isFile yX4_isFile ∈ h_tb := h_at 23 (by decide +kernel) (by decide +kernel)
theorem wl_X4_counts : Cond.selects RX4 yX4_counts yX4_counts ∈ h_tb := h_at 24 (by decide +kernel) (by decide +kernel)
theorem wl_X4_digestOf : Cond.selects RX4 yX4_digestOf yX4_digestOf ∈ h_tb := h_at 25 (by decide +kernel) (by decide +kernel)
theorem wl_X4_leader : Cond.selects RX4 yX4_leader yX4_leader ∈ h_tb := h_at 26 (by decide +kernel) (by decide +kernel)
theorem wl_X4_copy : Cond.selects RX4 yX4_copy yX4_copy ∈ h_tb := h_at 27 (by decide +kernel) (by decide +kernel)
theorem wl_X4_copiesOf : Cond.selects RX4 yX4_copiesOf yX4_copiesOf ∈ h_tb := h_at 28 (by decide +kernel) (by decide +kernel)
theorem ml_L_33 : Cond.methodLink RL 33 yX3_init ∈ h_tb := h_at 44 (by decide +kernel) (by decide +kernel)
theorem cs_L_33 : h_sI RL 33 yX3_init cX3_init 2 1 := ⟨h_ws_good wc_X3_init, wn_X3, ml_L_33, wi_X3_init, rfl, by decide +kernel⟩
-- no name: CopyPolls 1 ('java/lang/Object', '<init>', '()V')
theorem cs_X3_30 : h_sJ RX3 30 yX1_init cX1_init 1 0 := ⟨h_ws_good wc_X1_init, wn_X1, by decide +kernel, wi_X1_init, rfl, by decide +kernel⟩
-- no name: CopyPolls$Row 3 ('java/lang/Object', '<init>', '()V')
-- no name: CopyPolls 54 ('java/lang/Math', 'min', '(II)I')
-- no name: CopyPolls 60 ('java/lang/Math', 'max', '(II)I')
theorem ml_L_39 : Cond.methodLink RL 39 yX3_store ∈ h_tb := h_at 113 (by decide +kernel) (by decide +kernel)
theorem cs_L_39 : h_sV RL RX3 39 yX3_store cX3_store 2 (some .int) 1 := ⟨h_good5 wc_X3_store (fun w hw => by
  rcases List.mem_cons.mp hw with rfl | hw
  · exact ml_L_39
  rcases List.mem_cons.mp hw with rfl | hw
  · exact wi_X3_store
  rcases List.mem_cons.mp hw with rfl | hw
  · exact wl_X3_store
  rcases List.mem_cons.mp hw with rfl | hw
  · exact wn_X3
  · cases hw), by decide +kernel⟩
theorem ml_X3_66 : Cond.methodLink RX3 66 yX3_isTaken ∈ h_tb := h_at 117 (by decide +kernel) (by decide +kernel)
theorem cs_X3_66 : h_sV RX3 RX3 66 yX3_isTaken cX3_isTaken 4 (some .boolean) 1 := ⟨h_good5 wc_X3_isTaken (fun w hw => by
  rcases List.mem_cons.mp hw with rfl | hw
  · exact ml_X3_66
  rcases List.mem_cons.mp hw with rfl | hw
  · exact wi_X3_isTaken
  rcases List.mem_cons.mp hw with rfl | hw
  · exact wl_X3_isTaken
  rcases List.mem_cons.mp hw with rfl | hw
  · exact wn_X3
  · cases hw), by decide +kernel⟩
theorem ml_X3_70 : Cond.methodLink RX3 70 yX2_init ∈ h_tb := h_at 122 (by decide +kernel) (by decide +kernel)
theorem cs_X3_70 : h_sI RX3 70 yX2_init cX2_init 2 1 := ⟨h_ws_good wc_X2_init, wn_X2, ml_X3_70, wi_X2_init, rfl, by decide +kernel⟩
-- no name: CopyPolls$Store 1 ('java/lang/Object', '<init>', '()V')
theorem ml_L_44 : Cond.methodLink RL 44 yX3_octet ∈ h_tb := h_at 143 (by decide +kernel) (by decide +kernel)
theorem cs_L_44 : h_sV RL RX3 44 yX3_octet cX3_octet 2 none 1 := ⟨h_good5 wc_X3_octet (fun w hw => by
  rcases List.mem_cons.mp hw with rfl | hw
  · exact ml_L_44
  rcases List.mem_cons.mp hw with rfl | hw
  · exact wi_X3_octet
  rcases List.mem_cons.mp hw with rfl | hw
  · exact wl_X3_octet
  rcases List.mem_cons.mp hw with rfl | hw
  · exact wn_X3
  · cases hw), by decide +kernel⟩
theorem ml_X3_73 : Cond.methodLink RX3 73 yX1_append ∈ h_tb := h_at 147 (by decide +kernel) (by decide +kernel)
theorem cs_X3_73 : h_sV RX3 RX1 73 yX1_append cX1_append 2 none 1 := ⟨h_good5 wc_X1_append (fun w hw => by
  rcases List.mem_cons.mp hw with rfl | hw
  · exact ml_X3_73
  rcases List.mem_cons.mp hw with rfl | hw
  · exact wi_X1_append
  rcases List.mem_cons.mp hw with rfl | hw
  · exact wl_X1_append
  rcases List.mem_cons.mp hw with rfl | hw
  · exact wn_X1
  · cases hw), by decide +kernel⟩
theorem ml_L_48 : Cond.methodLink RL 48 yX3_put ∈ h_tb := h_at 151 (by decide +kernel) (by decide +kernel)
theorem cs_L_48 : h_sV RL RX3 48 yX3_put cX3_put 4 (some .int) 1 := ⟨h_good5 wc_X3_put (fun w hw => by
  rcases List.mem_cons.mp hw with rfl | hw
  · exact ml_L_48
  rcases List.mem_cons.mp hw with rfl | hw
  · exact wi_X3_put
  rcases List.mem_cons.mp hw with rfl | hw
  · exact wl_X3_put
  rcases List.mem_cons.mp hw with rfl | hw
  · exact wn_X3
  · cases hw), by decide +kernel⟩
theorem ml_X3_76 : Cond.methodLink RX3 76 yX3_isPackage ∈ h_tb := h_at 155 (by decide +kernel) (by decide +kernel)
theorem cs_X3_76 : h_sS RX3 76 yX3_isPackage cX3_isPackage 1 (some .boolean) 1 := ⟨h_good5 wc_X3_isPackage (fun w hw => by
  rcases List.mem_cons.mp hw with rfl | hw
  · exact ml_X3_76
  rcases List.mem_cons.mp hw with rfl | hw
  · exact wt_X3_isPackage
  rcases List.mem_cons.mp hw with rfl | hw
  · exact wn_X3
  · cases hw), by decide +kernel⟩
theorem ml_X3_82 : Cond.methodLink RX3 82 yX3_answeringStores ∈ h_tb := h_at 158 (by decide +kernel) (by decide +kernel)
theorem cs_X3_82 : h_sV RX3 RX3 82 yX3_answeringStores cX3_answeringStores 3 (some .int) 0 := ⟨h_good5 wc_X3_answeringStores (fun w hw => by
  rcases List.mem_cons.mp hw with rfl | hw
  · exact ml_X3_82
  rcases List.mem_cons.mp hw with rfl | hw
  · exact wi_X3_answeringStores
  rcases List.mem_cons.mp hw with rfl | hw
  · exact wl_X3_answeringStores
  rcases List.mem_cons.mp hw with rfl | hw
  · exact wn_X3
  · cases hw), by decide +kernel⟩
theorem ml_X3_153 : Cond.methodLink RX3 153 yX3_isAnswering ∈ h_tb := h_at 162 (by decide +kernel) (by decide +kernel)
theorem cs_X3_153 : h_sV RX3 RX3 153 yX3_isAnswering cX3_isAnswering 3 (some .boolean) 1 := ⟨h_good5 wc_X3_isAnswering (fun w hw => by
  rcases List.mem_cons.mp hw with rfl | hw
  · exact ml_X3_153
  rcases List.mem_cons.mp hw with rfl | hw
  · exact wi_X3_isAnswering
  rcases List.mem_cons.mp hw with rfl | hw
  · exact wl_X3_isAnswering
  rcases List.mem_cons.mp hw with rfl | hw
  · exact wn_X3
  · cases hw), by decide +kernel⟩
theorem ml_X3_91 : Cond.methodLink RX3 91 yX3_storeOf ∈ h_tb := h_at 166 (by decide +kernel) (by decide +kernel)
theorem cs_X3_91 : h_sV RX3 RX3 91 yX3_storeOf cX3_storeOf 2 (some (.object "CopyPolls$Store")) 1 := ⟨h_good5 wc_X3_storeOf (fun w hw => by
  rcases List.mem_cons.mp hw with rfl | hw
  · exact ml_X3_91
  rcases List.mem_cons.mp hw with rfl | hw
  · exact wi_X3_storeOf
  rcases List.mem_cons.mp hw with rfl | hw
  · exact wl_X3_storeOf
  rcases List.mem_cons.mp hw with rfl | hw
  · exact wn_X3
  · cases hw), by decide +kernel⟩
theorem ml_X3_86 : Cond.methodLink RX3 86 yX0_init ∈ h_tb := h_at 171 (by decide +kernel) (by decide +kernel)
theorem cs_X3_86 : h_sI RX3 86 yX0_init cX0_init 2 1 := ⟨h_ws_good wc_X0_init, wn_X0, ml_X3_86, wi_X0_init, rfl, by decide +kernel⟩
-- no name: CopyPolls$Item 3 ('java/lang/Object', '<init>', '()V')
theorem ml_X3_87 : Cond.methodLink RX3 87 yX3_placeCollected ∈ h_tb := h_at 190 (by decide +kernel) (by decide +kernel)
theorem cs_X3_87 : h_sV RX3 RX3 87 yX3_placeCollected cX3_placeCollected 6 none 1 := ⟨h_good5 wc_X3_placeCollected (fun w hw => by
  rcases List.mem_cons.mp hw with rfl | hw
  · exact ml_X3_87
  rcases List.mem_cons.mp hw with rfl | hw
  · exact wi_X3_placeCollected
  rcases List.mem_cons.mp hw with rfl | hw
  · exact wl_X3_placeCollected
  rcases List.mem_cons.mp hw with rfl | hw
  · exact wn_X3
  · cases hw), by decide +kernel⟩
theorem ml_X3_191 : Cond.methodLink RX3 191 yX3_copiesOn ∈ h_tb := h_at 194 (by decide +kernel) (by decide +kernel)
theorem cs_X3_191 : h_sV RX3 RX3 191 yX3_copiesOn cX3_copiesOn 4 (some .int) 1 := ⟨h_good5 wc_X3_copiesOn (fun w hw => by
  rcases List.mem_cons.mp hw with rfl | hw
  · exact ml_X3_191
  rcases List.mem_cons.mp hw with rfl | hw
  · exact wi_X3_copiesOn
  rcases List.mem_cons.mp hw with rfl | hw
  · exact wl_X3_copiesOn
  rcases List.mem_cons.mp hw with rfl | hw
  · exact wn_X3
  · cases hw), by decide +kernel⟩
theorem ml_X3_99 : Cond.methodLink RX3 99 yX3_copyOf ∈ h_tb := h_at 198 (by decide +kernel) (by decide +kernel)
theorem cs_X3_99 : h_sV RX3 RX3 99 yX3_copyOf cX3_copyOf 4 (some (.object "CopyPolls$Row")) 2 := ⟨h_good5 wc_X3_copyOf (fun w hw => by
  rcases List.mem_cons.mp hw with rfl | hw
  · exact ml_X3_99
  rcases List.mem_cons.mp hw with rfl | hw
  · exact wi_X3_copyOf
  rcases List.mem_cons.mp hw with rfl | hw
  · exact wl_X3_copyOf
  rcases List.mem_cons.mp hw with rfl | hw
  · exact wn_X3
  · cases hw), by decide +kernel⟩
theorem ml_X3_109 : Cond.methodLink RX3 109 yX3_itemOf ∈ h_tb := h_at 202 (by decide +kernel) (by decide +kernel)
theorem cs_X3_109 : h_sV RX3 RX3 109 yX3_itemOf cX3_itemOf 2 (some (.object "CopyPolls$Item")) 1 := ⟨h_good5 wc_X3_itemOf (fun w hw => by
  rcases List.mem_cons.mp hw with rfl | hw
  · exact ml_X3_109
  rcases List.mem_cons.mp hw with rfl | hw
  · exact wi_X3_itemOf
  rcases List.mem_cons.mp hw with rfl | hw
  · exact wl_X3_itemOf
  rcases List.mem_cons.mp hw with rfl | hw
  · exact wn_X3
  · cases hw), by decide +kernel⟩
theorem ml_X3_198 : Cond.methodLink RX3 198 yX1_twin ∈ h_tb := h_at 206 (by decide +kernel) (by decide +kernel)
theorem cs_X3_198 : h_sV RX3 RX1 198 yX1_twin cX1_twin 2 (some (.object "CopyPolls$Row")) 0 := ⟨h_good5 wc_X1_twin (fun w hw => by
  rcases List.mem_cons.mp hw with rfl | hw
  · exact ml_X3_198
  rcases List.mem_cons.mp hw with rfl | hw
  · exact wi_X1_twin
  rcases List.mem_cons.mp hw with rfl | hw
  · exact wl_X1_twin
  rcases List.mem_cons.mp hw with rfl | hw
  · exact wn_X1
  · cases hw), by decide +kernel⟩
theorem ml_X1_19 : Cond.methodLink RX1 19 yX1_init ∈ h_tb := h_at 211 (by decide +kernel) (by decide +kernel)
theorem cs_X1_19 : h_sI RX1 19 yX1_init cX1_init 1 0 := ⟨h_ws_good wc_X1_init, wn_X1, ml_X1_19, wi_X1_init, rfl, by decide +kernel⟩
theorem ml_X1_20 : Cond.methodLink RX1 20 yX1_become ∈ h_tb := h_at 212 (by decide +kernel) (by decide +kernel)
theorem cs_X1_20 : h_sV RX1 RX1 20 yX1_become cX1_become 3 none 1 := ⟨h_good5 wc_X1_become (fun w hw => by
  rcases List.mem_cons.mp hw with rfl | hw
  · exact ml_X1_20
  rcases List.mem_cons.mp hw with rfl | hw
  · exact wi_X1_become
  rcases List.mem_cons.mp hw with rfl | hw
  · exact wl_X1_become
  rcases List.mem_cons.mp hw with rfl | hw
  · exact wn_X1
  · cases hw), by decide +kernel⟩
theorem ml_L_52 : Cond.methodLink RL 52 yX3_answers ∈ h_tb := h_at 216 (by decide +kernel) (by decide +kernel)
theorem cs_L_52 : h_sV RL RX3 52 yX3_answers cX3_answers 4 (some .int) 2 := ⟨h_good5 wc_X3_answers (fun w hw => by
  rcases List.mem_cons.mp hw with rfl | hw
  · exact ml_L_52
  rcases List.mem_cons.mp hw with rfl | hw
  · exact wi_X3_answers
  rcases List.mem_cons.mp hw with rfl | hw
  · exact wl_X3_answers
  rcases List.mem_cons.mp hw with rfl | hw
  · exact wn_X3
  · cases hw), by decide +kernel⟩
theorem ml_L_57 : Cond.methodLink RL 57 yX3_alter ∈ h_tb := h_at 220 (by decide +kernel) (by decide +kernel)
theorem cs_L_57 : h_sV RL RX3 57 yX3_alter cX3_alter 7 (some .int) 4 := ⟨h_good5 wc_X3_alter (fun w hw => by
  rcases List.mem_cons.mp hw with rfl | hw
  · exact ml_L_57
  rcases List.mem_cons.mp hw with rfl | hw
  · exact wi_X3_alter
  rcases List.mem_cons.mp hw with rfl | hw
  · exact wl_X3_alter
  rcases List.mem_cons.mp hw with rfl | hw
  · exact wn_X3
  · cases hw), by decide +kernel⟩
theorem ml_X3_103 : Cond.methodLink RX3 103 yX1_has ∈ h_tb := h_at 224 (by decide +kernel) (by decide +kernel)
theorem cs_X3_103 : h_sV RX3 RX1 103 yX1_has cX1_has 2 (some .boolean) 1 := ⟨h_good5 wc_X1_has (fun w hw => by
  rcases List.mem_cons.mp hw with rfl | hw
  · exact ml_X3_103
  rcases List.mem_cons.mp hw with rfl | hw
  · exact wi_X1_has
  rcases List.mem_cons.mp hw with rfl | hw
  · exact wl_X1_has
  rcases List.mem_cons.mp hw with rfl | hw
  · exact wn_X1
  · cases hw), by decide +kernel⟩
theorem ml_L_62 : Cond.methodLink RL 62 yX3_cut ∈ h_tb := h_at 228 (by decide +kernel) (by decide +kernel)
theorem cs_L_62 : h_sV RL RX3 62 yX3_cut cX3_cut 6 (some .int) 3 := ⟨h_good5 wc_X3_cut (fun w hw => by
  rcases List.mem_cons.mp hw with rfl | hw
  · exact ml_L_62
  rcases List.mem_cons.mp hw with rfl | hw
  · exact wi_X3_cut
  rcases List.mem_cons.mp hw with rfl | hw
  · exact wl_X3_cut
  rcases List.mem_cons.mp hw with rfl | hw
  · exact wn_X3
  · cases hw), by decide +kernel⟩
theorem ml_L_66 : Cond.methodLink RL 66 yX3_lose ∈ h_tb := h_at 232 (by decide +kernel) (by decide +kernel)
theorem cs_L_66 : h_sV RL RX3 66 yX3_lose cX3_lose 4 (some .int) 2 := ⟨h_good5 wc_X3_lose (fun w hw => by
  rcases List.mem_cons.mp hw with rfl | hw
  · exact ml_L_66
  rcases List.mem_cons.mp hw with rfl | hw
  · exact wi_X3_lose
  rcases List.mem_cons.mp hw with rfl | hw
  · exact wl_X3_lose
  rcases List.mem_cons.mp hw with rfl | hw
  · exact wn_X3
  · cases hw), by decide +kernel⟩
theorem ml_L_72 : Cond.methodLink RL 72 yX3_poll ∈ h_tb := h_at 236 (by decide +kernel) (by decide +kernel)
theorem cs_L_72 : h_sV RL RX3 72 yX3_poll cX3_poll 9 (some .int) 2 := ⟨h_good5 wc_X3_poll (fun w hw => by
  rcases List.mem_cons.mp hw with rfl | hw
  · exact ml_L_72
  rcases List.mem_cons.mp hw with rfl | hw
  · exact wi_X3_poll
  rcases List.mem_cons.mp hw with rfl | hw
  · exact wl_X3_poll
  rcases List.mem_cons.mp hw with rfl | hw
  · exact wn_X3
  · cases hw), by decide +kernel⟩
theorem ml_X3_120 : Cond.methodLink RX3 120 yX3_listCounting ∈ h_tb := h_at 240 (by decide +kernel) (by decide +kernel)
theorem cs_X3_120 : h_sV RX3 RX3 120 yX3_listCounting cX3_listCounting 4 (some .int) 1 := ⟨h_good5 wc_X3_listCounting (fun w hw => by
  rcases List.mem_cons.mp hw with rfl | hw
  · exact ml_X3_120
  rcases List.mem_cons.mp hw with rfl | hw
  · exact wi_X3_listCounting
  rcases List.mem_cons.mp hw with rfl | hw
  · exact wl_X3_listCounting
  rcases List.mem_cons.mp hw with rfl | hw
  · exact wn_X3
  · cases hw), by decide +kernel⟩
theorem ml_X3_202 : Cond.methodLink RX3 202 yX3_countingRow ∈ h_tb := h_at 244 (by decide +kernel) (by decide +kernel)
theorem cs_X3_202 : h_sV RX3 RX3 202 yX3_countingRow cX3_countingRow 3 (some (.object "CopyPolls$Row")) 2 := ⟨h_good5 wc_X3_countingRow (fun w hw => by
  rcases List.mem_cons.mp hw with rfl | hw
  · exact ml_X3_202
  rcases List.mem_cons.mp hw with rfl | hw
  · exact wi_X3_countingRow
  rcases List.mem_cons.mp hw with rfl | hw
  · exact wl_X3_countingRow
  rcases List.mem_cons.mp hw with rfl | hw
  · exact wn_X3
  · cases hw), by decide +kernel⟩
theorem ml_X3_124 : Cond.methodLink RX3 124 yX3_mix ∈ h_tb := h_at 248 (by decide +kernel) (by decide +kernel)
theorem cs_X3_124 : h_sV RX3 RX3 124 yX3_mix cX3_mix 9 (some .long) 2 := ⟨h_good5 wc_X3_mix (fun w hw => by
  rcases List.mem_cons.mp hw with rfl | hw
  · exact ml_X3_124
  rcases List.mem_cons.mp hw with rfl | hw
  · exact wi_X3_mix
  rcases List.mem_cons.mp hw with rfl | hw
  · exact wl_X3_mix
  rcases List.mem_cons.mp hw with rfl | hw
  · exact wn_X3
  · cases hw), by decide +kernel⟩
theorem ml_X3_128 : Cond.methodLink RX3 128 yX3_ask ∈ h_tb := h_at 254 (by decide +kernel) (by decide +kernel)
theorem cs_X3_128 : h_sV RX3 RX3 128 yX3_ask cX3_ask 6 none 3 := ⟨h_good5 wc_X3_ask (fun w hw => by
  rcases List.mem_cons.mp hw with rfl | hw
  · exact ml_X3_128
  rcases List.mem_cons.mp hw with rfl | hw
  · exact wi_X3_ask
  rcases List.mem_cons.mp hw with rfl | hw
  · exact wl_X3_ask
  rcases List.mem_cons.mp hw with rfl | hw
  · exact wn_X3
  · cases hw), by decide +kernel⟩
theorem ml_X3_143 : Cond.methodLink RX3 143 yX1_sum ∈ h_tb := h_at 258 (by decide +kernel) (by decide +kernel)
theorem cs_X3_143 : h_sV RX3 RX1 143 yX1_sum cX1_sum 3 (some .int) 0 := ⟨h_good5 wc_X1_sum (fun w hw => by
  rcases List.mem_cons.mp hw with rfl | hw
  · exact ml_X3_143
  rcases List.mem_cons.mp hw with rfl | hw
  · exact wi_X1_sum
  rcases List.mem_cons.mp hw with rfl | hw
  · exact wl_X1_sum
  rcases List.mem_cons.mp hw with rfl | hw
  · exact wn_X1
  · cases hw), by decide +kernel⟩
theorem ml_L_85 : Cond.methodLink RL 85 yX3_majority ∈ h_tb := h_at 262 (by decide +kernel) (by decide +kernel)
theorem cs_L_85 : h_sV RL RX3 85 yX3_majority cX3_majority 4 (some .int) 1 := ⟨h_good5 wc_X3_majority (fun w hw => by
  rcases List.mem_cons.mp hw with rfl | hw
  · exact ml_L_85
  rcases List.mem_cons.mp hw with rfl | hw
  · exact wi_X3_majority
  rcases List.mem_cons.mp hw with rfl | hw
  · exact wl_X3_majority
  rcases List.mem_cons.mp hw with rfl | hw
  · exact wn_X3
  · cases hw), by decide +kernel⟩
theorem ml_X3_139 : Cond.methodLink RX3 139 yX3_majorityRow ∈ h_tb := h_at 266 (by decide +kernel) (by decide +kernel)
theorem cs_X3_139 : h_sV RX3 RX3 139 yX3_majorityRow cX3_majorityRow 5 (some (.object "CopyPolls$Row")) 1 := ⟨h_good5 wc_X3_majorityRow (fun w hw => by
  rcases List.mem_cons.mp hw with rfl | hw
  · exact ml_X3_139
  rcases List.mem_cons.mp hw with rfl | hw
  · exact wi_X3_majorityRow
  rcases List.mem_cons.mp hw with rfl | hw
  · exact wl_X3_majorityRow
  rcases List.mem_cons.mp hw with rfl | hw
  · exact wn_X3
  · cases hw), by decide +kernel⟩
theorem ml_X3_185 : Cond.methodLink RX3 185 yX3_countingCopies ∈ h_tb := h_at 270 (by decide +kernel) (by decide +kernel)
theorem cs_X3_185 : h_sV RX3 RX3 185 yX3_countingCopies cX3_countingCopies 4 (some .int) 1 := ⟨h_good5 wc_X3_countingCopies (fun w hw => by
  rcases List.mem_cons.mp hw with rfl | hw
  · exact ml_X3_185
  rcases List.mem_cons.mp hw with rfl | hw
  · exact wi_X3_countingCopies
  rcases List.mem_cons.mp hw with rfl | hw
  · exact wl_X3_countingCopies
  rcases List.mem_cons.mp hw with rfl | hw
  · exact wn_X3
  · cases hw), by decide +kernel⟩
theorem ml_X3_210 : Cond.methodLink RX3 210 yX3_countingWith ∈ h_tb := h_at 274 (by decide +kernel) (by decide +kernel)
theorem cs_X3_210 : h_sV RX3 RX3 210 yX3_countingWith cX3_countingWith 6 (some .int) 2 := ⟨h_good5 wc_X3_countingWith (fun w hw => by
  rcases List.mem_cons.mp hw with rfl | hw
  · exact ml_X3_210
  rcases List.mem_cons.mp hw with rfl | hw
  · exact wi_X3_countingWith
  rcases List.mem_cons.mp hw with rfl | hw
  · exact wl_X3_countingWith
  rcases List.mem_cons.mp hw with rfl | hw
  · exact wn_X3
  · cases hw), by decide +kernel⟩
theorem ml_L_89 : Cond.methodLink RL 89 yX3_digest ∈ h_tb := h_at 278 (by decide +kernel) (by decide +kernel)
theorem cs_L_89 : h_sV RL RX3 89 yX3_digest cX3_digest 1 (some .int) 0 := ⟨h_good5 wc_X3_digest (fun w hw => by
  rcases List.mem_cons.mp hw with rfl | hw
  · exact ml_L_89
  rcases List.mem_cons.mp hw with rfl | hw
  · exact wi_X3_digest
  rcases List.mem_cons.mp hw with rfl | hw
  · exact wl_X3_digest
  rcases List.mem_cons.mp hw with rfl | hw
  · exact wn_X3
  · cases hw), by decide +kernel⟩
theorem ml_L_93 : Cond.methodLink RL 93 yX3_mend ∈ h_tb := h_at 282 (by decide +kernel) (by decide +kernel)
theorem cs_L_93 : h_sV RL RX3 93 yX3_mend cX3_mend 5 (some .int) 1 := ⟨h_good5 wc_X3_mend (fun w hw => by
  rcases List.mem_cons.mp hw with rfl | hw
  · exact ml_L_93
  rcases List.mem_cons.mp hw with rfl | hw
  · exact wi_X3_mend
  rcases List.mem_cons.mp hw with rfl | hw
  · exact wl_X3_mend
  rcases List.mem_cons.mp hw with rfl | hw
  · exact wn_X3
  · cases hw), by decide +kernel⟩
theorem ml_X3_146 : Cond.methodLink RX3 146 yX3_mendItem ∈ h_tb := h_at 286 (by decide +kernel) (by decide +kernel)
theorem cs_X3_146 : h_sV RX3 RX3 146 yX3_mendItem cX3_mendItem 7 (some .int) 1 := ⟨h_good5 wc_X3_mendItem (fun w hw => by
  rcases List.mem_cons.mp hw with rfl | hw
  · exact ml_X3_146
  rcases List.mem_cons.mp hw with rfl | hw
  · exact wi_X3_mendItem
  rcases List.mem_cons.mp hw with rfl | hw
  · exact wl_X3_mendItem
  rcases List.mem_cons.mp hw with rfl | hw
  · exact wn_X3
  · cases hw), by decide +kernel⟩
theorem ml_X3_214 : Cond.methodLink RX3 214 yX1_become ∈ h_tb := h_at 290 (by decide +kernel) (by decide +kernel)
theorem cs_X3_214 : h_sV RX3 RX1 214 yX1_become cX1_become 3 none 1 := ⟨h_good5 wc_X1_become (fun w hw => by
  rcases List.mem_cons.mp hw with rfl | hw
  · exact ml_X3_214
  rcases List.mem_cons.mp hw with rfl | hw
  · exact wi_X1_become
  rcases List.mem_cons.mp hw with rfl | hw
  · exact wl_X1_become
  rcases List.mem_cons.mp hw with rfl | hw
  · exact wn_X1
  · cases hw), by decide +kernel⟩
theorem ml_L_97 : Cond.methodLink RL 97 yX3_stale ∈ h_tb := h_at 291 (by decide +kernel) (by decide +kernel)
theorem cs_L_97 : h_sV RL RX3 97 yX3_stale cX3_stale 6 (some .int) 2 := ⟨h_good5 wc_X3_stale (fun w hw => by
  rcases List.mem_cons.mp hw with rfl | hw
  · exact ml_L_97
  rcases List.mem_cons.mp hw with rfl | hw
  · exact wi_X3_stale
  rcases List.mem_cons.mp hw with rfl | hw
  · exact wl_X3_stale
  rcases List.mem_cons.mp hw with rfl | hw
  · exact wn_X3
  · cases hw), by decide +kernel⟩
theorem ml_L_101 : Cond.methodLink RL 101 yX3_fill ∈ h_tb := h_at 295 (by decide +kernel) (by decide +kernel)
theorem cs_L_101 : h_sV RL RX3 101 yX3_fill cX3_fill 6 (some .int) 1 := ⟨h_good5 wc_X3_fill (fun w hw => by
  rcases List.mem_cons.mp hw with rfl | hw
  · exact ml_L_101
  rcases List.mem_cons.mp hw with rfl | hw
  · exact wi_X3_fill
  rcases List.mem_cons.mp hw with rfl | hw
  · exact wl_X3_fill
  rcases List.mem_cons.mp hw with rfl | hw
  · exact wn_X3
  · cases hw), by decide +kernel⟩
theorem ml_X3_149 : Cond.methodLink RX3 149 yX3_fillItem ∈ h_tb := h_at 299 (by decide +kernel) (by decide +kernel)
theorem cs_X3_149 : h_sV RX3 RX3 149 yX3_fillItem cX3_fillItem 4 (some .boolean) 2 := ⟨h_good5 wc_X3_fillItem (fun w hw => by
  rcases List.mem_cons.mp hw with rfl | hw
  · exact ml_X3_149
  rcases List.mem_cons.mp hw with rfl | hw
  · exact wi_X3_fillItem
  rcases List.mem_cons.mp hw with rfl | hw
  · exact wl_X3_fillItem
  rcases List.mem_cons.mp hw with rfl | hw
  · exact wn_X3
  · cases hw), by decide +kernel⟩
theorem ml_X3_182 : Cond.methodLink RX3 182 yX0_copyCount ∈ h_tb := h_at 303 (by decide +kernel) (by decide +kernel)
theorem cs_X3_182 : h_sV RX3 RX0 182 yX0_copyCount cX0_copyCount 6 (some .int) 0 := ⟨h_good5 wc_X0_copyCount (fun w hw => by
  rcases List.mem_cons.mp hw with rfl | hw
  · exact ml_X3_182
  rcases List.mem_cons.mp hw with rfl | hw
  · exact wi_X0_copyCount
  rcases List.mem_cons.mp hw with rfl | hw
  · exact wl_X0_copyCount
  rcases List.mem_cons.mp hw with rfl | hw
  · exact wn_X0
  · cases hw), by decide +kernel⟩
theorem ml_L_105 : Cond.methodLink RL 105 yX3_move ∈ h_tb := h_at 307 (by decide +kernel) (by decide +kernel)
theorem cs_L_105 : h_sV RL RX3 105 yX3_move cX3_move 6 (some .int) 3 := ⟨h_good5 wc_X3_move (fun w hw => by
  rcases List.mem_cons.mp hw with rfl | hw
  · exact ml_L_105
  rcases List.mem_cons.mp hw with rfl | hw
  · exact wi_X3_move
  rcases List.mem_cons.mp hw with rfl | hw
  · exact wl_X3_move
  rcases List.mem_cons.mp hw with rfl | hw
  · exact wn_X3
  · cases hw), by decide +kernel⟩
theorem ml_L_109 : Cond.methodLink RL 109 yX3_rate ∈ h_tb := h_at 311 (by decide +kernel) (by decide +kernel)
theorem cs_L_109 : h_sV RL RX3 109 yX3_rate cX3_rate 5 (some .int) 3 := ⟨h_good5 wc_X3_rate (fun w hw => by
  rcases List.mem_cons.mp hw with rfl | hw
  · exact ml_L_109
  rcases List.mem_cons.mp hw with rfl | hw
  · exact wi_X3_rate
  rcases List.mem_cons.mp hw with rfl | hw
  · exact wl_X3_rate
  rcases List.mem_cons.mp hw with rfl | hw
  · exact wn_X3
  · cases hw), by decide +kernel⟩
theorem ml_L_120 : Cond.methodLink RL 120 yX3_about ∈ h_tb := h_at 315 (by decide +kernel) (by decide +kernel)
theorem cs_L_120 : h_sV RL RX3 120 yX3_about cX3_about 4 (some .int) 2 := ⟨h_good5 wc_X3_about (fun w hw => by
  rcases List.mem_cons.mp hw with rfl | hw
  · exact ml_L_120
  rcases List.mem_cons.mp hw with rfl | hw
  · exact wi_X3_about
  rcases List.mem_cons.mp hw with rfl | hw
  · exact wl_X3_about
  rcases List.mem_cons.mp hw with rfl | hw
  · exact wn_X3
  · cases hw), by decide +kernel⟩
theorem ml_L_124 : Cond.methodLink RL 124 yX3_load ∈ h_tb := h_at 319 (by decide +kernel) (by decide +kernel)
theorem cs_L_124 : h_sV RL RX3 124 yX3_load cX3_load 2 (some .int) 1 := ⟨h_good5 wc_X3_load (fun w hw => by
  rcases List.mem_cons.mp hw with rfl | hw
  · exact ml_L_124
  rcases List.mem_cons.mp hw with rfl | hw
  · exact wi_X3_load
  rcases List.mem_cons.mp hw with rfl | hw
  · exact wl_X3_load
  rcases List.mem_cons.mp hw with rfl | hw
  · exact wn_X3
  · cases hw), by decide +kernel⟩
theorem ml_L_27 : Cond.methodLink RL 27 yL_cell ∈ h_tb := h_at 323 (by decide +kernel) (by decide +kernel)
theorem cs_L_27 : h_sS RL 27 yL_cell cL_cell 2 (some .int) 2 := ⟨h_good5 wc_L_cell (fun w hw => by
  rcases List.mem_cons.mp hw with rfl | hw
  · exact ml_L_27
  rcases List.mem_cons.mp hw with rfl | hw
  · exact wt_L_cell
  rcases List.mem_cons.mp hw with rfl | hw
  · exact wn_L
  · cases hw), by decide +kernel⟩
-- no code: CopyPollsLaw 77 ('CopyPollsLaw', 'polled', '(LCopyPolls;II[J)I')
theorem ml_L_7 : Cond.methodLink RL 7 yX3_polled ∈ h_tb := h_at 330 (by decide +kernel) (by decide +kernel)
theorem cs_L_7 : h_sV RL RX3 7 yX3_polled cX3_polled 3 (some .int) 2 := ⟨h_good5 wc_X3_polled (fun w hw => by
  rcases List.mem_cons.mp hw with rfl | hw
  · exact ml_L_7
  rcases List.mem_cons.mp hw with rfl | hw
  · exact wi_X3_polled
  rcases List.mem_cons.mp hw with rfl | hw
  · exact wl_X3_polled
  rcases List.mem_cons.mp hw with rfl | hw
  · exact wn_X3
  · cases hw), by decide +kernel⟩
-- no name: CopyPolls 136 ('java/lang/IndexOutOfBoundsException', '<init>', '(Ljava/lang/String;)V')
-- no code: CopyPollsLaw 113 ('CopyPollsLaw', 'odds', '(LCopyPolls;II[J)I')
theorem ml_L_15 : Cond.methodLink RL 15 yX3_odds ∈ h_tb := h_at 406 (by decide +kernel) (by decide +kernel)
theorem cs_L_15 : h_sV RL RX3 15 yX3_odds cX3_odds 13 (some .long) 2 := ⟨h_good5 wc_X3_odds (fun w hw => by
  rcases List.mem_cons.mp hw with rfl | hw
  · exact ml_L_15
  rcases List.mem_cons.mp hw with rfl | hw
  · exact wi_X3_odds
  rcases List.mem_cons.mp hw with rfl | hw
  · exact wl_X3_odds
  rcases List.mem_cons.mp hw with rfl | hw
  · exact wn_X3
  · cases hw), by decide +kernel⟩
theorem ml_X3_164 : Cond.methodLink RX3 164 yX3_bearsOdds ∈ h_tb := h_at 411 (by decide +kernel) (by decide +kernel)
theorem cs_X3_164 : h_sV RX3 RX3 164 yX3_bearsOdds cX3_bearsOdds 5 (some .boolean) 3 := ⟨h_good5 wc_X3_bearsOdds (fun w hw => by
  rcases List.mem_cons.mp hw with rfl | hw
  · exact ml_X3_164
  rcases List.mem_cons.mp hw with rfl | hw
  · exact wi_X3_bearsOdds
  rcases List.mem_cons.mp hw with rfl | hw
  · exact wl_X3_bearsOdds
  rcases List.mem_cons.mp hw with rfl | hw
  · exact wn_X3
  · cases hw), by decide +kernel⟩
-- no name: CopyPolls 172 ('java/lang/ArithmeticException', '<init>', '(Ljava/lang/String;)V')
theorem ml_X3_173 : Cond.methodLink RX3 173 yX3_commonDivisor ∈ h_tb := h_at 431 (by decide +kernel) (by decide +kernel)
theorem cs_X3_173 : h_sS RX3 173 yX3_commonDivisor cX3_commonDivisor 11 (some .long) 2 := ⟨h_good5 wc_X3_commonDivisor (fun w hw => by
  rcases List.mem_cons.mp hw with rfl | hw
  · exact ml_X3_173
  rcases List.mem_cons.mp hw with rfl | hw
  · exact wt_X3_commonDivisor
  rcases List.mem_cons.mp hw with rfl | hw
  · exact wn_X3
  · cases hw), by decide +kernel⟩
-- no code: CopyPollsLaw 116 ('CopyPollsLaw', 'at', '(LCopyPolls;III[J)I')
theorem ml_L_21 : Cond.methodLink RL 21 yX3_at ∈ h_tb := h_at 438 (by decide +kernel) (by decide +kernel)
theorem cs_L_21 : h_sV RL RX3 21 yX3_at cX3_at 5 (some .int) 3 := ⟨h_good5 wc_X3_at (fun w hw => by
  rcases List.mem_cons.mp hw with rfl | hw
  · exact ml_L_21
  rcases List.mem_cons.mp hw with rfl | hw
  · exact wi_X3_at
  rcases List.mem_cons.mp hw with rfl | hw
  · exact wl_X3_at
  rcases List.mem_cons.mp hw with rfl | hw
  · exact wn_X3
  · cases hw), by decide +kernel⟩
-- no name: CopyPolls 181 ('java/lang/ArrayIndexOutOfBoundsException', '<init>', '(Ljava/lang/String;)V')
theorem ml_L_38 : Cond.methodLink RL 38 yX4_init ∈ h_tb := h_at 462 (by decide +kernel) (by decide +kernel)
theorem cs_L_38 : h_sI RL 38 yX4_init cX4_init 3 1 := ⟨h_ws_good wc_X4_init, wn_X4, ml_L_38, wi_X4_init, rfl, by decide +kernel⟩
-- no name: CopyPollsModel 1 ('java/lang/Object', '<init>', '()V')
theorem ml_L_81 : Cond.methodLink RL 81 yX4_thrown ∈ h_tb := h_at 528 (by decide +kernel) (by decide +kernel)
theorem cs_L_81 : h_sV RL RX4 81 yX4_thrown cX4_thrown 1 (some .int) 0 := ⟨h_good5 wc_X4_thrown (fun w hw => by
  rcases List.mem_cons.mp hw with rfl | hw
  · exact ml_L_81
  rcases List.mem_cons.mp hw with rfl | hw
  · exact wi_X4_thrown
  rcases List.mem_cons.mp hw with rfl | hw
  · exact wl_X4_thrown
  rcases List.mem_cons.mp hw with rfl | hw
  · exact wn_X4
  · cases hw), by decide +kernel⟩
theorem ml_L_43 : Cond.methodLink RL 43 yX4_store ∈ h_tb := h_at 532 (by decide +kernel) (by decide +kernel)
theorem cs_L_43 : h_sV RL RX4 43 yX4_store cX4_store 3 (some .int) 1 := ⟨h_good5 wc_X4_store (fun w hw => by
  rcases List.mem_cons.mp hw with rfl | hw
  · exact ml_L_43
  rcases List.mem_cons.mp hw with rfl | hw
  · exact wi_X4_store
  rcases List.mem_cons.mp hw with rfl | hw
  · exact wl_X4_store
  rcases List.mem_cons.mp hw with rfl | hw
  · exact wn_X4
  · cases hw), by decide +kernel⟩
theorem ml_X4_61 : Cond.methodLink RX4 61 yX4_in ∈ h_tb := h_at 536 (by decide +kernel) (by decide +kernel)
theorem cs_X4_61 : h_sS RX4 61 yX4_in cX4_in 3 (some .boolean) 3 := ⟨h_good5 wc_X4_in (fun w hw => by
  rcases List.mem_cons.mp hw with rfl | hw
  · exact ml_X4_61
  rcases List.mem_cons.mp hw with rfl | hw
  · exact wt_X4_in
  rcases List.mem_cons.mp hw with rfl | hw
  · exact wn_X4
  · cases hw), by decide +kernel⟩
theorem ml_L_47 : Cond.methodLink RL 47 yX4_octet ∈ h_tb := h_at 539 (by decide +kernel) (by decide +kernel)
theorem cs_L_47 : h_sV RL RX4 47 yX4_octet cX4_octet 2 none 1 := ⟨h_good5 wc_X4_octet (fun w hw => by
  rcases List.mem_cons.mp hw with rfl | hw
  · exact ml_L_47
  rcases List.mem_cons.mp hw with rfl | hw
  · exact wi_X4_octet
  rcases List.mem_cons.mp hw with rfl | hw
  · exact wl_X4_octet
  rcases List.mem_cons.mp hw with rfl | hw
  · exact wn_X4
  · cases hw), by decide +kernel⟩
theorem ml_L_51 : Cond.methodLink RL 51 yX4_put ∈ h_tb := h_at 543 (by decide +kernel) (by decide +kernel)
theorem cs_L_51 : h_sV RL RX4 51 yX4_put cX4_put 6 (some .int) 1 := ⟨h_good5 wc_X4_put (fun w hw => by
  rcases List.mem_cons.mp hw with rfl | hw
  · exact ml_L_51
  rcases List.mem_cons.mp hw with rfl | hw
  · exact wi_X4_put
  rcases List.mem_cons.mp hw with rfl | hw
  · exact wl_X4_put
  rcases List.mem_cons.mp hw with rfl | hw
  · exact wn_X4
  · cases hw), by decide +kernel⟩
theorem ml_X4_86 : Cond.methodLink RX4 86 yX4_ahead ∈ h_tb := h_at 547 (by decide +kernel) (by decide +kernel)
theorem cs_X4_86 : h_sV RX4 RX4 86 yX4_ahead cX4_ahead 4 (some .int) 1 := ⟨h_good5 wc_X4_ahead (fun w hw => by
  rcases List.mem_cons.mp hw with rfl | hw
  · exact ml_X4_86
  rcases List.mem_cons.mp hw with rfl | hw
  · exact wi_X4_ahead
  rcases List.mem_cons.mp hw with rfl | hw
  · exact wl_X4_ahead
  rcases List.mem_cons.mp hw with rfl | hw
  · exact wn_X4
  · cases hw), by decide +kernel⟩
theorem ml_X4_82 : Cond.methodLink RX4 82 yX4_loadOf ∈ h_tb := h_at 551 (by decide +kernel) (by decide +kernel)
theorem cs_X4_82 : h_sV RX4 RX4 82 yX4_loadOf cX4_loadOf 4 (some .int) 1 := ⟨h_good5 wc_X4_loadOf (fun w hw => by
  rcases List.mem_cons.mp hw with rfl | hw
  · exact ml_X4_82
  rcases List.mem_cons.mp hw with rfl | hw
  · exact wi_X4_loadOf
  rcases List.mem_cons.mp hw with rfl | hw
  · exact wl_X4_loadOf
  rcases List.mem_cons.mp hw with rfl | hw
  · exact wn_X4
  · cases hw), by decide +kernel⟩
theorem ml_L_56 : Cond.methodLink RL 56 yX4_answers ∈ h_tb := h_at 555 (by decide +kernel) (by decide +kernel)
theorem cs_L_56 : h_sV RL RX4 56 yX4_answers cX4_answers 3 (some .int) 2 := ⟨h_good5 wc_X4_answers (fun w hw => by
  rcases List.mem_cons.mp hw with rfl | hw
  · exact ml_L_56
  rcases List.mem_cons.mp hw with rfl | hw
  · exact wi_X4_answers
  rcases List.mem_cons.mp hw with rfl | hw
  · exact wl_X4_answers
  rcases List.mem_cons.mp hw with rfl | hw
  · exact wn_X4
  · cases hw), by decide +kernel⟩
theorem ml_X4_68 : Cond.methodLink RX4 68 yX4_isStore ∈ h_tb := h_at 559 (by decide +kernel) (by decide +kernel)
theorem cs_X4_68 : h_sV RX4 RX4 68 yX4_isStore cX4_isStore 2 (some .boolean) 1 := ⟨h_good5 wc_X4_isStore (fun w hw => by
  rcases List.mem_cons.mp hw with rfl | hw
  · exact ml_X4_68
  rcases List.mem_cons.mp hw with rfl | hw
  · exact wi_X4_isStore
  rcases List.mem_cons.mp hw with rfl | hw
  · exact wl_X4_isStore
  rcases List.mem_cons.mp hw with rfl | hw
  · exact wn_X4
  · cases hw), by decide +kernel⟩
theorem ml_L_61 : Cond.methodLink RL 61 yX4_alter ∈ h_tb := h_at 563 (by decide +kernel) (by decide +kernel)
theorem cs_L_61 : h_sV RL RX4 61 yX4_alter cX4_alter 7 (some .int) 4 := ⟨h_good5 wc_X4_alter (fun w hw => by
  rcases List.mem_cons.mp hw with rfl | hw
  · exact ml_L_61
  rcases List.mem_cons.mp hw with rfl | hw
  · exact wi_X4_alter
  rcases List.mem_cons.mp hw with rfl | hw
  · exact wl_X4_alter
  rcases List.mem_cons.mp hw with rfl | hw
  · exact wn_X4
  · cases hw), by decide +kernel⟩
theorem ml_X4_75 : Cond.methodLink RX4 75 yX4_has ∈ h_tb := h_at 567 (by decide +kernel) (by decide +kernel)
theorem cs_X4_75 : h_sV RX4 RX4 75 yX4_has cX4_has 3 (some .boolean) 2 := ⟨h_good5 wc_X4_has (fun w hw => by
  rcases List.mem_cons.mp hw with rfl | hw
  · exact ml_X4_75
  rcases List.mem_cons.mp hw with rfl | hw
  · exact wi_X4_has
  rcases List.mem_cons.mp hw with rfl | hw
  · exact wl_X4_has
  rcases List.mem_cons.mp hw with rfl | hw
  · exact wn_X4
  · cases hw), by decide +kernel⟩
theorem ml_X4_72 : Cond.methodLink RX4 72 yX4_isFile ∈ h_tb := h_at 571 (by decide +kernel) (by decide +kernel)
theorem cs_X4_72 : h_sV RX4 RX4 72 yX4_isFile cX4_isFile 2 (some .boolean) 1 := ⟨h_good5 wc_X4_isFile (fun w hw => by
  rcases List.mem_cons.mp hw with rfl | hw
  · exact ml_X4_72
  rcases List.mem_cons.mp hw with rfl | hw
  · exact wi_X4_isFile
  rcases List.mem_cons.mp hw with rfl | hw
  · exact wl_X4_isFile
  rcases List.mem_cons.mp hw with rfl | hw
  · exact wn_X4
  · cases hw), by decide +kernel⟩
theorem ml_L_65 : Cond.methodLink RL 65 yX4_cut ∈ h_tb := h_at 575 (by decide +kernel) (by decide +kernel)
theorem cs_L_65 : h_sV RL RX4 65 yX4_cut cX4_cut 5 (some .int) 3 := ⟨h_good5 wc_X4_cut (fun w hw => by
  rcases List.mem_cons.mp hw with rfl | hw
  · exact ml_L_65
  rcases List.mem_cons.mp hw with rfl | hw
  · exact wi_X4_cut
  rcases List.mem_cons.mp hw with rfl | hw
  · exact wl_X4_cut
  rcases List.mem_cons.mp hw with rfl | hw
  · exact wn_X4
  · cases hw), by decide +kernel⟩
theorem ml_L_69 : Cond.methodLink RL 69 yX4_lose ∈ h_tb := h_at 579 (by decide +kernel) (by decide +kernel)
theorem cs_L_69 : h_sV RL RX4 69 yX4_lose cX4_lose 3 (some .int) 2 := ⟨h_good5 wc_X4_lose (fun w hw => by
  rcases List.mem_cons.mp hw with rfl | hw
  · exact ml_L_69
  rcases List.mem_cons.mp hw with rfl | hw
  · exact wi_X4_lose
  rcases List.mem_cons.mp hw with rfl | hw
  · exact wl_X4_lose
  rcases List.mem_cons.mp hw with rfl | hw
  · exact wn_X4
  · cases hw), by decide +kernel⟩
theorem ml_L_76 : Cond.methodLink RL 76 yX4_poll ∈ h_tb := h_at 583 (by decide +kernel) (by decide +kernel)
theorem cs_L_76 : h_sV RL RX4 76 yX4_poll cX4_poll 11 (some .int) 2 := ⟨h_good5 wc_X4_poll (fun w hw => by
  rcases List.mem_cons.mp hw with rfl | hw
  · exact ml_L_76
  rcases List.mem_cons.mp hw with rfl | hw
  · exact wi_X4_poll
  rcases List.mem_cons.mp hw with rfl | hw
  · exact wl_X4_poll
  rcases List.mem_cons.mp hw with rfl | hw
  · exact wn_X4
  · cases hw), by decide +kernel⟩
theorem ml_X4_89 : Cond.methodLink RX4 89 yX4_counts ∈ h_tb := h_at 587 (by decide +kernel) (by decide +kernel)
theorem cs_X4_89 : h_sV RX4 RX4 89 yX4_counts cX4_counts 3 (some .boolean) 2 := ⟨h_good5 wc_X4_counts (fun w hw => by
  rcases List.mem_cons.mp hw with rfl | hw
  · exact ml_X4_89
  rcases List.mem_cons.mp hw with rfl | hw
  · exact wi_X4_counts
  rcases List.mem_cons.mp hw with rfl | hw
  · exact wl_X4_counts
  rcases List.mem_cons.mp hw with rfl | hw
  · exact wn_X4
  · cases hw), by decide +kernel⟩
theorem ml_X4_92 : Cond.methodLink RX4 92 yX4_digestOf ∈ h_tb := h_at 593 (by decide +kernel) (by decide +kernel)
theorem cs_X4_92 : h_sV RX4 RX4 92 yX4_digestOf cX4_digestOf 6 (some .int) 2 := ⟨h_good5 wc_X4_digestOf (fun w hw => by
  rcases List.mem_cons.mp hw with rfl | hw
  · exact ml_X4_92
  rcases List.mem_cons.mp hw with rfl | hw
  · exact wi_X4_digestOf
  rcases List.mem_cons.mp hw with rfl | hw
  · exact wl_X4_digestOf
  rcases List.mem_cons.mp hw with rfl | hw
  · exact wn_X4
  · cases hw), by decide +kernel⟩
theorem ml_L_80 : Cond.methodLink RL 80 yX4_polled ∈ h_tb := h_at 597 (by decide +kernel) (by decide +kernel)
theorem cs_L_80 : h_sV RL RX4 80 yX4_polled cX4_polled 3 (some .int) 2 := ⟨h_good5 wc_X4_polled (fun w hw => by
  rcases List.mem_cons.mp hw with rfl | hw
  · exact ml_L_80
  rcases List.mem_cons.mp hw with rfl | hw
  · exact wi_X4_polled
  rcases List.mem_cons.mp hw with rfl | hw
  · exact wl_X4_polled
  rcases List.mem_cons.mp hw with rfl | hw
  · exact wn_X4
  · cases hw), by decide +kernel⟩
theorem ml_L_88 : Cond.methodLink RL 88 yX4_majority ∈ h_tb := h_at 601 (by decide +kernel) (by decide +kernel)
theorem cs_L_88 : h_sV RL RX4 88 yX4_majority cX4_majority 3 (some .int) 1 := ⟨h_good5 wc_X4_majority (fun w hw => by
  rcases List.mem_cons.mp hw with rfl | hw
  · exact ml_L_88
  rcases List.mem_cons.mp hw with rfl | hw
  · exact wi_X4_majority
  rcases List.mem_cons.mp hw with rfl | hw
  · exact wl_X4_majority
  rcases List.mem_cons.mp hw with rfl | hw
  · exact wn_X4
  · cases hw), by decide +kernel⟩
theorem ml_X4_103 : Cond.methodLink RX4 103 yX4_leader ∈ h_tb := h_at 605 (by decide +kernel) (by decide +kernel)
theorem cs_X4_103 : h_sV RX4 RX4 103 yX4_leader cX4_leader 6 (some .int) 1 := ⟨h_good5 wc_X4_leader (fun w hw => by
  rcases List.mem_cons.mp hw with rfl | hw
  · exact ml_X4_103
  rcases List.mem_cons.mp hw with rfl | hw
  · exact wi_X4_leader
  rcases List.mem_cons.mp hw with rfl | hw
  · exact wl_X4_leader
  rcases List.mem_cons.mp hw with rfl | hw
  · exact wn_X4
  · cases hw), by decide +kernel⟩
theorem ml_L_92 : Cond.methodLink RL 92 yX4_digest ∈ h_tb := h_at 609 (by decide +kernel) (by decide +kernel)
theorem cs_L_92 : h_sV RL RX4 92 yX4_digest cX4_digest 1 (some .int) 0 := ⟨h_good5 wc_X4_digest (fun w hw => by
  rcases List.mem_cons.mp hw with rfl | hw
  · exact ml_L_92
  rcases List.mem_cons.mp hw with rfl | hw
  · exact wi_X4_digest
  rcases List.mem_cons.mp hw with rfl | hw
  · exact wl_X4_digest
  rcases List.mem_cons.mp hw with rfl | hw
  · exact wn_X4
  · cases hw), by decide +kernel⟩
theorem ml_L_96 : Cond.methodLink RL 96 yX4_mend ∈ h_tb := h_at 613 (by decide +kernel) (by decide +kernel)
theorem cs_L_96 : h_sV RL RX4 96 yX4_mend cX4_mend 6 (some .int) 1 := ⟨h_good5 wc_X4_mend (fun w hw => by
  rcases List.mem_cons.mp hw with rfl | hw
  · exact ml_L_96
  rcases List.mem_cons.mp hw with rfl | hw
  · exact wi_X4_mend
  rcases List.mem_cons.mp hw with rfl | hw
  · exact wl_X4_mend
  rcases List.mem_cons.mp hw with rfl | hw
  · exact wn_X4
  · cases hw), by decide +kernel⟩
theorem ml_X4_109 : Cond.methodLink RX4 109 yX4_copy ∈ h_tb := h_at 617 (by decide +kernel) (by decide +kernel)
theorem cs_X4_109 : h_sV RX4 RX4 109 yX4_copy cX4_copy 5 none 3 := ⟨h_good5 wc_X4_copy (fun w hw => by
  rcases List.mem_cons.mp hw with rfl | hw
  · exact ml_X4_109
  rcases List.mem_cons.mp hw with rfl | hw
  · exact wi_X4_copy
  rcases List.mem_cons.mp hw with rfl | hw
  · exact wl_X4_copy
  rcases List.mem_cons.mp hw with rfl | hw
  · exact wn_X4
  · cases hw), by decide +kernel⟩
theorem ml_L_100 : Cond.methodLink RL 100 yX4_stale ∈ h_tb := h_at 621 (by decide +kernel) (by decide +kernel)
theorem cs_L_100 : h_sV RL RX4 100 yX4_stale cX4_stale 4 (some .int) 2 := ⟨h_good5 wc_X4_stale (fun w hw => by
  rcases List.mem_cons.mp hw with rfl | hw
  · exact ml_L_100
  rcases List.mem_cons.mp hw with rfl | hw
  · exact wi_X4_stale
  rcases List.mem_cons.mp hw with rfl | hw
  · exact wl_X4_stale
  rcases List.mem_cons.mp hw with rfl | hw
  · exact wn_X4
  · cases hw), by decide +kernel⟩
theorem ml_L_104 : Cond.methodLink RL 104 yX4_fill ∈ h_tb := h_at 625 (by decide +kernel) (by decide +kernel)
theorem cs_L_104 : h_sV RL RX4 104 yX4_fill cX4_fill 5 (some .int) 1 := ⟨h_good5 wc_X4_fill (fun w hw => by
  rcases List.mem_cons.mp hw with rfl | hw
  · exact ml_L_104
  rcases List.mem_cons.mp hw with rfl | hw
  · exact wi_X4_fill
  rcases List.mem_cons.mp hw with rfl | hw
  · exact wl_X4_fill
  rcases List.mem_cons.mp hw with rfl | hw
  · exact wn_X4
  · cases hw), by decide +kernel⟩
theorem ml_X4_113 : Cond.methodLink RX4 113 yX4_copiesOf ∈ h_tb := h_at 629 (by decide +kernel) (by decide +kernel)
theorem cs_X4_113 : h_sV RX4 RX4 113 yX4_copiesOf cX4_copiesOf 5 (some .int) 2 := ⟨h_good5 wc_X4_copiesOf (fun w hw => by
  rcases List.mem_cons.mp hw with rfl | hw
  · exact ml_X4_113
  rcases List.mem_cons.mp hw with rfl | hw
  · exact wi_X4_copiesOf
  rcases List.mem_cons.mp hw with rfl | hw
  · exact wl_X4_copiesOf
  rcases List.mem_cons.mp hw with rfl | hw
  · exact wn_X4
  · cases hw), by decide +kernel⟩
theorem ml_L_108 : Cond.methodLink RL 108 yX4_move ∈ h_tb := h_at 633 (by decide +kernel) (by decide +kernel)
theorem cs_L_108 : h_sV RL RX4 108 yX4_move cX4_move 4 (some .int) 3 := ⟨h_good5 wc_X4_move (fun w hw => by
  rcases List.mem_cons.mp hw with rfl | hw
  · exact ml_L_108
  rcases List.mem_cons.mp hw with rfl | hw
  · exact wi_X4_move
  rcases List.mem_cons.mp hw with rfl | hw
  · exact wl_X4_move
  rcases List.mem_cons.mp hw with rfl | hw
  · exact wn_X4
  · cases hw), by decide +kernel⟩
theorem ml_L_112 : Cond.methodLink RL 112 yX4_rate ∈ h_tb := h_at 637 (by decide +kernel) (by decide +kernel)
theorem cs_L_112 : h_sV RL RX4 112 yX4_rate cX4_rate 4 (some .int) 3 := ⟨h_good5 wc_X4_rate (fun w hw => by
  rcases List.mem_cons.mp hw with rfl | hw
  · exact ml_L_112
  rcases List.mem_cons.mp hw with rfl | hw
  · exact wi_X4_rate
  rcases List.mem_cons.mp hw with rfl | hw
  · exact wl_X4_rate
  rcases List.mem_cons.mp hw with rfl | hw
  · exact wn_X4
  · cases hw), by decide +kernel⟩
theorem ml_L_115 : Cond.methodLink RL 115 yX4_odds ∈ h_tb := h_at 641 (by decide +kernel) (by decide +kernel)
theorem cs_L_115 : h_sV RL RX4 115 yX4_odds cX4_odds 14 (some .long) 2 := ⟨h_good5 wc_X4_odds (fun w hw => by
  rcases List.mem_cons.mp hw with rfl | hw
  · exact ml_L_115
  rcases List.mem_cons.mp hw with rfl | hw
  · exact wi_X4_odds
  rcases List.mem_cons.mp hw with rfl | hw
  · exact wl_X4_odds
  rcases List.mem_cons.mp hw with rfl | hw
  · exact wn_X4
  · cases hw), by decide +kernel⟩
theorem ml_L_119 : Cond.methodLink RL 119 yX4_at ∈ h_tb := h_at 646 (by decide +kernel) (by decide +kernel)
theorem cs_L_119 : h_sV RL RX4 119 yX4_at cX4_at 4 (some .int) 3 := ⟨h_good5 wc_X4_at (fun w hw => by
  rcases List.mem_cons.mp hw with rfl | hw
  · exact ml_L_119
  rcases List.mem_cons.mp hw with rfl | hw
  · exact wi_X4_at
  rcases List.mem_cons.mp hw with rfl | hw
  · exact wl_X4_at
  rcases List.mem_cons.mp hw with rfl | hw
  · exact wn_X4
  · cases hw), by decide +kernel⟩
theorem ml_L_123 : Cond.methodLink RL 123 yX4_about ∈ h_tb := h_at 650 (by decide +kernel) (by decide +kernel)
theorem cs_L_123 : h_sV RL RX4 123 yX4_about cX4_about 3 (some .int) 2 := ⟨h_good5 wc_X4_about (fun w hw => by
  rcases List.mem_cons.mp hw with rfl | hw
  · exact ml_L_123
  rcases List.mem_cons.mp hw with rfl | hw
  · exact wi_X4_about
  rcases List.mem_cons.mp hw with rfl | hw
  · exact wl_X4_about
  rcases List.mem_cons.mp hw with rfl | hw
  · exact wn_X4
  · cases hw), by decide +kernel⟩
theorem ml_L_127 : Cond.methodLink RL 127 yX4_load ∈ h_tb := h_at 654 (by decide +kernel) (by decide +kernel)
theorem cs_L_127 : h_sV RL RX4 127 yX4_load cX4_load 2 (some .int) 1 := ⟨h_good5 wc_X4_load (fun w hw => by
  rcases List.mem_cons.mp hw with rfl | hw
  · exact ml_L_127
  rcases List.mem_cons.mp hw with rfl | hw
  · exact wi_X4_load
  rcases List.mem_cons.mp hw with rfl | hw
  · exact wl_X4_load
  rcases List.mem_cons.mp hw with rfl | hw
  · exact wn_X4
  · cases hw), by decide +kernel⟩
section WF
variable {p : Program} {l : Launch} {e : Env} {R : Room} {s : State} {m : MethodId} {args : Array Value} {below : List Frame} {meth : Method} {c : Code} {H : Heap} {locs : List Loc} {cells slots : Nat} {Q : State → Prop}
variable {cc : ByteArray} {nL : Nat} {G : h_G} {pc : Nat} {ls : Array Slot} {rest : List Value} {A : Nat → Prop} {H0 : Heap} {ad : h_T → Nat} {k : h_C} {t : h_T} {fs : List Value} {v : Value}
theorem gf_X1_9 (X : h_X p s m args c cc nL RX1 G) (hw : h_W G.1 h_cl A H0 ad k H locs) (he : k t = some (.inr (1, fs))) (hv : fs[0]? = some v) (hdg : decode cc pc = .ok (.getfield 9, 3)) (kk : W p l e R s m args below meth c H locs cells slots Q (F0 m (pc + 3) ls (v :: rest))) : W p l e R s m args below meth c H locs cells slots Q (F0 m pc ls (.ref (ad t) :: rest)) := h_get X hw he rfl in_X1 0 (by decide) fl_X1_9 hv hdg kk
theorem pf_X1_9 (X : h_X p s m args c cc nL RX1 G) (hw : h_W G.1 h_cl A H0 ad k H locs) (hin : meth.name = "<init>") (he : k t = some (.inr (1, fs))) (hn : narrow (tyX1 0) v = v) (hfit : fits (tyX1 0) v = true) (hl : 0 < fs.length) (hdg : decode cc pc = .ok (.putfield 9, 3)) (kk : ∀ (H1 : Heap) (locs1 : List Loc), h_W G.1 h_cl A H0 ad (h_cu k t (some (.inr (1, fs.set 0 v)))) H1 locs1 → W p l e R s m args below meth c H1 locs1 cells slots Q (F0 m (pc + 3) ls rest)) : W p l e R s m args below meth c H locs cells slots Q (F0 m pc ls (v :: .ref (ad t) :: rest)) := h_putF X hw he rfl in_X1 tyX1 tyX1_ok nmX1 0 (by decide) fl_X1_9 rfl rfl hin hn hfit hl hdg kk
theorem gf_X3_106 (X : h_X p s m args c cc nL RX3 G) (hw : h_W G.1 h_cl A H0 ad k H locs) (he : k t = some (.inr (1, fs))) (hv : fs[0]? = some v) (hdg : decode cc pc = .ok (.getfield 106, 3)) (kk : W p l e R s m args below meth c H locs cells slots Q (F0 m (pc + 3) ls (v :: rest))) : W p l e R s m args below meth c H locs cells slots Q (F0 m pc ls (.ref (ad t) :: rest)) := h_getN X hw he rfl in_X1 0 (by decide) fl_X3_106 hv hdg kk
theorem gf_X1_15 (X : h_X p s m args c cc nL RX1 G) (hw : h_W G.1 h_cl A H0 ad k H locs) (he : k t = some (.inr (1, fs))) (hv : fs[1]? = some v) (hdg : decode cc pc = .ok (.getfield 15, 3)) (kk : W p l e R s m args below meth c H locs cells slots Q (F0 m (pc + 3) ls (v :: rest))) : W p l e R s m args below meth c H locs cells slots Q (F0 m pc ls (.ref (ad t) :: rest)) := h_get X hw he rfl in_X1 1 (by decide) fl_X1_15 hv hdg kk
theorem pf_X1_15 (X : h_X p s m args c cc nL RX1 G) (hw : h_W G.1 h_cl A H0 ad k H locs) (he : k t = some (.inr (1, fs))) (hn : narrow (tyX1 1) v = v) (hfit : fits (tyX1 1) v = true) (hl : 1 < fs.length) (hdg : decode cc pc = .ok (.putfield 15, 3)) (kk : ∀ (H1 : Heap) (locs1 : List Loc), h_W G.1 h_cl A H0 ad (h_cu k t (some (.inr (1, fs.set 1 v)))) H1 locs1 → W p l e R s m args below meth c H1 locs1 cells slots Q (F0 m (pc + 3) ls rest)) : W p l e R s m args below meth c H locs cells slots Q (F0 m pc ls (v :: .ref (ad t) :: rest)) := h_put X hw he rfl in_X1 tyX1 tyX1_ok nmX1 1 (by decide) fl_X1_15 rfl hn hfit hl hdg kk
theorem gf_X3_79 (X : h_X p s m args c cc nL RX3 G) (hw : h_W G.1 h_cl A H0 ad k H locs) (he : k t = some (.inr (1, fs))) (hv : fs[1]? = some v) (hdg : decode cc pc = .ok (.getfield 79, 3)) (kk : W p l e R s m args below meth c H locs cells slots Q (F0 m (pc + 3) ls (v :: rest))) : W p l e R s m args below meth c H locs cells slots Q (F0 m pc ls (.ref (ad t) :: rest)) := h_getN X hw he rfl in_X1 1 (by decide) fl_X3_79 hv hdg kk
theorem pf_X3_79 (X : h_X p s m args c cc nL RX3 G) (hw : h_W G.1 h_cl A H0 ad k H locs) (he : k t = some (.inr (1, fs))) (hn : narrow (tyX1 1) v = v) (hfit : fits (tyX1 1) v = true) (hl : 1 < fs.length) (hdg : decode cc pc = .ok (.putfield 79, 3)) (kk : ∀ (H1 : Heap) (locs1 : List Loc), h_W G.1 h_cl A H0 ad (h_cu k t (some (.inr (1, fs.set 1 v)))) H1 locs1 → W p l e R s m args below meth c H1 locs1 cells slots Q (F0 m (pc + 3) ls rest)) : W p l e R s m args below meth c H locs cells slots Q (F0 m pc ls (v :: .ref (ad t) :: rest)) := h_putN X hw he rfl in_X1 tyX1 tyX1_ok nmX1 1 (by decide) fl_X3_79 rfl hn hfit hl hdg kk
theorem gf_X3_63 (X : h_X p s m args c cc nL RX3 G) (hw : h_W G.1 h_cl A H0 ad k H locs) (he : k t = some (.inr (3, fs))) (hv : fs[0]? = some v) (hdg : decode cc pc = .ok (.getfield 63, 3)) (kk : W p l e R s m args below meth c H locs cells slots Q (F0 m (pc + 3) ls (v :: rest))) : W p l e R s m args below meth c H locs cells slots Q (F0 m pc ls (.ref (ad t) :: rest)) := h_get X hw he rfl in_X3 0 (by decide) fl_X3_63 hv hdg kk
theorem pf_X3_63 (X : h_X p s m args c cc nL RX3 G) (hw : h_W G.1 h_cl A H0 ad k H locs) (hin : meth.name = "<init>") (he : k t = some (.inr (3, fs))) (hn : narrow (tyX3 0) v = v) (hfit : fits (tyX3 0) v = true) (hl : 0 < fs.length) (hdg : decode cc pc = .ok (.putfield 63, 3)) (kk : ∀ (H1 : Heap) (locs1 : List Loc), h_W G.1 h_cl A H0 ad (h_cu k t (some (.inr (3, fs.set 0 v)))) H1 locs1 → W p l e R s m args below meth c H1 locs1 cells slots Q (F0 m (pc + 3) ls rest)) : W p l e R s m args below meth c H locs cells slots Q (F0 m pc ls (v :: .ref (ad t) :: rest)) := h_putF X hw he rfl in_X3 tyX3 tyX3_ok nmX3 0 (by decide) fl_X3_63 rfl rfl hin hn hfit hl hdg kk
theorem gf_X3_11 (X : h_X p s m args c cc nL RX3 G) (hw : h_W G.1 h_cl A H0 ad k H locs) (he : k t = some (.inr (3, fs))) (hv : fs[1]? = some v) (hdg : decode cc pc = .ok (.getfield 11, 3)) (kk : W p l e R s m args below meth c H locs cells slots Q (F0 m (pc + 3) ls (v :: rest))) : W p l e R s m args below meth c H locs cells slots Q (F0 m pc ls (.ref (ad t) :: rest)) := h_get X hw he rfl in_X3 1 (by decide) fl_X3_11 hv hdg kk
theorem pf_X3_11 (X : h_X p s m args c cc nL RX3 G) (hw : h_W G.1 h_cl A H0 ad k H locs) (hin : meth.name = "<init>") (he : k t = some (.inr (3, fs))) (hn : narrow (tyX3 1) v = v) (hfit : fits (tyX3 1) v = true) (hl : 1 < fs.length) (hdg : decode cc pc = .ok (.putfield 11, 3)) (kk : ∀ (H1 : Heap) (locs1 : List Loc), h_W G.1 h_cl A H0 ad (h_cu k t (some (.inr (3, fs.set 1 v)))) H1 locs1 → W p l e R s m args below meth c H1 locs1 cells slots Q (F0 m (pc + 3) ls rest)) : W p l e R s m args below meth c H locs cells slots Q (F0 m pc ls (v :: .ref (ad t) :: rest)) := h_putF X hw he rfl in_X3 tyX3 tyX3_ok nmX3 1 (by decide) fl_X3_11 rfl rfl hin hn hfit hl hdg kk
theorem gf_X3_15 (X : h_X p s m args c cc nL RX3 G) (hw : h_W G.1 h_cl A H0 ad k H locs) (he : k t = some (.inr (3, fs))) (hv : fs[2]? = some v) (hdg : decode cc pc = .ok (.getfield 15, 3)) (kk : W p l e R s m args below meth c H locs cells slots Q (F0 m (pc + 3) ls (v :: rest))) : W p l e R s m args below meth c H locs cells slots Q (F0 m pc ls (.ref (ad t) :: rest)) := h_get X hw he rfl in_X3 2 (by decide) fl_X3_15 hv hdg kk
theorem pf_X3_15 (X : h_X p s m args c cc nL RX3 G) (hw : h_W G.1 h_cl A H0 ad k H locs) (he : k t = some (.inr (3, fs))) (hn : narrow (tyX3 2) v = v) (hfit : fits (tyX3 2) v = true) (hl : 2 < fs.length) (hdg : decode cc pc = .ok (.putfield 15, 3)) (kk : ∀ (H1 : Heap) (locs1 : List Loc), h_W G.1 h_cl A H0 ad (h_cu k t (some (.inr (3, fs.set 2 v)))) H1 locs1 → W p l e R s m args below meth c H1 locs1 cells slots Q (F0 m (pc + 3) ls rest)) : W p l e R s m args below meth c H locs cells slots Q (F0 m pc ls (v :: .ref (ad t) :: rest)) := h_put X hw he rfl in_X3 tyX3 tyX3_ok nmX3 2 (by decide) fl_X3_15 rfl hn hfit hl hdg kk
theorem gf_X3_21 (X : h_X p s m args c cc nL RX3 G) (hw : h_W G.1 h_cl A H0 ad k H locs) (he : k t = some (.inr (3, fs))) (hv : fs[3]? = some v) (hdg : decode cc pc = .ok (.getfield 21, 3)) (kk : W p l e R s m args below meth c H locs cells slots Q (F0 m (pc + 3) ls (v :: rest))) : W p l e R s m args below meth c H locs cells slots Q (F0 m pc ls (.ref (ad t) :: rest)) := h_get X hw he rfl in_X3 3 (by decide) fl_X3_21 hv hdg kk
theorem pf_X3_21 (X : h_X p s m args c cc nL RX3 G) (hw : h_W G.1 h_cl A H0 ad k H locs) (hin : meth.name = "<init>") (he : k t = some (.inr (3, fs))) (hn : narrow (tyX3 3) v = v) (hfit : fits (tyX3 3) v = true) (hl : 3 < fs.length) (hdg : decode cc pc = .ok (.putfield 21, 3)) (kk : ∀ (H1 : Heap) (locs1 : List Loc), h_W G.1 h_cl A H0 ad (h_cu k t (some (.inr (3, fs.set 3 v)))) H1 locs1 → W p l e R s m args below meth c H1 locs1 cells slots Q (F0 m (pc + 3) ls rest)) : W p l e R s m args below meth c H locs cells slots Q (F0 m pc ls (v :: .ref (ad t) :: rest)) := h_putF X hw he rfl in_X3 tyX3 tyX3_ok nmX3 3 (by decide) fl_X3_21 rfl rfl hin hn hfit hl hdg kk
theorem gf_X3_25 (X : h_X p s m args c cc nL RX3 G) (hw : h_W G.1 h_cl A H0 ad k H locs) (he : k t = some (.inr (3, fs))) (hv : fs[4]? = some v) (hdg : decode cc pc = .ok (.getfield 25, 3)) (kk : W p l e R s m args below meth c H locs cells slots Q (F0 m (pc + 3) ls (v :: rest))) : W p l e R s m args below meth c H locs cells slots Q (F0 m pc ls (.ref (ad t) :: rest)) := h_get X hw he rfl in_X3 4 (by decide) fl_X3_25 hv hdg kk
theorem pf_X3_25 (X : h_X p s m args c cc nL RX3 G) (hw : h_W G.1 h_cl A H0 ad k H locs) (he : k t = some (.inr (3, fs))) (hn : narrow (tyX3 4) v = v) (hfit : fits (tyX3 4) v = true) (hl : 4 < fs.length) (hdg : decode cc pc = .ok (.putfield 25, 3)) (kk : ∀ (H1 : Heap) (locs1 : List Loc), h_W G.1 h_cl A H0 ad (h_cu k t (some (.inr (3, fs.set 4 v)))) H1 locs1 → W p l e R s m args below meth c H1 locs1 cells slots Q (F0 m (pc + 3) ls rest)) : W p l e R s m args below meth c H locs cells slots Q (F0 m pc ls (v :: .ref (ad t) :: rest)) := h_put X hw he rfl in_X3 tyX3 tyX3_ok nmX3 4 (by decide) fl_X3_25 rfl hn hfit hl hdg kk
theorem gf_X3_31 (X : h_X p s m args c cc nL RX3 G) (hw : h_W G.1 h_cl A H0 ad k H locs) (he : k t = some (.inr (3, fs))) (hv : fs[5]? = some v) (hdg : decode cc pc = .ok (.getfield 31, 3)) (kk : W p l e R s m args below meth c H locs cells slots Q (F0 m (pc + 3) ls (v :: rest))) : W p l e R s m args below meth c H locs cells slots Q (F0 m pc ls (.ref (ad t) :: rest)) := h_get X hw he rfl in_X3 5 (by decide) fl_X3_31 hv hdg kk
theorem pf_X3_31 (X : h_X p s m args c cc nL RX3 G) (hw : h_W G.1 h_cl A H0 ad k H locs) (hin : meth.name = "<init>") (he : k t = some (.inr (3, fs))) (hn : narrow (tyX3 5) v = v) (hfit : fits (tyX3 5) v = true) (hl : 5 < fs.length) (hdg : decode cc pc = .ok (.putfield 31, 3)) (kk : ∀ (H1 : Heap) (locs1 : List Loc), h_W G.1 h_cl A H0 ad (h_cu k t (some (.inr (3, fs.set 5 v)))) H1 locs1 → W p l e R s m args below meth c H1 locs1 cells slots Q (F0 m (pc + 3) ls rest)) : W p l e R s m args below meth c H locs cells slots Q (F0 m pc ls (v :: .ref (ad t) :: rest)) := h_putF X hw he rfl in_X3 tyX3 tyX3_ok nmX3 5 (by decide) fl_X3_31 rfl rfl hin hn hfit hl hdg kk
theorem gf_X3_35 (X : h_X p s m args c cc nL RX3 G) (hw : h_W G.1 h_cl A H0 ad k H locs) (he : k t = some (.inr (3, fs))) (hv : fs[6]? = some v) (hdg : decode cc pc = .ok (.getfield 35, 3)) (kk : W p l e R s m args below meth c H locs cells slots Q (F0 m (pc + 3) ls (v :: rest))) : W p l e R s m args below meth c H locs cells slots Q (F0 m pc ls (.ref (ad t) :: rest)) := h_get X hw he rfl in_X3 6 (by decide) fl_X3_35 hv hdg kk
theorem pf_X3_35 (X : h_X p s m args c cc nL RX3 G) (hw : h_W G.1 h_cl A H0 ad k H locs) (hin : meth.name = "<init>") (he : k t = some (.inr (3, fs))) (hn : narrow (tyX3 6) v = v) (hfit : fits (tyX3 6) v = true) (hl : 6 < fs.length) (hdg : decode cc pc = .ok (.putfield 35, 3)) (kk : ∀ (H1 : Heap) (locs1 : List Loc), h_W G.1 h_cl A H0 ad (h_cu k t (some (.inr (3, fs.set 6 v)))) H1 locs1 → W p l e R s m args below meth c H1 locs1 cells slots Q (F0 m (pc + 3) ls rest)) : W p l e R s m args below meth c H locs cells slots Q (F0 m pc ls (v :: .ref (ad t) :: rest)) := h_putF X hw he rfl in_X3 tyX3 tyX3_ok nmX3 6 (by decide) fl_X3_35 rfl rfl hin hn hfit hl hdg kk
theorem gf_X3_39 (X : h_X p s m args c cc nL RX3 G) (hw : h_W G.1 h_cl A H0 ad k H locs) (he : k t = some (.inr (3, fs))) (hv : fs[7]? = some v) (hdg : decode cc pc = .ok (.getfield 39, 3)) (kk : W p l e R s m args below meth c H locs cells slots Q (F0 m (pc + 3) ls (v :: rest))) : W p l e R s m args below meth c H locs cells slots Q (F0 m pc ls (.ref (ad t) :: rest)) := h_get X hw he rfl in_X3 7 (by decide) fl_X3_39 hv hdg kk
theorem pf_X3_39 (X : h_X p s m args c cc nL RX3 G) (hw : h_W G.1 h_cl A H0 ad k H locs) (hin : meth.name = "<init>") (he : k t = some (.inr (3, fs))) (hn : narrow (tyX3 7) v = v) (hfit : fits (tyX3 7) v = true) (hl : 7 < fs.length) (hdg : decode cc pc = .ok (.putfield 39, 3)) (kk : ∀ (H1 : Heap) (locs1 : List Loc), h_W G.1 h_cl A H0 ad (h_cu k t (some (.inr (3, fs.set 7 v)))) H1 locs1 → W p l e R s m args below meth c H1 locs1 cells slots Q (F0 m (pc + 3) ls rest)) : W p l e R s m args below meth c H locs cells slots Q (F0 m pc ls (v :: .ref (ad t) :: rest)) := h_putF X hw he rfl in_X3 tyX3 tyX3_ok nmX3 7 (by decide) fl_X3_39 rfl rfl hin hn hfit hl hdg kk
theorem gf_X3_42 (X : h_X p s m args c cc nL RX3 G) (hw : h_W G.1 h_cl A H0 ad k H locs) (he : k t = some (.inr (3, fs))) (hv : fs[8]? = some v) (hdg : decode cc pc = .ok (.getfield 42, 3)) (kk : W p l e R s m args below meth c H locs cells slots Q (F0 m (pc + 3) ls (v :: rest))) : W p l e R s m args below meth c H locs cells slots Q (F0 m pc ls (.ref (ad t) :: rest)) := h_get X hw he rfl in_X3 8 (by decide) fl_X3_42 hv hdg kk
theorem pf_X3_42 (X : h_X p s m args c cc nL RX3 G) (hw : h_W G.1 h_cl A H0 ad k H locs) (hin : meth.name = "<init>") (he : k t = some (.inr (3, fs))) (hn : narrow (tyX3 8) v = v) (hfit : fits (tyX3 8) v = true) (hl : 8 < fs.length) (hdg : decode cc pc = .ok (.putfield 42, 3)) (kk : ∀ (H1 : Heap) (locs1 : List Loc), h_W G.1 h_cl A H0 ad (h_cu k t (some (.inr (3, fs.set 8 v)))) H1 locs1 → W p l e R s m args below meth c H1 locs1 cells slots Q (F0 m (pc + 3) ls rest)) : W p l e R s m args below meth c H locs cells slots Q (F0 m pc ls (v :: .ref (ad t) :: rest)) := h_putF X hw he rfl in_X3 tyX3 tyX3_ok nmX3 8 (by decide) fl_X3_42 rfl rfl hin hn hfit hl hdg kk
theorem gf_X3_45 (X : h_X p s m args c cc nL RX3 G) (hw : h_W G.1 h_cl A H0 ad k H locs) (he : k t = some (.inr (3, fs))) (hv : fs[9]? = some v) (hdg : decode cc pc = .ok (.getfield 45, 3)) (kk : W p l e R s m args below meth c H locs cells slots Q (F0 m (pc + 3) ls (v :: rest))) : W p l e R s m args below meth c H locs cells slots Q (F0 m pc ls (.ref (ad t) :: rest)) := h_get X hw he rfl in_X3 9 (by decide) fl_X3_45 hv hdg kk
theorem pf_X3_45 (X : h_X p s m args c cc nL RX3 G) (hw : h_W G.1 h_cl A H0 ad k H locs) (hin : meth.name = "<init>") (he : k t = some (.inr (3, fs))) (hn : narrow (tyX3 9) v = v) (hfit : fits (tyX3 9) v = true) (hl : 9 < fs.length) (hdg : decode cc pc = .ok (.putfield 45, 3)) (kk : ∀ (H1 : Heap) (locs1 : List Loc), h_W G.1 h_cl A H0 ad (h_cu k t (some (.inr (3, fs.set 9 v)))) H1 locs1 → W p l e R s m args below meth c H1 locs1 cells slots Q (F0 m (pc + 3) ls rest)) : W p l e R s m args below meth c H locs cells slots Q (F0 m pc ls (v :: .ref (ad t) :: rest)) := h_putF X hw he rfl in_X3 tyX3 tyX3_ok nmX3 9 (by decide) fl_X3_45 rfl rfl hin hn hfit hl hdg kk
theorem gf_X3_48 (X : h_X p s m args c cc nL RX3 G) (hw : h_W G.1 h_cl A H0 ad k H locs) (he : k t = some (.inr (3, fs))) (hv : fs[10]? = some v) (hdg : decode cc pc = .ok (.getfield 48, 3)) (kk : W p l e R s m args below meth c H locs cells slots Q (F0 m (pc + 3) ls (v :: rest))) : W p l e R s m args below meth c H locs cells slots Q (F0 m pc ls (.ref (ad t) :: rest)) := h_get X hw he rfl in_X3 10 (by decide) fl_X3_48 hv hdg kk
theorem pf_X3_48 (X : h_X p s m args c cc nL RX3 G) (hw : h_W G.1 h_cl A H0 ad k H locs) (he : k t = some (.inr (3, fs))) (hn : narrow (tyX3 10) v = v) (hfit : fits (tyX3 10) v = true) (hl : 10 < fs.length) (hdg : decode cc pc = .ok (.putfield 48, 3)) (kk : ∀ (H1 : Heap) (locs1 : List Loc), h_W G.1 h_cl A H0 ad (h_cu k t (some (.inr (3, fs.set 10 v)))) H1 locs1 → W p l e R s m args below meth c H1 locs1 cells slots Q (F0 m (pc + 3) ls rest)) : W p l e R s m args below meth c H locs cells slots Q (F0 m pc ls (v :: .ref (ad t) :: rest)) := h_put X hw he rfl in_X3 tyX3 tyX3_ok nmX3 10 (by decide) fl_X3_48 rfl hn hfit hl hdg kk
theorem gf_X3_51 (X : h_X p s m args c cc nL RX3 G) (hw : h_W G.1 h_cl A H0 ad k H locs) (he : k t = some (.inr (3, fs))) (hv : fs[11]? = some v) (hdg : decode cc pc = .ok (.getfield 51, 3)) (kk : W p l e R s m args below meth c H locs cells slots Q (F0 m (pc + 3) ls (v :: rest))) : W p l e R s m args below meth c H locs cells slots Q (F0 m pc ls (.ref (ad t) :: rest)) := h_get X hw he rfl in_X3 11 (by decide) fl_X3_51 hv hdg kk
theorem pf_X3_51 (X : h_X p s m args c cc nL RX3 G) (hw : h_W G.1 h_cl A H0 ad k H locs) (he : k t = some (.inr (3, fs))) (hn : narrow (tyX3 11) v = v) (hfit : fits (tyX3 11) v = true) (hl : 11 < fs.length) (hdg : decode cc pc = .ok (.putfield 51, 3)) (kk : ∀ (H1 : Heap) (locs1 : List Loc), h_W G.1 h_cl A H0 ad (h_cu k t (some (.inr (3, fs.set 11 v)))) H1 locs1 → W p l e R s m args below meth c H1 locs1 cells slots Q (F0 m (pc + 3) ls rest)) : W p l e R s m args below meth c H locs cells slots Q (F0 m pc ls (v :: .ref (ad t) :: rest)) := h_put X hw he rfl in_X3 tyX3 tyX3_ok nmX3 11 (by decide) fl_X3_51 rfl hn hfit hl hdg kk
theorem gf_X2_20 (X : h_X p s m args c cc nL RX2 G) (hw : h_W G.1 h_cl A H0 ad k H locs) (he : k t = some (.inr (2, fs))) (hv : fs[0]? = some v) (hdg : decode cc pc = .ok (.getfield 20, 3)) (kk : W p l e R s m args below meth c H locs cells slots Q (F0 m (pc + 3) ls (v :: rest))) : W p l e R s m args below meth c H locs cells slots Q (F0 m pc ls (.ref (ad t) :: rest)) := h_get X hw he rfl in_X2 0 (by decide) fl_X2_20 hv hdg kk
theorem pf_X2_20 (X : h_X p s m args c cc nL RX2 G) (hw : h_W G.1 h_cl A H0 ad k H locs) (hin : meth.name = "<init>") (he : k t = some (.inr (2, fs))) (hn : narrow (tyX2 0) v = v) (hfit : fits (tyX2 0) v = true) (hl : 0 < fs.length) (hdg : decode cc pc = .ok (.putfield 20, 3)) (kk : ∀ (H1 : Heap) (locs1 : List Loc), h_W G.1 h_cl A H0 ad (h_cu k t (some (.inr (2, fs.set 0 v)))) H1 locs1 → W p l e R s m args below meth c H1 locs1 cells slots Q (F0 m (pc + 3) ls rest)) : W p l e R s m args below meth c H locs cells slots Q (F0 m pc ls (v :: .ref (ad t) :: rest)) := h_putF X hw he rfl in_X2 tyX2 tyX2_ok nmX2 0 (by decide) fl_X2_20 rfl rfl hin hn hfit hl hdg kk
theorem gf_X3_195 (X : h_X p s m args c cc nL RX3 G) (hw : h_W G.1 h_cl A H0 ad k H locs) (he : k t = some (.inr (2, fs))) (hv : fs[0]? = some v) (hdg : decode cc pc = .ok (.getfield 195, 3)) (kk : W p l e R s m args below meth c H locs cells slots Q (F0 m (pc + 3) ls (v :: rest))) : W p l e R s m args below meth c H locs cells slots Q (F0 m pc ls (.ref (ad t) :: rest)) := h_getN X hw he rfl in_X2 0 (by decide) fl_X3_195 hv hdg kk
theorem gf_X2_7 (X : h_X p s m args c cc nL RX2 G) (hw : h_W G.1 h_cl A H0 ad k H locs) (he : k t = some (.inr (2, fs))) (hv : fs[1]? = some v) (hdg : decode cc pc = .ok (.getfield 7, 3)) (kk : W p l e R s m args below meth c H locs cells slots Q (F0 m (pc + 3) ls (v :: rest))) : W p l e R s m args below meth c H locs cells slots Q (F0 m pc ls (.ref (ad t) :: rest)) := h_get X hw he rfl in_X2 1 (by decide) fl_X2_7 hv hdg kk
theorem pf_X2_7 (X : h_X p s m args c cc nL RX2 G) (hw : h_W G.1 h_cl A H0 ad k H locs) (he : k t = some (.inr (2, fs))) (hn : narrow (tyX2 1) v = v) (hfit : fits (tyX2 1) v = true) (hl : 1 < fs.length) (hdg : decode cc pc = .ok (.putfield 7, 3)) (kk : ∀ (H1 : Heap) (locs1 : List Loc), h_W G.1 h_cl A H0 ad (h_cu k t (some (.inr (2, fs.set 1 v)))) H1 locs1 → W p l e R s m args below meth c H1 locs1 cells slots Q (F0 m (pc + 3) ls rest)) : W p l e R s m args below meth c H locs cells slots Q (F0 m pc ls (v :: .ref (ad t) :: rest)) := h_put X hw he rfl in_X2 tyX2 tyX2_ok nmX2 1 (by decide) fl_X2_7 rfl hn hfit hl hdg kk
theorem gf_X3_95 (X : h_X p s m args c cc nL RX3 G) (hw : h_W G.1 h_cl A H0 ad k H locs) (he : k t = some (.inr (2, fs))) (hv : fs[1]? = some v) (hdg : decode cc pc = .ok (.getfield 95, 3)) (kk : W p l e R s m args below meth c H locs cells slots Q (F0 m (pc + 3) ls (v :: rest))) : W p l e R s m args below meth c H locs cells slots Q (F0 m pc ls (.ref (ad t) :: rest)) := h_getN X hw he rfl in_X2 1 (by decide) fl_X3_95 hv hdg kk
theorem pf_X3_95 (X : h_X p s m args c cc nL RX3 G) (hw : h_W G.1 h_cl A H0 ad k H locs) (he : k t = some (.inr (2, fs))) (hn : narrow (tyX2 1) v = v) (hfit : fits (tyX2 1) v = true) (hl : 1 < fs.length) (hdg : decode cc pc = .ok (.putfield 95, 3)) (kk : ∀ (H1 : Heap) (locs1 : List Loc), h_W G.1 h_cl A H0 ad (h_cu k t (some (.inr (2, fs.set 1 v)))) H1 locs1 → W p l e R s m args below meth c H1 locs1 cells slots Q (F0 m (pc + 3) ls rest)) : W p l e R s m args below meth c H locs cells slots Q (F0 m pc ls (v :: .ref (ad t) :: rest)) := h_putN X hw he rfl in_X2 tyX2 tyX2_ok nmX2 1 (by decide) fl_X3_95 rfl hn hfit hl hdg kk
theorem gf_X2_13 (X : h_X p s m args c cc nL RX2 G) (hw : h_W G.1 h_cl A H0 ad k H locs) (he : k t = some (.inr (2, fs))) (hv : fs[2]? = some v) (hdg : decode cc pc = .ok (.getfield 13, 3)) (kk : W p l e R s m args below meth c H locs cells slots Q (F0 m (pc + 3) ls (v :: rest))) : W p l e R s m args below meth c H locs cells slots Q (F0 m pc ls (.ref (ad t) :: rest)) := h_get X hw he rfl in_X2 2 (by decide) fl_X2_13 hv hdg kk
theorem pf_X2_13 (X : h_X p s m args c cc nL RX2 G) (hw : h_W G.1 h_cl A H0 ad k H locs) (he : k t = some (.inr (2, fs))) (hn : narrow (tyX2 2) v = v) (hfit : fits (tyX2 2) v = true) (hl : 2 < fs.length) (hdg : decode cc pc = .ok (.putfield 13, 3)) (kk : ∀ (H1 : Heap) (locs1 : List Loc), h_W G.1 h_cl A H0 ad (h_cu k t (some (.inr (2, fs.set 2 v)))) H1 locs1 → W p l e R s m args below meth c H1 locs1 cells slots Q (F0 m (pc + 3) ls rest)) : W p l e R s m args below meth c H locs cells slots Q (F0 m pc ls (v :: .ref (ad t) :: rest)) := h_put X hw he rfl in_X2 tyX2 tyX2_ok nmX2 2 (by decide) fl_X2_13 rfl hn hfit hl hdg kk
theorem gf_X3_156 (X : h_X p s m args c cc nL RX3 G) (hw : h_W G.1 h_cl A H0 ad k H locs) (he : k t = some (.inr (2, fs))) (hv : fs[2]? = some v) (hdg : decode cc pc = .ok (.getfield 156, 3)) (kk : W p l e R s m args below meth c H locs cells slots Q (F0 m (pc + 3) ls (v :: rest))) : W p l e R s m args below meth c H locs cells slots Q (F0 m pc ls (.ref (ad t) :: rest)) := h_getN X hw he rfl in_X2 2 (by decide) fl_X3_156 hv hdg kk
theorem pf_X3_156 (X : h_X p s m args c cc nL RX3 G) (hw : h_W G.1 h_cl A H0 ad k H locs) (he : k t = some (.inr (2, fs))) (hn : narrow (tyX2 2) v = v) (hfit : fits (tyX2 2) v = true) (hl : 2 < fs.length) (hdg : decode cc pc = .ok (.putfield 156, 3)) (kk : ∀ (H1 : Heap) (locs1 : List Loc), h_W G.1 h_cl A H0 ad (h_cu k t (some (.inr (2, fs.set 2 v)))) H1 locs1 → W p l e R s m args below meth c H1 locs1 cells slots Q (F0 m (pc + 3) ls rest)) : W p l e R s m args below meth c H locs cells slots Q (F0 m pc ls (v :: .ref (ad t) :: rest)) := h_putN X hw he rfl in_X2 tyX2 tyX2_ok nmX2 2 (by decide) fl_X3_156 rfl hn hfit hl hdg kk
theorem gf_X2_17 (X : h_X p s m args c cc nL RX2 G) (hw : h_W G.1 h_cl A H0 ad k H locs) (he : k t = some (.inr (2, fs))) (hv : fs[3]? = some v) (hdg : decode cc pc = .ok (.getfield 17, 3)) (kk : W p l e R s m args below meth c H locs cells slots Q (F0 m (pc + 3) ls (v :: rest))) : W p l e R s m args below meth c H locs cells slots Q (F0 m pc ls (.ref (ad t) :: rest)) := h_get X hw he rfl in_X2 3 (by decide) fl_X2_17 hv hdg kk
theorem pf_X2_17 (X : h_X p s m args c cc nL RX2 G) (hw : h_W G.1 h_cl A H0 ad k H locs) (he : k t = some (.inr (2, fs))) (hn : narrow (tyX2 3) v = v) (hfit : fits (tyX2 3) v = true) (hl : 3 < fs.length) (hdg : decode cc pc = .ok (.putfield 17, 3)) (kk : ∀ (H1 : Heap) (locs1 : List Loc), h_W G.1 h_cl A H0 ad (h_cu k t (some (.inr (2, fs.set 3 v)))) H1 locs1 → W p l e R s m args below meth c H1 locs1 cells slots Q (F0 m (pc + 3) ls rest)) : W p l e R s m args below meth c H locs cells slots Q (F0 m pc ls (v :: .ref (ad t) :: rest)) := h_put X hw he rfl in_X2 tyX2 tyX2_ok nmX2 3 (by decide) fl_X2_17 rfl hn hfit hl hdg kk
theorem gf_X3_159 (X : h_X p s m args c cc nL RX3 G) (hw : h_W G.1 h_cl A H0 ad k H locs) (he : k t = some (.inr (2, fs))) (hv : fs[3]? = some v) (hdg : decode cc pc = .ok (.getfield 159, 3)) (kk : W p l e R s m args below meth c H locs cells slots Q (F0 m (pc + 3) ls (v :: rest))) : W p l e R s m args below meth c H locs cells slots Q (F0 m pc ls (.ref (ad t) :: rest)) := h_getN X hw he rfl in_X2 3 (by decide) fl_X3_159 hv hdg kk
theorem pf_X3_159 (X : h_X p s m args c cc nL RX3 G) (hw : h_W G.1 h_cl A H0 ad k H locs) (he : k t = some (.inr (2, fs))) (hn : narrow (tyX2 3) v = v) (hfit : fits (tyX2 3) v = true) (hl : 3 < fs.length) (hdg : decode cc pc = .ok (.putfield 159, 3)) (kk : ∀ (H1 : Heap) (locs1 : List Loc), h_W G.1 h_cl A H0 ad (h_cu k t (some (.inr (2, fs.set 3 v)))) H1 locs1 → W p l e R s m args below meth c H1 locs1 cells slots Q (F0 m (pc + 3) ls rest)) : W p l e R s m args below meth c H locs cells slots Q (F0 m pc ls (v :: .ref (ad t) :: rest)) := h_putN X hw he rfl in_X2 tyX2 tyX2_ok nmX2 3 (by decide) fl_X3_159 rfl hn hfit hl hdg kk
theorem gf_X0_21 (X : h_X p s m args c cc nL RX0 G) (hw : h_W G.1 h_cl A H0 ad k H locs) (he : k t = some (.inr (0, fs))) (hv : fs[0]? = some v) (hdg : decode cc pc = .ok (.getfield 21, 3)) (kk : W p l e R s m args below meth c H locs cells slots Q (F0 m (pc + 3) ls (v :: rest))) : W p l e R s m args below meth c H locs cells slots Q (F0 m pc ls (.ref (ad t) :: rest)) := h_get X hw he rfl in_X0 0 (by decide) fl_X0_21 hv hdg kk
theorem pf_X0_21 (X : h_X p s m args c cc nL RX0 G) (hw : h_W G.1 h_cl A H0 ad k H locs) (hin : meth.name = "<init>") (he : k t = some (.inr (0, fs))) (hn : narrow (tyX0 0) v = v) (hfit : fits (tyX0 0) v = true) (hl : 0 < fs.length) (hdg : decode cc pc = .ok (.putfield 21, 3)) (kk : ∀ (H1 : Heap) (locs1 : List Loc), h_W G.1 h_cl A H0 ad (h_cu k t (some (.inr (0, fs.set 0 v)))) H1 locs1 → W p l e R s m args below meth c H1 locs1 cells slots Q (F0 m (pc + 3) ls rest)) : W p l e R s m args below meth c H locs cells slots Q (F0 m pc ls (v :: .ref (ad t) :: rest)) := h_putF X hw he rfl in_X0 tyX0 tyX0_ok nmX0 0 (by decide) fl_X0_21 rfl rfl hin hn hfit hl hdg kk
theorem gf_X3_117 (X : h_X p s m args c cc nL RX3 G) (hw : h_W G.1 h_cl A H0 ad k H locs) (he : k t = some (.inr (0, fs))) (hv : fs[0]? = some v) (hdg : decode cc pc = .ok (.getfield 117, 3)) (kk : W p l e R s m args below meth c H locs cells slots Q (F0 m (pc + 3) ls (v :: rest))) : W p l e R s m args below meth c H locs cells slots Q (F0 m pc ls (.ref (ad t) :: rest)) := h_getN X hw he rfl in_X0 0 (by decide) fl_X3_117 hv hdg kk
theorem gf_X0_11 (X : h_X p s m args c cc nL RX0 G) (hw : h_W G.1 h_cl A H0 ad k H locs) (he : k t = some (.inr (0, fs))) (hv : fs[1]? = some v) (hdg : decode cc pc = .ok (.getfield 11, 3)) (kk : W p l e R s m args below meth c H locs cells slots Q (F0 m (pc + 3) ls (v :: rest))) : W p l e R s m args below meth c H locs cells slots Q (F0 m pc ls (.ref (ad t) :: rest)) := h_get X hw he rfl in_X0 1 (by decide) fl_X0_11 hv hdg kk
theorem pf_X0_11 (X : h_X p s m args c cc nL RX0 G) (hw : h_W G.1 h_cl A H0 ad k H locs) (hin : meth.name = "<init>") (he : k t = some (.inr (0, fs))) (hn : narrow (tyX0 1) v = v) (hfit : fits (tyX0 1) v = true) (hl : 1 < fs.length) (hdg : decode cc pc = .ok (.putfield 11, 3)) (kk : ∀ (H1 : Heap) (locs1 : List Loc), h_W G.1 h_cl A H0 ad (h_cu k t (some (.inr (0, fs.set 1 v)))) H1 locs1 → W p l e R s m args below meth c H1 locs1 cells slots Q (F0 m (pc + 3) ls rest)) : W p l e R s m args below meth c H locs cells slots Q (F0 m pc ls (v :: .ref (ad t) :: rest)) := h_putF X hw he rfl in_X0 tyX0 tyX0_ok nmX0 1 (by decide) fl_X0_11 rfl rfl hin hn hfit hl hdg kk
theorem gf_X3_113 (X : h_X p s m args c cc nL RX3 G) (hw : h_W G.1 h_cl A H0 ad k H locs) (he : k t = some (.inr (0, fs))) (hv : fs[1]? = some v) (hdg : decode cc pc = .ok (.getfield 113, 3)) (kk : W p l e R s m args below meth c H locs cells slots Q (F0 m (pc + 3) ls (v :: rest))) : W p l e R s m args below meth c H locs cells slots Q (F0 m pc ls (.ref (ad t) :: rest)) := h_getN X hw he rfl in_X0 1 (by decide) fl_X3_113 hv hdg kk
theorem gf_X0_17 (X : h_X p s m args c cc nL RX0 G) (hw : h_W G.1 h_cl A H0 ad k H locs) (he : k t = some (.inr (0, fs))) (hv : fs[2]? = some v) (hdg : decode cc pc = .ok (.getfield 17, 3)) (kk : W p l e R s m args below meth c H locs cells slots Q (F0 m (pc + 3) ls (v :: rest))) : W p l e R s m args below meth c H locs cells slots Q (F0 m pc ls (.ref (ad t) :: rest)) := h_get X hw he rfl in_X0 2 (by decide) fl_X0_17 hv hdg kk
theorem pf_X0_17 (X : h_X p s m args c cc nL RX0 G) (hw : h_W G.1 h_cl A H0 ad k H locs) (he : k t = some (.inr (0, fs))) (hn : narrow (tyX0 2) v = v) (hfit : fits (tyX0 2) v = true) (hl : 2 < fs.length) (hdg : decode cc pc = .ok (.putfield 17, 3)) (kk : ∀ (H1 : Heap) (locs1 : List Loc), h_W G.1 h_cl A H0 ad (h_cu k t (some (.inr (0, fs.set 2 v)))) H1 locs1 → W p l e R s m args below meth c H1 locs1 cells slots Q (F0 m (pc + 3) ls rest)) : W p l e R s m args below meth c H locs cells slots Q (F0 m pc ls (v :: .ref (ad t) :: rest)) := h_put X hw he rfl in_X0 tyX0 tyX0_ok nmX0 2 (by decide) fl_X0_17 rfl hn hfit hl hdg kk
theorem gf_X3_188 (X : h_X p s m args c cc nL RX3 G) (hw : h_W G.1 h_cl A H0 ad k H locs) (he : k t = some (.inr (0, fs))) (hv : fs[2]? = some v) (hdg : decode cc pc = .ok (.getfield 188, 3)) (kk : W p l e R s m args below meth c H locs cells slots Q (F0 m (pc + 3) ls (v :: rest))) : W p l e R s m args below meth c H locs cells slots Q (F0 m pc ls (.ref (ad t) :: rest)) := h_getN X hw he rfl in_X0 2 (by decide) fl_X3_188 hv hdg kk
theorem pf_X3_188 (X : h_X p s m args c cc nL RX3 G) (hw : h_W G.1 h_cl A H0 ad k H locs) (he : k t = some (.inr (0, fs))) (hn : narrow (tyX0 2) v = v) (hfit : fits (tyX0 2) v = true) (hl : 2 < fs.length) (hdg : decode cc pc = .ok (.putfield 188, 3)) (kk : ∀ (H1 : Heap) (locs1 : List Loc), h_W G.1 h_cl A H0 ad (h_cu k t (some (.inr (0, fs.set 2 v)))) H1 locs1 → W p l e R s m args below meth c H1 locs1 cells slots Q (F0 m (pc + 3) ls rest)) : W p l e R s m args below meth c H locs cells slots Q (F0 m pc ls (v :: .ref (ad t) :: rest)) := h_putN X hw he rfl in_X0 tyX0 tyX0_ok nmX0 2 (by decide) fl_X3_188 rfl hn hfit hl hdg kk
theorem gf_X4_55 (X : h_X p s m args c cc nL RX4 G) (hw : h_W G.1 h_cl A H0 ad k H locs) (he : k t = some (.inr (4, fs))) (hv : fs[0]? = some v) (hdg : decode cc pc = .ok (.getfield 55, 3)) (kk : W p l e R s m args below meth c H locs cells slots Q (F0 m (pc + 3) ls (v :: rest))) : W p l e R s m args below meth c H locs cells slots Q (F0 m pc ls (.ref (ad t) :: rest)) := h_get X hw he rfl in_X4 0 (by decide) fl_X4_55 hv hdg kk
theorem pf_X4_55 (X : h_X p s m args c cc nL RX4 G) (hw : h_W G.1 h_cl A H0 ad k H locs) (he : k t = some (.inr (4, fs))) (hn : narrow (tyX4 0) v = v) (hfit : fits (tyX4 0) v = true) (hl : 0 < fs.length) (hdg : decode cc pc = .ok (.putfield 55, 3)) (kk : ∀ (H1 : Heap) (locs1 : List Loc), h_W G.1 h_cl A H0 ad (h_cu k t (some (.inr (4, fs.set 0 v)))) H1 locs1 → W p l e R s m args below meth c H1 locs1 cells slots Q (F0 m (pc + 3) ls rest)) : W p l e R s m args below meth c H locs cells slots Q (F0 m pc ls (v :: .ref (ad t) :: rest)) := h_put X hw he rfl in_X4 tyX4 tyX4_ok nmX4 0 (by decide) fl_X4_55 rfl hn hfit hl hdg kk
theorem gf_X4_51 (X : h_X p s m args c cc nL RX4 G) (hw : h_W G.1 h_cl A H0 ad k H locs) (he : k t = some (.inr (4, fs))) (hv : fs[1]? = some v) (hdg : decode cc pc = .ok (.getfield 51, 3)) (kk : W p l e R s m args below meth c H locs cells slots Q (F0 m (pc + 3) ls (v :: rest))) : W p l e R s m args below meth c H locs cells slots Q (F0 m pc ls (.ref (ad t) :: rest)) := h_get X hw he rfl in_X4 1 (by decide) fl_X4_51 hv hdg kk
theorem pf_X4_51 (X : h_X p s m args c cc nL RX4 G) (hw : h_W G.1 h_cl A H0 ad k H locs) (hin : meth.name = "<init>") (he : k t = some (.inr (4, fs))) (hn : narrow (tyX4 1) v = v) (hfit : fits (tyX4 1) v = true) (hl : 1 < fs.length) (hdg : decode cc pc = .ok (.putfield 51, 3)) (kk : ∀ (H1 : Heap) (locs1 : List Loc), h_W G.1 h_cl A H0 ad (h_cu k t (some (.inr (4, fs.set 1 v)))) H1 locs1 → W p l e R s m args below meth c H1 locs1 cells slots Q (F0 m (pc + 3) ls rest)) : W p l e R s m args below meth c H locs cells slots Q (F0 m pc ls (v :: .ref (ad t) :: rest)) := h_putF X hw he rfl in_X4 tyX4 tyX4_ok nmX4 1 (by decide) fl_X4_51 rfl rfl hin hn hfit hl hdg kk
theorem gf_X4_58 (X : h_X p s m args c cc nL RX4 G) (hw : h_W G.1 h_cl A H0 ad k H locs) (he : k t = some (.inr (4, fs))) (hv : fs[2]? = some v) (hdg : decode cc pc = .ok (.getfield 58, 3)) (kk : W p l e R s m args below meth c H locs cells slots Q (F0 m (pc + 3) ls (v :: rest))) : W p l e R s m args below meth c H locs cells slots Q (F0 m pc ls (.ref (ad t) :: rest)) := h_get X hw he rfl in_X4 2 (by decide) fl_X4_58 hv hdg kk
theorem pf_X4_58 (X : h_X p s m args c cc nL RX4 G) (hw : h_W G.1 h_cl A H0 ad k H locs) (he : k t = some (.inr (4, fs))) (hn : narrow (tyX4 2) v = v) (hfit : fits (tyX4 2) v = true) (hl : 2 < fs.length) (hdg : decode cc pc = .ok (.putfield 58, 3)) (kk : ∀ (H1 : Heap) (locs1 : List Loc), h_W G.1 h_cl A H0 ad (h_cu k t (some (.inr (4, fs.set 2 v)))) H1 locs1 → W p l e R s m args below meth c H1 locs1 cells slots Q (F0 m (pc + 3) ls rest)) : W p l e R s m args below meth c H locs cells slots Q (F0 m pc ls (v :: .ref (ad t) :: rest)) := h_put X hw he rfl in_X4 tyX4 tyX4_ok nmX4 2 (by decide) fl_X4_58 rfl hn hfit hl hdg kk
theorem gf_X4_7 (X : h_X p s m args c cc nL RX4 G) (hw : h_W G.1 h_cl A H0 ad k H locs) (he : k t = some (.inr (4, fs))) (hv : fs[3]? = some v) (hdg : decode cc pc = .ok (.getfield 7, 3)) (kk : W p l e R s m args below meth c H locs cells slots Q (F0 m (pc + 3) ls (v :: rest))) : W p l e R s m args below meth c H locs cells slots Q (F0 m pc ls (.ref (ad t) :: rest)) := h_get X hw he rfl in_X4 3 (by decide) fl_X4_7 hv hdg kk
theorem pf_X4_7 (X : h_X p s m args c cc nL RX4 G) (hw : h_W G.1 h_cl A H0 ad k H locs) (hin : meth.name = "<init>") (he : k t = some (.inr (4, fs))) (hn : narrow (tyX4 3) v = v) (hfit : fits (tyX4 3) v = true) (hl : 3 < fs.length) (hdg : decode cc pc = .ok (.putfield 7, 3)) (kk : ∀ (H1 : Heap) (locs1 : List Loc), h_W G.1 h_cl A H0 ad (h_cu k t (some (.inr (4, fs.set 3 v)))) H1 locs1 → W p l e R s m args below meth c H1 locs1 cells slots Q (F0 m (pc + 3) ls rest)) : W p l e R s m args below meth c H locs cells slots Q (F0 m pc ls (v :: .ref (ad t) :: rest)) := h_putF X hw he rfl in_X4 tyX4 tyX4_ok nmX4 3 (by decide) fl_X4_7 rfl rfl hin hn hfit hl hdg kk
theorem gf_X4_13 (X : h_X p s m args c cc nL RX4 G) (hw : h_W G.1 h_cl A H0 ad k H locs) (he : k t = some (.inr (4, fs))) (hv : fs[4]? = some v) (hdg : decode cc pc = .ok (.getfield 13, 3)) (kk : W p l e R s m args below meth c H locs cells slots Q (F0 m (pc + 3) ls (v :: rest))) : W p l e R s m args below meth c H locs cells slots Q (F0 m pc ls (.ref (ad t) :: rest)) := h_get X hw he rfl in_X4 4 (by decide) fl_X4_13 hv hdg kk
theorem pf_X4_13 (X : h_X p s m args c cc nL RX4 G) (hw : h_W G.1 h_cl A H0 ad k H locs) (hin : meth.name = "<init>") (he : k t = some (.inr (4, fs))) (hn : narrow (tyX4 4) v = v) (hfit : fits (tyX4 4) v = true) (hl : 4 < fs.length) (hdg : decode cc pc = .ok (.putfield 13, 3)) (kk : ∀ (H1 : Heap) (locs1 : List Loc), h_W G.1 h_cl A H0 ad (h_cu k t (some (.inr (4, fs.set 4 v)))) H1 locs1 → W p l e R s m args below meth c H1 locs1 cells slots Q (F0 m (pc + 3) ls rest)) : W p l e R s m args below meth c H locs cells slots Q (F0 m pc ls (v :: .ref (ad t) :: rest)) := h_putF X hw he rfl in_X4 tyX4 tyX4_ok nmX4 4 (by decide) fl_X4_13 rfl rfl hin hn hfit hl hdg kk
theorem gf_X4_17 (X : h_X p s m args c cc nL RX4 G) (hw : h_W G.1 h_cl A H0 ad k H locs) (he : k t = some (.inr (4, fs))) (hv : fs[5]? = some v) (hdg : decode cc pc = .ok (.getfield 17, 3)) (kk : W p l e R s m args below meth c H locs cells slots Q (F0 m (pc + 3) ls (v :: rest))) : W p l e R s m args below meth c H locs cells slots Q (F0 m pc ls (.ref (ad t) :: rest)) := h_get X hw he rfl in_X4 5 (by decide) fl_X4_17 hv hdg kk
theorem pf_X4_17 (X : h_X p s m args c cc nL RX4 G) (hw : h_W G.1 h_cl A H0 ad k H locs) (hin : meth.name = "<init>") (he : k t = some (.inr (4, fs))) (hn : narrow (tyX4 5) v = v) (hfit : fits (tyX4 5) v = true) (hl : 5 < fs.length) (hdg : decode cc pc = .ok (.putfield 17, 3)) (kk : ∀ (H1 : Heap) (locs1 : List Loc), h_W G.1 h_cl A H0 ad (h_cu k t (some (.inr (4, fs.set 5 v)))) H1 locs1 → W p l e R s m args below meth c H1 locs1 cells slots Q (F0 m (pc + 3) ls rest)) : W p l e R s m args below meth c H locs cells slots Q (F0 m pc ls (v :: .ref (ad t) :: rest)) := h_putF X hw he rfl in_X4 tyX4 tyX4_ok nmX4 5 (by decide) fl_X4_17 rfl rfl hin hn hfit hl hdg kk
theorem gf_X4_20 (X : h_X p s m args c cc nL RX4 G) (hw : h_W G.1 h_cl A H0 ad k H locs) (he : k t = some (.inr (4, fs))) (hv : fs[6]? = some v) (hdg : decode cc pc = .ok (.getfield 20, 3)) (kk : W p l e R s m args below meth c H locs cells slots Q (F0 m (pc + 3) ls (v :: rest))) : W p l e R s m args below meth c H locs cells slots Q (F0 m pc ls (.ref (ad t) :: rest)) := h_get X hw he rfl in_X4 6 (by decide) fl_X4_20 hv hdg kk
theorem pf_X4_20 (X : h_X p s m args c cc nL RX4 G) (hw : h_W G.1 h_cl A H0 ad k H locs) (hin : meth.name = "<init>") (he : k t = some (.inr (4, fs))) (hn : narrow (tyX4 6) v = v) (hfit : fits (tyX4 6) v = true) (hl : 6 < fs.length) (hdg : decode cc pc = .ok (.putfield 20, 3)) (kk : ∀ (H1 : Heap) (locs1 : List Loc), h_W G.1 h_cl A H0 ad (h_cu k t (some (.inr (4, fs.set 6 v)))) H1 locs1 → W p l e R s m args below meth c H1 locs1 cells slots Q (F0 m (pc + 3) ls rest)) : W p l e R s m args below meth c H locs cells slots Q (F0 m pc ls (v :: .ref (ad t) :: rest)) := h_putF X hw he rfl in_X4 tyX4 tyX4_ok nmX4 6 (by decide) fl_X4_20 rfl rfl hin hn hfit hl hdg kk
theorem gf_X4_79 (X : h_X p s m args c cc nL RX4 G) (hw : h_W G.1 h_cl A H0 ad k H locs) (he : k t = some (.inr (4, fs))) (hv : fs[7]? = some v) (hdg : decode cc pc = .ok (.getfield 79, 3)) (kk : W p l e R s m args below meth c H locs cells slots Q (F0 m (pc + 3) ls (v :: rest))) : W p l e R s m args below meth c H locs cells slots Q (F0 m pc ls (.ref (ad t) :: rest)) := h_get X hw he rfl in_X4 7 (by decide) fl_X4_79 hv hdg kk
theorem pf_X4_79 (X : h_X p s m args c cc nL RX4 G) (hw : h_W G.1 h_cl A H0 ad k H locs) (he : k t = some (.inr (4, fs))) (hn : narrow (tyX4 7) v = v) (hfit : fits (tyX4 7) v = true) (hl : 7 < fs.length) (hdg : decode cc pc = .ok (.putfield 79, 3)) (kk : ∀ (H1 : Heap) (locs1 : List Loc), h_W G.1 h_cl A H0 ad (h_cu k t (some (.inr (4, fs.set 7 v)))) H1 locs1 → W p l e R s m args below meth c H1 locs1 cells slots Q (F0 m (pc + 3) ls rest)) : W p l e R s m args below meth c H locs cells slots Q (F0 m pc ls (v :: .ref (ad t) :: rest)) := h_put X hw he rfl in_X4 tyX4 tyX4_ok nmX4 7 (by decide) fl_X4_79 rfl hn hfit hl hdg kk
theorem gf_X4_23 (X : h_X p s m args c cc nL RX4 G) (hw : h_W G.1 h_cl A H0 ad k H locs) (he : k t = some (.inr (4, fs))) (hv : fs[8]? = some v) (hdg : decode cc pc = .ok (.getfield 23, 3)) (kk : W p l e R s m args below meth c H locs cells slots Q (F0 m (pc + 3) ls (v :: rest))) : W p l e R s m args below meth c H locs cells slots Q (F0 m pc ls (.ref (ad t) :: rest)) := h_get X hw he rfl in_X4 8 (by decide) fl_X4_23 hv hdg kk
theorem pf_X4_23 (X : h_X p s m args c cc nL RX4 G) (hw : h_W G.1 h_cl A H0 ad k H locs) (hin : meth.name = "<init>") (he : k t = some (.inr (4, fs))) (hn : narrow (tyX4 8) v = v) (hfit : fits (tyX4 8) v = true) (hl : 8 < fs.length) (hdg : decode cc pc = .ok (.putfield 23, 3)) (kk : ∀ (H1 : Heap) (locs1 : List Loc), h_W G.1 h_cl A H0 ad (h_cu k t (some (.inr (4, fs.set 8 v)))) H1 locs1 → W p l e R s m args below meth c H1 locs1 cells slots Q (F0 m (pc + 3) ls rest)) : W p l e R s m args below meth c H locs cells slots Q (F0 m pc ls (v :: .ref (ad t) :: rest)) := h_putF X hw he rfl in_X4 tyX4 tyX4_ok nmX4 8 (by decide) fl_X4_23 rfl rfl hin hn hfit hl hdg kk
theorem gf_X4_65 (X : h_X p s m args c cc nL RX4 G) (hw : h_W G.1 h_cl A H0 ad k H locs) (he : k t = some (.inr (4, fs))) (hv : fs[9]? = some v) (hdg : decode cc pc = .ok (.getfield 65, 3)) (kk : W p l e R s m args below meth c H locs cells slots Q (F0 m (pc + 3) ls (v :: rest))) : W p l e R s m args below meth c H locs cells slots Q (F0 m pc ls (.ref (ad t) :: rest)) := h_get X hw he rfl in_X4 9 (by decide) fl_X4_65 hv hdg kk
theorem pf_X4_65 (X : h_X p s m args c cc nL RX4 G) (hw : h_W G.1 h_cl A H0 ad k H locs) (he : k t = some (.inr (4, fs))) (hn : narrow (tyX4 9) v = v) (hfit : fits (tyX4 9) v = true) (hl : 9 < fs.length) (hdg : decode cc pc = .ok (.putfield 65, 3)) (kk : ∀ (H1 : Heap) (locs1 : List Loc), h_W G.1 h_cl A H0 ad (h_cu k t (some (.inr (4, fs.set 9 v)))) H1 locs1 → W p l e R s m args below meth c H1 locs1 cells slots Q (F0 m (pc + 3) ls rest)) : W p l e R s m args below meth c H locs cells slots Q (F0 m pc ls (v :: .ref (ad t) :: rest)) := h_put X hw he rfl in_X4 tyX4 tyX4_ok nmX4 9 (by decide) fl_X4_65 rfl hn hfit hl hdg kk
theorem gf_X4_27 (X : h_X p s m args c cc nL RX4 G) (hw : h_W G.1 h_cl A H0 ad k H locs) (he : k t = some (.inr (4, fs))) (hv : fs[10]? = some v) (hdg : decode cc pc = .ok (.getfield 27, 3)) (kk : W p l e R s m args below meth c H locs cells slots Q (F0 m (pc + 3) ls (v :: rest))) : W p l e R s m args below meth c H locs cells slots Q (F0 m pc ls (.ref (ad t) :: rest)) := h_get X hw he rfl in_X4 10 (by decide) fl_X4_27 hv hdg kk
theorem pf_X4_27 (X : h_X p s m args c cc nL RX4 G) (hw : h_W G.1 h_cl A H0 ad k H locs) (hin : meth.name = "<init>") (he : k t = some (.inr (4, fs))) (hn : narrow (tyX4 10) v = v) (hfit : fits (tyX4 10) v = true) (hl : 10 < fs.length) (hdg : decode cc pc = .ok (.putfield 27, 3)) (kk : ∀ (H1 : Heap) (locs1 : List Loc), h_W G.1 h_cl A H0 ad (h_cu k t (some (.inr (4, fs.set 10 v)))) H1 locs1 → W p l e R s m args below meth c H1 locs1 cells slots Q (F0 m (pc + 3) ls rest)) : W p l e R s m args below meth c H locs cells slots Q (F0 m pc ls (v :: .ref (ad t) :: rest)) := h_putF X hw he rfl in_X4 tyX4 tyX4_ok nmX4 10 (by decide) fl_X4_27 rfl rfl hin hn hfit hl hdg kk
theorem gf_X4_30 (X : h_X p s m args c cc nL RX4 G) (hw : h_W G.1 h_cl A H0 ad k H locs) (he : k t = some (.inr (4, fs))) (hv : fs[11]? = some v) (hdg : decode cc pc = .ok (.getfield 30, 3)) (kk : W p l e R s m args below meth c H locs cells slots Q (F0 m (pc + 3) ls (v :: rest))) : W p l e R s m args below meth c H locs cells slots Q (F0 m pc ls (.ref (ad t) :: rest)) := h_get X hw he rfl in_X4 11 (by decide) fl_X4_30 hv hdg kk
theorem pf_X4_30 (X : h_X p s m args c cc nL RX4 G) (hw : h_W G.1 h_cl A H0 ad k H locs) (hin : meth.name = "<init>") (he : k t = some (.inr (4, fs))) (hn : narrow (tyX4 11) v = v) (hfit : fits (tyX4 11) v = true) (hl : 11 < fs.length) (hdg : decode cc pc = .ok (.putfield 30, 3)) (kk : ∀ (H1 : Heap) (locs1 : List Loc), h_W G.1 h_cl A H0 ad (h_cu k t (some (.inr (4, fs.set 11 v)))) H1 locs1 → W p l e R s m args below meth c H1 locs1 cells slots Q (F0 m (pc + 3) ls rest)) : W p l e R s m args below meth c H locs cells slots Q (F0 m pc ls (v :: .ref (ad t) :: rest)) := h_putF X hw he rfl in_X4 tyX4 tyX4_ok nmX4 11 (by decide) fl_X4_30 rfl rfl hin hn hfit hl hdg kk
theorem gf_X4_33 (X : h_X p s m args c cc nL RX4 G) (hw : h_W G.1 h_cl A H0 ad k H locs) (he : k t = some (.inr (4, fs))) (hv : fs[12]? = some v) (hdg : decode cc pc = .ok (.getfield 33, 3)) (kk : W p l e R s m args below meth c H locs cells slots Q (F0 m (pc + 3) ls (v :: rest))) : W p l e R s m args below meth c H locs cells slots Q (F0 m pc ls (.ref (ad t) :: rest)) := h_get X hw he rfl in_X4 12 (by decide) fl_X4_33 hv hdg kk
theorem pf_X4_33 (X : h_X p s m args c cc nL RX4 G) (hw : h_W G.1 h_cl A H0 ad k H locs) (hin : meth.name = "<init>") (he : k t = some (.inr (4, fs))) (hn : narrow (tyX4 12) v = v) (hfit : fits (tyX4 12) v = true) (hl : 12 < fs.length) (hdg : decode cc pc = .ok (.putfield 33, 3)) (kk : ∀ (H1 : Heap) (locs1 : List Loc), h_W G.1 h_cl A H0 ad (h_cu k t (some (.inr (4, fs.set 12 v)))) H1 locs1 → W p l e R s m args below meth c H1 locs1 cells slots Q (F0 m (pc + 3) ls rest)) : W p l e R s m args below meth c H locs cells slots Q (F0 m pc ls (v :: .ref (ad t) :: rest)) := h_putF X hw he rfl in_X4 tyX4 tyX4_ok nmX4 12 (by decide) fl_X4_33 rfl rfl hin hn hfit hl hdg kk
theorem gf_X4_36 (X : h_X p s m args c cc nL RX4 G) (hw : h_W G.1 h_cl A H0 ad k H locs) (he : k t = some (.inr (4, fs))) (hv : fs[13]? = some v) (hdg : decode cc pc = .ok (.getfield 36, 3)) (kk : W p l e R s m args below meth c H locs cells slots Q (F0 m (pc + 3) ls (v :: rest))) : W p l e R s m args below meth c H locs cells slots Q (F0 m pc ls (.ref (ad t) :: rest)) := h_get X hw he rfl in_X4 13 (by decide) fl_X4_36 hv hdg kk
theorem pf_X4_36 (X : h_X p s m args c cc nL RX4 G) (hw : h_W G.1 h_cl A H0 ad k H locs) (hin : meth.name = "<init>") (he : k t = some (.inr (4, fs))) (hn : narrow (tyX4 13) v = v) (hfit : fits (tyX4 13) v = true) (hl : 13 < fs.length) (hdg : decode cc pc = .ok (.putfield 36, 3)) (kk : ∀ (H1 : Heap) (locs1 : List Loc), h_W G.1 h_cl A H0 ad (h_cu k t (some (.inr (4, fs.set 13 v)))) H1 locs1 → W p l e R s m args below meth c H1 locs1 cells slots Q (F0 m (pc + 3) ls rest)) : W p l e R s m args below meth c H locs cells slots Q (F0 m pc ls (v :: .ref (ad t) :: rest)) := h_putF X hw he rfl in_X4 tyX4 tyX4_ok nmX4 13 (by decide) fl_X4_36 rfl rfl hin hn hfit hl hdg kk
theorem gf_X4_96 (X : h_X p s m args c cc nL RX4 G) (hw : h_W G.1 h_cl A H0 ad k H locs) (he : k t = some (.inr (4, fs))) (hv : fs[14]? = some v) (hdg : decode cc pc = .ok (.getfield 96, 3)) (kk : W p l e R s m args below meth c H locs cells slots Q (F0 m (pc + 3) ls (v :: rest))) : W p l e R s m args below meth c H locs cells slots Q (F0 m pc ls (.ref (ad t) :: rest)) := h_get X hw he rfl in_X4 14 (by decide) fl_X4_96 hv hdg kk
theorem pf_X4_96 (X : h_X p s m args c cc nL RX4 G) (hw : h_W G.1 h_cl A H0 ad k H locs) (he : k t = some (.inr (4, fs))) (hn : narrow (tyX4 14) v = v) (hfit : fits (tyX4 14) v = true) (hl : 14 < fs.length) (hdg : decode cc pc = .ok (.putfield 96, 3)) (kk : ∀ (H1 : Heap) (locs1 : List Loc), h_W G.1 h_cl A H0 ad (h_cu k t (some (.inr (4, fs.set 14 v)))) H1 locs1 → W p l e R s m args below meth c H1 locs1 cells slots Q (F0 m (pc + 3) ls rest)) : W p l e R s m args below meth c H locs cells slots Q (F0 m pc ls (v :: .ref (ad t) :: rest)) := h_put X hw he rfl in_X4 tyX4 tyX4_ok nmX4 14 (by decide) fl_X4_96 rfl hn hfit hl hdg kk
theorem gf_X4_39 (X : h_X p s m args c cc nL RX4 G) (hw : h_W G.1 h_cl A H0 ad k H locs) (he : k t = some (.inr (4, fs))) (hv : fs[15]? = some v) (hdg : decode cc pc = .ok (.getfield 39, 3)) (kk : W p l e R s m args below meth c H locs cells slots Q (F0 m (pc + 3) ls (v :: rest))) : W p l e R s m args below meth c H locs cells slots Q (F0 m pc ls (.ref (ad t) :: rest)) := h_get X hw he rfl in_X4 15 (by decide) fl_X4_39 hv hdg kk
theorem pf_X4_39 (X : h_X p s m args c cc nL RX4 G) (hw : h_W G.1 h_cl A H0 ad k H locs) (hin : meth.name = "<init>") (he : k t = some (.inr (4, fs))) (hn : narrow (tyX4 15) v = v) (hfit : fits (tyX4 15) v = true) (hl : 15 < fs.length) (hdg : decode cc pc = .ok (.putfield 39, 3)) (kk : ∀ (H1 : Heap) (locs1 : List Loc), h_W G.1 h_cl A H0 ad (h_cu k t (some (.inr (4, fs.set 15 v)))) H1 locs1 → W p l e R s m args below meth c H1 locs1 cells slots Q (F0 m (pc + 3) ls rest)) : W p l e R s m args below meth c H locs cells slots Q (F0 m pc ls (v :: .ref (ad t) :: rest)) := h_putF X hw he rfl in_X4 tyX4 tyX4_ok nmX4 15 (by decide) fl_X4_39 rfl rfl hin hn hfit hl hdg kk
theorem gf_X4_42 (X : h_X p s m args c cc nL RX4 G) (hw : h_W G.1 h_cl A H0 ad k H locs) (he : k t = some (.inr (4, fs))) (hv : fs[16]? = some v) (hdg : decode cc pc = .ok (.getfield 42, 3)) (kk : W p l e R s m args below meth c H locs cells slots Q (F0 m (pc + 3) ls (v :: rest))) : W p l e R s m args below meth c H locs cells slots Q (F0 m pc ls (.ref (ad t) :: rest)) := h_get X hw he rfl in_X4 16 (by decide) fl_X4_42 hv hdg kk
theorem pf_X4_42 (X : h_X p s m args c cc nL RX4 G) (hw : h_W G.1 h_cl A H0 ad k H locs) (hin : meth.name = "<init>") (he : k t = some (.inr (4, fs))) (hn : narrow (tyX4 16) v = v) (hfit : fits (tyX4 16) v = true) (hl : 16 < fs.length) (hdg : decode cc pc = .ok (.putfield 42, 3)) (kk : ∀ (H1 : Heap) (locs1 : List Loc), h_W G.1 h_cl A H0 ad (h_cu k t (some (.inr (4, fs.set 16 v)))) H1 locs1 → W p l e R s m args below meth c H1 locs1 cells slots Q (F0 m (pc + 3) ls rest)) : W p l e R s m args below meth c H locs cells slots Q (F0 m pc ls (v :: .ref (ad t) :: rest)) := h_putF X hw he rfl in_X4 tyX4 tyX4_ok nmX4 16 (by decide) fl_X4_42 rfl rfl hin hn hfit hl hdg kk
theorem gf_X4_45 (X : h_X p s m args c cc nL RX4 G) (hw : h_W G.1 h_cl A H0 ad k H locs) (he : k t = some (.inr (4, fs))) (hv : fs[17]? = some v) (hdg : decode cc pc = .ok (.getfield 45, 3)) (kk : W p l e R s m args below meth c H locs cells slots Q (F0 m (pc + 3) ls (v :: rest))) : W p l e R s m args below meth c H locs cells slots Q (F0 m pc ls (.ref (ad t) :: rest)) := h_get X hw he rfl in_X4 17 (by decide) fl_X4_45 hv hdg kk
theorem pf_X4_45 (X : h_X p s m args c cc nL RX4 G) (hw : h_W G.1 h_cl A H0 ad k H locs) (hin : meth.name = "<init>") (he : k t = some (.inr (4, fs))) (hn : narrow (tyX4 17) v = v) (hfit : fits (tyX4 17) v = true) (hl : 17 < fs.length) (hdg : decode cc pc = .ok (.putfield 45, 3)) (kk : ∀ (H1 : Heap) (locs1 : List Loc), h_W G.1 h_cl A H0 ad (h_cu k t (some (.inr (4, fs.set 17 v)))) H1 locs1 → W p l e R s m args below meth c H1 locs1 cells slots Q (F0 m (pc + 3) ls rest)) : W p l e R s m args below meth c H locs cells slots Q (F0 m pc ls (v :: .ref (ad t) :: rest)) := h_putF X hw he rfl in_X4 tyX4 tyX4_ok nmX4 17 (by decide) fl_X4_45 rfl rfl hin hn hfit hl hdg kk
theorem gf_X4_48 (X : h_X p s m args c cc nL RX4 G) (hw : h_W G.1 h_cl A H0 ad k H locs) (he : k t = some (.inr (4, fs))) (hv : fs[18]? = some v) (hdg : decode cc pc = .ok (.getfield 48, 3)) (kk : W p l e R s m args below meth c H locs cells slots Q (F0 m (pc + 3) ls (v :: rest))) : W p l e R s m args below meth c H locs cells slots Q (F0 m pc ls (.ref (ad t) :: rest)) := h_get X hw he rfl in_X4 18 (by decide) fl_X4_48 hv hdg kk
theorem pf_X4_48 (X : h_X p s m args c cc nL RX4 G) (hw : h_W G.1 h_cl A H0 ad k H locs) (hin : meth.name = "<init>") (he : k t = some (.inr (4, fs))) (hn : narrow (tyX4 18) v = v) (hfit : fits (tyX4 18) v = true) (hl : 18 < fs.length) (hdg : decode cc pc = .ok (.putfield 48, 3)) (kk : ∀ (H1 : Heap) (locs1 : List Loc), h_W G.1 h_cl A H0 ad (h_cu k t (some (.inr (4, fs.set 18 v)))) H1 locs1 → W p l e R s m args below meth c H1 locs1 cells slots Q (F0 m (pc + 3) ls rest)) : W p l e R s m args below meth c H locs cells slots Q (F0 m pc ls (v :: .ref (ad t) :: rest)) := h_putF X hw he rfl in_X4 tyX4 tyX4_ok nmX4 18 (by decide) fl_X4_48 rfl rfl hin hn hfit hl hdg kk
theorem gf_X4_106 (X : h_X p s m args c cc nL RX4 G) (hw : h_W G.1 h_cl A H0 ad k H locs) (he : k t = some (.inr (4, fs))) (hv : fs[19]? = some v) (hdg : decode cc pc = .ok (.getfield 106, 3)) (kk : W p l e R s m args below meth c H locs cells slots Q (F0 m (pc + 3) ls (v :: rest))) : W p l e R s m args below meth c H locs cells slots Q (F0 m pc ls (.ref (ad t) :: rest)) := h_get X hw he rfl in_X4 19 (by decide) fl_X4_106 hv hdg kk
theorem pf_X4_106 (X : h_X p s m args c cc nL RX4 G) (hw : h_W G.1 h_cl A H0 ad k H locs) (he : k t = some (.inr (4, fs))) (hn : narrow (tyX4 19) v = v) (hfit : fits (tyX4 19) v = true) (hl : 19 < fs.length) (hdg : decode cc pc = .ok (.putfield 106, 3)) (kk : ∀ (H1 : Heap) (locs1 : List Loc), h_W G.1 h_cl A H0 ad (h_cu k t (some (.inr (4, fs.set 19 v)))) H1 locs1 → W p l e R s m args below meth c H1 locs1 cells slots Q (F0 m (pc + 3) ls rest)) : W p l e R s m args below meth c H locs cells slots Q (F0 m pc ls (v :: .ref (ad t) :: rest)) := h_put X hw he rfl in_X4 tyX4 tyX4_ok nmX4 19 (by decide) fl_X4_106 rfl hn hfit hl hdg kk
end WF
