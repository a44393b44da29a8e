theorem n136_0 : am_nxt am_m136 0 (0, 3, .new 8, (0, 141, 0), 0) := am_nxt_of (by decide +kernel)
theorem n136_1 : am_nxt am_m136 1 (3, 1, .dup, (0, 0, 0), 0) := am_nxt_of (by decide +kernel)
theorem n136_2 : am_nxt am_m136 2 (4, 3, .invokespecial 17, (0, 143, 3), 0) := am_nxt_of (by decide +kernel)
theorem n136_3 : am_nxt am_m136 3 (7, 1, .astore_n 1, (0, 0, 0), 0) := am_nxt_of (by decide +kernel)
theorem n136_4 : am_nxt am_m136 4 (8, 3, .new 18, (12, 1351, 0), 0) := am_nxt_of (by decide +kernel)
theorem n136_5 : am_nxt am_m136 5 (11, 1, .dup, (0, 0, 0), 0) := am_nxt_of (by decide +kernel)
theorem n136_6 : am_nxt am_m136 6 (12, 3, .invokespecial 20, (77, 1353, 3), 0) := am_nxt_of (by decide +kernel)
theorem n136_7 : am_nxt am_m136 7 (15, 1, .astore_n 2, (0, 0, 0), 0) := am_nxt_of (by decide +kernel)
theorem n136_8 : am_nxt am_m136 8 (16, 1, .iconst 1, (0, 0, 0), 0) := am_nxt_of (by decide +kernel)
theorem n136_9 : am_nxt am_m136 9 (17, 2, .newarray .long, (0, 0, 197), 0) := am_nxt_of (by decide +kernel)
theorem n136_10 : am_nxt am_m136 10 (19, 1, .astore_n 3, (0, 0, 0), 0) := am_nxt_of (by decide +kernel)
theorem n136_11 : am_nxt am_m136 11 (20, 1, .iconst 0, (0, 0, 0), 0) := am_nxt_of (by decide +kernel)
theorem n136_12 : am_nxt am_m136 12 (21, 2, .istore 4, (0, 0, 0), 0) := am_nxt_of (by decide +kernel)
theorem n136_13 : am_nxt am_m136 13 (23, 2, .iload 4, (0, 0, 0), 0) := am_nxt_of (by decide +kernel)
theorem n136_14 : am_nxt am_m136 14 (25, 1, .aload_n 0, (0, 0, 0), 0) := am_nxt_of (by decide +kernel)
theorem n136_15 : am_nxt am_m136 15 (26, 1, .arraylength, (0, 0, 0), 0) := am_nxt_of (by decide +kernel)
theorem n136_16 : am_nxt am_m136 16 (27, 2, .bipush 6, (0, 0, 0), 0) := am_nxt_of (by decide +kernel)
theorem n136_17 : am_nxt am_m136 17 (29, 1, .isub, (0, 0, 0), 0) := am_nxt_of (by decide +kernel)
theorem n136_18 : am_nxt am_m136 18 (30, 3, .if_icmp .gt 1317, (843, 0, 0), 0) := am_nxt_of (by decide +kernel)
theorem n136_19 : am_nxt am_m136 19 (33, 1, .aload_n 0, (0, 0, 0), 0) := am_nxt_of (by decide +kernel)
theorem n136_20 : am_nxt am_m136 20 (34, 2, .iload 4, (0, 0, 0), 0) := am_nxt_of (by decide +kernel)
theorem n136_21 : am_nxt am_m136 21 (36, 1, .iaload, (0, 0, 0), 0) := am_nxt_of (by decide +kernel)
theorem n136_22 : am_nxt am_m136 22 (37, 2, .bipush 63, (0, 0, 0), 0) := am_nxt_of (by decide +kernel)
theorem n136_23 : am_nxt am_m136 23 (39, 1, .iand, (0, 0, 0), 0) := am_nxt_of (by decide +kernel)
theorem n136_841 : am_nxt am_m136 841 (1341, 3, .iinc 4 6, (0, 0, 0), 0) := am_nxt_of (by decide +kernel)
theorem n136_843 : am_nxt am_m136 843 (1347, 1, .iconst 1, (0, 0, 0), 0) := am_nxt_of (by decide +kernel)
theorem c136_24 : am_cur am_m136 24 (40, 148, .tableswitch 1301 0 32 #[148, 221, 246, 271, 308, 376, 414, 451, 504, 529, 554, 567, 592, 629, 666, 703, 752, 813, 862, 899, 936, 961, 986, 999, 1076, 1101, 1126, 1139, 1188, 1237, 1250, 1263, 1276], (0, 0, 0), 0) := am_cur_of (by decide +kernel)
theorem c136_842 : am_cur am_m136 842 (1344, 3, .goto (-1321), (13, 0, 0), 0) := am_cur_of (by decide +kernel)
theorem c136_844 : am_cur am_m136 844 (1348, 1, .ireturn, (0, 0, 0), 0) := am_cur_of (by decide +kernel)
theorem t136_18 : am_tgt am_m136 843 (((30 : Nat) : Int) + 1317) := am_tgt_of (by decide +kernel)
theorem t136_842 : am_tgt am_m136 13 (((1344 : Nat) : Int) + (-1321)) := am_tgt_of (by decide +kernel)
theorem s136_24_148 : 25 < am_m136.2.2.2.length ∧ (am_seek am_m136.2.2.2 (((40 : Nat) : Int) + 148)).length = am_m136.2.2.2.length - 25 := by decide +kernel
theorem s136_24_221 : 82 < am_m136.2.2.2.length ∧ (am_seek am_m136.2.2.2 (((40 : Nat) : Int) + 221)).length = am_m136.2.2.2.length - 82 := by decide +kernel
theorem s136_24_246 : 99 < am_m136.2.2.2.length ∧ (am_seek am_m136.2.2.2 (((40 : Nat) : Int) + 246)).length = am_m136.2.2.2.length - 99 := by decide +kernel
theorem s136_24_271 : 116 < am_m136.2.2.2.length ∧ (am_seek am_m136.2.2.2 (((40 : Nat) : Int) + 271)).length = am_m136.2.2.2.length - 116 := by decide +kernel
theorem s136_24_308 : 143 < am_m136.2.2.2.length ∧ (am_seek am_m136.2.2.2 (((40 : Nat) : Int) + 308)).length = am_m136.2.2.2.length - 143 := by decide +kernel
theorem s136_24_376 : 188 < am_m136.2.2.2.length ∧ (am_seek am_m136.2.2.2 (((40 : Nat) : Int) + 376)).length = am_m136.2.2.2.length - 188 := by decide +kernel
theorem s136_24_414 : 216 < am_m136.2.2.2.length ∧ (am_seek am_m136.2.2.2 (((40 : Nat) : Int) + 414)).length = am_m136.2.2.2.length - 216 := by decide +kernel
theorem s136_24_451 : 243 < am_m136.2.2.2.length ∧ (am_seek am_m136.2.2.2 (((40 : Nat) : Int) + 451)).length = am_m136.2.2.2.length - 243 := by decide +kernel
theorem s136_24_504 : 278 < am_m136.2.2.2.length ∧ (am_seek am_m136.2.2.2 (((40 : Nat) : Int) + 504)).length = am_m136.2.2.2.length - 278 := by decide +kernel
theorem s136_24_529 : 295 < am_m136.2.2.2.length ∧ (am_seek am_m136.2.2.2 (((40 : Nat) : Int) + 529)).length = am_m136.2.2.2.length - 295 := by decide +kernel
theorem s136_24_554 : 312 < am_m136.2.2.2.length ∧ (am_seek am_m136.2.2.2 (((40 : Nat) : Int) + 554)).length = am_m136.2.2.2.length - 312 := by decide +kernel
theorem s136_24_567 : 319 < am_m136.2.2.2.length ∧ (am_seek am_m136.2.2.2 (((40 : Nat) : Int) + 567)).length = am_m136.2.2.2.length - 319 := by decide +kernel
theorem s136_24_592 : 336 < am_m136.2.2.2.length ∧ (am_seek am_m136.2.2.2 (((40 : Nat) : Int) + 592)).length = am_m136.2.2.2.length - 336 := by decide +kernel
theorem s136_24_629 : 363 < am_m136.2.2.2.length ∧ (am_seek am_m136.2.2.2 (((40 : Nat) : Int) + 629)).length = am_m136.2.2.2.length - 363 := by decide +kernel
theorem s136_24_666 : 390 < am_m136.2.2.2.length ∧ (am_seek am_m136.2.2.2 (((40 : Nat) : Int) + 666)).length = am_m136.2.2.2.length - 390 := by decide +kernel
theorem s136_24_703 : 417 < am_m136.2.2.2.length ∧ (am_seek am_m136.2.2.2 (((40 : Nat) : Int) + 703)).length = am_m136.2.2.2.length - 417 := by decide +kernel
theorem s136_24_752 : 454 < am_m136.2.2.2.length ∧ (am_seek am_m136.2.2.2 (((40 : Nat) : Int) + 752)).length = am_m136.2.2.2.length - 454 := by decide +kernel
theorem s136_24_813 : 501 < am_m136.2.2.2.length ∧ (am_seek am_m136.2.2.2 (((40 : Nat) : Int) + 813)).length = am_m136.2.2.2.length - 501 := by decide +kernel
theorem s136_24_862 : 538 < am_m136.2.2.2.length ∧ (am_seek am_m136.2.2.2 (((40 : Nat) : Int) + 862)).length = am_m136.2.2.2.length - 538 := by decide +kernel
theorem s136_24_899 : 565 < am_m136.2.2.2.length ∧ (am_seek am_m136.2.2.2 (((40 : Nat) : Int) + 899)).length = am_m136.2.2.2.length - 565 := by decide +kernel
theorem s136_24_936 : 592 < am_m136.2.2.2.length ∧ (am_seek am_m136.2.2.2 (((40 : Nat) : Int) + 936)).length = am_m136.2.2.2.length - 592 := by decide +kernel
theorem s136_24_961 : 609 < am_m136.2.2.2.length ∧ (am_seek am_m136.2.2.2 (((40 : Nat) : Int) + 961)).length = am_m136.2.2.2.length - 609 := by decide +kernel
theorem s136_24_986 : 626 < am_m136.2.2.2.length ∧ (am_seek am_m136.2.2.2 (((40 : Nat) : Int) + 986)).length = am_m136.2.2.2.length - 626 := by decide +kernel
theorem s136_24_999 : 633 < am_m136.2.2.2.length ∧ (am_seek am_m136.2.2.2 (((40 : Nat) : Int) + 999)).length = am_m136.2.2.2.length - 633 := by decide +kernel
theorem s136_24_1076 : 688 < am_m136.2.2.2.length ∧ (am_seek am_m136.2.2.2 (((40 : Nat) : Int) + 1076)).length = am_m136.2.2.2.length - 688 := by decide +kernel
theorem s136_24_1101 : 705 < am_m136.2.2.2.length ∧ (am_seek am_m136.2.2.2 (((40 : Nat) : Int) + 1101)).length = am_m136.2.2.2.length - 705 := by decide +kernel
theorem s136_24_1126 : 722 < am_m136.2.2.2.length ∧ (am_seek am_m136.2.2.2 (((40 : Nat) : Int) + 1126)).length = am_m136.2.2.2.length - 722 := by decide +kernel
theorem s136_24_1139 : 729 < am_m136.2.2.2.length ∧ (am_seek am_m136.2.2.2 (((40 : Nat) : Int) + 1139)).length = am_m136.2.2.2.length - 729 := by decide +kernel
theorem s136_24_1188 : 766 < am_m136.2.2.2.length ∧ (am_seek am_m136.2.2.2 (((40 : Nat) : Int) + 1188)).length = am_m136.2.2.2.length - 766 := by decide +kernel
theorem s136_24_1237 : 803 < am_m136.2.2.2.length ∧ (am_seek am_m136.2.2.2 (((40 : Nat) : Int) + 1237)).length = am_m136.2.2.2.length - 803 := by decide +kernel
theorem s136_24_1250 : 810 < am_m136.2.2.2.length ∧ (am_seek am_m136.2.2.2 (((40 : Nat) : Int) + 1250)).length = am_m136.2.2.2.length - 810 := by decide +kernel
theorem s136_24_1263 : 817 < am_m136.2.2.2.length ∧ (am_seek am_m136.2.2.2 (((40 : Nat) : Int) + 1263)).length = am_m136.2.2.2.length - 817 := by decide +kernel
theorem s136_24_1276 : 824 < am_m136.2.2.2.length ∧ (am_seek am_m136.2.2.2 (((40 : Nat) : Int) + 1276)).length = am_m136.2.2.2.length - 824 := by decide +kernel
theorem s136_24_1301 : 841 < am_m136.2.2.2.length ∧ (am_seek am_m136.2.2.2 (((40 : Nat) : Int) + 1301)).length = am_m136.2.2.2.length - 841 := by decide +kernel
