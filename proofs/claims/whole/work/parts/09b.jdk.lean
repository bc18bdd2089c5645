/-! ===== the JDK's methods that are reached: rows, words; rules for literals (written by wip/whole/gen_jdk.py) ===== -/
theorem dJ6_bitCount_0f7a4_0 : decode cJ6_bitCount_0f7a4 0 = .ok (.iload_n 0, 1) := by decide +kernel
theorem dJ6_bitCount_0f7a4_1 : decode cJ6_bitCount_0f7a4 1 = .ok (.iload_n 0, 1) := by decide +kernel
theorem dJ6_bitCount_0f7a4_2 : decode cJ6_bitCount_0f7a4 2 = .ok (.iconst 1, 1) := by decide +kernel
theorem dJ6_bitCount_0f7a4_3 : decode cJ6_bitCount_0f7a4 3 = .ok (.iushr, 1) := by decide +kernel
theorem dJ6_bitCount_0f7a4_4 : decode cJ6_bitCount_0f7a4 4 = .ok (.ldc_w 265, 3) := by decide +kernel
theorem dJ6_bitCount_0f7a4_7 : decode cJ6_bitCount_0f7a4 7 = .ok (.iand, 1) := by decide +kernel
theorem dJ6_bitCount_0f7a4_8 : decode cJ6_bitCount_0f7a4 8 = .ok (.isub, 1) := by decide +kernel
theorem dJ6_bitCount_0f7a4_9 : decode cJ6_bitCount_0f7a4 9 = .ok (.istore_n 0, 1) := by decide +kernel
theorem dJ6_bitCount_0f7a4_10 : decode cJ6_bitCount_0f7a4 10 = .ok (.iload_n 0, 1) := by decide +kernel
theorem dJ6_bitCount_0f7a4_11 : decode cJ6_bitCount_0f7a4 11 = .ok (.ldc_w 266, 3) := by decide +kernel
theorem dJ6_bitCount_0f7a4_14 : decode cJ6_bitCount_0f7a4 14 = .ok (.iand, 1) := by decide +kernel
theorem dJ6_bitCount_0f7a4_15 : decode cJ6_bitCount_0f7a4 15 = .ok (.iload_n 0, 1) := by decide +kernel
theorem dJ6_bitCount_0f7a4_16 : decode cJ6_bitCount_0f7a4 16 = .ok (.iconst 2, 1) := by decide +kernel
theorem dJ6_bitCount_0f7a4_17 : decode cJ6_bitCount_0f7a4 17 = .ok (.iushr, 1) := by decide +kernel
theorem dJ6_bitCount_0f7a4_18 : decode cJ6_bitCount_0f7a4 18 = .ok (.ldc_w 266, 3) := by decide +kernel
theorem dJ6_bitCount_0f7a4_21 : decode cJ6_bitCount_0f7a4 21 = .ok (.iand, 1) := by decide +kernel
theorem dJ6_bitCount_0f7a4_22 : decode cJ6_bitCount_0f7a4 22 = .ok (.iadd, 1) := by decide +kernel
theorem dJ6_bitCount_0f7a4_23 : decode cJ6_bitCount_0f7a4 23 = .ok (.istore_n 0, 1) := by decide +kernel
theorem dJ6_bitCount_0f7a4_24 : decode cJ6_bitCount_0f7a4 24 = .ok (.iload_n 0, 1) := by decide +kernel
theorem dJ6_bitCount_0f7a4_25 : decode cJ6_bitCount_0f7a4 25 = .ok (.iload_n 0, 1) := by decide +kernel
theorem dJ6_bitCount_0f7a4_26 : decode cJ6_bitCount_0f7a4 26 = .ok (.iconst 4, 1) := by decide +kernel
theorem dJ6_bitCount_0f7a4_27 : decode cJ6_bitCount_0f7a4 27 = .ok (.iushr, 1) := by decide +kernel
theorem dJ6_bitCount_0f7a4_28 : decode cJ6_bitCount_0f7a4 28 = .ok (.iadd, 1) := by decide +kernel
theorem dJ6_bitCount_0f7a4_29 : decode cJ6_bitCount_0f7a4 29 = .ok (.ldc_w 267, 3) := by decide +kernel
theorem dJ6_bitCount_0f7a4_32 : decode cJ6_bitCount_0f7a4 32 = .ok (.iand, 1) := by decide +kernel
theorem dJ6_bitCount_0f7a4_33 : decode cJ6_bitCount_0f7a4 33 = .ok (.istore_n 0, 1) := by decide +kernel
theorem dJ6_bitCount_0f7a4_34 : decode cJ6_bitCount_0f7a4 34 = .ok (.iload_n 0, 1) := by decide +kernel
theorem dJ6_bitCount_0f7a4_35 : decode cJ6_bitCount_0f7a4 35 = .ok (.iload_n 0, 1) := by decide +kernel
theorem dJ6_bitCount_0f7a4_36 : decode cJ6_bitCount_0f7a4 36 = .ok (.bipush 8, 2) := by decide +kernel
theorem dJ6_bitCount_0f7a4_38 : decode cJ6_bitCount_0f7a4 38 = .ok (.iushr, 1) := by decide +kernel
theorem dJ6_bitCount_0f7a4_39 : decode cJ6_bitCount_0f7a4 39 = .ok (.iadd, 1) := by decide +kernel
theorem dJ6_bitCount_0f7a4_40 : decode cJ6_bitCount_0f7a4 40 = .ok (.istore_n 0, 1) := by decide +kernel
theorem dJ6_bitCount_0f7a4_41 : decode cJ6_bitCount_0f7a4 41 = .ok (.iload_n 0, 1) := by decide +kernel
theorem dJ6_bitCount_0f7a4_42 : decode cJ6_bitCount_0f7a4 42 = .ok (.iload_n 0, 1) := by decide +kernel
theorem dJ6_bitCount_0f7a4_43 : decode cJ6_bitCount_0f7a4 43 = .ok (.bipush 16, 2) := by decide +kernel
theorem dJ6_bitCount_0f7a4_45 : decode cJ6_bitCount_0f7a4 45 = .ok (.iushr, 1) := by decide +kernel
theorem dJ6_bitCount_0f7a4_46 : decode cJ6_bitCount_0f7a4 46 = .ok (.iadd, 1) := by decide +kernel
theorem dJ6_bitCount_0f7a4_47 : decode cJ6_bitCount_0f7a4 47 = .ok (.istore_n 0, 1) := by decide +kernel
theorem dJ6_bitCount_0f7a4_48 : decode cJ6_bitCount_0f7a4 48 = .ok (.iload_n 0, 1) := by decide +kernel
theorem dJ6_bitCount_0f7a4_49 : decode cJ6_bitCount_0f7a4 49 = .ok (.bipush 63, 2) := by decide +kernel
theorem dJ6_bitCount_0f7a4_51 : decode cJ6_bitCount_0f7a4 51 = .ok (.iand, 1) := by decide +kernel
theorem dJ6_bitCount_0f7a4_52 : decode cJ6_bitCount_0f7a4 52 = .ok (.ireturn, 1) := by decide +kernel
theorem dJ0_length_8abf5_0 : decode cJ0_length_8abf5 0 = .ok (.aload_n 0, 1) := by decide +kernel
theorem dJ0_length_8abf5_1 : decode cJ0_length_8abf5 1 = .ok (.getfield 9, 3) := by decide +kernel
theorem dJ0_length_8abf5_4 : decode cJ0_length_8abf5 4 = .ok (.arraylength, 1) := by decide +kernel
theorem dJ0_length_8abf5_5 : decode cJ0_length_8abf5 5 = .ok (.aload_n 0, 1) := by decide +kernel
theorem dJ0_length_8abf5_6 : decode cJ0_length_8abf5 6 = .ok (.invokevirtual 335, 3) := by decide +kernel
theorem dJ0_length_8abf5_9 : decode cJ0_length_8abf5 9 = .ok (.ishr, 1) := by decide +kernel
theorem dJ0_length_8abf5_10 : decode cJ0_length_8abf5 10 = .ok (.ireturn, 1) := by decide +kernel
theorem dJ0_indexOf_0f7a4_0 : decode cJ0_indexOf_0f7a4 0 = .ok (.aload_n 0, 1) := by decide +kernel
theorem dJ0_indexOf_0f7a4_1 : decode cJ0_indexOf_0f7a4 1 = .ok (.iload_n 1, 1) := by decide +kernel
theorem dJ0_indexOf_0f7a4_2 : decode cJ0_indexOf_0f7a4 2 = .ok (.iconst 0, 1) := by decide +kernel
theorem dJ0_indexOf_0f7a4_3 : decode cJ0_indexOf_0f7a4 3 = .ok (.invokevirtual 633, 3) := by decide +kernel
theorem dJ0_indexOf_0f7a4_6 : decode cJ0_indexOf_0f7a4 6 = .ok (.ireturn, 1) := by decide +kernel
theorem dJ0_indexOf_7cf53_0 : decode cJ0_indexOf_7cf53 0 = .ok (.aload_n 0, 1) := by decide +kernel
theorem dJ0_indexOf_7cf53_1 : decode cJ0_indexOf_7cf53 1 = .ok (.invokevirtual 492, 3) := by decide +kernel
theorem dJ0_indexOf_7cf53_4 : decode cJ0_indexOf_7cf53 4 = .ok (.ifCond .eq 19, 3) := by decide +kernel
theorem dJ0_indexOf_7cf53_7 : decode cJ0_indexOf_7cf53 7 = .ok (.aload_n 0, 1) := by decide +kernel
theorem dJ0_indexOf_7cf53_8 : decode cJ0_indexOf_7cf53 8 = .ok (.getfield 9, 3) := by decide +kernel
theorem dJ0_indexOf_7cf53_11 : decode cJ0_indexOf_7cf53 11 = .ok (.iload_n 1, 1) := by decide +kernel
theorem dJ0_indexOf_7cf53_12 : decode cJ0_indexOf_7cf53 12 = .ok (.iload_n 2, 1) := by decide +kernel
theorem dJ0_indexOf_7cf53_13 : decode cJ0_indexOf_7cf53 13 = .ok (.aload_n 0, 1) := by decide +kernel
theorem dJ0_indexOf_7cf53_14 : decode cJ0_indexOf_7cf53 14 = .ok (.invokevirtual 505, 3) := by decide +kernel
theorem dJ0_indexOf_7cf53_17 : decode cJ0_indexOf_7cf53 17 = .ok (.invokestatic 637, 3) := by decide +kernel
theorem dJ0_indexOf_7cf53_20 : decode cJ0_indexOf_7cf53 20 = .ok (.goto 16, 3) := by decide +kernel
theorem dJ0_indexOf_7cf53_23 : decode cJ0_indexOf_7cf53 23 = .ok (.aload_n 0, 1) := by decide +kernel
theorem dJ0_indexOf_7cf53_24 : decode cJ0_indexOf_7cf53 24 = .ok (.getfield 9, 3) := by decide +kernel
theorem dJ0_indexOf_7cf53_27 : decode cJ0_indexOf_7cf53 27 = .ok (.iload_n 1, 1) := by decide +kernel
theorem dJ0_indexOf_7cf53_28 : decode cJ0_indexOf_7cf53 28 = .ok (.iload_n 2, 1) := by decide +kernel
theorem dJ0_indexOf_7cf53_29 : decode cJ0_indexOf_7cf53 29 = .ok (.aload_n 0, 1) := by decide +kernel
theorem dJ0_indexOf_7cf53_30 : decode cJ0_indexOf_7cf53 30 = .ok (.invokevirtual 505, 3) := by decide +kernel
theorem dJ0_indexOf_7cf53_33 : decode cJ0_indexOf_7cf53 33 = .ok (.invokestatic 640, 3) := by decide +kernel
theorem dJ0_indexOf_7cf53_36 : decode cJ0_indexOf_7cf53 36 = .ok (.ireturn, 1) := by decide +kernel
theorem dJ0_coder_7d493_0 : decode cJ0_coder_7d493 0 = .ok (.getstatic 38, 3) := by decide +kernel
theorem dJ0_coder_7d493_3 : decode cJ0_coder_7d493 3 = .ok (.ifCond .eq 10, 3) := by decide +kernel
theorem dJ0_coder_7d493_6 : decode cJ0_coder_7d493 6 = .ok (.aload_n 0, 1) := by decide +kernel
theorem dJ0_coder_7d493_7 : decode cJ0_coder_7d493 7 = .ok (.getfield 15, 3) := by decide +kernel
theorem dJ0_coder_7d493_10 : decode cJ0_coder_7d493 10 = .ok (.goto 4, 3) := by decide +kernel
theorem dJ0_coder_7d493_13 : decode cJ0_coder_7d493 13 = .ok (.iconst 1, 1) := by decide +kernel
theorem dJ0_coder_7d493_14 : decode cJ0_coder_7d493 14 = .ok (.ireturn, 1) := by decide +kernel
theorem dJ0_isLatin1_aae02_0 : decode cJ0_isLatin1_aae02 0 = .ok (.getstatic 38, 3) := by decide +kernel
theorem dJ0_isLatin1_aae02_3 : decode cJ0_isLatin1_aae02 3 = .ok (.ifCond .eq 14, 3) := by decide +kernel
theorem dJ0_isLatin1_aae02_6 : decode cJ0_isLatin1_aae02 6 = .ok (.aload_n 0, 1) := by decide +kernel
theorem dJ0_isLatin1_aae02_7 : decode cJ0_isLatin1_aae02 7 = .ok (.getfield 15, 3) := by decide +kernel
theorem dJ0_isLatin1_aae02_10 : decode cJ0_isLatin1_aae02 10 = .ok (.ifCond .ne 7, 3) := by decide +kernel
theorem dJ0_isLatin1_aae02_13 : decode cJ0_isLatin1_aae02 13 = .ok (.iconst 1, 1) := by decide +kernel
theorem dJ0_isLatin1_aae02_14 : decode cJ0_isLatin1_aae02 14 = .ok (.goto 4, 3) := by decide +kernel
theorem dJ0_isLatin1_aae02_17 : decode cJ0_isLatin1_aae02 17 = .ok (.iconst 0, 1) := by decide +kernel
theorem dJ0_isLatin1_aae02_18 : decode cJ0_isLatin1_aae02 18 = .ok (.ireturn, 1) := by decide +kernel
theorem dJ1_canEncode_9a6ad_0 : decode cJ1_canEncode_9a6ad 0 = .ok (.iload_n 0, 1) := by decide +kernel
theorem dJ1_canEncode_9a6ad_1 : decode cJ1_canEncode_9a6ad 1 = .ok (.ifCond .lt 14, 3) := by decide +kernel
theorem dJ1_canEncode_9a6ad_4 : decode cJ1_canEncode_9a6ad 4 = .ok (.iload_n 0, 1) := by decide +kernel
theorem dJ1_canEncode_9a6ad_5 : decode cJ1_canEncode_9a6ad 5 = .ok (.sipush 255, 3) := by decide +kernel
theorem dJ1_canEncode_9a6ad_8 : decode cJ1_canEncode_9a6ad 8 = .ok (.if_icmp .gt 7, 3) := by decide +kernel
theorem dJ1_canEncode_9a6ad_11 : decode cJ1_canEncode_9a6ad 11 = .ok (.iconst 1, 1) := by decide +kernel
theorem dJ1_canEncode_9a6ad_12 : decode cJ1_canEncode_9a6ad 12 = .ok (.goto 4, 3) := by decide +kernel
theorem dJ1_canEncode_9a6ad_15 : decode cJ1_canEncode_9a6ad 15 = .ok (.iconst 0, 1) := by decide +kernel
theorem dJ1_canEncode_9a6ad_16 : decode cJ1_canEncode_9a6ad 16 = .ok (.ireturn, 1) := by decide +kernel
theorem dJ1_indexOf_4cfef_0 : decode cJ1_indexOf_4cfef 0 = .ok (.iload_n 1, 1) := by decide +kernel
theorem dJ1_indexOf_4cfef_1 : decode cJ1_indexOf_4cfef 1 = .ok (.invokestatic 88, 3) := by decide +kernel
theorem dJ1_indexOf_4cfef_4 : decode cJ1_indexOf_4cfef 4 = .ok (.ifCond .ne 5, 3) := by decide +kernel
theorem dJ1_indexOf_4cfef_7 : decode cJ1_indexOf_4cfef 7 = .ok (.iconst (-1), 1) := by decide +kernel
theorem dJ1_indexOf_4cfef_8 : decode cJ1_indexOf_4cfef 8 = .ok (.ireturn, 1) := by decide +kernel
theorem dJ1_indexOf_4cfef_9 : decode cJ1_indexOf_4cfef 9 = .ok (.iload_n 2, 1) := by decide +kernel
theorem dJ1_indexOf_4cfef_10 : decode cJ1_indexOf_4cfef 10 = .ok (.iconst 0, 1) := by decide +kernel
theorem dJ1_indexOf_4cfef_11 : decode cJ1_indexOf_4cfef 11 = .ok (.invokestatic 92, 3) := by decide +kernel
theorem dJ1_indexOf_4cfef_14 : decode cJ1_indexOf_4cfef 14 = .ok (.istore_n 2, 1) := by decide +kernel
theorem dJ1_indexOf_4cfef_15 : decode cJ1_indexOf_4cfef 15 = .ok (.iload_n 3, 1) := by decide +kernel
theorem dJ1_indexOf_4cfef_16 : decode cJ1_indexOf_4cfef 16 = .ok (.aload_n 0, 1) := by decide +kernel
theorem dJ1_indexOf_4cfef_17 : decode cJ1_indexOf_4cfef 17 = .ok (.arraylength, 1) := by decide +kernel
theorem dJ1_indexOf_4cfef_18 : decode cJ1_indexOf_4cfef 18 = .ok (.invokestatic 38, 3) := by decide +kernel
theorem dJ1_indexOf_4cfef_21 : decode cJ1_indexOf_4cfef 21 = .ok (.istore_n 3, 1) := by decide +kernel
theorem dJ1_indexOf_4cfef_22 : decode cJ1_indexOf_4cfef 22 = .ok (.iload_n 2, 1) := by decide +kernel
theorem dJ1_indexOf_4cfef_23 : decode cJ1_indexOf_4cfef 23 = .ok (.iload_n 3, 1) := by decide +kernel
theorem dJ1_indexOf_4cfef_24 : decode cJ1_indexOf_4cfef 24 = .ok (.if_icmp .lt 5, 3) := by decide +kernel
theorem dJ1_indexOf_4cfef_27 : decode cJ1_indexOf_4cfef 27 = .ok (.iconst (-1), 1) := by decide +kernel
theorem dJ1_indexOf_4cfef_28 : decode cJ1_indexOf_4cfef 28 = .ok (.ireturn, 1) := by decide +kernel
theorem dJ1_indexOf_4cfef_29 : decode cJ1_indexOf_4cfef 29 = .ok (.aload_n 0, 1) := by decide +kernel
theorem dJ1_indexOf_4cfef_30 : decode cJ1_indexOf_4cfef 30 = .ok (.iload_n 1, 1) := by decide +kernel
theorem dJ1_indexOf_4cfef_31 : decode cJ1_indexOf_4cfef 31 = .ok (.iload_n 2, 1) := by decide +kernel
theorem dJ1_indexOf_4cfef_32 : decode cJ1_indexOf_4cfef 32 = .ok (.iload_n 3, 1) := by decide +kernel
theorem dJ1_indexOf_4cfef_33 : decode cJ1_indexOf_4cfef 33 = .ok (.invokestatic 95, 3) := by decide +kernel
theorem dJ1_indexOf_4cfef_36 : decode cJ1_indexOf_4cfef 36 = .ok (.ireturn, 1) := by decide +kernel
theorem dJ1_indexOfChar_4cfef_0 : decode cJ1_indexOfChar_4cfef 0 = .ok (.iload_n 1, 1) := by decide +kernel
theorem dJ1_indexOfChar_4cfef_1 : decode cJ1_indexOfChar_4cfef 1 = .ok (.i2b, 1) := by decide +kernel
theorem dJ1_indexOfChar_4cfef_2 : decode cJ1_indexOfChar_4cfef 2 = .ok (.istore 4, 2) := by decide +kernel
theorem dJ1_indexOfChar_4cfef_4 : decode cJ1_indexOfChar_4cfef 4 = .ok (.iload_n 2, 1) := by decide +kernel
theorem dJ1_indexOfChar_4cfef_5 : decode cJ1_indexOfChar_4cfef 5 = .ok (.istore 5, 2) := by decide +kernel
theorem dJ1_indexOfChar_4cfef_7 : decode cJ1_indexOfChar_4cfef 7 = .ok (.iload 5, 2) := by decide +kernel
theorem dJ1_indexOfChar_4cfef_9 : decode cJ1_indexOfChar_4cfef 9 = .ok (.iload_n 3, 1) := by decide +kernel
theorem dJ1_indexOfChar_4cfef_10 : decode cJ1_indexOfChar_4cfef 10 = .ok (.if_icmp .ge 21, 3) := by decide +kernel
theorem dJ1_indexOfChar_4cfef_13 : decode cJ1_indexOfChar_4cfef 13 = .ok (.aload_n 0, 1) := by decide +kernel
theorem dJ1_indexOfChar_4cfef_14 : decode cJ1_indexOfChar_4cfef 14 = .ok (.iload 5, 2) := by decide +kernel
theorem dJ1_indexOfChar_4cfef_16 : decode cJ1_indexOfChar_4cfef 16 = .ok (.baload, 1) := by decide +kernel
theorem dJ1_indexOfChar_4cfef_17 : decode cJ1_indexOfChar_4cfef 17 = .ok (.iload 4, 2) := by decide +kernel
theorem dJ1_indexOfChar_4cfef_19 : decode cJ1_indexOfChar_4cfef 19 = .ok (.if_icmp .ne 6, 3) := by decide +kernel
theorem dJ1_indexOfChar_4cfef_22 : decode cJ1_indexOfChar_4cfef 22 = .ok (.iload 5, 2) := by decide +kernel
theorem dJ1_indexOfChar_4cfef_24 : decode cJ1_indexOfChar_4cfef 24 = .ok (.ireturn, 1) := by decide +kernel
theorem dJ1_indexOfChar_4cfef_25 : decode cJ1_indexOfChar_4cfef 25 = .ok (.iinc 5 1, 3) := by decide +kernel
theorem dJ1_indexOfChar_4cfef_28 : decode cJ1_indexOfChar_4cfef 28 = .ok (.goto (-21), 3) := by decide +kernel
theorem dJ1_indexOfChar_4cfef_31 : decode cJ1_indexOfChar_4cfef 31 = .ok (.iconst (-1), 1) := by decide +kernel
theorem dJ1_indexOfChar_4cfef_32 : decode cJ1_indexOfChar_4cfef 32 = .ok (.ireturn, 1) := by decide +kernel
theorem cm_J0_length_8abf5 : CalV mJ0_length_8abf5 0 := ⟨⟨tb_in 676 (by decide +kernel) rfl, kini_J0, ⟨by decide +kernel, by decide +kernel, by decide +kernel⟩, by decide +kernel⟩, tb_in 674 (by decide +kernel) rfl, tb_in 675 (by decide +kernel) rfl⟩
theorem cm_J0_indexOf_0f7a4 : CalV mJ0_indexOf_0f7a4 1 := ⟨⟨tb_in 662 (by decide +kernel) rfl, kini_J0, ⟨by decide +kernel, by decide +kernel, by decide +kernel⟩, by decide +kernel⟩, tb_in 660 (by decide +kernel) rfl, tb_in 661 (by decide +kernel) rfl⟩
theorem cm_J0_indexOf_7cf53 : CalV mJ0_indexOf_7cf53 2 := ⟨⟨tb_in 666 (by decide +kernel) rfl, kini_J0, ⟨by decide +kernel, by decide +kernel, by decide +kernel⟩, by decide +kernel⟩, tb_in 664 (by decide +kernel) rfl, tb_in 665 (by decide +kernel) rfl⟩
theorem cm_J0_coder_7d493 : CalV mJ0_coder_7d493 0 := ⟨⟨tb_in 680 (by decide +kernel) rfl, kini_J0, ⟨by decide +kernel, by decide +kernel, by decide +kernel⟩, by decide +kernel⟩, tb_in 678 (by decide +kernel) rfl, tb_in 679 (by decide +kernel) rfl⟩
theorem cm_J0_isLatin1_aae02 : CalV mJ0_isLatin1_aae02 0 := ⟨⟨tb_in 670 (by decide +kernel) rfl, kini_J0, ⟨by decide +kernel, by decide +kernel, by decide +kernel⟩, by decide +kernel⟩, tb_in 668 (by decide +kernel) rfl, tb_in 669 (by decide +kernel) rfl⟩
theorem cm_J1_canEncode_9a6ad : CalS mJ1_canEncode_9a6ad 1 := ⟨⟨tb_in 686 (by decide +kernel) rfl, kini_J1, ⟨by decide +kernel, by decide +kernel, by decide +kernel⟩, by decide +kernel⟩, tb_in 685 (by decide +kernel) rfl⟩
theorem cm_J1_indexOf_4cfef : CalS mJ1_indexOf_4cfef 4 := ⟨⟨tb_in 683 (by decide +kernel) rfl, kini_J1, ⟨by decide +kernel, by decide +kernel, by decide +kernel⟩, by decide +kernel⟩, tb_in 682 (by decide +kernel) rfl⟩
theorem cm_J1_indexOfChar_4cfef : CalS mJ1_indexOfChar_4cfef 4 := ⟨⟨tb_in 695 (by decide +kernel) rfl, kini_J1, ⟨by decide +kernel, by decide +kernel, by decide +kernel⟩, by decide +kernel⟩, tb_in 694 (by decide +kernel) rfl⟩
theorem pl_J0 : plainName RJ0 = true := by decide +kernel
theorem pl_J1 : plainName RJ1 = true := by decide +kernel
theorem pl_J6 : plainName RJ6 = true := by decide +kernel
theorem k_gsC : Cond.fieldLink "java/lang/String" 38 "java/lang/String" "COMPACT_STRINGS" "Z" ∈ Tb := tb_in 671 (by decide +kernel) rfl
section SRULES
variable {l : Launch} {G : GG} {M : MI} {d mc ms n1 n2 : Nat} {K : List Kd} {pc : Nat} {L st : List AV} {h : AH} {Q : Option AV → List Kd → AH → Prop}
def adK (G : GG) (i : Nat) : Int := (G.2.2.2.1 i : Int)
def adV (G : GG) (i : Nat) : Int := (G.2.2.2.2 i : Int)
theorem str_at {adr : Nat → Nat} {H : Heap} {s : State} (R : Rel G adr K h H) (hS : KS G s) : vk_S 4 sLen sByt G.2.2.2.1 G.2.2.2.2 (oldA G) s H := hS.2.1.kept fun a ha _ => R.1 a ha
theorem ra16 {adr : Nat → Nat} {a : Nat} : ra adr (3, (a : Int)) = .ref a := by simp [ra]
theorem oka16 {n : Nat} {x : Int} : oka n (3, x) := oka9 (by decide)
theorem v_ldcS {idx i : Nat} {tx : String} (hdg : decode M.2.1 pc = .ok (.ldc idx, 2)) (hv : ∀ s, KS G s → vk_R M.1.cls idx tx (G.2.2.2.1 i) s) (k : V l G M d mc ms n1 n2 K (pc + 2) L ((3, adK G i) :: st) h Q) : V l G M d mc ms n1 n2 K pc L st h Q := by
  intro p e s m args below meth c0 adr0 adr n0 H locs ls S
  obtain ⟨S1, S2, S3, S4, S5, S6⟩ := S
  obtain ⟨hx, hb, h3, h4, h5, h6, h7, h8, h9⟩ := id S1
  have k9 := k p e s m args below meth c0 adr0 adr n0 H locs ls ⟨S1, S2, S3, S4, al_c.mpr ⟨oka16, S5⟩, S6⟩
  rw [List.map_cons, show ra adr (3, adK G i) = .ref (G.2.2.2.1 i) from ra16] at k9
  exact va_ldcS hx hb h6 (hv s h9.2.2.2) hdg k9
theorem v_getsC {idx : Nat} (hdg : decode M.2.1 pc = .ok (.getstatic idx, 3)) (hw : Cond.fieldLink M.1.cls idx "java/lang/String" "COMPACT_STRINGS" "Z" ∈ Tb) (k : V l G M d mc ms n1 n2 K (pc + 3) L ((0, 1) :: st) h Q) : V l G M d mc ms n1 n2 K pc L st h Q := by
  intro p e s m args below meth c0 adr0 adr n0 H locs ls S
  obtain ⟨S1, S2, S3, S4, S5, S6⟩ := S
  obtain ⟨hx, hb, h3, h4, h5, h6, h7, h8, h9⟩ := id S1
  have hZ := h9.2.2.2.1.kept (H1 := H) fun a ha _ => S2.1 a ha
  have k9 := k p e s m args below meth c0 adr0 adr n0 H locs ls ⟨S1, S2, S3, S4, al_c.mpr ⟨oka0 (by unfold ok32; omega), S5⟩, S6⟩
  obtain ⟨cf, kf, fi, f, a, cell, z1, z2, z3, z4, z5, z6, z7, z8⟩ := hZ
  exact W.gets hx hb h6 (h8 _ (List.mem_cons_of_mem _ hw)) z1 z2 z3 z4 z5 (fun e => by rw [e] at z6; cases z6) z7 rfl hdg k9
theorem v_getSc {idx i : Nat} (hdg : decode M.2.1 pc = .ok (.getfield idx, 3)) (hw : Cond.fieldLink M.1.cls idx "java/lang/String" "coder" "B" ∈ Tb) (hi : i < 4) (k : V l G M d mc ms n1 n2 K (pc + 3) L ((0, 0) :: st) h Q) : V l G M d mc ms n1 n2 K pc L ((3, adK G i) :: st) h Q := by
  intro p e s m args below meth c0 adr0 adr n0 H locs ls S
  obtain ⟨S1, S2, S3, S4, S5, S6⟩ := S
  obtain ⟨hx, hb, h3, h4, h5, h6, h7, h8, h9⟩ := id S1
  have k9 := k p e s m args below meth c0 adr0 adr n0 H locs ls ⟨S1, S2, S3, S4, al_c.mpr ⟨oka0 (by unfold ok32; omega), (al_c.mp S5).2⟩, S6⟩
  obtain ⟨cf, kf, fi, f, cell, z1, z2, z3, z4, z5, z6⟩ := ((str_at S2 h9.2.2.2).1 i hi).2.1
  rw [List.map_cons, show ra adr (3, adK G i) = .ref (G.2.2.2.1 i) from ra16]
  exact W.getf hx hb h6 (h8 _ (List.mem_cons_of_mem _ hw)) z1 z2 z3 z4 z5 rfl rfl hdg k9
theorem v_getSv {idx i : Nat} (hdg : decode M.2.1 pc = .ok (.getfield idx, 3)) (hw : Cond.fieldLink M.1.cls idx "java/lang/String" "value" "[B" ∈ Tb) (hi : i < 4) (k : V l G M d mc ms n1 n2 K (pc + 3) L ((3, adV G i) :: st) h Q) : V l G M d mc ms n1 n2 K pc L ((3, adK G i) :: st) h Q := by
  intro p e s m args below meth c0 adr0 adr n0 H locs ls S
  obtain ⟨S1, S2, S3, S4, S5, S6⟩ := S
  obtain ⟨hx, hb, h3, h4, h5, h6, h7, h8, h9⟩ := id S1
  have k9 := k p e s m args below meth c0 adr0 adr n0 H locs ls ⟨S1, S2, S3, S4, al_c.mpr ⟨oka16, (al_c.mp S5).2⟩, S6⟩
  obtain ⟨cf, kf, fi, f, cell, z1, z2, z3, z4, z5, z6⟩ := ((str_at S2 h9.2.2.2).1 i hi).2.2.1
  rw [List.map_cons, show ra adr (3, adK G i) = .ref (G.2.2.2.1 i) from ra16]
  rw [List.map_cons, show ra adr (3, adV G i) = .ref (G.2.2.2.2 i) from ra16] at k9
  exact W.getf hx hb h6 (h8 _ (List.mem_cons_of_mem _ hw)) z1 z2 z3 z4 z5 rfl rfl hdg k9
theorem v_alenS {i : Nat} {ni : Int} (hdg : decode M.2.1 pc = .ok (.arraylength, 1)) (hi : i < 4) (hn : ((sLen.getD i 0 : Nat) : Int) = ni) (hb32 : ok32 ni) (k : V l G M d mc ms n1 n2 K (pc + 1) L ((0, ni) :: st) h Q) : V l G M d mc ms n1 n2 K pc L ((3, adV G i) :: st) h Q := by
  intro p e s m args below meth c0 adr0 adr n0 H locs ls S
  obtain ⟨S1, S2, S3, S4, S5, S6⟩ := S
  obtain ⟨hx, hb, h3, h4, h5, h6, h7, h8, h9⟩ := id S1
  have k9 := k p e s m args below meth c0 adr0 adr n0 H locs ls ⟨S1, S2, S3, S4, al_c.mpr ⟨oka0 hb32, (al_c.mp S5).2⟩, S6⟩
  obtain ⟨cell, z1, z2, z3, z4, z5, z6, z7⟩ := ((str_at S2 h9.2.2.2).1 i hi).2.2.2
  rw [List.map_cons, show ra adr (3, adV G i) = .ref (G.2.2.2.2 i) from ra16]
  refine W.alen (n := Int32.ofInt ni) hx hb z1 z2 ?_ rfl rfl hdg k9
  rw [z5, ← hn]
  rfl
theorem v_baloadS {i : Nat} {j z : Int} (hdg : decode M.2.1 pc = .ok (.baload, 1)) (hi : i < 4) (h0 : 0 ≤ j) (h1 : j < ((sLen.getD i 0 : Nat) : Int)) (hz : (sByt.getD i []).getD j.toNat 0 = Int32.ofInt z) (hz2 : ok32 z) (k : V l G M d mc ms n1 n2 K (pc + 1) L ((0, z) :: st) h Q) : V l G M d mc ms n1 n2 K pc L ((0, j) :: (3, adV G i) :: st) h Q := by
  intro p e s m args below meth c0 adr0 adr n0 H locs ls S
  obtain ⟨S1, S2, S3, S4, S5, S6⟩ := S
  obtain ⟨hx, hb, h3, h4, h5, h6, h7, h8, h9⟩ := id S1
  have oj : ok32 j := (al_c.mp S5).1.1 rfl
  have k9 := k p e s m args below meth c0 adr0 adr n0 H locs ls ⟨S1, S2, S3, S4, al_c.mpr ⟨oka0 hz2, (al_c.mp (al_c.mp S5).2).2⟩, S6⟩
  obtain ⟨cell, z1, z2, z3, z4, z5, z6, z7⟩ := ((str_at S2 h9.2.2.2).1 i hi).2.2.2
  rw [List.map_cons, List.map_cons, show ra adr (3, adV G i) = .ref (G.2.2.2.2 i) from ra16]
  refine W.bald (v := .int (Int32.ofInt z)) hx hb z1 z2 z3 ?_ ?_ rfl rfl hdg k9
  · have q := n32 oj h0 h1
    intro w
    rcases w with w | w
    · exact q (Or.inl w)
    · exact q (Or.inr (Nat.le_trans z4 w))
  · rw [cl32 oj h0, z6 _ (by omega)]
    show some (Value.int _) = _
    rw [hz]
theorem v_callvS {M' : MI} {idx d' i : Nat} {As st0 : List AV} (hdg : decode M.2.1 pc = .ok (.invokevirtual idx, 3)) (hw : Cond.methodLink M.1.cls idx M'.1 ∈ Tb) (hm : CalV M' As.length) (hcl : M'.1.cls = "java/lang/String") (hd : d' < d) (hi : i < 4) (hs : csum st ≤ 8) (hst : st0 = As.reverse ++ (3, adK G i) :: st) (hf : n1 + 0 ≤ mc ∧ n2 + 0 ≤ ms)
    (k : Sp l G M' d' 0 0 K ((3, adK G i) :: As) h (fun r K' h' => V l G M d mc ms (n1 + 0) (n2 + 0) K' (pc + 3) L (r.toList ++ st) h' Q)) : V l G M d mc ms n1 n2 K pc L st0 h Q := by
  subst hst
  intro p e s m args below meth c0 adr0 adr n0 H locs ls S
  obtain ⟨S1, S2, S3, S4, S5, S6⟩ := S
  obtain ⟨hx, hb, h3, h4, h5, h6, h7, h8, h9⟩ := id S1
  have hoA : ∀ v ∈ (3, adK G i) :: As, oka K.length v := fun v hv => by
    rcases List.mem_cons.mp hv with q | q
    · rw [q]; exact oka16
    · exact S5 v (List.mem_append_left _ (List.mem_reverse.mpr q))
  have hoS : ∀ v ∈ st, oka K.length v := fun v hv => S5 v (List.mem_append_right _ (List.mem_cons_of_mem _ hv))
  have hmet := k adr H.size hoA
  obtain ⟨cell, q1, q2, q3, q4⟩ := ((str_at S2 h9.2.2.2).1 i hi).1
  have e16 : ra adr (3, adK G i) = .ref (G.2.2.2.1 i) := ra16
  rw [List.map_cons, e16] at hmet
  refine v_after ⟨S1, S2, S3, S4, hoS, S6⟩ (va_runV (b := G.2.2.2.1 i) (As := As.map (ra adr)) (rest := st.map (ra adr)) ⟨hx, hb, h5, h6, h8⟩ hmet
    (cwV (C := M'.1.cls) As.length h8 (tb_good (fun w hw2 => by
      rcases List.mem_append.mp hw2 with q | q
      · simp only [List.mem_cons, List.not_mem_nil, or_false] at q
        rcases q with rfl | rfl | rfl | rfl
        · exact hw
        · exact hm.2.1
        · exact hm.2.2
        · exact hm.1.2.1
      · exact cal_ws hm.1 w q)) rfl rfl rfl ⟨rfl, hm.1.2.2.1⟩ ⟨hd, by show 8 + (M'.2.2.1 + 11) + 64 * d' ≤ 64 * d; have := hm.1.2.2.2; omega⟩)
    ⟨fun a U g mk q => by obtain ⟨q0, q1, q2, q3⟩ := q; exact ⟨q0, q1, q2, KK.same (s := U) rfl q3⟩, ⟨cell, q1, q2, by rw [hcl]; exact q3⟩, fun U hU hW => ⟨rfl, by rw [hU], by rw [hU]; exact S2, h9.warm hW⟩⟩ rfl (by rw [List.length_map]) (by rw [← h5]; exact S6.1.trans h5.symm) (by rw [List.map_append, List.map_reverse, List.map_cons, e16]) (by show 2 * 0 + _ ≤ 8; rw [cat_sum]; unfold csum at hs; omega) hdg hf)
theorem v_aload3_n {i : Fin 4} {x : Int} (hdg : decode M.2.1 pc = .ok (.aload_n i, 1)) (hl : L[(i : Nat)]? = some (3, x)) (k : V l G M d mc ms n1 n2 K (pc + 1) L ((3, x) :: st) h Q) : V l G M d mc ms n1 n2 K pc L st h Q :=
  v_op (fun a b => al_c.mpr ⟨b _ (List.mem_of_getElem? hl), a⟩) (fun _ _ _ _ _ _ _ _ _ _ _ _ _ hx hb _ _ _ hv w => lv_aload_n hx hb hdg rfl (rl_get hv hl (show (3 : Nat) < 8 by decide)) w) k
theorem i2b_eq {c : Int} (h0 : 0 ≤ c) (h1 : c < 256) : i2b c = if c < 128 then c else c - 256 := by
  unfold i2b
  have o : ok32 c := by unfold ok32; omega
  rw [Int8.toInt_toInt32, Int32.toInt_toInt8, t32 o]
  split
  · exact Int.bmod_eq_of_le (by omega) (by omega)
  · rw [Int.bmod_def]; split <;> omega
theorem i2b_c {c : Int} (h0 : 0 ≤ c) (h1 : c < 256) : (c < 128 ∧ i2b c = c) ∨ (128 ≤ c ∧ i2b c = c - 256) := by
  rw [i2b_eq h0 h1]
  by_cases q : c < 128
  · exact Or.inl ⟨q, if_pos q⟩
  · exact Or.inr ⟨by omega, if_neg q⟩
theorem byte_ret {x : Int} (h : 0 ≤ x ∧ x < 2) : narrow .byte (.int (Int32.ofInt x)) = .int (Int32.ofInt x) := by
  have h3 : x = 0 ∨ x = 1 := by omega
  rcases h3 with rfl | rfl <;> rfl
theorem v_iretb {x : Int} (hdg : decode M.2.1 pc = .ok (.ireturn, 1)) (hret : M.2.2.2 = some .byte) (hz : 0 ≤ x ∧ x < 2) (h1 : n1 ≤ mc) (h2 : n2 ≤ ms) (hq : Q (some (0, x)) K h) : V l G M d mc ms n1 n2 K pc L [(0, x)] h Q := by
  intro p e s m args below meth c adr0 adr n0 H locs ls S
  obtain ⟨S1, S2, S3, S4, S5, S6⟩ := S
  obtain ⟨hx, hb, h3, h4, h5, h6, h7, h8, h9⟩ := id S1
  refine W.widen h1 h2 ?_
  exact W.zret (v := Int32.ofInt x) hx hb (h3.trans hret) (byte_ret hz) (fun t ht hW => ⟨⟨some (0, x), K, h, adr, rfl, hq, S3.1, S3.2.1, by rw [ht]; exact S2, S3.2.2.2, fun v hv => by cases hv; exact (al_c.mp S5).1⟩, S3.2.2.1.F ht⟩) S3.2.2.1.2.2 hdg h4
end SRULES
