theorem dX9_init_0 : decode cX9_init 0 = .ok (.aload_n 0, 1) := by decide +kernel
theorem dX9_init_1 : decode cX9_init 1 = .ok (.invokespecial 1, 3) := by decide +kernel
theorem dX9_init_4 : decode cX9_init 4 = .ok (.aload_n 0, 1) := by decide +kernel
theorem dX9_init_5 : decode cX9_init 5 = .ok (.sipush 2075, 3) := by decide +kernel
theorem dX9_init_8 : decode cX9_init 8 = .ok (.newarray .int, 2) := by decide +kernel
theorem dX9_init_10 : decode cX9_init 10 = .ok (.putfield 7, 3) := by decide +kernel
theorem dX9_init_13 : decode cX9_init 13 = .ok (.aload_n 0, 1) := by decide +kernel
theorem dX9_init_14 : decode cX9_init 14 = .ok (.bipush 16, 2) := by decide +kernel
theorem dX9_init_16 : decode cX9_init 16 = .ok (.newarray .int, 2) := by decide +kernel
theorem dX9_init_18 : decode cX9_init 18 = .ok (.putfield 13, 3) := by decide +kernel
theorem dX9_init_21 : decode cX9_init 21 = .ok (.aload_n 0, 1) := by decide +kernel
theorem dX9_init_22 : decode cX9_init 22 = .ok (.bipush 16, 2) := by decide +kernel
theorem dX9_init_24 : decode cX9_init 24 = .ok (.newarray .int, 2) := by decide +kernel
theorem dX9_init_26 : decode cX9_init 26 = .ok (.putfield 16, 3) := by decide +kernel
theorem dX9_init_29 : decode cX9_init 29 = .ok (.aload_n 0, 1) := by decide +kernel
theorem dX9_init_30 : decode cX9_init 30 = .ok (.bipush 32, 2) := by decide +kernel
theorem dX9_init_32 : decode cX9_init 32 = .ok (.newarray .int, 2) := by decide +kernel
theorem dX9_init_34 : decode cX9_init 34 = .ok (.putfield 19, 3) := by decide +kernel
theorem dX9_init_37 : decode cX9_init 37 = .ok (.aload_n 0, 1) := by decide +kernel
theorem dX9_init_38 : decode cX9_init 38 = .ok (.bipush 64, 2) := by decide +kernel
theorem dX9_init_40 : decode cX9_init 40 = .ok (.newarray .int, 2) := by decide +kernel
theorem dX9_init_42 : decode cX9_init 42 = .ok (.putfield 22, 3) := by decide +kernel
theorem dX9_init_45 : decode cX9_init 45 = .ok (.aload_n 0, 1) := by decide +kernel
theorem dX9_init_46 : decode cX9_init 46 = .ok (.iconst 4, 1) := by decide +kernel
theorem dX9_init_47 : decode cX9_init 47 = .ok (.newarray .int, 2) := by decide +kernel
theorem dX9_init_49 : decode cX9_init 49 = .ok (.putfield 25, 3) := by decide +kernel
theorem dX9_init_52 : decode cX9_init 52 = .ok (.aload_n 0, 1) := by decide +kernel
theorem dX9_init_53 : decode cX9_init 53 = .ok (.iconst 4, 1) := by decide +kernel
theorem dX9_init_54 : decode cX9_init 54 = .ok (.newarray .int, 2) := by decide +kernel
theorem dX9_init_56 : decode cX9_init 56 = .ok (.putfield 28, 3) := by decide +kernel
theorem dX9_init_59 : decode cX9_init 59 = .ok (.aload_n 0, 1) := by decide +kernel
theorem dX9_init_60 : decode cX9_init 60 = .ok (.sipush 2480, 3) := by decide +kernel
theorem dX9_init_63 : decode cX9_init 63 = .ok (.newarray .int, 2) := by decide +kernel
theorem dX9_init_65 : decode cX9_init 65 = .ok (.putfield 31, 3) := by decide +kernel
theorem dX9_init_68 : decode cX9_init 68 = .ok (.aload_n 0, 1) := by decide +kernel
theorem dX9_init_69 : decode cX9_init 69 = .ok (.sipush 600, 3) := by decide +kernel
theorem dX9_init_72 : decode cX9_init 72 = .ok (.newarray .byte, 2) := by decide +kernel
theorem dX9_init_74 : decode cX9_init 74 = .ok (.putfield 34, 3) := by decide +kernel
theorem dX9_init_77 : decode cX9_init 77 = .ok (.aload_n 0, 1) := by decide +kernel
theorem dX9_init_78 : decode cX9_init 78 = .ok (.iconst (-1), 1) := by decide +kernel
theorem dX9_init_79 : decode cX9_init 79 = .ok (.putfield 38, 3) := by decide +kernel
theorem dX9_init_82 : decode cX9_init 82 = .ok (.aload_n 0, 1) := by decide +kernel
theorem dX9_init_83 : decode cX9_init 83 = .ok (.bipush 40, 2) := by decide +kernel
theorem dX9_init_85 : decode cX9_init 85 = .ok (.newarray .int, 2) := by decide +kernel
theorem dX9_init_87 : decode cX9_init 87 = .ok (.putfield 42, 3) := by decide +kernel
theorem dX9_init_90 : decode cX9_init 90 = .ok (.aload_n 0, 1) := by decide +kernel
theorem dX9_init_91 : decode cX9_init 91 = .ok (.iconst 5, 1) := by decide +kernel
theorem dX9_init_92 : decode cX9_init 92 = .ok (.newarray .int, 2) := by decide +kernel
theorem dX9_init_94 : decode cX9_init 94 = .ok (.putfield 45, 3) := by decide +kernel
theorem dX9_init_97 : decode cX9_init 97 = .ok (.aload_n 0, 1) := by decide +kernel
theorem dX9_init_98 : decode cX9_init 98 = .ok (.sipush 2075, 3) := by decide +kernel
theorem dX9_init_101 : decode cX9_init 101 = .ok (.newarray .int, 2) := by decide +kernel
theorem dX9_init_103 : decode cX9_init 103 = .ok (.putfield 48, 3) := by decide +kernel
theorem dX9_init_106 : decode cX9_init 106 = .ok (.aload_n 0, 1) := by decide +kernel
theorem dX9_init_107 : decode cX9_init 107 = .ok (.sipush 20750, 3) := by decide +kernel
theorem dX9_init_110 : decode cX9_init 110 = .ok (.newarray .int, 2) := by decide +kernel
theorem dX9_init_112 : decode cX9_init 112 = .ok (.putfield 51, 3) := by decide +kernel
theorem dX9_init_115 : decode cX9_init 115 = .ok (.aload_n 0, 1) := by decide +kernel
theorem dX9_init_116 : decode cX9_init 116 = .ok (.sipush 4150, 3) := by decide +kernel
theorem dX9_init_119 : decode cX9_init 119 = .ok (.newarray .int, 2) := by decide +kernel
theorem dX9_init_121 : decode cX9_init 121 = .ok (.putfield 54, 3) := by decide +kernel
theorem dX9_init_124 : decode cX9_init 124 = .ok (.aload_n 0, 1) := by decide +kernel
theorem dX9_init_125 : decode cX9_init 125 = .ok (.iconst 2, 1) := by decide +kernel
theorem dX9_init_126 : decode cX9_init 126 = .ok (.newarray .boolean, 2) := by decide +kernel
theorem dX9_init_128 : decode cX9_init 128 = .ok (.putfield 57, 3) := by decide +kernel
theorem dX9_init_131 : decode cX9_init 131 = .ok (.aload_n 0, 1) := by decide +kernel
theorem dX9_init_132 : decode cX9_init 132 = .ok (.invokevirtual 61, 3) := by decide +kernel
theorem dX9_init_135 : decode cX9_init 135 = .ok (.aload_n 0, 1) := by decide +kernel
theorem dX9_init_136 : decode cX9_init 136 = .ok (.invokevirtual 64, 3) := by decide +kernel
theorem dX9_init_139 : decode cX9_init 139 = .ok (.aload_n 0, 1) := by decide +kernel
theorem dX9_init_140 : decode cX9_init 140 = .ok (.invokevirtual 67, 3) := by decide +kernel
theorem dX9_init_143 : decode cX9_init 143 = .ok (.return_, 1) := by decide +kernel
theorem dX9_thrown_0 : decode cX9_thrown 0 = .ok (.aload_n 0, 1) := by decide +kernel
theorem dX9_thrown_1 : decode cX9_thrown 1 = .ok (.getfield 70, 3) := by decide +kernel
theorem dX9_thrown_4 : decode cX9_thrown 4 = .ok (.ireturn, 1) := by decide +kernel
theorem dX9_within_0 : decode cX9_within 0 = .ok (.iload_n 0, 1) := by decide +kernel
theorem dX9_within_1 : decode cX9_within 1 = .ok (.iload_n 1, 1) := by decide +kernel
theorem dX9_within_2 : decode cX9_within 2 = .ok (.if_icmp .lt 12, 3) := by decide +kernel
theorem dX9_within_5 : decode cX9_within 5 = .ok (.iload_n 0, 1) := by decide +kernel
theorem dX9_within_6 : decode cX9_within 6 = .ok (.iload_n 2, 1) := by decide +kernel
theorem dX9_within_7 : decode cX9_within 7 = .ok (.if_icmp .gt 7, 3) := by decide +kernel
theorem dX9_within_10 : decode cX9_within 10 = .ok (.iconst 1, 1) := by decide +kernel
theorem dX9_within_11 : decode cX9_within 11 = .ok (.goto 4, 3) := by decide +kernel
theorem dX9_within_14 : decode cX9_within 14 = .ok (.iconst 0, 1) := by decide +kernel
theorem dX9_within_15 : decode cX9_within 15 = .ok (.ireturn, 1) := by decide +kernel
theorem dX9_has_0 : decode cX9_has 0 = .ok (.iload_n 0, 1) := by decide +kernel
theorem dX9_has_1 : decode cX9_has 1 = .ok (.iload_n 1, 1) := by decide +kernel
theorem dX9_has_2 : decode cX9_has 2 = .ok (.ishr, 1) := by decide +kernel
theorem dX9_has_3 : decode cX9_has 3 = .ok (.iconst 1, 1) := by decide +kernel
theorem dX9_has_4 : decode cX9_has 4 = .ok (.iand, 1) := by decide +kernel
theorem dX9_has_5 : decode cX9_has 5 = .ok (.iconst 1, 1) := by decide +kernel
theorem dX9_has_6 : decode cX9_has 6 = .ok (.if_icmp .ne 7, 3) := by decide +kernel
theorem dX9_has_9 : decode cX9_has 9 = .ok (.iconst 1, 1) := by decide +kernel
theorem dX9_has_10 : decode cX9_has 10 = .ok (.goto 4, 3) := by decide +kernel
theorem dX9_has_13 : decode cX9_has 13 = .ok (.iconst 0, 1) := by decide +kernel
theorem dX9_has_14 : decode cX9_has 14 = .ok (.ireturn, 1) := by decide +kernel
theorem dX9_bits_0 : decode cX9_bits 0 = .ok (.iconst 0, 1) := by decide +kernel
theorem dX9_bits_1 : decode cX9_bits 1 = .ok (.istore_n 1, 1) := by decide +kernel
theorem dX9_bits_2 : decode cX9_bits 2 = .ok (.iload_n 0, 1) := by decide +kernel
theorem dX9_bits_3 : decode cX9_bits 3 = .ok (.istore_n 2, 1) := by decide +kernel
theorem dX9_bits_4 : decode cX9_bits 4 = .ok (.iload_n 2, 1) := by decide +kernel
theorem dX9_bits_5 : decode cX9_bits 5 = .ok (.ifCond .eq 15, 3) := by decide +kernel
theorem dX9_bits_8 : decode cX9_bits 8 = .ok (.iinc 1 1, 3) := by decide +kernel
theorem dX9_bits_11 : decode cX9_bits 11 = .ok (.iload_n 2, 1) := by decide +kernel
theorem dX9_bits_12 : decode cX9_bits 12 = .ok (.iload_n 2, 1) := by decide +kernel
theorem dX9_bits_13 : decode cX9_bits 13 = .ok (.iconst 1, 1) := by decide +kernel
theorem dX9_bits_14 : decode cX9_bits 14 = .ok (.isub, 1) := by decide +kernel
theorem dX9_bits_15 : decode cX9_bits 15 = .ok (.iand, 1) := by decide +kernel
theorem dX9_bits_16 : decode cX9_bits 16 = .ok (.istore_n 2, 1) := by decide +kernel
theorem dX9_bits_17 : decode cX9_bits 17 = .ok (.goto (-13), 3) := by decide +kernel
theorem dX9_bits_20 : decode cX9_bits 20 = .ok (.iload_n 1, 1) := by decide +kernel
theorem dX9_bits_21 : decode cX9_bits 21 = .ok (.ireturn, 1) := by decide +kernel
theorem dX9_throwsIf_0 : decode cX9_throwsIf 0 = .ok (.aload_n 0, 1) := by decide +kernel
theorem dX9_throwsIf_1 : decode cX9_throwsIf 1 = .ok (.getfield 70, 3) := by decide +kernel
theorem dX9_throwsIf_4 : decode cX9_throwsIf 4 = .ok (.ifCond .ne 12, 3) := by decide +kernel
theorem dX9_throwsIf_7 : decode cX9_throwsIf 7 = .ok (.iload_n 1, 1) := by decide +kernel
theorem dX9_throwsIf_8 : decode cX9_throwsIf 8 = .ok (.ifCond .eq 8, 3) := by decide +kernel
theorem dX9_throwsIf_11 : decode cX9_throwsIf 11 = .ok (.aload_n 0, 1) := by decide +kernel
theorem dX9_throwsIf_12 : decode cX9_throwsIf 12 = .ok (.iload_n 2, 1) := by decide +kernel
theorem dX9_throwsIf_13 : decode cX9_throwsIf 13 = .ok (.putfield 70, 3) := by decide +kernel
theorem dX9_throwsIf_16 : decode cX9_throwsIf 16 = .ok (.aload_n 0, 1) := by decide +kernel
theorem dX9_throwsIf_17 : decode cX9_throwsIf 17 = .ok (.getfield 70, 3) := by decide +kernel
theorem dX9_throwsIf_20 : decode cX9_throwsIf 20 = .ok (.ifCond .le 7, 3) := by decide +kernel
theorem dX9_throwsIf_23 : decode cX9_throwsIf 23 = .ok (.iconst 1, 1) := by decide +kernel
theorem dX9_throwsIf_24 : decode cX9_throwsIf 24 = .ok (.goto 4, 3) := by decide +kernel
theorem dX9_throwsIf_27 : decode cX9_throwsIf 27 = .ok (.iconst 0, 1) := by decide +kernel
theorem dX9_throwsIf_28 : decode cX9_throwsIf 28 = .ok (.ireturn, 1) := by decide +kernel
theorem dX9_lifts_0 : decode cX9_lifts 0 = .ok (.iconst 0, 1) := by decide +kernel
theorem dX9_lifts_1 : decode cX9_lifts 1 = .ok (.istore_n 1, 1) := by decide +kernel
theorem dX9_lifts_2 : decode cX9_lifts 2 = .ok (.iload_n 1, 1) := by decide +kernel
theorem dX9_lifts_3 : decode cX9_lifts 3 = .ok (.aload_n 0, 1) := by decide +kernel
theorem dX9_lifts_4 : decode cX9_lifts 4 = .ok (.arraylength, 1) := by decide +kernel
theorem dX9_lifts_5 : decode cX9_lifts 5 = .ok (.iconst 2, 1) := by decide +kernel
theorem dX9_lifts_6 : decode cX9_lifts 6 = .ok (.idiv, 1) := by decide +kernel
theorem dX9_lifts_7 : decode cX9_lifts 7 = .ok (.if_icmp .ge 20, 3) := by decide +kernel
theorem dX9_lifts_10 : decode cX9_lifts 10 = .ok (.aload_n 0, 1) := by decide +kernel
theorem dX9_lifts_11 : decode cX9_lifts 11 = .ok (.iload_n 1, 1) := by decide +kernel
theorem dX9_lifts_12 : decode cX9_lifts 12 = .ok (.aload_n 0, 1) := by decide +kernel
theorem dX9_lifts_13 : decode cX9_lifts 13 = .ok (.aload_n 0, 1) := by decide +kernel
theorem dX9_lifts_14 : decode cX9_lifts 14 = .ok (.arraylength, 1) := by decide +kernel
theorem dX9_lifts_15 : decode cX9_lifts 15 = .ok (.iconst 2, 1) := by decide +kernel
theorem dX9_lifts_16 : decode cX9_lifts 16 = .ok (.idiv, 1) := by decide +kernel
theorem dX9_lifts_17 : decode cX9_lifts 17 = .ok (.iload_n 1, 1) := by decide +kernel
theorem dX9_lifts_18 : decode cX9_lifts 18 = .ok (.iadd, 1) := by decide +kernel
theorem dX9_lifts_19 : decode cX9_lifts 19 = .ok (.iaload, 1) := by decide +kernel
theorem dX9_lifts_20 : decode cX9_lifts 20 = .ok (.iastore, 1) := by decide +kernel
theorem dX9_lifts_21 : decode cX9_lifts 21 = .ok (.iinc 1 1, 3) := by decide +kernel
theorem dX9_lifts_24 : decode cX9_lifts 24 = .ok (.goto (-22), 3) := by decide +kernel
theorem dX9_lifts_27 : decode cX9_lifts 27 = .ok (.return_, 1) := by decide +kernel
theorem dX9_liftsAll_0 : decode cX9_liftsAll 0 = .ok (.aload_n 0, 1) := by decide +kernel
theorem dX9_liftsAll_1 : decode cX9_liftsAll 1 = .ok (.getfield 13, 3) := by decide +kernel
theorem dX9_liftsAll_4 : decode cX9_liftsAll 4 = .ok (.invokestatic 73, 3) := by decide +kernel
theorem dX9_liftsAll_7 : decode cX9_liftsAll 7 = .ok (.aload_n 0, 1) := by decide +kernel
theorem dX9_liftsAll_8 : decode cX9_liftsAll 8 = .ok (.getfield 16, 3) := by decide +kernel
theorem dX9_liftsAll_11 : decode cX9_liftsAll 11 = .ok (.invokestatic 73, 3) := by decide +kernel
theorem dX9_liftsAll_14 : decode cX9_liftsAll 14 = .ok (.aload_n 0, 1) := by decide +kernel
theorem dX9_liftsAll_15 : decode cX9_liftsAll 15 = .ok (.getfield 19, 3) := by decide +kernel
theorem dX9_liftsAll_18 : decode cX9_liftsAll 18 = .ok (.invokestatic 73, 3) := by decide +kernel
theorem dX9_liftsAll_21 : decode cX9_liftsAll 21 = .ok (.aload_n 0, 1) := by decide +kernel
theorem dX9_liftsAll_22 : decode cX9_liftsAll 22 = .ok (.getfield 22, 3) := by decide +kernel
theorem dX9_liftsAll_25 : decode cX9_liftsAll 25 = .ok (.invokestatic 73, 3) := by decide +kernel
theorem dX9_liftsAll_28 : decode cX9_liftsAll 28 = .ok (.aload_n 0, 1) := by decide +kernel
theorem dX9_liftsAll_29 : decode cX9_liftsAll 29 = .ok (.getfield 25, 3) := by decide +kernel
theorem dX9_liftsAll_32 : decode cX9_liftsAll 32 = .ok (.invokestatic 73, 3) := by decide +kernel
theorem dX9_liftsAll_35 : decode cX9_liftsAll 35 = .ok (.aload_n 0, 1) := by decide +kernel
theorem dX9_liftsAll_36 : decode cX9_liftsAll 36 = .ok (.getfield 28, 3) := by decide +kernel
theorem dX9_liftsAll_39 : decode cX9_liftsAll 39 = .ok (.invokestatic 73, 3) := by decide +kernel
theorem dX9_liftsAll_42 : decode cX9_liftsAll 42 = .ok (.aload_n 0, 1) := by decide +kernel
theorem dX9_liftsAll_43 : decode cX9_liftsAll 43 = .ok (.getfield 31, 3) := by decide +kernel
theorem dX9_liftsAll_46 : decode cX9_liftsAll 46 = .ok (.invokestatic 73, 3) := by decide +kernel
theorem dX9_liftsAll_49 : decode cX9_liftsAll 49 = .ok (.return_, 1) := by decide +kernel
theorem dX9_passesAlways_0 : decode cX9_passesAlways 0 = .ok (.iload_n 1, 1) := by decide +kernel
theorem dX9_passesAlways_1 : decode cX9_passesAlways 1 = .ok (.iconst 1, 1) := by decide +kernel
theorem dX9_passesAlways_2 : decode cX9_passesAlways 2 = .ok (.if_icmp .eq 8, 3) := by decide +kernel
theorem dX9_passesAlways_5 : decode cX9_passesAlways 5 = .ok (.iload_n 1, 1) := by decide +kernel
theorem dX9_passesAlways_6 : decode cX9_passesAlways 6 = .ok (.iconst 2, 1) := by decide +kernel
theorem dX9_passesAlways_7 : decode cX9_passesAlways 7 = .ok (.if_icmp .ne 7, 3) := by decide +kernel
theorem dX9_passesAlways_10 : decode cX9_passesAlways 10 = .ok (.iconst 1, 1) := by decide +kernel
theorem dX9_passesAlways_11 : decode cX9_passesAlways 11 = .ok (.goto 4, 3) := by decide +kernel
theorem dX9_passesAlways_14 : decode cX9_passesAlways 14 = .ok (.iconst 0, 1) := by decide +kernel
theorem dX9_passesAlways_15 : decode cX9_passesAlways 15 = .ok (.istore_n 2, 1) := by decide +kernel
theorem dX9_passesAlways_16 : decode cX9_passesAlways 16 = .ok (.iload_n 2, 1) := by decide +kernel
theorem dX9_passesAlways_17 : decode cX9_passesAlways 17 = .ok (.ifCond .ne 17, 3) := by decide +kernel
theorem dX9_passesAlways_20 : decode cX9_passesAlways 20 = .ok (.iload_n 1, 1) := by decide +kernel
theorem dX9_passesAlways_21 : decode cX9_passesAlways 21 = .ok (.iconst 3, 1) := by decide +kernel
theorem dX9_passesAlways_22 : decode cX9_passesAlways 22 = .ok (.if_icmp .ne 16, 3) := by decide +kernel
theorem dX9_passesAlways_25 : decode cX9_passesAlways 25 = .ok (.iload_n 0, 1) := by decide +kernel
theorem dX9_passesAlways_26 : decode cX9_passesAlways 26 = .ok (.ifCond .eq 8, 3) := by decide +kernel
theorem dX9_passesAlways_29 : decode cX9_passesAlways 29 = .ok (.iload_n 0, 1) := by decide +kernel
theorem dX9_passesAlways_30 : decode cX9_passesAlways 30 = .ok (.iconst 3, 1) := by decide +kernel
theorem dX9_passesAlways_31 : decode cX9_passesAlways 31 = .ok (.if_icmp .ne 7, 3) := by decide +kernel
theorem dX9_passesAlways_34 : decode cX9_passesAlways 34 = .ok (.iconst 1, 1) := by decide +kernel
theorem dX9_passesAlways_35 : decode cX9_passesAlways 35 = .ok (.goto 4, 3) := by decide +kernel
theorem dX9_passesAlways_38 : decode cX9_passesAlways 38 = .ok (.iconst 0, 1) := by decide +kernel
theorem dX9_passesAlways_39 : decode cX9_passesAlways 39 = .ok (.ireturn, 1) := by decide +kernel
theorem dX9_clearDraft_0 : decode cX9_clearDraft 0 = .ok (.iconst 0, 1) := by decide +kernel
theorem dX9_clearDraft_1 : decode cX9_clearDraft 1 = .ok (.istore_n 1, 1) := by decide +kernel
theorem dX9_clearDraft_2 : decode cX9_clearDraft 2 = .ok (.iload_n 1, 1) := by decide +kernel
theorem dX9_clearDraft_3 : decode cX9_clearDraft 3 = .ok (.bipush 8, 2) := by decide +kernel
theorem dX9_clearDraft_5 : decode cX9_clearDraft 5 = .ok (.if_icmp .ge 29, 3) := by decide +kernel
theorem dX9_clearDraft_8 : decode cX9_clearDraft 8 = .ok (.aload_n 0, 1) := by decide +kernel
theorem dX9_clearDraft_9 : decode cX9_clearDraft 9 = .ok (.getfield 13, 3) := by decide +kernel
theorem dX9_clearDraft_12 : decode cX9_clearDraft 12 = .ok (.bipush 8, 2) := by decide +kernel
theorem dX9_clearDraft_14 : decode cX9_clearDraft 14 = .ok (.iload_n 1, 1) := by decide +kernel
theorem dX9_clearDraft_15 : decode cX9_clearDraft 15 = .ok (.iadd, 1) := by decide +kernel
theorem dX9_clearDraft_16 : decode cX9_clearDraft 16 = .ok (.iconst 4, 1) := by decide +kernel
theorem dX9_clearDraft_17 : decode cX9_clearDraft 17 = .ok (.iastore, 1) := by decide +kernel
theorem dX9_clearDraft_18 : decode cX9_clearDraft 18 = .ok (.aload_n 0, 1) := by decide +kernel
theorem dX9_clearDraft_19 : decode cX9_clearDraft 19 = .ok (.getfield 16, 3) := by decide +kernel
theorem dX9_clearDraft_22 : decode cX9_clearDraft 22 = .ok (.bipush 8, 2) := by decide +kernel
theorem dX9_clearDraft_24 : decode cX9_clearDraft 24 = .ok (.iload_n 1, 1) := by decide +kernel
theorem dX9_clearDraft_25 : decode cX9_clearDraft 25 = .ok (.iadd, 1) := by decide +kernel
theorem dX9_clearDraft_26 : decode cX9_clearDraft 26 = .ok (.iconst 2, 1) := by decide +kernel
theorem dX9_clearDraft_27 : decode cX9_clearDraft 27 = .ok (.iastore, 1) := by decide +kernel
theorem dX9_clearDraft_28 : decode cX9_clearDraft 28 = .ok (.iinc 1 1, 3) := by decide +kernel
theorem dX9_clearDraft_31 : decode cX9_clearDraft 31 = .ok (.goto (-29), 3) := by decide +kernel
theorem dX9_clearDraft_34 : decode cX9_clearDraft 34 = .ok (.iconst 0, 1) := by decide +kernel
theorem dX9_clearDraft_35 : decode cX9_clearDraft 35 = .ok (.istore_n 1, 1) := by decide +kernel
theorem dX9_clearDraft_36 : decode cX9_clearDraft 36 = .ok (.iload_n 1, 1) := by decide +kernel
theorem dX9_clearDraft_37 : decode cX9_clearDraft 37 = .ok (.bipush 16, 2) := by decide +kernel
theorem dX9_clearDraft_39 : decode cX9_clearDraft 39 = .ok (.if_icmp .ge 35, 3) := by decide +kernel
theorem dX9_clearDraft_42 : decode cX9_clearDraft 42 = .ok (.aload_n 0, 1) := by decide +kernel
theorem dX9_clearDraft_43 : decode cX9_clearDraft 43 = .ok (.getfield 19, 3) := by decide +kernel
theorem dX9_clearDraft_46 : decode cX9_clearDraft 46 = .ok (.bipush 16, 2) := by decide +kernel
theorem dX9_clearDraft_48 : decode cX9_clearDraft 48 = .ok (.iload_n 1, 1) := by decide +kernel
theorem dX9_clearDraft_49 : decode cX9_clearDraft 49 = .ok (.iadd, 1) := by decide +kernel
theorem dX9_clearDraft_50 : decode cX9_clearDraft 50 = .ok (.iload_n 1, 1) := by decide +kernel
theorem dX9_clearDraft_51 : decode cX9_clearDraft 51 = .ok (.iconst 4, 1) := by decide +kernel
theorem dX9_clearDraft_52 : decode cX9_clearDraft 52 = .ok (.idiv, 1) := by decide +kernel
theorem dX9_clearDraft_53 : decode cX9_clearDraft 53 = .ok (.iload_n 1, 1) := by decide +kernel
theorem dX9_clearDraft_54 : decode cX9_clearDraft 54 = .ok (.iconst 4, 1) := by decide +kernel
theorem dX9_clearDraft_55 : decode cX9_clearDraft 55 = .ok (.irem, 1) := by decide +kernel
theorem dX9_clearDraft_56 : decode cX9_clearDraft 56 = .ok (.invokestatic 77, 3) := by decide +kernel
theorem dX9_clearDraft_59 : decode cX9_clearDraft 59 = .ok (.ifCond .eq 7, 3) := by decide +kernel
theorem dX9_clearDraft_62 : decode cX9_clearDraft 62 = .ok (.iconst 1, 1) := by decide +kernel
theorem dX9_clearDraft_63 : decode cX9_clearDraft 63 = .ok (.goto 4, 3) := by decide +kernel
theorem dX9_clearDraft_66 : decode cX9_clearDraft 66 = .ok (.iconst 0, 1) := by decide +kernel
theorem dX9_clearDraft_67 : decode cX9_clearDraft 67 = .ok (.iastore, 1) := by decide +kernel
theorem dX9_clearDraft_68 : decode cX9_clearDraft 68 = .ok (.iinc 1 1, 3) := by decide +kernel
theorem dX9_clearDraft_71 : decode cX9_clearDraft 71 = .ok (.goto (-35), 3) := by decide +kernel
theorem dX9_clearDraft_74 : decode cX9_clearDraft 74 = .ok (.iconst 0, 1) := by decide +kernel
theorem dX9_clearDraft_75 : decode cX9_clearDraft 75 = .ok (.istore_n 1, 1) := by decide +kernel
theorem dX9_clearDraft_76 : decode cX9_clearDraft 76 = .ok (.iload_n 1, 1) := by decide +kernel
theorem dX9_clearDraft_77 : decode cX9_clearDraft 77 = .ok (.bipush 32, 2) := by decide +kernel
theorem dX9_clearDraft_79 : decode cX9_clearDraft 79 = .ok (.if_icmp .ge 19, 3) := by decide +kernel
theorem dX9_clearDraft_82 : decode cX9_clearDraft 82 = .ok (.aload_n 0, 1) := by decide +kernel
theorem dX9_clearDraft_83 : decode cX9_clearDraft 83 = .ok (.getfield 22, 3) := by decide +kernel
theorem dX9_clearDraft_86 : decode cX9_clearDraft 86 = .ok (.bipush 32, 2) := by decide +kernel
theorem dX9_clearDraft_88 : decode cX9_clearDraft 88 = .ok (.iload_n 1, 1) := by decide +kernel
theorem dX9_clearDraft_89 : decode cX9_clearDraft 89 = .ok (.iadd, 1) := by decide +kernel
theorem dX9_clearDraft_90 : decode cX9_clearDraft 90 = .ok (.iconst 0, 1) := by decide +kernel
theorem dX9_clearDraft_91 : decode cX9_clearDraft 91 = .ok (.iastore, 1) := by decide +kernel
theorem dX9_clearDraft_92 : decode cX9_clearDraft 92 = .ok (.iinc 1 1, 3) := by decide +kernel
theorem dX9_clearDraft_95 : decode cX9_clearDraft 95 = .ok (.goto (-19), 3) := by decide +kernel
theorem dX9_clearDraft_98 : decode cX9_clearDraft 98 = .ok (.aload_n 0, 1) := by decide +kernel
theorem dX9_clearDraft_99 : decode cX9_clearDraft 99 = .ok (.getfield 25, 3) := by decide +kernel
theorem dX9_clearDraft_102 : decode cX9_clearDraft 102 = .ok (.iconst 2, 1) := by decide +kernel
theorem dX9_clearDraft_103 : decode cX9_clearDraft 103 = .ok (.iconst 2, 1) := by decide +kernel
theorem dX9_clearDraft_104 : decode cX9_clearDraft 104 = .ok (.iastore, 1) := by decide +kernel
theorem dX9_clearDraft_105 : decode cX9_clearDraft 105 = .ok (.aload_n 0, 1) := by decide +kernel
theorem dX9_clearDraft_106 : decode cX9_clearDraft 106 = .ok (.getfield 25, 3) := by decide +kernel
theorem dX9_clearDraft_109 : decode cX9_clearDraft 109 = .ok (.iconst 3, 1) := by decide +kernel
theorem dX9_clearDraft_110 : decode cX9_clearDraft 110 = .ok (.iconst 4, 1) := by decide +kernel
theorem dX9_clearDraft_111 : decode cX9_clearDraft 111 = .ok (.iastore, 1) := by decide +kernel
theorem dX9_clearDraft_112 : decode cX9_clearDraft 112 = .ok (.aload_n 0, 1) := by decide +kernel
theorem dX9_clearDraft_113 : decode cX9_clearDraft 113 = .ok (.iconst 0, 1) := by decide +kernel
theorem dX9_clearDraft_114 : decode cX9_clearDraft 114 = .ok (.putfield 81, 3) := by decide +kernel
theorem dX9_clearDraft_117 : decode cX9_clearDraft 117 = .ok (.aload_n 0, 1) := by decide +kernel
theorem dX9_clearDraft_118 : decode cX9_clearDraft 118 = .ok (.getfield 81, 3) := by decide +kernel
theorem dX9_clearDraft_121 : decode cX9_clearDraft 121 = .ok (.iconst 2, 1) := by decide +kernel
theorem dX9_clearDraft_122 : decode cX9_clearDraft 122 = .ok (.if_icmp .ge 35, 3) := by decide +kernel
theorem dX9_clearDraft_125 : decode cX9_clearDraft 125 = .ok (.aload_n 0, 1) := by decide +kernel
theorem dX9_clearDraft_126 : decode cX9_clearDraft 126 = .ok (.getfield 28, 3) := by decide +kernel
theorem dX9_clearDraft_129 : decode cX9_clearDraft 129 = .ok (.iconst 2, 1) := by decide +kernel
theorem dX9_clearDraft_130 : decode cX9_clearDraft 130 = .ok (.aload_n 0, 1) := by decide +kernel
theorem dX9_clearDraft_131 : decode cX9_clearDraft 131 = .ok (.getfield 81, 3) := by decide +kernel
theorem dX9_clearDraft_134 : decode cX9_clearDraft 134 = .ok (.iadd, 1) := by decide +kernel
theorem dX9_clearDraft_135 : decode cX9_clearDraft 135 = .ok (.iconst 0, 1) := by decide +kernel
theorem dX9_clearDraft_136 : decode cX9_clearDraft 136 = .ok (.iastore, 1) := by decide +kernel
theorem dX9_clearDraft_137 : decode cX9_clearDraft 137 = .ok (.aload_n 0, 1) := by decide +kernel
theorem dX9_clearDraft_138 : decode cX9_clearDraft 138 = .ok (.bipush 101, 2) := by decide +kernel
theorem dX9_clearDraft_140 : decode cX9_clearDraft 140 = .ok (.invokevirtual 84, 3) := by decide +kernel
theorem dX9_clearDraft_143 : decode cX9_clearDraft 143 = .ok (.pop, 1) := by decide +kernel
theorem dX9_clearDraft_144 : decode cX9_clearDraft 144 = .ok (.aload_n 0, 1) := by decide +kernel
theorem dX9_clearDraft_145 : decode cX9_clearDraft 145 = .ok (.dup, 1) := by decide +kernel
theorem dX9_clearDraft_146 : decode cX9_clearDraft 146 = .ok (.getfield 81, 3) := by decide +kernel
theorem dX9_clearDraft_149 : decode cX9_clearDraft 149 = .ok (.iconst 1, 1) := by decide +kernel
theorem dX9_clearDraft_150 : decode cX9_clearDraft 150 = .ok (.iadd, 1) := by decide +kernel
theorem dX9_clearDraft_151 : decode cX9_clearDraft 151 = .ok (.putfield 81, 3) := by decide +kernel
theorem dX9_clearDraft_154 : decode cX9_clearDraft 154 = .ok (.goto (-37), 3) := by decide +kernel
theorem dX9_clearDraft_157 : decode cX9_clearDraft 157 = .ok (.return_, 1) := by decide +kernel
theorem dX9_append_0 : decode cX9_append 0 = .ok (.aload_n 0, 1) := by decide +kernel
theorem dX9_append_1 : decode cX9_append 1 = .ok (.iconst 0, 1) := by decide +kernel
theorem dX9_append_2 : decode cX9_append 2 = .ok (.putfield 70, 3) := by decide +kernel
theorem dX9_append_5 : decode cX9_append 5 = .ok (.aload_n 0, 1) := by decide +kernel
theorem dX9_append_6 : decode cX9_append 6 = .ok (.getfield 88, 3) := by decide +kernel
theorem dX9_append_9 : decode cX9_append 9 = .ok (.bipush 20, 2) := by decide +kernel
theorem dX9_append_11 : decode cX9_append 11 = .ok (.iadd, 1) := by decide +kernel
theorem dX9_append_12 : decode cX9_append 12 = .ok (.sipush 600, 3) := by decide +kernel
theorem dX9_append_15 : decode cX9_append 15 = .ok (.if_icmp .le 5, 3) := by decide +kernel
theorem dX9_append_18 : decode cX9_append 18 = .ok (.iconst (-1), 1) := by decide +kernel
theorem dX9_append_19 : decode cX9_append 19 = .ok (.ireturn, 1) := by decide +kernel
theorem dX9_append_20 : decode cX9_append 20 = .ok (.aload_n 0, 1) := by decide +kernel
theorem dX9_append_21 : decode cX9_append 21 = .ok (.iload_n 1, 1) := by decide +kernel
theorem dX9_append_22 : decode cX9_append 22 = .ok (.invokevirtual 91, 3) := by decide +kernel
theorem dX9_append_25 : decode cX9_append 25 = .ok (.aload_n 0, 1) := by decide +kernel
theorem dX9_append_26 : decode cX9_append 26 = .ok (.iload_n 2, 1) := by decide +kernel
theorem dX9_append_27 : decode cX9_append 27 = .ok (.invokevirtual 91, 3) := by decide +kernel
theorem dX9_append_30 : decode cX9_append 30 = .ok (.aload_n 0, 1) := by decide +kernel
theorem dX9_append_31 : decode cX9_append 31 = .ok (.iload_n 3, 1) := by decide +kernel
theorem dX9_append_32 : decode cX9_append 32 = .ok (.invokevirtual 91, 3) := by decide +kernel
theorem dX9_append_35 : decode cX9_append 35 = .ok (.aload_n 0, 1) := by decide +kernel
theorem dX9_append_36 : decode cX9_append 36 = .ok (.iload 4, 2) := by decide +kernel
theorem dX9_append_38 : decode cX9_append 38 = .ok (.invokevirtual 91, 3) := by decide +kernel
theorem dX9_append_41 : decode cX9_append 41 = .ok (.aload_n 0, 1) := by decide +kernel
theorem dX9_append_42 : decode cX9_append 42 = .ok (.iload 5, 2) := by decide +kernel
theorem dX9_append_44 : decode cX9_append 44 = .ok (.invokevirtual 91, 3) := by decide +kernel
theorem dX9_append_47 : decode cX9_append 47 = .ok (.aload_n 0, 1) := by decide +kernel
theorem dX9_append_48 : decode cX9_append 48 = .ok (.getfield 88, 3) := by decide +kernel
theorem dX9_append_51 : decode cX9_append 51 = .ok (.ireturn, 1) := by decide +kernel
theorem dX9_bytesOf_0 : decode cX9_bytesOf 0 = .ok (.bipush 24, 2) := by decide +kernel
theorem dX9_bytesOf_2 : decode cX9_bytesOf 2 = .ok (.istore_n 2, 1) := by decide +kernel
theorem dX9_bytesOf_3 : decode cX9_bytesOf 3 = .ok (.iload_n 2, 1) := by decide +kernel
theorem dX9_bytesOf_4 : decode cX9_bytesOf 4 = .ok (.ifCond .lt 32, 3) := by decide +kernel
theorem dX9_bytesOf_7 : decode cX9_bytesOf 7 = .ok (.aload_n 0, 1) := by decide +kernel
theorem dX9_bytesOf_8 : decode cX9_bytesOf 8 = .ok (.getfield 34, 3) := by decide +kernel
theorem dX9_bytesOf_11 : decode cX9_bytesOf 11 = .ok (.aload_n 0, 1) := by decide +kernel
theorem dX9_bytesOf_12 : decode cX9_bytesOf 12 = .ok (.getfield 88, 3) := by decide +kernel
theorem dX9_bytesOf_15 : decode cX9_bytesOf 15 = .ok (.iload_n 1, 1) := by decide +kernel
theorem dX9_bytesOf_16 : decode cX9_bytesOf 16 = .ok (.iload_n 2, 1) := by decide +kernel
theorem dX9_bytesOf_17 : decode cX9_bytesOf 17 = .ok (.ishr, 1) := by decide +kernel
theorem dX9_bytesOf_18 : decode cX9_bytesOf 18 = .ok (.i2b, 1) := by decide +kernel
theorem dX9_bytesOf_19 : decode cX9_bytesOf 19 = .ok (.bastore, 1) := by decide +kernel
theorem dX9_bytesOf_20 : decode cX9_bytesOf 20 = .ok (.aload_n 0, 1) := by decide +kernel
theorem dX9_bytesOf_21 : decode cX9_bytesOf 21 = .ok (.dup, 1) := by decide +kernel
theorem dX9_bytesOf_22 : decode cX9_bytesOf 22 = .ok (.getfield 88, 3) := by decide +kernel
theorem dX9_bytesOf_25 : decode cX9_bytesOf 25 = .ok (.iconst 1, 1) := by decide +kernel
theorem dX9_bytesOf_26 : decode cX9_bytesOf 26 = .ok (.iadd, 1) := by decide +kernel
theorem dX9_bytesOf_27 : decode cX9_bytesOf 27 = .ok (.putfield 88, 3) := by decide +kernel
theorem dX9_bytesOf_30 : decode cX9_bytesOf 30 = .ok (.iinc 2 (-8), 3) := by decide +kernel
theorem dX9_bytesOf_33 : decode cX9_bytesOf 33 = .ok (.goto (-30), 3) := by decide +kernel
theorem dX9_bytesOf_36 : decode cX9_bytesOf 36 = .ok (.return_, 1) := by decide +kernel
theorem dX9_byteAt_0 : decode cX9_byteAt 0 = .ok (.iload_n 1, 1) := by decide +kernel
theorem dX9_byteAt_1 : decode cX9_byteAt 1 = .ok (.aload_n 0, 1) := by decide +kernel
theorem dX9_byteAt_2 : decode cX9_byteAt 2 = .ok (.getfield 95, 3) := by decide +kernel
theorem dX9_byteAt_5 : decode cX9_byteAt 5 = .ok (.if_icmp .ge 16, 3) := by decide +kernel
theorem dX9_byteAt_8 : decode cX9_byteAt 8 = .ok (.aload_n 0, 1) := by decide +kernel
theorem dX9_byteAt_9 : decode cX9_byteAt 9 = .ok (.getfield 34, 3) := by decide +kernel
theorem dX9_byteAt_12 : decode cX9_byteAt 12 = .ok (.iload_n 1, 1) := by decide +kernel
theorem dX9_byteAt_13 : decode cX9_byteAt 13 = .ok (.baload, 1) := by decide +kernel
theorem dX9_byteAt_14 : decode cX9_byteAt 14 = .ok (.sipush 255, 3) := by decide +kernel
theorem dX9_byteAt_17 : decode cX9_byteAt 17 = .ok (.iand, 1) := by decide +kernel
theorem dX9_byteAt_18 : decode cX9_byteAt 18 = .ok (.goto 4, 3) := by decide +kernel
theorem dX9_byteAt_21 : decode cX9_byteAt 21 = .ok (.iconst (-1), 1) := by decide +kernel
theorem dX9_byteAt_22 : decode cX9_byteAt 22 = .ok (.ireturn, 1) := by decide +kernel
theorem dX9_isSign_0 : decode cX9_isSign 0 = .ok (.iload_n 0, 1) := by decide +kernel
theorem dX9_isSign_1 : decode cX9_isSign 1 = .ok (.bipush 59, 2) := by decide +kernel
theorem dX9_isSign_3 : decode cX9_isSign 3 = .ok (.if_icmp .eq 45, 3) := by decide +kernel
theorem dX9_isSign_6 : decode cX9_isSign 6 = .ok (.iload_n 0, 1) := by decide +kernel
theorem dX9_isSign_7 : decode cX9_isSign 7 = .ok (.bipush 40, 2) := by decide +kernel
theorem dX9_isSign_9 : decode cX9_isSign 9 = .ok (.if_icmp .eq 39, 3) := by decide +kernel
theorem dX9_isSign_12 : decode cX9_isSign 12 = .ok (.iload_n 0, 1) := by decide +kernel
theorem dX9_isSign_13 : decode cX9_isSign 13 = .ok (.bipush 41, 2) := by decide +kernel
theorem dX9_isSign_15 : decode cX9_isSign 15 = .ok (.if_icmp .eq 33, 3) := by decide +kernel
theorem dX9_isSign_18 : decode cX9_isSign 18 = .ok (.iload_n 0, 1) := by decide +kernel
theorem dX9_isSign_19 : decode cX9_isSign 19 = .ok (.bipush 43, 2) := by decide +kernel
theorem dX9_isSign_21 : decode cX9_isSign 21 = .ok (.if_icmp .eq 27, 3) := by decide +kernel
theorem dX9_isSign_24 : decode cX9_isSign 24 = .ok (.iload_n 0, 1) := by decide +kernel
theorem dX9_isSign_25 : decode cX9_isSign 25 = .ok (.bipush 45, 2) := by decide +kernel
theorem dX9_isSign_27 : decode cX9_isSign 27 = .ok (.if_icmp .eq 21, 3) := by decide +kernel
theorem dX9_isSign_30 : decode cX9_isSign 30 = .ok (.iload_n 0, 1) := by decide +kernel
theorem dX9_isSign_31 : decode cX9_isSign 31 = .ok (.bipush 42, 2) := by decide +kernel
theorem dX9_isSign_33 : decode cX9_isSign 33 = .ok (.if_icmp .eq 15, 3) := by decide +kernel
theorem dX9_isSign_36 : decode cX9_isSign 36 = .ok (.iload_n 0, 1) := by decide +kernel
theorem dX9_isSign_37 : decode cX9_isSign 37 = .ok (.bipush 47, 2) := by decide +kernel
theorem dX9_isSign_39 : decode cX9_isSign 39 = .ok (.if_icmp .eq 9, 3) := by decide +kernel
theorem dX9_isSign_42 : decode cX9_isSign 42 = .ok (.iload_n 0, 1) := by decide +kernel
theorem dX9_isSign_43 : decode cX9_isSign 43 = .ok (.bipush 37, 2) := by decide +kernel
theorem dX9_isSign_45 : decode cX9_isSign 45 = .ok (.if_icmp .ne 7, 3) := by decide +kernel
theorem dX9_isSign_48 : decode cX9_isSign 48 = .ok (.iconst 1, 1) := by decide +kernel
theorem dX9_isSign_49 : decode cX9_isSign 49 = .ok (.goto 4, 3) := by decide +kernel
theorem dX9_isSign_52 : decode cX9_isSign 52 = .ok (.iconst 0, 1) := by decide +kernel
theorem dX9_isSign_53 : decode cX9_isSign 53 = .ok (.ireturn, 1) := by decide +kernel
theorem dX9_advance_0 : decode cX9_advance 0 = .ok (.aload_n 0, 1) := by decide +kernel
theorem dX9_advance_1 : decode cX9_advance 1 = .ok (.aload_n 0, 1) := by decide +kernel
theorem dX9_advance_2 : decode cX9_advance 2 = .ok (.getfield 98, 3) := by decide +kernel
theorem dX9_advance_5 : decode cX9_advance 5 = .ok (.invokevirtual 101, 3) := by decide +kernel
theorem dX9_advance_8 : decode cX9_advance 8 = .ok (.bipush 32, 2) := by decide +kernel
theorem dX9_advance_10 : decode cX9_advance 10 = .ok (.if_icmp .eq 16, 3) := by decide +kernel
theorem dX9_advance_13 : decode cX9_advance 13 = .ok (.aload_n 0, 1) := by decide +kernel
theorem dX9_advance_14 : decode cX9_advance 14 = .ok (.aload_n 0, 1) := by decide +kernel
theorem dX9_advance_15 : decode cX9_advance 15 = .ok (.getfield 98, 3) := by decide +kernel
theorem dX9_advance_18 : decode cX9_advance 18 = .ok (.invokevirtual 101, 3) := by decide +kernel
theorem dX9_advance_21 : decode cX9_advance 21 = .ok (.bipush 10, 2) := by decide +kernel
theorem dX9_advance_23 : decode cX9_advance 23 = .ok (.if_icmp .ne 16, 3) := by decide +kernel
theorem dX9_advance_26 : decode cX9_advance 26 = .ok (.aload_n 0, 1) := by decide +kernel
theorem dX9_advance_27 : decode cX9_advance 27 = .ok (.dup, 1) := by decide +kernel
theorem dX9_advance_28 : decode cX9_advance 28 = .ok (.getfield 98, 3) := by decide +kernel
theorem dX9_advance_31 : decode cX9_advance 31 = .ok (.iconst 1, 1) := by decide +kernel
theorem dX9_advance_32 : decode cX9_advance 32 = .ok (.iadd, 1) := by decide +kernel
theorem dX9_advance_33 : decode cX9_advance 33 = .ok (.putfield 98, 3) := by decide +kernel
theorem dX9_advance_36 : decode cX9_advance 36 = .ok (.goto (-36), 3) := by decide +kernel
theorem dX9_advance_39 : decode cX9_advance 39 = .ok (.aload_n 0, 1) := by decide +kernel
theorem dX9_advance_40 : decode cX9_advance 40 = .ok (.aload_n 0, 1) := by decide +kernel
theorem dX9_advance_41 : decode cX9_advance 41 = .ok (.getfield 98, 3) := by decide +kernel
theorem dX9_advance_44 : decode cX9_advance 44 = .ok (.putfield 105, 3) := by decide +kernel
theorem dX9_advance_47 : decode cX9_advance 47 = .ok (.aload_n 0, 1) := by decide +kernel
theorem dX9_advance_48 : decode cX9_advance 48 = .ok (.iconst 0, 1) := by decide +kernel
theorem dX9_advance_49 : decode cX9_advance 49 = .ok (.putfield 108, 3) := by decide +kernel
theorem dX9_advance_52 : decode cX9_advance 52 = .ok (.aload_n 0, 1) := by decide +kernel
theorem dX9_advance_53 : decode cX9_advance 53 = .ok (.aload_n 0, 1) := by decide +kernel
theorem dX9_advance_54 : decode cX9_advance 54 = .ok (.getfield 98, 3) := by decide +kernel
theorem dX9_advance_57 : decode cX9_advance 57 = .ok (.invokevirtual 101, 3) := by decide +kernel
theorem dX9_advance_60 : decode cX9_advance 60 = .ok (.istore_n 1, 1) := by decide +kernel
theorem dX9_advance_61 : decode cX9_advance 61 = .ok (.iload_n 1, 1) := by decide +kernel
theorem dX9_advance_62 : decode cX9_advance 62 = .ok (.iconst (-1), 1) := by decide +kernel
theorem dX9_advance_63 : decode cX9_advance 63 = .ok (.if_icmp .ne 11, 3) := by decide +kernel
theorem dX9_advance_66 : decode cX9_advance 66 = .ok (.aload_n 0, 1) := by decide +kernel
theorem dX9_advance_67 : decode cX9_advance 67 = .ok (.iconst 0, 1) := by decide +kernel
theorem dX9_advance_68 : decode cX9_advance 68 = .ok (.putfield 111, 3) := by decide +kernel
theorem dX9_advance_71 : decode cX9_advance 71 = .ok (.goto 212, 3) := by decide +kernel
theorem dX9_advance_74 : decode cX9_advance 74 = .ok (.iload_n 1, 1) := by decide +kernel
theorem dX9_advance_75 : decode cX9_advance 75 = .ok (.bipush 97, 2) := by decide +kernel
theorem dX9_advance_77 : decode cX9_advance 77 = .ok (.bipush 122, 2) := by decide +kernel
theorem dX9_advance_79 : decode cX9_advance 79 = .ok (.invokestatic 114, 3) := by decide +kernel
theorem dX9_advance_82 : decode cX9_advance 82 = .ok (.ifCond .eq 60, 3) := by decide +kernel
theorem dX9_advance_85 : decode cX9_advance 85 = .ok (.aload_n 0, 1) := by decide +kernel
theorem dX9_advance_86 : decode cX9_advance 86 = .ok (.aload_n 0, 1) := by decide +kernel
theorem dX9_advance_87 : decode cX9_advance 87 = .ok (.getfield 98, 3) := by decide +kernel
theorem dX9_advance_90 : decode cX9_advance 90 = .ok (.invokevirtual 101, 3) := by decide +kernel
theorem dX9_advance_93 : decode cX9_advance 93 = .ok (.bipush 97, 2) := by decide +kernel
theorem dX9_advance_95 : decode cX9_advance 95 = .ok (.bipush 122, 2) := by decide +kernel
theorem dX9_advance_97 : decode cX9_advance 97 = .ok (.invokestatic 114, 3) := by decide +kernel
theorem dX9_advance_100 : decode cX9_advance 100 = .ok (.ifCond .eq 16, 3) := by decide +kernel
theorem dX9_advance_103 : decode cX9_advance 103 = .ok (.aload_n 0, 1) := by decide +kernel
theorem dX9_advance_104 : decode cX9_advance 104 = .ok (.dup, 1) := by decide +kernel
theorem dX9_advance_105 : decode cX9_advance 105 = .ok (.getfield 98, 3) := by decide +kernel
theorem dX9_advance_108 : decode cX9_advance 108 = .ok (.iconst 1, 1) := by decide +kernel
theorem dX9_advance_109 : decode cX9_advance 109 = .ok (.iadd, 1) := by decide +kernel
theorem dX9_advance_110 : decode cX9_advance 110 = .ok (.putfield 98, 3) := by decide +kernel
theorem dX9_advance_113 : decode cX9_advance 113 = .ok (.goto (-28), 3) := by decide +kernel
theorem dX9_advance_116 : decode cX9_advance 116 = .ok (.aload_n 0, 1) := by decide +kernel
theorem dX9_advance_117 : decode cX9_advance 117 = .ok (.aload_n 0, 1) := by decide +kernel
theorem dX9_advance_118 : decode cX9_advance 118 = .ok (.getfield 98, 3) := by decide +kernel
theorem dX9_advance_121 : decode cX9_advance 121 = .ok (.aload_n 0, 1) := by decide +kernel
theorem dX9_advance_122 : decode cX9_advance 122 = .ok (.getfield 105, 3) := by decide +kernel
theorem dX9_advance_125 : decode cX9_advance 125 = .ok (.isub, 1) := by decide +kernel
theorem dX9_advance_126 : decode cX9_advance 126 = .ok (.bipush 8, 2) := by decide +kernel
theorem dX9_advance_128 : decode cX9_advance 128 = .ok (.if_icmp .le 7, 3) := by decide +kernel
theorem dX9_advance_131 : decode cX9_advance 131 = .ok (.iconst 4, 1) := by decide +kernel
theorem dX9_advance_132 : decode cX9_advance 132 = .ok (.goto 4, 3) := by decide +kernel
theorem dX9_advance_135 : decode cX9_advance 135 = .ok (.iconst 1, 1) := by decide +kernel
theorem dX9_advance_136 : decode cX9_advance 136 = .ok (.putfield 111, 3) := by decide +kernel
theorem dX9_advance_139 : decode cX9_advance 139 = .ok (.goto 144, 3) := by decide +kernel
theorem dX9_advance_142 : decode cX9_advance 142 = .ok (.iload_n 1, 1) := by decide +kernel
theorem dX9_advance_143 : decode cX9_advance 143 = .ok (.bipush 48, 2) := by decide +kernel
theorem dX9_advance_145 : decode cX9_advance 145 = .ok (.bipush 57, 2) := by decide +kernel
theorem dX9_advance_147 : decode cX9_advance 147 = .ok (.invokestatic 114, 3) := by decide +kernel
theorem dX9_advance_150 : decode cX9_advance 150 = .ok (.ifCond .eq 102, 3) := by decide +kernel
theorem dX9_advance_153 : decode cX9_advance 153 = .ok (.aload_n 0, 1) := by decide +kernel
theorem dX9_advance_154 : decode cX9_advance 154 = .ok (.aload_n 0, 1) := by decide +kernel
theorem dX9_advance_155 : decode cX9_advance 155 = .ok (.getfield 98, 3) := by decide +kernel
theorem dX9_advance_158 : decode cX9_advance 158 = .ok (.invokevirtual 101, 3) := by decide +kernel
theorem dX9_advance_161 : decode cX9_advance 161 = .ok (.bipush 48, 2) := by decide +kernel
theorem dX9_advance_163 : decode cX9_advance 163 = .ok (.bipush 57, 2) := by decide +kernel
theorem dX9_advance_165 : decode cX9_advance 165 = .ok (.invokestatic 114, 3) := by decide +kernel
theorem dX9_advance_168 : decode cX9_advance 168 = .ok (.ifCond .eq 59, 3) := by decide +kernel
theorem dX9_advance_171 : decode cX9_advance 171 = .ok (.aload_n 0, 1) := by decide +kernel
theorem dX9_advance_172 : decode cX9_advance 172 = .ok (.aload_n 0, 1) := by decide +kernel
theorem dX9_advance_173 : decode cX9_advance 173 = .ok (.getfield 98, 3) := by decide +kernel
theorem dX9_advance_176 : decode cX9_advance 176 = .ok (.aload_n 0, 1) := by decide +kernel
theorem dX9_advance_177 : decode cX9_advance 177 = .ok (.getfield 105, 3) := by decide +kernel
theorem dX9_advance_180 : decode cX9_advance 180 = .ok (.isub, 1) := by decide +kernel
theorem dX9_advance_181 : decode cX9_advance 181 = .ok (.iconst 4, 1) := by decide +kernel
theorem dX9_advance_182 : decode cX9_advance 182 = .ok (.if_icmp .ge 25, 3) := by decide +kernel
theorem dX9_advance_185 : decode cX9_advance 185 = .ok (.bipush 10, 2) := by decide +kernel
theorem dX9_advance_187 : decode cX9_advance 187 = .ok (.aload_n 0, 1) := by decide +kernel
theorem dX9_advance_188 : decode cX9_advance 188 = .ok (.getfield 108, 3) := by decide +kernel
theorem dX9_advance_191 : decode cX9_advance 191 = .ok (.imul, 1) := by decide +kernel
theorem dX9_advance_192 : decode cX9_advance 192 = .ok (.aload_n 0, 1) := by decide +kernel
theorem dX9_advance_193 : decode cX9_advance 193 = .ok (.aload_n 0, 1) := by decide +kernel
theorem dX9_advance_194 : decode cX9_advance 194 = .ok (.getfield 98, 3) := by decide +kernel
theorem dX9_advance_197 : decode cX9_advance 197 = .ok (.invokevirtual 101, 3) := by decide +kernel
theorem dX9_advance_200 : decode cX9_advance 200 = .ok (.iadd, 1) := by decide +kernel
theorem dX9_advance_201 : decode cX9_advance 201 = .ok (.bipush 48, 2) := by decide +kernel
theorem dX9_advance_203 : decode cX9_advance 203 = .ok (.isub, 1) := by decide +kernel
theorem dX9_advance_204 : decode cX9_advance 204 = .ok (.goto 7, 3) := by decide +kernel
theorem dX9_advance_207 : decode cX9_advance 207 = .ok (.aload_n 0, 1) := by decide +kernel
theorem dX9_advance_208 : decode cX9_advance 208 = .ok (.getfield 108, 3) := by decide +kernel
theorem dX9_advance_211 : decode cX9_advance 211 = .ok (.putfield 108, 3) := by decide +kernel
theorem dX9_advance_214 : decode cX9_advance 214 = .ok (.aload_n 0, 1) := by decide +kernel
theorem dX9_advance_215 : decode cX9_advance 215 = .ok (.dup, 1) := by decide +kernel
theorem dX9_advance_216 : decode cX9_advance 216 = .ok (.getfield 98, 3) := by decide +kernel
theorem dX9_advance_219 : decode cX9_advance 219 = .ok (.iconst 1, 1) := by decide +kernel
theorem dX9_advance_220 : decode cX9_advance 220 = .ok (.iadd, 1) := by decide +kernel
theorem dX9_advance_221 : decode cX9_advance 221 = .ok (.putfield 98, 3) := by decide +kernel
theorem dX9_advance_224 : decode cX9_advance 224 = .ok (.goto (-71), 3) := by decide +kernel
theorem dX9_advance_227 : decode cX9_advance 227 = .ok (.aload_n 0, 1) := by decide +kernel
theorem dX9_advance_228 : decode cX9_advance 228 = .ok (.aload_n 0, 1) := by decide +kernel
theorem dX9_advance_229 : decode cX9_advance 229 = .ok (.getfield 98, 3) := by decide +kernel
theorem dX9_advance_232 : decode cX9_advance 232 = .ok (.aload_n 0, 1) := by decide +kernel
theorem dX9_advance_233 : decode cX9_advance 233 = .ok (.getfield 105, 3) := by decide +kernel
theorem dX9_advance_236 : decode cX9_advance 236 = .ok (.isub, 1) := by decide +kernel
theorem dX9_advance_237 : decode cX9_advance 237 = .ok (.iconst 4, 1) := by decide +kernel
theorem dX9_advance_238 : decode cX9_advance 238 = .ok (.if_icmp .le 7, 3) := by decide +kernel
theorem dX9_advance_241 : decode cX9_advance 241 = .ok (.iconst 4, 1) := by decide +kernel
theorem dX9_advance_242 : decode cX9_advance 242 = .ok (.goto 4, 3) := by decide +kernel
theorem dX9_advance_245 : decode cX9_advance 245 = .ok (.iconst 2, 1) := by decide +kernel
theorem dX9_advance_246 : decode cX9_advance 246 = .ok (.putfield 111, 3) := by decide +kernel
theorem dX9_advance_249 : decode cX9_advance 249 = .ok (.goto 34, 3) := by decide +kernel
theorem dX9_advance_252 : decode cX9_advance 252 = .ok (.aload_n 0, 1) := by decide +kernel
theorem dX9_advance_253 : decode cX9_advance 253 = .ok (.dup, 1) := by decide +kernel
theorem dX9_advance_254 : decode cX9_advance 254 = .ok (.getfield 98, 3) := by decide +kernel
theorem dX9_advance_257 : decode cX9_advance 257 = .ok (.iconst 1, 1) := by decide +kernel
theorem dX9_advance_258 : decode cX9_advance 258 = .ok (.iadd, 1) := by decide +kernel
theorem dX9_advance_259 : decode cX9_advance 259 = .ok (.putfield 98, 3) := by decide +kernel
theorem dX9_advance_262 : decode cX9_advance 262 = .ok (.aload_n 0, 1) := by decide +kernel
theorem dX9_advance_263 : decode cX9_advance 263 = .ok (.iload_n 1, 1) := by decide +kernel
theorem dX9_advance_264 : decode cX9_advance 264 = .ok (.putfield 108, 3) := by decide +kernel
theorem dX9_advance_267 : decode cX9_advance 267 = .ok (.aload_n 0, 1) := by decide +kernel
theorem dX9_advance_268 : decode cX9_advance 268 = .ok (.iload_n 1, 1) := by decide +kernel
theorem dX9_advance_269 : decode cX9_advance 269 = .ok (.invokestatic 118, 3) := by decide +kernel
theorem dX9_advance_272 : decode cX9_advance 272 = .ok (.ifCond .eq 7, 3) := by decide +kernel
theorem dX9_advance_275 : decode cX9_advance 275 = .ok (.iconst 3, 1) := by decide +kernel
theorem dX9_advance_276 : decode cX9_advance 276 = .ok (.goto 4, 3) := by decide +kernel
theorem dX9_advance_279 : decode cX9_advance 279 = .ok (.iconst 4, 1) := by decide +kernel
theorem dX9_advance_280 : decode cX9_advance 280 = .ok (.putfield 111, 3) := by decide +kernel
theorem dX9_advance_283 : decode cX9_advance 283 = .ok (.return_, 1) := by decide +kernel
theorem dX9_isWord_0 : decode cX9_isWord 0 = .ok (.aload_n 0, 1) := by decide +kernel
theorem dX9_isWord_1 : decode cX9_isWord 1 = .ok (.getfield 111, 3) := by decide +kernel
theorem dX9_isWord_4 : decode cX9_isWord 4 = .ok (.iconst 1, 1) := by decide +kernel
theorem dX9_isWord_5 : decode cX9_isWord 5 = .ok (.if_icmp .ne 23, 3) := by decide +kernel
theorem dX9_isWord_8 : decode cX9_isWord 8 = .ok (.aload_n 0, 1) := by decide +kernel
theorem dX9_isWord_9 : decode cX9_isWord 9 = .ok (.getfield 98, 3) := by decide +kernel
theorem dX9_isWord_12 : decode cX9_isWord 12 = .ok (.aload_n 0, 1) := by decide +kernel
theorem dX9_isWord_13 : decode cX9_isWord 13 = .ok (.getfield 105, 3) := by decide +kernel
theorem dX9_isWord_16 : decode cX9_isWord 16 = .ok (.isub, 1) := by decide +kernel
theorem dX9_isWord_17 : decode cX9_isWord 17 = .ok (.aload_n 1, 1) := by decide +kernel
theorem dX9_isWord_18 : decode cX9_isWord 18 = .ok (.invokevirtual 121, 3) := by decide +kernel
theorem dX9_isWord_21 : decode cX9_isWord 21 = .ok (.if_icmp .ne 7, 3) := by decide +kernel
theorem dX9_isWord_24 : decode cX9_isWord 24 = .ok (.iconst 1, 1) := by decide +kernel
theorem dX9_isWord_25 : decode cX9_isWord 25 = .ok (.goto 4, 3) := by decide +kernel
theorem dX9_isWord_28 : decode cX9_isWord 28 = .ok (.iconst 0, 1) := by decide +kernel
theorem dX9_isWord_29 : decode cX9_isWord 29 = .ok (.istore_n 2, 1) := by decide +kernel
theorem dX9_isWord_30 : decode cX9_isWord 30 = .ok (.iconst 0, 1) := by decide +kernel
theorem dX9_isWord_31 : decode cX9_isWord 31 = .ok (.istore_n 3, 1) := by decide +kernel
theorem dX9_isWord_32 : decode cX9_isWord 32 = .ok (.iload_n 3, 1) := by decide +kernel
theorem dX9_isWord_33 : decode cX9_isWord 33 = .ok (.aload_n 1, 1) := by decide +kernel
theorem dX9_isWord_34 : decode cX9_isWord 34 = .ok (.invokevirtual 121, 3) := by decide +kernel
theorem dX9_isWord_37 : decode cX9_isWord 37 = .ok (.if_icmp .ge 38, 3) := by decide +kernel
theorem dX9_isWord_40 : decode cX9_isWord 40 = .ok (.iload_n 2, 1) := by decide +kernel
theorem dX9_isWord_41 : decode cX9_isWord 41 = .ok (.ifCond .eq 34, 3) := by decide +kernel
theorem dX9_isWord_44 : decode cX9_isWord 44 = .ok (.aload_n 0, 1) := by decide +kernel
theorem dX9_isWord_45 : decode cX9_isWord 45 = .ok (.getfield 34, 3) := by decide +kernel
theorem dX9_isWord_48 : decode cX9_isWord 48 = .ok (.aload_n 0, 1) := by decide +kernel
theorem dX9_isWord_49 : decode cX9_isWord 49 = .ok (.getfield 105, 3) := by decide +kernel
theorem dX9_isWord_52 : decode cX9_isWord 52 = .ok (.iload_n 3, 1) := by decide +kernel
theorem dX9_isWord_53 : decode cX9_isWord 53 = .ok (.iadd, 1) := by decide +kernel
theorem dX9_isWord_54 : decode cX9_isWord 54 = .ok (.baload, 1) := by decide +kernel
theorem dX9_isWord_55 : decode cX9_isWord 55 = .ok (.aload_n 1, 1) := by decide +kernel
theorem dX9_isWord_56 : decode cX9_isWord 56 = .ok (.iload_n 3, 1) := by decide +kernel
theorem dX9_isWord_57 : decode cX9_isWord 57 = .ok (.invokevirtual 126, 3) := by decide +kernel
theorem dX9_isWord_60 : decode cX9_isWord 60 = .ok (.if_icmp .ne 7, 3) := by decide +kernel
theorem dX9_isWord_63 : decode cX9_isWord 63 = .ok (.iconst 1, 1) := by decide +kernel
theorem dX9_isWord_64 : decode cX9_isWord 64 = .ok (.goto 4, 3) := by decide +kernel
theorem dX9_isWord_67 : decode cX9_isWord 67 = .ok (.iconst 0, 1) := by decide +kernel
theorem dX9_isWord_68 : decode cX9_isWord 68 = .ok (.istore_n 2, 1) := by decide +kernel
theorem dX9_isWord_69 : decode cX9_isWord 69 = .ok (.iinc 3 1, 3) := by decide +kernel
theorem dX9_isWord_72 : decode cX9_isWord 72 = .ok (.goto (-40), 3) := by decide +kernel
theorem dX9_isWord_75 : decode cX9_isWord 75 = .ok (.iload_n 2, 1) := by decide +kernel
theorem dX9_isWord_76 : decode cX9_isWord 76 = .ok (.ireturn, 1) := by decide +kernel
theorem dX9_isSignHere_0 : decode cX9_isSignHere 0 = .ok (.aload_n 0, 1) := by decide +kernel
theorem dX9_isSignHere_1 : decode cX9_isSignHere 1 = .ok (.getfield 111, 3) := by decide +kernel
theorem dX9_isSignHere_4 : decode cX9_isSignHere 4 = .ok (.iconst 3, 1) := by decide +kernel
theorem dX9_isSignHere_5 : decode cX9_isSignHere 5 = .ok (.if_icmp .ne 15, 3) := by decide +kernel
theorem dX9_isSignHere_8 : decode cX9_isSignHere 8 = .ok (.aload_n 0, 1) := by decide +kernel
theorem dX9_isSignHere_9 : decode cX9_isSignHere 9 = .ok (.getfield 108, 3) := by decide +kernel
theorem dX9_isSignHere_12 : decode cX9_isSignHere 12 = .ok (.iload_n 1, 1) := by decide +kernel
theorem dX9_isSignHere_13 : decode cX9_isSignHere 13 = .ok (.if_icmp .ne 7, 3) := by decide +kernel
theorem dX9_isSignHere_16 : decode cX9_isSignHere 16 = .ok (.iconst 1, 1) := by decide +kernel
theorem dX9_isSignHere_17 : decode cX9_isSignHere 17 = .ok (.goto 4, 3) := by decide +kernel
theorem dX9_isSignHere_20 : decode cX9_isSignHere 20 = .ok (.iconst 0, 1) := by decide +kernel
theorem dX9_isSignHere_21 : decode cX9_isSignHere 21 = .ok (.ireturn, 1) := by decide +kernel
theorem dX9_fails_0 : decode cX9_fails 0 = .ok (.aload_n 0, 1) := by decide +kernel
theorem dX9_fails_1 : decode cX9_fails 1 = .ok (.getfield 130, 3) := by decide +kernel
theorem dX9_fails_4 : decode cX9_fails 4 = .ok (.ifCond .ne 16, 3) := by decide +kernel
theorem dX9_fails_7 : decode cX9_fails 7 = .ok (.aload_n 0, 1) := by decide +kernel
theorem dX9_fails_8 : decode cX9_fails 8 = .ok (.iload_n 1, 1) := by decide +kernel
theorem dX9_fails_9 : decode cX9_fails 9 = .ok (.putfield 130, 3) := by decide +kernel
theorem dX9_fails_12 : decode cX9_fails 12 = .ok (.aload_n 0, 1) := by decide +kernel
theorem dX9_fails_13 : decode cX9_fails 13 = .ok (.aload_n 0, 1) := by decide +kernel
theorem dX9_fails_14 : decode cX9_fails 14 = .ok (.getfield 105, 3) := by decide +kernel
theorem dX9_fails_17 : decode cX9_fails 17 = .ok (.putfield 38, 3) := by decide +kernel
theorem dX9_fails_20 : decode cX9_fails 20 = .ok (.iconst 0, 1) := by decide +kernel
theorem dX9_fails_21 : decode cX9_fails 21 = .ok (.ireturn, 1) := by decide +kernel
theorem dX9_takes_0 : decode cX9_takes 0 = .ok (.aload_n 0, 1) := by decide +kernel
theorem dX9_takes_1 : decode cX9_takes 1 = .ok (.getfield 111, 3) := by decide +kernel
theorem dX9_takes_4 : decode cX9_takes 4 = .ok (.iconst 2, 1) := by decide +kernel
theorem dX9_takes_5 : decode cX9_takes 5 = .ok (.if_icmp .eq 9, 3) := by decide +kernel
theorem dX9_takes_8 : decode cX9_takes 8 = .ok (.aload_n 0, 1) := by decide +kernel
theorem dX9_takes_9 : decode cX9_takes 9 = .ok (.iconst 1, 1) := by decide +kernel
theorem dX9_takes_10 : decode cX9_takes 10 = .ok (.invokevirtual 133, 3) := by decide +kernel
theorem dX9_takes_13 : decode cX9_takes 13 = .ok (.ireturn, 1) := by decide +kernel
theorem dX9_takes_14 : decode cX9_takes 14 = .ok (.aload_n 0, 1) := by decide +kernel
theorem dX9_takes_15 : decode cX9_takes 15 = .ok (.getfield 108, 3) := by decide +kernel
theorem dX9_takes_18 : decode cX9_takes 18 = .ok (.iload_n 1, 1) := by decide +kernel
theorem dX9_takes_19 : decode cX9_takes 19 = .ok (.iload_n 2, 1) := by decide +kernel
theorem dX9_takes_20 : decode cX9_takes 20 = .ok (.invokestatic 114, 3) := by decide +kernel
theorem dX9_takes_23 : decode cX9_takes 23 = .ok (.ifCond .ne 9, 3) := by decide +kernel
theorem dX9_takes_26 : decode cX9_takes 26 = .ok (.aload_n 0, 1) := by decide +kernel
theorem dX9_takes_27 : decode cX9_takes 27 = .ok (.iconst 3, 1) := by decide +kernel
theorem dX9_takes_28 : decode cX9_takes 28 = .ok (.invokevirtual 133, 3) := by decide +kernel
theorem dX9_takes_31 : decode cX9_takes 31 = .ok (.ireturn, 1) := by decide +kernel
theorem dX9_takes_32 : decode cX9_takes 32 = .ok (.aload_n 0, 1) := by decide +kernel
theorem dX9_takes_33 : decode cX9_takes 33 = .ok (.aload_n 0, 1) := by decide +kernel
theorem dX9_takes_34 : decode cX9_takes 34 = .ok (.getfield 108, 3) := by decide +kernel
theorem dX9_takes_37 : decode cX9_takes 37 = .ok (.putfield 136, 3) := by decide +kernel
theorem dX9_takes_40 : decode cX9_takes 40 = .ok (.aload_n 0, 1) := by decide +kernel
theorem dX9_takes_41 : decode cX9_takes 41 = .ok (.invokevirtual 139, 3) := by decide +kernel
theorem dX9_takes_44 : decode cX9_takes 44 = .ok (.iconst 1, 1) := by decide +kernel
theorem dX9_takes_45 : decode cX9_takes 45 = .ok (.ireturn, 1) := by decide +kernel
theorem dX9_starts_0 : decode cX9_starts 0 = .ok (.iload_n 2, 1) := by decide +kernel
theorem dX9_starts_1 : decode cX9_starts 1 = .ok (.ifCond .ne 9, 3) := by decide +kernel
theorem dX9_starts_4 : decode cX9_starts 4 = .ok (.aload_n 0, 1) := by decide +kernel
theorem dX9_starts_5 : decode cX9_starts 5 = .ok (.iload_n 1, 1) := by decide +kernel
theorem dX9_starts_6 : decode cX9_starts 6 = .ok (.invokevirtual 133, 3) := by decide +kernel
theorem dX9_starts_9 : decode cX9_starts 9 = .ok (.ireturn, 1) := by decide +kernel
theorem dX9_starts_10 : decode cX9_starts 10 = .ok (.aload_n 0, 1) := by decide +kernel
theorem dX9_starts_11 : decode cX9_starts 11 = .ok (.invokevirtual 139, 3) := by decide +kernel
theorem dX9_starts_14 : decode cX9_starts 14 = .ok (.iconst 1, 1) := by decide +kernel
theorem dX9_starts_15 : decode cX9_starts 15 = .ok (.ireturn, 1) := by decide +kernel
theorem dX9_closes_0 : decode cX9_closes 0 = .ok (.aload_n 0, 1) := by decide +kernel
theorem dX9_closes_1 : decode cX9_closes 1 = .ok (.iload_n 1, 1) := by decide +kernel
theorem dX9_closes_2 : decode cX9_closes 2 = .ok (.invokevirtual 142, 3) := by decide +kernel
theorem dX9_closes_5 : decode cX9_closes 5 = .ok (.ifCond .ne 9, 3) := by decide +kernel
theorem dX9_closes_8 : decode cX9_closes 8 = .ok (.aload_n 0, 1) := by decide +kernel
theorem dX9_closes_9 : decode cX9_closes 9 = .ok (.iconst 1, 1) := by decide +kernel
theorem dX9_closes_10 : decode cX9_closes 10 = .ok (.invokevirtual 133, 3) := by decide +kernel
theorem dX9_closes_13 : decode cX9_closes 13 = .ok (.ireturn, 1) := by decide +kernel
theorem dX9_closes_14 : decode cX9_closes 14 = .ok (.aload_n 0, 1) := by decide +kernel
theorem dX9_closes_15 : decode cX9_closes 15 = .ok (.invokevirtual 139, 3) := by decide +kernel
theorem dX9_closes_18 : decode cX9_closes 18 = .ok (.iconst 1, 1) := by decide +kernel
theorem dX9_closes_19 : decode cX9_closes 19 = .ok (.ireturn, 1) := by decide +kernel
theorem dX9_setsOnce_0 : decode cX9_setsOnce 0 = .ok (.aload_n 0, 1) := by decide +kernel
theorem dX9_setsOnce_1 : decode cX9_setsOnce 1 = .ok (.iconst 2, 1) := by decide +kernel
theorem dX9_setsOnce_2 : decode cX9_setsOnce 2 = .ok (.aload_n 0, 1) := by decide +kernel
theorem dX9_setsOnce_3 : decode cX9_setsOnce 3 = .ok (.getfield 145, 3) := by decide +kernel
theorem dX9_setsOnce_6 : decode cX9_setsOnce 6 = .ok (.iload_n 1, 1) := by decide +kernel
theorem dX9_setsOnce_7 : decode cX9_setsOnce 7 = .ok (.invokestatic 148, 3) := by decide +kernel
theorem dX9_setsOnce_10 : decode cX9_setsOnce 10 = .ok (.ifCond .ne 7, 3) := by decide +kernel
theorem dX9_setsOnce_13 : decode cX9_setsOnce 13 = .ok (.iconst 1, 1) := by decide +kernel
theorem dX9_setsOnce_14 : decode cX9_setsOnce 14 = .ok (.goto 4, 3) := by decide +kernel
theorem dX9_setsOnce_17 : decode cX9_setsOnce 17 = .ok (.iconst 0, 1) := by decide +kernel
theorem dX9_setsOnce_18 : decode cX9_setsOnce 18 = .ok (.invokevirtual 151, 3) := by decide +kernel
theorem dX9_setsOnce_21 : decode cX9_setsOnce 21 = .ok (.ifCond .ne 5, 3) := by decide +kernel
theorem dX9_setsOnce_24 : decode cX9_setsOnce 24 = .ok (.iconst 0, 1) := by decide +kernel
theorem dX9_setsOnce_25 : decode cX9_setsOnce 25 = .ok (.ireturn, 1) := by decide +kernel
theorem dX9_setsOnce_26 : decode cX9_setsOnce 26 = .ok (.aload_n 0, 1) := by decide +kernel
theorem dX9_setsOnce_27 : decode cX9_setsOnce 27 = .ok (.dup, 1) := by decide +kernel
theorem dX9_setsOnce_28 : decode cX9_setsOnce 28 = .ok (.getfield 145, 3) := by decide +kernel
theorem dX9_setsOnce_31 : decode cX9_setsOnce 31 = .ok (.iconst 1, 1) := by decide +kernel
theorem dX9_setsOnce_32 : decode cX9_setsOnce 32 = .ok (.iload_n 1, 1) := by decide +kernel
theorem dX9_setsOnce_33 : decode cX9_setsOnce 33 = .ok (.ishl, 1) := by decide +kernel
theorem dX9_setsOnce_34 : decode cX9_setsOnce 34 = .ok (.ior, 1) := by decide +kernel
theorem dX9_setsOnce_35 : decode cX9_setsOnce 35 = .ok (.putfield 145, 3) := by decide +kernel
theorem dX9_setsOnce_38 : decode cX9_setsOnce 38 = .ok (.aload_n 0, 1) := by decide +kernel
theorem dX9_setsOnce_39 : decode cX9_setsOnce 39 = .ok (.iload_n 2, 1) := by decide +kernel
theorem dX9_setsOnce_40 : decode cX9_setsOnce 40 = .ok (.iload_n 3, 1) := by decide +kernel
theorem dX9_setsOnce_41 : decode cX9_setsOnce 41 = .ok (.invokevirtual 155, 3) := by decide +kernel
theorem dX9_setsOnce_44 : decode cX9_setsOnce 44 = .ok (.ifCond .ne 5, 3) := by decide +kernel
theorem dX9_setsOnce_47 : decode cX9_setsOnce 47 = .ok (.iconst 0, 1) := by decide +kernel
theorem dX9_setsOnce_48 : decode cX9_setsOnce 48 = .ok (.ireturn, 1) := by decide +kernel
theorem dX9_setsOnce_49 : decode cX9_setsOnce 49 = .ok (.aload_n 0, 1) := by decide +kernel
theorem dX9_setsOnce_50 : decode cX9_setsOnce 50 = .ok (.getfield 25, 3) := by decide +kernel
theorem dX9_setsOnce_53 : decode cX9_setsOnce 53 = .ok (.iconst 2, 1) := by decide +kernel
theorem dX9_setsOnce_54 : decode cX9_setsOnce 54 = .ok (.iload_n 1, 1) := by decide +kernel
theorem dX9_setsOnce_55 : decode cX9_setsOnce 55 = .ok (.iadd, 1) := by decide +kernel
theorem dX9_setsOnce_56 : decode cX9_setsOnce 56 = .ok (.aload_n 0, 1) := by decide +kernel
theorem dX9_setsOnce_57 : decode cX9_setsOnce 57 = .ok (.getfield 136, 3) := by decide +kernel
theorem dX9_setsOnce_60 : decode cX9_setsOnce 60 = .ok (.iastore, 1) := by decide +kernel
theorem dX9_setsOnce_61 : decode cX9_setsOnce 61 = .ok (.iconst 1, 1) := by decide +kernel
theorem dX9_setsOnce_62 : decode cX9_setsOnce 62 = .ok (.ireturn, 1) := by decide +kernel
theorem dX9_lays_0 : decode cX9_lays 0 = .ok (.aload_n 0, 1) := by decide +kernel
theorem dX9_lays_1 : decode cX9_lays 1 = .ok (.invokevirtual 139, 3) := by decide +kernel
theorem dX9_lays_4 : decode cX9_lays 4 = .ok (.aload_n 0, 1) := by decide +kernel
theorem dX9_lays_5 : decode cX9_lays 5 = .ok (.iconst 0, 1) := by decide +kernel
theorem dX9_lays_6 : decode cX9_lays 6 = .ok (.iload_n 2, 1) := by decide +kernel
theorem dX9_lays_7 : decode cX9_lays 7 = .ok (.iconst 1, 1) := by decide +kernel
theorem dX9_lays_8 : decode cX9_lays 8 = .ok (.isub, 1) := by decide +kernel
theorem dX9_lays_9 : decode cX9_lays 9 = .ok (.invokevirtual 155, 3) := by decide +kernel
theorem dX9_lays_12 : decode cX9_lays 12 = .ok (.ifCond .ne 5, 3) := by decide +kernel
theorem dX9_lays_15 : decode cX9_lays 15 = .ok (.iconst 0, 1) := by decide +kernel
theorem dX9_lays_16 : decode cX9_lays 16 = .ok (.ireturn, 1) := by decide +kernel
theorem dX9_lays_17 : decode cX9_lays 17 = .ok (.aload_n 1, 1) := by decide +kernel
theorem dX9_lays_18 : decode cX9_lays 18 = .ok (.arraylength, 1) := by decide +kernel
theorem dX9_lays_19 : decode cX9_lays 19 = .ok (.iconst 2, 1) := by decide +kernel
theorem dX9_lays_20 : decode cX9_lays 20 = .ok (.idiv, 1) := by decide +kernel
theorem dX9_lays_21 : decode cX9_lays 21 = .ok (.iload_n 3, 1) := by decide +kernel
theorem dX9_lays_22 : decode cX9_lays 22 = .ok (.aload_n 0, 1) := by decide +kernel
theorem dX9_lays_23 : decode cX9_lays 23 = .ok (.getfield 136, 3) := by decide +kernel
theorem dX9_lays_26 : decode cX9_lays 26 = .ok (.imul, 1) := by decide +kernel
theorem dX9_lays_27 : decode cX9_lays 27 = .ok (.iadd, 1) := by decide +kernel
theorem dX9_lays_28 : decode cX9_lays 28 = .ok (.istore 6, 2) := by decide +kernel
theorem dX9_lays_30 : decode cX9_lays 30 = .ok (.aload_n 0, 1) := by decide +kernel
theorem dX9_lays_31 : decode cX9_lays 31 = .ok (.iconst 0, 1) := by decide +kernel
theorem dX9_lays_32 : decode cX9_lays 32 = .ok (.iload_n 3, 1) := by decide +kernel
theorem dX9_lays_33 : decode cX9_lays 33 = .ok (.iconst 1, 1) := by decide +kernel
theorem dX9_lays_34 : decode cX9_lays 34 = .ok (.isub, 1) := by decide +kernel
theorem dX9_lays_35 : decode cX9_lays 35 = .ok (.invokevirtual 155, 3) := by decide +kernel
theorem dX9_lays_38 : decode cX9_lays 38 = .ok (.ifCond .ne 5, 3) := by decide +kernel
theorem dX9_lays_41 : decode cX9_lays 41 = .ok (.iconst 0, 1) := by decide +kernel
theorem dX9_lays_42 : decode cX9_lays 42 = .ok (.ireturn, 1) := by decide +kernel
theorem dX9_lays_43 : decode cX9_lays 43 = .ok (.iload 6, 2) := by decide +kernel
theorem dX9_lays_45 : decode cX9_lays 45 = .ok (.aload_n 0, 1) := by decide +kernel
theorem dX9_lays_46 : decode cX9_lays 46 = .ok (.getfield 136, 3) := by decide +kernel
theorem dX9_lays_49 : decode cX9_lays 49 = .ok (.iadd, 1) := by decide +kernel
theorem dX9_lays_50 : decode cX9_lays 50 = .ok (.istore 6, 2) := by decide +kernel
theorem dX9_lays_52 : decode cX9_lays 52 = .ok (.aload_n 0, 1) := by decide +kernel
theorem dX9_lays_53 : decode cX9_lays 53 = .ok (.iload 4, 2) := by decide +kernel
theorem dX9_lays_55 : decode cX9_lays 55 = .ok (.iload 5, 2) := by decide +kernel
theorem dX9_lays_57 : decode cX9_lays 57 = .ok (.invokevirtual 155, 3) := by decide +kernel
theorem dX9_lays_60 : decode cX9_lays 60 = .ok (.ifCond .ne 5, 3) := by decide +kernel
theorem dX9_lays_63 : decode cX9_lays 63 = .ok (.iconst 0, 1) := by decide +kernel
theorem dX9_lays_64 : decode cX9_lays 64 = .ok (.ireturn, 1) := by decide +kernel
theorem dX9_lays_65 : decode cX9_lays 65 = .ok (.aload_n 1, 1) := by decide +kernel
theorem dX9_lays_66 : decode cX9_lays 66 = .ok (.iload 6, 2) := by decide +kernel
theorem dX9_lays_68 : decode cX9_lays 68 = .ok (.aload_n 0, 1) := by decide +kernel
theorem dX9_lays_69 : decode cX9_lays 69 = .ok (.getfield 136, 3) := by decide +kernel
theorem dX9_lays_72 : decode cX9_lays 72 = .ok (.iastore, 1) := by decide +kernel
theorem dX9_lays_73 : decode cX9_lays 73 = .ok (.iconst 1, 1) := by decide +kernel
theorem dX9_lays_74 : decode cX9_lays 74 = .ok (.ireturn, 1) := by decide +kernel
theorem dX9_statement_0 : decode cX9_statement 0 = .ok (.aload_n 0, 1) := by decide +kernel
theorem dX9_statement_1 : decode cX9_statement 1 = .ok (.ldc 158, 2) := by decide +kernel
theorem dX9_statement_3 : decode cX9_statement 3 = .ok (.invokevirtual 160, 3) := by decide +kernel
theorem dX9_statement_6 : decode cX9_statement 6 = .ok (.ifCond .eq 17, 3) := by decide +kernel
theorem dX9_statement_9 : decode cX9_statement 9 = .ok (.aload_n 0, 1) := by decide +kernel
theorem dX9_statement_10 : decode cX9_statement 10 = .ok (.aload_n 0, 1) := by decide +kernel
theorem dX9_statement_11 : decode cX9_statement 11 = .ok (.getfield 13, 3) := by decide +kernel
theorem dX9_statement_14 : decode cX9_statement 14 = .ok (.iconst 2, 1) := by decide +kernel
theorem dX9_statement_15 : decode cX9_statement 15 = .ok (.iconst 4, 1) := by decide +kernel
theorem dX9_statement_16 : decode cX9_statement 16 = .ok (.iconst 1, 1) := by decide +kernel
theorem dX9_statement_17 : decode cX9_statement 17 = .ok (.bipush 8, 2) := by decide +kernel
theorem dX9_statement_19 : decode cX9_statement 19 = .ok (.invokevirtual 164, 3) := by decide +kernel
theorem dX9_statement_22 : decode cX9_statement 22 = .ok (.ireturn, 1) := by decide +kernel
theorem dX9_statement_23 : decode cX9_statement 23 = .ok (.aload_n 0, 1) := by decide +kernel
theorem dX9_statement_24 : decode cX9_statement 24 = .ok (.ldc 168, 2) := by decide +kernel
theorem dX9_statement_26 : decode cX9_statement 26 = .ok (.invokevirtual 160, 3) := by decide +kernel
theorem dX9_statement_29 : decode cX9_statement 29 = .ok (.ifCond .eq 17, 3) := by decide +kernel
theorem dX9_statement_32 : decode cX9_statement 32 = .ok (.aload_n 0, 1) := by decide +kernel
theorem dX9_statement_33 : decode cX9_statement 33 = .ok (.aload_n 0, 1) := by decide +kernel
theorem dX9_statement_34 : decode cX9_statement 34 = .ok (.getfield 16, 3) := by decide +kernel
theorem dX9_statement_37 : decode cX9_statement 37 = .ok (.iconst 2, 1) := by decide +kernel
theorem dX9_statement_38 : decode cX9_statement 38 = .ok (.iconst 4, 1) := by decide +kernel
theorem dX9_statement_39 : decode cX9_statement 39 = .ok (.iconst 0, 1) := by decide +kernel
theorem dX9_statement_40 : decode cX9_statement 40 = .ok (.bipush 8, 2) := by decide +kernel
theorem dX9_statement_42 : decode cX9_statement 42 = .ok (.invokevirtual 164, 3) := by decide +kernel
theorem dX9_statement_45 : decode cX9_statement 45 = .ok (.ireturn, 1) := by decide +kernel
theorem dX9_statement_46 : decode cX9_statement 46 = .ok (.aload_n 0, 1) := by decide +kernel
theorem dX9_statement_47 : decode cX9_statement 47 = .ok (.ldc 170, 2) := by decide +kernel
theorem dX9_statement_49 : decode cX9_statement 49 = .ok (.invokevirtual 160, 3) := by decide +kernel
theorem dX9_statement_52 : decode cX9_statement 52 = .ok (.ifCond .eq 16, 3) := by decide +kernel
theorem dX9_statement_55 : decode cX9_statement 55 = .ok (.aload_n 0, 1) := by decide +kernel
theorem dX9_statement_56 : decode cX9_statement 56 = .ok (.aload_n 0, 1) := by decide +kernel
theorem dX9_statement_57 : decode cX9_statement 57 = .ok (.getfield 19, 3) := by decide +kernel
theorem dX9_statement_60 : decode cX9_statement 60 = .ok (.iconst 4, 1) := by decide +kernel
theorem dX9_statement_61 : decode cX9_statement 61 = .ok (.iconst 4, 1) := by decide +kernel
theorem dX9_statement_62 : decode cX9_statement 62 = .ok (.iconst 0, 1) := by decide +kernel
theorem dX9_statement_63 : decode cX9_statement 63 = .ok (.iconst 1, 1) := by decide +kernel
theorem dX9_statement_64 : decode cX9_statement 64 = .ok (.invokevirtual 164, 3) := by decide +kernel
theorem dX9_statement_67 : decode cX9_statement 67 = .ok (.ireturn, 1) := by decide +kernel
theorem dX9_statement_68 : decode cX9_statement 68 = .ok (.aload_n 0, 1) := by decide +kernel
theorem dX9_statement_69 : decode cX9_statement 69 = .ok (.ldc 171, 2) := by decide +kernel
theorem dX9_statement_71 : decode cX9_statement 71 = .ok (.invokevirtual 160, 3) := by decide +kernel
theorem dX9_statement_74 : decode cX9_statement 74 = .ok (.ifCond .eq 19, 3) := by decide +kernel
theorem dX9_statement_77 : decode cX9_statement 77 = .ok (.aload_n 0, 1) := by decide +kernel
theorem dX9_statement_78 : decode cX9_statement 78 = .ok (.aload_n 0, 1) := by decide +kernel
theorem dX9_statement_79 : decode cX9_statement 79 = .ok (.getfield 22, 3) := by decide +kernel
theorem dX9_statement_82 : decode cX9_statement 82 = .ok (.iconst 2, 1) := by decide +kernel
theorem dX9_statement_83 : decode cX9_statement 83 = .ok (.bipush 16, 2) := by decide +kernel
theorem dX9_statement_85 : decode cX9_statement 85 = .ok (.iconst 0, 1) := by decide +kernel
theorem dX9_statement_86 : decode cX9_statement 86 = .ok (.sipush 9999, 3) := by decide +kernel
theorem dX9_statement_89 : decode cX9_statement 89 = .ok (.invokevirtual 164, 3) := by decide +kernel
theorem dX9_statement_92 : decode cX9_statement 92 = .ok (.ireturn, 1) := by decide +kernel
theorem dX9_statement_93 : decode cX9_statement 93 = .ok (.aload_n 0, 1) := by decide +kernel
theorem dX9_statement_94 : decode cX9_statement 94 = .ok (.ldc 173, 2) := by decide +kernel
theorem dX9_statement_96 : decode cX9_statement 96 = .ok (.invokevirtual 160, 3) := by decide +kernel
theorem dX9_statement_99 : decode cX9_statement 99 = .ok (.ifCond .eq 11, 3) := by decide +kernel
theorem dX9_statement_102 : decode cX9_statement 102 = .ok (.aload_n 0, 1) := by decide +kernel
theorem dX9_statement_103 : decode cX9_statement 103 = .ok (.iconst 0, 1) := by decide +kernel
theorem dX9_statement_104 : decode cX9_statement 104 = .ok (.iconst 1, 1) := by decide +kernel
theorem dX9_statement_105 : decode cX9_statement 105 = .ok (.iconst 4, 1) := by decide +kernel
theorem dX9_statement_106 : decode cX9_statement 106 = .ok (.invokevirtual 175, 3) := by decide +kernel
theorem dX9_statement_109 : decode cX9_statement 109 = .ok (.ireturn, 1) := by decide +kernel
theorem dX9_statement_110 : decode cX9_statement 110 = .ok (.aload_n 0, 1) := by decide +kernel
theorem dX9_statement_111 : decode cX9_statement 111 = .ok (.ldc 178, 2) := by decide +kernel
theorem dX9_statement_113 : decode cX9_statement 113 = .ok (.invokevirtual 160, 3) := by decide +kernel
theorem dX9_statement_116 : decode cX9_statement 116 = .ok (.ifCond .eq 12, 3) := by decide +kernel
theorem dX9_statement_119 : decode cX9_statement 119 = .ok (.aload_n 0, 1) := by decide +kernel
theorem dX9_statement_120 : decode cX9_statement 120 = .ok (.iconst 1, 1) := by decide +kernel
theorem dX9_statement_121 : decode cX9_statement 121 = .ok (.iconst 1, 1) := by decide +kernel
theorem dX9_statement_122 : decode cX9_statement 122 = .ok (.bipush 8, 2) := by decide +kernel
theorem dX9_statement_124 : decode cX9_statement 124 = .ok (.invokevirtual 175, 3) := by decide +kernel
theorem dX9_statement_127 : decode cX9_statement 127 = .ok (.ireturn, 1) := by decide +kernel
theorem dX9_statement_128 : decode cX9_statement 128 = .ok (.aload_n 0, 1) := by decide +kernel
theorem dX9_statement_129 : decode cX9_statement 129 = .ok (.ldc 180, 2) := by decide +kernel
theorem dX9_statement_131 : decode cX9_statement 131 = .ok (.invokevirtual 160, 3) := by decide +kernel
theorem dX9_statement_134 : decode cX9_statement 134 = .ok (.ifCond .ne 9, 3) := by decide +kernel
theorem dX9_statement_137 : decode cX9_statement 137 = .ok (.aload_n 0, 1) := by decide +kernel
theorem dX9_statement_138 : decode cX9_statement 138 = .ok (.iconst 1, 1) := by decide +kernel
theorem dX9_statement_139 : decode cX9_statement 139 = .ok (.invokevirtual 133, 3) := by decide +kernel
theorem dX9_statement_142 : decode cX9_statement 142 = .ok (.ireturn, 1) := by decide +kernel
theorem dX9_statement_143 : decode cX9_statement 143 = .ok (.aload_n 0, 1) := by decide +kernel
theorem dX9_statement_144 : decode cX9_statement 144 = .ok (.invokevirtual 139, 3) := by decide +kernel
theorem dX9_statement_147 : decode cX9_statement 147 = .ok (.aload_n 0, 1) := by decide +kernel
theorem dX9_statement_148 : decode cX9_statement 148 = .ok (.iconst 0, 1) := by decide +kernel
theorem dX9_statement_149 : decode cX9_statement 149 = .ok (.iconst 1, 1) := by decide +kernel
theorem dX9_statement_150 : decode cX9_statement 150 = .ok (.invokevirtual 155, 3) := by decide +kernel
theorem dX9_statement_153 : decode cX9_statement 153 = .ok (.ifCond .ne 5, 3) := by decide +kernel
theorem dX9_statement_156 : decode cX9_statement 156 = .ok (.iconst 0, 1) := by decide +kernel
theorem dX9_statement_157 : decode cX9_statement 157 = .ok (.ireturn, 1) := by decide +kernel
theorem dX9_statement_158 : decode cX9_statement 158 = .ok (.aload_n 0, 1) := by decide +kernel
theorem dX9_statement_159 : decode cX9_statement 159 = .ok (.aload_n 0, 1) := by decide +kernel
theorem dX9_statement_160 : decode cX9_statement 160 = .ok (.getfield 136, 3) := by decide +kernel
theorem dX9_statement_163 : decode cX9_statement 163 = .ok (.putfield 81, 3) := by decide +kernel
theorem dX9_statement_166 : decode cX9_statement 166 = .ok (.aload_n 0, 1) := by decide +kernel
theorem dX9_statement_167 : decode cX9_statement 167 = .ok (.getfield 28, 3) := by decide +kernel
theorem dX9_statement_170 : decode cX9_statement 170 = .ok (.iconst 2, 1) := by decide +kernel
theorem dX9_statement_171 : decode cX9_statement 171 = .ok (.aload_n 0, 1) := by decide +kernel
theorem dX9_statement_172 : decode cX9_statement 172 = .ok (.getfield 81, 3) := by decide +kernel
theorem dX9_statement_175 : decode cX9_statement 175 = .ok (.iadd, 1) := by decide +kernel
theorem dX9_statement_176 : decode cX9_statement 176 = .ok (.iconst 0, 1) := by decide +kernel
theorem dX9_statement_177 : decode cX9_statement 177 = .ok (.iastore, 1) := by decide +kernel
theorem dX9_statement_178 : decode cX9_statement 178 = .ok (.aload_n 0, 1) := by decide +kernel
theorem dX9_statement_179 : decode cX9_statement 179 = .ok (.iconst 0, 1) := by decide +kernel
theorem dX9_statement_180 : decode cX9_statement 180 = .ok (.putfield 182, 3) := by decide +kernel
theorem dX9_statement_183 : decode cX9_statement 183 = .ok (.aload_n 0, 1) := by decide +kernel
theorem dX9_statement_184 : decode cX9_statement 184 = .ok (.invokevirtual 185, 3) := by decide +kernel
theorem dX9_statement_187 : decode cX9_statement 187 = .ok (.ireturn, 1) := by decide +kernel
theorem dX9_emit_0 : decode cX9_emit 0 = .ok (.aload_n 0, 1) := by decide +kernel
theorem dX9_emit_1 : decode cX9_emit 1 = .ok (.getfield 31, 3) := by decide +kernel
theorem dX9_emit_4 : decode cX9_emit 4 = .ok (.sipush 620, 3) := by decide +kernel
theorem dX9_emit_7 : decode cX9_emit 7 = .ok (.iconst 2, 1) := by decide +kernel
theorem dX9_emit_8 : decode cX9_emit 8 = .ok (.aload_n 0, 1) := by decide +kernel
theorem dX9_emit_9 : decode cX9_emit 9 = .ok (.getfield 81, 3) := by decide +kernel
theorem dX9_emit_12 : decode cX9_emit 12 = .ok (.iadd, 1) := by decide +kernel
theorem dX9_emit_13 : decode cX9_emit 13 = .ok (.imul, 1) := by decide +kernel
theorem dX9_emit_14 : decode cX9_emit 14 = .ok (.aload_n 0, 1) := by decide +kernel
theorem dX9_emit_15 : decode cX9_emit 15 = .ok (.getfield 28, 3) := by decide +kernel
theorem dX9_emit_18 : decode cX9_emit 18 = .ok (.iconst 2, 1) := by decide +kernel
theorem dX9_emit_19 : decode cX9_emit 19 = .ok (.aload_n 0, 1) := by decide +kernel
theorem dX9_emit_20 : decode cX9_emit 20 = .ok (.getfield 81, 3) := by decide +kernel
theorem dX9_emit_23 : decode cX9_emit 23 = .ok (.iadd, 1) := by decide +kernel
theorem dX9_emit_24 : decode cX9_emit 24 = .ok (.iaload, 1) := by decide +kernel
theorem dX9_emit_25 : decode cX9_emit 25 = .ok (.iadd, 1) := by decide +kernel
theorem dX9_emit_26 : decode cX9_emit 26 = .ok (.iload_n 1, 1) := by decide +kernel
theorem dX9_emit_27 : decode cX9_emit 27 = .ok (.iastore, 1) := by decide +kernel
theorem dX9_emit_28 : decode cX9_emit 28 = .ok (.aload_n 0, 1) := by decide +kernel
theorem dX9_emit_29 : decode cX9_emit 29 = .ok (.getfield 28, 3) := by decide +kernel
theorem dX9_emit_32 : decode cX9_emit 32 = .ok (.iconst 2, 1) := by decide +kernel
theorem dX9_emit_33 : decode cX9_emit 33 = .ok (.aload_n 0, 1) := by decide +kernel
theorem dX9_emit_34 : decode cX9_emit 34 = .ok (.getfield 81, 3) := by decide +kernel
theorem dX9_emit_37 : decode cX9_emit 37 = .ok (.iadd, 1) := by decide +kernel
theorem dX9_emit_38 : decode cX9_emit 38 = .ok (.dup2, 1) := by decide +kernel
theorem dX9_emit_39 : decode cX9_emit 39 = .ok (.iaload, 1) := by decide +kernel
theorem dX9_emit_40 : decode cX9_emit 40 = .ok (.iconst 1, 1) := by decide +kernel
theorem dX9_emit_41 : decode cX9_emit 41 = .ok (.iadd, 1) := by decide +kernel
theorem dX9_emit_42 : decode cX9_emit 42 = .ok (.iastore, 1) := by decide +kernel
theorem dX9_emit_43 : decode cX9_emit 43 = .ok (.iconst 1, 1) := by decide +kernel
theorem dX9_emit_44 : decode cX9_emit 44 = .ok (.ireturn, 1) := by decide +kernel
theorem dX9_sum_0 : decode cX9_sum 0 = .ok (.aload_n 0, 1) := by decide +kernel
theorem dX9_sum_1 : decode cX9_sum 1 = .ok (.invokevirtual 189, 3) := by decide +kernel
theorem dX9_sum_4 : decode cX9_sum 4 = .ok (.ifCond .ne 5, 3) := by decide +kernel
theorem dX9_sum_7 : decode cX9_sum 7 = .ok (.iconst 0, 1) := by decide +kernel
theorem dX9_sum_8 : decode cX9_sum 8 = .ok (.ireturn, 1) := by decide +kernel
theorem dX9_sum_9 : decode cX9_sum 9 = .ok (.aload_n 0, 1) := by decide +kernel
theorem dX9_sum_10 : decode cX9_sum 10 = .ok (.bipush 43, 2) := by decide +kernel
theorem dX9_sum_12 : decode cX9_sum 12 = .ok (.invokevirtual 142, 3) := by decide +kernel
theorem dX9_sum_15 : decode cX9_sum 15 = .ok (.ifCond .ne 12, 3) := by decide +kernel
theorem dX9_sum_18 : decode cX9_sum 18 = .ok (.aload_n 0, 1) := by decide +kernel
theorem dX9_sum_19 : decode cX9_sum 19 = .ok (.bipush 45, 2) := by decide +kernel
theorem dX9_sum_21 : decode cX9_sum 21 = .ok (.invokevirtual 142, 3) := by decide +kernel
theorem dX9_sum_24 : decode cX9_sum 24 = .ok (.ifCond .eq 41, 3) := by decide +kernel
theorem dX9_sum_27 : decode cX9_sum 27 = .ok (.aload_n 0, 1) := by decide +kernel
theorem dX9_sum_28 : decode cX9_sum 28 = .ok (.getfield 108, 3) := by decide +kernel
theorem dX9_sum_31 : decode cX9_sum 31 = .ok (.bipush 43, 2) := by decide +kernel
theorem dX9_sum_33 : decode cX9_sum 33 = .ok (.if_icmp .ne 7, 3) := by decide +kernel
theorem dX9_sum_36 : decode cX9_sum 36 = .ok (.iconst (-1), 1) := by decide +kernel
theorem dX9_sum_37 : decode cX9_sum 37 = .ok (.goto 5, 3) := by decide +kernel
theorem dX9_sum_40 : decode cX9_sum 40 = .ok (.bipush (-2), 2) := by decide +kernel
theorem dX9_sum_42 : decode cX9_sum 42 = .ok (.istore_n 1, 1) := by decide +kernel
theorem dX9_sum_43 : decode cX9_sum 43 = .ok (.aload_n 0, 1) := by decide +kernel
theorem dX9_sum_44 : decode cX9_sum 44 = .ok (.invokevirtual 139, 3) := by decide +kernel
theorem dX9_sum_47 : decode cX9_sum 47 = .ok (.aload_n 0, 1) := by decide +kernel
theorem dX9_sum_48 : decode cX9_sum 48 = .ok (.invokevirtual 189, 3) := by decide +kernel
theorem dX9_sum_51 : decode cX9_sum 51 = .ok (.ifCond .ne 5, 3) := by decide +kernel
theorem dX9_sum_54 : decode cX9_sum 54 = .ok (.iconst 0, 1) := by decide +kernel
theorem dX9_sum_55 : decode cX9_sum 55 = .ok (.ireturn, 1) := by decide +kernel
theorem dX9_sum_56 : decode cX9_sum 56 = .ok (.aload_n 0, 1) := by decide +kernel
theorem dX9_sum_57 : decode cX9_sum 57 = .ok (.iload_n 1, 1) := by decide +kernel
theorem dX9_sum_58 : decode cX9_sum 58 = .ok (.invokevirtual 84, 3) := by decide +kernel
theorem dX9_sum_61 : decode cX9_sum 61 = .ok (.pop, 1) := by decide +kernel
theorem dX9_sum_62 : decode cX9_sum 62 = .ok (.goto (-53), 3) := by decide +kernel
theorem dX9_sum_65 : decode cX9_sum 65 = .ok (.iconst 1, 1) := by decide +kernel
theorem dX9_sum_66 : decode cX9_sum 66 = .ok (.ireturn, 1) := by decide +kernel
theorem dX9_term_0 : decode cX9_term 0 = .ok (.aload_n 0, 1) := by decide +kernel
theorem dX9_term_1 : decode cX9_term 1 = .ok (.invokevirtual 192, 3) := by decide +kernel
theorem dX9_term_4 : decode cX9_term 4 = .ok (.ifCond .ne 5, 3) := by decide +kernel
theorem dX9_term_7 : decode cX9_term 7 = .ok (.iconst 0, 1) := by decide +kernel
theorem dX9_term_8 : decode cX9_term 8 = .ok (.ireturn, 1) := by decide +kernel
theorem dX9_term_9 : decode cX9_term 9 = .ok (.aload_n 0, 1) := by decide +kernel
theorem dX9_term_10 : decode cX9_term 10 = .ok (.bipush 42, 2) := by decide +kernel
theorem dX9_term_12 : decode cX9_term 12 = .ok (.invokevirtual 142, 3) := by decide +kernel
theorem dX9_term_15 : decode cX9_term 15 = .ok (.ifCond .ne 21, 3) := by decide +kernel
theorem dX9_term_18 : decode cX9_term 18 = .ok (.aload_n 0, 1) := by decide +kernel
theorem dX9_term_19 : decode cX9_term 19 = .ok (.bipush 47, 2) := by decide +kernel
theorem dX9_term_21 : decode cX9_term 21 = .ok (.invokevirtual 142, 3) := by decide +kernel
theorem dX9_term_24 : decode cX9_term 24 = .ok (.ifCond .ne 12, 3) := by decide +kernel
theorem dX9_term_27 : decode cX9_term 27 = .ok (.aload_n 0, 1) := by decide +kernel
theorem dX9_term_28 : decode cX9_term 28 = .ok (.bipush 37, 2) := by decide +kernel
theorem dX9_term_30 : decode cX9_term 30 = .ok (.invokevirtual 142, 3) := by decide +kernel
theorem dX9_term_33 : decode cX9_term 33 = .ok (.ifCond .eq 56, 3) := by decide +kernel
theorem dX9_term_36 : decode cX9_term 36 = .ok (.aload_n 0, 1) := by decide +kernel
theorem dX9_term_37 : decode cX9_term 37 = .ok (.getfield 108, 3) := by decide +kernel
theorem dX9_term_40 : decode cX9_term 40 = .ok (.bipush 42, 2) := by decide +kernel
theorem dX9_term_42 : decode cX9_term 42 = .ok (.if_icmp .ne 8, 3) := by decide +kernel
theorem dX9_term_45 : decode cX9_term 45 = .ok (.bipush (-3), 2) := by decide +kernel
theorem dX9_term_47 : decode cX9_term 47 = .ok (.goto 19, 3) := by decide +kernel
theorem dX9_term_50 : decode cX9_term 50 = .ok (.aload_n 0, 1) := by decide +kernel
theorem dX9_term_51 : decode cX9_term 51 = .ok (.getfield 108, 3) := by decide +kernel
theorem dX9_term_54 : decode cX9_term 54 = .ok (.bipush 47, 2) := by decide +kernel
theorem dX9_term_56 : decode cX9_term 56 = .ok (.if_icmp .ne 8, 3) := by decide +kernel
theorem dX9_term_59 : decode cX9_term 59 = .ok (.bipush (-4), 2) := by decide +kernel
theorem dX9_term_61 : decode cX9_term 61 = .ok (.goto 5, 3) := by decide +kernel
theorem dX9_term_64 : decode cX9_term 64 = .ok (.bipush (-5), 2) := by decide +kernel
theorem dX9_term_66 : decode cX9_term 66 = .ok (.istore_n 1, 1) := by decide +kernel
theorem dX9_term_67 : decode cX9_term 67 = .ok (.aload_n 0, 1) := by decide +kernel
theorem dX9_term_68 : decode cX9_term 68 = .ok (.invokevirtual 139, 3) := by decide +kernel
theorem dX9_term_71 : decode cX9_term 71 = .ok (.aload_n 0, 1) := by decide +kernel
theorem dX9_term_72 : decode cX9_term 72 = .ok (.invokevirtual 192, 3) := by decide +kernel
theorem dX9_term_75 : decode cX9_term 75 = .ok (.ifCond .ne 5, 3) := by decide +kernel
theorem dX9_term_78 : decode cX9_term 78 = .ok (.iconst 0, 1) := by decide +kernel
theorem dX9_term_79 : decode cX9_term 79 = .ok (.ireturn, 1) := by decide +kernel
theorem dX9_term_80 : decode cX9_term 80 = .ok (.aload_n 0, 1) := by decide +kernel
theorem dX9_term_81 : decode cX9_term 81 = .ok (.iload_n 1, 1) := by decide +kernel
theorem dX9_term_82 : decode cX9_term 82 = .ok (.invokevirtual 84, 3) := by decide +kernel
theorem dX9_term_85 : decode cX9_term 85 = .ok (.pop, 1) := by decide +kernel
theorem dX9_term_86 : decode cX9_term 86 = .ok (.goto (-77), 3) := by decide +kernel
theorem dX9_term_89 : decode cX9_term 89 = .ok (.iconst 1, 1) := by decide +kernel
theorem dX9_term_90 : decode cX9_term 90 = .ok (.ireturn, 1) := by decide +kernel
theorem dX9_factor_0 : decode cX9_factor 0 = .ok (.aload_n 0, 1) := by decide +kernel
theorem dX9_factor_1 : decode cX9_factor 1 = .ok (.bipush 40, 2) := by decide +kernel
theorem dX9_factor_3 : decode cX9_factor 3 = .ok (.invokevirtual 142, 3) := by decide +kernel
theorem dX9_factor_6 : decode cX9_factor 6 = .ok (.ifCond .eq 70, 3) := by decide +kernel
theorem dX9_factor_9 : decode cX9_factor 9 = .ok (.aload_n 0, 1) := by decide +kernel
theorem dX9_factor_10 : decode cX9_factor 10 = .ok (.iconst 4, 1) := by decide +kernel
theorem dX9_factor_11 : decode cX9_factor 11 = .ok (.aload_n 0, 1) := by decide +kernel
theorem dX9_factor_12 : decode cX9_factor 12 = .ok (.getfield 182, 3) := by decide +kernel
theorem dX9_factor_15 : decode cX9_factor 15 = .ok (.iconst 5, 1) := by decide +kernel
theorem dX9_factor_16 : decode cX9_factor 16 = .ok (.if_icmp .ge 7, 3) := by decide +kernel
theorem dX9_factor_19 : decode cX9_factor 19 = .ok (.iconst 1, 1) := by decide +kernel
theorem dX9_factor_20 : decode cX9_factor 20 = .ok (.goto 4, 3) := by decide +kernel
theorem dX9_factor_23 : decode cX9_factor 23 = .ok (.iconst 0, 1) := by decide +kernel
theorem dX9_factor_24 : decode cX9_factor 24 = .ok (.invokevirtual 151, 3) := by decide +kernel
theorem dX9_factor_27 : decode cX9_factor 27 = .ok (.ifCond .ne 5, 3) := by decide +kernel
theorem dX9_factor_30 : decode cX9_factor 30 = .ok (.iconst 0, 1) := by decide +kernel
theorem dX9_factor_31 : decode cX9_factor 31 = .ok (.ireturn, 1) := by decide +kernel
theorem dX9_factor_32 : decode cX9_factor 32 = .ok (.aload_n 0, 1) := by decide +kernel
theorem dX9_factor_33 : decode cX9_factor 33 = .ok (.dup, 1) := by decide +kernel
theorem dX9_factor_34 : decode cX9_factor 34 = .ok (.getfield 182, 3) := by decide +kernel
theorem dX9_factor_37 : decode cX9_factor 37 = .ok (.iconst 1, 1) := by decide +kernel
theorem dX9_factor_38 : decode cX9_factor 38 = .ok (.iadd, 1) := by decide +kernel
theorem dX9_factor_39 : decode cX9_factor 39 = .ok (.putfield 182, 3) := by decide +kernel
theorem dX9_factor_42 : decode cX9_factor 42 = .ok (.aload_n 0, 1) := by decide +kernel
theorem dX9_factor_43 : decode cX9_factor 43 = .ok (.invokevirtual 185, 3) := by decide +kernel
theorem dX9_factor_46 : decode cX9_factor 46 = .ok (.ifCond .eq 16, 3) := by decide +kernel
theorem dX9_factor_49 : decode cX9_factor 49 = .ok (.aload_n 0, 1) := by decide +kernel
theorem dX9_factor_50 : decode cX9_factor 50 = .ok (.bipush 41, 2) := by decide +kernel
theorem dX9_factor_52 : decode cX9_factor 52 = .ok (.invokevirtual 195, 3) := by decide +kernel
theorem dX9_factor_55 : decode cX9_factor 55 = .ok (.ifCond .eq 7, 3) := by decide +kernel
theorem dX9_factor_58 : decode cX9_factor 58 = .ok (.iconst 1, 1) := by decide +kernel
theorem dX9_factor_59 : decode cX9_factor 59 = .ok (.goto 4, 3) := by decide +kernel
theorem dX9_factor_62 : decode cX9_factor 62 = .ok (.iconst 0, 1) := by decide +kernel
theorem dX9_factor_63 : decode cX9_factor 63 = .ok (.istore_n 1, 1) := by decide +kernel
theorem dX9_factor_64 : decode cX9_factor 64 = .ok (.aload_n 0, 1) := by decide +kernel
theorem dX9_factor_65 : decode cX9_factor 65 = .ok (.dup, 1) := by decide +kernel
theorem dX9_factor_66 : decode cX9_factor 66 = .ok (.getfield 182, 3) := by decide +kernel
theorem dX9_factor_69 : decode cX9_factor 69 = .ok (.iconst 1, 1) := by decide +kernel
theorem dX9_factor_70 : decode cX9_factor 70 = .ok (.isub, 1) := by decide +kernel
theorem dX9_factor_71 : decode cX9_factor 71 = .ok (.putfield 182, 3) := by decide +kernel
theorem dX9_factor_74 : decode cX9_factor 74 = .ok (.iload_n 1, 1) := by decide +kernel
theorem dX9_factor_75 : decode cX9_factor 75 = .ok (.ireturn, 1) := by decide +kernel
theorem dX9_factor_76 : decode cX9_factor 76 = .ok (.aload_n 0, 1) := by decide +kernel
theorem dX9_factor_77 : decode cX9_factor 77 = .ok (.getfield 111, 3) := by decide +kernel
theorem dX9_factor_80 : decode cX9_factor 80 = .ok (.iconst 2, 1) := by decide +kernel
theorem dX9_factor_81 : decode cX9_factor 81 = .ok (.if_icmp .ne 13, 3) := by decide +kernel
theorem dX9_factor_84 : decode cX9_factor 84 = .ok (.bipush 100, 2) := by decide +kernel
theorem dX9_factor_86 : decode cX9_factor 86 = .ok (.aload_n 0, 1) := by decide +kernel
theorem dX9_factor_87 : decode cX9_factor 87 = .ok (.getfield 108, 3) := by decide +kernel
theorem dX9_factor_90 : decode cX9_factor 90 = .ok (.iadd, 1) := by decide +kernel
theorem dX9_factor_91 : decode cX9_factor 91 = .ok (.goto 56, 3) := by decide +kernel
theorem dX9_factor_94 : decode cX9_factor 94 = .ok (.aload_n 0, 1) := by decide +kernel
theorem dX9_factor_95 : decode cX9_factor 95 = .ok (.ldc 198, 2) := by decide +kernel
theorem dX9_factor_97 : decode cX9_factor 97 = .ok (.invokevirtual 160, 3) := by decide +kernel
theorem dX9_factor_100 : decode cX9_factor 100 = .ok (.ifCond .eq 7, 3) := by decide +kernel
theorem dX9_factor_103 : decode cX9_factor 103 = .ok (.iconst 1, 1) := by decide +kernel
theorem dX9_factor_104 : decode cX9_factor 104 = .ok (.goto 43, 3) := by decide +kernel
theorem dX9_factor_107 : decode cX9_factor 107 = .ok (.aload_n 0, 1) := by decide +kernel
theorem dX9_factor_108 : decode cX9_factor 108 = .ok (.ldc 200, 2) := by decide +kernel
theorem dX9_factor_110 : decode cX9_factor 110 = .ok (.invokevirtual 160, 3) := by decide +kernel
theorem dX9_factor_113 : decode cX9_factor 113 = .ok (.ifCond .eq 7, 3) := by decide +kernel
theorem dX9_factor_116 : decode cX9_factor 116 = .ok (.iconst 2, 1) := by decide +kernel
theorem dX9_factor_117 : decode cX9_factor 117 = .ok (.goto 30, 3) := by decide +kernel
theorem dX9_factor_120 : decode cX9_factor 120 = .ok (.aload_n 0, 1) := by decide +kernel
theorem dX9_factor_121 : decode cX9_factor 121 = .ok (.ldc 202, 2) := by decide +kernel
theorem dX9_factor_123 : decode cX9_factor 123 = .ok (.invokevirtual 160, 3) := by decide +kernel
theorem dX9_factor_126 : decode cX9_factor 126 = .ok (.ifCond .eq 7, 3) := by decide +kernel
theorem dX9_factor_129 : decode cX9_factor 129 = .ok (.iconst 3, 1) := by decide +kernel
theorem dX9_factor_130 : decode cX9_factor 130 = .ok (.goto 17, 3) := by decide +kernel
theorem dX9_factor_133 : decode cX9_factor 133 = .ok (.aload_n 0, 1) := by decide +kernel
theorem dX9_factor_134 : decode cX9_factor 134 = .ok (.ldc 204, 2) := by decide +kernel
theorem dX9_factor_136 : decode cX9_factor 136 = .ok (.invokevirtual 160, 3) := by decide +kernel
theorem dX9_factor_139 : decode cX9_factor 139 = .ok (.ifCond .eq 7, 3) := by decide +kernel
theorem dX9_factor_142 : decode cX9_factor 142 = .ok (.iconst 4, 1) := by decide +kernel
theorem dX9_factor_143 : decode cX9_factor 143 = .ok (.goto 4, 3) := by decide +kernel
theorem dX9_factor_146 : decode cX9_factor 146 = .ok (.iconst 0, 1) := by decide +kernel
theorem dX9_factor_147 : decode cX9_factor 147 = .ok (.istore_n 1, 1) := by decide +kernel
theorem dX9_factor_148 : decode cX9_factor 148 = .ok (.iload_n 1, 1) := by decide +kernel
theorem dX9_factor_149 : decode cX9_factor 149 = .ok (.ifCond .ne 9, 3) := by decide +kernel
theorem dX9_factor_152 : decode cX9_factor 152 = .ok (.aload_n 0, 1) := by decide +kernel
theorem dX9_factor_153 : decode cX9_factor 153 = .ok (.iconst 1, 1) := by decide +kernel
theorem dX9_factor_154 : decode cX9_factor 154 = .ok (.invokevirtual 133, 3) := by decide +kernel
theorem dX9_factor_157 : decode cX9_factor 157 = .ok (.ireturn, 1) := by decide +kernel
theorem dX9_factor_158 : decode cX9_factor 158 = .ok (.aload_n 0, 1) := by decide +kernel
theorem dX9_factor_159 : decode cX9_factor 159 = .ok (.invokevirtual 139, 3) := by decide +kernel
theorem dX9_factor_162 : decode cX9_factor 162 = .ok (.aload_n 0, 1) := by decide +kernel
theorem dX9_factor_163 : decode cX9_factor 163 = .ok (.iload_n 1, 1) := by decide +kernel
theorem dX9_factor_164 : decode cX9_factor 164 = .ok (.invokevirtual 84, 3) := by decide +kernel
theorem dX9_factor_167 : decode cX9_factor 167 = .ok (.ireturn, 1) := by decide +kernel
theorem dX9_latencyOf_0 : decode cX9_latencyOf 0 = .ok (.aload_n 0, 1) := by decide +kernel
theorem dX9_latencyOf_1 : decode cX9_latencyOf 1 = .ok (.getfield 45, 3) := by decide +kernel
theorem dX9_latencyOf_4 : decode cX9_latencyOf 4 = .ok (.iconst 1, 1) := by decide +kernel
theorem dX9_latencyOf_5 : decode cX9_latencyOf 5 = .ok (.aload_n 0, 1) := by decide +kernel
theorem dX9_latencyOf_6 : decode cX9_latencyOf 6 = .ok (.getfield 7, 3) := by decide +kernel
theorem dX9_latencyOf_9 : decode cX9_latencyOf 9 = .ok (.iload_n 2, 1) := by decide +kernel
theorem dX9_latencyOf_10 : decode cX9_latencyOf 10 = .ok (.iconst 0, 1) := by decide +kernel
theorem dX9_latencyOf_11 : decode cX9_latencyOf 11 = .ok (.iadd, 1) := by decide +kernel
theorem dX9_latencyOf_12 : decode cX9_latencyOf 12 = .ok (.iaload, 1) := by decide +kernel
theorem dX9_latencyOf_13 : decode cX9_latencyOf 13 = .ok (.iastore, 1) := by decide +kernel
theorem dX9_latencyOf_14 : decode cX9_latencyOf 14 = .ok (.aload_n 0, 1) := by decide +kernel
theorem dX9_latencyOf_15 : decode cX9_latencyOf 15 = .ok (.getfield 45, 3) := by decide +kernel
theorem dX9_latencyOf_18 : decode cX9_latencyOf 18 = .ok (.iconst 2, 1) := by decide +kernel
theorem dX9_latencyOf_19 : decode cX9_latencyOf 19 = .ok (.aload_n 0, 1) := by decide +kernel
theorem dX9_latencyOf_20 : decode cX9_latencyOf 20 = .ok (.getfield 7, 3) := by decide +kernel
theorem dX9_latencyOf_23 : decode cX9_latencyOf 23 = .ok (.iload_n 2, 1) := by decide +kernel
theorem dX9_latencyOf_24 : decode cX9_latencyOf 24 = .ok (.iconst 2, 1) := by decide +kernel
theorem dX9_latencyOf_25 : decode cX9_latencyOf 25 = .ok (.iadd, 1) := by decide +kernel
theorem dX9_latencyOf_26 : decode cX9_latencyOf 26 = .ok (.iaload, 1) := by decide +kernel
theorem dX9_latencyOf_27 : decode cX9_latencyOf 27 = .ok (.iastore, 1) := by decide +kernel
theorem dX9_latencyOf_28 : decode cX9_latencyOf 28 = .ok (.aload_n 0, 1) := by decide +kernel
theorem dX9_latencyOf_29 : decode cX9_latencyOf 29 = .ok (.getfield 45, 3) := by decide +kernel
theorem dX9_latencyOf_32 : decode cX9_latencyOf 32 = .ok (.iconst 3, 1) := by decide +kernel
theorem dX9_latencyOf_33 : decode cX9_latencyOf 33 = .ok (.aload_n 0, 1) := by decide +kernel
theorem dX9_latencyOf_34 : decode cX9_latencyOf 34 = .ok (.getfield 7, 3) := by decide +kernel
theorem dX9_latencyOf_37 : decode cX9_latencyOf 37 = .ok (.iload_n 2, 1) := by decide +kernel
theorem dX9_latencyOf_38 : decode cX9_latencyOf 38 = .ok (.iconst 3, 1) := by decide +kernel
theorem dX9_latencyOf_39 : decode cX9_latencyOf 39 = .ok (.iadd, 1) := by decide +kernel
theorem dX9_latencyOf_40 : decode cX9_latencyOf 40 = .ok (.iaload, 1) := by decide +kernel
theorem dX9_latencyOf_41 : decode cX9_latencyOf 41 = .ok (.iastore, 1) := by decide +kernel
theorem dX9_latencyOf_42 : decode cX9_latencyOf 42 = .ok (.aload_n 0, 1) := by decide +kernel
theorem dX9_latencyOf_43 : decode cX9_latencyOf 43 = .ok (.getfield 45, 3) := by decide +kernel
theorem dX9_latencyOf_46 : decode cX9_latencyOf 46 = .ok (.iconst 4, 1) := by decide +kernel
theorem dX9_latencyOf_47 : decode cX9_latencyOf 47 = .ok (.aload_n 0, 1) := by decide +kernel
theorem dX9_latencyOf_48 : decode cX9_latencyOf 48 = .ok (.getfield 7, 3) := by decide +kernel
theorem dX9_latencyOf_51 : decode cX9_latencyOf 51 = .ok (.iconst 0, 1) := by decide +kernel
theorem dX9_latencyOf_52 : decode cX9_latencyOf 52 = .ok (.iaload, 1) := by decide +kernel
theorem dX9_latencyOf_53 : decode cX9_latencyOf 53 = .ok (.iastore, 1) := by decide +kernel
theorem dX9_latencyOf_54 : decode cX9_latencyOf 54 = .ok (.iconst 0, 1) := by decide +kernel
theorem dX9_latencyOf_55 : decode cX9_latencyOf 55 = .ok (.istore_n 3, 1) := by decide +kernel
theorem dX9_latencyOf_56 : decode cX9_latencyOf 56 = .ok (.iconst 0, 1) := by decide +kernel
theorem dX9_latencyOf_57 : decode cX9_latencyOf 57 = .ok (.istore 4, 2) := by decide +kernel
theorem dX9_latencyOf_59 : decode cX9_latencyOf 59 = .ok (.iload 4, 2) := by decide +kernel
theorem dX9_latencyOf_61 : decode cX9_latencyOf 61 = .ok (.aload_n 0, 1) := by decide +kernel
theorem dX9_latencyOf_62 : decode cX9_latencyOf 62 = .ok (.getfield 28, 3) := by decide +kernel
theorem dX9_latencyOf_65 : decode cX9_latencyOf 65 = .ok (.iload_n 1, 1) := by decide +kernel
theorem dX9_latencyOf_66 : decode cX9_latencyOf 66 = .ok (.iaload, 1) := by decide +kernel
theorem dX9_latencyOf_67 : decode cX9_latencyOf 67 = .ok (.if_icmp .ge 93, 3) := by decide +kernel
theorem dX9_latencyOf_70 : decode cX9_latencyOf 70 = .ok (.aload_n 0, 1) := by decide +kernel
theorem dX9_latencyOf_71 : decode cX9_latencyOf 71 = .ok (.getfield 31, 3) := by decide +kernel
theorem dX9_latencyOf_74 : decode cX9_latencyOf 74 = .ok (.sipush 620, 3) := by decide +kernel
theorem dX9_latencyOf_77 : decode cX9_latencyOf 77 = .ok (.iload_n 1, 1) := by decide +kernel
theorem dX9_latencyOf_78 : decode cX9_latencyOf 78 = .ok (.imul, 1) := by decide +kernel
theorem dX9_latencyOf_79 : decode cX9_latencyOf 79 = .ok (.iload 4, 2) := by decide +kernel
theorem dX9_latencyOf_81 : decode cX9_latencyOf 81 = .ok (.iadd, 1) := by decide +kernel
theorem dX9_latencyOf_82 : decode cX9_latencyOf 82 = .ok (.iaload, 1) := by decide +kernel
theorem dX9_latencyOf_83 : decode cX9_latencyOf 83 = .ok (.istore 5, 2) := by decide +kernel
theorem dX9_latencyOf_85 : decode cX9_latencyOf 85 = .ok (.iload 5, 2) := by decide +kernel
theorem dX9_latencyOf_87 : decode cX9_latencyOf 87 = .ok (.ifCond .le 37, 3) := by decide +kernel
theorem dX9_latencyOf_90 : decode cX9_latencyOf 90 = .ok (.aload_n 0, 1) := by decide +kernel
theorem dX9_latencyOf_91 : decode cX9_latencyOf 91 = .ok (.getfield 42, 3) := by decide +kernel
theorem dX9_latencyOf_94 : decode cX9_latencyOf 94 = .ok (.iload_n 3, 1) := by decide +kernel
theorem dX9_latencyOf_95 : decode cX9_latencyOf 95 = .ok (.iload 5, 2) := by decide +kernel
theorem dX9_latencyOf_97 : decode cX9_latencyOf 97 = .ok (.bipush 100, 2) := by decide +kernel
theorem dX9_latencyOf_99 : decode cX9_latencyOf 99 = .ok (.if_icmp .lt 11, 3) := by decide +kernel
theorem dX9_latencyOf_102 : decode cX9_latencyOf 102 = .ok (.iload 5, 2) := by decide +kernel
theorem dX9_latencyOf_104 : decode cX9_latencyOf 104 = .ok (.bipush 100, 2) := by decide +kernel
theorem dX9_latencyOf_106 : decode cX9_latencyOf 106 = .ok (.isub, 1) := by decide +kernel
theorem dX9_latencyOf_107 : decode cX9_latencyOf 107 = .ok (.goto 10, 3) := by decide +kernel
theorem dX9_latencyOf_110 : decode cX9_latencyOf 110 = .ok (.aload_n 0, 1) := by decide +kernel
theorem dX9_latencyOf_111 : decode cX9_latencyOf 111 = .ok (.getfield 45, 3) := by decide +kernel
theorem dX9_latencyOf_114 : decode cX9_latencyOf 114 = .ok (.iload 5, 2) := by decide +kernel
theorem dX9_latencyOf_116 : decode cX9_latencyOf 116 = .ok (.iaload, 1) := by decide +kernel
theorem dX9_latencyOf_117 : decode cX9_latencyOf 117 = .ok (.iastore, 1) := by decide +kernel
theorem dX9_latencyOf_118 : decode cX9_latencyOf 118 = .ok (.iinc 3 1, 3) := by decide +kernel
theorem dX9_latencyOf_121 : decode cX9_latencyOf 121 = .ok (.goto 33, 3) := by decide +kernel
theorem dX9_latencyOf_124 : decode cX9_latencyOf 124 = .ok (.iinc 3 (-1), 3) := by decide +kernel
theorem dX9_latencyOf_127 : decode cX9_latencyOf 127 = .ok (.aload_n 0, 1) := by decide +kernel
theorem dX9_latencyOf_128 : decode cX9_latencyOf 128 = .ok (.getfield 42, 3) := by decide +kernel
theorem dX9_latencyOf_131 : decode cX9_latencyOf 131 = .ok (.iload_n 3, 1) := by decide +kernel
theorem dX9_latencyOf_132 : decode cX9_latencyOf 132 = .ok (.iconst 1, 1) := by decide +kernel
theorem dX9_latencyOf_133 : decode cX9_latencyOf 133 = .ok (.isub, 1) := by decide +kernel
theorem dX9_latencyOf_134 : decode cX9_latencyOf 134 = .ok (.iload 5, 2) := by decide +kernel
theorem dX9_latencyOf_136 : decode cX9_latencyOf 136 = .ok (.aload_n 0, 1) := by decide +kernel
theorem dX9_latencyOf_137 : decode cX9_latencyOf 137 = .ok (.getfield 42, 3) := by decide +kernel
theorem dX9_latencyOf_140 : decode cX9_latencyOf 140 = .ok (.iload_n 3, 1) := by decide +kernel
theorem dX9_latencyOf_141 : decode cX9_latencyOf 141 = .ok (.iconst 1, 1) := by decide +kernel
theorem dX9_latencyOf_142 : decode cX9_latencyOf 142 = .ok (.isub, 1) := by decide +kernel
theorem dX9_latencyOf_143 : decode cX9_latencyOf 143 = .ok (.iaload, 1) := by decide +kernel
theorem dX9_latencyOf_144 : decode cX9_latencyOf 144 = .ok (.aload_n 0, 1) := by decide +kernel
theorem dX9_latencyOf_145 : decode cX9_latencyOf 145 = .ok (.getfield 42, 3) := by decide +kernel
theorem dX9_latencyOf_148 : decode cX9_latencyOf 148 = .ok (.iload_n 3, 1) := by decide +kernel
theorem dX9_latencyOf_149 : decode cX9_latencyOf 149 = .ok (.iaload, 1) := by decide +kernel
theorem dX9_latencyOf_150 : decode cX9_latencyOf 150 = .ok (.invokestatic 206, 3) := by decide +kernel
theorem dX9_latencyOf_153 : decode cX9_latencyOf 153 = .ok (.iastore, 1) := by decide +kernel
theorem dX9_latencyOf_154 : decode cX9_latencyOf 154 = .ok (.iinc 4 1, 3) := by decide +kernel
theorem dX9_latencyOf_157 : decode cX9_latencyOf 157 = .ok (.goto (-98), 3) := by decide +kernel
theorem dX9_latencyOf_160 : decode cX9_latencyOf 160 = .ok (.aload_n 0, 1) := by decide +kernel
theorem dX9_latencyOf_161 : decode cX9_latencyOf 161 = .ok (.getfield 42, 3) := by decide +kernel
theorem dX9_latencyOf_164 : decode cX9_latencyOf 164 = .ok (.iconst 0, 1) := by decide +kernel
theorem dX9_latencyOf_165 : decode cX9_latencyOf 165 = .ok (.iaload, 1) := by decide +kernel
theorem dX9_latencyOf_166 : decode cX9_latencyOf 166 = .ok (.ifCond .ge 7, 3) := by decide +kernel
theorem dX9_latencyOf_169 : decode cX9_latencyOf 169 = .ok (.iconst 0, 1) := by decide +kernel
theorem dX9_latencyOf_170 : decode cX9_latencyOf 170 = .ok (.goto 25, 3) := by decide +kernel
theorem dX9_latencyOf_173 : decode cX9_latencyOf 173 = .ok (.aload_n 0, 1) := by decide +kernel
theorem dX9_latencyOf_174 : decode cX9_latencyOf 174 = .ok (.getfield 42, 3) := by decide +kernel
theorem dX9_latencyOf_177 : decode cX9_latencyOf 177 = .ok (.iconst 0, 1) := by decide +kernel
theorem dX9_latencyOf_178 : decode cX9_latencyOf 178 = .ok (.iaload, 1) := by decide +kernel
theorem dX9_latencyOf_179 : decode cX9_latencyOf 179 = .ok (.bipush 50, 2) := by decide +kernel
theorem dX9_latencyOf_181 : decode cX9_latencyOf 181 = .ok (.if_icmp .le 8, 3) := by decide +kernel
theorem dX9_latencyOf_184 : decode cX9_latencyOf 184 = .ok (.bipush 50, 2) := by decide +kernel
theorem dX9_latencyOf_186 : decode cX9_latencyOf 186 = .ok (.goto 9, 3) := by decide +kernel
theorem dX9_latencyOf_189 : decode cX9_latencyOf 189 = .ok (.aload_n 0, 1) := by decide +kernel
theorem dX9_latencyOf_190 : decode cX9_latencyOf 190 = .ok (.getfield 42, 3) := by decide +kernel
theorem dX9_latencyOf_193 : decode cX9_latencyOf 193 = .ok (.iconst 0, 1) := by decide +kernel
theorem dX9_latencyOf_194 : decode cX9_latencyOf 194 = .ok (.iaload, 1) := by decide +kernel
theorem dX9_latencyOf_195 : decode cX9_latencyOf 195 = .ok (.ireturn, 1) := by decide +kernel
theorem dX9_joined_0 : decode cX9_joined 0 = .ok (.iload_n 0, 1) := by decide +kernel
theorem dX9_joined_1 : decode cX9_joined 1 = .ok (.tableswitch 55 (-4) (-1) #[43, 39, 35, 31], 31) := by decide +kernel
theorem dX9_joined_32 : decode cX9_joined 32 = .ok (.iload_n 1, 1) := by decide +kernel
theorem dX9_joined_33 : decode cX9_joined 33 = .ok (.iload_n 2, 1) := by decide +kernel
theorem dX9_joined_34 : decode cX9_joined 34 = .ok (.iadd, 1) := by decide +kernel
theorem dX9_joined_35 : decode cX9_joined 35 = .ok (.ireturn, 1) := by decide +kernel
theorem dX9_joined_36 : decode cX9_joined 36 = .ok (.iload_n 1, 1) := by decide +kernel
theorem dX9_joined_37 : decode cX9_joined 37 = .ok (.iload_n 2, 1) := by decide +kernel
theorem dX9_joined_38 : decode cX9_joined 38 = .ok (.isub, 1) := by decide +kernel
theorem dX9_joined_39 : decode cX9_joined 39 = .ok (.ireturn, 1) := by decide +kernel
theorem dX9_joined_40 : decode cX9_joined 40 = .ok (.iload_n 1, 1) := by decide +kernel
theorem dX9_joined_41 : decode cX9_joined 41 = .ok (.iload_n 2, 1) := by decide +kernel
theorem dX9_joined_42 : decode cX9_joined 42 = .ok (.imul, 1) := by decide +kernel
theorem dX9_joined_43 : decode cX9_joined 43 = .ok (.ireturn, 1) := by decide +kernel
theorem dX9_joined_44 : decode cX9_joined 44 = .ok (.iload_n 2, 1) := by decide +kernel
theorem dX9_joined_45 : decode cX9_joined 45 = .ok (.ifCond .ne 7, 3) := by decide +kernel
theorem dX9_joined_48 : decode cX9_joined 48 = .ok (.iconst 0, 1) := by decide +kernel
theorem dX9_joined_49 : decode cX9_joined 49 = .ok (.goto 6, 3) := by decide +kernel
theorem dX9_joined_52 : decode cX9_joined 52 = .ok (.iload_n 1, 1) := by decide +kernel
theorem dX9_joined_53 : decode cX9_joined 53 = .ok (.iload_n 2, 1) := by decide +kernel
theorem dX9_joined_54 : decode cX9_joined 54 = .ok (.idiv, 1) := by decide +kernel
theorem dX9_joined_55 : decode cX9_joined 55 = .ok (.ireturn, 1) := by decide +kernel
theorem dX9_joined_56 : decode cX9_joined 56 = .ok (.iload_n 2, 1) := by decide +kernel
theorem dX9_joined_57 : decode cX9_joined 57 = .ok (.ifCond .ne 7, 3) := by decide +kernel
theorem dX9_joined_60 : decode cX9_joined 60 = .ok (.iconst 0, 1) := by decide +kernel
theorem dX9_joined_61 : decode cX9_joined 61 = .ok (.goto 6, 3) := by decide +kernel
theorem dX9_joined_64 : decode cX9_joined 64 = .ok (.iload_n 1, 1) := by decide +kernel
theorem dX9_joined_65 : decode cX9_joined 65 = .ok (.iload_n 2, 1) := by decide +kernel
theorem dX9_joined_66 : decode cX9_joined 66 = .ok (.irem, 1) := by decide +kernel
theorem dX9_joined_67 : decode cX9_joined 67 = .ok (.ireturn, 1) := by decide +kernel
theorem dX9_parse_0 : decode cX9_parse 0 = .ok (.aload_n 0, 1) := by decide +kernel
theorem dX9_parse_1 : decode cX9_parse 1 = .ok (.iconst 0, 1) := by decide +kernel
theorem dX9_parse_2 : decode cX9_parse 2 = .ok (.putfield 70, 3) := by decide +kernel
theorem dX9_parse_5 : decode cX9_parse 5 = .ok (.aload_n 0, 1) := by decide +kernel
theorem dX9_parse_6 : decode cX9_parse 6 = .ok (.iload_n 1, 1) := by decide +kernel
theorem dX9_parse_7 : decode cX9_parse 7 = .ok (.iconst 0, 1) := by decide +kernel
theorem dX9_parse_8 : decode cX9_parse 8 = .ok (.aload_n 0, 1) := by decide +kernel
theorem dX9_parse_9 : decode cX9_parse 9 = .ok (.getfield 88, 3) := by decide +kernel
theorem dX9_parse_12 : decode cX9_parse 12 = .ok (.invokestatic 114, 3) := by decide +kernel
theorem dX9_parse_15 : decode cX9_parse 15 = .ok (.ifCond .ne 7, 3) := by decide +kernel
theorem dX9_parse_18 : decode cX9_parse 18 = .ok (.iconst 1, 1) := by decide +kernel
theorem dX9_parse_19 : decode cX9_parse 19 = .ok (.goto 4, 3) := by decide +kernel
theorem dX9_parse_22 : decode cX9_parse 22 = .ok (.iconst 0, 1) := by decide +kernel
theorem dX9_parse_23 : decode cX9_parse 23 = .ok (.iconst 1, 1) := by decide +kernel
theorem dX9_parse_24 : decode cX9_parse 24 = .ok (.invokevirtual 210, 3) := by decide +kernel
theorem dX9_parse_27 : decode cX9_parse 27 = .ok (.ifCond .eq 5, 3) := by decide +kernel
theorem dX9_parse_30 : decode cX9_parse 30 = .ok (.iconst 0, 1) := by decide +kernel
theorem dX9_parse_31 : decode cX9_parse 31 = .ok (.ireturn, 1) := by decide +kernel
theorem dX9_parse_32 : decode cX9_parse 32 = .ok (.aload_n 0, 1) := by decide +kernel
theorem dX9_parse_33 : decode cX9_parse 33 = .ok (.iload_n 1, 1) := by decide +kernel
theorem dX9_parse_34 : decode cX9_parse 34 = .ok (.putfield 95, 3) := by decide +kernel
theorem dX9_parse_37 : decode cX9_parse 37 = .ok (.aload_n 0, 1) := by decide +kernel
theorem dX9_parse_38 : decode cX9_parse 38 = .ok (.iconst 0, 1) := by decide +kernel
theorem dX9_parse_39 : decode cX9_parse 39 = .ok (.putfield 88, 3) := by decide +kernel
theorem dX9_parse_42 : decode cX9_parse 42 = .ok (.aload_n 0, 1) := by decide +kernel
theorem dX9_parse_43 : decode cX9_parse 43 = .ok (.iconst 0, 1) := by decide +kernel
theorem dX9_parse_44 : decode cX9_parse 44 = .ok (.putfield 98, 3) := by decide +kernel
theorem dX9_parse_47 : decode cX9_parse 47 = .ok (.aload_n 0, 1) := by decide +kernel
theorem dX9_parse_48 : decode cX9_parse 48 = .ok (.iconst 0, 1) := by decide +kernel
theorem dX9_parse_49 : decode cX9_parse 49 = .ok (.putfield 130, 3) := by decide +kernel
theorem dX9_parse_52 : decode cX9_parse 52 = .ok (.aload_n 0, 1) := by decide +kernel
theorem dX9_parse_53 : decode cX9_parse 53 = .ok (.iconst (-1), 1) := by decide +kernel
theorem dX9_parse_54 : decode cX9_parse 54 = .ok (.putfield 38, 3) := by decide +kernel
theorem dX9_parse_57 : decode cX9_parse 57 = .ok (.aload_n 0, 1) := by decide +kernel
theorem dX9_parse_58 : decode cX9_parse 58 = .ok (.iconst 0, 1) := by decide +kernel
theorem dX9_parse_59 : decode cX9_parse 59 = .ok (.putfield 145, 3) := by decide +kernel
theorem dX9_parse_62 : decode cX9_parse 62 = .ok (.aload_n 0, 1) := by decide +kernel
theorem dX9_parse_63 : decode cX9_parse 63 = .ok (.invokevirtual 61, 3) := by decide +kernel
theorem dX9_parse_66 : decode cX9_parse 66 = .ok (.aload_n 0, 1) := by decide +kernel
theorem dX9_parse_67 : decode cX9_parse 67 = .ok (.invokevirtual 139, 3) := by decide +kernel
theorem dX9_parse_70 : decode cX9_parse 70 = .ok (.iconst 1, 1) := by decide +kernel
theorem dX9_parse_71 : decode cX9_parse 71 = .ok (.istore_n 2, 1) := by decide +kernel
theorem dX9_parse_72 : decode cX9_parse 72 = .ok (.iload_n 2, 1) := by decide +kernel
theorem dX9_parse_73 : decode cX9_parse 73 = .ok (.ifCond .eq 35, 3) := by decide +kernel
theorem dX9_parse_76 : decode cX9_parse 76 = .ok (.aload_n 0, 1) := by decide +kernel
theorem dX9_parse_77 : decode cX9_parse 77 = .ok (.getfield 111, 3) := by decide +kernel
theorem dX9_parse_80 : decode cX9_parse 80 = .ok (.ifCond .eq 28, 3) := by decide +kernel
theorem dX9_parse_83 : decode cX9_parse 83 = .ok (.aload_n 0, 1) := by decide +kernel
theorem dX9_parse_84 : decode cX9_parse 84 = .ok (.invokevirtual 214, 3) := by decide +kernel
theorem dX9_parse_87 : decode cX9_parse 87 = .ok (.ifCond .eq 16, 3) := by decide +kernel
theorem dX9_parse_90 : decode cX9_parse 90 = .ok (.aload_n 0, 1) := by decide +kernel
theorem dX9_parse_91 : decode cX9_parse 91 = .ok (.bipush 59, 2) := by decide +kernel
theorem dX9_parse_93 : decode cX9_parse 93 = .ok (.invokevirtual 195, 3) := by decide +kernel
theorem dX9_parse_96 : decode cX9_parse 96 = .ok (.ifCond .eq 7, 3) := by decide +kernel
theorem dX9_parse_99 : decode cX9_parse 99 = .ok (.iconst 1, 1) := by decide +kernel
theorem dX9_parse_100 : decode cX9_parse 100 = .ok (.goto 4, 3) := by decide +kernel
theorem dX9_parse_103 : decode cX9_parse 103 = .ok (.iconst 0, 1) := by decide +kernel
theorem dX9_parse_104 : decode cX9_parse 104 = .ok (.istore_n 2, 1) := by decide +kernel
theorem dX9_parse_105 : decode cX9_parse 105 = .ok (.goto (-33), 3) := by decide +kernel
theorem dX9_parse_108 : decode cX9_parse 108 = .ok (.iload_n 2, 1) := by decide +kernel
theorem dX9_parse_109 : decode cX9_parse 109 = .ok (.ifCond .ne 8, 3) := by decide +kernel
theorem dX9_parse_112 : decode cX9_parse 112 = .ok (.aload_n 0, 1) := by decide +kernel
theorem dX9_parse_113 : decode cX9_parse 113 = .ok (.getfield 130, 3) := by decide +kernel
theorem dX9_parse_116 : decode cX9_parse 116 = .ok (.ireturn, 1) := by decide +kernel
theorem dX9_parse_117 : decode cX9_parse 117 = .ok (.aload_n 0, 1) := by decide +kernel
theorem dX9_parse_118 : decode cX9_parse 118 = .ok (.invokevirtual 64, 3) := by decide +kernel
theorem dX9_parse_121 : decode cX9_parse 121 = .ok (.aload_n 0, 1) := by decide +kernel
theorem dX9_parse_122 : decode cX9_parse 122 = .ok (.invokevirtual 67, 3) := by decide +kernel
theorem dX9_parse_125 : decode cX9_parse 125 = .ok (.iconst 0, 1) := by decide +kernel
theorem dX9_parse_126 : decode cX9_parse 126 = .ok (.ireturn, 1) := by decide +kernel
theorem dX9_errorPosition_0 : decode cX9_errorPosition 0 = .ok (.aload_n 0, 1) := by decide +kernel
theorem dX9_errorPosition_1 : decode cX9_errorPosition 1 = .ok (.iconst 0, 1) := by decide +kernel
theorem dX9_errorPosition_2 : decode cX9_errorPosition 2 = .ok (.putfield 70, 3) := by decide +kernel
theorem dX9_errorPosition_5 : decode cX9_errorPosition 5 = .ok (.aload_n 0, 1) := by decide +kernel
theorem dX9_errorPosition_6 : decode cX9_errorPosition 6 = .ok (.getfield 38, 3) := by decide +kernel
theorem dX9_errorPosition_9 : decode cX9_errorPosition 9 = .ok (.ireturn, 1) := by decide +kernel
theorem dX9_begins_0 : decode cX9_begins 0 = .ok (.iconst 0, 1) := by decide +kernel
theorem dX9_begins_1 : decode cX9_begins 1 = .ok (.istore_n 1, 1) := by decide +kernel
theorem dX9_begins_2 : decode cX9_begins 2 = .ok (.iload_n 1, 1) := by decide +kernel
theorem dX9_begins_3 : decode cX9_begins 3 = .ok (.sipush 2075, 3) := by decide +kernel
theorem dX9_begins_6 : decode cX9_begins 6 = .ok (.if_icmp .ge 16, 3) := by decide +kernel
theorem dX9_begins_9 : decode cX9_begins 9 = .ok (.aload_n 0, 1) := by decide +kernel
theorem dX9_begins_10 : decode cX9_begins 10 = .ok (.getfield 7, 3) := by decide +kernel
theorem dX9_begins_13 : decode cX9_begins 13 = .ok (.iload_n 1, 1) := by decide +kernel
theorem dX9_begins_14 : decode cX9_begins 14 = .ok (.iconst 0, 1) := by decide +kernel
theorem dX9_begins_15 : decode cX9_begins 15 = .ok (.iastore, 1) := by decide +kernel
theorem dX9_begins_16 : decode cX9_begins 16 = .ok (.iinc 1 1, 3) := by decide +kernel
theorem dX9_begins_19 : decode cX9_begins 19 = .ok (.goto (-17), 3) := by decide +kernel
theorem dX9_begins_22 : decode cX9_begins 22 = .ok (.iconst 0, 1) := by decide +kernel
theorem dX9_begins_23 : decode cX9_begins 23 = .ok (.istore_n 1, 1) := by decide +kernel
theorem dX9_begins_24 : decode cX9_begins 24 = .ok (.iload_n 1, 1) := by decide +kernel
theorem dX9_begins_25 : decode cX9_begins 25 = .ok (.bipush 32, 2) := by decide +kernel
theorem dX9_begins_27 : decode cX9_begins 27 = .ok (.if_icmp .ge 24, 3) := by decide +kernel
theorem dX9_begins_30 : decode cX9_begins 30 = .ok (.aload_n 0, 1) := by decide +kernel
theorem dX9_begins_31 : decode cX9_begins 31 = .ok (.getfield 7, 3) := by decide +kernel
theorem dX9_begins_34 : decode cX9_begins 34 = .ok (.bipush 11, 2) := by decide +kernel
theorem dX9_begins_36 : decode cX9_begins 36 = .ok (.iload_n 1, 1) := by decide +kernel
theorem dX9_begins_37 : decode cX9_begins 37 = .ok (.iadd, 1) := by decide +kernel
theorem dX9_begins_38 : decode cX9_begins 38 = .ok (.aload_n 0, 1) := by decide +kernel
theorem dX9_begins_39 : decode cX9_begins 39 = .ok (.getfield 22, 3) := by decide +kernel
theorem dX9_begins_42 : decode cX9_begins 42 = .ok (.iload_n 1, 1) := by decide +kernel
theorem dX9_begins_43 : decode cX9_begins 43 = .ok (.iaload, 1) := by decide +kernel
theorem dX9_begins_44 : decode cX9_begins 44 = .ok (.iastore, 1) := by decide +kernel
theorem dX9_begins_45 : decode cX9_begins 45 = .ok (.iinc 1 1, 3) := by decide +kernel
theorem dX9_begins_48 : decode cX9_begins 48 = .ok (.goto (-24), 3) := by decide +kernel
theorem dX9_begins_51 : decode cX9_begins 51 = .ok (.aload_n 0, 1) := by decide +kernel
theorem dX9_begins_52 : decode cX9_begins 52 = .ok (.iconst 0, 1) := by decide +kernel
theorem dX9_begins_53 : decode cX9_begins 53 = .ok (.putfield 217, 3) := by decide +kernel
theorem dX9_begins_56 : decode cX9_begins 56 = .ok (.aload_n 0, 1) := by decide +kernel
theorem dX9_begins_57 : decode cX9_begins 57 = .ok (.getfield 57, 3) := by decide +kernel
theorem dX9_begins_60 : decode cX9_begins 60 = .ok (.iconst 0, 1) := by decide +kernel
theorem dX9_begins_61 : decode cX9_begins 61 = .ok (.iconst 0, 1) := by decide +kernel
theorem dX9_begins_62 : decode cX9_begins 62 = .ok (.bastore, 1) := by decide +kernel
theorem dX9_begins_63 : decode cX9_begins 63 = .ok (.aload_n 0, 1) := by decide +kernel
theorem dX9_begins_64 : decode cX9_begins 64 = .ok (.getfield 57, 3) := by decide +kernel
theorem dX9_begins_67 : decode cX9_begins 67 = .ok (.iconst 1, 1) := by decide +kernel
theorem dX9_begins_68 : decode cX9_begins 68 = .ok (.iconst 0, 1) := by decide +kernel
theorem dX9_begins_69 : decode cX9_begins 69 = .ok (.bastore, 1) := by decide +kernel
theorem dX9_begins_70 : decode cX9_begins 70 = .ok (.return_, 1) := by decide +kernel
theorem dX9_tick_0 : decode cX9_tick 0 = .ok (.aload_n 0, 1) := by decide +kernel
theorem dX9_tick_1 : decode cX9_tick 1 = .ok (.iconst 0, 1) := by decide +kernel
theorem dX9_tick_2 : decode cX9_tick 2 = .ok (.putfield 70, 3) := by decide +kernel
theorem dX9_tick_5 : decode cX9_tick 5 = .ok (.aload_n 0, 1) := by decide +kernel
theorem dX9_tick_6 : decode cX9_tick 6 = .ok (.getfield 7, 3) := by decide +kernel
theorem dX9_tick_9 : decode cX9_tick 9 = .ok (.iconst 0, 1) := by decide +kernel
theorem dX9_tick_10 : decode cX9_tick 10 = .ok (.iaload, 1) := by decide +kernel
theorem dX9_tick_11 : decode cX9_tick 11 = .ok (.ireturn, 1) := by decide +kernel
theorem dX9_no_0 : decode cX9_no 0 = .ok (.aload_n 0, 1) := by decide +kernel
theorem dX9_no_1 : decode cX9_no 1 = .ok (.iload_n 1, 1) := by decide +kernel
theorem dX9_no_2 : decode cX9_no 2 = .ok (.iconst 0, 1) := by decide +kernel
theorem dX9_no_3 : decode cX9_no 3 = .ok (.iload_n 2, 1) := by decide +kernel
theorem dX9_no_4 : decode cX9_no 4 = .ok (.iconst 1, 1) := by decide +kernel
theorem dX9_no_5 : decode cX9_no 5 = .ok (.isub, 1) := by decide +kernel
theorem dX9_no_6 : decode cX9_no 6 = .ok (.invokestatic 114, 3) := by decide +kernel
theorem dX9_no_9 : decode cX9_no 9 = .ok (.ifCond .ne 7, 3) := by decide +kernel
theorem dX9_no_12 : decode cX9_no 12 = .ok (.iconst 1, 1) := by decide +kernel
theorem dX9_no_13 : decode cX9_no 13 = .ok (.goto 4, 3) := by decide +kernel
theorem dX9_no_16 : decode cX9_no 16 = .ok (.iconst 0, 1) := by decide +kernel
theorem dX9_no_17 : decode cX9_no 17 = .ok (.iconst 1, 1) := by decide +kernel
theorem dX9_no_18 : decode cX9_no 18 = .ok (.invokevirtual 210, 3) := by decide +kernel
theorem dX9_no_21 : decode cX9_no 21 = .ok (.ireturn, 1) := by decide +kernel
theorem dX9_noSide_0 : decode cX9_noSide 0 = .ok (.aload_n 0, 1) := by decide +kernel
theorem dX9_noSide_1 : decode cX9_noSide 1 = .ok (.iconst 0, 1) := by decide +kernel
theorem dX9_noSide_2 : decode cX9_noSide 2 = .ok (.putfield 70, 3) := by decide +kernel
theorem dX9_noSide_5 : decode cX9_noSide 5 = .ok (.aload_n 0, 1) := by decide +kernel
theorem dX9_noSide_6 : decode cX9_noSide 6 = .ok (.iload_n 1, 1) := by decide +kernel
theorem dX9_noSide_7 : decode cX9_noSide 7 = .ok (.iconst 2, 1) := by decide +kernel
theorem dX9_noSide_8 : decode cX9_noSide 8 = .ok (.invokevirtual 220, 3) := by decide +kernel
theorem dX9_noSide_11 : decode cX9_noSide 11 = .ok (.ireturn, 1) := by decide +kernel
theorem dX9_passes_0 : decode cX9_passes 0 = .ok (.aload_n 0, 1) := by decide +kernel
theorem dX9_passes_1 : decode cX9_passes 1 = .ok (.getfield 19, 3) := by decide +kernel
theorem dX9_passes_4 : decode cX9_passes 4 = .ok (.iconst 4, 1) := by decide +kernel
theorem dX9_passes_5 : decode cX9_passes 5 = .ok (.iload_n 1, 1) := by decide +kernel
theorem dX9_passes_6 : decode cX9_passes 6 = .ok (.imul, 1) := by decide +kernel
theorem dX9_passes_7 : decode cX9_passes 7 = .ok (.iload_n 2, 1) := by decide +kernel
theorem dX9_passes_8 : decode cX9_passes 8 = .ok (.iadd, 1) := by decide +kernel
theorem dX9_passes_9 : decode cX9_passes 9 = .ok (.iaload, 1) := by decide +kernel
theorem dX9_passes_10 : decode cX9_passes 10 = .ok (.iconst 1, 1) := by decide +kernel
theorem dX9_passes_11 : decode cX9_passes 11 = .ok (.if_icmp .eq 11, 3) := by decide +kernel
theorem dX9_passes_14 : decode cX9_passes 14 = .ok (.iload_n 3, 1) := by decide +kernel
theorem dX9_passes_15 : decode cX9_passes 15 = .ok (.ifCond .eq 11, 3) := by decide +kernel
theorem dX9_passes_18 : decode cX9_passes 18 = .ok (.iload_n 2, 1) := by decide +kernel
theorem dX9_passes_19 : decode cX9_passes 19 = .ok (.ifCond .ne 7, 3) := by decide +kernel
theorem dX9_passes_22 : decode cX9_passes 22 = .ok (.iconst 1, 1) := by decide +kernel
theorem dX9_passes_23 : decode cX9_passes 23 = .ok (.goto 4, 3) := by decide +kernel
theorem dX9_passes_26 : decode cX9_passes 26 = .ok (.iconst 0, 1) := by decide +kernel
theorem dX9_passes_27 : decode cX9_passes 27 = .ok (.ireturn, 1) := by decide +kernel
theorem dX9_mayPass_0 : decode cX9_mayPass 0 = .ok (.aload_n 0, 1) := by decide +kernel
theorem dX9_mayPass_1 : decode cX9_mayPass 1 = .ok (.iconst 0, 1) := by decide +kernel
theorem dX9_mayPass_2 : decode cX9_mayPass 2 = .ok (.putfield 70, 3) := by decide +kernel
theorem dX9_mayPass_5 : decode cX9_mayPass 5 = .ok (.aload_n 0, 1) := by decide +kernel
theorem dX9_mayPass_6 : decode cX9_mayPass 6 = .ok (.iload_n 1, 1) := by decide +kernel
theorem dX9_mayPass_7 : decode cX9_mayPass 7 = .ok (.iconst 4, 1) := by decide +kernel
theorem dX9_mayPass_8 : decode cX9_mayPass 8 = .ok (.invokevirtual 220, 3) := by decide +kernel
theorem dX9_mayPass_11 : decode cX9_mayPass 11 = .ok (.ifCond .ne 26, 3) := by decide +kernel
theorem dX9_mayPass_14 : decode cX9_mayPass 14 = .ok (.aload_n 0, 1) := by decide +kernel
theorem dX9_mayPass_15 : decode cX9_mayPass 15 = .ok (.iload_n 2, 1) := by decide +kernel
theorem dX9_mayPass_16 : decode cX9_mayPass 16 = .ok (.iconst 4, 1) := by decide +kernel
theorem dX9_mayPass_17 : decode cX9_mayPass 17 = .ok (.invokevirtual 220, 3) := by decide +kernel
theorem dX9_mayPass_20 : decode cX9_mayPass 20 = .ok (.ifCond .ne 17, 3) := by decide +kernel
theorem dX9_mayPass_23 : decode cX9_mayPass 23 = .ok (.aload_n 0, 1) := by decide +kernel
theorem dX9_mayPass_24 : decode cX9_mayPass 24 = .ok (.iload_n 1, 1) := by decide +kernel
theorem dX9_mayPass_25 : decode cX9_mayPass 25 = .ok (.iload_n 2, 1) := by decide +kernel
theorem dX9_mayPass_26 : decode cX9_mayPass 26 = .ok (.iload_n 3, 1) := by decide +kernel
theorem dX9_mayPass_27 : decode cX9_mayPass 27 = .ok (.invokevirtual 223, 3) := by decide +kernel
theorem dX9_mayPass_30 : decode cX9_mayPass 30 = .ok (.ifCond .eq 7, 3) := by decide +kernel
theorem dX9_mayPass_33 : decode cX9_mayPass 33 = .ok (.iconst 1, 1) := by decide +kernel
theorem dX9_mayPass_34 : decode cX9_mayPass 34 = .ok (.goto 4, 3) := by decide +kernel
theorem dX9_mayPass_37 : decode cX9_mayPass 37 = .ok (.iconst 0, 1) := by decide +kernel
theorem dX9_mayPass_38 : decode cX9_mayPass 38 = .ok (.ireturn, 1) := by decide +kernel
theorem dX9_isSafe_0 : decode cX9_isSafe 0 = .ok (.aload_n 0, 1) := by decide +kernel
theorem dX9_isSafe_1 : decode cX9_isSafe 1 = .ok (.iconst 0, 1) := by decide +kernel
theorem dX9_isSafe_2 : decode cX9_isSafe 2 = .ok (.putfield 70, 3) := by decide +kernel
theorem dX9_isSafe_5 : decode cX9_isSafe 5 = .ok (.iconst 1, 1) := by decide +kernel
theorem dX9_isSafe_6 : decode cX9_isSafe 6 = .ok (.istore_n 1, 1) := by decide +kernel
theorem dX9_isSafe_7 : decode cX9_isSafe 7 = .ok (.iconst 0, 1) := by decide +kernel
theorem dX9_isSafe_8 : decode cX9_isSafe 8 = .ok (.istore_n 2, 1) := by decide +kernel
theorem dX9_isSafe_9 : decode cX9_isSafe 9 = .ok (.iload_n 2, 1) := by decide +kernel
theorem dX9_isSafe_10 : decode cX9_isSafe 10 = .ok (.iconst 4, 1) := by decide +kernel
theorem dX9_isSafe_11 : decode cX9_isSafe 11 = .ok (.if_icmp .ge 67, 3) := by decide +kernel
theorem dX9_isSafe_14 : decode cX9_isSafe 14 = .ok (.iload_n 1, 1) := by decide +kernel
theorem dX9_isSafe_15 : decode cX9_isSafe 15 = .ok (.ifCond .eq 55, 3) := by decide +kernel
theorem dX9_isSafe_18 : decode cX9_isSafe 18 = .ok (.aload_n 0, 1) := by decide +kernel
theorem dX9_isSafe_19 : decode cX9_isSafe 19 = .ok (.getfield 19, 3) := by decide +kernel
theorem dX9_isSafe_22 : decode cX9_isSafe 22 = .ok (.iconst 4, 1) := by decide +kernel
theorem dX9_isSafe_23 : decode cX9_isSafe 23 = .ok (.iload_n 2, 1) := by decide +kernel
theorem dX9_isSafe_24 : decode cX9_isSafe 24 = .ok (.imul, 1) := by decide +kernel
theorem dX9_isSafe_25 : decode cX9_isSafe 25 = .ok (.iconst 1, 1) := by decide +kernel
theorem dX9_isSafe_26 : decode cX9_isSafe 26 = .ok (.iadd, 1) := by decide +kernel
theorem dX9_isSafe_27 : decode cX9_isSafe 27 = .ok (.iaload, 1) := by decide +kernel
theorem dX9_isSafe_28 : decode cX9_isSafe 28 = .ok (.iconst 1, 1) := by decide +kernel
theorem dX9_isSafe_29 : decode cX9_isSafe 29 = .ok (.if_icmp .ne 41, 3) := by decide +kernel
theorem dX9_isSafe_32 : decode cX9_isSafe 32 = .ok (.aload_n 0, 1) := by decide +kernel
theorem dX9_isSafe_33 : decode cX9_isSafe 33 = .ok (.getfield 19, 3) := by decide +kernel
theorem dX9_isSafe_36 : decode cX9_isSafe 36 = .ok (.iconst 4, 1) := by decide +kernel
theorem dX9_isSafe_37 : decode cX9_isSafe 37 = .ok (.iload_n 2, 1) := by decide +kernel
theorem dX9_isSafe_38 : decode cX9_isSafe 38 = .ok (.imul, 1) := by decide +kernel
theorem dX9_isSafe_39 : decode cX9_isSafe 39 = .ok (.iconst 2, 1) := by decide +kernel
theorem dX9_isSafe_40 : decode cX9_isSafe 40 = .ok (.iadd, 1) := by decide +kernel
theorem dX9_isSafe_41 : decode cX9_isSafe 41 = .ok (.iaload, 1) := by decide +kernel
theorem dX9_isSafe_42 : decode cX9_isSafe 42 = .ok (.iconst 1, 1) := by decide +kernel
theorem dX9_isSafe_43 : decode cX9_isSafe 43 = .ok (.if_icmp .ne 27, 3) := by decide +kernel
theorem dX9_isSafe_46 : decode cX9_isSafe 46 = .ok (.aload_n 0, 1) := by decide +kernel
theorem dX9_isSafe_47 : decode cX9_isSafe 47 = .ok (.getfield 16, 3) := by decide +kernel
theorem dX9_isSafe_50 : decode cX9_isSafe 50 = .ok (.iload_n 2, 1) := by decide +kernel
theorem dX9_isSafe_51 : decode cX9_isSafe 51 = .ok (.iaload, 1) := by decide +kernel
theorem dX9_isSafe_52 : decode cX9_isSafe 52 = .ok (.ifCond .le 18, 3) := by decide +kernel
theorem dX9_isSafe_55 : decode cX9_isSafe 55 = .ok (.aload_n 0, 1) := by decide +kernel
theorem dX9_isSafe_56 : decode cX9_isSafe 56 = .ok (.getfield 16, 3) := by decide +kernel
theorem dX9_isSafe_59 : decode cX9_isSafe 59 = .ok (.iconst 4, 1) := by decide +kernel
theorem dX9_isSafe_60 : decode cX9_isSafe 60 = .ok (.iload_n 2, 1) := by decide +kernel
theorem dX9_isSafe_61 : decode cX9_isSafe 61 = .ok (.iadd, 1) := by decide +kernel
theorem dX9_isSafe_62 : decode cX9_isSafe 62 = .ok (.iaload, 1) := by decide +kernel
theorem dX9_isSafe_63 : decode cX9_isSafe 63 = .ok (.ifCond .le 7, 3) := by decide +kernel
theorem dX9_isSafe_66 : decode cX9_isSafe 66 = .ok (.iconst 1, 1) := by decide +kernel
theorem dX9_isSafe_67 : decode cX9_isSafe 67 = .ok (.goto 4, 3) := by decide +kernel
theorem dX9_isSafe_70 : decode cX9_isSafe 70 = .ok (.iconst 0, 1) := by decide +kernel
theorem dX9_isSafe_71 : decode cX9_isSafe 71 = .ok (.istore_n 1, 1) := by decide +kernel
theorem dX9_isSafe_72 : decode cX9_isSafe 72 = .ok (.iinc 2 3, 3) := by decide +kernel
theorem dX9_isSafe_75 : decode cX9_isSafe 75 = .ok (.goto (-66), 3) := by decide +kernel
theorem dX9_isSafe_78 : decode cX9_isSafe 78 = .ok (.iload_n 1, 1) := by decide +kernel
theorem dX9_isSafe_79 : decode cX9_isSafe 79 = .ok (.ireturn, 1) := by decide +kernel
theorem dX9_holds_0 : decode cX9_holds 0 = .ok (.aload_n 0, 1) := by decide +kernel
theorem dX9_holds_1 : decode cX9_holds 1 = .ok (.iconst 0, 1) := by decide +kernel
theorem dX9_holds_2 : decode cX9_holds 2 = .ok (.putfield 70, 3) := by decide +kernel
theorem dX9_holds_5 : decode cX9_holds 5 = .ok (.aload_n 0, 1) := by decide +kernel
theorem dX9_holds_6 : decode cX9_holds 6 = .ok (.iload_n 1, 1) := by decide +kernel
theorem dX9_holds_7 : decode cX9_holds 7 = .ok (.iconst 4, 1) := by decide +kernel
theorem dX9_holds_8 : decode cX9_holds 8 = .ok (.invokevirtual 220, 3) := by decide +kernel
theorem dX9_holds_11 : decode cX9_holds 11 = .ok (.ifCond .ne 21, 3) := by decide +kernel
theorem dX9_holds_14 : decode cX9_holds 14 = .ok (.aload_n 0, 1) := by decide +kernel
theorem dX9_holds_15 : decode cX9_holds 15 = .ok (.iload_n 2, 1) := by decide +kernel
theorem dX9_holds_16 : decode cX9_holds 16 = .ok (.iconst 4, 1) := by decide +kernel
theorem dX9_holds_17 : decode cX9_holds 17 = .ok (.invokevirtual 220, 3) := by decide +kernel
theorem dX9_holds_20 : decode cX9_holds 20 = .ok (.ifCond .ne 12, 3) := by decide +kernel
theorem dX9_holds_23 : decode cX9_holds 23 = .ok (.iload_n 1, 1) := by decide +kernel
theorem dX9_holds_24 : decode cX9_holds 24 = .ok (.iload_n 2, 1) := by decide +kernel
theorem dX9_holds_25 : decode cX9_holds 25 = .ok (.if_icmp .ne 7, 3) := by decide +kernel
theorem dX9_holds_28 : decode cX9_holds 28 = .ok (.iconst 1, 1) := by decide +kernel
theorem dX9_holds_29 : decode cX9_holds 29 = .ok (.goto 4, 3) := by decide +kernel
theorem dX9_holds_32 : decode cX9_holds 32 = .ok (.iconst 0, 1) := by decide +kernel
theorem dX9_holds_33 : decode cX9_holds 33 = .ok (.ireturn, 1) := by decide +kernel
theorem dX9_waits_0 : decode cX9_waits 0 = .ok (.sipush 155, 3) := by decide +kernel
theorem dX9_waits_3 : decode cX9_waits 3 = .ok (.sipush 480, 3) := by decide +kernel
theorem dX9_waits_6 : decode cX9_waits 6 = .ok (.iload_n 0, 1) := by decide +kernel
theorem dX9_waits_7 : decode cX9_waits 7 = .ok (.imul, 1) := by decide +kernel
theorem dX9_waits_8 : decode cX9_waits 8 = .ok (.iadd, 1) := by decide +kernel
theorem dX9_waits_9 : decode cX9_waits 9 = .ok (.bipush 15, 2) := by decide +kernel
theorem dX9_waits_11 : decode cX9_waits 11 = .ok (.iload_n 1, 1) := by decide +kernel
theorem dX9_waits_12 : decode cX9_waits 12 = .ok (.imul, 1) := by decide +kernel
theorem dX9_waits_13 : decode cX9_waits 13 = .ok (.iadd, 1) := by decide +kernel
theorem dX9_waits_14 : decode cX9_waits 14 = .ok (.ireturn, 1) := by decide +kernel
theorem dX9_held0_0 : decode cX9_held0 0 = .ok (.sipush 1115, 3) := by decide +kernel
theorem dX9_held0_3 : decode cX9_held0 3 = .ok (.sipush 480, 3) := by decide +kernel
theorem dX9_held0_6 : decode cX9_held0 6 = .ok (.iload_n 0, 1) := by decide +kernel
theorem dX9_held0_7 : decode cX9_held0 7 = .ok (.imul, 1) := by decide +kernel
theorem dX9_held0_8 : decode cX9_held0 8 = .ok (.iadd, 1) := by decide +kernel
theorem dX9_held0_9 : decode cX9_held0 9 = .ok (.bipush 15, 2) := by decide +kernel
theorem dX9_held0_11 : decode cX9_held0 11 = .ok (.iload_n 1, 1) := by decide +kernel
theorem dX9_held0_12 : decode cX9_held0 12 = .ok (.imul, 1) := by decide +kernel
theorem dX9_held0_13 : decode cX9_held0 13 = .ok (.iadd, 1) := by decide +kernel
theorem dX9_held0_14 : decode cX9_held0 14 = .ok (.ireturn, 1) := by decide +kernel
theorem dX9_noPosition_0 : decode cX9_noPosition 0 = .ok (.aload_n 0, 1) := by decide +kernel
theorem dX9_noPosition_1 : decode cX9_noPosition 1 = .ok (.iload_n 1, 1) := by decide +kernel
theorem dX9_noPosition_2 : decode cX9_noPosition 2 = .ok (.invokevirtual 227, 3) := by decide +kernel
theorem dX9_noPosition_5 : decode cX9_noPosition 5 = .ok (.ifCond .ne 19, 3) := by decide +kernel
theorem dX9_noPosition_8 : decode cX9_noPosition 8 = .ok (.aload_n 0, 1) := by decide +kernel
theorem dX9_noPosition_9 : decode cX9_noPosition 9 = .ok (.iload_n 2, 1) := by decide +kernel
theorem dX9_noPosition_10 : decode cX9_noPosition 10 = .ok (.aload_n 0, 1) := by decide +kernel
theorem dX9_noPosition_11 : decode cX9_noPosition 11 = .ok (.getfield 7, 3) := by decide +kernel
theorem dX9_noPosition_14 : decode cX9_noPosition 14 = .ok (.iconst 1, 1) := by decide +kernel
theorem dX9_noPosition_15 : decode cX9_noPosition 15 = .ok (.iload_n 1, 1) := by decide +kernel
theorem dX9_noPosition_16 : decode cX9_noPosition 16 = .ok (.iadd, 1) := by decide +kernel
theorem dX9_noPosition_17 : decode cX9_noPosition 17 = .ok (.iaload, 1) := by decide +kernel
theorem dX9_noPosition_18 : decode cX9_noPosition 18 = .ok (.invokevirtual 220, 3) := by decide +kernel
theorem dX9_noPosition_21 : decode cX9_noPosition 21 = .ok (.ifCond .eq 7, 3) := by decide +kernel
theorem dX9_noPosition_24 : decode cX9_noPosition 24 = .ok (.iconst 1, 1) := by decide +kernel
theorem dX9_noPosition_25 : decode cX9_noPosition 25 = .ok (.goto 4, 3) := by decide +kernel
theorem dX9_noPosition_28 : decode cX9_noPosition 28 = .ok (.iconst 0, 1) := by decide +kernel
theorem dX9_noPosition_29 : decode cX9_noPosition 29 = .ok (.ireturn, 1) := by decide +kernel
theorem dX9_waiting_0 : decode cX9_waiting 0 = .ok (.aload_n 0, 1) := by decide +kernel
theorem dX9_waiting_1 : decode cX9_waiting 1 = .ok (.iload_n 1, 1) := by decide +kernel
theorem dX9_waiting_2 : decode cX9_waiting 2 = .ok (.invokevirtual 227, 3) := by decide +kernel
theorem dX9_waiting_5 : decode cX9_waiting 5 = .ok (.ifCond .eq 7, 3) := by decide +kernel
theorem dX9_waiting_8 : decode cX9_waiting 8 = .ok (.iconst 0, 1) := by decide +kernel
theorem dX9_waiting_9 : decode cX9_waiting 9 = .ok (.goto 11, 3) := by decide +kernel
theorem dX9_waiting_12 : decode cX9_waiting 12 = .ok (.aload_n 0, 1) := by decide +kernel
theorem dX9_waiting_13 : decode cX9_waiting 13 = .ok (.getfield 7, 3) := by decide +kernel
theorem dX9_waiting_16 : decode cX9_waiting 16 = .ok (.iconst 1, 1) := by decide +kernel
theorem dX9_waiting_17 : decode cX9_waiting 17 = .ok (.iload_n 1, 1) := by decide +kernel
theorem dX9_waiting_18 : decode cX9_waiting 18 = .ok (.iadd, 1) := by decide +kernel
theorem dX9_waiting_19 : decode cX9_waiting 19 = .ok (.iaload, 1) := by decide +kernel
theorem dX9_waiting_20 : decode cX9_waiting 20 = .ok (.ireturn, 1) := by decide +kernel
theorem dX9_kindAt_0 : decode cX9_kindAt 0 = .ok (.aload_n 0, 1) := by decide +kernel
theorem dX9_kindAt_1 : decode cX9_kindAt 1 = .ok (.iload_n 1, 1) := by decide +kernel
theorem dX9_kindAt_2 : decode cX9_kindAt 2 = .ok (.iload_n 2, 1) := by decide +kernel
theorem dX9_kindAt_3 : decode cX9_kindAt 3 = .ok (.invokevirtual 230, 3) := by decide +kernel
theorem dX9_kindAt_6 : decode cX9_kindAt 6 = .ok (.ifCond .eq 7, 3) := by decide +kernel
theorem dX9_kindAt_9 : decode cX9_kindAt 9 = .ok (.iconst 0, 1) := by decide +kernel
theorem dX9_kindAt_10 : decode cX9_kindAt 10 = .ok (.goto 15, 3) := by decide +kernel
theorem dX9_kindAt_13 : decode cX9_kindAt 13 = .ok (.aload_n 0, 1) := by decide +kernel
theorem dX9_kindAt_14 : decode cX9_kindAt 14 = .ok (.getfield 7, 3) := by decide +kernel
theorem dX9_kindAt_17 : decode cX9_kindAt 17 = .ok (.iload_n 1, 1) := by decide +kernel
theorem dX9_kindAt_18 : decode cX9_kindAt 18 = .ok (.iload_n 2, 1) := by decide +kernel
theorem dX9_kindAt_19 : decode cX9_kindAt 19 = .ok (.invokestatic 233, 3) := by decide +kernel
theorem dX9_kindAt_22 : decode cX9_kindAt 22 = .ok (.iconst 0, 1) := by decide +kernel
theorem dX9_kindAt_23 : decode cX9_kindAt 23 = .ok (.iadd, 1) := by decide +kernel
theorem dX9_kindAt_24 : decode cX9_kindAt 24 = .ok (.iaload, 1) := by decide +kernel
theorem dX9_kindAt_25 : decode cX9_kindAt 25 = .ok (.ireturn, 1) := by decide +kernel
theorem dX9_tagAt_0 : decode cX9_tagAt 0 = .ok (.aload_n 0, 1) := by decide +kernel
theorem dX9_tagAt_1 : decode cX9_tagAt 1 = .ok (.iload_n 1, 1) := by decide +kernel
theorem dX9_tagAt_2 : decode cX9_tagAt 2 = .ok (.iload_n 2, 1) := by decide +kernel
theorem dX9_tagAt_3 : decode cX9_tagAt 3 = .ok (.invokevirtual 230, 3) := by decide +kernel
theorem dX9_tagAt_6 : decode cX9_tagAt 6 = .ok (.ifCond .eq 7, 3) := by decide +kernel
theorem dX9_tagAt_9 : decode cX9_tagAt 9 = .ok (.iconst 0, 1) := by decide +kernel
theorem dX9_tagAt_10 : decode cX9_tagAt 10 = .ok (.goto 15, 3) := by decide +kernel
theorem dX9_tagAt_13 : decode cX9_tagAt 13 = .ok (.aload_n 0, 1) := by decide +kernel
theorem dX9_tagAt_14 : decode cX9_tagAt 14 = .ok (.getfield 7, 3) := by decide +kernel
theorem dX9_tagAt_17 : decode cX9_tagAt 17 = .ok (.iload_n 1, 1) := by decide +kernel
theorem dX9_tagAt_18 : decode cX9_tagAt 18 = .ok (.iload_n 2, 1) := by decide +kernel
theorem dX9_tagAt_19 : decode cX9_tagAt 19 = .ok (.invokestatic 233, 3) := by decide +kernel
theorem dX9_tagAt_22 : decode cX9_tagAt 22 = .ok (.iconst 1, 1) := by decide +kernel
theorem dX9_tagAt_23 : decode cX9_tagAt 23 = .ok (.iadd, 1) := by decide +kernel
theorem dX9_tagAt_24 : decode cX9_tagAt 24 = .ok (.iaload, 1) := by decide +kernel
theorem dX9_tagAt_25 : decode cX9_tagAt 25 = .ok (.ireturn, 1) := by decide +kernel
theorem dX9_blocking_0 : decode cX9_blocking 0 = .ok (.iload_n 1, 1) := by decide +kernel
theorem dX9_blocking_1 : decode cX9_blocking 1 = .ok (.iload_n 2, 1) := by decide +kernel
theorem dX9_blocking_2 : decode cX9_blocking 2 = .ok (.invokestatic 233, 3) := by decide +kernel
theorem dX9_blocking_5 : decode cX9_blocking 5 = .ok (.istore_n 3, 1) := by decide +kernel
theorem dX9_blocking_6 : decode cX9_blocking 6 = .ok (.iconst 0, 1) := by decide +kernel
theorem dX9_blocking_7 : decode cX9_blocking 7 = .ok (.istore 4, 2) := by decide +kernel
theorem dX9_blocking_9 : decode cX9_blocking 9 = .ok (.iconst 0, 1) := by decide +kernel
theorem dX9_blocking_10 : decode cX9_blocking 10 = .ok (.istore 5, 2) := by decide +kernel
theorem dX9_blocking_12 : decode cX9_blocking 12 = .ok (.iload 5, 2) := by decide +kernel
theorem dX9_blocking_14 : decode cX9_blocking 14 = .ok (.iload_n 2, 1) := by decide +kernel
theorem dX9_blocking_15 : decode cX9_blocking 15 = .ok (.if_icmp .ge 67, 3) := by decide +kernel
theorem dX9_blocking_18 : decode cX9_blocking 18 = .ok (.iload 4, 2) := by decide +kernel
theorem dX9_blocking_20 : decode cX9_blocking 20 = .ok (.aload_n 0, 1) := by decide +kernel
theorem dX9_blocking_21 : decode cX9_blocking 21 = .ok (.aload_n 0, 1) := by decide +kernel
theorem dX9_blocking_22 : decode cX9_blocking 22 = .ok (.getfield 7, 3) := by decide +kernel
theorem dX9_blocking_25 : decode cX9_blocking 25 = .ok (.iload_n 3, 1) := by decide +kernel
theorem dX9_blocking_26 : decode cX9_blocking 26 = .ok (.iconst 0, 1) := by decide +kernel
theorem dX9_blocking_27 : decode cX9_blocking 27 = .ok (.iadd, 1) := by decide +kernel
theorem dX9_blocking_28 : decode cX9_blocking 28 = .ok (.iaload, 1) := by decide +kernel
theorem dX9_blocking_29 : decode cX9_blocking 29 = .ok (.aload_n 0, 1) := by decide +kernel
theorem dX9_blocking_30 : decode cX9_blocking 30 = .ok (.getfield 7, 3) := by decide +kernel
theorem dX9_blocking_33 : decode cX9_blocking 33 = .ok (.iload_n 1, 1) := by decide +kernel
theorem dX9_blocking_34 : decode cX9_blocking 34 = .ok (.iload 5, 2) := by decide +kernel
theorem dX9_blocking_36 : decode cX9_blocking 36 = .ok (.invokestatic 233, 3) := by decide +kernel
theorem dX9_blocking_39 : decode cX9_blocking 39 = .ok (.iconst 0, 1) := by decide +kernel
theorem dX9_blocking_40 : decode cX9_blocking 40 = .ok (.iadd, 1) := by decide +kernel
theorem dX9_blocking_41 : decode cX9_blocking 41 = .ok (.iaload, 1) := by decide +kernel
theorem dX9_blocking_42 : decode cX9_blocking 42 = .ok (.aload_n 0, 1) := by decide +kernel
theorem dX9_blocking_43 : decode cX9_blocking 43 = .ok (.getfield 7, 3) := by decide +kernel
theorem dX9_blocking_46 : decode cX9_blocking 46 = .ok (.iload_n 3, 1) := by decide +kernel
theorem dX9_blocking_47 : decode cX9_blocking 47 = .ok (.iconst 5, 1) := by decide +kernel
theorem dX9_blocking_48 : decode cX9_blocking 48 = .ok (.iadd, 1) := by decide +kernel
theorem dX9_blocking_49 : decode cX9_blocking 49 = .ok (.iaload, 1) := by decide +kernel
theorem dX9_blocking_50 : decode cX9_blocking 50 = .ok (.iconst 1, 1) := by decide +kernel
theorem dX9_blocking_51 : decode cX9_blocking 51 = .ok (.if_icmp .ne 7, 3) := by decide +kernel
theorem dX9_blocking_54 : decode cX9_blocking 54 = .ok (.iconst 1, 1) := by decide +kernel
theorem dX9_blocking_55 : decode cX9_blocking 55 = .ok (.goto 4, 3) := by decide +kernel
theorem dX9_blocking_58 : decode cX9_blocking 58 = .ok (.iconst 0, 1) := by decide +kernel
theorem dX9_blocking_59 : decode cX9_blocking 59 = .ok (.invokevirtual 223, 3) := by decide +kernel
theorem dX9_blocking_62 : decode cX9_blocking 62 = .ok (.ifCond .eq 7, 3) := by decide +kernel
theorem dX9_blocking_65 : decode cX9_blocking 65 = .ok (.iconst 0, 1) := by decide +kernel
theorem dX9_blocking_66 : decode cX9_blocking 66 = .ok (.goto 7, 3) := by decide +kernel
theorem dX9_blocking_69 : decode cX9_blocking 69 = .ok (.iconst 1, 1) := by decide +kernel
theorem dX9_blocking_70 : decode cX9_blocking 70 = .ok (.iload 5, 2) := by decide +kernel
theorem dX9_blocking_72 : decode cX9_blocking 72 = .ok (.ishl, 1) := by decide +kernel
theorem dX9_blocking_73 : decode cX9_blocking 73 = .ok (.ior, 1) := by decide +kernel
theorem dX9_blocking_74 : decode cX9_blocking 74 = .ok (.istore 4, 2) := by decide +kernel
theorem dX9_blocking_76 : decode cX9_blocking 76 = .ok (.iinc 5 1, 3) := by decide +kernel
theorem dX9_blocking_79 : decode cX9_blocking 79 = .ok (.goto (-67), 3) := by decide +kernel
theorem dX9_blocking_82 : decode cX9_blocking 82 = .ok (.iload 4, 2) := by decide +kernel
theorem dX9_blocking_84 : decode cX9_blocking 84 = .ok (.ireturn, 1) := by decide +kernel
theorem dX9_blockers_0 : decode cX9_blockers 0 = .ok (.aload_n 0, 1) := by decide +kernel
theorem dX9_blockers_1 : decode cX9_blockers 1 = .ok (.iload_n 1, 1) := by decide +kernel
theorem dX9_blockers_2 : decode cX9_blockers 2 = .ok (.iload_n 2, 1) := by decide +kernel
theorem dX9_blockers_3 : decode cX9_blockers 3 = .ok (.invokevirtual 230, 3) := by decide +kernel
theorem dX9_blockers_6 : decode cX9_blockers 6 = .ok (.ifCond .eq 7, 3) := by decide +kernel
theorem dX9_blockers_9 : decode cX9_blockers 9 = .ok (.iconst 0, 1) := by decide +kernel
theorem dX9_blockers_10 : decode cX9_blockers 10 = .ok (.goto 9, 3) := by decide +kernel
theorem dX9_blockers_13 : decode cX9_blockers 13 = .ok (.aload_n 0, 1) := by decide +kernel
theorem dX9_blockers_14 : decode cX9_blockers 14 = .ok (.iload_n 1, 1) := by decide +kernel
theorem dX9_blockers_15 : decode cX9_blockers 15 = .ok (.iload_n 2, 1) := by decide +kernel
theorem dX9_blockers_16 : decode cX9_blockers 16 = .ok (.invokevirtual 237, 3) := by decide +kernel
theorem dX9_blockers_19 : decode cX9_blockers 19 = .ok (.ireturn, 1) := by decide +kernel
theorem dX9_heldOf_0 : decode cX9_heldOf 0 = .ok (.iconst 0, 1) := by decide +kernel
theorem dX9_heldOf_1 : decode cX9_heldOf 1 = .ok (.istore_n 3, 1) := by decide +kernel
theorem dX9_heldOf_2 : decode cX9_heldOf 2 = .ok (.iconst 0, 1) := by decide +kernel
theorem dX9_heldOf_3 : decode cX9_heldOf 3 = .ok (.istore 4, 2) := by decide +kernel
theorem dX9_heldOf_5 : decode cX9_heldOf 5 = .ok (.iload 4, 2) := by decide +kernel
theorem dX9_heldOf_7 : decode cX9_heldOf 7 = .ok (.aload_n 0, 1) := by decide +kernel
theorem dX9_heldOf_8 : decode cX9_heldOf 8 = .ok (.getfield 7, 3) := by decide +kernel
theorem dX9_heldOf_11 : decode cX9_heldOf 11 = .ok (.iconst 3, 1) := by decide +kernel
theorem dX9_heldOf_12 : decode cX9_heldOf 12 = .ok (.iload_n 1, 1) := by decide +kernel
theorem dX9_heldOf_13 : decode cX9_heldOf 13 = .ok (.iadd, 1) := by decide +kernel
theorem dX9_heldOf_14 : decode cX9_heldOf 14 = .ok (.iaload, 1) := by decide +kernel
theorem dX9_heldOf_15 : decode cX9_heldOf 15 = .ok (.if_icmp .ge 34, 3) := by decide +kernel
theorem dX9_heldOf_18 : decode cX9_heldOf 18 = .ok (.iload_n 3, 1) := by decide +kernel
theorem dX9_heldOf_19 : decode cX9_heldOf 19 = .ok (.aload_n 0, 1) := by decide +kernel
theorem dX9_heldOf_20 : decode cX9_heldOf 20 = .ok (.getfield 7, 3) := by decide +kernel
theorem dX9_heldOf_23 : decode cX9_heldOf 23 = .ok (.iload_n 1, 1) := by decide +kernel
theorem dX9_heldOf_24 : decode cX9_heldOf 24 = .ok (.iload 4, 2) := by decide +kernel
theorem dX9_heldOf_26 : decode cX9_heldOf 26 = .ok (.invokestatic 240, 3) := by decide +kernel
theorem dX9_heldOf_29 : decode cX9_heldOf 29 = .ok (.iconst 0, 1) := by decide +kernel
theorem dX9_heldOf_30 : decode cX9_heldOf 30 = .ok (.iadd, 1) := by decide +kernel
theorem dX9_heldOf_31 : decode cX9_heldOf 31 = .ok (.iaload, 1) := by decide +kernel
theorem dX9_heldOf_32 : decode cX9_heldOf 32 = .ok (.iload_n 2, 1) := by decide +kernel
theorem dX9_heldOf_33 : decode cX9_heldOf 33 = .ok (.if_icmp .ne 7, 3) := by decide +kernel
theorem dX9_heldOf_36 : decode cX9_heldOf 36 = .ok (.iconst 1, 1) := by decide +kernel
theorem dX9_heldOf_37 : decode cX9_heldOf 37 = .ok (.goto 4, 3) := by decide +kernel
theorem dX9_heldOf_40 : decode cX9_heldOf 40 = .ok (.iconst 0, 1) := by decide +kernel
theorem dX9_heldOf_41 : decode cX9_heldOf 41 = .ok (.iadd, 1) := by decide +kernel
theorem dX9_heldOf_42 : decode cX9_heldOf 42 = .ok (.istore_n 3, 1) := by decide +kernel
theorem dX9_heldOf_43 : decode cX9_heldOf 43 = .ok (.iinc 4 1, 3) := by decide +kernel
theorem dX9_heldOf_46 : decode cX9_heldOf 46 = .ok (.goto (-41), 3) := by decide +kernel
theorem dX9_heldOf_49 : decode cX9_heldOf 49 = .ok (.iload_n 3, 1) := by decide +kernel
theorem dX9_heldOf_50 : decode cX9_heldOf 50 = .ok (.ireturn, 1) := by decide +kernel
theorem dX9_nextOf_0 : decode cX9_nextOf 0 = .ok (.iconst 0, 1) := by decide +kernel
theorem dX9_nextOf_1 : decode cX9_nextOf 1 = .ok (.istore_n 2, 1) := by decide +kernel
theorem dX9_nextOf_2 : decode cX9_nextOf 2 = .ok (.iload_n 2, 1) := by decide +kernel
theorem dX9_nextOf_3 : decode cX9_nextOf 3 = .ok (.aload_n 0, 1) := by decide +kernel
theorem dX9_nextOf_4 : decode cX9_nextOf 4 = .ok (.getfield 7, 3) := by decide +kernel
theorem dX9_nextOf_7 : decode cX9_nextOf 7 = .ok (.iconst 1, 1) := by decide +kernel
theorem dX9_nextOf_8 : decode cX9_nextOf 8 = .ok (.iload_n 1, 1) := by decide +kernel
theorem dX9_nextOf_9 : decode cX9_nextOf 9 = .ok (.iadd, 1) := by decide +kernel
theorem dX9_nextOf_10 : decode cX9_nextOf 10 = .ok (.iaload, 1) := by decide +kernel
theorem dX9_nextOf_11 : decode cX9_nextOf 11 = .ok (.if_icmp .ge 56, 3) := by decide +kernel
theorem dX9_nextOf_14 : decode cX9_nextOf 14 = .ok (.aload_n 0, 1) := by decide +kernel
theorem dX9_nextOf_15 : decode cX9_nextOf 15 = .ok (.getfield 7, 3) := by decide +kernel
theorem dX9_nextOf_18 : decode cX9_nextOf 18 = .ok (.iload_n 1, 1) := by decide +kernel
theorem dX9_nextOf_19 : decode cX9_nextOf 19 = .ok (.iload_n 2, 1) := by decide +kernel
theorem dX9_nextOf_20 : decode cX9_nextOf 20 = .ok (.invokestatic 233, 3) := by decide +kernel
theorem dX9_nextOf_23 : decode cX9_nextOf 23 = .ok (.iconst 0, 1) := by decide +kernel
theorem dX9_nextOf_24 : decode cX9_nextOf 24 = .ok (.iadd, 1) := by decide +kernel
theorem dX9_nextOf_25 : decode cX9_nextOf 25 = .ok (.iaload, 1) := by decide +kernel
theorem dX9_nextOf_26 : decode cX9_nextOf 26 = .ok (.istore_n 3, 1) := by decide +kernel
theorem dX9_nextOf_27 : decode cX9_nextOf 27 = .ok (.aload_n 0, 1) := by decide +kernel
theorem dX9_nextOf_28 : decode cX9_nextOf 28 = .ok (.iload_n 1, 1) := by decide +kernel
theorem dX9_nextOf_29 : decode cX9_nextOf 29 = .ok (.iload_n 2, 1) := by decide +kernel
theorem dX9_nextOf_30 : decode cX9_nextOf 30 = .ok (.invokevirtual 237, 3) := by decide +kernel
theorem dX9_nextOf_33 : decode cX9_nextOf 33 = .ok (.ifCond .ne 28, 3) := by decide +kernel
theorem dX9_nextOf_36 : decode cX9_nextOf 36 = .ok (.aload_n 0, 1) := by decide +kernel
