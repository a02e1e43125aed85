theorem dX8_init_0 : decode cX8_init 0 = .ok (.aload_n 0, 1) := by decide +kernel
theorem dX8_init_1 : decode cX8_init 1 = .ok (.invokespecial 1, 3) := by decide +kernel
theorem dX8_init_4 : decode cX8_init 4 = .ok (.aload_n 0, 1) := by decide +kernel
theorem dX8_init_5 : decode cX8_init 5 = .ok (.sipush 600, 3) := by decide +kernel
theorem dX8_init_8 : decode cX8_init 8 = .ok (.newarray .byte, 2) := by decide +kernel
theorem dX8_init_10 : decode cX8_init 10 = .ok (.putfield 9, 3) := by decide +kernel
theorem dX8_init_13 : decode cX8_init 13 = .ok (.aload_n 0, 1) := by decide +kernel
theorem dX8_init_14 : decode cX8_init 14 = .ok (.new 13, 3) := by decide +kernel
theorem dX8_init_17 : decode cX8_init 17 = .ok (.dup, 1) := by decide +kernel
theorem dX8_init_18 : decode cX8_init 18 = .ok (.invokespecial 15, 3) := by decide +kernel
theorem dX8_init_21 : decode cX8_init 21 = .ok (.putfield 16, 3) := by decide +kernel
theorem dX8_init_24 : decode cX8_init 24 = .ok (.aload_n 0, 1) := by decide +kernel
theorem dX8_init_25 : decode cX8_init 25 = .ok (.new 20, 3) := by decide +kernel
theorem dX8_init_28 : decode cX8_init 28 = .ok (.dup, 1) := by decide +kernel
theorem dX8_init_29 : decode cX8_init 29 = .ok (.invokespecial 22, 3) := by decide +kernel
theorem dX8_init_32 : decode cX8_init 32 = .ok (.putfield 23, 3) := by decide +kernel
theorem dX8_init_35 : decode cX8_init 35 = .ok (.aload_n 0, 1) := by decide +kernel
theorem dX8_init_36 : decode cX8_init 36 = .ok (.new 20, 3) := by decide +kernel
theorem dX8_init_39 : decode cX8_init 39 = .ok (.dup, 1) := by decide +kernel
theorem dX8_init_40 : decode cX8_init 40 = .ok (.invokespecial 22, 3) := by decide +kernel
theorem dX8_init_43 : decode cX8_init 43 = .ok (.putfield 27, 3) := by decide +kernel
theorem dX8_init_46 : decode cX8_init 46 = .ok (.aload_n 0, 1) := by decide +kernel
theorem dX8_init_47 : decode cX8_init 47 = .ok (.new 30, 3) := by decide +kernel
theorem dX8_init_50 : decode cX8_init 50 = .ok (.dup, 1) := by decide +kernel
theorem dX8_init_51 : decode cX8_init 51 = .ok (.invokespecial 32, 3) := by decide +kernel
theorem dX8_init_54 : decode cX8_init 54 = .ok (.putfield 33, 3) := by decide +kernel
theorem dX8_init_57 : decode cX8_init 57 = .ok (.aload_n 0, 1) := by decide +kernel
theorem dX8_init_58 : decode cX8_init 58 = .ok (.new 30, 3) := by decide +kernel
theorem dX8_init_61 : decode cX8_init 61 = .ok (.dup, 1) := by decide +kernel
theorem dX8_init_62 : decode cX8_init 62 = .ok (.invokespecial 32, 3) := by decide +kernel
theorem dX8_init_65 : decode cX8_init 65 = .ok (.putfield 37, 3) := by decide +kernel
theorem dX8_init_68 : decode cX8_init 68 = .ok (.aload_n 0, 1) := by decide +kernel
theorem dX8_init_69 : decode cX8_init 69 = .ok (.new 40, 3) := by decide +kernel
theorem dX8_init_72 : decode cX8_init 72 = .ok (.dup, 1) := by decide +kernel
theorem dX8_init_73 : decode cX8_init 73 = .ok (.invokespecial 42, 3) := by decide +kernel
theorem dX8_init_76 : decode cX8_init 76 = .ok (.putfield 43, 3) := by decide +kernel
theorem dX8_init_79 : decode cX8_init 79 = .ok (.aload_n 0, 1) := by decide +kernel
theorem dX8_init_80 : decode cX8_init 80 = .ok (.new 30, 3) := by decide +kernel
theorem dX8_init_83 : decode cX8_init 83 = .ok (.dup, 1) := by decide +kernel
theorem dX8_init_84 : decode cX8_init 84 = .ok (.invokespecial 32, 3) := by decide +kernel
theorem dX8_init_87 : decode cX8_init 87 = .ok (.putfield 47, 3) := by decide +kernel
theorem dX8_init_90 : decode cX8_init 90 = .ok (.aload_n 0, 1) := by decide +kernel
theorem dX8_init_91 : decode cX8_init 91 = .ok (.new 30, 3) := by decide +kernel
theorem dX8_init_94 : decode cX8_init 94 = .ok (.dup, 1) := by decide +kernel
theorem dX8_init_95 : decode cX8_init 95 = .ok (.invokespecial 32, 3) := by decide +kernel
theorem dX8_init_98 : decode cX8_init 98 = .ok (.putfield 50, 3) := by decide +kernel
theorem dX8_init_101 : decode cX8_init 101 = .ok (.aload_n 0, 1) := by decide +kernel
theorem dX8_init_102 : decode cX8_init 102 = .ok (.iconst (-1), 1) := by decide +kernel
theorem dX8_init_103 : decode cX8_init 103 = .ok (.putfield 53, 3) := by decide +kernel
theorem dX8_init_106 : decode cX8_init 106 = .ok (.aload_n 0, 1) := by decide +kernel
theorem dX8_init_107 : decode cX8_init 107 = .ok (.getfield 23, 3) := by decide +kernel
theorem dX8_init_110 : decode cX8_init 110 = .ok (.invokevirtual 57, 3) := by decide +kernel
theorem dX8_init_113 : decode cX8_init 113 = .ok (.aload_n 0, 1) := by decide +kernel
theorem dX8_init_114 : decode cX8_init 114 = .ok (.getfield 33, 3) := by decide +kernel
theorem dX8_init_117 : decode cX8_init 117 = .ok (.aload_n 0, 1) := by decide +kernel
theorem dX8_init_118 : decode cX8_init 118 = .ok (.getfield 23, 3) := by decide +kernel
theorem dX8_init_121 : decode cX8_init 121 = .ok (.invokevirtual 60, 3) := by decide +kernel
theorem dX8_init_124 : decode cX8_init 124 = .ok (.return_, 1) := by decide +kernel
theorem dX8_append_0 : decode cX8_append 0 = .ok (.aload_n 0, 1) := by decide +kernel
theorem dX8_append_1 : decode cX8_append 1 = .ok (.getfield 64, 3) := by decide +kernel
theorem dX8_append_4 : decode cX8_append 4 = .ok (.bipush 20, 2) := by decide +kernel
theorem dX8_append_6 : decode cX8_append 6 = .ok (.iadd, 1) := by decide +kernel
theorem dX8_append_7 : decode cX8_append 7 = .ok (.sipush 600, 3) := by decide +kernel
theorem dX8_append_10 : decode cX8_append 10 = .ok (.if_icmp .le 5, 3) := by decide +kernel
theorem dX8_append_13 : decode cX8_append 13 = .ok (.iconst (-1), 1) := by decide +kernel
theorem dX8_append_14 : decode cX8_append 14 = .ok (.ireturn, 1) := by decide +kernel
theorem dX8_append_15 : decode cX8_append 15 = .ok (.aload_n 0, 1) := by decide +kernel
theorem dX8_append_16 : decode cX8_append 16 = .ok (.iload_n 1, 1) := by decide +kernel
theorem dX8_append_17 : decode cX8_append 17 = .ok (.invokevirtual 67, 3) := by decide +kernel
theorem dX8_append_20 : decode cX8_append 20 = .ok (.aload_n 0, 1) := by decide +kernel
theorem dX8_append_21 : decode cX8_append 21 = .ok (.iload_n 2, 1) := by decide +kernel
theorem dX8_append_22 : decode cX8_append 22 = .ok (.invokevirtual 67, 3) := by decide +kernel
theorem dX8_append_25 : decode cX8_append 25 = .ok (.aload_n 0, 1) := by decide +kernel
theorem dX8_append_26 : decode cX8_append 26 = .ok (.iload_n 3, 1) := by decide +kernel
theorem dX8_append_27 : decode cX8_append 27 = .ok (.invokevirtual 67, 3) := by decide +kernel
theorem dX8_append_30 : decode cX8_append 30 = .ok (.aload_n 0, 1) := by decide +kernel
theorem dX8_append_31 : decode cX8_append 31 = .ok (.iload 4, 2) := by decide +kernel
theorem dX8_append_33 : decode cX8_append 33 = .ok (.invokevirtual 67, 3) := by decide +kernel
theorem dX8_append_36 : decode cX8_append 36 = .ok (.aload_n 0, 1) := by decide +kernel
theorem dX8_append_37 : decode cX8_append 37 = .ok (.iload 5, 2) := by decide +kernel
theorem dX8_append_39 : decode cX8_append 39 = .ok (.invokevirtual 67, 3) := by decide +kernel
theorem dX8_append_42 : decode cX8_append 42 = .ok (.aload_n 0, 1) := by decide +kernel
theorem dX8_append_43 : decode cX8_append 43 = .ok (.getfield 64, 3) := by decide +kernel
theorem dX8_append_46 : decode cX8_append 46 = .ok (.ireturn, 1) := by decide +kernel
theorem dX8_appendBytes_0 : decode cX8_appendBytes 0 = .ok (.bipush 24, 2) := by decide +kernel
theorem dX8_appendBytes_2 : decode cX8_appendBytes 2 = .ok (.istore_n 2, 1) := by decide +kernel
theorem dX8_appendBytes_3 : decode cX8_appendBytes 3 = .ok (.iload_n 2, 1) := by decide +kernel
theorem dX8_appendBytes_4 : decode cX8_appendBytes 4 = .ok (.ifCond .lt 51, 3) := by decide +kernel
theorem dX8_appendBytes_7 : decode cX8_appendBytes 7 = .ok (.aload_n 0, 1) := by decide +kernel
theorem dX8_appendBytes_8 : decode cX8_appendBytes 8 = .ok (.getfield 64, 3) := by decide +kernel
theorem dX8_appendBytes_11 : decode cX8_appendBytes 11 = .ok (.ifCond .lt 38, 3) := by decide +kernel
theorem dX8_appendBytes_14 : decode cX8_appendBytes 14 = .ok (.aload_n 0, 1) := by decide +kernel
theorem dX8_appendBytes_15 : decode cX8_appendBytes 15 = .ok (.getfield 64, 3) := by decide +kernel
theorem dX8_appendBytes_18 : decode cX8_appendBytes 18 = .ok (.aload_n 0, 1) := by decide +kernel
theorem dX8_appendBytes_19 : decode cX8_appendBytes 19 = .ok (.getfield 9, 3) := by decide +kernel
theorem dX8_appendBytes_22 : decode cX8_appendBytes 22 = .ok (.arraylength, 1) := by decide +kernel
theorem dX8_appendBytes_23 : decode cX8_appendBytes 23 = .ok (.if_icmp .ge 26, 3) := by decide +kernel
theorem dX8_appendBytes_26 : decode cX8_appendBytes 26 = .ok (.aload_n 0, 1) := by decide +kernel
theorem dX8_appendBytes_27 : decode cX8_appendBytes 27 = .ok (.getfield 9, 3) := by decide +kernel
theorem dX8_appendBytes_30 : decode cX8_appendBytes 30 = .ok (.aload_n 0, 1) := by decide +kernel
theorem dX8_appendBytes_31 : decode cX8_appendBytes 31 = .ok (.getfield 64, 3) := by decide +kernel
theorem dX8_appendBytes_34 : decode cX8_appendBytes 34 = .ok (.iload_n 1, 1) := by decide +kernel
theorem dX8_appendBytes_35 : decode cX8_appendBytes 35 = .ok (.iload_n 2, 1) := by decide +kernel
theorem dX8_appendBytes_36 : decode cX8_appendBytes 36 = .ok (.iushr, 1) := by decide +kernel
theorem dX8_appendBytes_37 : decode cX8_appendBytes 37 = .ok (.i2b, 1) := by decide +kernel
theorem dX8_appendBytes_38 : decode cX8_appendBytes 38 = .ok (.bastore, 1) := by decide +kernel
theorem dX8_appendBytes_39 : decode cX8_appendBytes 39 = .ok (.aload_n 0, 1) := by decide +kernel
theorem dX8_appendBytes_40 : decode cX8_appendBytes 40 = .ok (.dup, 1) := by decide +kernel
theorem dX8_appendBytes_41 : decode cX8_appendBytes 41 = .ok (.getfield 64, 3) := by decide +kernel
theorem dX8_appendBytes_44 : decode cX8_appendBytes 44 = .ok (.iconst 1, 1) := by decide +kernel
theorem dX8_appendBytes_45 : decode cX8_appendBytes 45 = .ok (.iadd, 1) := by decide +kernel
theorem dX8_appendBytes_46 : decode cX8_appendBytes 46 = .ok (.putfield 64, 3) := by decide +kernel
theorem dX8_appendBytes_49 : decode cX8_appendBytes 49 = .ok (.iinc 2 (-8), 3) := by decide +kernel
theorem dX8_appendBytes_52 : decode cX8_appendBytes 52 = .ok (.goto (-49), 3) := by decide +kernel
theorem dX8_appendBytes_55 : decode cX8_appendBytes 55 = .ok (.return_, 1) := by decide +kernel
theorem dX8_parse_0 : decode cX8_parse 0 = .ok (.iload_n 1, 1) := by decide +kernel
theorem dX8_parse_1 : decode cX8_parse 1 = .ok (.ifCond .lt 11, 3) := by decide +kernel
theorem dX8_parse_4 : decode cX8_parse 4 = .ok (.iload_n 1, 1) := by decide +kernel
theorem dX8_parse_5 : decode cX8_parse 5 = .ok (.aload_n 0, 1) := by decide +kernel
theorem dX8_parse_6 : decode cX8_parse 6 = .ok (.getfield 64, 3) := by decide +kernel
theorem dX8_parse_9 : decode cX8_parse 9 = .ok (.if_icmp .le 13, 3) := by decide +kernel
theorem dX8_parse_12 : decode cX8_parse 12 = .ok (.new 71, 3) := by decide +kernel
theorem dX8_parse_15 : decode cX8_parse 15 = .ok (.dup, 1) := by decide +kernel
theorem dX8_parse_16 : decode cX8_parse 16 = .ok (.ldc 73, 2) := by decide +kernel
theorem dX8_parse_18 : decode cX8_parse 18 = .ok (.invokespecial 75, 3) := by decide +kernel
theorem dX8_parse_21 : decode cX8_parse 21 = .ok (.athrow, 1) := by decide +kernel
theorem dX8_parse_22 : decode cX8_parse 22 = .ok (.aload_n 0, 1) := by decide +kernel
theorem dX8_parse_23 : decode cX8_parse 23 = .ok (.iconst 0, 1) := by decide +kernel
theorem dX8_parse_24 : decode cX8_parse 24 = .ok (.putfield 64, 3) := by decide +kernel
theorem dX8_parse_27 : decode cX8_parse 27 = .ok (.aload_n 0, 1) := by decide +kernel
theorem dX8_parse_28 : decode cX8_parse 28 = .ok (.getfield 16, 3) := by decide +kernel
theorem dX8_parse_31 : decode cX8_parse 31 = .ok (.aload_n 0, 1) := by decide +kernel
theorem dX8_parse_32 : decode cX8_parse 32 = .ok (.getfield 27, 3) := by decide +kernel
theorem dX8_parse_35 : decode cX8_parse 35 = .ok (.aload_n 0, 1) := by decide +kernel
theorem dX8_parse_36 : decode cX8_parse 36 = .ok (.getfield 9, 3) := by decide +kernel
theorem dX8_parse_39 : decode cX8_parse 39 = .ok (.iload_n 1, 1) := by decide +kernel
theorem dX8_parse_40 : decode cX8_parse 40 = .ok (.invokevirtual 78, 3) := by decide +kernel
theorem dX8_parse_43 : decode cX8_parse 43 = .ok (.istore_n 2, 1) := by decide +kernel
theorem dX8_parse_44 : decode cX8_parse 44 = .ok (.iload_n 2, 1) := by decide +kernel
theorem dX8_parse_45 : decode cX8_parse 45 = .ok (.ifCond .eq 16, 3) := by decide +kernel
theorem dX8_parse_48 : decode cX8_parse 48 = .ok (.aload_n 0, 1) := by decide +kernel
theorem dX8_parse_49 : decode cX8_parse 49 = .ok (.aload_n 0, 1) := by decide +kernel
theorem dX8_parse_50 : decode cX8_parse 50 = .ok (.getfield 16, 3) := by decide +kernel
theorem dX8_parse_53 : decode cX8_parse 53 = .ok (.getfield 82, 3) := by decide +kernel
theorem dX8_parse_56 : decode cX8_parse 56 = .ok (.putfield 53, 3) := by decide +kernel
theorem dX8_parse_59 : decode cX8_parse 59 = .ok (.iload_n 2, 1) := by decide +kernel
theorem dX8_parse_60 : decode cX8_parse 60 = .ok (.ireturn, 1) := by decide +kernel
theorem dX8_parse_61 : decode cX8_parse 61 = .ok (.aload_n 0, 1) := by decide +kernel
theorem dX8_parse_62 : decode cX8_parse 62 = .ok (.iconst (-1), 1) := by decide +kernel
theorem dX8_parse_63 : decode cX8_parse 63 = .ok (.putfield 53, 3) := by decide +kernel
theorem dX8_parse_66 : decode cX8_parse 66 = .ok (.aload_n 0, 1) := by decide +kernel
theorem dX8_parse_67 : decode cX8_parse 67 = .ok (.invokevirtual 85, 3) := by decide +kernel
theorem dX8_parse_70 : decode cX8_parse 70 = .ok (.iload_n 2, 1) := by decide +kernel
theorem dX8_parse_71 : decode cX8_parse 71 = .ok (.ireturn, 1) := by decide +kernel
theorem dX8_replacePlan_0 : decode cX8_replacePlan 0 = .ok (.aload_n 0, 1) := by decide +kernel
theorem dX8_replacePlan_1 : decode cX8_replacePlan 1 = .ok (.getfield 23, 3) := by decide +kernel
theorem dX8_replacePlan_4 : decode cX8_replacePlan 4 = .ok (.astore_n 1, 1) := by decide +kernel
theorem dX8_replacePlan_5 : decode cX8_replacePlan 5 = .ok (.aload_n 0, 1) := by decide +kernel
theorem dX8_replacePlan_6 : decode cX8_replacePlan 6 = .ok (.aload_n 0, 1) := by decide +kernel
theorem dX8_replacePlan_7 : decode cX8_replacePlan 7 = .ok (.getfield 27, 3) := by decide +kernel
theorem dX8_replacePlan_10 : decode cX8_replacePlan 10 = .ok (.putfield 23, 3) := by decide +kernel
theorem dX8_replacePlan_13 : decode cX8_replacePlan 13 = .ok (.aload_n 0, 1) := by decide +kernel
theorem dX8_replacePlan_14 : decode cX8_replacePlan 14 = .ok (.aload_n 1, 1) := by decide +kernel
theorem dX8_replacePlan_15 : decode cX8_replacePlan 15 = .ok (.putfield 27, 3) := by decide +kernel
theorem dX8_replacePlan_18 : decode cX8_replacePlan 18 = .ok (.aload_n 0, 1) := by decide +kernel
theorem dX8_replacePlan_19 : decode cX8_replacePlan 19 = .ok (.getfield 33, 3) := by decide +kernel
theorem dX8_replacePlan_22 : decode cX8_replacePlan 22 = .ok (.aload_n 0, 1) := by decide +kernel
theorem dX8_replacePlan_23 : decode cX8_replacePlan 23 = .ok (.getfield 23, 3) := by decide +kernel
theorem dX8_replacePlan_26 : decode cX8_replacePlan 26 = .ok (.invokevirtual 60, 3) := by decide +kernel
theorem dX8_replacePlan_29 : decode cX8_replacePlan 29 = .ok (.aload_n 0, 1) := by decide +kernel
theorem dX8_replacePlan_30 : decode cX8_replacePlan 30 = .ok (.getfield 43, 3) := by decide +kernel
theorem dX8_replacePlan_33 : decode cX8_replacePlan 33 = .ok (.invokevirtual 88, 3) := by decide +kernel
theorem dX8_replacePlan_36 : decode cX8_replacePlan 36 = .ok (.aload_n 0, 1) := by decide +kernel
theorem dX8_replacePlan_37 : decode cX8_replacePlan 37 = .ok (.iconst 0, 1) := by decide +kernel
theorem dX8_replacePlan_38 : decode cX8_replacePlan 38 = .ok (.putfield 91, 3) := by decide +kernel
theorem dX8_replacePlan_41 : decode cX8_replacePlan 41 = .ok (.aload_n 0, 1) := by decide +kernel
theorem dX8_replacePlan_42 : decode cX8_replacePlan 42 = .ok (.iconst 0, 1) := by decide +kernel
theorem dX8_replacePlan_43 : decode cX8_replacePlan 43 = .ok (.putfield 95, 3) := by decide +kernel
theorem dX8_replacePlan_46 : decode cX8_replacePlan 46 = .ok (.return_, 1) := by decide +kernel
theorem dX8_errorPosition_0 : decode cX8_errorPosition 0 = .ok (.aload_n 0, 1) := by decide +kernel
theorem dX8_errorPosition_1 : decode cX8_errorPosition 1 = .ok (.getfield 53, 3) := by decide +kernel
theorem dX8_errorPosition_4 : decode cX8_errorPosition 4 = .ok (.ireturn, 1) := by decide +kernel
theorem dX8_tick_0 : decode cX8_tick 0 = .ok (.aload_n 0, 1) := by decide +kernel
theorem dX8_tick_1 : decode cX8_tick 1 = .ok (.getfield 33, 3) := by decide +kernel
theorem dX8_tick_4 : decode cX8_tick 4 = .ok (.getfield 98, 3) := by decide +kernel
theorem dX8_tick_7 : decode cX8_tick 7 = .ok (.ireturn, 1) := by decide +kernel
theorem dX8_mayPass_0 : decode cX8_mayPass 0 = .ok (.iload_n 1, 1) := by decide +kernel
theorem dX8_mayPass_1 : decode cX8_mayPass 1 = .ok (.invokestatic 101, 3) := by decide +kernel
theorem dX8_mayPass_4 : decode cX8_mayPass 4 = .ok (.iload_n 2, 1) := by decide +kernel
theorem dX8_mayPass_5 : decode cX8_mayPass 5 = .ok (.invokestatic 101, 3) := by decide +kernel
theorem dX8_mayPass_8 : decode cX8_mayPass 8 = .ok (.aload_n 0, 1) := by decide +kernel
theorem dX8_mayPass_9 : decode cX8_mayPass 9 = .ok (.getfield 23, 3) := by decide +kernel
theorem dX8_mayPass_12 : decode cX8_mayPass 12 = .ok (.iload_n 1, 1) := by decide +kernel
theorem dX8_mayPass_13 : decode cX8_mayPass 13 = .ok (.iload_n 3, 1) := by decide +kernel
theorem dX8_mayPass_14 : decode cX8_mayPass 14 = .ok (.invokevirtual 104, 3) := by decide +kernel
theorem dX8_mayPass_17 : decode cX8_mayPass 17 = .ok (.iload_n 2, 1) := by decide +kernel
theorem dX8_mayPass_18 : decode cX8_mayPass 18 = .ok (.invokestatic 108, 3) := by decide +kernel
theorem dX8_mayPass_21 : decode cX8_mayPass 21 = .ok (.ifCond .ne 7, 3) := by decide +kernel
theorem dX8_mayPass_24 : decode cX8_mayPass 24 = .ok (.iconst 1, 1) := by decide +kernel
theorem dX8_mayPass_25 : decode cX8_mayPass 25 = .ok (.goto 4, 3) := by decide +kernel
theorem dX8_mayPass_28 : decode cX8_mayPass 28 = .ok (.iconst 0, 1) := by decide +kernel
theorem dX8_mayPass_29 : decode cX8_mayPass 29 = .ok (.ireturn, 1) := by decide +kernel
theorem dX8_isSafe_0 : decode cX8_isSafe 0 = .ok (.bipush 6, 2) := by decide +kernel
theorem dX8_isSafe_2 : decode cX8_isSafe 2 = .ok (.istore_n 1, 1) := by decide +kernel
theorem dX8_isSafe_3 : decode cX8_isSafe 3 = .ok (.aload_n 0, 1) := by decide +kernel
theorem dX8_isSafe_4 : decode cX8_isSafe 4 = .ok (.getfield 23, 3) := by decide +kernel
theorem dX8_isSafe_7 : decode cX8_isSafe 7 = .ok (.iconst 0, 1) := by decide +kernel
theorem dX8_isSafe_8 : decode cX8_isSafe 8 = .ok (.iconst 0, 1) := by decide +kernel
theorem dX8_isSafe_9 : decode cX8_isSafe 9 = .ok (.invokevirtual 104, 3) := by decide +kernel
theorem dX8_isSafe_12 : decode cX8_isSafe 12 = .ok (.iload_n 1, 1) := by decide +kernel
theorem dX8_isSafe_13 : decode cX8_isSafe 13 = .ok (.iand, 1) := by decide +kernel
theorem dX8_isSafe_14 : decode cX8_isSafe 14 = .ok (.ifCond .ne 21, 3) := by decide +kernel
theorem dX8_isSafe_17 : decode cX8_isSafe 17 = .ok (.aload_n 0, 1) := by decide +kernel
theorem dX8_isSafe_18 : decode cX8_isSafe 18 = .ok (.getfield 23, 3) := by decide +kernel
theorem dX8_isSafe_21 : decode cX8_isSafe 21 = .ok (.iconst 3, 1) := by decide +kernel
theorem dX8_isSafe_22 : decode cX8_isSafe 22 = .ok (.iconst 0, 1) := by decide +kernel
theorem dX8_isSafe_23 : decode cX8_isSafe 23 = .ok (.invokevirtual 104, 3) := by decide +kernel
theorem dX8_isSafe_26 : decode cX8_isSafe 26 = .ok (.iload_n 1, 1) := by decide +kernel
theorem dX8_isSafe_27 : decode cX8_isSafe 27 = .ok (.iand, 1) := by decide +kernel
theorem dX8_isSafe_28 : decode cX8_isSafe 28 = .ok (.ifCond .ne 7, 3) := by decide +kernel
theorem dX8_isSafe_31 : decode cX8_isSafe 31 = .ok (.iconst 1, 1) := by decide +kernel
theorem dX8_isSafe_32 : decode cX8_isSafe 32 = .ok (.goto 4, 3) := by decide +kernel
theorem dX8_isSafe_35 : decode cX8_isSafe 35 = .ok (.iconst 0, 1) := by decide +kernel
theorem dX8_isSafe_36 : decode cX8_isSafe 36 = .ok (.istore_n 2, 1) := by decide +kernel
theorem dX8_isSafe_37 : decode cX8_isSafe 37 = .ok (.iconst 1, 1) := by decide +kernel
theorem dX8_isSafe_38 : decode cX8_isSafe 38 = .ok (.istore_n 3, 1) := by decide +kernel
theorem dX8_isSafe_39 : decode cX8_isSafe 39 = .ok (.iconst 0, 1) := by decide +kernel
theorem dX8_isSafe_40 : decode cX8_isSafe 40 = .ok (.istore 4, 2) := by decide +kernel
theorem dX8_isSafe_42 : decode cX8_isSafe 42 = .ok (.iload 4, 2) := by decide +kernel
theorem dX8_isSafe_44 : decode cX8_isSafe 44 = .ok (.iconst 2, 1) := by decide +kernel
theorem dX8_isSafe_45 : decode cX8_isSafe 45 = .ok (.if_icmp .ge 47, 3) := by decide +kernel
theorem dX8_isSafe_48 : decode cX8_isSafe 48 = .ok (.iload_n 3, 1) := by decide +kernel
theorem dX8_isSafe_49 : decode cX8_isSafe 49 = .ok (.ifCond .eq 35, 3) := by decide +kernel
theorem dX8_isSafe_52 : decode cX8_isSafe 52 = .ok (.aload_n 0, 1) := by decide +kernel
theorem dX8_isSafe_53 : decode cX8_isSafe 53 = .ok (.getfield 23, 3) := by decide +kernel
theorem dX8_isSafe_56 : decode cX8_isSafe 56 = .ok (.iload 4, 2) := by decide +kernel
theorem dX8_isSafe_58 : decode cX8_isSafe 58 = .ok (.iconst 0, 1) := by decide +kernel
theorem dX8_isSafe_59 : decode cX8_isSafe 59 = .ok (.invokevirtual 112, 3) := by decide +kernel
theorem dX8_isSafe_62 : decode cX8_isSafe 62 = .ok (.iconst 1, 1) := by decide +kernel
theorem dX8_isSafe_63 : decode cX8_isSafe 63 = .ok (.if_icmp .lt 21, 3) := by decide +kernel
theorem dX8_isSafe_66 : decode cX8_isSafe 66 = .ok (.aload_n 0, 1) := by decide +kernel
theorem dX8_isSafe_67 : decode cX8_isSafe 67 = .ok (.getfield 23, 3) := by decide +kernel
theorem dX8_isSafe_70 : decode cX8_isSafe 70 = .ok (.iload 4, 2) := by decide +kernel
theorem dX8_isSafe_72 : decode cX8_isSafe 72 = .ok (.iconst 3, 1) := by decide +kernel
theorem dX8_isSafe_73 : decode cX8_isSafe 73 = .ok (.invokevirtual 112, 3) := by decide +kernel
theorem dX8_isSafe_76 : decode cX8_isSafe 76 = .ok (.iconst 1, 1) := by decide +kernel
theorem dX8_isSafe_77 : decode cX8_isSafe 77 = .ok (.if_icmp .lt 7, 3) := by decide +kernel
theorem dX8_isSafe_80 : decode cX8_isSafe 80 = .ok (.iconst 1, 1) := by decide +kernel
theorem dX8_isSafe_81 : decode cX8_isSafe 81 = .ok (.goto 4, 3) := by decide +kernel
theorem dX8_isSafe_84 : decode cX8_isSafe 84 = .ok (.iconst 0, 1) := by decide +kernel
theorem dX8_isSafe_85 : decode cX8_isSafe 85 = .ok (.istore_n 3, 1) := by decide +kernel
theorem dX8_isSafe_86 : decode cX8_isSafe 86 = .ok (.iinc 4 1, 3) := by decide +kernel
theorem dX8_isSafe_89 : decode cX8_isSafe 89 = .ok (.goto (-47), 3) := by decide +kernel
theorem dX8_isSafe_92 : decode cX8_isSafe 92 = .ok (.iload_n 2, 1) := by decide +kernel
theorem dX8_isSafe_93 : decode cX8_isSafe 93 = .ok (.ifCond .eq 11, 3) := by decide +kernel
theorem dX8_isSafe_96 : decode cX8_isSafe 96 = .ok (.iload_n 3, 1) := by decide +kernel
theorem dX8_isSafe_97 : decode cX8_isSafe 97 = .ok (.ifCond .eq 7, 3) := by decide +kernel
theorem dX8_isSafe_100 : decode cX8_isSafe 100 = .ok (.iconst 1, 1) := by decide +kernel
theorem dX8_isSafe_101 : decode cX8_isSafe 101 = .ok (.goto 4, 3) := by decide +kernel
theorem dX8_isSafe_104 : decode cX8_isSafe 104 = .ok (.iconst 0, 1) := by decide +kernel
theorem dX8_isSafe_105 : decode cX8_isSafe 105 = .ok (.ireturn, 1) := by decide +kernel
theorem dX8_holds_0 : decode cX8_holds 0 = .ok (.iload_n 1, 1) := by decide +kernel
theorem dX8_holds_1 : decode cX8_holds 1 = .ok (.invokestatic 101, 3) := by decide +kernel
theorem dX8_holds_4 : decode cX8_holds 4 = .ok (.iload_n 2, 1) := by decide +kernel
theorem dX8_holds_5 : decode cX8_holds 5 = .ok (.invokestatic 101, 3) := by decide +kernel
theorem dX8_holds_8 : decode cX8_holds 8 = .ok (.iload_n 1, 1) := by decide +kernel
theorem dX8_holds_9 : decode cX8_holds 9 = .ok (.iload_n 2, 1) := by decide +kernel
theorem dX8_holds_10 : decode cX8_holds 10 = .ok (.if_icmp .ne 7, 3) := by decide +kernel
theorem dX8_holds_13 : decode cX8_holds 13 = .ok (.iconst 1, 1) := by decide +kernel
theorem dX8_holds_14 : decode cX8_holds 14 = .ok (.goto 4, 3) := by decide +kernel
theorem dX8_holds_17 : decode cX8_holds 17 = .ok (.iconst 0, 1) := by decide +kernel
theorem dX8_holds_18 : decode cX8_holds 18 = .ok (.ireturn, 1) := by decide +kernel
theorem dX8_waiting_0 : decode cX8_waiting 0 = .ok (.iload_n 1, 1) := by decide +kernel
theorem dX8_waiting_1 : decode cX8_waiting 1 = .ok (.invokestatic 116, 3) := by decide +kernel
theorem dX8_waiting_4 : decode cX8_waiting 4 = .ok (.aload_n 0, 1) := by decide +kernel
theorem dX8_waiting_5 : decode cX8_waiting 5 = .ok (.getfield 33, 3) := by decide +kernel
theorem dX8_waiting_8 : decode cX8_waiting 8 = .ok (.iload_n 1, 1) := by decide +kernel
theorem dX8_waiting_9 : decode cX8_waiting 9 = .ok (.invokevirtual 119, 3) := by decide +kernel
theorem dX8_waiting_12 : decode cX8_waiting 12 = .ok (.getfield 123, 3) := by decide +kernel
theorem dX8_waiting_15 : decode cX8_waiting 15 = .ok (.getfield 129, 3) := by decide +kernel
theorem dX8_waiting_18 : decode cX8_waiting 18 = .ok (.ireturn, 1) := by decide +kernel
theorem dX8_kindAt_0 : decode cX8_kindAt 0 = .ok (.aload_n 0, 1) := by decide +kernel
theorem dX8_kindAt_1 : decode cX8_kindAt 1 = .ok (.iload_n 1, 1) := by decide +kernel
theorem dX8_kindAt_2 : decode cX8_kindAt 2 = .ok (.iload_n 2, 1) := by decide +kernel
theorem dX8_kindAt_3 : decode cX8_kindAt 3 = .ok (.invokevirtual 134, 3) := by decide +kernel
theorem dX8_kindAt_6 : decode cX8_kindAt 6 = .ok (.aload_n 0, 1) := by decide +kernel
theorem dX8_kindAt_7 : decode cX8_kindAt 7 = .ok (.getfield 33, 3) := by decide +kernel
theorem dX8_kindAt_10 : decode cX8_kindAt 10 = .ok (.iload_n 1, 1) := by decide +kernel
theorem dX8_kindAt_11 : decode cX8_kindAt 11 = .ok (.invokevirtual 119, 3) := by decide +kernel
theorem dX8_kindAt_14 : decode cX8_kindAt 14 = .ok (.getfield 123, 3) := by decide +kernel
theorem dX8_kindAt_17 : decode cX8_kindAt 17 = .ok (.iload_n 2, 1) := by decide +kernel
theorem dX8_kindAt_18 : decode cX8_kindAt 18 = .ok (.iconst 0, 1) := by decide +kernel
theorem dX8_kindAt_19 : decode cX8_kindAt 19 = .ok (.invokevirtual 138, 3) := by decide +kernel
theorem dX8_kindAt_22 : decode cX8_kindAt 22 = .ok (.ireturn, 1) := by decide +kernel
theorem dX8_tagAt_0 : decode cX8_tagAt 0 = .ok (.aload_n 0, 1) := by decide +kernel
theorem dX8_tagAt_1 : decode cX8_tagAt 1 = .ok (.iload_n 1, 1) := by decide +kernel
theorem dX8_tagAt_2 : decode cX8_tagAt 2 = .ok (.iload_n 2, 1) := by decide +kernel
theorem dX8_tagAt_3 : decode cX8_tagAt 3 = .ok (.invokevirtual 134, 3) := by decide +kernel
theorem dX8_tagAt_6 : decode cX8_tagAt 6 = .ok (.aload_n 0, 1) := by decide +kernel
theorem dX8_tagAt_7 : decode cX8_tagAt 7 = .ok (.getfield 33, 3) := by decide +kernel
theorem dX8_tagAt_10 : decode cX8_tagAt 10 = .ok (.iload_n 1, 1) := by decide +kernel
theorem dX8_tagAt_11 : decode cX8_tagAt 11 = .ok (.invokevirtual 119, 3) := by decide +kernel
theorem dX8_tagAt_14 : decode cX8_tagAt 14 = .ok (.getfield 123, 3) := by decide +kernel
theorem dX8_tagAt_17 : decode cX8_tagAt 17 = .ok (.iload_n 2, 1) := by decide +kernel
theorem dX8_tagAt_18 : decode cX8_tagAt 18 = .ok (.iconst 1, 1) := by decide +kernel
theorem dX8_tagAt_19 : decode cX8_tagAt 19 = .ok (.invokevirtual 138, 3) := by decide +kernel
theorem dX8_tagAt_22 : decode cX8_tagAt 22 = .ok (.ireturn, 1) := by decide +kernel
theorem dX8_blockers_0 : decode cX8_blockers 0 = .ok (.aload_n 0, 1) := by decide +kernel
theorem dX8_blockers_1 : decode cX8_blockers 1 = .ok (.iload_n 1, 1) := by decide +kernel
theorem dX8_blockers_2 : decode cX8_blockers 2 = .ok (.iload_n 2, 1) := by decide +kernel
theorem dX8_blockers_3 : decode cX8_blockers 3 = .ok (.invokevirtual 134, 3) := by decide +kernel
theorem dX8_blockers_6 : decode cX8_blockers 6 = .ok (.aload_n 0, 1) := by decide +kernel
theorem dX8_blockers_7 : decode cX8_blockers 7 = .ok (.getfield 33, 3) := by decide +kernel
theorem dX8_blockers_10 : decode cX8_blockers 10 = .ok (.iload_n 1, 1) := by decide +kernel
theorem dX8_blockers_11 : decode cX8_blockers 11 = .ok (.invokevirtual 119, 3) := by decide +kernel
theorem dX8_blockers_14 : decode cX8_blockers 14 = .ok (.getfield 123, 3) := by decide +kernel
theorem dX8_blockers_17 : decode cX8_blockers 17 = .ok (.astore_n 3, 1) := by decide +kernel
theorem dX8_blockers_18 : decode cX8_blockers 18 = .ok (.aload_n 0, 1) := by decide +kernel
theorem dX8_blockers_19 : decode cX8_blockers 19 = .ok (.getfield 23, 3) := by decide +kernel
theorem dX8_blockers_22 : decode cX8_blockers 22 = .ok (.aload_n 3, 1) := by decide +kernel
theorem dX8_blockers_23 : decode cX8_blockers 23 = .ok (.iload_n 2, 1) := by decide +kernel
theorem dX8_blockers_24 : decode cX8_blockers 24 = .ok (.iconst 0, 1) := by decide +kernel
theorem dX8_blockers_25 : decode cX8_blockers 25 = .ok (.invokevirtual 138, 3) := by decide +kernel
theorem dX8_blockers_28 : decode cX8_blockers 28 = .ok (.aload_n 3, 1) := by decide +kernel
theorem dX8_blockers_29 : decode cX8_blockers 29 = .ok (.iload_n 2, 1) := by decide +kernel
theorem dX8_blockers_30 : decode cX8_blockers 30 = .ok (.invokevirtual 141, 3) := by decide +kernel
theorem dX8_blockers_33 : decode cX8_blockers 33 = .ok (.invokevirtual 104, 3) := by decide +kernel
theorem dX8_blockers_36 : decode cX8_blockers 36 = .ok (.istore 4, 2) := by decide +kernel
theorem dX8_blockers_38 : decode cX8_blockers 38 = .ok (.iconst 0, 1) := by decide +kernel
theorem dX8_blockers_39 : decode cX8_blockers 39 = .ok (.istore 5, 2) := by decide +kernel
theorem dX8_blockers_41 : decode cX8_blockers 41 = .ok (.iconst 0, 1) := by decide +kernel
theorem dX8_blockers_42 : decode cX8_blockers 42 = .ok (.istore 6, 2) := by decide +kernel
theorem dX8_blockers_44 : decode cX8_blockers 44 = .ok (.iload 6, 2) := by decide +kernel
theorem dX8_blockers_46 : decode cX8_blockers 46 = .ok (.iload_n 2, 1) := by decide +kernel
theorem dX8_blockers_47 : decode cX8_blockers 47 = .ok (.if_icmp .ge 33, 3) := by decide +kernel
theorem dX8_blockers_50 : decode cX8_blockers 50 = .ok (.iload 4, 2) := by decide +kernel
theorem dX8_blockers_52 : decode cX8_blockers 52 = .ok (.aload_n 3, 1) := by decide +kernel
theorem dX8_blockers_53 : decode cX8_blockers 53 = .ok (.iload 6, 2) := by decide +kernel
theorem dX8_blockers_55 : decode cX8_blockers 55 = .ok (.iconst 0, 1) := by decide +kernel
theorem dX8_blockers_56 : decode cX8_blockers 56 = .ok (.invokevirtual 138, 3) := by decide +kernel
theorem dX8_blockers_59 : decode cX8_blockers 59 = .ok (.invokestatic 108, 3) := by decide +kernel
theorem dX8_blockers_62 : decode cX8_blockers 62 = .ok (.ifCond .eq 12, 3) := by decide +kernel
theorem dX8_blockers_65 : decode cX8_blockers 65 = .ok (.iload 5, 2) := by decide +kernel
theorem dX8_blockers_67 : decode cX8_blockers 67 = .ok (.iconst 1, 1) := by decide +kernel
theorem dX8_blockers_68 : decode cX8_blockers 68 = .ok (.iload 6, 2) := by decide +kernel
theorem dX8_blockers_70 : decode cX8_blockers 70 = .ok (.ishl, 1) := by decide +kernel
theorem dX8_blockers_71 : decode cX8_blockers 71 = .ok (.ior, 1) := by decide +kernel
theorem dX8_blockers_72 : decode cX8_blockers 72 = .ok (.istore 5, 2) := by decide +kernel
theorem dX8_blockers_74 : decode cX8_blockers 74 = .ok (.iinc 6 1, 3) := by decide +kernel
theorem dX8_blockers_77 : decode cX8_blockers 77 = .ok (.goto (-33), 3) := by decide +kernel
theorem dX8_blockers_80 : decode cX8_blockers 80 = .ok (.iload 5, 2) := by decide +kernel
theorem dX8_blockers_82 : decode cX8_blockers 82 = .ok (.ireturn, 1) := by decide +kernel
theorem dX8_next_0 : decode cX8_next 0 = .ok (.iload_n 1, 1) := by decide +kernel
theorem dX8_next_1 : decode cX8_next 1 = .ok (.invokestatic 116, 3) := by decide +kernel
theorem dX8_next_4 : decode cX8_next 4 = .ok (.aload_n 0, 1) := by decide +kernel
theorem dX8_next_5 : decode cX8_next 5 = .ok (.getfield 33, 3) := by decide +kernel
theorem dX8_next_8 : decode cX8_next 8 = .ok (.aload_n 0, 1) := by decide +kernel
theorem dX8_next_9 : decode cX8_next 9 = .ok (.getfield 23, 3) := by decide +kernel
theorem dX8_next_12 : decode cX8_next 12 = .ok (.iload_n 1, 1) := by decide +kernel
theorem dX8_next_13 : decode cX8_next 13 = .ok (.invokevirtual 145, 3) := by decide +kernel
theorem dX8_next_16 : decode cX8_next 16 = .ok (.ireturn, 1) := by decide +kernel
theorem dX8_held_0 : decode cX8_held 0 = .ok (.iload_n 1, 1) := by decide +kernel
theorem dX8_held_1 : decode cX8_held 1 = .ok (.invokestatic 116, 3) := by decide +kernel
theorem dX8_held_4 : decode cX8_held 4 = .ok (.iload_n 2, 1) := by decide +kernel
theorem dX8_held_5 : decode cX8_held 5 = .ok (.invokestatic 101, 3) := by decide +kernel
theorem dX8_held_8 : decode cX8_held 8 = .ok (.aload_n 0, 1) := by decide +kernel
theorem dX8_held_9 : decode cX8_held 9 = .ok (.getfield 33, 3) := by decide +kernel
theorem dX8_held_12 : decode cX8_held 12 = .ok (.iload_n 1, 1) := by decide +kernel
theorem dX8_held_13 : decode cX8_held 13 = .ok (.invokevirtual 119, 3) := by decide +kernel
theorem dX8_held_16 : decode cX8_held 16 = .ok (.getfield 149, 3) := by decide +kernel
theorem dX8_held_19 : decode cX8_held 19 = .ok (.iload_n 2, 1) := by decide +kernel
theorem dX8_held_20 : decode cX8_held 20 = .ok (.invokevirtual 152, 3) := by decide +kernel
theorem dX8_held_23 : decode cX8_held 23 = .ok (.ireturn, 1) := by decide +kernel
theorem dX8_word_0 : decode cX8_word 0 = .ok (.iload_n 1, 1) := by decide +kernel
theorem dX8_word_1 : decode cX8_word 1 = .ok (.invokestatic 116, 3) := by decide +kernel
theorem dX8_word_4 : decode cX8_word 4 = .ok (.iload_n 2, 1) := by decide +kernel
theorem dX8_word_5 : decode cX8_word 5 = .ok (.ifCond .lt 9, 3) := by decide +kernel
theorem dX8_word_8 : decode cX8_word 8 = .ok (.iload_n 2, 1) := by decide +kernel
theorem dX8_word_9 : decode cX8_word 9 = .ok (.bipush 16, 2) := by decide +kernel
theorem dX8_word_11 : decode cX8_word 11 = .ok (.if_icmp .lt 13, 3) := by decide +kernel
theorem dX8_word_14 : decode cX8_word 14 = .ok (.new 156, 3) := by decide +kernel
theorem dX8_word_17 : decode cX8_word 17 = .ok (.dup, 1) := by decide +kernel
theorem dX8_word_18 : decode cX8_word 18 = .ok (.ldc 158, 2) := by decide +kernel
theorem dX8_word_20 : decode cX8_word 20 = .ok (.invokespecial 160, 3) := by decide +kernel
theorem dX8_word_23 : decode cX8_word 23 = .ok (.athrow, 1) := by decide +kernel
theorem dX8_word_24 : decode cX8_word 24 = .ok (.aload_n 0, 1) := by decide +kernel
theorem dX8_word_25 : decode cX8_word 25 = .ok (.getfield 33, 3) := by decide +kernel
theorem dX8_word_28 : decode cX8_word 28 = .ok (.iload_n 1, 1) := by decide +kernel
theorem dX8_word_29 : decode cX8_word 29 = .ok (.invokevirtual 119, 3) := by decide +kernel
theorem dX8_word_32 : decode cX8_word 32 = .ok (.iload_n 2, 1) := by decide +kernel
theorem dX8_word_33 : decode cX8_word 33 = .ok (.invokevirtual 161, 3) := by decide +kernel
theorem dX8_word_36 : decode cX8_word 36 = .ok (.ireturn, 1) := by decide +kernel
theorem dX8_tagState_0 : decode cX8_tagState 0 = .ok (.aload_n 0, 1) := by decide +kernel
theorem dX8_tagState_1 : decode cX8_tagState 1 = .ok (.iload_n 1, 1) := by decide +kernel
theorem dX8_tagState_2 : decode cX8_tagState 2 = .ok (.iload_n 2, 1) := by decide +kernel
theorem dX8_tagState_3 : decode cX8_tagState 3 = .ok (.invokevirtual 164, 3) := by decide +kernel
theorem dX8_tagState_6 : decode cX8_tagState 6 = .ok (.aload_n 0, 1) := by decide +kernel
theorem dX8_tagState_7 : decode cX8_tagState 7 = .ok (.getfield 33, 3) := by decide +kernel
theorem dX8_tagState_10 : decode cX8_tagState 10 = .ok (.iload_n 1, 1) := by decide +kernel
theorem dX8_tagState_11 : decode cX8_tagState 11 = .ok (.invokevirtual 119, 3) := by decide +kernel
theorem dX8_tagState_14 : decode cX8_tagState 14 = .ok (.getfield 167, 3) := by decide +kernel
theorem dX8_tagState_17 : decode cX8_tagState 17 = .ok (.iload_n 2, 1) := by decide +kernel
theorem dX8_tagState_18 : decode cX8_tagState 18 = .ok (.invokevirtual 171, 3) := by decide +kernel
theorem dX8_tagState_21 : decode cX8_tagState 21 = .ok (.ireturn, 1) := by decide +kernel
theorem dX8_stored_0 : decode cX8_stored 0 = .ok (.aload_n 0, 1) := by decide +kernel
theorem dX8_stored_1 : decode cX8_stored 1 = .ok (.iload_n 1, 1) := by decide +kernel
theorem dX8_stored_2 : decode cX8_stored 2 = .ok (.iload_n 2, 1) := by decide +kernel
theorem dX8_stored_3 : decode cX8_stored 3 = .ok (.invokevirtual 164, 3) := by decide +kernel
theorem dX8_stored_6 : decode cX8_stored 6 = .ok (.aload_n 0, 1) := by decide +kernel
theorem dX8_stored_7 : decode cX8_stored 7 = .ok (.getfield 33, 3) := by decide +kernel
theorem dX8_stored_10 : decode cX8_stored 10 = .ok (.iload_n 1, 1) := by decide +kernel
theorem dX8_stored_11 : decode cX8_stored 11 = .ok (.invokevirtual 119, 3) := by decide +kernel
theorem dX8_stored_14 : decode cX8_stored 14 = .ok (.getfield 167, 3) := by decide +kernel
theorem dX8_stored_17 : decode cX8_stored 17 = .ok (.iload_n 2, 1) := by decide +kernel
theorem dX8_stored_18 : decode cX8_stored 18 = .ok (.invokevirtual 176, 3) := by decide +kernel
theorem dX8_stored_21 : decode cX8_stored 21 = .ok (.ireturn, 1) := by decide +kernel
theorem dX8_data_0 : decode cX8_data 0 = .ok (.aload_n 0, 1) := by decide +kernel
theorem dX8_data_1 : decode cX8_data 1 = .ok (.iload_n 1, 1) := by decide +kernel
theorem dX8_data_2 : decode cX8_data 2 = .ok (.iload_n 2, 1) := by decide +kernel
theorem dX8_data_3 : decode cX8_data 3 = .ok (.invokevirtual 164, 3) := by decide +kernel
theorem dX8_data_6 : decode cX8_data 6 = .ok (.aload_n 0, 1) := by decide +kernel
theorem dX8_data_7 : decode cX8_data 7 = .ok (.getfield 33, 3) := by decide +kernel
theorem dX8_data_10 : decode cX8_data 10 = .ok (.iload_n 1, 1) := by decide +kernel
theorem dX8_data_11 : decode cX8_data 11 = .ok (.invokevirtual 119, 3) := by decide +kernel
theorem dX8_data_14 : decode cX8_data 14 = .ok (.getfield 167, 3) := by decide +kernel
theorem dX8_data_17 : decode cX8_data 17 = .ok (.astore 4, 2) := by decide +kernel
theorem dX8_data_19 : decode cX8_data 19 = .ok (.aload 4, 2) := by decide +kernel
theorem dX8_data_21 : decode cX8_data 21 = .ok (.iload_n 2, 1) := by decide +kernel
theorem dX8_data_22 : decode cX8_data 22 = .ok (.iload_n 3, 1) := by decide +kernel
theorem dX8_data_23 : decode cX8_data 23 = .ok (.invokevirtual 179, 3) := by decide +kernel
theorem dX8_data_26 : decode cX8_data 26 = .ok (.ifCond .ne 13, 3) := by decide +kernel
theorem dX8_data_29 : decode cX8_data 29 = .ok (.new 182, 3) := by decide +kernel
theorem dX8_data_32 : decode cX8_data 32 = .ok (.dup, 1) := by decide +kernel
theorem dX8_data_33 : decode cX8_data 33 = .ok (.ldc 184, 2) := by decide +kernel
theorem dX8_data_35 : decode cX8_data 35 = .ok (.invokespecial 186, 3) := by decide +kernel
theorem dX8_data_38 : decode cX8_data 38 = .ok (.athrow, 1) := by decide +kernel
theorem dX8_data_39 : decode cX8_data 39 = .ok (.aload 4, 2) := by decide +kernel
theorem dX8_data_41 : decode cX8_data 41 = .ok (.iload_n 2, 1) := by decide +kernel
theorem dX8_data_42 : decode cX8_data 42 = .ok (.iload_n 3, 1) := by decide +kernel
theorem dX8_data_43 : decode cX8_data 43 = .ok (.invokevirtual 187, 3) := by decide +kernel
theorem dX8_data_46 : decode cX8_data 46 = .ok (.ireturn, 1) := by decide +kernel
theorem dX8_forwarded_0 : decode cX8_forwarded 0 = .ok (.iload_n 1, 1) := by decide +kernel
theorem dX8_forwarded_1 : decode cX8_forwarded 1 = .ok (.invokestatic 116, 3) := by decide +kernel
theorem dX8_forwarded_4 : decode cX8_forwarded 4 = .ok (.aload_n 0, 1) := by decide +kernel
theorem dX8_forwarded_5 : decode cX8_forwarded 5 = .ok (.getfield 33, 3) := by decide +kernel
theorem dX8_forwarded_8 : decode cX8_forwarded 8 = .ok (.iload_n 1, 1) := by decide +kernel
theorem dX8_forwarded_9 : decode cX8_forwarded 9 = .ok (.invokevirtual 119, 3) := by decide +kernel
theorem dX8_forwarded_12 : decode cX8_forwarded 12 = .ok (.getfield 190, 3) := by decide +kernel
theorem dX8_forwarded_15 : decode cX8_forwarded 15 = .ok (.ireturn, 1) := by decide +kernel
theorem dX8_passings_0 : decode cX8_passings 0 = .ok (.iload_n 1, 1) := by decide +kernel
theorem dX8_passings_1 : decode cX8_passings 1 = .ok (.invokestatic 116, 3) := by decide +kernel
theorem dX8_passings_4 : decode cX8_passings 4 = .ok (.aload_n 0, 1) := by decide +kernel
theorem dX8_passings_5 : decode cX8_passings 5 = .ok (.getfield 33, 3) := by decide +kernel
theorem dX8_passings_8 : decode cX8_passings 8 = .ok (.iload_n 1, 1) := by decide +kernel
theorem dX8_passings_9 : decode cX8_passings 9 = .ok (.invokevirtual 119, 3) := by decide +kernel
theorem dX8_passings_12 : decode cX8_passings 12 = .ok (.getfield 193, 3) := by decide +kernel
theorem dX8_passings_15 : decode cX8_passings 15 = .ok (.ireturn, 1) := by decide +kernel
theorem dX8_utilisation_0 : decode cX8_utilisation 0 = .ok (.iload_n 1, 1) := by decide +kernel
theorem dX8_utilisation_1 : decode cX8_utilisation 1 = .ok (.invokestatic 116, 3) := by decide +kernel
theorem dX8_utilisation_4 : decode cX8_utilisation 4 = .ok (.aload_n 0, 1) := by decide +kernel
theorem dX8_utilisation_5 : decode cX8_utilisation 5 = .ok (.getfield 33, 3) := by decide +kernel
theorem dX8_utilisation_8 : decode cX8_utilisation 8 = .ok (.getfield 98, 3) := by decide +kernel
theorem dX8_utilisation_11 : decode cX8_utilisation 11 = .ok (.ifCond .gt 5, 3) := by decide +kernel
theorem dX8_utilisation_14 : decode cX8_utilisation 14 = .ok (.dconst 0, 1) := by decide +kernel
theorem dX8_utilisation_15 : decode cX8_utilisation 15 = .ok (.dreturn, 1) := by decide +kernel
theorem dX8_utilisation_16 : decode cX8_utilisation 16 = .ok (.aload_n 0, 1) := by decide +kernel
theorem dX8_utilisation_17 : decode cX8_utilisation 17 = .ok (.getfield 33, 3) := by decide +kernel
theorem dX8_utilisation_20 : decode cX8_utilisation 20 = .ok (.iload_n 1, 1) := by decide +kernel
theorem dX8_utilisation_21 : decode cX8_utilisation 21 = .ok (.invokevirtual 119, 3) := by decide +kernel
theorem dX8_utilisation_24 : decode cX8_utilisation 24 = .ok (.getfield 190, 3) := by decide +kernel
theorem dX8_utilisation_27 : decode cX8_utilisation 27 = .ok (.i2d, 1) := by decide +kernel
theorem dX8_utilisation_28 : decode cX8_utilisation 28 = .ok (.aload_n 0, 1) := by decide +kernel
theorem dX8_utilisation_29 : decode cX8_utilisation 29 = .ok (.getfield 33, 3) := by decide +kernel
theorem dX8_utilisation_32 : decode cX8_utilisation 32 = .ok (.getfield 98, 3) := by decide +kernel
theorem dX8_utilisation_35 : decode cX8_utilisation 35 = .ok (.i2d, 1) := by decide +kernel
theorem dX8_utilisation_36 : decode cX8_utilisation 36 = .ok (.ddiv, 1) := by decide +kernel
theorem dX8_utilisation_37 : decode cX8_utilisation 37 = .ok (.dreturn, 1) := by decide +kernel
theorem dX8_averageWait_0 : decode cX8_averageWait 0 = .ok (.iload_n 1, 1) := by decide +kernel
theorem dX8_averageWait_1 : decode cX8_averageWait 1 = .ok (.invokestatic 116, 3) := by decide +kernel
theorem dX8_averageWait_4 : decode cX8_averageWait 4 = .ok (.aload_n 0, 1) := by decide +kernel
theorem dX8_averageWait_5 : decode cX8_averageWait 5 = .ok (.getfield 33, 3) := by decide +kernel
theorem dX8_averageWait_8 : decode cX8_averageWait 8 = .ok (.iload_n 1, 1) := by decide +kernel
theorem dX8_averageWait_9 : decode cX8_averageWait 9 = .ok (.invokevirtual 119, 3) := by decide +kernel
theorem dX8_averageWait_12 : decode cX8_averageWait 12 = .ok (.invokestatic 196, 3) := by decide +kernel
theorem dX8_averageWait_15 : decode cX8_averageWait 15 = .ok (.freturn, 1) := by decide +kernel
theorem dX8_ratioBits_0 : decode cX8_ratioBits 0 = .ok (.aload_n 0, 1) := by decide +kernel
theorem dX8_ratioBits_1 : decode cX8_ratioBits 1 = .ok (.getfield 33, 3) := by decide +kernel
theorem dX8_ratioBits_4 : decode cX8_ratioBits 4 = .ok (.iconst 1, 1) := by decide +kernel
theorem dX8_ratioBits_5 : decode cX8_ratioBits 5 = .ok (.invokevirtual 119, 3) := by decide +kernel
theorem dX8_ratioBits_8 : decode cX8_ratioBits 8 = .ok (.invokestatic 196, 3) := by decide +kernel
theorem dX8_ratioBits_11 : decode cX8_ratioBits 11 = .ok (.fstore_n 1, 1) := by decide +kernel
theorem dX8_ratioBits_12 : decode cX8_ratioBits 12 = .ok (.fload_n 1, 1) := by decide +kernel
theorem dX8_ratioBits_13 : decode cX8_ratioBits 13 = .ok (.fconst 0, 1) := by decide +kernel
theorem dX8_ratioBits_14 : decode cX8_ratioBits 14 = .ok (.fcmp .l, 1) := by decide +kernel
theorem dX8_ratioBits_15 : decode cX8_ratioBits 15 = .ok (.ifCond .ne 5, 3) := by decide +kernel
theorem dX8_ratioBits_18 : decode cX8_ratioBits 18 = .ok (.iconst 0, 1) := by decide +kernel
theorem dX8_ratioBits_19 : decode cX8_ratioBits 19 = .ok (.ireturn, 1) := by decide +kernel
theorem dX8_ratioBits_20 : decode cX8_ratioBits 20 = .ok (.aload_n 0, 1) := by decide +kernel
theorem dX8_ratioBits_21 : decode cX8_ratioBits 21 = .ok (.getfield 33, 3) := by decide +kernel
theorem dX8_ratioBits_24 : decode cX8_ratioBits 24 = .ok (.iconst 0, 1) := by decide +kernel
theorem dX8_ratioBits_25 : decode cX8_ratioBits 25 = .ok (.invokevirtual 119, 3) := by decide +kernel
theorem dX8_ratioBits_28 : decode cX8_ratioBits 28 = .ok (.invokestatic 196, 3) := by decide +kernel
theorem dX8_ratioBits_31 : decode cX8_ratioBits 31 = .ok (.fload_n 1, 1) := by decide +kernel
theorem dX8_ratioBits_32 : decode cX8_ratioBits 32 = .ok (.fdiv, 1) := by decide +kernel
theorem dX8_ratioBits_33 : decode cX8_ratioBits 33 = .ok (.invokestatic 200, 3) := by decide +kernel
theorem dX8_ratioBits_36 : decode cX8_ratioBits 36 = .ok (.ireturn, 1) := by decide +kernel
theorem dX8_waitOf_0 : decode cX8_waitOf 0 = .ok (.aload_n 0, 1) := by decide +kernel
theorem dX8_waitOf_1 : decode cX8_waitOf 1 = .ok (.getfield 190, 3) := by decide +kernel
theorem dX8_waitOf_4 : decode cX8_waitOf 4 = .ok (.ifCond .gt 5, 3) := by decide +kernel
theorem dX8_waitOf_7 : decode cX8_waitOf 7 = .ok (.fconst 0, 1) := by decide +kernel
theorem dX8_waitOf_8 : decode cX8_waitOf 8 = .ok (.freturn, 1) := by decide +kernel
theorem dX8_waitOf_9 : decode cX8_waitOf 9 = .ok (.aload_n 0, 1) := by decide +kernel
theorem dX8_waitOf_10 : decode cX8_waitOf 10 = .ok (.getfield 204, 3) := by decide +kernel
theorem dX8_waitOf_13 : decode cX8_waitOf 13 = .ok (.i2f, 1) := by decide +kernel
theorem dX8_waitOf_14 : decode cX8_waitOf 14 = .ok (.aload_n 0, 1) := by decide +kernel
theorem dX8_waitOf_15 : decode cX8_waitOf 15 = .ok (.getfield 190, 3) := by decide +kernel
theorem dX8_waitOf_18 : decode cX8_waitOf 18 = .ok (.i2f, 1) := by decide +kernel
theorem dX8_waitOf_19 : decode cX8_waitOf 19 = .ok (.fdiv, 1) := by decide +kernel
theorem dX8_waitOf_20 : decode cX8_waitOf 20 = .ok (.freturn, 1) := by decide +kernel
theorem dX8_bitsOf_0 : decode cX8_bitsOf 0 = .ok (.fload_n 0, 1) := by decide +kernel
theorem dX8_bitsOf_1 : decode cX8_bitsOf 1 = .ok (.fconst 0, 1) := by decide +kernel
theorem dX8_bitsOf_2 : decode cX8_bitsOf 2 = .ok (.fcmp .l, 1) := by decide +kernel
theorem dX8_bitsOf_3 : decode cX8_bitsOf 3 = .ok (.ifCond .gt 5, 3) := by decide +kernel
theorem dX8_bitsOf_6 : decode cX8_bitsOf 6 = .ok (.iconst 0, 1) := by decide +kernel
theorem dX8_bitsOf_7 : decode cX8_bitsOf 7 = .ok (.ireturn, 1) := by decide +kernel
theorem dX8_bitsOf_8 : decode cX8_bitsOf 8 = .ok (.fload_n 0, 1) := by decide +kernel
theorem dX8_bitsOf_9 : decode cX8_bitsOf 9 = .ok (.fstore_n 1, 1) := by decide +kernel
theorem dX8_bitsOf_10 : decode cX8_bitsOf 10 = .ok (.iconst 0, 1) := by decide +kernel
theorem dX8_bitsOf_11 : decode cX8_bitsOf 11 = .ok (.istore_n 2, 1) := by decide +kernel
theorem dX8_bitsOf_12 : decode cX8_bitsOf 12 = .ok (.iconst 0, 1) := by decide +kernel
theorem dX8_bitsOf_13 : decode cX8_bitsOf 13 = .ok (.istore_n 3, 1) := by decide +kernel
theorem dX8_bitsOf_14 : decode cX8_bitsOf 14 = .ok (.iload_n 3, 1) := by decide +kernel
theorem dX8_bitsOf_15 : decode cX8_bitsOf 15 = .ok (.sipush 128, 3) := by decide +kernel
theorem dX8_bitsOf_18 : decode cX8_bitsOf 18 = .ok (.if_icmp .ge 22, 3) := by decide +kernel
theorem dX8_bitsOf_21 : decode cX8_bitsOf 21 = .ok (.fload_n 1, 1) := by decide +kernel
theorem dX8_bitsOf_22 : decode cX8_bitsOf 22 = .ok (.fconst 2, 1) := by decide +kernel
theorem dX8_bitsOf_23 : decode cX8_bitsOf 23 = .ok (.fcmp .l, 1) := by decide +kernel
theorem dX8_bitsOf_24 : decode cX8_bitsOf 24 = .ok (.ifCond .lt 16, 3) := by decide +kernel
theorem dX8_bitsOf_27 : decode cX8_bitsOf 27 = .ok (.fload_n 1, 1) := by decide +kernel
theorem dX8_bitsOf_28 : decode cX8_bitsOf 28 = .ok (.fconst 2, 1) := by decide +kernel
theorem dX8_bitsOf_29 : decode cX8_bitsOf 29 = .ok (.fdiv, 1) := by decide +kernel
theorem dX8_bitsOf_30 : decode cX8_bitsOf 30 = .ok (.fstore_n 1, 1) := by decide +kernel
theorem dX8_bitsOf_31 : decode cX8_bitsOf 31 = .ok (.iinc 2 1, 3) := by decide +kernel
theorem dX8_bitsOf_34 : decode cX8_bitsOf 34 = .ok (.iinc 3 1, 3) := by decide +kernel
theorem dX8_bitsOf_37 : decode cX8_bitsOf 37 = .ok (.goto (-23), 3) := by decide +kernel
theorem dX8_bitsOf_40 : decode cX8_bitsOf 40 = .ok (.iconst 0, 1) := by decide +kernel
theorem dX8_bitsOf_41 : decode cX8_bitsOf 41 = .ok (.istore_n 3, 1) := by decide +kernel
theorem dX8_bitsOf_42 : decode cX8_bitsOf 42 = .ok (.iload_n 3, 1) := by decide +kernel
theorem dX8_bitsOf_43 : decode cX8_bitsOf 43 = .ok (.sipush 128, 3) := by decide +kernel
theorem dX8_bitsOf_46 : decode cX8_bitsOf 46 = .ok (.if_icmp .ge 22, 3) := by decide +kernel
theorem dX8_bitsOf_49 : decode cX8_bitsOf 49 = .ok (.fload_n 1, 1) := by decide +kernel
theorem dX8_bitsOf_50 : decode cX8_bitsOf 50 = .ok (.fconst 1, 1) := by decide +kernel
theorem dX8_bitsOf_51 : decode cX8_bitsOf 51 = .ok (.fcmp .g, 1) := by decide +kernel
theorem dX8_bitsOf_52 : decode cX8_bitsOf 52 = .ok (.ifCond .ge 16, 3) := by decide +kernel
theorem dX8_bitsOf_55 : decode cX8_bitsOf 55 = .ok (.fload_n 1, 1) := by decide +kernel
theorem dX8_bitsOf_56 : decode cX8_bitsOf 56 = .ok (.fconst 2, 1) := by decide +kernel
theorem dX8_bitsOf_57 : decode cX8_bitsOf 57 = .ok (.fmul, 1) := by decide +kernel
theorem dX8_bitsOf_58 : decode cX8_bitsOf 58 = .ok (.fstore_n 1, 1) := by decide +kernel
theorem dX8_bitsOf_59 : decode cX8_bitsOf 59 = .ok (.iinc 2 (-1), 3) := by decide +kernel
theorem dX8_bitsOf_62 : decode cX8_bitsOf 62 = .ok (.iinc 3 1, 3) := by decide +kernel
theorem dX8_bitsOf_65 : decode cX8_bitsOf 65 = .ok (.goto (-23), 3) := by decide +kernel
theorem dX8_bitsOf_68 : decode cX8_bitsOf 68 = .ok (.fload_n 1, 1) := by decide +kernel
theorem dX8_bitsOf_69 : decode cX8_bitsOf 69 = .ok (.fconst 1, 1) := by decide +kernel
theorem dX8_bitsOf_70 : decode cX8_bitsOf 70 = .ok (.fsub, 1) := by decide +kernel
theorem dX8_bitsOf_71 : decode cX8_bitsOf 71 = .ok (.ldc 207, 2) := by decide +kernel
theorem dX8_bitsOf_73 : decode cX8_bitsOf 73 = .ok (.fmul, 1) := by decide +kernel
theorem dX8_bitsOf_74 : decode cX8_bitsOf 74 = .ok (.f2i, 1) := by decide +kernel
theorem dX8_bitsOf_75 : decode cX8_bitsOf 75 = .ok (.istore_n 3, 1) := by decide +kernel
theorem dX8_bitsOf_76 : decode cX8_bitsOf 76 = .ok (.iload_n 2, 1) := by decide +kernel
theorem dX8_bitsOf_77 : decode cX8_bitsOf 77 = .ok (.bipush 127, 2) := by decide +kernel
theorem dX8_bitsOf_79 : decode cX8_bitsOf 79 = .ok (.iadd, 1) := by decide +kernel
theorem dX8_bitsOf_80 : decode cX8_bitsOf 80 = .ok (.bipush 23, 2) := by decide +kernel
theorem dX8_bitsOf_82 : decode cX8_bitsOf 82 = .ok (.ishl, 1) := by decide +kernel
theorem dX8_bitsOf_83 : decode cX8_bitsOf 83 = .ok (.iload_n 3, 1) := by decide +kernel
theorem dX8_bitsOf_84 : decode cX8_bitsOf 84 = .ok (.ior, 1) := by decide +kernel
theorem dX8_bitsOf_85 : decode cX8_bitsOf 85 = .ok (.ireturn, 1) := by decide +kernel
theorem dX8_ticksToRest_0 : decode cX8_ticksToRest 0 = .ok (.bipush 51, 2) := by decide +kernel
theorem dX8_ticksToRest_2 : decode cX8_ticksToRest 2 = .ok (.istore_n 1, 1) := by decide +kernel
theorem dX8_ticksToRest_3 : decode cX8_ticksToRest 3 = .ok (.iconst 0, 1) := by decide +kernel
theorem dX8_ticksToRest_4 : decode cX8_ticksToRest 4 = .ok (.istore_n 2, 1) := by decide +kernel
theorem dX8_ticksToRest_5 : decode cX8_ticksToRest 5 = .ok (.iconst 0, 1) := by decide +kernel
theorem dX8_ticksToRest_6 : decode cX8_ticksToRest 6 = .ok (.istore_n 3, 1) := by decide +kernel
theorem dX8_ticksToRest_7 : decode cX8_ticksToRest 7 = .ok (.aload_n 0, 1) := by decide +kernel
theorem dX8_ticksToRest_8 : decode cX8_ticksToRest 8 = .ok (.getfield 37, 3) := by decide +kernel
theorem dX8_ticksToRest_11 : decode cX8_ticksToRest 11 = .ok (.aload_n 0, 1) := by decide +kernel
theorem dX8_ticksToRest_12 : decode cX8_ticksToRest 12 = .ok (.getfield 33, 3) := by decide +kernel
theorem dX8_ticksToRest_15 : decode cX8_ticksToRest 15 = .ok (.invokevirtual 208, 3) := by decide +kernel
theorem dX8_ticksToRest_18 : decode cX8_ticksToRest 18 = .ok (.sipush 500, 3) := by decide +kernel
theorem dX8_ticksToRest_21 : decode cX8_ticksToRest 21 = .ok (.iload_n 1, 1) := by decide +kernel
theorem dX8_ticksToRest_22 : decode cX8_ticksToRest 22 = .ok (.iadd, 1) := by decide +kernel
theorem dX8_ticksToRest_23 : decode cX8_ticksToRest 23 = .ok (.istore 4, 2) := by decide +kernel
theorem dX8_ticksToRest_25 : decode cX8_ticksToRest 25 = .ok (.iconst 0, 1) := by decide +kernel
theorem dX8_ticksToRest_26 : decode cX8_ticksToRest 26 = .ok (.istore 5, 2) := by decide +kernel
theorem dX8_ticksToRest_28 : decode cX8_ticksToRest 28 = .ok (.iload 5, 2) := by decide +kernel
theorem dX8_ticksToRest_30 : decode cX8_ticksToRest 30 = .ok (.iload 4, 2) := by decide +kernel
theorem dX8_ticksToRest_32 : decode cX8_ticksToRest 32 = .ok (.if_icmp .ge 50, 3) := by decide +kernel
theorem dX8_ticksToRest_35 : decode cX8_ticksToRest 35 = .ok (.iload_n 3, 1) := by decide +kernel
theorem dX8_ticksToRest_36 : decode cX8_ticksToRest 36 = .ok (.sipush 500, 3) := by decide +kernel
theorem dX8_ticksToRest_39 : decode cX8_ticksToRest 39 = .ok (.if_icmp .gt 43, 3) := by decide +kernel
theorem dX8_ticksToRest_42 : decode cX8_ticksToRest 42 = .ok (.iload_n 2, 1) := by decide +kernel
theorem dX8_ticksToRest_43 : decode cX8_ticksToRest 43 = .ok (.iload_n 3, 1) := by decide +kernel
theorem dX8_ticksToRest_44 : decode cX8_ticksToRest 44 = .ok (.isub, 1) := by decide +kernel
theorem dX8_ticksToRest_45 : decode cX8_ticksToRest 45 = .ok (.iload_n 1, 1) := by decide +kernel
theorem dX8_ticksToRest_46 : decode cX8_ticksToRest 46 = .ok (.if_icmp .ge 36, 3) := by decide +kernel
theorem dX8_ticksToRest_49 : decode cX8_ticksToRest 49 = .ok (.iload_n 2, 1) := by decide +kernel
theorem dX8_ticksToRest_50 : decode cX8_ticksToRest 50 = .ok (.aload_n 0, 1) := by decide +kernel
theorem dX8_ticksToRest_51 : decode cX8_ticksToRest 51 = .ok (.getfield 37, 3) := by decide +kernel
theorem dX8_ticksToRest_54 : decode cX8_ticksToRest 54 = .ok (.aload_n 0, 1) := by decide +kernel
theorem dX8_ticksToRest_55 : decode cX8_ticksToRest 55 = .ok (.getfield 23, 3) := by decide +kernel
theorem dX8_ticksToRest_58 : decode cX8_ticksToRest 58 = .ok (.iload_n 1, 1) := by decide +kernel
theorem dX8_ticksToRest_59 : decode cX8_ticksToRest 59 = .ok (.invokevirtual 212, 3) := by decide +kernel
theorem dX8_ticksToRest_62 : decode cX8_ticksToRest 62 = .ok (.iadd, 1) := by decide +kernel
theorem dX8_ticksToRest_63 : decode cX8_ticksToRest 63 = .ok (.istore_n 2, 1) := by decide +kernel
theorem dX8_ticksToRest_64 : decode cX8_ticksToRest 64 = .ok (.aload_n 0, 1) := by decide +kernel
theorem dX8_ticksToRest_65 : decode cX8_ticksToRest 65 = .ok (.getfield 37, 3) := by decide +kernel
theorem dX8_ticksToRest_68 : decode cX8_ticksToRest 68 = .ok (.getfield 215, 3) := by decide +kernel
theorem dX8_ticksToRest_71 : decode cX8_ticksToRest 71 = .ok (.ifCond .eq 5, 3) := by decide +kernel
theorem dX8_ticksToRest_74 : decode cX8_ticksToRest 74 = .ok (.iload_n 2, 1) := by decide +kernel
theorem dX8_ticksToRest_75 : decode cX8_ticksToRest 75 = .ok (.istore_n 3, 1) := by decide +kernel
theorem dX8_ticksToRest_76 : decode cX8_ticksToRest 76 = .ok (.iinc 5 1, 3) := by decide +kernel
theorem dX8_ticksToRest_79 : decode cX8_ticksToRest 79 = .ok (.goto (-51), 3) := by decide +kernel
theorem dX8_ticksToRest_82 : decode cX8_ticksToRest 82 = .ok (.iload_n 3, 1) := by decide +kernel
theorem dX8_ticksToRest_83 : decode cX8_ticksToRest 83 = .ok (.sipush 500, 3) := by decide +kernel
theorem dX8_ticksToRest_86 : decode cX8_ticksToRest 86 = .ok (.if_icmp .gt 7, 3) := by decide +kernel
theorem dX8_ticksToRest_89 : decode cX8_ticksToRest 89 = .ok (.iload_n 3, 1) := by decide +kernel
theorem dX8_ticksToRest_90 : decode cX8_ticksToRest 90 = .ok (.goto 4, 3) := by decide +kernel
theorem dX8_ticksToRest_93 : decode cX8_ticksToRest 93 = .ok (.iconst (-1), 1) := by decide +kernel
theorem dX8_ticksToRest_94 : decode cX8_ticksToRest 94 = .ok (.ireturn, 1) := by decide +kernel
theorem dX8_isStuck_0 : decode cX8_isStuck 0 = .ok (.aload_n 0, 1) := by decide +kernel
theorem dX8_isStuck_1 : decode cX8_isStuck 1 = .ok (.invokevirtual 218, 3) := by decide +kernel
theorem dX8_isStuck_4 : decode cX8_isStuck 4 = .ok (.iconst (-1), 1) := by decide +kernel
theorem dX8_isStuck_5 : decode cX8_isStuck 5 = .ok (.if_icmp .eq 17, 3) := by decide +kernel
theorem dX8_isStuck_8 : decode cX8_isStuck 8 = .ok (.aload_n 0, 1) := by decide +kernel
theorem dX8_isStuck_9 : decode cX8_isStuck 9 = .ok (.getfield 37, 3) := by decide +kernel
theorem dX8_isStuck_12 : decode cX8_isStuck 12 = .ok (.invokevirtual 222, 3) := by decide +kernel
theorem dX8_isStuck_15 : decode cX8_isStuck 15 = .ok (.ifCond .ne 7, 3) := by decide +kernel
theorem dX8_isStuck_18 : decode cX8_isStuck 18 = .ok (.iconst 1, 1) := by decide +kernel
theorem dX8_isStuck_19 : decode cX8_isStuck 19 = .ok (.goto 4, 3) := by decide +kernel
theorem dX8_isStuck_22 : decode cX8_isStuck 22 = .ok (.iconst 0, 1) := by decide +kernel
theorem dX8_isStuck_23 : decode cX8_isStuck 23 = .ok (.ireturn, 1) := by decide +kernel
theorem dX8_completeTick_0 : decode cX8_completeTick 0 = .ok (.aload_n 0, 1) := by decide +kernel
theorem dX8_completeTick_1 : decode cX8_completeTick 1 = .ok (.iload_n 1, 1) := by decide +kernel
theorem dX8_completeTick_2 : decode cX8_completeTick 2 = .ok (.iload_n 2, 1) := by decide +kernel
theorem dX8_completeTick_3 : decode cX8_completeTick 3 = .ok (.invokevirtual 164, 3) := by decide +kernel
theorem dX8_completeTick_6 : decode cX8_completeTick 6 = .ok (.aload_n 0, 1) := by decide +kernel
theorem dX8_completeTick_7 : decode cX8_completeTick 7 = .ok (.getfield 37, 3) := by decide +kernel
theorem dX8_completeTick_10 : decode cX8_completeTick 10 = .ok (.iload_n 1, 1) := by decide +kernel
theorem dX8_completeTick_11 : decode cX8_completeTick 11 = .ok (.invokevirtual 119, 3) := by decide +kernel
theorem dX8_completeTick_14 : decode cX8_completeTick 14 = .ok (.getfield 167, 3) := by decide +kernel
theorem dX8_completeTick_17 : decode cX8_completeTick 17 = .ok (.astore_n 3, 1) := by decide +kernel
theorem dX8_completeTick_18 : decode cX8_completeTick 18 = .ok (.aload_n 0, 1) := by decide +kernel
theorem dX8_completeTick_19 : decode cX8_completeTick 19 = .ok (.getfield 37, 3) := by decide +kernel
theorem dX8_completeTick_22 : decode cX8_completeTick 22 = .ok (.aload_n 0, 1) := by decide +kernel
theorem dX8_completeTick_23 : decode cX8_completeTick 23 = .ok (.getfield 33, 3) := by decide +kernel
theorem dX8_completeTick_26 : decode cX8_completeTick 26 = .ok (.invokevirtual 208, 3) := by decide +kernel
theorem dX8_completeTick_29 : decode cX8_completeTick 29 = .ok (.iconst 0, 1) := by decide +kernel
theorem dX8_completeTick_30 : decode cX8_completeTick 30 = .ok (.istore 4, 2) := by decide +kernel
theorem dX8_completeTick_32 : decode cX8_completeTick 32 = .ok (.iconst 0, 1) := by decide +kernel
theorem dX8_completeTick_33 : decode cX8_completeTick 33 = .ok (.istore 5, 2) := by decide +kernel
theorem dX8_completeTick_35 : decode cX8_completeTick 35 = .ok (.iload 5, 2) := by decide +kernel
theorem dX8_completeTick_37 : decode cX8_completeTick 37 = .ok (.sipush 500, 3) := by decide +kernel
theorem dX8_completeTick_40 : decode cX8_completeTick 40 = .ok (.if_icmp .ge 48, 3) := by decide +kernel
theorem dX8_completeTick_43 : decode cX8_completeTick 43 = .ok (.iload 4, 2) := by decide +kernel
theorem dX8_completeTick_45 : decode cX8_completeTick 45 = .ok (.sipush 500, 3) := by decide +kernel
theorem dX8_completeTick_48 : decode cX8_completeTick 48 = .ok (.if_icmp .ge 40, 3) := by decide +kernel
theorem dX8_completeTick_51 : decode cX8_completeTick 51 = .ok (.aload_n 3, 1) := by decide +kernel
theorem dX8_completeTick_52 : decode cX8_completeTick 52 = .ok (.iload_n 2, 1) := by decide +kernel
theorem dX8_completeTick_53 : decode cX8_completeTick 53 = .ok (.invokevirtual 171, 3) := by decide +kernel
theorem dX8_completeTick_56 : decode cX8_completeTick 56 = .ok (.iconst 1, 1) := by decide +kernel
theorem dX8_completeTick_57 : decode cX8_completeTick 57 = .ok (.if_icmp .ne 31, 3) := by decide +kernel
theorem dX8_completeTick_60 : decode cX8_completeTick 60 = .ok (.iload 4, 2) := by decide +kernel
theorem dX8_completeTick_62 : decode cX8_completeTick 62 = .ok (.aload_n 0, 1) := by decide +kernel
theorem dX8_completeTick_63 : decode cX8_completeTick 63 = .ok (.getfield 37, 3) := by decide +kernel
theorem dX8_completeTick_66 : decode cX8_completeTick 66 = .ok (.aload_n 0, 1) := by decide +kernel
theorem dX8_completeTick_67 : decode cX8_completeTick 67 = .ok (.getfield 23, 3) := by decide +kernel
theorem dX8_completeTick_70 : decode cX8_completeTick 70 = .ok (.sipush 500, 3) := by decide +kernel
theorem dX8_completeTick_73 : decode cX8_completeTick 73 = .ok (.iload 4, 2) := by decide +kernel
theorem dX8_completeTick_75 : decode cX8_completeTick 75 = .ok (.isub, 1) := by decide +kernel
theorem dX8_completeTick_76 : decode cX8_completeTick 76 = .ok (.invokevirtual 212, 3) := by decide +kernel
theorem dX8_completeTick_79 : decode cX8_completeTick 79 = .ok (.iadd, 1) := by decide +kernel
theorem dX8_completeTick_80 : decode cX8_completeTick 80 = .ok (.istore 4, 2) := by decide +kernel
theorem dX8_completeTick_82 : decode cX8_completeTick 82 = .ok (.iinc 5 1, 3) := by decide +kernel
theorem dX8_completeTick_85 : decode cX8_completeTick 85 = .ok (.goto (-50), 3) := by decide +kernel
theorem dX8_completeTick_88 : decode cX8_completeTick 88 = .ok (.aload_n 3, 1) := by decide +kernel
theorem dX8_completeTick_89 : decode cX8_completeTick 89 = .ok (.iload_n 2, 1) := by decide +kernel
theorem dX8_completeTick_90 : decode cX8_completeTick 90 = .ok (.invokevirtual 171, 3) := by decide +kernel
theorem dX8_completeTick_93 : decode cX8_completeTick 93 = .ok (.iconst 2, 1) := by decide +kernel
theorem dX8_completeTick_94 : decode cX8_completeTick 94 = .ok (.if_icmp .ne 13, 3) := by decide +kernel
theorem dX8_completeTick_97 : decode cX8_completeTick 97 = .ok (.aload_n 0, 1) := by decide +kernel
theorem dX8_completeTick_98 : decode cX8_completeTick 98 = .ok (.getfield 37, 3) := by decide +kernel
theorem dX8_completeTick_101 : decode cX8_completeTick 101 = .ok (.getfield 98, 3) := by decide +kernel
theorem dX8_completeTick_104 : decode cX8_completeTick 104 = .ok (.goto 4, 3) := by decide +kernel
theorem dX8_completeTick_107 : decode cX8_completeTick 107 = .ok (.iconst (-1), 1) := by decide +kernel
theorem dX8_completeTick_108 : decode cX8_completeTick 108 = .ok (.ireturn, 1) := by decide +kernel
theorem dX8_run_0 : decode cX8_run 0 = .ok (.iload_n 1, 1) := by decide +kernel
theorem dX8_run_1 : decode cX8_run 1 = .ok (.iconst 1, 1) := by decide +kernel
theorem dX8_run_2 : decode cX8_run 2 = .ok (.if_icmp .lt 10, 3) := by decide +kernel
theorem dX8_run_5 : decode cX8_run 5 = .ok (.iload_n 1, 1) := by decide +kernel
theorem dX8_run_6 : decode cX8_run 6 = .ok (.sipush 300, 3) := by decide +kernel
theorem dX8_run_9 : decode cX8_run 9 = .ok (.if_icmp .le 13, 3) := by decide +kernel
theorem dX8_run_12 : decode cX8_run 12 = .ok (.new 71, 3) := by decide +kernel
theorem dX8_run_15 : decode cX8_run 15 = .ok (.dup, 1) := by decide +kernel
theorem dX8_run_16 : decode cX8_run 16 = .ok (.ldc 226, 2) := by decide +kernel
theorem dX8_run_18 : decode cX8_run 18 = .ok (.invokespecial 75, 3) := by decide +kernel
theorem dX8_run_21 : decode cX8_run 21 = .ok (.athrow, 1) := by decide +kernel
theorem dX8_run_22 : decode cX8_run 22 = .ok (.aload_n 0, 1) := by decide +kernel
theorem dX8_run_23 : decode cX8_run 23 = .ok (.getfield 33, 3) := by decide +kernel
theorem dX8_run_26 : decode cX8_run 26 = .ok (.getfield 98, 3) := by decide +kernel
theorem dX8_run_29 : decode cX8_run 29 = .ok (.iload_n 1, 1) := by decide +kernel
theorem dX8_run_30 : decode cX8_run 30 = .ok (.iadd, 1) := by decide +kernel
theorem dX8_run_31 : decode cX8_run 31 = .ok (.sipush 9999, 3) := by decide +kernel
theorem dX8_run_34 : decode cX8_run 34 = .ok (.if_icmp .le 13, 3) := by decide +kernel
theorem dX8_run_37 : decode cX8_run 37 = .ok (.new 182, 3) := by decide +kernel
theorem dX8_run_40 : decode cX8_run 40 = .ok (.dup, 1) := by decide +kernel
theorem dX8_run_41 : decode cX8_run 41 = .ok (.ldc 228, 2) := by decide +kernel
theorem dX8_run_43 : decode cX8_run 43 = .ok (.invokespecial 186, 3) := by decide +kernel
theorem dX8_run_46 : decode cX8_run 46 = .ok (.athrow, 1) := by decide +kernel
theorem dX8_run_47 : decode cX8_run 47 = .ok (.aload_n 0, 1) := by decide +kernel
theorem dX8_run_48 : decode cX8_run 48 = .ok (.getfield 43, 3) := by decide +kernel
theorem dX8_run_51 : decode cX8_run 51 = .ok (.aload_n 0, 1) := by decide +kernel
theorem dX8_run_52 : decode cX8_run 52 = .ok (.getfield 33, 3) := by decide +kernel
theorem dX8_run_55 : decode cX8_run 55 = .ok (.invokevirtual 230, 3) := by decide +kernel
theorem dX8_run_58 : decode cX8_run 58 = .ok (.aload_n 0, 1) := by decide +kernel
theorem dX8_run_59 : decode cX8_run 59 = .ok (.getfield 33, 3) := by decide +kernel
theorem dX8_run_62 : decode cX8_run 62 = .ok (.invokevirtual 233, 3) := by decide +kernel
theorem dX8_run_65 : decode cX8_run 65 = .ok (.istore_n 2, 1) := by decide +kernel
theorem dX8_run_66 : decode cX8_run 66 = .ok (.iconst 0, 1) := by decide +kernel
theorem dX8_run_67 : decode cX8_run 67 = .ok (.istore_n 3, 1) := by decide +kernel
theorem dX8_run_68 : decode cX8_run 68 = .ok (.iconst 0, 1) := by decide +kernel
theorem dX8_run_69 : decode cX8_run 69 = .ok (.istore 4, 2) := by decide +kernel
theorem dX8_run_71 : decode cX8_run 71 = .ok (.iload 4, 2) := by decide +kernel
theorem dX8_run_73 : decode cX8_run 73 = .ok (.iload_n 1, 1) := by decide +kernel
theorem dX8_run_74 : decode cX8_run 74 = .ok (.if_icmp .ge 31, 3) := by decide +kernel
theorem dX8_run_77 : decode cX8_run 77 = .ok (.iload_n 3, 1) := by decide +kernel
theorem dX8_run_78 : decode cX8_run 78 = .ok (.iload_n 1, 1) := by decide +kernel
theorem dX8_run_79 : decode cX8_run 79 = .ok (.if_icmp .ge 26, 3) := by decide +kernel
theorem dX8_run_82 : decode cX8_run 82 = .ok (.iload_n 3, 1) := by decide +kernel
theorem dX8_run_83 : decode cX8_run 83 = .ok (.aload_n 0, 1) := by decide +kernel
theorem dX8_run_84 : decode cX8_run 84 = .ok (.getfield 33, 3) := by decide +kernel
theorem dX8_run_87 : decode cX8_run 87 = .ok (.aload_n 0, 1) := by decide +kernel
theorem dX8_run_88 : decode cX8_run 88 = .ok (.getfield 23, 3) := by decide +kernel
theorem dX8_run_91 : decode cX8_run 91 = .ok (.iload_n 1, 1) := by decide +kernel
theorem dX8_run_92 : decode cX8_run 92 = .ok (.iload_n 3, 1) := by decide +kernel
theorem dX8_run_93 : decode cX8_run 93 = .ok (.isub, 1) := by decide +kernel
theorem dX8_run_94 : decode cX8_run 94 = .ok (.invokevirtual 212, 3) := by decide +kernel
theorem dX8_run_97 : decode cX8_run 97 = .ok (.iadd, 1) := by decide +kernel
theorem dX8_run_98 : decode cX8_run 98 = .ok (.istore_n 3, 1) := by decide +kernel
theorem dX8_run_99 : decode cX8_run 99 = .ok (.iinc 4 1, 3) := by decide +kernel
theorem dX8_run_102 : decode cX8_run 102 = .ok (.goto (-31), 3) := by decide +kernel
theorem dX8_run_105 : decode cX8_run 105 = .ok (.aload_n 0, 1) := by decide +kernel
theorem dX8_run_106 : decode cX8_run 106 = .ok (.getfield 33, 3) := by decide +kernel
theorem dX8_run_109 : decode cX8_run 109 = .ok (.invokevirtual 233, 3) := by decide +kernel
theorem dX8_run_112 : decode cX8_run 112 = .ok (.iload_n 2, 1) := by decide +kernel
theorem dX8_run_113 : decode cX8_run 113 = .ok (.isub, 1) := by decide +kernel
theorem dX8_run_114 : decode cX8_run 114 = .ok (.ireturn, 1) := by decide +kernel
theorem dX8_post_0 : decode cX8_post 0 = .ok (.iload_n 1, 1) := by decide +kernel
theorem dX8_post_1 : decode cX8_post 1 = .ok (.invokestatic 116, 3) := by decide +kernel
theorem dX8_post_4 : decode cX8_post 4 = .ok (.iload_n 2, 1) := by decide +kernel
theorem dX8_post_5 : decode cX8_post 5 = .ok (.iload_n 3, 1) := by decide +kernel
theorem dX8_post_6 : decode cX8_post 6 = .ok (.invokestatic 236, 3) := by decide +kernel
theorem dX8_post_9 : decode cX8_post 9 = .ok (.aload_n 0, 1) := by decide +kernel
theorem dX8_post_10 : decode cX8_post 10 = .ok (.iload_n 1, 1) := by decide +kernel
theorem dX8_post_11 : decode cX8_post 11 = .ok (.iconst 0, 1) := by decide +kernel
theorem dX8_post_12 : decode cX8_post 12 = .ok (.invokevirtual 239, 3) := by decide +kernel
theorem dX8_post_15 : decode cX8_post 15 = .ok (.aload_n 0, 1) := by decide +kernel
theorem dX8_post_16 : decode cX8_post 16 = .ok (.getfield 43, 3) := by decide +kernel
theorem dX8_post_19 : decode cX8_post 19 = .ok (.aload_n 0, 1) := by decide +kernel
theorem dX8_post_20 : decode cX8_post 20 = .ok (.getfield 33, 3) := by decide +kernel
theorem dX8_post_23 : decode cX8_post 23 = .ok (.invokevirtual 230, 3) := by decide +kernel
theorem dX8_post_26 : decode cX8_post 26 = .ok (.aload_n 0, 1) := by decide +kernel
theorem dX8_post_27 : decode cX8_post 27 = .ok (.getfield 33, 3) := by decide +kernel
theorem dX8_post_30 : decode cX8_post 30 = .ok (.iload_n 1, 1) := by decide +kernel
theorem dX8_post_31 : decode cX8_post 31 = .ok (.invokevirtual 119, 3) := by decide +kernel
theorem dX8_post_34 : decode cX8_post 34 = .ok (.getfield 123, 3) := by decide +kernel
theorem dX8_post_37 : decode cX8_post 37 = .ok (.astore 6, 2) := by decide +kernel
theorem dX8_post_39 : decode cX8_post 39 = .ok (.aload 6, 2) := by decide +kernel
theorem dX8_post_41 : decode cX8_post 41 = .ok (.iconst 0, 1) := by decide +kernel
theorem dX8_post_42 : decode cX8_post 42 = .ok (.iconst (-1), 1) := by decide +kernel
theorem dX8_post_43 : decode cX8_post 43 = .ok (.iload 5, 2) := by decide +kernel
theorem dX8_post_45 : decode cX8_post 45 = .ok (.iload_n 2, 1) := by decide +kernel
theorem dX8_post_46 : decode cX8_post 46 = .ok (.iload_n 3, 1) := by decide +kernel
theorem dX8_post_47 : decode cX8_post 47 = .ok (.aload_n 0, 1) := by decide +kernel
theorem dX8_post_48 : decode cX8_post 48 = .ok (.getfield 33, 3) := by decide +kernel
theorem dX8_post_51 : decode cX8_post 51 = .ok (.getfield 98, 3) := by decide +kernel
theorem dX8_post_54 : decode cX8_post 54 = .ok (.invokevirtual 242, 3) := by decide +kernel
theorem dX8_post_57 : decode cX8_post 57 = .ok (.istore 7, 2) := by decide +kernel
theorem dX8_post_59 : decode cX8_post 59 = .ok (.aload 6, 2) := by decide +kernel
theorem dX8_post_61 : decode cX8_post 61 = .ok (.iload 7, 2) := by decide +kernel
theorem dX8_post_63 : decode cX8_post 63 = .ok (.iload 4, 2) := by decide +kernel
theorem dX8_post_65 : decode cX8_post 65 = .ok (.invokevirtual 246, 3) := by decide +kernel
theorem dX8_post_68 : decode cX8_post 68 = .ok (.aload 6, 2) := by decide +kernel
theorem dX8_post_70 : decode cX8_post 70 = .ok (.getfield 129, 3) := by decide +kernel
theorem dX8_post_73 : decode cX8_post 73 = .ok (.ireturn, 1) := by decide +kernel
theorem dX8_read_0 : decode cX8_read 0 = .ok (.iload_n 1, 1) := by decide +kernel
theorem dX8_read_1 : decode cX8_read 1 = .ok (.invokestatic 116, 3) := by decide +kernel
theorem dX8_read_4 : decode cX8_read 4 = .ok (.iload_n 2, 1) := by decide +kernel
theorem dX8_read_5 : decode cX8_read 5 = .ok (.iload_n 3, 1) := by decide +kernel
theorem dX8_read_6 : decode cX8_read 6 = .ok (.invokestatic 236, 3) := by decide +kernel
theorem dX8_read_9 : decode cX8_read 9 = .ok (.aload_n 0, 1) := by decide +kernel
theorem dX8_read_10 : decode cX8_read 10 = .ok (.iload_n 1, 1) := by decide +kernel
theorem dX8_read_11 : decode cX8_read 11 = .ok (.iconst 1, 1) := by decide +kernel
theorem dX8_read_12 : decode cX8_read 12 = .ok (.invokevirtual 239, 3) := by decide +kernel
theorem dX8_read_15 : decode cX8_read 15 = .ok (.aload_n 0, 1) := by decide +kernel
theorem dX8_read_16 : decode cX8_read 16 = .ok (.iload_n 1, 1) := by decide +kernel
theorem dX8_read_17 : decode cX8_read 17 = .ok (.invokevirtual 249, 3) := by decide +kernel
theorem dX8_read_20 : decode cX8_read 20 = .ok (.istore 5, 2) := by decide +kernel
theorem dX8_read_22 : decode cX8_read 22 = .ok (.aload_n 0, 1) := by decide +kernel
theorem dX8_read_23 : decode cX8_read 23 = .ok (.getfield 43, 3) := by decide +kernel
theorem dX8_read_26 : decode cX8_read 26 = .ok (.aload_n 0, 1) := by decide +kernel
theorem dX8_read_27 : decode cX8_read 27 = .ok (.getfield 33, 3) := by decide +kernel
theorem dX8_read_30 : decode cX8_read 30 = .ok (.invokevirtual 230, 3) := by decide +kernel
theorem dX8_read_33 : decode cX8_read 33 = .ok (.aload_n 0, 1) := by decide +kernel
theorem dX8_read_34 : decode cX8_read 34 = .ok (.getfield 33, 3) := by decide +kernel
theorem dX8_read_37 : decode cX8_read 37 = .ok (.iload_n 1, 1) := by decide +kernel
theorem dX8_read_38 : decode cX8_read 38 = .ok (.invokevirtual 119, 3) := by decide +kernel
theorem dX8_read_41 : decode cX8_read 41 = .ok (.astore 6, 2) := by decide +kernel
theorem dX8_read_43 : decode cX8_read 43 = .ok (.aload 6, 2) := by decide +kernel
theorem dX8_read_45 : decode cX8_read 45 = .ok (.getfield 167, 3) := by decide +kernel
theorem dX8_read_48 : decode cX8_read 48 = .ok (.iload 5, 2) := by decide +kernel
theorem dX8_read_50 : decode cX8_read 50 = .ok (.iload_n 3, 1) := by decide +kernel
theorem dX8_read_51 : decode cX8_read 51 = .ok (.invokevirtual 252, 3) := by decide +kernel
theorem dX8_read_54 : decode cX8_read 54 = .ok (.aload 6, 2) := by decide +kernel
theorem dX8_read_56 : decode cX8_read 56 = .ok (.getfield 123, 3) := by decide +kernel
theorem dX8_read_59 : decode cX8_read 59 = .ok (.iconst 1, 1) := by decide +kernel
theorem dX8_read_60 : decode cX8_read 60 = .ok (.iload 5, 2) := by decide +kernel
theorem dX8_read_62 : decode cX8_read 62 = .ok (.iload 4, 2) := by decide +kernel
theorem dX8_read_64 : decode cX8_read 64 = .ok (.iload_n 2, 1) := by decide +kernel
theorem dX8_read_65 : decode cX8_read 65 = .ok (.iload_n 3, 1) := by decide +kernel
theorem dX8_read_66 : decode cX8_read 66 = .ok (.aload_n 0, 1) := by decide +kernel
theorem dX8_read_67 : decode cX8_read 67 = .ok (.getfield 33, 3) := by decide +kernel
theorem dX8_read_70 : decode cX8_read 70 = .ok (.getfield 98, 3) := by decide +kernel
theorem dX8_read_73 : decode cX8_read 73 = .ok (.invokevirtual 242, 3) := by decide +kernel
theorem dX8_read_76 : decode cX8_read 76 = .ok (.pop, 1) := by decide +kernel
theorem dX8_read_77 : decode cX8_read 77 = .ok (.iload 5, 2) := by decide +kernel
theorem dX8_read_79 : decode cX8_read 79 = .ok (.ireturn, 1) := by decide +kernel
theorem dX8_configure_0 : decode cX8_configure 0 = .ok (.iload_n 1, 1) := by decide +kernel
theorem dX8_configure_1 : decode cX8_configure 1 = .ok (.invokestatic 116, 3) := by decide +kernel
theorem dX8_configure_4 : decode cX8_configure 4 = .ok (.iload_n 2, 1) := by decide +kernel
theorem dX8_configure_5 : decode cX8_configure 5 = .ok (.iconst 1, 1) := by decide +kernel
theorem dX8_configure_6 : decode cX8_configure 6 = .ok (.invokestatic 236, 3) := by decide +kernel
theorem dX8_configure_9 : decode cX8_configure 9 = .ok (.aload_n 0, 1) := by decide +kernel
theorem dX8_configure_10 : decode cX8_configure 10 = .ok (.iload_n 1, 1) := by decide +kernel
theorem dX8_configure_11 : decode cX8_configure 11 = .ok (.iconst 2, 1) := by decide +kernel
theorem dX8_configure_12 : decode cX8_configure 12 = .ok (.invokevirtual 239, 3) := by decide +kernel
theorem dX8_configure_15 : decode cX8_configure 15 = .ok (.aload_n 0, 1) := by decide +kernel
theorem dX8_configure_16 : decode cX8_configure 16 = .ok (.iload_n 1, 1) := by decide +kernel
theorem dX8_configure_17 : decode cX8_configure 17 = .ok (.invokevirtual 249, 3) := by decide +kernel
theorem dX8_configure_20 : decode cX8_configure 20 = .ok (.istore 5, 2) := by decide +kernel
theorem dX8_configure_22 : decode cX8_configure 22 = .ok (.aload_n 0, 1) := by decide +kernel
theorem dX8_configure_23 : decode cX8_configure 23 = .ok (.getfield 43, 3) := by decide +kernel
theorem dX8_configure_26 : decode cX8_configure 26 = .ok (.aload_n 0, 1) := by decide +kernel
theorem dX8_configure_27 : decode cX8_configure 27 = .ok (.getfield 33, 3) := by decide +kernel
theorem dX8_configure_30 : decode cX8_configure 30 = .ok (.invokevirtual 230, 3) := by decide +kernel
theorem dX8_configure_33 : decode cX8_configure 33 = .ok (.aload_n 0, 1) := by decide +kernel
theorem dX8_configure_34 : decode cX8_configure 34 = .ok (.getfield 33, 3) := by decide +kernel
theorem dX8_configure_37 : decode cX8_configure 37 = .ok (.iload_n 1, 1) := by decide +kernel
theorem dX8_configure_38 : decode cX8_configure 38 = .ok (.invokevirtual 119, 3) := by decide +kernel
theorem dX8_configure_41 : decode cX8_configure 41 = .ok (.astore 6, 2) := by decide +kernel
theorem dX8_configure_43 : decode cX8_configure 43 = .ok (.aload 6, 2) := by decide +kernel
theorem dX8_configure_45 : decode cX8_configure 45 = .ok (.getfield 167, 3) := by decide +kernel
theorem dX8_configure_48 : decode cX8_configure 48 = .ok (.iload 5, 2) := by decide +kernel
theorem dX8_configure_50 : decode cX8_configure 50 = .ok (.iconst 0, 1) := by decide +kernel
theorem dX8_configure_51 : decode cX8_configure 51 = .ok (.invokevirtual 252, 3) := by decide +kernel
theorem dX8_configure_54 : decode cX8_configure 54 = .ok (.aload 6, 2) := by decide +kernel
theorem dX8_configure_56 : decode cX8_configure 56 = .ok (.getfield 123, 3) := by decide +kernel
theorem dX8_configure_59 : decode cX8_configure 59 = .ok (.iconst 2, 1) := by decide +kernel
theorem dX8_configure_60 : decode cX8_configure 60 = .ok (.iload 5, 2) := by decide +kernel
theorem dX8_configure_62 : decode cX8_configure 62 = .ok (.iload 4, 2) := by decide +kernel
theorem dX8_configure_64 : decode cX8_configure 64 = .ok (.iload_n 2, 1) := by decide +kernel
theorem dX8_configure_65 : decode cX8_configure 65 = .ok (.iconst 1, 1) := by decide +kernel
theorem dX8_configure_66 : decode cX8_configure 66 = .ok (.aload_n 0, 1) := by decide +kernel
theorem dX8_configure_67 : decode cX8_configure 67 = .ok (.getfield 33, 3) := by decide +kernel
theorem dX8_configure_70 : decode cX8_configure 70 = .ok (.getfield 98, 3) := by decide +kernel
theorem dX8_configure_73 : decode cX8_configure 73 = .ok (.invokevirtual 242, 3) := by decide +kernel
theorem dX8_configure_76 : decode cX8_configure 76 = .ok (.istore 7, 2) := by decide +kernel
theorem dX8_configure_78 : decode cX8_configure 78 = .ok (.aload 6, 2) := by decide +kernel
theorem dX8_configure_80 : decode cX8_configure 80 = .ok (.getfield 123, 3) := by decide +kernel
theorem dX8_configure_83 : decode cX8_configure 83 = .ok (.iload 7, 2) := by decide +kernel
theorem dX8_configure_85 : decode cX8_configure 85 = .ok (.iload_n 3, 1) := by decide +kernel
theorem dX8_configure_86 : decode cX8_configure 86 = .ok (.invokevirtual 246, 3) := by decide +kernel
theorem dX8_configure_89 : decode cX8_configure 89 = .ok (.iload 5, 2) := by decide +kernel
theorem dX8_configure_91 : decode cX8_configure 91 = .ok (.ireturn, 1) := by decide +kernel
theorem dX8_release_0 : decode cX8_release 0 = .ok (.aload_n 0, 1) := by decide +kernel
theorem dX8_release_1 : decode cX8_release 1 = .ok (.iload_n 1, 1) := by decide +kernel
theorem dX8_release_2 : decode cX8_release 2 = .ok (.iload_n 2, 1) := by decide +kernel
theorem dX8_release_3 : decode cX8_release 3 = .ok (.invokevirtual 164, 3) := by decide +kernel
theorem dX8_release_6 : decode cX8_release 6 = .ok (.aload_n 0, 1) := by decide +kernel
theorem dX8_release_7 : decode cX8_release 7 = .ok (.getfield 33, 3) := by decide +kernel
theorem dX8_release_10 : decode cX8_release 10 = .ok (.iload_n 1, 1) := by decide +kernel
theorem dX8_release_11 : decode cX8_release 11 = .ok (.invokevirtual 119, 3) := by decide +kernel
theorem dX8_release_14 : decode cX8_release 14 = .ok (.getfield 167, 3) := by decide +kernel
theorem dX8_release_17 : decode cX8_release 17 = .ok (.astore_n 3, 1) := by decide +kernel
theorem dX8_release_18 : decode cX8_release 18 = .ok (.aload_n 3, 1) := by decide +kernel
theorem dX8_release_19 : decode cX8_release 19 = .ok (.iload_n 2, 1) := by decide +kernel
theorem dX8_release_20 : decode cX8_release 20 = .ok (.invokevirtual 171, 3) := by decide +kernel
theorem dX8_release_23 : decode cX8_release 23 = .ok (.iconst 2, 1) := by decide +kernel
theorem dX8_release_24 : decode cX8_release 24 = .ok (.if_icmp .eq 13, 3) := by decide +kernel
theorem dX8_release_27 : decode cX8_release 27 = .ok (.new 182, 3) := by decide +kernel
theorem dX8_release_30 : decode cX8_release 30 = .ok (.dup, 1) := by decide +kernel
theorem dX8_release_31 : decode cX8_release 31 = .ok (.ldc 255, 2) := by decide +kernel
theorem dX8_release_33 : decode cX8_release 33 = .ok (.invokespecial 186, 3) := by decide +kernel
theorem dX8_release_36 : decode cX8_release 36 = .ok (.athrow, 1) := by decide +kernel
theorem dX8_release_37 : decode cX8_release 37 = .ok (.aload_n 0, 1) := by decide +kernel
theorem dX8_release_38 : decode cX8_release 38 = .ok (.getfield 43, 3) := by decide +kernel
theorem dX8_release_41 : decode cX8_release 41 = .ok (.aload_n 0, 1) := by decide +kernel
theorem dX8_release_42 : decode cX8_release 42 = .ok (.getfield 33, 3) := by decide +kernel
theorem dX8_release_45 : decode cX8_release 45 = .ok (.invokevirtual 230, 3) := by decide +kernel
theorem dX8_release_48 : decode cX8_release 48 = .ok (.aload_n 3, 1) := by decide +kernel
theorem dX8_release_49 : decode cX8_release 49 = .ok (.iload_n 2, 1) := by decide +kernel
theorem dX8_release_50 : decode cX8_release 50 = .ok (.invokevirtual 176, 3) := by decide +kernel
theorem dX8_release_53 : decode cX8_release 53 = .ok (.istore 4, 2) := by decide +kernel
theorem dX8_release_55 : decode cX8_release 55 = .ok (.aload_n 3, 1) := by decide +kernel
theorem dX8_release_56 : decode cX8_release 56 = .ok (.iload_n 2, 1) := by decide +kernel
theorem dX8_release_57 : decode cX8_release 57 = .ok (.invokevirtual 257, 3) := by decide +kernel
theorem dX8_release_60 : decode cX8_release 60 = .ok (.iload 4, 2) := by decide +kernel
theorem dX8_release_62 : decode cX8_release 62 = .ok (.ireturn, 1) := by decide +kernel
theorem dX8_undo_0 : decode cX8_undo 0 = .ok (.aload_n 0, 1) := by decide +kernel
theorem dX8_undo_1 : decode cX8_undo 1 = .ok (.getfield 43, 3) := by decide +kernel
theorem dX8_undo_4 : decode cX8_undo 4 = .ok (.aload_n 0, 1) := by decide +kernel
theorem dX8_undo_5 : decode cX8_undo 5 = .ok (.getfield 33, 3) := by decide +kernel
theorem dX8_undo_8 : decode cX8_undo 8 = .ok (.invokevirtual 260, 3) := by decide +kernel
theorem dX8_undo_11 : decode cX8_undo 11 = .ok (.ireturn, 1) := by decide +kernel
theorem dX8_saveSnapshot_0 : decode cX8_saveSnapshot 0 = .ok (.iload_n 1, 1) := by decide +kernel
theorem dX8_saveSnapshot_1 : decode cX8_saveSnapshot 1 = .ok (.invokestatic 264, 3) := by decide +kernel
theorem dX8_saveSnapshot_4 : decode cX8_saveSnapshot 4 = .ok (.aload_n 0, 1) := by decide +kernel
theorem dX8_saveSnapshot_5 : decode cX8_saveSnapshot 5 = .ok (.iload_n 1, 1) := by decide +kernel
theorem dX8_saveSnapshot_6 : decode cX8_saveSnapshot 6 = .ok (.invokevirtual 267, 3) := by decide +kernel
theorem dX8_saveSnapshot_9 : decode cX8_saveSnapshot 9 = .ok (.istore_n 2, 1) := by decide +kernel
theorem dX8_saveSnapshot_10 : decode cX8_saveSnapshot 10 = .ok (.iload_n 1, 1) := by decide +kernel
theorem dX8_saveSnapshot_11 : decode cX8_saveSnapshot 11 = .ok (.ifCond .ne 22, 3) := by decide +kernel
theorem dX8_saveSnapshot_14 : decode cX8_saveSnapshot 14 = .ok (.aload_n 0, 1) := by decide +kernel
theorem dX8_saveSnapshot_15 : decode cX8_saveSnapshot 15 = .ok (.getfield 47, 3) := by decide +kernel
theorem dX8_saveSnapshot_18 : decode cX8_saveSnapshot 18 = .ok (.aload_n 0, 1) := by decide +kernel
theorem dX8_saveSnapshot_19 : decode cX8_saveSnapshot 19 = .ok (.getfield 33, 3) := by decide +kernel
theorem dX8_saveSnapshot_22 : decode cX8_saveSnapshot 22 = .ok (.invokevirtual 208, 3) := by decide +kernel
theorem dX8_saveSnapshot_25 : decode cX8_saveSnapshot 25 = .ok (.aload_n 0, 1) := by decide +kernel
theorem dX8_saveSnapshot_26 : decode cX8_saveSnapshot 26 = .ok (.iconst 1, 1) := by decide +kernel
theorem dX8_saveSnapshot_27 : decode cX8_saveSnapshot 27 = .ok (.putfield 91, 3) := by decide +kernel
theorem dX8_saveSnapshot_30 : decode cX8_saveSnapshot 30 = .ok (.goto 19, 3) := by decide +kernel
theorem dX8_saveSnapshot_33 : decode cX8_saveSnapshot 33 = .ok (.aload_n 0, 1) := by decide +kernel
theorem dX8_saveSnapshot_34 : decode cX8_saveSnapshot 34 = .ok (.getfield 50, 3) := by decide +kernel
theorem dX8_saveSnapshot_37 : decode cX8_saveSnapshot 37 = .ok (.aload_n 0, 1) := by decide +kernel
theorem dX8_saveSnapshot_38 : decode cX8_saveSnapshot 38 = .ok (.getfield 33, 3) := by decide +kernel
theorem dX8_saveSnapshot_41 : decode cX8_saveSnapshot 41 = .ok (.invokevirtual 208, 3) := by decide +kernel
theorem dX8_saveSnapshot_44 : decode cX8_saveSnapshot 44 = .ok (.aload_n 0, 1) := by decide +kernel
theorem dX8_saveSnapshot_45 : decode cX8_saveSnapshot 45 = .ok (.iconst 1, 1) := by decide +kernel
theorem dX8_saveSnapshot_46 : decode cX8_saveSnapshot 46 = .ok (.putfield 95, 3) := by decide +kernel
theorem dX8_saveSnapshot_49 : decode cX8_saveSnapshot 49 = .ok (.iload_n 2, 1) := by decide +kernel
theorem dX8_saveSnapshot_50 : decode cX8_saveSnapshot 50 = .ok (.ireturn, 1) := by decide +kernel
theorem dX8_restoreSnapshot_0 : decode cX8_restoreSnapshot 0 = .ok (.iload_n 1, 1) := by decide +kernel
theorem dX8_restoreSnapshot_1 : decode cX8_restoreSnapshot 1 = .ok (.invokestatic 264, 3) := by decide +kernel
theorem dX8_restoreSnapshot_4 : decode cX8_restoreSnapshot 4 = .ok (.aload_n 0, 1) := by decide +kernel
theorem dX8_restoreSnapshot_5 : decode cX8_restoreSnapshot 5 = .ok (.iload_n 1, 1) := by decide +kernel
theorem dX8_restoreSnapshot_6 : decode cX8_restoreSnapshot 6 = .ok (.invokevirtual 267, 3) := by decide +kernel
theorem dX8_restoreSnapshot_9 : decode cX8_restoreSnapshot 9 = .ok (.ifCond .ne 14, 3) := by decide +kernel
theorem dX8_restoreSnapshot_12 : decode cX8_restoreSnapshot 12 = .ok (.new 182, 3) := by decide +kernel
theorem dX8_restoreSnapshot_15 : decode cX8_restoreSnapshot 15 = .ok (.dup, 1) := by decide +kernel
theorem dX8_restoreSnapshot_16 : decode cX8_restoreSnapshot 16 = .ok (.ldc_w 270, 3) := by decide +kernel
theorem dX8_restoreSnapshot_19 : decode cX8_restoreSnapshot 19 = .ok (.invokespecial 186, 3) := by decide +kernel
theorem dX8_restoreSnapshot_22 : decode cX8_restoreSnapshot 22 = .ok (.athrow, 1) := by decide +kernel
theorem dX8_restoreSnapshot_23 : decode cX8_restoreSnapshot 23 = .ok (.aload_n 0, 1) := by decide +kernel
theorem dX8_restoreSnapshot_24 : decode cX8_restoreSnapshot 24 = .ok (.getfield 33, 3) := by decide +kernel
theorem dX8_restoreSnapshot_27 : decode cX8_restoreSnapshot 27 = .ok (.iload_n 1, 1) := by decide +kernel
theorem dX8_restoreSnapshot_28 : decode cX8_restoreSnapshot 28 = .ok (.ifCond .ne 10, 3) := by decide +kernel
theorem dX8_restoreSnapshot_31 : decode cX8_restoreSnapshot 31 = .ok (.aload_n 0, 1) := by decide +kernel
theorem dX8_restoreSnapshot_32 : decode cX8_restoreSnapshot 32 = .ok (.getfield 47, 3) := by decide +kernel
theorem dX8_restoreSnapshot_35 : decode cX8_restoreSnapshot 35 = .ok (.goto 7, 3) := by decide +kernel
theorem dX8_restoreSnapshot_38 : decode cX8_restoreSnapshot 38 = .ok (.aload_n 0, 1) := by decide +kernel
theorem dX8_restoreSnapshot_39 : decode cX8_restoreSnapshot 39 = .ok (.getfield 50, 3) := by decide +kernel
theorem dX8_restoreSnapshot_42 : decode cX8_restoreSnapshot 42 = .ok (.invokevirtual 208, 3) := by decide +kernel
theorem dX8_restoreSnapshot_45 : decode cX8_restoreSnapshot 45 = .ok (.aload_n 0, 1) := by decide +kernel
theorem dX8_restoreSnapshot_46 : decode cX8_restoreSnapshot 46 = .ok (.getfield 43, 3) := by decide +kernel
theorem dX8_restoreSnapshot_49 : decode cX8_restoreSnapshot 49 = .ok (.invokevirtual 88, 3) := by decide +kernel
theorem dX8_restoreSnapshot_52 : decode cX8_restoreSnapshot 52 = .ok (.aload_n 0, 1) := by decide +kernel
theorem dX8_restoreSnapshot_53 : decode cX8_restoreSnapshot 53 = .ok (.getfield 33, 3) := by decide +kernel
theorem dX8_restoreSnapshot_56 : decode cX8_restoreSnapshot 56 = .ok (.getfield 98, 3) := by decide +kernel
theorem dX8_restoreSnapshot_59 : decode cX8_restoreSnapshot 59 = .ok (.ireturn, 1) := by decide +kernel
theorem dX8_isSaved_0 : decode cX8_isSaved 0 = .ok (.iload_n 1, 1) := by decide +kernel
theorem dX8_isSaved_1 : decode cX8_isSaved 1 = .ok (.ifCond .ne 10, 3) := by decide +kernel
theorem dX8_isSaved_4 : decode cX8_isSaved 4 = .ok (.aload_n 0, 1) := by decide +kernel
theorem dX8_isSaved_5 : decode cX8_isSaved 5 = .ok (.getfield 91, 3) := by decide +kernel
theorem dX8_isSaved_8 : decode cX8_isSaved 8 = .ok (.goto 7, 3) := by decide +kernel
theorem dX8_isSaved_11 : decode cX8_isSaved 11 = .ok (.aload_n 0, 1) := by decide +kernel
theorem dX8_isSaved_12 : decode cX8_isSaved 12 = .ok (.getfield 95, 3) := by decide +kernel
theorem dX8_isSaved_15 : decode cX8_isSaved 15 = .ok (.ireturn, 1) := by decide +kernel
theorem dX8_checkSide_0 : decode cX8_checkSide 0 = .ok (.iload_n 0, 1) := by decide +kernel
theorem dX8_checkSide_1 : decode cX8_checkSide 1 = .ok (.ifCond .lt 8, 3) := by decide +kernel
theorem dX8_checkSide_4 : decode cX8_checkSide 4 = .ok (.iload_n 0, 1) := by decide +kernel
theorem dX8_checkSide_5 : decode cX8_checkSide 5 = .ok (.iconst 2, 1) := by decide +kernel
theorem dX8_checkSide_6 : decode cX8_checkSide 6 = .ok (.if_icmp .lt 14, 3) := by decide +kernel
theorem dX8_checkSide_9 : decode cX8_checkSide 9 = .ok (.new 156, 3) := by decide +kernel
theorem dX8_checkSide_12 : decode cX8_checkSide 12 = .ok (.dup, 1) := by decide +kernel
theorem dX8_checkSide_13 : decode cX8_checkSide 13 = .ok (.ldc_w 272, 3) := by decide +kernel
theorem dX8_checkSide_16 : decode cX8_checkSide 16 = .ok (.invokespecial 160, 3) := by decide +kernel
theorem dX8_checkSide_19 : decode cX8_checkSide 19 = .ok (.athrow, 1) := by decide +kernel
theorem dX8_checkSide_20 : decode cX8_checkSide 20 = .ok (.return_, 1) := by decide +kernel
theorem dX8_checkKind_0 : decode cX8_checkKind 0 = .ok (.iload_n 0, 1) := by decide +kernel
theorem dX8_checkKind_1 : decode cX8_checkKind 1 = .ok (.ifCond .lt 8, 3) := by decide +kernel
theorem dX8_checkKind_4 : decode cX8_checkKind 4 = .ok (.iload_n 0, 1) := by decide +kernel
theorem dX8_checkKind_5 : decode cX8_checkKind 5 = .ok (.iconst 4, 1) := by decide +kernel
theorem dX8_checkKind_6 : decode cX8_checkKind 6 = .ok (.if_icmp .lt 14, 3) := by decide +kernel
theorem dX8_checkKind_9 : decode cX8_checkKind 9 = .ok (.new 156, 3) := by decide +kernel
theorem dX8_checkKind_12 : decode cX8_checkKind 12 = .ok (.dup, 1) := by decide +kernel
theorem dX8_checkKind_13 : decode cX8_checkKind 13 = .ok (.ldc_w 274, 3) := by decide +kernel
theorem dX8_checkKind_16 : decode cX8_checkKind 16 = .ok (.invokespecial 160, 3) := by decide +kernel
theorem dX8_checkKind_19 : decode cX8_checkKind 19 = .ok (.athrow, 1) := by decide +kernel
theorem dX8_checkKind_20 : decode cX8_checkKind 20 = .ok (.return_, 1) := by decide +kernel
theorem dX8_checkSlot_0 : decode cX8_checkSlot 0 = .ok (.iload_n 0, 1) := by decide +kernel
theorem dX8_checkSlot_1 : decode cX8_checkSlot 1 = .ok (.ifCond .lt 8, 3) := by decide +kernel
theorem dX8_checkSlot_4 : decode cX8_checkSlot 4 = .ok (.iload_n 0, 1) := by decide +kernel
theorem dX8_checkSlot_5 : decode cX8_checkSlot 5 = .ok (.iconst 2, 1) := by decide +kernel
theorem dX8_checkSlot_6 : decode cX8_checkSlot 6 = .ok (.if_icmp .lt 14, 3) := by decide +kernel
theorem dX8_checkSlot_9 : decode cX8_checkSlot 9 = .ok (.new 156, 3) := by decide +kernel
theorem dX8_checkSlot_12 : decode cX8_checkSlot 12 = .ok (.dup, 1) := by decide +kernel
theorem dX8_checkSlot_13 : decode cX8_checkSlot 13 = .ok (.ldc_w 276, 3) := by decide +kernel
theorem dX8_checkSlot_16 : decode cX8_checkSlot 16 = .ok (.invokespecial 160, 3) := by decide +kernel
theorem dX8_checkSlot_19 : decode cX8_checkSlot 19 = .ok (.athrow, 1) := by decide +kernel
theorem dX8_checkSlot_20 : decode cX8_checkSlot 20 = .ok (.return_, 1) := by decide +kernel
theorem dX8_checkPosition_0 : decode cX8_checkPosition 0 = .ok (.iload_n 1, 1) := by decide +kernel
theorem dX8_checkPosition_1 : decode cX8_checkPosition 1 = .ok (.invokestatic 116, 3) := by decide +kernel
theorem dX8_checkPosition_4 : decode cX8_checkPosition 4 = .ok (.iload_n 2, 1) := by decide +kernel
theorem dX8_checkPosition_5 : decode cX8_checkPosition 5 = .ok (.ifCond .lt 21, 3) := by decide +kernel
theorem dX8_checkPosition_8 : decode cX8_checkPosition 8 = .ok (.iload_n 2, 1) := by decide +kernel
theorem dX8_checkPosition_9 : decode cX8_checkPosition 9 = .ok (.aload_n 0, 1) := by decide +kernel
theorem dX8_checkPosition_10 : decode cX8_checkPosition 10 = .ok (.getfield 33, 3) := by decide +kernel
theorem dX8_checkPosition_13 : decode cX8_checkPosition 13 = .ok (.iload_n 1, 1) := by decide +kernel
theorem dX8_checkPosition_14 : decode cX8_checkPosition 14 = .ok (.invokevirtual 119, 3) := by decide +kernel
theorem dX8_checkPosition_17 : decode cX8_checkPosition 17 = .ok (.getfield 123, 3) := by decide +kernel
theorem dX8_checkPosition_20 : decode cX8_checkPosition 20 = .ok (.getfield 129, 3) := by decide +kernel
theorem dX8_checkPosition_23 : decode cX8_checkPosition 23 = .ok (.if_icmp .lt 14, 3) := by decide +kernel
theorem dX8_checkPosition_26 : decode cX8_checkPosition 26 = .ok (.new 156, 3) := by decide +kernel
theorem dX8_checkPosition_29 : decode cX8_checkPosition 29 = .ok (.dup, 1) := by decide +kernel
theorem dX8_checkPosition_30 : decode cX8_checkPosition 30 = .ok (.ldc_w 278, 3) := by decide +kernel
theorem dX8_checkPosition_33 : decode cX8_checkPosition 33 = .ok (.invokespecial 160, 3) := by decide +kernel
theorem dX8_checkPosition_36 : decode cX8_checkPosition 36 = .ok (.athrow, 1) := by decide +kernel
theorem dX8_checkPosition_37 : decode cX8_checkPosition 37 = .ok (.return_, 1) := by decide +kernel
theorem dX8_checkTag_0 : decode cX8_checkTag 0 = .ok (.iload_n 1, 1) := by decide +kernel
theorem dX8_checkTag_1 : decode cX8_checkTag 1 = .ok (.invokestatic 116, 3) := by decide +kernel
theorem dX8_checkTag_4 : decode cX8_checkTag 4 = .ok (.iload_n 2, 1) := by decide +kernel
theorem dX8_checkTag_5 : decode cX8_checkTag 5 = .ok (.ifCond .lt 14, 3) := by decide +kernel
theorem dX8_checkTag_8 : decode cX8_checkTag 8 = .ok (.iload_n 2, 1) := by decide +kernel
theorem dX8_checkTag_9 : decode cX8_checkTag 9 = .ok (.aload_n 0, 1) := by decide +kernel
theorem dX8_checkTag_10 : decode cX8_checkTag 10 = .ok (.getfield 23, 3) := by decide +kernel
theorem dX8_checkTag_13 : decode cX8_checkTag 13 = .ok (.getfield 280, 3) := by decide +kernel
theorem dX8_checkTag_16 : decode cX8_checkTag 16 = .ok (.if_icmp .lt 14, 3) := by decide +kernel
theorem dX8_checkTag_19 : decode cX8_checkTag 19 = .ok (.new 156, 3) := by decide +kernel
theorem dX8_checkTag_22 : decode cX8_checkTag 22 = .ok (.dup, 1) := by decide +kernel
theorem dX8_checkTag_23 : decode cX8_checkTag 23 = .ok (.ldc_w 283, 3) := by decide +kernel
theorem dX8_checkTag_26 : decode cX8_checkTag 26 = .ok (.invokespecial 160, 3) := by decide +kernel
theorem dX8_checkTag_29 : decode cX8_checkTag 29 = .ok (.athrow, 1) := by decide +kernel
theorem dX8_checkTag_30 : decode cX8_checkTag 30 = .ok (.return_, 1) := by decide +kernel
theorem dX8_checkRange_0 : decode cX8_checkRange 0 = .ok (.iload_n 0, 1) := by decide +kernel
theorem dX8_checkRange_1 : decode cX8_checkRange 1 = .ok (.ifCond .lt 9, 3) := by decide +kernel
theorem dX8_checkRange_4 : decode cX8_checkRange 4 = .ok (.iload_n 0, 1) := by decide +kernel
theorem dX8_checkRange_5 : decode cX8_checkRange 5 = .ok (.bipush 16, 2) := by decide +kernel
theorem dX8_checkRange_7 : decode cX8_checkRange 7 = .ok (.if_icmp .lt 13, 3) := by decide +kernel
theorem dX8_checkRange_10 : decode cX8_checkRange 10 = .ok (.new 71, 3) := by decide +kernel
theorem dX8_checkRange_13 : decode cX8_checkRange 13 = .ok (.dup, 1) := by decide +kernel
theorem dX8_checkRange_14 : decode cX8_checkRange 14 = .ok (.ldc 158, 2) := by decide +kernel
theorem dX8_checkRange_16 : decode cX8_checkRange 16 = .ok (.invokespecial 75, 3) := by decide +kernel
theorem dX8_checkRange_19 : decode cX8_checkRange 19 = .ok (.athrow, 1) := by decide +kernel
theorem dX8_checkRange_20 : decode cX8_checkRange 20 = .ok (.iload_n 1, 1) := by decide +kernel
theorem dX8_checkRange_21 : decode cX8_checkRange 21 = .ok (.iconst 1, 1) := by decide +kernel
theorem dX8_checkRange_22 : decode cX8_checkRange 22 = .ok (.if_icmp .lt 16, 3) := by decide +kernel
theorem dX8_checkRange_25 : decode cX8_checkRange 25 = .ok (.iload_n 1, 1) := by decide +kernel
theorem dX8_checkRange_26 : decode cX8_checkRange 26 = .ok (.iconst 4, 1) := by decide +kernel
theorem dX8_checkRange_27 : decode cX8_checkRange 27 = .ok (.if_icmp .gt 11, 3) := by decide +kernel
theorem dX8_checkRange_30 : decode cX8_checkRange 30 = .ok (.iload_n 0, 1) := by decide +kernel
theorem dX8_checkRange_31 : decode cX8_checkRange 31 = .ok (.iload_n 1, 1) := by decide +kernel
theorem dX8_checkRange_32 : decode cX8_checkRange 32 = .ok (.iadd, 1) := by decide +kernel
theorem dX8_checkRange_33 : decode cX8_checkRange 33 = .ok (.bipush 16, 2) := by decide +kernel
theorem dX8_checkRange_35 : decode cX8_checkRange 35 = .ok (.if_icmp .le 14, 3) := by decide +kernel
theorem dX8_checkRange_38 : decode cX8_checkRange 38 = .ok (.new 71, 3) := by decide +kernel
theorem dX8_checkRange_41 : decode cX8_checkRange 41 = .ok (.dup, 1) := by decide +kernel
theorem dX8_checkRange_42 : decode cX8_checkRange 42 = .ok (.ldc_w 285, 3) := by decide +kernel
theorem dX8_checkRange_45 : decode cX8_checkRange 45 = .ok (.invokespecial 75, 3) := by decide +kernel
theorem dX8_checkRange_48 : decode cX8_checkRange 48 = .ok (.athrow, 1) := by decide +kernel
theorem dX8_checkRange_49 : decode cX8_checkRange 49 = .ok (.return_, 1) := by decide +kernel
theorem dX8_checkRoom_0 : decode cX8_checkRoom 0 = .ok (.aload_n 0, 1) := by decide +kernel
theorem dX8_checkRoom_1 : decode cX8_checkRoom 1 = .ok (.getfield 33, 3) := by decide +kernel
theorem dX8_checkRoom_4 : decode cX8_checkRoom 4 = .ok (.iload_n 1, 1) := by decide +kernel
theorem dX8_checkRoom_5 : decode cX8_checkRoom 5 = .ok (.invokevirtual 119, 3) := by decide +kernel
theorem dX8_checkRoom_8 : decode cX8_checkRoom 8 = .ok (.getfield 123, 3) := by decide +kernel
theorem dX8_checkRoom_11 : decode cX8_checkRoom 11 = .ok (.iload_n 2, 1) := by decide +kernel
theorem dX8_checkRoom_12 : decode cX8_checkRoom 12 = .ok (.invokevirtual 152, 3) := by decide +kernel
theorem dX8_checkRoom_15 : decode cX8_checkRoom 15 = .ok (.aload_n 0, 1) := by decide +kernel
theorem dX8_checkRoom_16 : decode cX8_checkRoom 16 = .ok (.getfield 23, 3) := by decide +kernel
theorem dX8_checkRoom_19 : decode cX8_checkRoom 19 = .ok (.iload_n 1, 1) := by decide +kernel
theorem dX8_checkRoom_20 : decode cX8_checkRoom 20 = .ok (.iload_n 2, 1) := by decide +kernel
theorem dX8_checkRoom_21 : decode cX8_checkRoom 21 = .ok (.invokevirtual 287, 3) := by decide +kernel
theorem dX8_checkRoom_24 : decode cX8_checkRoom 24 = .ok (.if_icmp .lt 14, 3) := by decide +kernel
theorem dX8_checkRoom_27 : decode cX8_checkRoom 27 = .ok (.new 182, 3) := by decide +kernel
theorem dX8_checkRoom_30 : decode cX8_checkRoom 30 = .ok (.dup, 1) := by decide +kernel
theorem dX8_checkRoom_31 : decode cX8_checkRoom 31 = .ok (.ldc_w 290, 3) := by decide +kernel
theorem dX8_checkRoom_34 : decode cX8_checkRoom 34 = .ok (.invokespecial 186, 3) := by decide +kernel
theorem dX8_checkRoom_37 : decode cX8_checkRoom 37 = .ok (.athrow, 1) := by decide +kernel
theorem dX8_checkRoom_38 : decode cX8_checkRoom 38 = .ok (.return_, 1) := by decide +kernel
theorem dX8_findFreeTag_0 : decode cX8_findFreeTag 0 = .ok (.aload_n 0, 1) := by decide +kernel
theorem dX8_findFreeTag_1 : decode cX8_findFreeTag 1 = .ok (.getfield 33, 3) := by decide +kernel
theorem dX8_findFreeTag_4 : decode cX8_findFreeTag 4 = .ok (.iload_n 1, 1) := by decide +kernel
theorem dX8_findFreeTag_5 : decode cX8_findFreeTag 5 = .ok (.invokevirtual 119, 3) := by decide +kernel
theorem dX8_findFreeTag_8 : decode cX8_findFreeTag 8 = .ok (.getfield 167, 3) := by decide +kernel
theorem dX8_findFreeTag_11 : decode cX8_findFreeTag 11 = .ok (.aload_n 0, 1) := by decide +kernel
theorem dX8_findFreeTag_12 : decode cX8_findFreeTag 12 = .ok (.getfield 23, 3) := by decide +kernel
theorem dX8_findFreeTag_15 : decode cX8_findFreeTag 15 = .ok (.getfield 280, 3) := by decide +kernel
theorem dX8_findFreeTag_18 : decode cX8_findFreeTag 18 = .ok (.invokevirtual 292, 3) := by decide +kernel
theorem dX8_findFreeTag_21 : decode cX8_findFreeTag 21 = .ok (.istore_n 2, 1) := by decide +kernel
theorem dX8_findFreeTag_22 : decode cX8_findFreeTag 22 = .ok (.iload_n 2, 1) := by decide +kernel
theorem dX8_findFreeTag_23 : decode cX8_findFreeTag 23 = .ok (.iconst (-1), 1) := by decide +kernel
theorem dX8_findFreeTag_24 : decode cX8_findFreeTag 24 = .ok (.if_icmp .ne 14, 3) := by decide +kernel
theorem dX8_findFreeTag_27 : decode cX8_findFreeTag 27 = .ok (.new 182, 3) := by decide +kernel
theorem dX8_findFreeTag_30 : decode cX8_findFreeTag 30 = .ok (.dup, 1) := by decide +kernel
theorem dX8_findFreeTag_31 : decode cX8_findFreeTag 31 = .ok (.ldc_w 295, 3) := by decide +kernel
theorem dX8_findFreeTag_34 : decode cX8_findFreeTag 34 = .ok (.invokespecial 186, 3) := by decide +kernel
theorem dX8_findFreeTag_37 : decode cX8_findFreeTag 37 = .ok (.athrow, 1) := by decide +kernel
theorem dX8_findFreeTag_38 : decode cX8_findFreeTag 38 = .ok (.iload_n 2, 1) := by decide +kernel
theorem dX8_findFreeTag_39 : decode cX8_findFreeTag 39 = .ok (.ireturn, 1) := by decide +kernel
theorem dX8_hasBit_0 : decode cX8_hasBit 0 = .ok (.iload_n 0, 1) := by decide +kernel
theorem dX8_hasBit_1 : decode cX8_hasBit 1 = .ok (.iload_n 1, 1) := by decide +kernel
theorem dX8_hasBit_2 : decode cX8_hasBit 2 = .ok (.ishr, 1) := by decide +kernel
theorem dX8_hasBit_3 : decode cX8_hasBit 3 = .ok (.iconst 1, 1) := by decide +kernel
theorem dX8_hasBit_4 : decode cX8_hasBit 4 = .ok (.iand, 1) := by decide +kernel
theorem dX8_hasBit_5 : decode cX8_hasBit 5 = .ok (.iconst 1, 1) := by decide +kernel
theorem dX8_hasBit_6 : decode cX8_hasBit 6 = .ok (.if_icmp .ne 7, 3) := by decide +kernel
theorem dX8_hasBit_9 : decode cX8_hasBit 9 = .ok (.iconst 1, 1) := by decide +kernel
theorem dX8_hasBit_10 : decode cX8_hasBit 10 = .ok (.goto 4, 3) := by decide +kernel
theorem dX8_hasBit_13 : decode cX8_hasBit 13 = .ok (.iconst 0, 1) := by decide +kernel
theorem dX8_hasBit_14 : decode cX8_hasBit 14 = .ok (.ireturn, 1) := by decide +kernel
theorem dX8_cellOf_0 : decode cX8_cellOf 0 = .ok (.iload_n 1, 1) := by decide +kernel
theorem dX8_cellOf_1 : decode cX8_cellOf 1 = .ok (.ifCond .lt 15, 3) := by decide +kernel
theorem dX8_cellOf_4 : decode cX8_cellOf 4 = .ok (.iload_n 1, 1) := by decide +kernel
theorem dX8_cellOf_5 : decode cX8_cellOf 5 = .ok (.aload_n 0, 1) := by decide +kernel
theorem dX8_cellOf_6 : decode cX8_cellOf 6 = .ok (.arraylength, 1) := by decide +kernel
theorem dX8_cellOf_7 : decode cX8_cellOf 7 = .ok (.if_icmp .ge 9, 3) := by decide +kernel
theorem dX8_cellOf_10 : decode cX8_cellOf 10 = .ok (.aload_n 0, 1) := by decide +kernel
theorem dX8_cellOf_11 : decode cX8_cellOf 11 = .ok (.iload_n 1, 1) := by decide +kernel
theorem dX8_cellOf_12 : decode cX8_cellOf 12 = .ok (.iaload, 1) := by decide +kernel
theorem dX8_cellOf_13 : decode cX8_cellOf 13 = .ok (.goto 4, 3) := by decide +kernel
theorem dX8_cellOf_16 : decode cX8_cellOf 16 = .ok (.iconst 0, 1) := by decide +kernel
theorem dX8_cellOf_17 : decode cX8_cellOf 17 = .ok (.ireturn, 1) := by decide +kernel
