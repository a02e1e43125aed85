theorem dX9_nextOf_37 : decode cX9_nextOf 37 = .ok (.iconst 1, 1) := by decide +kernel
theorem dX9_nextOf_38 : decode cX9_nextOf 38 = .ok (.iload_n 1, 1) := by decide +kernel
theorem dX9_nextOf_39 : decode cX9_nextOf 39 = .ok (.isub, 1) := by decide +kernel
theorem dX9_nextOf_40 : decode cX9_nextOf 40 = .ok (.iload_n 3, 1) := by decide +kernel
theorem dX9_nextOf_41 : decode cX9_nextOf 41 = .ok (.invokevirtual 243, 3) := by decide +kernel
theorem dX9_nextOf_44 : decode cX9_nextOf 44 = .ok (.aload_n 0, 1) := by decide +kernel
theorem dX9_nextOf_45 : decode cX9_nextOf 45 = .ok (.getfield 16, 3) := by decide +kernel
theorem dX9_nextOf_48 : decode cX9_nextOf 48 = .ok (.iconst 4, 1) := by decide +kernel
theorem dX9_nextOf_49 : decode cX9_nextOf 49 = .ok (.iconst 1, 1) := by decide +kernel
theorem dX9_nextOf_50 : decode cX9_nextOf 50 = .ok (.iload_n 1, 1) := by decide +kernel
theorem dX9_nextOf_51 : decode cX9_nextOf 51 = .ok (.isub, 1) := by decide +kernel
theorem dX9_nextOf_52 : decode cX9_nextOf 52 = .ok (.imul, 1) := by decide +kernel
theorem dX9_nextOf_53 : decode cX9_nextOf 53 = .ok (.iload_n 3, 1) := by decide +kernel
theorem dX9_nextOf_54 : decode cX9_nextOf 54 = .ok (.iadd, 1) := by decide +kernel
theorem dX9_nextOf_55 : decode cX9_nextOf 55 = .ok (.iaload, 1) := by decide +kernel
theorem dX9_nextOf_56 : decode cX9_nextOf 56 = .ok (.if_icmp .ge 5, 3) := by decide +kernel
theorem dX9_nextOf_59 : decode cX9_nextOf 59 = .ok (.iload_n 2, 1) := by decide +kernel
theorem dX9_nextOf_60 : decode cX9_nextOf 60 = .ok (.ireturn, 1) := by decide +kernel
theorem dX9_nextOf_61 : decode cX9_nextOf 61 = .ok (.iinc 2 1, 3) := by decide +kernel
theorem dX9_nextOf_64 : decode cX9_nextOf 64 = .ok (.goto (-62), 3) := by decide +kernel
theorem dX9_nextOf_67 : decode cX9_nextOf 67 = .ok (.iconst (-1), 1) := by decide +kernel
theorem dX9_nextOf_68 : decode cX9_nextOf 68 = .ok (.ireturn, 1) := by decide +kernel
theorem dX9_next_0 : decode cX9_next 0 = .ok (.aload_n 0, 1) := by decide +kernel
theorem dX9_next_1 : decode cX9_next 1 = .ok (.iload_n 1, 1) := by decide +kernel
theorem dX9_next_2 : decode cX9_next 2 = .ok (.invokevirtual 227, 3) := by decide +kernel
theorem dX9_next_5 : decode cX9_next 5 = .ok (.ifCond .eq 7, 3) := by decide +kernel
theorem dX9_next_8 : decode cX9_next 8 = .ok (.iconst 0, 1) := by decide +kernel
theorem dX9_next_9 : decode cX9_next 9 = .ok (.goto 8, 3) := by decide +kernel
theorem dX9_next_12 : decode cX9_next 12 = .ok (.aload_n 0, 1) := by decide +kernel
theorem dX9_next_13 : decode cX9_next 13 = .ok (.iload_n 1, 1) := by decide +kernel
theorem dX9_next_14 : decode cX9_next 14 = .ok (.invokevirtual 246, 3) := by decide +kernel
theorem dX9_next_17 : decode cX9_next 17 = .ok (.ireturn, 1) := by decide +kernel
theorem dX9_held_0 : decode cX9_held 0 = .ok (.aload_n 0, 1) := by decide +kernel
theorem dX9_held_1 : decode cX9_held 1 = .ok (.iload_n 1, 1) := by decide +kernel
theorem dX9_held_2 : decode cX9_held 2 = .ok (.invokevirtual 227, 3) := by decide +kernel
theorem dX9_held_5 : decode cX9_held 5 = .ok (.ifCond .ne 12, 3) := by decide +kernel
theorem dX9_held_8 : decode cX9_held 8 = .ok (.aload_n 0, 1) := by decide +kernel
theorem dX9_held_9 : decode cX9_held 9 = .ok (.iload_n 2, 1) := by decide +kernel
theorem dX9_held_10 : decode cX9_held 10 = .ok (.iconst 4, 1) := by decide +kernel
theorem dX9_held_11 : decode cX9_held 11 = .ok (.invokevirtual 220, 3) := by decide +kernel
theorem dX9_held_14 : decode cX9_held 14 = .ok (.ifCond .eq 7, 3) := by decide +kernel
theorem dX9_held_17 : decode cX9_held 17 = .ok (.iconst 0, 1) := by decide +kernel
theorem dX9_held_18 : decode cX9_held 18 = .ok (.goto 9, 3) := by decide +kernel
theorem dX9_held_21 : decode cX9_held 21 = .ok (.aload_n 0, 1) := by decide +kernel
theorem dX9_held_22 : decode cX9_held 22 = .ok (.iload_n 1, 1) := by decide +kernel
theorem dX9_held_23 : decode cX9_held 23 = .ok (.iload_n 2, 1) := by decide +kernel
theorem dX9_held_24 : decode cX9_held 24 = .ok (.invokevirtual 243, 3) := by decide +kernel
theorem dX9_held_27 : decode cX9_held 27 = .ok (.ireturn, 1) := by decide +kernel
theorem dX9_word_0 : decode cX9_word 0 = .ok (.aload_n 0, 1) := by decide +kernel
theorem dX9_word_1 : decode cX9_word 1 = .ok (.iload_n 1, 1) := by decide +kernel
theorem dX9_word_2 : decode cX9_word 2 = .ok (.invokevirtual 227, 3) := by decide +kernel
theorem dX9_word_5 : decode cX9_word 5 = .ok (.ifCond .ne 13, 3) := by decide +kernel
theorem dX9_word_8 : decode cX9_word 8 = .ok (.aload_n 0, 1) := by decide +kernel
theorem dX9_word_9 : decode cX9_word 9 = .ok (.iload_n 2, 1) := by decide +kernel
theorem dX9_word_10 : decode cX9_word 10 = .ok (.bipush 16, 2) := by decide +kernel
theorem dX9_word_12 : decode cX9_word 12 = .ok (.invokevirtual 220, 3) := by decide +kernel
theorem dX9_word_15 : decode cX9_word 15 = .ok (.ifCond .eq 7, 3) := by decide +kernel
theorem dX9_word_18 : decode cX9_word 18 = .ok (.iconst 0, 1) := by decide +kernel
theorem dX9_word_19 : decode cX9_word 19 = .ok (.goto 17, 3) := by decide +kernel
theorem dX9_word_22 : decode cX9_word 22 = .ok (.aload_n 0, 1) := by decide +kernel
theorem dX9_word_23 : decode cX9_word 23 = .ok (.getfield 7, 3) := by decide +kernel
theorem dX9_word_26 : decode cX9_word 26 = .ok (.bipush 11, 2) := by decide +kernel
theorem dX9_word_28 : decode cX9_word 28 = .ok (.bipush 16, 2) := by decide +kernel
theorem dX9_word_30 : decode cX9_word 30 = .ok (.iload_n 1, 1) := by decide +kernel
theorem dX9_word_31 : decode cX9_word 31 = .ok (.imul, 1) := by decide +kernel
theorem dX9_word_32 : decode cX9_word 32 = .ok (.iadd, 1) := by decide +kernel
theorem dX9_word_33 : decode cX9_word 33 = .ok (.iload_n 2, 1) := by decide +kernel
theorem dX9_word_34 : decode cX9_word 34 = .ok (.iadd, 1) := by decide +kernel
theorem dX9_word_35 : decode cX9_word 35 = .ok (.iaload, 1) := by decide +kernel
theorem dX9_word_36 : decode cX9_word 36 = .ok (.ireturn, 1) := by decide +kernel
theorem dX9_tagged_0 : decode cX9_tagged 0 = .ok (.bipush 43, 2) := by decide +kernel
theorem dX9_tagged_2 : decode cX9_tagged 2 = .ok (.bipush 7, 2) := by decide +kernel
theorem dX9_tagged_4 : decode cX9_tagged 4 = .ok (.bipush 8, 2) := by decide +kernel
theorem dX9_tagged_6 : decode cX9_tagged 6 = .ok (.iload_n 0, 1) := by decide +kernel
theorem dX9_tagged_7 : decode cX9_tagged 7 = .ok (.imul, 1) := by decide +kernel
theorem dX9_tagged_8 : decode cX9_tagged 8 = .ok (.iload_n 1, 1) := by decide +kernel
theorem dX9_tagged_9 : decode cX9_tagged 9 = .ok (.iadd, 1) := by decide +kernel
theorem dX9_tagged_10 : decode cX9_tagged 10 = .ok (.imul, 1) := by decide +kernel
theorem dX9_tagged_11 : decode cX9_tagged 11 = .ok (.iadd, 1) := by decide +kernel
theorem dX9_tagged_12 : decode cX9_tagged 12 = .ok (.ireturn, 1) := by decide +kernel
theorem dX9_noTag_0 : decode cX9_noTag 0 = .ok (.aload_n 0, 1) := by decide +kernel
theorem dX9_noTag_1 : decode cX9_noTag 1 = .ok (.iload_n 1, 1) := by decide +kernel
theorem dX9_noTag_2 : decode cX9_noTag 2 = .ok (.invokevirtual 227, 3) := by decide +kernel
theorem dX9_noTag_5 : decode cX9_noTag 5 = .ok (.ifCond .ne 17, 3) := by decide +kernel
theorem dX9_noTag_8 : decode cX9_noTag 8 = .ok (.aload_n 0, 1) := by decide +kernel
theorem dX9_noTag_9 : decode cX9_noTag 9 = .ok (.iload_n 2, 1) := by decide +kernel
theorem dX9_noTag_10 : decode cX9_noTag 10 = .ok (.aload_n 0, 1) := by decide +kernel
theorem dX9_noTag_11 : decode cX9_noTag 11 = .ok (.getfield 25, 3) := by decide +kernel
theorem dX9_noTag_14 : decode cX9_noTag 14 = .ok (.iconst 1, 1) := by decide +kernel
theorem dX9_noTag_15 : decode cX9_noTag 15 = .ok (.iaload, 1) := by decide +kernel
theorem dX9_noTag_16 : decode cX9_noTag 16 = .ok (.invokevirtual 220, 3) := by decide +kernel
theorem dX9_noTag_19 : decode cX9_noTag 19 = .ok (.ifCond .eq 7, 3) := by decide +kernel
theorem dX9_noTag_22 : decode cX9_noTag 22 = .ok (.iconst 1, 1) := by decide +kernel
theorem dX9_noTag_23 : decode cX9_noTag 23 = .ok (.goto 4, 3) := by decide +kernel
theorem dX9_noTag_26 : decode cX9_noTag 26 = .ok (.iconst 0, 1) := by decide +kernel
theorem dX9_noTag_27 : decode cX9_noTag 27 = .ok (.ireturn, 1) := by decide +kernel
theorem dX9_tagState_0 : decode cX9_tagState 0 = .ok (.aload_n 0, 1) := by decide +kernel
theorem dX9_tagState_1 : decode cX9_tagState 1 = .ok (.iload_n 1, 1) := by decide +kernel
theorem dX9_tagState_2 : decode cX9_tagState 2 = .ok (.iload_n 2, 1) := by decide +kernel
theorem dX9_tagState_3 : decode cX9_tagState 3 = .ok (.invokevirtual 249, 3) := by decide +kernel
theorem dX9_tagState_6 : decode cX9_tagState 6 = .ok (.ifCond .eq 7, 3) := by decide +kernel
theorem dX9_tagState_9 : decode cX9_tagState 9 = .ok (.iconst 0, 1) := by decide +kernel
theorem dX9_tagState_10 : decode cX9_tagState 10 = .ok (.goto 15, 3) := by decide +kernel
theorem dX9_tagState_13 : decode cX9_tagState 13 = .ok (.aload_n 0, 1) := by decide +kernel
theorem dX9_tagState_14 : decode cX9_tagState 14 = .ok (.getfield 7, 3) := by decide +kernel
theorem dX9_tagState_17 : decode cX9_tagState 17 = .ok (.iload_n 1, 1) := by decide +kernel
theorem dX9_tagState_18 : decode cX9_tagState 18 = .ok (.iload_n 2, 1) := by decide +kernel
theorem dX9_tagState_19 : decode cX9_tagState 19 = .ok (.invokestatic 252, 3) := by decide +kernel
theorem dX9_tagState_22 : decode cX9_tagState 22 = .ok (.iconst 0, 1) := by decide +kernel
theorem dX9_tagState_23 : decode cX9_tagState 23 = .ok (.iadd, 1) := by decide +kernel
theorem dX9_tagState_24 : decode cX9_tagState 24 = .ok (.iaload, 1) := by decide +kernel
theorem dX9_tagState_25 : decode cX9_tagState 25 = .ok (.ireturn, 1) := by decide +kernel
theorem dX9_stored_0 : decode cX9_stored 0 = .ok (.aload_n 0, 1) := by decide +kernel
theorem dX9_stored_1 : decode cX9_stored 1 = .ok (.iload_n 1, 1) := by decide +kernel
theorem dX9_stored_2 : decode cX9_stored 2 = .ok (.iload_n 2, 1) := by decide +kernel
theorem dX9_stored_3 : decode cX9_stored 3 = .ok (.invokevirtual 249, 3) := by decide +kernel
theorem dX9_stored_6 : decode cX9_stored 6 = .ok (.ifCond .eq 7, 3) := by decide +kernel
theorem dX9_stored_9 : decode cX9_stored 9 = .ok (.iconst 0, 1) := by decide +kernel
theorem dX9_stored_10 : decode cX9_stored 10 = .ok (.goto 18, 3) := by decide +kernel
theorem dX9_stored_13 : decode cX9_stored 13 = .ok (.aload_n 0, 1) := by decide +kernel
theorem dX9_stored_14 : decode cX9_stored 14 = .ok (.getfield 7, 3) := by decide +kernel
theorem dX9_stored_17 : decode cX9_stored 17 = .ok (.iload_n 1, 1) := by decide +kernel
theorem dX9_stored_18 : decode cX9_stored 18 = .ok (.iload_n 2, 1) := by decide +kernel
theorem dX9_stored_19 : decode cX9_stored 19 = .ok (.invokestatic 252, 3) := by decide +kernel
theorem dX9_stored_22 : decode cX9_stored 22 = .ok (.iconst 2, 1) := by decide +kernel
theorem dX9_stored_23 : decode cX9_stored 23 = .ok (.iadd, 1) := by decide +kernel
theorem dX9_stored_24 : decode cX9_stored 24 = .ok (.iaload, 1) := by decide +kernel
theorem dX9_stored_25 : decode cX9_stored 25 = .ok (.invokestatic 255, 3) := by decide +kernel
theorem dX9_stored_28 : decode cX9_stored 28 = .ok (.ireturn, 1) := by decide +kernel
theorem dX9_data_0 : decode cX9_data 0 = .ok (.aload_n 0, 1) := by decide +kernel
theorem dX9_data_1 : decode cX9_data 1 = .ok (.iload_n 1, 1) := by decide +kernel
theorem dX9_data_2 : decode cX9_data 2 = .ok (.iload_n 2, 1) := by decide +kernel
theorem dX9_data_3 : decode cX9_data 3 = .ok (.invokevirtual 249, 3) := by decide +kernel
theorem dX9_data_6 : decode cX9_data 6 = .ok (.ifCond .ne 44, 3) := by decide +kernel
theorem dX9_data_9 : decode cX9_data 9 = .ok (.aload_n 0, 1) := by decide +kernel
theorem dX9_data_10 : decode cX9_data 10 = .ok (.iload_n 3, 1) := by decide +kernel
theorem dX9_data_11 : decode cX9_data 11 = .ok (.iconst 0, 1) := by decide +kernel
theorem dX9_data_12 : decode cX9_data 12 = .ok (.iconst 3, 1) := by decide +kernel
theorem dX9_data_13 : decode cX9_data 13 = .ok (.invokestatic 114, 3) := by decide +kernel
theorem dX9_data_16 : decode cX9_data 16 = .ok (.ifCond .eq 22, 3) := by decide +kernel
theorem dX9_data_19 : decode cX9_data 19 = .ok (.aload_n 0, 1) := by decide +kernel
theorem dX9_data_20 : decode cX9_data 20 = .ok (.getfield 7, 3) := by decide +kernel
theorem dX9_data_23 : decode cX9_data 23 = .ok (.iload_n 1, 1) := by decide +kernel
theorem dX9_data_24 : decode cX9_data 24 = .ok (.iload_n 2, 1) := by decide +kernel
theorem dX9_data_25 : decode cX9_data 25 = .ok (.invokestatic 252, 3) := by decide +kernel
theorem dX9_data_28 : decode cX9_data 28 = .ok (.iconst 2, 1) := by decide +kernel
theorem dX9_data_29 : decode cX9_data 29 = .ok (.iadd, 1) := by decide +kernel
theorem dX9_data_30 : decode cX9_data 30 = .ok (.iaload, 1) := by decide +kernel
theorem dX9_data_31 : decode cX9_data 31 = .ok (.iload_n 3, 1) := by decide +kernel
theorem dX9_data_32 : decode cX9_data 32 = .ok (.invokestatic 148, 3) := by decide +kernel
theorem dX9_data_35 : decode cX9_data 35 = .ok (.ifCond .ne 7, 3) := by decide +kernel
theorem dX9_data_38 : decode cX9_data 38 = .ok (.iconst 1, 1) := by decide +kernel
theorem dX9_data_39 : decode cX9_data 39 = .ok (.goto 4, 3) := by decide +kernel
theorem dX9_data_42 : decode cX9_data 42 = .ok (.iconst 0, 1) := by decide +kernel
theorem dX9_data_43 : decode cX9_data 43 = .ok (.iconst 2, 1) := by decide +kernel
theorem dX9_data_44 : decode cX9_data 44 = .ok (.invokevirtual 210, 3) := by decide +kernel
theorem dX9_data_47 : decode cX9_data 47 = .ok (.ifCond .eq 5, 3) := by decide +kernel
theorem dX9_data_50 : decode cX9_data 50 = .ok (.iconst 0, 1) := by decide +kernel
theorem dX9_data_51 : decode cX9_data 51 = .ok (.ireturn, 1) := by decide +kernel
theorem dX9_data_52 : decode cX9_data 52 = .ok (.aload_n 0, 1) := by decide +kernel
theorem dX9_data_53 : decode cX9_data 53 = .ok (.getfield 7, 3) := by decide +kernel
theorem dX9_data_56 : decode cX9_data 56 = .ok (.iload_n 1, 1) := by decide +kernel
theorem dX9_data_57 : decode cX9_data 57 = .ok (.iload_n 2, 1) := by decide +kernel
theorem dX9_data_58 : decode cX9_data 58 = .ok (.invokestatic 252, 3) := by decide +kernel
theorem dX9_data_61 : decode cX9_data 61 = .ok (.iconst 3, 1) := by decide +kernel
theorem dX9_data_62 : decode cX9_data 62 = .ok (.iadd, 1) := by decide +kernel
theorem dX9_data_63 : decode cX9_data 63 = .ok (.iload_n 3, 1) := by decide +kernel
theorem dX9_data_64 : decode cX9_data 64 = .ok (.iadd, 1) := by decide +kernel
theorem dX9_data_65 : decode cX9_data 65 = .ok (.iaload, 1) := by decide +kernel
theorem dX9_data_66 : decode cX9_data 66 = .ok (.ireturn, 1) := by decide +kernel
theorem dX9_forwarded_0 : decode cX9_forwarded 0 = .ok (.aload_n 0, 1) := by decide +kernel
theorem dX9_forwarded_1 : decode cX9_forwarded 1 = .ok (.iload_n 1, 1) := by decide +kernel
theorem dX9_forwarded_2 : decode cX9_forwarded 2 = .ok (.invokevirtual 227, 3) := by decide +kernel
theorem dX9_forwarded_5 : decode cX9_forwarded 5 = .ok (.ifCond .eq 7, 3) := by decide +kernel
theorem dX9_forwarded_8 : decode cX9_forwarded 8 = .ok (.iconst 0, 1) := by decide +kernel
theorem dX9_forwarded_9 : decode cX9_forwarded 9 = .ok (.goto 11, 3) := by decide +kernel
theorem dX9_forwarded_12 : decode cX9_forwarded 12 = .ok (.aload_n 0, 1) := by decide +kernel
theorem dX9_forwarded_13 : decode cX9_forwarded 13 = .ok (.getfield 7, 3) := by decide +kernel
theorem dX9_forwarded_16 : decode cX9_forwarded 16 = .ok (.iconst 5, 1) := by decide +kernel
theorem dX9_forwarded_17 : decode cX9_forwarded 17 = .ok (.iload_n 1, 1) := by decide +kernel
theorem dX9_forwarded_18 : decode cX9_forwarded 18 = .ok (.iadd, 1) := by decide +kernel
theorem dX9_forwarded_19 : decode cX9_forwarded 19 = .ok (.iaload, 1) := by decide +kernel
theorem dX9_forwarded_20 : decode cX9_forwarded 20 = .ok (.ireturn, 1) := by decide +kernel
theorem dX9_passings_0 : decode cX9_passings 0 = .ok (.aload_n 0, 1) := by decide +kernel
theorem dX9_passings_1 : decode cX9_passings 1 = .ok (.iload_n 1, 1) := by decide +kernel
theorem dX9_passings_2 : decode cX9_passings 2 = .ok (.invokevirtual 227, 3) := by decide +kernel
theorem dX9_passings_5 : decode cX9_passings 5 = .ok (.ifCond .eq 7, 3) := by decide +kernel
theorem dX9_passings_8 : decode cX9_passings 8 = .ok (.iconst 0, 1) := by decide +kernel
theorem dX9_passings_9 : decode cX9_passings 9 = .ok (.goto 12, 3) := by decide +kernel
theorem dX9_passings_12 : decode cX9_passings 12 = .ok (.aload_n 0, 1) := by decide +kernel
theorem dX9_passings_13 : decode cX9_passings 13 = .ok (.getfield 7, 3) := by decide +kernel
theorem dX9_passings_16 : decode cX9_passings 16 = .ok (.bipush 7, 2) := by decide +kernel
theorem dX9_passings_18 : decode cX9_passings 18 = .ok (.iload_n 1, 1) := by decide +kernel
theorem dX9_passings_19 : decode cX9_passings 19 = .ok (.iadd, 1) := by decide +kernel
theorem dX9_passings_20 : decode cX9_passings 20 = .ok (.iaload, 1) := by decide +kernel
theorem dX9_passings_21 : decode cX9_passings 21 = .ok (.ireturn, 1) := by decide +kernel
theorem dX9_utilisation_0 : decode cX9_utilisation 0 = .ok (.aload_n 0, 1) := by decide +kernel
theorem dX9_utilisation_1 : decode cX9_utilisation 1 = .ok (.iload_n 1, 1) := by decide +kernel
theorem dX9_utilisation_2 : decode cX9_utilisation 2 = .ok (.invokevirtual 227, 3) := by decide +kernel
theorem dX9_utilisation_5 : decode cX9_utilisation 5 = .ok (.ifCond .ne 12, 3) := by decide +kernel
theorem dX9_utilisation_8 : decode cX9_utilisation 8 = .ok (.aload_n 0, 1) := by decide +kernel
theorem dX9_utilisation_9 : decode cX9_utilisation 9 = .ok (.getfield 7, 3) := by decide +kernel
theorem dX9_utilisation_12 : decode cX9_utilisation 12 = .ok (.iconst 0, 1) := by decide +kernel
theorem dX9_utilisation_13 : decode cX9_utilisation 13 = .ok (.iaload, 1) := by decide +kernel
theorem dX9_utilisation_14 : decode cX9_utilisation 14 = .ok (.ifCond .ne 7, 3) := by decide +kernel
theorem dX9_utilisation_17 : decode cX9_utilisation 17 = .ok (.dconst 0, 1) := by decide +kernel
theorem dX9_utilisation_18 : decode cX9_utilisation 18 = .ok (.goto 20, 3) := by decide +kernel
theorem dX9_utilisation_21 : decode cX9_utilisation 21 = .ok (.aload_n 0, 1) := by decide +kernel
theorem dX9_utilisation_22 : decode cX9_utilisation 22 = .ok (.getfield 7, 3) := by decide +kernel
theorem dX9_utilisation_25 : decode cX9_utilisation 25 = .ok (.iconst 5, 1) := by decide +kernel
theorem dX9_utilisation_26 : decode cX9_utilisation 26 = .ok (.iload_n 1, 1) := by decide +kernel
theorem dX9_utilisation_27 : decode cX9_utilisation 27 = .ok (.iadd, 1) := by decide +kernel
theorem dX9_utilisation_28 : decode cX9_utilisation 28 = .ok (.iaload, 1) := by decide +kernel
theorem dX9_utilisation_29 : decode cX9_utilisation 29 = .ok (.i2d, 1) := by decide +kernel
theorem dX9_utilisation_30 : decode cX9_utilisation 30 = .ok (.aload_n 0, 1) := by decide +kernel
theorem dX9_utilisation_31 : decode cX9_utilisation 31 = .ok (.getfield 7, 3) := by decide +kernel
theorem dX9_utilisation_34 : decode cX9_utilisation 34 = .ok (.iconst 0, 1) := by decide +kernel
theorem dX9_utilisation_35 : decode cX9_utilisation 35 = .ok (.iaload, 1) := by decide +kernel
theorem dX9_utilisation_36 : decode cX9_utilisation 36 = .ok (.i2d, 1) := by decide +kernel
theorem dX9_utilisation_37 : decode cX9_utilisation 37 = .ok (.ddiv, 1) := by decide +kernel
theorem dX9_utilisation_38 : decode cX9_utilisation 38 = .ok (.dreturn, 1) := by decide +kernel
theorem dX9_waitOf_0 : decode cX9_waitOf 0 = .ok (.aload_n 0, 1) := by decide +kernel
theorem dX9_waitOf_1 : decode cX9_waitOf 1 = .ok (.getfield 7, 3) := by decide +kernel
theorem dX9_waitOf_4 : decode cX9_waitOf 4 = .ok (.iconst 5, 1) := by decide +kernel
theorem dX9_waitOf_5 : decode cX9_waitOf 5 = .ok (.iload_n 1, 1) := by decide +kernel
theorem dX9_waitOf_6 : decode cX9_waitOf 6 = .ok (.iadd, 1) := by decide +kernel
theorem dX9_waitOf_7 : decode cX9_waitOf 7 = .ok (.iaload, 1) := by decide +kernel
theorem dX9_waitOf_8 : decode cX9_waitOf 8 = .ok (.ifCond .ne 7, 3) := by decide +kernel
theorem dX9_waitOf_11 : decode cX9_waitOf 11 = .ok (.fconst 0, 1) := by decide +kernel
theorem dX9_waitOf_12 : decode cX9_waitOf 12 = .ok (.goto 23, 3) := by decide +kernel
theorem dX9_waitOf_15 : decode cX9_waitOf 15 = .ok (.aload_n 0, 1) := by decide +kernel
theorem dX9_waitOf_16 : decode cX9_waitOf 16 = .ok (.getfield 7, 3) := by decide +kernel
theorem dX9_waitOf_19 : decode cX9_waitOf 19 = .ok (.bipush 9, 2) := by decide +kernel
theorem dX9_waitOf_21 : decode cX9_waitOf 21 = .ok (.iload_n 1, 1) := by decide +kernel
theorem dX9_waitOf_22 : decode cX9_waitOf 22 = .ok (.iadd, 1) := by decide +kernel
theorem dX9_waitOf_23 : decode cX9_waitOf 23 = .ok (.iaload, 1) := by decide +kernel
theorem dX9_waitOf_24 : decode cX9_waitOf 24 = .ok (.i2f, 1) := by decide +kernel
theorem dX9_waitOf_25 : decode cX9_waitOf 25 = .ok (.aload_n 0, 1) := by decide +kernel
theorem dX9_waitOf_26 : decode cX9_waitOf 26 = .ok (.getfield 7, 3) := by decide +kernel
theorem dX9_waitOf_29 : decode cX9_waitOf 29 = .ok (.iconst 5, 1) := by decide +kernel
theorem dX9_waitOf_30 : decode cX9_waitOf 30 = .ok (.iload_n 1, 1) := by decide +kernel
theorem dX9_waitOf_31 : decode cX9_waitOf 31 = .ok (.iadd, 1) := by decide +kernel
theorem dX9_waitOf_32 : decode cX9_waitOf 32 = .ok (.iaload, 1) := by decide +kernel
theorem dX9_waitOf_33 : decode cX9_waitOf 33 = .ok (.i2f, 1) := by decide +kernel
theorem dX9_waitOf_34 : decode cX9_waitOf 34 = .ok (.fdiv, 1) := by decide +kernel
theorem dX9_waitOf_35 : decode cX9_waitOf 35 = .ok (.freturn, 1) := by decide +kernel
theorem dX9_averageWait_0 : decode cX9_averageWait 0 = .ok (.aload_n 0, 1) := by decide +kernel
theorem dX9_averageWait_1 : decode cX9_averageWait 1 = .ok (.iload_n 1, 1) := by decide +kernel
theorem dX9_averageWait_2 : decode cX9_averageWait 2 = .ok (.invokevirtual 227, 3) := by decide +kernel
theorem dX9_averageWait_5 : decode cX9_averageWait 5 = .ok (.ifCond .eq 7, 3) := by decide +kernel
theorem dX9_averageWait_8 : decode cX9_averageWait 8 = .ok (.fconst 0, 1) := by decide +kernel
theorem dX9_averageWait_9 : decode cX9_averageWait 9 = .ok (.goto 8, 3) := by decide +kernel
theorem dX9_averageWait_12 : decode cX9_averageWait 12 = .ok (.aload_n 0, 1) := by decide +kernel
theorem dX9_averageWait_13 : decode cX9_averageWait 13 = .ok (.iload_n 1, 1) := by decide +kernel
theorem dX9_averageWait_14 : decode cX9_averageWait 14 = .ok (.invokevirtual 258, 3) := by decide +kernel
theorem dX9_averageWait_17 : decode cX9_averageWait 17 = .ok (.freturn, 1) := by decide +kernel
theorem dX9_ratioBits_0 : decode cX9_ratioBits 0 = .ok (.aload_n 0, 1) := by decide +kernel
theorem dX9_ratioBits_1 : decode cX9_ratioBits 1 = .ok (.iconst 0, 1) := by decide +kernel
theorem dX9_ratioBits_2 : decode cX9_ratioBits 2 = .ok (.putfield 70, 3) := by decide +kernel
theorem dX9_ratioBits_5 : decode cX9_ratioBits 5 = .ok (.aload_n 0, 1) := by decide +kernel
theorem dX9_ratioBits_6 : decode cX9_ratioBits 6 = .ok (.iconst 1, 1) := by decide +kernel
theorem dX9_ratioBits_7 : decode cX9_ratioBits 7 = .ok (.invokevirtual 258, 3) := by decide +kernel
theorem dX9_ratioBits_10 : decode cX9_ratioBits 10 = .ok (.fconst 0, 1) := by decide +kernel
theorem dX9_ratioBits_11 : decode cX9_ratioBits 11 = .ok (.fcmp .l, 1) := by decide +kernel
theorem dX9_ratioBits_12 : decode cX9_ratioBits 12 = .ok (.ifCond .ne 7, 3) := by decide +kernel
theorem dX9_ratioBits_15 : decode cX9_ratioBits 15 = .ok (.iconst 0, 1) := by decide +kernel
theorem dX9_ratioBits_16 : decode cX9_ratioBits 16 = .ok (.goto 17, 3) := by decide +kernel
theorem dX9_ratioBits_19 : decode cX9_ratioBits 19 = .ok (.aload_n 0, 1) := by decide +kernel
theorem dX9_ratioBits_20 : decode cX9_ratioBits 20 = .ok (.iconst 0, 1) := by decide +kernel
theorem dX9_ratioBits_21 : decode cX9_ratioBits 21 = .ok (.invokevirtual 258, 3) := by decide +kernel
theorem dX9_ratioBits_24 : decode cX9_ratioBits 24 = .ok (.aload_n 0, 1) := by decide +kernel
theorem dX9_ratioBits_25 : decode cX9_ratioBits 25 = .ok (.iconst 1, 1) := by decide +kernel
theorem dX9_ratioBits_26 : decode cX9_ratioBits 26 = .ok (.invokevirtual 258, 3) := by decide +kernel
theorem dX9_ratioBits_29 : decode cX9_ratioBits 29 = .ok (.fdiv, 1) := by decide +kernel
theorem dX9_ratioBits_30 : decode cX9_ratioBits 30 = .ok (.invokestatic 262, 3) := by decide +kernel
theorem dX9_ratioBits_33 : decode cX9_ratioBits 33 = .ok (.ireturn, 1) := by decide +kernel
theorem dX9_room_0 : decode cX9_room 0 = .ok (.aload_n 0, 1) := by decide +kernel
theorem dX9_room_1 : decode cX9_room 1 = .ok (.getfield 13, 3) := by decide +kernel
theorem dX9_room_4 : decode cX9_room 4 = .ok (.iconst 4, 1) := by decide +kernel
theorem dX9_room_5 : decode cX9_room 5 = .ok (.iload_n 1, 1) := by decide +kernel
theorem dX9_room_6 : decode cX9_room 6 = .ok (.imul, 1) := by decide +kernel
theorem dX9_room_7 : decode cX9_room 7 = .ok (.iload_n 2, 1) := by decide +kernel
theorem dX9_room_8 : decode cX9_room 8 = .ok (.iadd, 1) := by decide +kernel
theorem dX9_room_9 : decode cX9_room 9 = .ok (.iaload, 1) := by decide +kernel
theorem dX9_room_10 : decode cX9_room 10 = .ok (.istore_n 3, 1) := by decide +kernel
theorem dX9_room_11 : decode cX9_room 11 = .ok (.iconst 0, 1) := by decide +kernel
theorem dX9_room_12 : decode cX9_room 12 = .ok (.istore 4, 2) := by decide +kernel
theorem dX9_room_14 : decode cX9_room 14 = .ok (.iload 4, 2) := by decide +kernel
theorem dX9_room_16 : decode cX9_room 16 = .ok (.aload_n 0, 1) := by decide +kernel
theorem dX9_room_17 : decode cX9_room 17 = .ok (.getfield 7, 3) := by decide +kernel
theorem dX9_room_20 : decode cX9_room 20 = .ok (.iconst 1, 1) := by decide +kernel
theorem dX9_room_21 : decode cX9_room 21 = .ok (.iload_n 1, 1) := by decide +kernel
theorem dX9_room_22 : decode cX9_room 22 = .ok (.iadd, 1) := by decide +kernel
theorem dX9_room_23 : decode cX9_room 23 = .ok (.iaload, 1) := by decide +kernel
theorem dX9_room_24 : decode cX9_room 24 = .ok (.if_icmp .ge 34, 3) := by decide +kernel
theorem dX9_room_27 : decode cX9_room 27 = .ok (.iload_n 3, 1) := by decide +kernel
theorem dX9_room_28 : decode cX9_room 28 = .ok (.aload_n 0, 1) := by decide +kernel
theorem dX9_room_29 : decode cX9_room 29 = .ok (.getfield 7, 3) := by decide +kernel
theorem dX9_room_32 : decode cX9_room 32 = .ok (.iload_n 1, 1) := by decide +kernel
theorem dX9_room_33 : decode cX9_room 33 = .ok (.iload 4, 2) := by decide +kernel
theorem dX9_room_35 : decode cX9_room 35 = .ok (.invokestatic 233, 3) := by decide +kernel
theorem dX9_room_38 : decode cX9_room 38 = .ok (.iconst 0, 1) := by decide +kernel
theorem dX9_room_39 : decode cX9_room 39 = .ok (.iadd, 1) := by decide +kernel
theorem dX9_room_40 : decode cX9_room 40 = .ok (.iaload, 1) := by decide +kernel
theorem dX9_room_41 : decode cX9_room 41 = .ok (.iload_n 2, 1) := by decide +kernel
theorem dX9_room_42 : decode cX9_room 42 = .ok (.if_icmp .ne 7, 3) := by decide +kernel
theorem dX9_room_45 : decode cX9_room 45 = .ok (.iconst 1, 1) := by decide +kernel
theorem dX9_room_46 : decode cX9_room 46 = .ok (.goto 4, 3) := by decide +kernel
theorem dX9_room_49 : decode cX9_room 49 = .ok (.iconst 0, 1) := by decide +kernel
theorem dX9_room_50 : decode cX9_room 50 = .ok (.isub, 1) := by decide +kernel
theorem dX9_room_51 : decode cX9_room 51 = .ok (.istore_n 3, 1) := by decide +kernel
theorem dX9_room_52 : decode cX9_room 52 = .ok (.iinc 4 1, 3) := by decide +kernel
theorem dX9_room_55 : decode cX9_room 55 = .ok (.goto (-41), 3) := by decide +kernel
theorem dX9_room_58 : decode cX9_room 58 = .ok (.iload_n 3, 1) := by decide +kernel
theorem dX9_room_59 : decode cX9_room 59 = .ok (.ireturn, 1) := by decide +kernel
theorem dX9_comes_0 : decode cX9_comes 0 = .ok (.iload_n 1, 1) := by decide +kernel
theorem dX9_comes_1 : decode cX9_comes 1 = .ok (.aload_n 0, 1) := by decide +kernel
theorem dX9_comes_2 : decode cX9_comes 2 = .ok (.getfield 7, 3) := by decide +kernel
theorem dX9_comes_5 : decode cX9_comes 5 = .ok (.iconst 1, 1) := by decide +kernel
theorem dX9_comes_6 : decode cX9_comes 6 = .ok (.iload_n 1, 1) := by decide +kernel
theorem dX9_comes_7 : decode cX9_comes 7 = .ok (.iadd, 1) := by decide +kernel
theorem dX9_comes_8 : decode cX9_comes 8 = .ok (.iaload, 1) := by decide +kernel
theorem dX9_comes_9 : decode cX9_comes 9 = .ok (.invokestatic 233, 3) := by decide +kernel
theorem dX9_comes_12 : decode cX9_comes 12 = .ok (.istore 7, 2) := by decide +kernel
theorem dX9_comes_14 : decode cX9_comes 14 = .ok (.iconst 0, 1) := by decide +kernel
theorem dX9_comes_15 : decode cX9_comes 15 = .ok (.istore 8, 2) := by decide +kernel
theorem dX9_comes_17 : decode cX9_comes 17 = .ok (.iload 8, 2) := by decide +kernel
theorem dX9_comes_19 : decode cX9_comes 19 = .ok (.bipush 15, 2) := by decide +kernel
theorem dX9_comes_21 : decode cX9_comes 21 = .ok (.if_icmp .ge 20, 3) := by decide +kernel
theorem dX9_comes_24 : decode cX9_comes 24 = .ok (.aload_n 0, 1) := by decide +kernel
theorem dX9_comes_25 : decode cX9_comes 25 = .ok (.getfield 7, 3) := by decide +kernel
theorem dX9_comes_28 : decode cX9_comes 28 = .ok (.iload 7, 2) := by decide +kernel
theorem dX9_comes_30 : decode cX9_comes 30 = .ok (.iload 8, 2) := by decide +kernel
theorem dX9_comes_32 : decode cX9_comes 32 = .ok (.iadd, 1) := by decide +kernel
theorem dX9_comes_33 : decode cX9_comes 33 = .ok (.iconst 0, 1) := by decide +kernel
theorem dX9_comes_34 : decode cX9_comes 34 = .ok (.iastore, 1) := by decide +kernel
theorem dX9_comes_35 : decode cX9_comes 35 = .ok (.iinc 8 1, 3) := by decide +kernel
theorem dX9_comes_38 : decode cX9_comes 38 = .ok (.goto (-21), 3) := by decide +kernel
theorem dX9_comes_41 : decode cX9_comes 41 = .ok (.aload_n 0, 1) := by decide +kernel
theorem dX9_comes_42 : decode cX9_comes 42 = .ok (.getfield 7, 3) := by decide +kernel
theorem dX9_comes_45 : decode cX9_comes 45 = .ok (.iload 7, 2) := by decide +kernel
theorem dX9_comes_47 : decode cX9_comes 47 = .ok (.iconst 0, 1) := by decide +kernel
theorem dX9_comes_48 : decode cX9_comes 48 = .ok (.iadd, 1) := by decide +kernel
theorem dX9_comes_49 : decode cX9_comes 49 = .ok (.iload_n 2, 1) := by decide +kernel
theorem dX9_comes_50 : decode cX9_comes 50 = .ok (.iastore, 1) := by decide +kernel
theorem dX9_comes_51 : decode cX9_comes 51 = .ok (.aload_n 0, 1) := by decide +kernel
theorem dX9_comes_52 : decode cX9_comes 52 = .ok (.getfield 7, 3) := by decide +kernel
theorem dX9_comes_55 : decode cX9_comes 55 = .ok (.iload 7, 2) := by decide +kernel
theorem dX9_comes_57 : decode cX9_comes 57 = .ok (.iconst 1, 1) := by decide +kernel
theorem dX9_comes_58 : decode cX9_comes 58 = .ok (.iadd, 1) := by decide +kernel
theorem dX9_comes_59 : decode cX9_comes 59 = .ok (.iload_n 3, 1) := by decide +kernel
theorem dX9_comes_60 : decode cX9_comes 60 = .ok (.iastore, 1) := by decide +kernel
theorem dX9_comes_61 : decode cX9_comes 61 = .ok (.aload_n 0, 1) := by decide +kernel
theorem dX9_comes_62 : decode cX9_comes 62 = .ok (.getfield 7, 3) := by decide +kernel
theorem dX9_comes_65 : decode cX9_comes 65 = .ok (.iload 7, 2) := by decide +kernel
theorem dX9_comes_67 : decode cX9_comes 67 = .ok (.iconst 2, 1) := by decide +kernel
theorem dX9_comes_68 : decode cX9_comes 68 = .ok (.iadd, 1) := by decide +kernel
theorem dX9_comes_69 : decode cX9_comes 69 = .ok (.iload 4, 2) := by decide +kernel
theorem dX9_comes_71 : decode cX9_comes 71 = .ok (.iastore, 1) := by decide +kernel
theorem dX9_comes_72 : decode cX9_comes 72 = .ok (.aload_n 0, 1) := by decide +kernel
theorem dX9_comes_73 : decode cX9_comes 73 = .ok (.getfield 7, 3) := by decide +kernel
theorem dX9_comes_76 : decode cX9_comes 76 = .ok (.iload 7, 2) := by decide +kernel
theorem dX9_comes_78 : decode cX9_comes 78 = .ok (.iconst 3, 1) := by decide +kernel
theorem dX9_comes_79 : decode cX9_comes 79 = .ok (.iadd, 1) := by decide +kernel
theorem dX9_comes_80 : decode cX9_comes 80 = .ok (.iload 5, 2) := by decide +kernel
theorem dX9_comes_82 : decode cX9_comes 82 = .ok (.iastore, 1) := by decide +kernel
theorem dX9_comes_83 : decode cX9_comes 83 = .ok (.aload_n 0, 1) := by decide +kernel
theorem dX9_comes_84 : decode cX9_comes 84 = .ok (.getfield 7, 3) := by decide +kernel
theorem dX9_comes_87 : decode cX9_comes 87 = .ok (.iload 7, 2) := by decide +kernel
theorem dX9_comes_89 : decode cX9_comes 89 = .ok (.iconst 5, 1) := by decide +kernel
theorem dX9_comes_90 : decode cX9_comes 90 = .ok (.iadd, 1) := by decide +kernel
theorem dX9_comes_91 : decode cX9_comes 91 = .ok (.iload 6, 2) := by decide +kernel
theorem dX9_comes_93 : decode cX9_comes 93 = .ok (.ifCond .eq 7, 3) := by decide +kernel
theorem dX9_comes_96 : decode cX9_comes 96 = .ok (.iconst 1, 1) := by decide +kernel
theorem dX9_comes_97 : decode cX9_comes 97 = .ok (.goto 4, 3) := by decide +kernel
theorem dX9_comes_100 : decode cX9_comes 100 = .ok (.iconst 0, 1) := by decide +kernel
theorem dX9_comes_101 : decode cX9_comes 101 = .ok (.iastore, 1) := by decide +kernel
theorem dX9_comes_102 : decode cX9_comes 102 = .ok (.aload_n 0, 1) := by decide +kernel
theorem dX9_comes_103 : decode cX9_comes 103 = .ok (.getfield 7, 3) := by decide +kernel
theorem dX9_comes_106 : decode cX9_comes 106 = .ok (.iload 7, 2) := by decide +kernel
theorem dX9_comes_108 : decode cX9_comes 108 = .ok (.bipush 6, 2) := by decide +kernel
theorem dX9_comes_110 : decode cX9_comes 110 = .ok (.iadd, 1) := by decide +kernel
theorem dX9_comes_111 : decode cX9_comes 111 = .ok (.aload_n 0, 1) := by decide +kernel
theorem dX9_comes_112 : decode cX9_comes 112 = .ok (.getfield 7, 3) := by decide +kernel
theorem dX9_comes_115 : decode cX9_comes 115 = .ok (.iconst 0, 1) := by decide +kernel
theorem dX9_comes_116 : decode cX9_comes 116 = .ok (.iaload, 1) := by decide +kernel
theorem dX9_comes_117 : decode cX9_comes 117 = .ok (.iastore, 1) := by decide +kernel
theorem dX9_comes_118 : decode cX9_comes 118 = .ok (.aload_n 0, 1) := by decide +kernel
theorem dX9_comes_119 : decode cX9_comes 119 = .ok (.getfield 7, 3) := by decide +kernel
theorem dX9_comes_122 : decode cX9_comes 122 = .ok (.iconst 1, 1) := by decide +kernel
theorem dX9_comes_123 : decode cX9_comes 123 = .ok (.iload_n 1, 1) := by decide +kernel
theorem dX9_comes_124 : decode cX9_comes 124 = .ok (.iadd, 1) := by decide +kernel
theorem dX9_comes_125 : decode cX9_comes 125 = .ok (.dup2, 1) := by decide +kernel
theorem dX9_comes_126 : decode cX9_comes 126 = .ok (.iaload, 1) := by decide +kernel
theorem dX9_comes_127 : decode cX9_comes 127 = .ok (.iconst 1, 1) := by decide +kernel
theorem dX9_comes_128 : decode cX9_comes 128 = .ok (.iadd, 1) := by decide +kernel
theorem dX9_comes_129 : decode cX9_comes 129 = .ok (.iastore, 1) := by decide +kernel
theorem dX9_comes_130 : decode cX9_comes 130 = .ok (.iload 7, 2) := by decide +kernel
theorem dX9_comes_132 : decode cX9_comes 132 = .ok (.ireturn, 1) := by decide +kernel
theorem dX9_writes_0 : decode cX9_writes 0 = .ok (.iconst 0, 1) := by decide +kernel
theorem dX9_writes_1 : decode cX9_writes 1 = .ok (.istore_n 3, 1) := by decide +kernel
theorem dX9_writes_2 : decode cX9_writes 2 = .ok (.iload_n 3, 1) := by decide +kernel
theorem dX9_writes_3 : decode cX9_writes 3 = .ok (.aload_n 0, 1) := by decide +kernel
theorem dX9_writes_4 : decode cX9_writes 4 = .ok (.getfield 7, 3) := by decide +kernel
theorem dX9_writes_7 : decode cX9_writes 7 = .ok (.iload_n 2, 1) := by decide +kernel
theorem dX9_writes_8 : decode cX9_writes 8 = .ok (.iconst 3, 1) := by decide +kernel
theorem dX9_writes_9 : decode cX9_writes 9 = .ok (.iadd, 1) := by decide +kernel
theorem dX9_writes_10 : decode cX9_writes 10 = .ok (.iaload, 1) := by decide +kernel
theorem dX9_writes_11 : decode cX9_writes 11 = .ok (.if_icmp .ge 42, 3) := by decide +kernel
theorem dX9_writes_14 : decode cX9_writes 14 = .ok (.aload_n 0, 1) := by decide +kernel
theorem dX9_writes_15 : decode cX9_writes 15 = .ok (.getfield 7, 3) := by decide +kernel
theorem dX9_writes_18 : decode cX9_writes 18 = .ok (.bipush 11, 2) := by decide +kernel
theorem dX9_writes_20 : decode cX9_writes 20 = .ok (.bipush 16, 2) := by decide +kernel
theorem dX9_writes_22 : decode cX9_writes 22 = .ok (.iload_n 1, 1) := by decide +kernel
theorem dX9_writes_23 : decode cX9_writes 23 = .ok (.imul, 1) := by decide +kernel
theorem dX9_writes_24 : decode cX9_writes 24 = .ok (.iadd, 1) := by decide +kernel
theorem dX9_writes_25 : decode cX9_writes 25 = .ok (.aload_n 0, 1) := by decide +kernel
theorem dX9_writes_26 : decode cX9_writes 26 = .ok (.getfield 7, 3) := by decide +kernel
theorem dX9_writes_29 : decode cX9_writes 29 = .ok (.iload_n 2, 1) := by decide +kernel
theorem dX9_writes_30 : decode cX9_writes 30 = .ok (.iconst 2, 1) := by decide +kernel
theorem dX9_writes_31 : decode cX9_writes 31 = .ok (.iadd, 1) := by decide +kernel
theorem dX9_writes_32 : decode cX9_writes 32 = .ok (.iaload, 1) := by decide +kernel
theorem dX9_writes_33 : decode cX9_writes 33 = .ok (.iadd, 1) := by decide +kernel
theorem dX9_writes_34 : decode cX9_writes 34 = .ok (.iload_n 3, 1) := by decide +kernel
theorem dX9_writes_35 : decode cX9_writes 35 = .ok (.iadd, 1) := by decide +kernel
theorem dX9_writes_36 : decode cX9_writes 36 = .ok (.aload_n 0, 1) := by decide +kernel
theorem dX9_writes_37 : decode cX9_writes 37 = .ok (.getfield 7, 3) := by decide +kernel
theorem dX9_writes_40 : decode cX9_writes 40 = .ok (.iload_n 2, 1) := by decide +kernel
theorem dX9_writes_41 : decode cX9_writes 41 = .ok (.iconst 4, 1) := by decide +kernel
theorem dX9_writes_42 : decode cX9_writes 42 = .ok (.iadd, 1) := by decide +kernel
theorem dX9_writes_43 : decode cX9_writes 43 = .ok (.iaload, 1) := by decide +kernel
theorem dX9_writes_44 : decode cX9_writes 44 = .ok (.iload_n 3, 1) := by decide +kernel
theorem dX9_writes_45 : decode cX9_writes 45 = .ok (.iadd, 1) := by decide +kernel
theorem dX9_writes_46 : decode cX9_writes 46 = .ok (.iastore, 1) := by decide +kernel
theorem dX9_writes_47 : decode cX9_writes 47 = .ok (.iinc 3 1, 3) := by decide +kernel
theorem dX9_writes_50 : decode cX9_writes 50 = .ok (.goto (-48), 3) := by decide +kernel
theorem dX9_writes_53 : decode cX9_writes 53 = .ok (.return_, 1) := by decide +kernel
theorem dX9_works_0 : decode cX9_works 0 = .ok (.aload_n 0, 1) := by decide +kernel
theorem dX9_works_1 : decode cX9_works 1 = .ok (.getfield 7, 3) := by decide +kernel
theorem dX9_works_4 : decode cX9_works 4 = .ok (.iload_n 2, 1) := by decide +kernel
theorem dX9_works_5 : decode cX9_works 5 = .ok (.iconst 0, 1) := by decide +kernel
theorem dX9_works_6 : decode cX9_works 6 = .ok (.iadd, 1) := by decide +kernel
theorem dX9_works_7 : decode cX9_works 7 = .ok (.iaload, 1) := by decide +kernel
theorem dX9_works_8 : decode cX9_works 8 = .ok (.tableswitch 103 0 2 #[28, 36, 43], 28) := by decide +kernel
theorem dX9_works_36 : decode cX9_works 36 = .ok (.aload_n 0, 1) := by decide +kernel
theorem dX9_works_37 : decode cX9_works 37 = .ok (.iload_n 1, 1) := by decide +kernel
theorem dX9_works_38 : decode cX9_works 38 = .ok (.iload_n 2, 1) := by decide +kernel
theorem dX9_works_39 : decode cX9_works 39 = .ok (.invokevirtual 268, 3) := by decide +kernel
theorem dX9_works_42 : decode cX9_works 42 = .ok (.iconst 1, 1) := by decide +kernel
theorem dX9_works_43 : decode cX9_works 43 = .ok (.ireturn, 1) := by decide +kernel
theorem dX9_works_44 : decode cX9_works 44 = .ok (.aload_n 0, 1) := by decide +kernel
theorem dX9_works_45 : decode cX9_works 45 = .ok (.iload_n 1, 1) := by decide +kernel
theorem dX9_works_46 : decode cX9_works 46 = .ok (.iload_n 2, 1) := by decide +kernel
theorem dX9_works_47 : decode cX9_works 47 = .ok (.invokevirtual 272, 3) := by decide +kernel
theorem dX9_works_50 : decode cX9_works 50 = .ok (.ireturn, 1) := by decide +kernel
theorem dX9_works_51 : decode cX9_works 51 = .ok (.aload_n 0, 1) := by decide +kernel
theorem dX9_works_52 : decode cX9_works 52 = .ok (.iload_n 1, 1) := by decide +kernel
theorem dX9_works_53 : decode cX9_works 53 = .ok (.iconst 3, 1) := by decide +kernel
theorem dX9_works_54 : decode cX9_works 54 = .ok (.invokevirtual 275, 3) := by decide +kernel
theorem dX9_works_57 : decode cX9_works 57 = .ok (.ifCond .ne 5, 3) := by decide +kernel
theorem dX9_works_60 : decode cX9_works 60 = .ok (.iconst 0, 1) := by decide +kernel
theorem dX9_works_61 : decode cX9_works 61 = .ok (.ireturn, 1) := by decide +kernel
theorem dX9_works_62 : decode cX9_works 62 = .ok (.aload_n 0, 1) := by decide +kernel
theorem dX9_works_63 : decode cX9_works 63 = .ok (.iload_n 1, 1) := by decide +kernel
theorem dX9_works_64 : decode cX9_works 64 = .ok (.iload_n 2, 1) := by decide +kernel
theorem dX9_works_65 : decode cX9_works 65 = .ok (.invokevirtual 268, 3) := by decide +kernel
theorem dX9_works_68 : decode cX9_works 68 = .ok (.aload_n 0, 1) := by decide +kernel
theorem dX9_works_69 : decode cX9_works 69 = .ok (.iload_n 1, 1) := by decide +kernel
theorem dX9_works_70 : decode cX9_works 70 = .ok (.iconst 3, 1) := by decide +kernel
theorem dX9_works_71 : decode cX9_works 71 = .ok (.aload_n 0, 1) := by decide +kernel
theorem dX9_works_72 : decode cX9_works 72 = .ok (.getfield 7, 3) := by decide +kernel
theorem dX9_works_75 : decode cX9_works 75 = .ok (.iload_n 2, 1) := by decide +kernel
theorem dX9_works_76 : decode cX9_works 76 = .ok (.iconst 1, 1) := by decide +kernel
theorem dX9_works_77 : decode cX9_works 77 = .ok (.iadd, 1) := by decide +kernel
theorem dX9_works_78 : decode cX9_works 78 = .ok (.iaload, 1) := by decide +kernel
theorem dX9_works_79 : decode cX9_works 79 = .ok (.aload_n 0, 1) := by decide +kernel
theorem dX9_works_80 : decode cX9_works 80 = .ok (.getfield 7, 3) := by decide +kernel
theorem dX9_works_83 : decode cX9_works 83 = .ok (.iload_n 2, 1) := by decide +kernel
theorem dX9_works_84 : decode cX9_works 84 = .ok (.iconst 2, 1) := by decide +kernel
theorem dX9_works_85 : decode cX9_works 85 = .ok (.iadd, 1) := by decide +kernel
theorem dX9_works_86 : decode cX9_works 86 = .ok (.iaload, 1) := by decide +kernel
theorem dX9_works_87 : decode cX9_works 87 = .ok (.iconst 0, 1) := by decide +kernel
theorem dX9_works_88 : decode cX9_works 88 = .ok (.aload_n 0, 1) := by decide +kernel
theorem dX9_works_89 : decode cX9_works 89 = .ok (.getfield 7, 3) := by decide +kernel
theorem dX9_works_92 : decode cX9_works 92 = .ok (.iload_n 2, 1) := by decide +kernel
theorem dX9_works_93 : decode cX9_works 93 = .ok (.iconst 5, 1) := by decide +kernel
theorem dX9_works_94 : decode cX9_works 94 = .ok (.iadd, 1) := by decide +kernel
theorem dX9_works_95 : decode cX9_works 95 = .ok (.iaload, 1) := by decide +kernel
theorem dX9_works_96 : decode cX9_works 96 = .ok (.iconst 1, 1) := by decide +kernel
theorem dX9_works_97 : decode cX9_works 97 = .ok (.if_icmp .ne 7, 3) := by decide +kernel
theorem dX9_works_100 : decode cX9_works 100 = .ok (.iconst 1, 1) := by decide +kernel
theorem dX9_works_101 : decode cX9_works 101 = .ok (.goto 4, 3) := by decide +kernel
theorem dX9_works_104 : decode cX9_works 104 = .ok (.iconst 0, 1) := by decide +kernel
theorem dX9_works_105 : decode cX9_works 105 = .ok (.invokevirtual 278, 3) := by decide +kernel
theorem dX9_works_108 : decode cX9_works 108 = .ok (.pop, 1) := by decide +kernel
theorem dX9_works_109 : decode cX9_works 109 = .ok (.iconst 1, 1) := by decide +kernel
theorem dX9_works_110 : decode cX9_works 110 = .ok (.ireturn, 1) := by decide +kernel
theorem dX9_works_111 : decode cX9_works 111 = .ok (.aload_n 0, 1) := by decide +kernel
theorem dX9_works_112 : decode cX9_works 112 = .ok (.iload_n 1, 1) := by decide +kernel
theorem dX9_works_113 : decode cX9_works 113 = .ok (.iload_n 2, 1) := by decide +kernel
theorem dX9_works_114 : decode cX9_works 114 = .ok (.invokevirtual 282, 3) := by decide +kernel
theorem dX9_works_117 : decode cX9_works 117 = .ok (.iconst 1, 1) := by decide +kernel
theorem dX9_works_118 : decode cX9_works 118 = .ok (.ireturn, 1) := by decide +kernel
theorem dX9_answers_0 : decode cX9_answers 0 = .ok (.aload_n 0, 1) := by decide +kernel
theorem dX9_answers_1 : decode cX9_answers 1 = .ok (.getfield 7, 3) := by decide +kernel
theorem dX9_answers_4 : decode cX9_answers 4 = .ok (.iload_n 2, 1) := by decide +kernel
theorem dX9_answers_5 : decode cX9_answers 5 = .ok (.bipush 14, 2) := by decide +kernel
theorem dX9_answers_7 : decode cX9_answers 7 = .ok (.iadd, 1) := by decide +kernel
theorem dX9_answers_8 : decode cX9_answers 8 = .ok (.iaload, 1) := by decide +kernel
theorem dX9_answers_9 : decode cX9_answers 9 = .ok (.aload_n 0, 1) := by decide +kernel
theorem dX9_answers_10 : decode cX9_answers 10 = .ok (.getfield 7, 3) := by decide +kernel
theorem dX9_answers_13 : decode cX9_answers 13 = .ok (.iload_n 2, 1) := by decide +kernel
theorem dX9_answers_14 : decode cX9_answers 14 = .ok (.iconst 3, 1) := by decide +kernel
theorem dX9_answers_15 : decode cX9_answers 15 = .ok (.iadd, 1) := by decide +kernel
theorem dX9_answers_16 : decode cX9_answers 16 = .ok (.iaload, 1) := by decide +kernel
theorem dX9_answers_17 : decode cX9_answers 17 = .ok (.if_icmp .ge 198, 3) := by decide +kernel
theorem dX9_answers_20 : decode cX9_answers 20 = .ok (.aload_n 0, 1) := by decide +kernel
theorem dX9_answers_21 : decode cX9_answers 21 = .ok (.iload_n 1, 1) := by decide +kernel
theorem dX9_answers_22 : decode cX9_answers 22 = .ok (.iconst 3, 1) := by decide +kernel
theorem dX9_answers_23 : decode cX9_answers 23 = .ok (.invokevirtual 275, 3) := by decide +kernel
theorem dX9_answers_26 : decode cX9_answers 26 = .ok (.ifCond .le 189, 3) := by decide +kernel
theorem dX9_answers_29 : decode cX9_answers 29 = .ok (.aload_n 0, 1) := by decide +kernel
theorem dX9_answers_30 : decode cX9_answers 30 = .ok (.getfield 7, 3) := by decide +kernel
theorem dX9_answers_33 : decode cX9_answers 33 = .ok (.iload_n 2, 1) := by decide +kernel
theorem dX9_answers_34 : decode cX9_answers 34 = .ok (.iconst 3, 1) := by decide +kernel
theorem dX9_answers_35 : decode cX9_answers 35 = .ok (.iadd, 1) := by decide +kernel
theorem dX9_answers_36 : decode cX9_answers 36 = .ok (.iaload, 1) := by decide +kernel
theorem dX9_answers_37 : decode cX9_answers 37 = .ok (.aload_n 0, 1) := by decide +kernel
theorem dX9_answers_38 : decode cX9_answers 38 = .ok (.getfield 7, 3) := by decide +kernel
theorem dX9_answers_41 : decode cX9_answers 41 = .ok (.iload_n 2, 1) := by decide +kernel
theorem dX9_answers_42 : decode cX9_answers 42 = .ok (.bipush 14, 2) := by decide +kernel
theorem dX9_answers_44 : decode cX9_answers 44 = .ok (.iadd, 1) := by decide +kernel
theorem dX9_answers_45 : decode cX9_answers 45 = .ok (.iaload, 1) := by decide +kernel
theorem dX9_answers_46 : decode cX9_answers 46 = .ok (.isub, 1) := by decide +kernel
theorem dX9_answers_47 : decode cX9_answers 47 = .ok (.istore_n 3, 1) := by decide +kernel
theorem dX9_answers_48 : decode cX9_answers 48 = .ok (.iload_n 3, 1) := by decide +kernel
theorem dX9_answers_49 : decode cX9_answers 49 = .ok (.aload_n 0, 1) := by decide +kernel
theorem dX9_answers_50 : decode cX9_answers 50 = .ok (.getfield 25, 3) := by decide +kernel
theorem dX9_answers_53 : decode cX9_answers 53 = .ok (.iconst 0, 1) := by decide +kernel
theorem dX9_answers_54 : decode cX9_answers 54 = .ok (.iaload, 1) := by decide +kernel
theorem dX9_answers_55 : decode cX9_answers 55 = .ok (.if_icmp .ge 7, 3) := by decide +kernel
theorem dX9_answers_58 : decode cX9_answers 58 = .ok (.iload_n 3, 1) := by decide +kernel
theorem dX9_answers_59 : decode cX9_answers 59 = .ok (.goto 9, 3) := by decide +kernel
theorem dX9_answers_62 : decode cX9_answers 62 = .ok (.aload_n 0, 1) := by decide +kernel
theorem dX9_answers_63 : decode cX9_answers 63 = .ok (.getfield 25, 3) := by decide +kernel
theorem dX9_answers_66 : decode cX9_answers 66 = .ok (.iconst 0, 1) := by decide +kernel
theorem dX9_answers_67 : decode cX9_answers 67 = .ok (.iaload, 1) := by decide +kernel
theorem dX9_answers_68 : decode cX9_answers 68 = .ok (.istore 4, 2) := by decide +kernel
theorem dX9_answers_70 : decode cX9_answers 70 = .ok (.aload_n 0, 1) := by decide +kernel
theorem dX9_answers_71 : decode cX9_answers 71 = .ok (.getfield 7, 3) := by decide +kernel
theorem dX9_answers_74 : decode cX9_answers 74 = .ok (.iload_n 2, 1) := by decide +kernel
theorem dX9_answers_75 : decode cX9_answers 75 = .ok (.iconst 2, 1) := by decide +kernel
theorem dX9_answers_76 : decode cX9_answers 76 = .ok (.iadd, 1) := by decide +kernel
theorem dX9_answers_77 : decode cX9_answers 77 = .ok (.iaload, 1) := by decide +kernel
theorem dX9_answers_78 : decode cX9_answers 78 = .ok (.aload_n 0, 1) := by decide +kernel
theorem dX9_answers_79 : decode cX9_answers 79 = .ok (.getfield 7, 3) := by decide +kernel
theorem dX9_answers_82 : decode cX9_answers 82 = .ok (.iload_n 2, 1) := by decide +kernel
theorem dX9_answers_83 : decode cX9_answers 83 = .ok (.bipush 14, 2) := by decide +kernel
theorem dX9_answers_85 : decode cX9_answers 85 = .ok (.iadd, 1) := by decide +kernel
theorem dX9_answers_86 : decode cX9_answers 86 = .ok (.iaload, 1) := by decide +kernel
theorem dX9_answers_87 : decode cX9_answers 87 = .ok (.iadd, 1) := by decide +kernel
theorem dX9_answers_88 : decode cX9_answers 88 = .ok (.istore 5, 2) := by decide +kernel
theorem dX9_answers_90 : decode cX9_answers 90 = .ok (.aload_n 0, 1) := by decide +kernel
theorem dX9_answers_91 : decode cX9_answers 91 = .ok (.iload_n 1, 1) := by decide +kernel
theorem dX9_answers_92 : decode cX9_answers 92 = .ok (.iconst 3, 1) := by decide +kernel
theorem dX9_answers_93 : decode cX9_answers 93 = .ok (.aload_n 0, 1) := by decide +kernel
theorem dX9_answers_94 : decode cX9_answers 94 = .ok (.getfield 7, 3) := by decide +kernel
theorem dX9_answers_97 : decode cX9_answers 97 = .ok (.iload_n 2, 1) := by decide +kernel
theorem dX9_answers_98 : decode cX9_answers 98 = .ok (.iconst 1, 1) := by decide +kernel
theorem dX9_answers_99 : decode cX9_answers 99 = .ok (.iadd, 1) := by decide +kernel
theorem dX9_answers_100 : decode cX9_answers 100 = .ok (.iaload, 1) := by decide +kernel
theorem dX9_answers_101 : decode cX9_answers 101 = .ok (.iload 5, 2) := by decide +kernel
theorem dX9_answers_103 : decode cX9_answers 103 = .ok (.iload 4, 2) := by decide +kernel
theorem dX9_answers_105 : decode cX9_answers 105 = .ok (.aload_n 0, 1) := by decide +kernel
theorem dX9_answers_106 : decode cX9_answers 106 = .ok (.getfield 7, 3) := by decide +kernel
theorem dX9_answers_109 : decode cX9_answers 109 = .ok (.iload_n 2, 1) := by decide +kernel
theorem dX9_answers_110 : decode cX9_answers 110 = .ok (.iconst 5, 1) := by decide +kernel
theorem dX9_answers_111 : decode cX9_answers 111 = .ok (.iadd, 1) := by decide +kernel
theorem dX9_answers_112 : decode cX9_answers 112 = .ok (.iaload, 1) := by decide +kernel
theorem dX9_answers_113 : decode cX9_answers 113 = .ok (.iconst 1, 1) := by decide +kernel
theorem dX9_answers_114 : decode cX9_answers 114 = .ok (.if_icmp .ne 7, 3) := by decide +kernel
theorem dX9_answers_117 : decode cX9_answers 117 = .ok (.iconst 1, 1) := by decide +kernel
theorem dX9_answers_118 : decode cX9_answers 118 = .ok (.goto 4, 3) := by decide +kernel
theorem dX9_answers_121 : decode cX9_answers 121 = .ok (.iconst 0, 1) := by decide +kernel
theorem dX9_answers_122 : decode cX9_answers 122 = .ok (.invokevirtual 278, 3) := by decide +kernel
theorem dX9_answers_125 : decode cX9_answers 125 = .ok (.istore 6, 2) := by decide +kernel
theorem dX9_answers_127 : decode cX9_answers 127 = .ok (.aload_n 0, 1) := by decide +kernel
theorem dX9_answers_128 : decode cX9_answers 128 = .ok (.getfield 7, 3) := by decide +kernel
theorem dX9_answers_131 : decode cX9_answers 131 = .ok (.iload 6, 2) := by decide +kernel
theorem dX9_answers_133 : decode cX9_answers 133 = .ok (.bipush 7, 2) := by decide +kernel
theorem dX9_answers_135 : decode cX9_answers 135 = .ok (.iadd, 1) := by decide +kernel
theorem dX9_answers_136 : decode cX9_answers 136 = .ok (.aload_n 0, 1) := by decide +kernel
theorem dX9_answers_137 : decode cX9_answers 137 = .ok (.getfield 7, 3) := by decide +kernel
theorem dX9_answers_140 : decode cX9_answers 140 = .ok (.iload_n 2, 1) := by decide +kernel
theorem dX9_answers_141 : decode cX9_answers 141 = .ok (.bipush 14, 2) := by decide +kernel
theorem dX9_answers_143 : decode cX9_answers 143 = .ok (.iadd, 1) := by decide +kernel
theorem dX9_answers_144 : decode cX9_answers 144 = .ok (.iaload, 1) := by decide +kernel
theorem dX9_answers_145 : decode cX9_answers 145 = .ok (.iastore, 1) := by decide +kernel
theorem dX9_answers_146 : decode cX9_answers 146 = .ok (.iconst 0, 1) := by decide +kernel
theorem dX9_answers_147 : decode cX9_answers 147 = .ok (.istore 7, 2) := by decide +kernel
theorem dX9_answers_149 : decode cX9_answers 149 = .ok (.iload 7, 2) := by decide +kernel
theorem dX9_answers_151 : decode cX9_answers 151 = .ok (.iload 4, 2) := by decide +kernel
theorem dX9_answers_153 : decode cX9_answers 153 = .ok (.if_icmp .ge 40, 3) := by decide +kernel
theorem dX9_answers_156 : decode cX9_answers 156 = .ok (.aload_n 0, 1) := by decide +kernel
theorem dX9_answers_157 : decode cX9_answers 157 = .ok (.getfield 7, 3) := by decide +kernel
theorem dX9_answers_160 : decode cX9_answers 160 = .ok (.iload 6, 2) := by decide +kernel
theorem dX9_answers_162 : decode cX9_answers 162 = .ok (.bipush 8, 2) := by decide +kernel
theorem dX9_answers_164 : decode cX9_answers 164 = .ok (.iadd, 1) := by decide +kernel
theorem dX9_answers_165 : decode cX9_answers 165 = .ok (.iload 7, 2) := by decide +kernel
theorem dX9_answers_167 : decode cX9_answers 167 = .ok (.iadd, 1) := by decide +kernel
theorem dX9_answers_168 : decode cX9_answers 168 = .ok (.aload_n 0, 1) := by decide +kernel
theorem dX9_answers_169 : decode cX9_answers 169 = .ok (.getfield 7, 3) := by decide +kernel
theorem dX9_answers_172 : decode cX9_answers 172 = .ok (.bipush 11, 2) := by decide +kernel
theorem dX9_answers_174 : decode cX9_answers 174 = .ok (.bipush 16, 2) := by decide +kernel
theorem dX9_answers_176 : decode cX9_answers 176 = .ok (.iload_n 1, 1) := by decide +kernel
theorem dX9_answers_177 : decode cX9_answers 177 = .ok (.imul, 1) := by decide +kernel
theorem dX9_answers_178 : decode cX9_answers 178 = .ok (.iadd, 1) := by decide +kernel
theorem dX9_answers_179 : decode cX9_answers 179 = .ok (.iload 5, 2) := by decide +kernel
theorem dX9_answers_181 : decode cX9_answers 181 = .ok (.iadd, 1) := by decide +kernel
theorem dX9_answers_182 : decode cX9_answers 182 = .ok (.iload 7, 2) := by decide +kernel
theorem dX9_answers_184 : decode cX9_answers 184 = .ok (.iadd, 1) := by decide +kernel
theorem dX9_answers_185 : decode cX9_answers 185 = .ok (.iaload, 1) := by decide +kernel
theorem dX9_answers_186 : decode cX9_answers 186 = .ok (.iastore, 1) := by decide +kernel
theorem dX9_answers_187 : decode cX9_answers 187 = .ok (.iinc 7 1, 3) := by decide +kernel
theorem dX9_answers_190 : decode cX9_answers 190 = .ok (.goto (-41), 3) := by decide +kernel
theorem dX9_answers_193 : decode cX9_answers 193 = .ok (.aload_n 0, 1) := by decide +kernel
theorem dX9_answers_194 : decode cX9_answers 194 = .ok (.getfield 7, 3) := by decide +kernel
theorem dX9_answers_197 : decode cX9_answers 197 = .ok (.iload_n 2, 1) := by decide +kernel
theorem dX9_answers_198 : decode cX9_answers 198 = .ok (.bipush 14, 2) := by decide +kernel
theorem dX9_answers_200 : decode cX9_answers 200 = .ok (.iadd, 1) := by decide +kernel
theorem dX9_answers_201 : decode cX9_answers 201 = .ok (.dup2, 1) := by decide +kernel
theorem dX9_answers_202 : decode cX9_answers 202 = .ok (.iaload, 1) := by decide +kernel
theorem dX9_answers_203 : decode cX9_answers 203 = .ok (.iload 4, 2) := by decide +kernel
theorem dX9_answers_205 : decode cX9_answers 205 = .ok (.iadd, 1) := by decide +kernel
theorem dX9_answers_206 : decode cX9_answers 206 = .ok (.iastore, 1) := by decide +kernel
theorem dX9_answers_207 : decode cX9_answers 207 = .ok (.aload_n 0, 1) := by decide +kernel
theorem dX9_answers_208 : decode cX9_answers 208 = .ok (.iconst 1, 1) := by decide +kernel
theorem dX9_answers_209 : decode cX9_answers 209 = .ok (.putfield 285, 3) := by decide +kernel
theorem dX9_answers_212 : decode cX9_answers 212 = .ok (.goto (-212), 3) := by decide +kernel
theorem dX9_answers_215 : decode cX9_answers 215 = .ok (.aload_n 0, 1) := by decide +kernel
theorem dX9_answers_216 : decode cX9_answers 216 = .ok (.getfield 7, 3) := by decide +kernel
theorem dX9_answers_219 : decode cX9_answers 219 = .ok (.iload_n 2, 1) := by decide +kernel
theorem dX9_answers_220 : decode cX9_answers 220 = .ok (.bipush 14, 2) := by decide +kernel
theorem dX9_answers_222 : decode cX9_answers 222 = .ok (.iadd, 1) := by decide +kernel
theorem dX9_answers_223 : decode cX9_answers 223 = .ok (.iaload, 1) := by decide +kernel
theorem dX9_answers_224 : decode cX9_answers 224 = .ok (.aload_n 0, 1) := by decide +kernel
theorem dX9_answers_225 : decode cX9_answers 225 = .ok (.getfield 7, 3) := by decide +kernel
theorem dX9_answers_228 : decode cX9_answers 228 = .ok (.iload_n 2, 1) := by decide +kernel
theorem dX9_answers_229 : decode cX9_answers 229 = .ok (.iconst 3, 1) := by decide +kernel
theorem dX9_answers_230 : decode cX9_answers 230 = .ok (.iadd, 1) := by decide +kernel
theorem dX9_answers_231 : decode cX9_answers 231 = .ok (.iaload, 1) := by decide +kernel
theorem dX9_answers_232 : decode cX9_answers 232 = .ok (.if_icmp .ne 7, 3) := by decide +kernel
theorem dX9_answers_235 : decode cX9_answers 235 = .ok (.iconst 1, 1) := by decide +kernel
theorem dX9_answers_236 : decode cX9_answers 236 = .ok (.goto 4, 3) := by decide +kernel
theorem dX9_answers_239 : decode cX9_answers 239 = .ok (.iconst 0, 1) := by decide +kernel
theorem dX9_answers_240 : decode cX9_answers 240 = .ok (.ireturn, 1) := by decide +kernel
theorem dX9_stores_0 : decode cX9_stores 0 = .ok (.iload_n 1, 1) := by decide +kernel
theorem dX9_stores_1 : decode cX9_stores 1 = .ok (.aload_n 0, 1) := by decide +kernel
theorem dX9_stores_2 : decode cX9_stores 2 = .ok (.getfield 7, 3) := by decide +kernel
theorem dX9_stores_5 : decode cX9_stores 5 = .ok (.iload_n 2, 1) := by decide +kernel
theorem dX9_stores_6 : decode cX9_stores 6 = .ok (.iconst 1, 1) := by decide +kernel
theorem dX9_stores_7 : decode cX9_stores 7 = .ok (.iadd, 1) := by decide +kernel
theorem dX9_stores_8 : decode cX9_stores 8 = .ok (.iaload, 1) := by decide +kernel
theorem dX9_stores_9 : decode cX9_stores 9 = .ok (.invokestatic 252, 3) := by decide +kernel
theorem dX9_stores_12 : decode cX9_stores 12 = .ok (.istore_n 3, 1) := by decide +kernel
theorem dX9_stores_13 : decode cX9_stores 13 = .ok (.iconst 0, 1) := by decide +kernel
theorem dX9_stores_14 : decode cX9_stores 14 = .ok (.istore 4, 2) := by decide +kernel
theorem dX9_stores_16 : decode cX9_stores 16 = .ok (.iload 4, 2) := by decide +kernel
theorem dX9_stores_18 : decode cX9_stores 18 = .ok (.aload_n 0, 1) := by decide +kernel
theorem dX9_stores_19 : decode cX9_stores 19 = .ok (.getfield 7, 3) := by decide +kernel
theorem dX9_stores_22 : decode cX9_stores 22 = .ok (.iload_n 2, 1) := by decide +kernel
theorem dX9_stores_23 : decode cX9_stores 23 = .ok (.iconst 3, 1) := by decide +kernel
theorem dX9_stores_24 : decode cX9_stores 24 = .ok (.iadd, 1) := by decide +kernel
theorem dX9_stores_25 : decode cX9_stores 25 = .ok (.iaload, 1) := by decide +kernel
theorem dX9_stores_26 : decode cX9_stores 26 = .ok (.if_icmp .ge 67, 3) := by decide +kernel
theorem dX9_stores_29 : decode cX9_stores 29 = .ok (.aload_n 0, 1) := by decide +kernel
theorem dX9_stores_30 : decode cX9_stores 30 = .ok (.getfield 7, 3) := by decide +kernel
theorem dX9_stores_33 : decode cX9_stores 33 = .ok (.iload_n 3, 1) := by decide +kernel
theorem dX9_stores_34 : decode cX9_stores 34 = .ok (.iconst 3, 1) := by decide +kernel
theorem dX9_stores_35 : decode cX9_stores 35 = .ok (.iadd, 1) := by decide +kernel
theorem dX9_stores_36 : decode cX9_stores 36 = .ok (.aload_n 0, 1) := by decide +kernel
theorem dX9_stores_37 : decode cX9_stores 37 = .ok (.getfield 7, 3) := by decide +kernel
theorem dX9_stores_40 : decode cX9_stores 40 = .ok (.iload_n 2, 1) := by decide +kernel
theorem dX9_stores_41 : decode cX9_stores 41 = .ok (.bipush 7, 2) := by decide +kernel
theorem dX9_stores_43 : decode cX9_stores 43 = .ok (.iadd, 1) := by decide +kernel
theorem dX9_stores_44 : decode cX9_stores 44 = .ok (.iaload, 1) := by decide +kernel
theorem dX9_stores_45 : decode cX9_stores 45 = .ok (.iadd, 1) := by decide +kernel
theorem dX9_stores_46 : decode cX9_stores 46 = .ok (.iload 4, 2) := by decide +kernel
theorem dX9_stores_48 : decode cX9_stores 48 = .ok (.iadd, 1) := by decide +kernel
theorem dX9_stores_49 : decode cX9_stores 49 = .ok (.aload_n 0, 1) := by decide +kernel
theorem dX9_stores_50 : decode cX9_stores 50 = .ok (.getfield 7, 3) := by decide +kernel
theorem dX9_stores_53 : decode cX9_stores 53 = .ok (.iload_n 2, 1) := by decide +kernel
theorem dX9_stores_54 : decode cX9_stores 54 = .ok (.bipush 8, 2) := by decide +kernel
theorem dX9_stores_56 : decode cX9_stores 56 = .ok (.iadd, 1) := by decide +kernel
theorem dX9_stores_57 : decode cX9_stores 57 = .ok (.iload 4, 2) := by decide +kernel
theorem dX9_stores_59 : decode cX9_stores 59 = .ok (.iadd, 1) := by decide +kernel
theorem dX9_stores_60 : decode cX9_stores 60 = .ok (.iaload, 1) := by decide +kernel
theorem dX9_stores_61 : decode cX9_stores 61 = .ok (.iastore, 1) := by decide +kernel
theorem dX9_stores_62 : decode cX9_stores 62 = .ok (.aload_n 0, 1) := by decide +kernel
theorem dX9_stores_63 : decode cX9_stores 63 = .ok (.getfield 7, 3) := by decide +kernel
theorem dX9_stores_66 : decode cX9_stores 66 = .ok (.iload_n 3, 1) := by decide +kernel
theorem dX9_stores_67 : decode cX9_stores 67 = .ok (.iconst 2, 1) := by decide +kernel
theorem dX9_stores_68 : decode cX9_stores 68 = .ok (.iadd, 1) := by decide +kernel
theorem dX9_stores_69 : decode cX9_stores 69 = .ok (.dup2, 1) := by decide +kernel
theorem dX9_stores_70 : decode cX9_stores 70 = .ok (.iaload, 1) := by decide +kernel
theorem dX9_stores_71 : decode cX9_stores 71 = .ok (.iconst 1, 1) := by decide +kernel
theorem dX9_stores_72 : decode cX9_stores 72 = .ok (.aload_n 0, 1) := by decide +kernel
theorem dX9_stores_73 : decode cX9_stores 73 = .ok (.getfield 7, 3) := by decide +kernel
theorem dX9_stores_76 : decode cX9_stores 76 = .ok (.iload_n 2, 1) := by decide +kernel
theorem dX9_stores_77 : decode cX9_stores 77 = .ok (.bipush 7, 2) := by decide +kernel
theorem dX9_stores_79 : decode cX9_stores 79 = .ok (.iadd, 1) := by decide +kernel
theorem dX9_stores_80 : decode cX9_stores 80 = .ok (.iaload, 1) := by decide +kernel
theorem dX9_stores_81 : decode cX9_stores 81 = .ok (.iload 4, 2) := by decide +kernel
theorem dX9_stores_83 : decode cX9_stores 83 = .ok (.iadd, 1) := by decide +kernel
theorem dX9_stores_84 : decode cX9_stores 84 = .ok (.ishl, 1) := by decide +kernel
theorem dX9_stores_85 : decode cX9_stores 85 = .ok (.ior, 1) := by decide +kernel
theorem dX9_stores_86 : decode cX9_stores 86 = .ok (.iastore, 1) := by decide +kernel
theorem dX9_stores_87 : decode cX9_stores 87 = .ok (.iinc 4 1, 3) := by decide +kernel
theorem dX9_stores_90 : decode cX9_stores 90 = .ok (.goto (-74), 3) := by decide +kernel
theorem dX9_stores_93 : decode cX9_stores 93 = .ok (.aload_n 0, 1) := by decide +kernel
theorem dX9_stores_94 : decode cX9_stores 94 = .ok (.getfield 7, 3) := by decide +kernel
theorem dX9_stores_97 : decode cX9_stores 97 = .ok (.iload_n 3, 1) := by decide +kernel
theorem dX9_stores_98 : decode cX9_stores 98 = .ok (.iconst 2, 1) := by decide +kernel
theorem dX9_stores_99 : decode cX9_stores 99 = .ok (.iadd, 1) := by decide +kernel
theorem dX9_stores_100 : decode cX9_stores 100 = .ok (.iaload, 1) := by decide +kernel
theorem dX9_stores_101 : decode cX9_stores 101 = .ok (.invokestatic 255, 3) := by decide +kernel
theorem dX9_stores_104 : decode cX9_stores 104 = .ok (.aload_n 0, 1) := by decide +kernel
theorem dX9_stores_105 : decode cX9_stores 105 = .ok (.getfield 7, 3) := by decide +kernel
theorem dX9_stores_108 : decode cX9_stores 108 = .ok (.iload_n 3, 1) := by decide +kernel
theorem dX9_stores_109 : decode cX9_stores 109 = .ok (.iconst 1, 1) := by decide +kernel
theorem dX9_stores_110 : decode cX9_stores 110 = .ok (.iadd, 1) := by decide +kernel
theorem dX9_stores_111 : decode cX9_stores 111 = .ok (.iaload, 1) := by decide +kernel
theorem dX9_stores_112 : decode cX9_stores 112 = .ok (.if_icmp .ne 12, 3) := by decide +kernel
theorem dX9_stores_115 : decode cX9_stores 115 = .ok (.aload_n 0, 1) := by decide +kernel
theorem dX9_stores_116 : decode cX9_stores 116 = .ok (.getfield 7, 3) := by decide +kernel
theorem dX9_stores_119 : decode cX9_stores 119 = .ok (.iload_n 3, 1) := by decide +kernel
theorem dX9_stores_120 : decode cX9_stores 120 = .ok (.iconst 0, 1) := by decide +kernel
theorem dX9_stores_121 : decode cX9_stores 121 = .ok (.iadd, 1) := by decide +kernel
theorem dX9_stores_122 : decode cX9_stores 122 = .ok (.iconst 2, 1) := by decide +kernel
theorem dX9_stores_123 : decode cX9_stores 123 = .ok (.iastore, 1) := by decide +kernel
theorem dX9_stores_124 : decode cX9_stores 124 = .ok (.return_, 1) := by decide +kernel
theorem dX9_leaves_0 : decode cX9_leaves 0 = .ok (.iload_n 1, 1) := by decide +kernel
theorem dX9_leaves_1 : decode cX9_leaves 1 = .ok (.bipush 15, 2) := by decide +kernel
theorem dX9_leaves_3 : decode cX9_leaves 3 = .ok (.iload_n 2, 1) := by decide +kernel
theorem dX9_leaves_4 : decode cX9_leaves 4 = .ok (.imul, 1) := by decide +kernel
theorem dX9_leaves_5 : decode cX9_leaves 5 = .ok (.iadd, 1) := by decide +kernel
theorem dX9_leaves_6 : decode cX9_leaves 6 = .ok (.istore 4, 2) := by decide +kernel
theorem dX9_leaves_8 : decode cX9_leaves 8 = .ok (.iload 4, 2) := by decide +kernel
theorem dX9_leaves_10 : decode cX9_leaves 10 = .ok (.iload_n 1, 1) := by decide +kernel
theorem dX9_leaves_11 : decode cX9_leaves 11 = .ok (.bipush 15, 2) := by decide +kernel
theorem dX9_leaves_13 : decode cX9_leaves 13 = .ok (.iload_n 3, 1) := by decide +kernel
theorem dX9_leaves_14 : decode cX9_leaves 14 = .ok (.iconst 1, 1) := by decide +kernel
theorem dX9_leaves_15 : decode cX9_leaves 15 = .ok (.isub, 1) := by decide +kernel
theorem dX9_leaves_16 : decode cX9_leaves 16 = .ok (.imul, 1) := by decide +kernel
theorem dX9_leaves_17 : decode cX9_leaves 17 = .ok (.iadd, 1) := by decide +kernel
theorem dX9_leaves_18 : decode cX9_leaves 18 = .ok (.if_icmp .ge 26, 3) := by decide +kernel
theorem dX9_leaves_21 : decode cX9_leaves 21 = .ok (.aload_n 0, 1) := by decide +kernel
theorem dX9_leaves_22 : decode cX9_leaves 22 = .ok (.getfield 7, 3) := by decide +kernel
theorem dX9_leaves_25 : decode cX9_leaves 25 = .ok (.iload 4, 2) := by decide +kernel
theorem dX9_leaves_27 : decode cX9_leaves 27 = .ok (.aload_n 0, 1) := by decide +kernel
theorem dX9_leaves_28 : decode cX9_leaves 28 = .ok (.getfield 7, 3) := by decide +kernel
theorem dX9_leaves_31 : decode cX9_leaves 31 = .ok (.iload 4, 2) := by decide +kernel
theorem dX9_leaves_33 : decode cX9_leaves 33 = .ok (.bipush 15, 2) := by decide +kernel
theorem dX9_leaves_35 : decode cX9_leaves 35 = .ok (.iadd, 1) := by decide +kernel
theorem dX9_leaves_36 : decode cX9_leaves 36 = .ok (.iaload, 1) := by decide +kernel
theorem dX9_leaves_37 : decode cX9_leaves 37 = .ok (.iastore, 1) := by decide +kernel
theorem dX9_leaves_38 : decode cX9_leaves 38 = .ok (.iinc 4 1, 3) := by decide +kernel
theorem dX9_leaves_41 : decode cX9_leaves 41 = .ok (.goto (-33), 3) := by decide +kernel
theorem dX9_leaves_44 : decode cX9_leaves 44 = .ok (.return_, 1) := by decide +kernel
theorem dX9_targets_0 : decode cX9_targets 0 = .ok (.iconst 0, 1) := by decide +kernel
theorem dX9_targets_1 : decode cX9_targets 1 = .ok (.istore_n 2, 1) := by decide +kernel
theorem dX9_targets_2 : decode cX9_targets 2 = .ok (.iload_n 2, 1) := by decide +kernel
theorem dX9_targets_3 : decode cX9_targets 3 = .ok (.aload_n 0, 1) := by decide +kernel
theorem dX9_targets_4 : decode cX9_targets 4 = .ok (.getfield 7, 3) := by decide +kernel
theorem dX9_targets_7 : decode cX9_targets 7 = .ok (.iconst 3, 1) := by decide +kernel
theorem dX9_targets_8 : decode cX9_targets 8 = .ok (.iload_n 1, 1) := by decide +kernel
theorem dX9_targets_9 : decode cX9_targets 9 = .ok (.iadd, 1) := by decide +kernel
theorem dX9_targets_10 : decode cX9_targets 10 = .ok (.iaload, 1) := by decide +kernel
theorem dX9_targets_11 : decode cX9_targets 11 = .ok (.if_icmp .ge 90, 3) := by decide +kernel
theorem dX9_targets_14 : decode cX9_targets 14 = .ok (.iload_n 1, 1) := by decide +kernel
theorem dX9_targets_15 : decode cX9_targets 15 = .ok (.iload_n 2, 1) := by decide +kernel
theorem dX9_targets_16 : decode cX9_targets 16 = .ok (.invokestatic 240, 3) := by decide +kernel
theorem dX9_targets_19 : decode cX9_targets 19 = .ok (.istore_n 3, 1) := by decide +kernel
theorem dX9_targets_20 : decode cX9_targets 20 = .ok (.aload_n 0, 1) := by decide +kernel
theorem dX9_targets_21 : decode cX9_targets 21 = .ok (.getfield 7, 3) := by decide +kernel
theorem dX9_targets_24 : decode cX9_targets 24 = .ok (.iconst 0, 1) := by decide +kernel
theorem dX9_targets_25 : decode cX9_targets 25 = .ok (.iaload, 1) := by decide +kernel
theorem dX9_targets_26 : decode cX9_targets 26 = .ok (.aload_n 0, 1) := by decide +kernel
theorem dX9_targets_27 : decode cX9_targets 27 = .ok (.getfield 7, 3) := by decide +kernel
theorem dX9_targets_30 : decode cX9_targets 30 = .ok (.iload_n 3, 1) := by decide +kernel
theorem dX9_targets_31 : decode cX9_targets 31 = .ok (.bipush 12, 2) := by decide +kernel
theorem dX9_targets_33 : decode cX9_targets 33 = .ok (.iadd, 1) := by decide +kernel
theorem dX9_targets_34 : decode cX9_targets 34 = .ok (.iaload, 1) := by decide +kernel
theorem dX9_targets_35 : decode cX9_targets 35 = .ok (.aload_n 0, 1) := by decide +kernel
theorem dX9_targets_36 : decode cX9_targets 36 = .ok (.getfield 7, 3) := by decide +kernel
theorem dX9_targets_39 : decode cX9_targets 39 = .ok (.iload_n 3, 1) := by decide +kernel
theorem dX9_targets_40 : decode cX9_targets 40 = .ok (.bipush 13, 2) := by decide +kernel
theorem dX9_targets_42 : decode cX9_targets 42 = .ok (.iadd, 1) := by decide +kernel
theorem dX9_targets_43 : decode cX9_targets 43 = .ok (.iaload, 1) := by decide +kernel
theorem dX9_targets_44 : decode cX9_targets 44 = .ok (.iadd, 1) := by decide +kernel
theorem dX9_targets_45 : decode cX9_targets 45 = .ok (.if_icmp .le 50, 3) := by decide +kernel
theorem dX9_targets_48 : decode cX9_targets 48 = .ok (.aload_n 0, 1) := by decide +kernel
theorem dX9_targets_49 : decode cX9_targets 49 = .ok (.iload_n 1, 1) := by decide +kernel
theorem dX9_targets_50 : decode cX9_targets 50 = .ok (.iload_n 3, 1) := by decide +kernel
theorem dX9_targets_51 : decode cX9_targets 51 = .ok (.invokevirtual 289, 3) := by decide +kernel
theorem dX9_targets_54 : decode cX9_targets 54 = .ok (.ifCond .eq 41, 3) := by decide +kernel
theorem dX9_targets_57 : decode cX9_targets 57 = .ok (.aload_n 0, 1) := by decide +kernel
theorem dX9_targets_58 : decode cX9_targets 58 = .ok (.iload_n 1, 1) := by decide +kernel
theorem dX9_targets_59 : decode cX9_targets 59 = .ok (.iconst 0, 1) := by decide +kernel
theorem dX9_targets_60 : decode cX9_targets 60 = .ok (.invokestatic 240, 3) := by decide +kernel
theorem dX9_targets_63 : decode cX9_targets 63 = .ok (.iload_n 2, 1) := by decide +kernel
theorem dX9_targets_64 : decode cX9_targets 64 = .ok (.aload_n 0, 1) := by decide +kernel
theorem dX9_targets_65 : decode cX9_targets 65 = .ok (.getfield 7, 3) := by decide +kernel
theorem dX9_targets_68 : decode cX9_targets 68 = .ok (.iconst 3, 1) := by decide +kernel
theorem dX9_targets_69 : decode cX9_targets 69 = .ok (.iload_n 1, 1) := by decide +kernel
theorem dX9_targets_70 : decode cX9_targets 70 = .ok (.iadd, 1) := by decide +kernel
theorem dX9_targets_71 : decode cX9_targets 71 = .ok (.iaload, 1) := by decide +kernel
theorem dX9_targets_72 : decode cX9_targets 72 = .ok (.invokevirtual 292, 3) := by decide +kernel
theorem dX9_targets_75 : decode cX9_targets 75 = .ok (.aload_n 0, 1) := by decide +kernel
theorem dX9_targets_76 : decode cX9_targets 76 = .ok (.getfield 7, 3) := by decide +kernel
theorem dX9_targets_79 : decode cX9_targets 79 = .ok (.iconst 3, 1) := by decide +kernel
theorem dX9_targets_80 : decode cX9_targets 80 = .ok (.iload_n 1, 1) := by decide +kernel
theorem dX9_targets_81 : decode cX9_targets 81 = .ok (.iadd, 1) := by decide +kernel
theorem dX9_targets_82 : decode cX9_targets 82 = .ok (.dup2, 1) := by decide +kernel
theorem dX9_targets_83 : decode cX9_targets 83 = .ok (.iaload, 1) := by decide +kernel
theorem dX9_targets_84 : decode cX9_targets 84 = .ok (.iconst 1, 1) := by decide +kernel
theorem dX9_targets_85 : decode cX9_targets 85 = .ok (.isub, 1) := by decide +kernel
theorem dX9_targets_86 : decode cX9_targets 86 = .ok (.iastore, 1) := by decide +kernel
theorem dX9_targets_87 : decode cX9_targets 87 = .ok (.aload_n 0, 1) := by decide +kernel
theorem dX9_targets_88 : decode cX9_targets 88 = .ok (.iconst 1, 1) := by decide +kernel
theorem dX9_targets_89 : decode cX9_targets 89 = .ok (.putfield 285, 3) := by decide +kernel
theorem dX9_targets_92 : decode cX9_targets 92 = .ok (.goto 6, 3) := by decide +kernel
theorem dX9_targets_95 : decode cX9_targets 95 = .ok (.iinc 2 1, 3) := by decide +kernel
theorem dX9_targets_98 : decode cX9_targets 98 = .ok (.goto (-96), 3) := by decide +kernel
theorem dX9_targets_101 : decode cX9_targets 101 = .ok (.return_, 1) := by decide +kernel
theorem dX9_forwards_0 : decode cX9_forwards 0 = .ok (.aload_n 0, 1) := by decide +kernel
theorem dX9_forwards_1 : decode cX9_forwards 1 = .ok (.iload_n 1, 1) := by decide +kernel
theorem dX9_forwards_2 : decode cX9_forwards 2 = .ok (.invokevirtual 246, 3) := by decide +kernel
theorem dX9_forwards_5 : decode cX9_forwards 5 = .ok (.istore_n 2, 1) := by decide +kernel
theorem dX9_forwards_6 : decode cX9_forwards 6 = .ok (.iload_n 2, 1) := by decide +kernel
theorem dX9_forwards_7 : decode cX9_forwards 7 = .ok (.iconst (-1), 1) := by decide +kernel
theorem dX9_forwards_8 : decode cX9_forwards 8 = .ok (.if_icmp .ne 4, 3) := by decide +kernel
theorem dX9_forwards_11 : decode cX9_forwards 11 = .ok (.return_, 1) := by decide +kernel
theorem dX9_forwards_12 : decode cX9_forwards 12 = .ok (.iconst 1, 1) := by decide +kernel
theorem dX9_forwards_13 : decode cX9_forwards 13 = .ok (.iload_n 1, 1) := by decide +kernel
theorem dX9_forwards_14 : decode cX9_forwards 14 = .ok (.isub, 1) := by decide +kernel
theorem dX9_forwards_15 : decode cX9_forwards 15 = .ok (.istore_n 3, 1) := by decide +kernel
theorem dX9_forwards_16 : decode cX9_forwards 16 = .ok (.iload_n 1, 1) := by decide +kernel
theorem dX9_forwards_17 : decode cX9_forwards 17 = .ok (.iload_n 2, 1) := by decide +kernel
theorem dX9_forwards_18 : decode cX9_forwards 18 = .ok (.invokestatic 233, 3) := by decide +kernel
theorem dX9_forwards_21 : decode cX9_forwards 21 = .ok (.istore 4, 2) := by decide +kernel
theorem dX9_forwards_23 : decode cX9_forwards 23 = .ok (.iload_n 3, 1) := by decide +kernel
theorem dX9_forwards_24 : decode cX9_forwards 24 = .ok (.aload_n 0, 1) := by decide +kernel
theorem dX9_forwards_25 : decode cX9_forwards 25 = .ok (.getfield 7, 3) := by decide +kernel
theorem dX9_forwards_28 : decode cX9_forwards 28 = .ok (.iconst 3, 1) := by decide +kernel
theorem dX9_forwards_29 : decode cX9_forwards 29 = .ok (.iload_n 3, 1) := by decide +kernel
theorem dX9_forwards_30 : decode cX9_forwards 30 = .ok (.iadd, 1) := by decide +kernel
theorem dX9_forwards_31 : decode cX9_forwards 31 = .ok (.iaload, 1) := by decide +kernel
theorem dX9_forwards_32 : decode cX9_forwards 32 = .ok (.invokestatic 240, 3) := by decide +kernel
theorem dX9_forwards_35 : decode cX9_forwards 35 = .ok (.istore 5, 2) := by decide +kernel
theorem dX9_forwards_37 : decode cX9_forwards 37 = .ok (.iconst 0, 1) := by decide +kernel
theorem dX9_forwards_38 : decode cX9_forwards 38 = .ok (.istore 6, 2) := by decide +kernel
theorem dX9_forwards_40 : decode cX9_forwards 40 = .ok (.iload 6, 2) := by decide +kernel
theorem dX9_forwards_42 : decode cX9_forwards 42 = .ok (.bipush 15, 2) := by decide +kernel
theorem dX9_forwards_44 : decode cX9_forwards 44 = .ok (.if_icmp .ge 29, 3) := by decide +kernel
theorem dX9_forwards_47 : decode cX9_forwards 47 = .ok (.aload_n 0, 1) := by decide +kernel
theorem dX9_forwards_48 : decode cX9_forwards 48 = .ok (.getfield 7, 3) := by decide +kernel
theorem dX9_forwards_51 : decode cX9_forwards 51 = .ok (.iload 5, 2) := by decide +kernel
theorem dX9_forwards_53 : decode cX9_forwards 53 = .ok (.iload 6, 2) := by decide +kernel
theorem dX9_forwards_55 : decode cX9_forwards 55 = .ok (.iadd, 1) := by decide +kernel
theorem dX9_forwards_56 : decode cX9_forwards 56 = .ok (.aload_n 0, 1) := by decide +kernel
theorem dX9_forwards_57 : decode cX9_forwards 57 = .ok (.getfield 7, 3) := by decide +kernel
theorem dX9_forwards_60 : decode cX9_forwards 60 = .ok (.iload 4, 2) := by decide +kernel
theorem dX9_forwards_62 : decode cX9_forwards 62 = .ok (.iload 6, 2) := by decide +kernel
theorem dX9_forwards_64 : decode cX9_forwards 64 = .ok (.iadd, 1) := by decide +kernel
theorem dX9_forwards_65 : decode cX9_forwards 65 = .ok (.iaload, 1) := by decide +kernel
theorem dX9_forwards_66 : decode cX9_forwards 66 = .ok (.iastore, 1) := by decide +kernel
theorem dX9_forwards_67 : decode cX9_forwards 67 = .ok (.iinc 6 1, 3) := by decide +kernel
theorem dX9_forwards_70 : decode cX9_forwards 70 = .ok (.goto (-30), 3) := by decide +kernel
theorem dX9_forwards_73 : decode cX9_forwards 73 = .ok (.aload_n 0, 1) := by decide +kernel
theorem dX9_forwards_74 : decode cX9_forwards 74 = .ok (.getfield 7, 3) := by decide +kernel
theorem dX9_forwards_77 : decode cX9_forwards 77 = .ok (.iload 5, 2) := by decide +kernel
theorem dX9_forwards_79 : decode cX9_forwards 79 = .ok (.bipush 12, 2) := by decide +kernel
theorem dX9_forwards_81 : decode cX9_forwards 81 = .ok (.iadd, 1) := by decide +kernel
theorem dX9_forwards_82 : decode cX9_forwards 82 = .ok (.aload_n 0, 1) := by decide +kernel
theorem dX9_forwards_83 : decode cX9_forwards 83 = .ok (.getfield 7, 3) := by decide +kernel
theorem dX9_forwards_86 : decode cX9_forwards 86 = .ok (.iconst 0, 1) := by decide +kernel
theorem dX9_forwards_87 : decode cX9_forwards 87 = .ok (.iaload, 1) := by decide +kernel
theorem dX9_forwards_88 : decode cX9_forwards 88 = .ok (.iastore, 1) := by decide +kernel
theorem dX9_forwards_89 : decode cX9_forwards 89 = .ok (.aload_n 0, 1) := by decide +kernel
theorem dX9_forwards_90 : decode cX9_forwards 90 = .ok (.getfield 7, 3) := by decide +kernel
theorem dX9_forwards_93 : decode cX9_forwards 93 = .ok (.iload 5, 2) := by decide +kernel
theorem dX9_forwards_95 : decode cX9_forwards 95 = .ok (.bipush 13, 2) := by decide +kernel
theorem dX9_forwards_97 : decode cX9_forwards 97 = .ok (.iadd, 1) := by decide +kernel
theorem dX9_forwards_98 : decode cX9_forwards 98 = .ok (.aload_n 0, 1) := by decide +kernel
theorem dX9_forwards_99 : decode cX9_forwards 99 = .ok (.iload_n 3, 1) := by decide +kernel
theorem dX9_forwards_100 : decode cX9_forwards 100 = .ok (.iload 5, 2) := by decide +kernel
theorem dX9_forwards_102 : decode cX9_forwards 102 = .ok (.invokevirtual 296, 3) := by decide +kernel
theorem dX9_forwards_105 : decode cX9_forwards 105 = .ok (.iastore, 1) := by decide +kernel
theorem dX9_forwards_106 : decode cX9_forwards 106 = .ok (.aload_n 0, 1) := by decide +kernel
theorem dX9_forwards_107 : decode cX9_forwards 107 = .ok (.getfield 7, 3) := by decide +kernel
theorem dX9_forwards_110 : decode cX9_forwards 110 = .ok (.iconst 3, 1) := by decide +kernel
theorem dX9_forwards_111 : decode cX9_forwards 111 = .ok (.iload_n 3, 1) := by decide +kernel
theorem dX9_forwards_112 : decode cX9_forwards 112 = .ok (.iadd, 1) := by decide +kernel
theorem dX9_forwards_113 : decode cX9_forwards 113 = .ok (.dup2, 1) := by decide +kernel
theorem dX9_forwards_114 : decode cX9_forwards 114 = .ok (.iaload, 1) := by decide +kernel
theorem dX9_forwards_115 : decode cX9_forwards 115 = .ok (.iconst 1, 1) := by decide +kernel
theorem dX9_forwards_116 : decode cX9_forwards 116 = .ok (.iadd, 1) := by decide +kernel
theorem dX9_forwards_117 : decode cX9_forwards 117 = .ok (.iastore, 1) := by decide +kernel
theorem dX9_forwards_118 : decode cX9_forwards 118 = .ok (.aload_n 0, 1) := by decide +kernel
theorem dX9_forwards_119 : decode cX9_forwards 119 = .ok (.getfield 7, 3) := by decide +kernel
theorem dX9_forwards_122 : decode cX9_forwards 122 = .ok (.iconst 5, 1) := by decide +kernel
theorem dX9_forwards_123 : decode cX9_forwards 123 = .ok (.iload_n 1, 1) := by decide +kernel
theorem dX9_forwards_124 : decode cX9_forwards 124 = .ok (.iadd, 1) := by decide +kernel
theorem dX9_forwards_125 : decode cX9_forwards 125 = .ok (.dup2, 1) := by decide +kernel
theorem dX9_forwards_126 : decode cX9_forwards 126 = .ok (.iaload, 1) := by decide +kernel
theorem dX9_forwards_127 : decode cX9_forwards 127 = .ok (.iconst 1, 1) := by decide +kernel
theorem dX9_forwards_128 : decode cX9_forwards 128 = .ok (.iadd, 1) := by decide +kernel
theorem dX9_forwards_129 : decode cX9_forwards 129 = .ok (.iastore, 1) := by decide +kernel
theorem dX9_forwards_130 : decode cX9_forwards 130 = .ok (.aload_n 0, 1) := by decide +kernel
theorem dX9_forwards_131 : decode cX9_forwards 131 = .ok (.getfield 7, 3) := by decide +kernel
theorem dX9_forwards_134 : decode cX9_forwards 134 = .ok (.bipush 7, 2) := by decide +kernel
theorem dX9_forwards_136 : decode cX9_forwards 136 = .ok (.iload_n 1, 1) := by decide +kernel
theorem dX9_forwards_137 : decode cX9_forwards 137 = .ok (.iadd, 1) := by decide +kernel
theorem dX9_forwards_138 : decode cX9_forwards 138 = .ok (.dup2, 1) := by decide +kernel
theorem dX9_forwards_139 : decode cX9_forwards 139 = .ok (.iaload, 1) := by decide +kernel
theorem dX9_forwards_140 : decode cX9_forwards 140 = .ok (.iload_n 2, 1) := by decide +kernel
theorem dX9_forwards_141 : decode cX9_forwards 141 = .ok (.iadd, 1) := by decide +kernel
theorem dX9_forwards_142 : decode cX9_forwards 142 = .ok (.iastore, 1) := by decide +kernel
theorem dX9_forwards_143 : decode cX9_forwards 143 = .ok (.aload_n 0, 1) := by decide +kernel
theorem dX9_forwards_144 : decode cX9_forwards 144 = .ok (.getfield 7, 3) := by decide +kernel
theorem dX9_forwards_147 : decode cX9_forwards 147 = .ok (.bipush 9, 2) := by decide +kernel
theorem dX9_forwards_149 : decode cX9_forwards 149 = .ok (.iload_n 1, 1) := by decide +kernel
theorem dX9_forwards_150 : decode cX9_forwards 150 = .ok (.iadd, 1) := by decide +kernel
theorem dX9_forwards_151 : decode cX9_forwards 151 = .ok (.dup2, 1) := by decide +kernel
theorem dX9_forwards_152 : decode cX9_forwards 152 = .ok (.iaload, 1) := by decide +kernel
theorem dX9_forwards_153 : decode cX9_forwards 153 = .ok (.aload_n 0, 1) := by decide +kernel
theorem dX9_forwards_154 : decode cX9_forwards 154 = .ok (.getfield 7, 3) := by decide +kernel
theorem dX9_forwards_157 : decode cX9_forwards 157 = .ok (.iconst 0, 1) := by decide +kernel
theorem dX9_forwards_158 : decode cX9_forwards 158 = .ok (.iaload, 1) := by decide +kernel
theorem dX9_forwards_159 : decode cX9_forwards 159 = .ok (.aload_n 0, 1) := by decide +kernel
theorem dX9_forwards_160 : decode cX9_forwards 160 = .ok (.getfield 7, 3) := by decide +kernel
theorem dX9_forwards_163 : decode cX9_forwards 163 = .ok (.iload 4, 2) := by decide +kernel
theorem dX9_forwards_165 : decode cX9_forwards 165 = .ok (.bipush 6, 2) := by decide +kernel
theorem dX9_forwards_167 : decode cX9_forwards 167 = .ok (.iadd, 1) := by decide +kernel
theorem dX9_forwards_168 : decode cX9_forwards 168 = .ok (.iaload, 1) := by decide +kernel
theorem dX9_forwards_169 : decode cX9_forwards 169 = .ok (.isub, 1) := by decide +kernel
theorem dX9_forwards_170 : decode cX9_forwards 170 = .ok (.iadd, 1) := by decide +kernel
theorem dX9_forwards_171 : decode cX9_forwards 171 = .ok (.iastore, 1) := by decide +kernel
theorem dX9_forwards_172 : decode cX9_forwards 172 = .ok (.aload_n 0, 1) := by decide +kernel
theorem dX9_forwards_173 : decode cX9_forwards 173 = .ok (.iload_n 1, 1) := by decide +kernel
theorem dX9_forwards_174 : decode cX9_forwards 174 = .ok (.iconst 0, 1) := by decide +kernel
theorem dX9_forwards_175 : decode cX9_forwards 175 = .ok (.invokestatic 233, 3) := by decide +kernel
theorem dX9_forwards_178 : decode cX9_forwards 178 = .ok (.iload_n 2, 1) := by decide +kernel
theorem dX9_forwards_179 : decode cX9_forwards 179 = .ok (.aload_n 0, 1) := by decide +kernel
theorem dX9_forwards_180 : decode cX9_forwards 180 = .ok (.getfield 7, 3) := by decide +kernel
theorem dX9_forwards_183 : decode cX9_forwards 183 = .ok (.iconst 1, 1) := by decide +kernel
theorem dX9_forwards_184 : decode cX9_forwards 184 = .ok (.iload_n 1, 1) := by decide +kernel
theorem dX9_forwards_185 : decode cX9_forwards 185 = .ok (.iadd, 1) := by decide +kernel
theorem dX9_forwards_186 : decode cX9_forwards 186 = .ok (.iaload, 1) := by decide +kernel
theorem dX9_forwards_187 : decode cX9_forwards 187 = .ok (.invokevirtual 292, 3) := by decide +kernel
theorem dX9_forwards_190 : decode cX9_forwards 190 = .ok (.aload_n 0, 1) := by decide +kernel
theorem dX9_forwards_191 : decode cX9_forwards 191 = .ok (.getfield 7, 3) := by decide +kernel
theorem dX9_forwards_194 : decode cX9_forwards 194 = .ok (.iconst 1, 1) := by decide +kernel
theorem dX9_forwards_195 : decode cX9_forwards 195 = .ok (.iload_n 1, 1) := by decide +kernel
theorem dX9_forwards_196 : decode cX9_forwards 196 = .ok (.iadd, 1) := by decide +kernel
theorem dX9_forwards_197 : decode cX9_forwards 197 = .ok (.dup2, 1) := by decide +kernel
theorem dX9_forwards_198 : decode cX9_forwards 198 = .ok (.iaload, 1) := by decide +kernel
theorem dX9_forwards_199 : decode cX9_forwards 199 = .ok (.iconst 1, 1) := by decide +kernel
theorem dX9_forwards_200 : decode cX9_forwards 200 = .ok (.isub, 1) := by decide +kernel
theorem dX9_forwards_201 : decode cX9_forwards 201 = .ok (.iastore, 1) := by decide +kernel
theorem dX9_forwards_202 : decode cX9_forwards 202 = .ok (.aload_n 0, 1) := by decide +kernel
theorem dX9_forwards_203 : decode cX9_forwards 203 = .ok (.iconst 1, 1) := by decide +kernel
theorem dX9_forwards_204 : decode cX9_forwards 204 = .ok (.putfield 285, 3) := by decide +kernel
theorem dX9_forwards_207 : decode cX9_forwards 207 = .ok (.return_, 1) := by decide +kernel
theorem dX9_ticks_0 : decode cX9_ticks 0 = .ok (.aload_n 0, 1) := by decide +kernel
theorem dX9_ticks_1 : decode cX9_ticks 1 = .ok (.getfield 7, 3) := by decide +kernel
theorem dX9_ticks_4 : decode cX9_ticks 4 = .ok (.iconst 0, 1) := by decide +kernel
theorem dX9_ticks_5 : decode cX9_ticks 5 = .ok (.dup2, 1) := by decide +kernel
theorem dX9_ticks_6 : decode cX9_ticks 6 = .ok (.iaload, 1) := by decide +kernel
theorem dX9_ticks_7 : decode cX9_ticks 7 = .ok (.iconst 1, 1) := by decide +kernel
theorem dX9_ticks_8 : decode cX9_ticks 8 = .ok (.iadd, 1) := by decide +kernel
theorem dX9_ticks_9 : decode cX9_ticks 9 = .ok (.iastore, 1) := by decide +kernel
theorem dX9_ticks_10 : decode cX9_ticks 10 = .ok (.aload_n 0, 1) := by decide +kernel
theorem dX9_ticks_11 : decode cX9_ticks 11 = .ok (.iconst 0, 1) := by decide +kernel
theorem dX9_ticks_12 : decode cX9_ticks 12 = .ok (.putfield 285, 3) := by decide +kernel
theorem dX9_ticks_15 : decode cX9_ticks 15 = .ok (.aload_n 0, 1) := by decide +kernel
theorem dX9_ticks_16 : decode cX9_ticks 16 = .ok (.iconst 0, 1) := by decide +kernel
theorem dX9_ticks_17 : decode cX9_ticks 17 = .ok (.invokevirtual 299, 3) := by decide +kernel
theorem dX9_ticks_20 : decode cX9_ticks 20 = .ok (.aload_n 0, 1) := by decide +kernel
theorem dX9_ticks_21 : decode cX9_ticks 21 = .ok (.iconst 1, 1) := by decide +kernel
theorem dX9_ticks_22 : decode cX9_ticks 22 = .ok (.invokevirtual 299, 3) := by decide +kernel
theorem dX9_ticks_25 : decode cX9_ticks 25 = .ok (.aload_n 0, 1) := by decide +kernel
theorem dX9_ticks_26 : decode cX9_ticks 26 = .ok (.iconst 0, 1) := by decide +kernel
theorem dX9_ticks_27 : decode cX9_ticks 27 = .ok (.invokevirtual 302, 3) := by decide +kernel
theorem dX9_ticks_30 : decode cX9_ticks 30 = .ok (.aload_n 0, 1) := by decide +kernel
theorem dX9_ticks_31 : decode cX9_ticks 31 = .ok (.iconst 1, 1) := by decide +kernel
theorem dX9_ticks_32 : decode cX9_ticks 32 = .ok (.invokevirtual 302, 3) := by decide +kernel
theorem dX9_ticks_35 : decode cX9_ticks 35 = .ok (.return_, 1) := by decide +kernel
theorem dX9_restsAfter_0 : decode cX9_restsAfter 0 = .ok (.aload_n 0, 1) := by decide +kernel
theorem dX9_restsAfter_1 : decode cX9_restsAfter 1 = .ok (.getfield 7, 3) := by decide +kernel
theorem dX9_restsAfter_4 : decode cX9_restsAfter 4 = .ok (.iconst 0, 1) := by decide +kernel
theorem dX9_restsAfter_5 : decode cX9_restsAfter 5 = .ok (.aload_n 0, 1) := by decide +kernel
theorem dX9_restsAfter_6 : decode cX9_restsAfter 6 = .ok (.getfield 48, 3) := by decide +kernel
theorem dX9_restsAfter_9 : decode cX9_restsAfter 9 = .ok (.iconst 0, 1) := by decide +kernel
theorem dX9_restsAfter_10 : decode cX9_restsAfter 10 = .ok (.sipush 2075, 3) := by decide +kernel
theorem dX9_restsAfter_13 : decode cX9_restsAfter 13 = .ok (.invokestatic 305, 3) := by decide +kernel
theorem dX9_restsAfter_16 : decode cX9_restsAfter 16 = .ok (.iconst 0, 1) := by decide +kernel
theorem dX9_restsAfter_17 : decode cX9_restsAfter 17 = .ok (.istore_n 1, 1) := by decide +kernel
theorem dX9_restsAfter_18 : decode cX9_restsAfter 18 = .ok (.iconst 1, 1) := by decide +kernel
theorem dX9_restsAfter_19 : decode cX9_restsAfter 19 = .ok (.istore_n 2, 1) := by decide +kernel
theorem dX9_restsAfter_20 : decode cX9_restsAfter 20 = .ok (.iload_n 2, 1) := by decide +kernel
theorem dX9_restsAfter_21 : decode cX9_restsAfter 21 = .ok (.sipush 560, 3) := by decide +kernel
theorem dX9_restsAfter_24 : decode cX9_restsAfter 24 = .ok (.if_icmp .gt 26, 3) := by decide +kernel
theorem dX9_restsAfter_27 : decode cX9_restsAfter 27 = .ok (.aload_n 0, 1) := by decide +kernel
theorem dX9_restsAfter_28 : decode cX9_restsAfter 28 = .ok (.invokevirtual 309, 3) := by decide +kernel
theorem dX9_restsAfter_31 : decode cX9_restsAfter 31 = .ok (.aload_n 0, 1) := by decide +kernel
theorem dX9_restsAfter_32 : decode cX9_restsAfter 32 = .ok (.getfield 285, 3) := by decide +kernel
theorem dX9_restsAfter_35 : decode cX9_restsAfter 35 = .ok (.ifCond .eq 7, 3) := by decide +kernel
theorem dX9_restsAfter_38 : decode cX9_restsAfter 38 = .ok (.iload_n 2, 1) := by decide +kernel
theorem dX9_restsAfter_39 : decode cX9_restsAfter 39 = .ok (.goto 4, 3) := by decide +kernel
theorem dX9_restsAfter_42 : decode cX9_restsAfter 42 = .ok (.iload_n 1, 1) := by decide +kernel
theorem dX9_restsAfter_43 : decode cX9_restsAfter 43 = .ok (.istore_n 1, 1) := by decide +kernel
theorem dX9_restsAfter_44 : decode cX9_restsAfter 44 = .ok (.iinc 2 1, 3) := by decide +kernel
theorem dX9_restsAfter_47 : decode cX9_restsAfter 47 = .ok (.goto (-27), 3) := by decide +kernel
theorem dX9_restsAfter_50 : decode cX9_restsAfter 50 = .ok (.aload_n 0, 1) := by decide +kernel
theorem dX9_restsAfter_51 : decode cX9_restsAfter 51 = .ok (.aload_n 0, 1) := by decide +kernel
theorem dX9_restsAfter_52 : decode cX9_restsAfter 52 = .ok (.getfield 7, 3) := by decide +kernel
theorem dX9_restsAfter_55 : decode cX9_restsAfter 55 = .ok (.iconst 1, 1) := by decide +kernel
theorem dX9_restsAfter_56 : decode cX9_restsAfter 56 = .ok (.iaload, 1) := by decide +kernel
theorem dX9_restsAfter_57 : decode cX9_restsAfter 57 = .ok (.aload_n 0, 1) := by decide +kernel
theorem dX9_restsAfter_58 : decode cX9_restsAfter 58 = .ok (.getfield 7, 3) := by decide +kernel
theorem dX9_restsAfter_61 : decode cX9_restsAfter 61 = .ok (.iconst 2, 1) := by decide +kernel
theorem dX9_restsAfter_62 : decode cX9_restsAfter 62 = .ok (.iaload, 1) := by decide +kernel
theorem dX9_restsAfter_63 : decode cX9_restsAfter 63 = .ok (.iadd, 1) := by decide +kernel
theorem dX9_restsAfter_64 : decode cX9_restsAfter 64 = .ok (.aload_n 0, 1) := by decide +kernel
theorem dX9_restsAfter_65 : decode cX9_restsAfter 65 = .ok (.getfield 7, 3) := by decide +kernel
theorem dX9_restsAfter_68 : decode cX9_restsAfter 68 = .ok (.iconst 3, 1) := by decide +kernel
theorem dX9_restsAfter_69 : decode cX9_restsAfter 69 = .ok (.iaload, 1) := by decide +kernel
theorem dX9_restsAfter_70 : decode cX9_restsAfter 70 = .ok (.iadd, 1) := by decide +kernel
theorem dX9_restsAfter_71 : decode cX9_restsAfter 71 = .ok (.aload_n 0, 1) := by decide +kernel
theorem dX9_restsAfter_72 : decode cX9_restsAfter 72 = .ok (.getfield 7, 3) := by decide +kernel
theorem dX9_restsAfter_75 : decode cX9_restsAfter 75 = .ok (.iconst 4, 1) := by decide +kernel
theorem dX9_restsAfter_76 : decode cX9_restsAfter 76 = .ok (.iaload, 1) := by decide +kernel
theorem dX9_restsAfter_77 : decode cX9_restsAfter 77 = .ok (.iadd, 1) := by decide +kernel
theorem dX9_restsAfter_78 : decode cX9_restsAfter 78 = .ok (.ifCond .ne 7, 3) := by decide +kernel
theorem dX9_restsAfter_81 : decode cX9_restsAfter 81 = .ok (.iconst 1, 1) := by decide +kernel
theorem dX9_restsAfter_82 : decode cX9_restsAfter 82 = .ok (.goto 4, 3) := by decide +kernel
theorem dX9_restsAfter_85 : decode cX9_restsAfter 85 = .ok (.iconst 0, 1) := by decide +kernel
theorem dX9_restsAfter_86 : decode cX9_restsAfter 86 = .ok (.putfield 312, 3) := by decide +kernel
theorem dX9_restsAfter_89 : decode cX9_restsAfter 89 = .ok (.aload_n 0, 1) := by decide +kernel
theorem dX9_restsAfter_90 : decode cX9_restsAfter 90 = .ok (.getfield 48, 3) := by decide +kernel
theorem dX9_restsAfter_93 : decode cX9_restsAfter 93 = .ok (.iconst 0, 1) := by decide +kernel
theorem dX9_restsAfter_94 : decode cX9_restsAfter 94 = .ok (.aload_n 0, 1) := by decide +kernel
theorem dX9_restsAfter_95 : decode cX9_restsAfter 95 = .ok (.getfield 7, 3) := by decide +kernel
theorem dX9_restsAfter_98 : decode cX9_restsAfter 98 = .ok (.iconst 0, 1) := by decide +kernel
theorem dX9_restsAfter_99 : decode cX9_restsAfter 99 = .ok (.sipush 2075, 3) := by decide +kernel
theorem dX9_restsAfter_102 : decode cX9_restsAfter 102 = .ok (.invokestatic 305, 3) := by decide +kernel
theorem dX9_restsAfter_105 : decode cX9_restsAfter 105 = .ok (.iload_n 1, 1) := by decide +kernel
theorem dX9_restsAfter_106 : decode cX9_restsAfter 106 = .ok (.sipush 500, 3) := by decide +kernel
theorem dX9_restsAfter_109 : decode cX9_restsAfter 109 = .ok (.if_icmp .le 7, 3) := by decide +kernel
theorem dX9_restsAfter_112 : decode cX9_restsAfter 112 = .ok (.iconst (-1), 1) := by decide +kernel
theorem dX9_restsAfter_113 : decode cX9_restsAfter 113 = .ok (.goto 4, 3) := by decide +kernel
theorem dX9_restsAfter_116 : decode cX9_restsAfter 116 = .ok (.iload_n 1, 1) := by decide +kernel
theorem dX9_restsAfter_117 : decode cX9_restsAfter 117 = .ok (.ireturn, 1) := by decide +kernel
theorem dX9_ticksToRest_0 : decode cX9_ticksToRest 0 = .ok (.aload_n 0, 1) := by decide +kernel
theorem dX9_ticksToRest_1 : decode cX9_ticksToRest 1 = .ok (.iconst 0, 1) := by decide +kernel
theorem dX9_ticksToRest_2 : decode cX9_ticksToRest 2 = .ok (.putfield 70, 3) := by decide +kernel
theorem dX9_ticksToRest_5 : decode cX9_ticksToRest 5 = .ok (.aload_n 0, 1) := by decide +kernel
theorem dX9_ticksToRest_6 : decode cX9_ticksToRest 6 = .ok (.invokevirtual 315, 3) := by decide +kernel
theorem dX9_ticksToRest_9 : decode cX9_ticksToRest 9 = .ok (.ireturn, 1) := by decide +kernel
theorem dX9_isStuck_0 : decode cX9_isStuck 0 = .ok (.aload_n 0, 1) := by decide +kernel
theorem dX9_isStuck_1 : decode cX9_isStuck 1 = .ok (.iconst 0, 1) := by decide +kernel
theorem dX9_isStuck_2 : decode cX9_isStuck 2 = .ok (.putfield 70, 3) := by decide +kernel
theorem dX9_isStuck_5 : decode cX9_isStuck 5 = .ok (.aload_n 0, 1) := by decide +kernel
theorem dX9_isStuck_6 : decode cX9_isStuck 6 = .ok (.invokevirtual 315, 3) := by decide +kernel
theorem dX9_isStuck_9 : decode cX9_isStuck 9 = .ok (.iconst (-1), 1) := by decide +kernel
theorem dX9_isStuck_10 : decode cX9_isStuck 10 = .ok (.if_icmp .eq 14, 3) := by decide +kernel
theorem dX9_isStuck_13 : decode cX9_isStuck 13 = .ok (.aload_n 0, 1) := by decide +kernel
theorem dX9_isStuck_14 : decode cX9_isStuck 14 = .ok (.getfield 312, 3) := by decide +kernel
theorem dX9_isStuck_17 : decode cX9_isStuck 17 = .ok (.ifCond .ne 7, 3) := by decide +kernel
theorem dX9_isStuck_20 : decode cX9_isStuck 20 = .ok (.iconst 1, 1) := by decide +kernel
theorem dX9_isStuck_21 : decode cX9_isStuck 21 = .ok (.goto 4, 3) := by decide +kernel
theorem dX9_isStuck_24 : decode cX9_isStuck 24 = .ok (.iconst 0, 1) := by decide +kernel
theorem dX9_isStuck_25 : decode cX9_isStuck 25 = .ok (.ireturn, 1) := by decide +kernel
theorem dX9_completeTick_0 : decode cX9_completeTick 0 = .ok (.aload_n 0, 1) := by decide +kernel
theorem dX9_completeTick_1 : decode cX9_completeTick 1 = .ok (.iload_n 1, 1) := by decide +kernel
theorem dX9_completeTick_2 : decode cX9_completeTick 2 = .ok (.iload_n 2, 1) := by decide +kernel
theorem dX9_completeTick_3 : decode cX9_completeTick 3 = .ok (.invokevirtual 249, 3) := by decide +kernel
theorem dX9_completeTick_6 : decode cX9_completeTick 6 = .ok (.ifCond .eq 5, 3) := by decide +kernel
theorem dX9_completeTick_9 : decode cX9_completeTick 9 = .ok (.iconst 0, 1) := by decide +kernel
theorem dX9_completeTick_10 : decode cX9_completeTick 10 = .ok (.ireturn, 1) := by decide +kernel
theorem dX9_completeTick_11 : decode cX9_completeTick 11 = .ok (.iload_n 1, 1) := by decide +kernel
theorem dX9_completeTick_12 : decode cX9_completeTick 12 = .ok (.iload_n 2, 1) := by decide +kernel
theorem dX9_completeTick_13 : decode cX9_completeTick 13 = .ok (.invokestatic 252, 3) := by decide +kernel
theorem dX9_completeTick_16 : decode cX9_completeTick 16 = .ok (.iconst 0, 1) := by decide +kernel
theorem dX9_completeTick_17 : decode cX9_completeTick 17 = .ok (.iadd, 1) := by decide +kernel
theorem dX9_completeTick_18 : decode cX9_completeTick 18 = .ok (.istore_n 3, 1) := by decide +kernel
theorem dX9_completeTick_19 : decode cX9_completeTick 19 = .ok (.aload_n 0, 1) := by decide +kernel
theorem dX9_completeTick_20 : decode cX9_completeTick 20 = .ok (.getfield 7, 3) := by decide +kernel
theorem dX9_completeTick_23 : decode cX9_completeTick 23 = .ok (.iload_n 3, 1) := by decide +kernel
theorem dX9_completeTick_24 : decode cX9_completeTick 24 = .ok (.iaload, 1) := by decide +kernel
theorem dX9_completeTick_25 : decode cX9_completeTick 25 = .ok (.ifCond .ne 5, 3) := by decide +kernel
theorem dX9_completeTick_28 : decode cX9_completeTick 28 = .ok (.iconst (-1), 1) := by decide +kernel
theorem dX9_completeTick_29 : decode cX9_completeTick 29 = .ok (.ireturn, 1) := by decide +kernel
theorem dX9_completeTick_30 : decode cX9_completeTick 30 = .ok (.aload_n 0, 1) := by decide +kernel
theorem dX9_completeTick_31 : decode cX9_completeTick 31 = .ok (.getfield 7, 3) := by decide +kernel
theorem dX9_completeTick_34 : decode cX9_completeTick 34 = .ok (.iconst 0, 1) := by decide +kernel
theorem dX9_completeTick_35 : decode cX9_completeTick 35 = .ok (.aload_n 0, 1) := by decide +kernel
theorem dX9_completeTick_36 : decode cX9_completeTick 36 = .ok (.getfield 48, 3) := by decide +kernel
theorem dX9_completeTick_39 : decode cX9_completeTick 39 = .ok (.iconst 0, 1) := by decide +kernel
theorem dX9_completeTick_40 : decode cX9_completeTick 40 = .ok (.sipush 2075, 3) := by decide +kernel
theorem dX9_completeTick_43 : decode cX9_completeTick 43 = .ok (.invokestatic 305, 3) := by decide +kernel
theorem dX9_completeTick_46 : decode cX9_completeTick 46 = .ok (.iconst 0, 1) := by decide +kernel
theorem dX9_completeTick_47 : decode cX9_completeTick 47 = .ok (.istore 4, 2) := by decide +kernel
theorem dX9_completeTick_49 : decode cX9_completeTick 49 = .ok (.iload 4, 2) := by decide +kernel
theorem dX9_completeTick_51 : decode cX9_completeTick 51 = .ok (.sipush 500, 3) := by decide +kernel
theorem dX9_completeTick_54 : decode cX9_completeTick 54 = .ok (.if_icmp .ge 23, 3) := by decide +kernel
theorem dX9_completeTick_57 : decode cX9_completeTick 57 = .ok (.aload_n 0, 1) := by decide +kernel
theorem dX9_completeTick_58 : decode cX9_completeTick 58 = .ok (.getfield 7, 3) := by decide +kernel
theorem dX9_completeTick_61 : decode cX9_completeTick 61 = .ok (.iload_n 3, 1) := by decide +kernel
theorem dX9_completeTick_62 : decode cX9_completeTick 62 = .ok (.iaload, 1) := by decide +kernel
theorem dX9_completeTick_63 : decode cX9_completeTick 63 = .ok (.iconst 1, 1) := by decide +kernel
theorem dX9_completeTick_64 : decode cX9_completeTick 64 = .ok (.if_icmp .ne 13, 3) := by decide +kernel
theorem dX9_completeTick_67 : decode cX9_completeTick 67 = .ok (.aload_n 0, 1) := by decide +kernel
theorem dX9_completeTick_68 : decode cX9_completeTick 68 = .ok (.invokevirtual 309, 3) := by decide +kernel
theorem dX9_completeTick_71 : decode cX9_completeTick 71 = .ok (.iinc 4 1, 3) := by decide +kernel
theorem dX9_completeTick_74 : decode cX9_completeTick 74 = .ok (.goto (-25), 3) := by decide +kernel
theorem dX9_completeTick_77 : decode cX9_completeTick 77 = .ok (.aload_n 0, 1) := by decide +kernel
theorem dX9_completeTick_78 : decode cX9_completeTick 78 = .ok (.getfield 7, 3) := by decide +kernel
theorem dX9_completeTick_81 : decode cX9_completeTick 81 = .ok (.iload_n 3, 1) := by decide +kernel
theorem dX9_completeTick_82 : decode cX9_completeTick 82 = .ok (.iaload, 1) := by decide +kernel
theorem dX9_completeTick_83 : decode cX9_completeTick 83 = .ok (.iconst 2, 1) := by decide +kernel
theorem dX9_completeTick_84 : decode cX9_completeTick 84 = .ok (.if_icmp .ne 12, 3) := by decide +kernel
theorem dX9_completeTick_87 : decode cX9_completeTick 87 = .ok (.aload_n 0, 1) := by decide +kernel
theorem dX9_completeTick_88 : decode cX9_completeTick 88 = .ok (.getfield 7, 3) := by decide +kernel
theorem dX9_completeTick_91 : decode cX9_completeTick 91 = .ok (.iconst 0, 1) := by decide +kernel
theorem dX9_completeTick_92 : decode cX9_completeTick 92 = .ok (.iaload, 1) := by decide +kernel
theorem dX9_completeTick_93 : decode cX9_completeTick 93 = .ok (.goto 4, 3) := by decide +kernel
theorem dX9_completeTick_96 : decode cX9_completeTick 96 = .ok (.iconst (-1), 1) := by decide +kernel
theorem dX9_completeTick_97 : decode cX9_completeTick 97 = .ok (.istore 4, 2) := by decide +kernel
theorem dX9_completeTick_99 : decode cX9_completeTick 99 = .ok (.aload_n 0, 1) := by decide +kernel
theorem dX9_completeTick_100 : decode cX9_completeTick 100 = .ok (.getfield 48, 3) := by decide +kernel
theorem dX9_completeTick_103 : decode cX9_completeTick 103 = .ok (.iconst 0, 1) := by decide +kernel
theorem dX9_completeTick_104 : decode cX9_completeTick 104 = .ok (.aload_n 0, 1) := by decide +kernel
theorem dX9_completeTick_105 : decode cX9_completeTick 105 = .ok (.getfield 7, 3) := by decide +kernel
theorem dX9_completeTick_108 : decode cX9_completeTick 108 = .ok (.iconst 0, 1) := by decide +kernel
theorem dX9_completeTick_109 : decode cX9_completeTick 109 = .ok (.sipush 2075, 3) := by decide +kernel
theorem dX9_completeTick_112 : decode cX9_completeTick 112 = .ok (.invokestatic 305, 3) := by decide +kernel
theorem dX9_completeTick_115 : decode cX9_completeTick 115 = .ok (.iload 4, 2) := by decide +kernel
theorem dX9_completeTick_117 : decode cX9_completeTick 117 = .ok (.ireturn, 1) := by decide +kernel
theorem dX9_run_0 : decode cX9_run 0 = .ok (.aload_n 0, 1) := by decide +kernel
theorem dX9_run_1 : decode cX9_run 1 = .ok (.iconst 0, 1) := by decide +kernel
theorem dX9_run_2 : decode cX9_run 2 = .ok (.putfield 70, 3) := by decide +kernel
theorem dX9_run_5 : decode cX9_run 5 = .ok (.aload_n 0, 1) := by decide +kernel
theorem dX9_run_6 : decode cX9_run 6 = .ok (.iload_n 1, 1) := by decide +kernel
theorem dX9_run_7 : decode cX9_run 7 = .ok (.iconst 1, 1) := by decide +kernel
theorem dX9_run_8 : decode cX9_run 8 = .ok (.sipush 300, 3) := by decide +kernel
theorem dX9_run_11 : decode cX9_run 11 = .ok (.invokestatic 114, 3) := by decide +kernel
theorem dX9_run_14 : decode cX9_run 14 = .ok (.ifCond .ne 7, 3) := by decide +kernel
theorem dX9_run_17 : decode cX9_run 17 = .ok (.iconst 1, 1) := by decide +kernel
theorem dX9_run_18 : decode cX9_run 18 = .ok (.goto 4, 3) := by decide +kernel
theorem dX9_run_21 : decode cX9_run 21 = .ok (.iconst 0, 1) := by decide +kernel
theorem dX9_run_22 : decode cX9_run 22 = .ok (.iconst 1, 1) := by decide +kernel
theorem dX9_run_23 : decode cX9_run 23 = .ok (.invokevirtual 210, 3) := by decide +kernel
theorem dX9_run_26 : decode cX9_run 26 = .ok (.ifCond .ne 30, 3) := by decide +kernel
theorem dX9_run_29 : decode cX9_run 29 = .ok (.aload_n 0, 1) := by decide +kernel
theorem dX9_run_30 : decode cX9_run 30 = .ok (.aload_n 0, 1) := by decide +kernel
theorem dX9_run_31 : decode cX9_run 31 = .ok (.getfield 7, 3) := by decide +kernel
theorem dX9_run_34 : decode cX9_run 34 = .ok (.iconst 0, 1) := by decide +kernel
theorem dX9_run_35 : decode cX9_run 35 = .ok (.iaload, 1) := by decide +kernel
theorem dX9_run_36 : decode cX9_run 36 = .ok (.iload_n 1, 1) := by decide +kernel
theorem dX9_run_37 : decode cX9_run 37 = .ok (.iadd, 1) := by decide +kernel
theorem dX9_run_38 : decode cX9_run 38 = .ok (.sipush 9999, 3) := by decide +kernel
theorem dX9_run_41 : decode cX9_run 41 = .ok (.if_icmp .le 7, 3) := by decide +kernel
theorem dX9_run_44 : decode cX9_run 44 = .ok (.iconst 1, 1) := by decide +kernel
theorem dX9_run_45 : decode cX9_run 45 = .ok (.goto 4, 3) := by decide +kernel
theorem dX9_run_48 : decode cX9_run 48 = .ok (.iconst 0, 1) := by decide +kernel
theorem dX9_run_49 : decode cX9_run 49 = .ok (.iconst 2, 1) := by decide +kernel
theorem dX9_run_50 : decode cX9_run 50 = .ok (.invokevirtual 210, 3) := by decide +kernel
theorem dX9_run_53 : decode cX9_run 53 = .ok (.ifCond .eq 5, 3) := by decide +kernel
theorem dX9_run_56 : decode cX9_run 56 = .ok (.iconst 0, 1) := by decide +kernel
theorem dX9_run_57 : decode cX9_run 57 = .ok (.ireturn, 1) := by decide +kernel
theorem dX9_run_58 : decode cX9_run 58 = .ok (.aload_n 0, 1) := by decide +kernel
theorem dX9_run_59 : decode cX9_run 59 = .ok (.invokevirtual 318, 3) := by decide +kernel
theorem dX9_run_62 : decode cX9_run 62 = .ok (.aload_n 0, 1) := by decide +kernel
theorem dX9_run_63 : decode cX9_run 63 = .ok (.getfield 7, 3) := by decide +kernel
theorem dX9_run_66 : decode cX9_run 66 = .ok (.iconst 5, 1) := by decide +kernel
theorem dX9_run_67 : decode cX9_run 67 = .ok (.iaload, 1) := by decide +kernel
theorem dX9_run_68 : decode cX9_run 68 = .ok (.aload_n 0, 1) := by decide +kernel
theorem dX9_run_69 : decode cX9_run 69 = .ok (.getfield 7, 3) := by decide +kernel
theorem dX9_run_72 : decode cX9_run 72 = .ok (.bipush 6, 2) := by decide +kernel
theorem dX9_run_74 : decode cX9_run 74 = .ok (.iaload, 1) := by decide +kernel
theorem dX9_run_75 : decode cX9_run 75 = .ok (.iadd, 1) := by decide +kernel
theorem dX9_run_76 : decode cX9_run 76 = .ok (.istore_n 2, 1) := by decide +kernel
theorem dX9_run_77 : decode cX9_run 77 = .ok (.iconst 0, 1) := by decide +kernel
theorem dX9_run_78 : decode cX9_run 78 = .ok (.istore_n 3, 1) := by decide +kernel
theorem dX9_run_79 : decode cX9_run 79 = .ok (.iload_n 3, 1) := by decide +kernel
theorem dX9_run_80 : decode cX9_run 80 = .ok (.iload_n 1, 1) := by decide +kernel
theorem dX9_run_81 : decode cX9_run 81 = .ok (.if_icmp .ge 13, 3) := by decide +kernel
theorem dX9_run_84 : decode cX9_run 84 = .ok (.aload_n 0, 1) := by decide +kernel
theorem dX9_run_85 : decode cX9_run 85 = .ok (.invokevirtual 309, 3) := by decide +kernel
theorem dX9_run_88 : decode cX9_run 88 = .ok (.iinc 3 1, 3) := by decide +kernel
theorem dX9_run_91 : decode cX9_run 91 = .ok (.goto (-12), 3) := by decide +kernel
theorem dX9_run_94 : decode cX9_run 94 = .ok (.aload_n 0, 1) := by decide +kernel
theorem dX9_run_95 : decode cX9_run 95 = .ok (.getfield 7, 3) := by decide +kernel
theorem dX9_run_98 : decode cX9_run 98 = .ok (.iconst 5, 1) := by decide +kernel
theorem dX9_run_99 : decode cX9_run 99 = .ok (.iaload, 1) := by decide +kernel
theorem dX9_run_100 : decode cX9_run 100 = .ok (.aload_n 0, 1) := by decide +kernel
theorem dX9_run_101 : decode cX9_run 101 = .ok (.getfield 7, 3) := by decide +kernel
theorem dX9_run_104 : decode cX9_run 104 = .ok (.bipush 6, 2) := by decide +kernel
theorem dX9_run_106 : decode cX9_run 106 = .ok (.iaload, 1) := by decide +kernel
theorem dX9_run_107 : decode cX9_run 107 = .ok (.iadd, 1) := by decide +kernel
theorem dX9_run_108 : decode cX9_run 108 = .ok (.iload_n 2, 1) := by decide +kernel
theorem dX9_run_109 : decode cX9_run 109 = .ok (.isub, 1) := by decide +kernel
theorem dX9_run_110 : decode cX9_run 110 = .ok (.ireturn, 1) := by decide +kernel
theorem dX9_isRange_0 : decode cX9_isRange 0 = .ok (.iload_n 0, 1) := by decide +kernel
theorem dX9_isRange_1 : decode cX9_isRange 1 = .ok (.iconst 0, 1) := by decide +kernel
theorem dX9_isRange_2 : decode cX9_isRange 2 = .ok (.bipush 15, 2) := by decide +kernel
theorem dX9_isRange_4 : decode cX9_isRange 4 = .ok (.invokestatic 114, 3) := by decide +kernel
theorem dX9_isRange_7 : decode cX9_isRange 7 = .ok (.ifCond .eq 24, 3) := by decide +kernel
theorem dX9_isRange_10 : decode cX9_isRange 10 = .ok (.iload_n 1, 1) := by decide +kernel
theorem dX9_isRange_11 : decode cX9_isRange 11 = .ok (.iconst 1, 1) := by decide +kernel
theorem dX9_isRange_12 : decode cX9_isRange 12 = .ok (.iconst 4, 1) := by decide +kernel
theorem dX9_isRange_13 : decode cX9_isRange 13 = .ok (.invokestatic 114, 3) := by decide +kernel
theorem dX9_isRange_16 : decode cX9_isRange 16 = .ok (.ifCond .eq 15, 3) := by decide +kernel
theorem dX9_isRange_19 : decode cX9_isRange 19 = .ok (.iload_n 0, 1) := by decide +kernel
theorem dX9_isRange_20 : decode cX9_isRange 20 = .ok (.iload_n 1, 1) := by decide +kernel
theorem dX9_isRange_21 : decode cX9_isRange 21 = .ok (.iadd, 1) := by decide +kernel
theorem dX9_isRange_22 : decode cX9_isRange 22 = .ok (.bipush 16, 2) := by decide +kernel
theorem dX9_isRange_24 : decode cX9_isRange 24 = .ok (.if_icmp .gt 7, 3) := by decide +kernel
theorem dX9_isRange_27 : decode cX9_isRange 27 = .ok (.iconst 1, 1) := by decide +kernel
theorem dX9_isRange_28 : decode cX9_isRange 28 = .ok (.goto 4, 3) := by decide +kernel
theorem dX9_isRange_31 : decode cX9_isRange 31 = .ok (.iconst 0, 1) := by decide +kernel
theorem dX9_isRange_32 : decode cX9_isRange 32 = .ok (.ireturn, 1) := by decide +kernel
theorem dX9_post_0 : decode cX9_post 0 = .ok (.aload_n 0, 1) := by decide +kernel
theorem dX9_post_1 : decode cX9_post 1 = .ok (.iload_n 1, 1) := by decide +kernel
theorem dX9_post_2 : decode cX9_post 2 = .ok (.invokevirtual 227, 3) := by decide +kernel
theorem dX9_post_5 : decode cX9_post 5 = .ok (.ifCond .ne 46, 3) := by decide +kernel
theorem dX9_post_8 : decode cX9_post 8 = .ok (.aload_n 0, 1) := by decide +kernel
theorem dX9_post_9 : decode cX9_post 9 = .ok (.iload_n 2, 1) := by decide +kernel
theorem dX9_post_10 : decode cX9_post 10 = .ok (.iload_n 3, 1) := by decide +kernel
theorem dX9_post_11 : decode cX9_post 11 = .ok (.invokestatic 321, 3) := by decide +kernel
theorem dX9_post_14 : decode cX9_post 14 = .ok (.ifCond .ne 7, 3) := by decide +kernel
theorem dX9_post_17 : decode cX9_post 17 = .ok (.iconst 1, 1) := by decide +kernel
theorem dX9_post_18 : decode cX9_post 18 = .ok (.goto 4, 3) := by decide +kernel
theorem dX9_post_21 : decode cX9_post 21 = .ok (.iconst 0, 1) := by decide +kernel
theorem dX9_post_22 : decode cX9_post 22 = .ok (.iconst 2, 1) := by decide +kernel
theorem dX9_post_23 : decode cX9_post 23 = .ok (.invokevirtual 210, 3) := by decide +kernel
theorem dX9_post_26 : decode cX9_post 26 = .ok (.ifCond .ne 25, 3) := by decide +kernel
theorem dX9_post_29 : decode cX9_post 29 = .ok (.aload_n 0, 1) := by decide +kernel
theorem dX9_post_30 : decode cX9_post 30 = .ok (.aload_n 0, 1) := by decide +kernel
theorem dX9_post_31 : decode cX9_post 31 = .ok (.iload_n 1, 1) := by decide +kernel
theorem dX9_post_32 : decode cX9_post 32 = .ok (.iconst 0, 1) := by decide +kernel
theorem dX9_post_33 : decode cX9_post 33 = .ok (.invokevirtual 275, 3) := by decide +kernel
theorem dX9_post_36 : decode cX9_post 36 = .ok (.ifCond .gt 7, 3) := by decide +kernel
theorem dX9_post_39 : decode cX9_post 39 = .ok (.iconst 1, 1) := by decide +kernel
theorem dX9_post_40 : decode cX9_post 40 = .ok (.goto 4, 3) := by decide +kernel
theorem dX9_post_43 : decode cX9_post 43 = .ok (.iconst 0, 1) := by decide +kernel
theorem dX9_post_44 : decode cX9_post 44 = .ok (.iconst 3, 1) := by decide +kernel
theorem dX9_post_45 : decode cX9_post 45 = .ok (.invokevirtual 210, 3) := by decide +kernel
theorem dX9_post_48 : decode cX9_post 48 = .ok (.ifCond .eq 5, 3) := by decide +kernel
theorem dX9_post_51 : decode cX9_post 51 = .ok (.iconst 0, 1) := by decide +kernel
theorem dX9_post_52 : decode cX9_post 52 = .ok (.ireturn, 1) := by decide +kernel
theorem dX9_post_53 : decode cX9_post 53 = .ok (.aload_n 0, 1) := by decide +kernel
theorem dX9_post_54 : decode cX9_post 54 = .ok (.invokevirtual 318, 3) := by decide +kernel
theorem dX9_post_57 : decode cX9_post 57 = .ok (.aload_n 0, 1) := by decide +kernel
theorem dX9_post_58 : decode cX9_post 58 = .ok (.getfield 7, 3) := by decide +kernel
theorem dX9_post_61 : decode cX9_post 61 = .ok (.aload_n 0, 1) := by decide +kernel
theorem dX9_post_62 : decode cX9_post 62 = .ok (.iload_n 1, 1) := by decide +kernel
theorem dX9_post_63 : decode cX9_post 63 = .ok (.iconst 0, 1) := by decide +kernel
theorem dX9_post_64 : decode cX9_post 64 = .ok (.iconst (-1), 1) := by decide +kernel
theorem dX9_post_65 : decode cX9_post 65 = .ok (.iload_n 2, 1) := by decide +kernel
theorem dX9_post_66 : decode cX9_post 66 = .ok (.iload_n 3, 1) := by decide +kernel
theorem dX9_post_67 : decode cX9_post 67 = .ok (.iload 5, 2) := by decide +kernel
theorem dX9_post_69 : decode cX9_post 69 = .ok (.invokevirtual 278, 3) := by decide +kernel
theorem dX9_post_72 : decode cX9_post 72 = .ok (.iconst 4, 1) := by decide +kernel
theorem dX9_post_73 : decode cX9_post 73 = .ok (.iadd, 1) := by decide +kernel
theorem dX9_post_74 : decode cX9_post 74 = .ok (.iload 4, 2) := by decide +kernel
theorem dX9_post_76 : decode cX9_post 76 = .ok (.iastore, 1) := by decide +kernel
theorem dX9_post_77 : decode cX9_post 77 = .ok (.aload_n 0, 1) := by decide +kernel
theorem dX9_post_78 : decode cX9_post 78 = .ok (.getfield 7, 3) := by decide +kernel
theorem dX9_post_81 : decode cX9_post 81 = .ok (.iconst 1, 1) := by decide +kernel
theorem dX9_post_82 : decode cX9_post 82 = .ok (.iload_n 1, 1) := by decide +kernel
theorem dX9_post_83 : decode cX9_post 83 = .ok (.iadd, 1) := by decide +kernel
theorem dX9_post_84 : decode cX9_post 84 = .ok (.iaload, 1) := by decide +kernel
theorem dX9_post_85 : decode cX9_post 85 = .ok (.ireturn, 1) := by decide +kernel
theorem dX9_freeTag_0 : decode cX9_freeTag 0 = .ok (.iconst 0, 1) := by decide +kernel
theorem dX9_freeTag_1 : decode cX9_freeTag 1 = .ok (.istore_n 2, 1) := by decide +kernel
theorem dX9_freeTag_2 : decode cX9_freeTag 2 = .ok (.iload_n 2, 1) := by decide +kernel
theorem dX9_freeTag_3 : decode cX9_freeTag 3 = .ok (.aload_n 0, 1) := by decide +kernel
theorem dX9_freeTag_4 : decode cX9_freeTag 4 = .ok (.getfield 25, 3) := by decide +kernel
theorem dX9_freeTag_7 : decode cX9_freeTag 7 = .ok (.iconst 1, 1) := by decide +kernel
theorem dX9_freeTag_8 : decode cX9_freeTag 8 = .ok (.iaload, 1) := by decide +kernel
theorem dX9_freeTag_9 : decode cX9_freeTag 9 = .ok (.if_icmp .ge 26, 3) := by decide +kernel
theorem dX9_freeTag_12 : decode cX9_freeTag 12 = .ok (.aload_n 0, 1) := by decide +kernel
theorem dX9_freeTag_13 : decode cX9_freeTag 13 = .ok (.getfield 7, 3) := by decide +kernel
theorem dX9_freeTag_16 : decode cX9_freeTag 16 = .ok (.iload_n 1, 1) := by decide +kernel
theorem dX9_freeTag_17 : decode cX9_freeTag 17 = .ok (.iload_n 2, 1) := by decide +kernel
theorem dX9_freeTag_18 : decode cX9_freeTag 18 = .ok (.invokestatic 252, 3) := by decide +kernel
theorem dX9_freeTag_21 : decode cX9_freeTag 21 = .ok (.iconst 0, 1) := by decide +kernel
theorem dX9_freeTag_22 : decode cX9_freeTag 22 = .ok (.iadd, 1) := by decide +kernel
theorem dX9_freeTag_23 : decode cX9_freeTag 23 = .ok (.iaload, 1) := by decide +kernel
theorem dX9_freeTag_24 : decode cX9_freeTag 24 = .ok (.ifCond .ne 5, 3) := by decide +kernel
theorem dX9_freeTag_27 : decode cX9_freeTag 27 = .ok (.iload_n 2, 1) := by decide +kernel
theorem dX9_freeTag_28 : decode cX9_freeTag 28 = .ok (.ireturn, 1) := by decide +kernel
theorem dX9_freeTag_29 : decode cX9_freeTag 29 = .ok (.iinc 2 1, 3) := by decide +kernel
theorem dX9_freeTag_32 : decode cX9_freeTag 32 = .ok (.goto (-30), 3) := by decide +kernel
theorem dX9_freeTag_35 : decode cX9_freeTag 35 = .ok (.iconst (-1), 1) := by decide +kernel
theorem dX9_freeTag_36 : decode cX9_freeTag 36 = .ok (.ireturn, 1) := by decide +kernel
theorem dX9_asks_0 : decode cX9_asks 0 = .ok (.aload_n 0, 1) := by decide +kernel
theorem dX9_asks_1 : decode cX9_asks 1 = .ok (.iload_n 1, 1) := by decide +kernel
theorem dX9_asks_2 : decode cX9_asks 2 = .ok (.invokevirtual 324, 3) := by decide +kernel
theorem dX9_asks_5 : decode cX9_asks 5 = .ok (.istore 7, 2) := by decide +kernel
theorem dX9_asks_7 : decode cX9_asks 7 = .ok (.aload_n 0, 1) := by decide +kernel
theorem dX9_asks_8 : decode cX9_asks 8 = .ok (.aload_n 0, 1) := by decide +kernel
theorem dX9_asks_9 : decode cX9_asks 9 = .ok (.iload_n 1, 1) := by decide +kernel
theorem dX9_asks_10 : decode cX9_asks 10 = .ok (.iload_n 2, 1) := by decide +kernel
theorem dX9_asks_11 : decode cX9_asks 11 = .ok (.invokevirtual 275, 3) := by decide +kernel
theorem dX9_asks_14 : decode cX9_asks 14 = .ok (.ifCond .le 9, 3) := by decide +kernel
theorem dX9_asks_17 : decode cX9_asks 17 = .ok (.iload 7, 2) := by decide +kernel
theorem dX9_asks_19 : decode cX9_asks 19 = .ok (.iconst (-1), 1) := by decide +kernel
theorem dX9_asks_20 : decode cX9_asks 20 = .ok (.if_icmp .ne 7, 3) := by decide +kernel
theorem dX9_asks_23 : decode cX9_asks 23 = .ok (.iconst 1, 1) := by decide +kernel
theorem dX9_asks_24 : decode cX9_asks 24 = .ok (.goto 4, 3) := by decide +kernel
theorem dX9_asks_27 : decode cX9_asks 27 = .ok (.iconst 0, 1) := by decide +kernel
theorem dX9_asks_28 : decode cX9_asks 28 = .ok (.iconst 3, 1) := by decide +kernel
theorem dX9_asks_29 : decode cX9_asks 29 = .ok (.invokevirtual 210, 3) := by decide +kernel
theorem dX9_asks_32 : decode cX9_asks 32 = .ok (.ifCond .eq 5, 3) := by decide +kernel
theorem dX9_asks_35 : decode cX9_asks 35 = .ok (.iconst 0, 1) := by decide +kernel
theorem dX9_asks_36 : decode cX9_asks 36 = .ok (.ireturn, 1) := by decide +kernel
theorem dX9_asks_37 : decode cX9_asks 37 = .ok (.aload_n 0, 1) := by decide +kernel
theorem dX9_asks_38 : decode cX9_asks 38 = .ok (.invokevirtual 318, 3) := by decide +kernel
theorem dX9_asks_41 : decode cX9_asks 41 = .ok (.aload_n 0, 1) := by decide +kernel
theorem dX9_asks_42 : decode cX9_asks 42 = .ok (.getfield 7, 3) := by decide +kernel
theorem dX9_asks_45 : decode cX9_asks 45 = .ok (.aload_n 0, 1) := by decide +kernel
theorem dX9_asks_46 : decode cX9_asks 46 = .ok (.iload_n 1, 1) := by decide +kernel
theorem dX9_asks_47 : decode cX9_asks 47 = .ok (.iload_n 2, 1) := by decide +kernel
theorem dX9_asks_48 : decode cX9_asks 48 = .ok (.iload 7, 2) := by decide +kernel
theorem dX9_asks_50 : decode cX9_asks 50 = .ok (.iload_n 3, 1) := by decide +kernel
theorem dX9_asks_51 : decode cX9_asks 51 = .ok (.iload 4, 2) := by decide +kernel
theorem dX9_asks_53 : decode cX9_asks 53 = .ok (.iload 6, 2) := by decide +kernel
theorem dX9_asks_55 : decode cX9_asks 55 = .ok (.invokevirtual 278, 3) := by decide +kernel
theorem dX9_asks_58 : decode cX9_asks 58 = .ok (.iconst 4, 1) := by decide +kernel
theorem dX9_asks_59 : decode cX9_asks 59 = .ok (.iadd, 1) := by decide +kernel
theorem dX9_asks_60 : decode cX9_asks 60 = .ok (.iload 5, 2) := by decide +kernel
theorem dX9_asks_62 : decode cX9_asks 62 = .ok (.iastore, 1) := by decide +kernel
theorem dX9_asks_63 : decode cX9_asks 63 = .ok (.iload_n 1, 1) := by decide +kernel
theorem dX9_asks_64 : decode cX9_asks 64 = .ok (.iload 7, 2) := by decide +kernel
theorem dX9_asks_66 : decode cX9_asks 66 = .ok (.invokestatic 252, 3) := by decide +kernel
theorem dX9_asks_69 : decode cX9_asks 69 = .ok (.istore 8, 2) := by decide +kernel
theorem dX9_asks_71 : decode cX9_asks 71 = .ok (.aload_n 0, 1) := by decide +kernel
theorem dX9_asks_72 : decode cX9_asks 72 = .ok (.getfield 7, 3) := by decide +kernel
theorem dX9_asks_75 : decode cX9_asks 75 = .ok (.iload 8, 2) := by decide +kernel
theorem dX9_asks_77 : decode cX9_asks 77 = .ok (.iconst 0, 1) := by decide +kernel
theorem dX9_asks_78 : decode cX9_asks 78 = .ok (.iadd, 1) := by decide +kernel
theorem dX9_asks_79 : decode cX9_asks 79 = .ok (.iconst 1, 1) := by decide +kernel
theorem dX9_asks_80 : decode cX9_asks 80 = .ok (.iastore, 1) := by decide +kernel
theorem dX9_asks_81 : decode cX9_asks 81 = .ok (.aload_n 0, 1) := by decide +kernel
theorem dX9_asks_82 : decode cX9_asks 82 = .ok (.getfield 7, 3) := by decide +kernel
theorem dX9_asks_85 : decode cX9_asks 85 = .ok (.iload 8, 2) := by decide +kernel
theorem dX9_asks_87 : decode cX9_asks 87 = .ok (.iconst 1, 1) := by decide +kernel
theorem dX9_asks_88 : decode cX9_asks 88 = .ok (.iadd, 1) := by decide +kernel
theorem dX9_asks_89 : decode cX9_asks 89 = .ok (.iload_n 2, 1) := by decide +kernel
theorem dX9_asks_90 : decode cX9_asks 90 = .ok (.iconst 1, 1) := by decide +kernel
theorem dX9_asks_91 : decode cX9_asks 91 = .ok (.if_icmp .ne 8, 3) := by decide +kernel
theorem dX9_asks_94 : decode cX9_asks 94 = .ok (.iload 4, 2) := by decide +kernel
theorem dX9_asks_96 : decode cX9_asks 96 = .ok (.goto 4, 3) := by decide +kernel
theorem dX9_asks_99 : decode cX9_asks 99 = .ok (.iconst 0, 1) := by decide +kernel
theorem dX9_asks_100 : decode cX9_asks 100 = .ok (.iastore, 1) := by decide +kernel
theorem dX9_asks_101 : decode cX9_asks 101 = .ok (.aload_n 0, 1) := by decide +kernel
theorem dX9_asks_102 : decode cX9_asks 102 = .ok (.getfield 7, 3) := by decide +kernel
theorem dX9_asks_105 : decode cX9_asks 105 = .ok (.iload 8, 2) := by decide +kernel
theorem dX9_asks_107 : decode cX9_asks 107 = .ok (.iconst 2, 1) := by decide +kernel
theorem dX9_asks_108 : decode cX9_asks 108 = .ok (.iadd, 1) := by decide +kernel
theorem dX9_asks_109 : decode cX9_asks 109 = .ok (.iconst 0, 1) := by decide +kernel
theorem dX9_asks_110 : decode cX9_asks 110 = .ok (.iastore, 1) := by decide +kernel
theorem dX9_asks_111 : decode cX9_asks 111 = .ok (.iload 7, 2) := by decide +kernel
theorem dX9_asks_113 : decode cX9_asks 113 = .ok (.ireturn, 1) := by decide +kernel
theorem dX9_read_0 : decode cX9_read 0 = .ok (.aload_n 0, 1) := by decide +kernel
theorem dX9_read_1 : decode cX9_read 1 = .ok (.iload_n 1, 1) := by decide +kernel
theorem dX9_read_2 : decode cX9_read 2 = .ok (.invokevirtual 227, 3) := by decide +kernel
theorem dX9_read_5 : decode cX9_read 5 = .ok (.ifCond .ne 24, 3) := by decide +kernel
theorem dX9_read_8 : decode cX9_read 8 = .ok (.aload_n 0, 1) := by decide +kernel
theorem dX9_read_9 : decode cX9_read 9 = .ok (.iload_n 2, 1) := by decide +kernel
theorem dX9_read_10 : decode cX9_read 10 = .ok (.iload_n 3, 1) := by decide +kernel
theorem dX9_read_11 : decode cX9_read 11 = .ok (.invokestatic 321, 3) := by decide +kernel
theorem dX9_read_14 : decode cX9_read 14 = .ok (.ifCond .ne 7, 3) := by decide +kernel
theorem dX9_read_17 : decode cX9_read 17 = .ok (.iconst 1, 1) := by decide +kernel
theorem dX9_read_18 : decode cX9_read 18 = .ok (.goto 4, 3) := by decide +kernel
theorem dX9_read_21 : decode cX9_read 21 = .ok (.iconst 0, 1) := by decide +kernel
theorem dX9_read_22 : decode cX9_read 22 = .ok (.iconst 2, 1) := by decide +kernel
theorem dX9_read_23 : decode cX9_read 23 = .ok (.invokevirtual 210, 3) := by decide +kernel
theorem dX9_read_26 : decode cX9_read 26 = .ok (.ifCond .eq 7, 3) := by decide +kernel
theorem dX9_read_29 : decode cX9_read 29 = .ok (.iconst 0, 1) := by decide +kernel
theorem dX9_read_30 : decode cX9_read 30 = .ok (.goto 14, 3) := by decide +kernel
theorem dX9_read_33 : decode cX9_read 33 = .ok (.aload_n 0, 1) := by decide +kernel
theorem dX9_read_34 : decode cX9_read 34 = .ok (.iload_n 1, 1) := by decide +kernel
theorem dX9_read_35 : decode cX9_read 35 = .ok (.iconst 1, 1) := by decide +kernel
theorem dX9_read_36 : decode cX9_read 36 = .ok (.iload_n 2, 1) := by decide +kernel
theorem dX9_read_37 : decode cX9_read 37 = .ok (.iload_n 3, 1) := by decide +kernel
theorem dX9_read_38 : decode cX9_read 38 = .ok (.iconst 0, 1) := by decide +kernel
theorem dX9_read_39 : decode cX9_read 39 = .ok (.iload 4, 2) := by decide +kernel
theorem dX9_read_41 : decode cX9_read 41 = .ok (.invokevirtual 327, 3) := by decide +kernel
theorem dX9_read_44 : decode cX9_read 44 = .ok (.ireturn, 1) := by decide +kernel
theorem dX9_configure_0 : decode cX9_configure 0 = .ok (.aload_n 0, 1) := by decide +kernel
theorem dX9_configure_1 : decode cX9_configure 1 = .ok (.iload_n 1, 1) := by decide +kernel
theorem dX9_configure_2 : decode cX9_configure 2 = .ok (.invokevirtual 227, 3) := by decide +kernel
theorem dX9_configure_5 : decode cX9_configure 5 = .ok (.ifCond .ne 24, 3) := by decide +kernel
theorem dX9_configure_8 : decode cX9_configure 8 = .ok (.aload_n 0, 1) := by decide +kernel
theorem dX9_configure_9 : decode cX9_configure 9 = .ok (.iload_n 2, 1) := by decide +kernel
theorem dX9_configure_10 : decode cX9_configure 10 = .ok (.iconst 1, 1) := by decide +kernel
theorem dX9_configure_11 : decode cX9_configure 11 = .ok (.invokestatic 321, 3) := by decide +kernel
theorem dX9_configure_14 : decode cX9_configure 14 = .ok (.ifCond .ne 7, 3) := by decide +kernel
theorem dX9_configure_17 : decode cX9_configure 17 = .ok (.iconst 1, 1) := by decide +kernel
theorem dX9_configure_18 : decode cX9_configure 18 = .ok (.goto 4, 3) := by decide +kernel
theorem dX9_configure_21 : decode cX9_configure 21 = .ok (.iconst 0, 1) := by decide +kernel
theorem dX9_configure_22 : decode cX9_configure 22 = .ok (.iconst 2, 1) := by decide +kernel
theorem dX9_configure_23 : decode cX9_configure 23 = .ok (.invokevirtual 210, 3) := by decide +kernel
theorem dX9_configure_26 : decode cX9_configure 26 = .ok (.ifCond .eq 7, 3) := by decide +kernel
theorem dX9_configure_29 : decode cX9_configure 29 = .ok (.iconst 0, 1) := by decide +kernel
theorem dX9_configure_30 : decode cX9_configure 30 = .ok (.goto 14, 3) := by decide +kernel
theorem dX9_configure_33 : decode cX9_configure 33 = .ok (.aload_n 0, 1) := by decide +kernel
theorem dX9_configure_34 : decode cX9_configure 34 = .ok (.iload_n 1, 1) := by decide +kernel
theorem dX9_configure_35 : decode cX9_configure 35 = .ok (.iconst 2, 1) := by decide +kernel
theorem dX9_configure_36 : decode cX9_configure 36 = .ok (.iload_n 2, 1) := by decide +kernel
theorem dX9_configure_37 : decode cX9_configure 37 = .ok (.iconst 1, 1) := by decide +kernel
theorem dX9_configure_38 : decode cX9_configure 38 = .ok (.iload_n 3, 1) := by decide +kernel
theorem dX9_configure_39 : decode cX9_configure 39 = .ok (.iload 4, 2) := by decide +kernel
theorem dX9_configure_41 : decode cX9_configure 41 = .ok (.invokevirtual 327, 3) := by decide +kernel
theorem dX9_configure_44 : decode cX9_configure 44 = .ok (.ireturn, 1) := by decide +kernel
theorem dX9_release_0 : decode cX9_release 0 = .ok (.aload_n 0, 1) := by decide +kernel
theorem dX9_release_1 : decode cX9_release 1 = .ok (.iload_n 1, 1) := by decide +kernel
theorem dX9_release_2 : decode cX9_release 2 = .ok (.iload_n 2, 1) := by decide +kernel
theorem dX9_release_3 : decode cX9_release 3 = .ok (.invokevirtual 249, 3) := by decide +kernel
theorem dX9_release_6 : decode cX9_release 6 = .ok (.ifCond .ne 32, 3) := by decide +kernel
theorem dX9_release_9 : decode cX9_release 9 = .ok (.aload_n 0, 1) := by decide +kernel
theorem dX9_release_10 : decode cX9_release 10 = .ok (.aload_n 0, 1) := by decide +kernel
theorem dX9_release_11 : decode cX9_release 11 = .ok (.getfield 7, 3) := by decide +kernel
theorem dX9_release_14 : decode cX9_release 14 = .ok (.iload_n 1, 1) := by decide +kernel
theorem dX9_release_15 : decode cX9_release 15 = .ok (.iload_n 2, 1) := by decide +kernel
theorem dX9_release_16 : decode cX9_release 16 = .ok (.invokestatic 252, 3) := by decide +kernel
theorem dX9_release_19 : decode cX9_release 19 = .ok (.iconst 0, 1) := by decide +kernel
theorem dX9_release_20 : decode cX9_release 20 = .ok (.iadd, 1) := by decide +kernel
theorem dX9_release_21 : decode cX9_release 21 = .ok (.iaload, 1) := by decide +kernel
theorem dX9_release_22 : decode cX9_release 22 = .ok (.iconst 2, 1) := by decide +kernel
theorem dX9_release_23 : decode cX9_release 23 = .ok (.if_icmp .eq 7, 3) := by decide +kernel
theorem dX9_release_26 : decode cX9_release 26 = .ok (.iconst 1, 1) := by decide +kernel
theorem dX9_release_27 : decode cX9_release 27 = .ok (.goto 4, 3) := by decide +kernel
theorem dX9_release_30 : decode cX9_release 30 = .ok (.iconst 0, 1) := by decide +kernel
theorem dX9_release_31 : decode cX9_release 31 = .ok (.iconst 2, 1) := by decide +kernel
theorem dX9_release_32 : decode cX9_release 32 = .ok (.invokevirtual 210, 3) := by decide +kernel
theorem dX9_release_35 : decode cX9_release 35 = .ok (.ifCond .eq 5, 3) := by decide +kernel
theorem dX9_release_38 : decode cX9_release 38 = .ok (.iconst 0, 1) := by decide +kernel
theorem dX9_release_39 : decode cX9_release 39 = .ok (.ireturn, 1) := by decide +kernel
theorem dX9_release_40 : decode cX9_release 40 = .ok (.aload_n 0, 1) := by decide +kernel
theorem dX9_release_41 : decode cX9_release 41 = .ok (.invokevirtual 318, 3) := by decide +kernel
theorem dX9_release_44 : decode cX9_release 44 = .ok (.iload_n 1, 1) := by decide +kernel
theorem dX9_release_45 : decode cX9_release 45 = .ok (.iload_n 2, 1) := by decide +kernel
theorem dX9_release_46 : decode cX9_release 46 = .ok (.invokestatic 252, 3) := by decide +kernel
theorem dX9_release_49 : decode cX9_release 49 = .ok (.istore_n 3, 1) := by decide +kernel
theorem dX9_release_50 : decode cX9_release 50 = .ok (.aload_n 0, 1) := by decide +kernel
theorem dX9_release_51 : decode cX9_release 51 = .ok (.getfield 7, 3) := by decide +kernel
theorem dX9_release_54 : decode cX9_release 54 = .ok (.iload_n 3, 1) := by decide +kernel
theorem dX9_release_55 : decode cX9_release 55 = .ok (.iconst 2, 1) := by decide +kernel
theorem dX9_release_56 : decode cX9_release 56 = .ok (.iadd, 1) := by decide +kernel
theorem dX9_release_57 : decode cX9_release 57 = .ok (.iaload, 1) := by decide +kernel
theorem dX9_release_58 : decode cX9_release 58 = .ok (.invokestatic 255, 3) := by decide +kernel
theorem dX9_release_61 : decode cX9_release 61 = .ok (.istore 4, 2) := by decide +kernel
theorem dX9_release_63 : decode cX9_release 63 = .ok (.aload_n 0, 1) := by decide +kernel
theorem dX9_release_64 : decode cX9_release 64 = .ok (.getfield 7, 3) := by decide +kernel
theorem dX9_release_67 : decode cX9_release 67 = .ok (.iload_n 3, 1) := by decide +kernel
theorem dX9_release_68 : decode cX9_release 68 = .ok (.iconst 0, 1) := by decide +kernel
theorem dX9_release_69 : decode cX9_release 69 = .ok (.iadd, 1) := by decide +kernel
theorem dX9_release_70 : decode cX9_release 70 = .ok (.iconst 0, 1) := by decide +kernel
theorem dX9_release_71 : decode cX9_release 71 = .ok (.iastore, 1) := by decide +kernel
theorem dX9_release_72 : decode cX9_release 72 = .ok (.aload_n 0, 1) := by decide +kernel
theorem dX9_release_73 : decode cX9_release 73 = .ok (.getfield 7, 3) := by decide +kernel
theorem dX9_release_76 : decode cX9_release 76 = .ok (.iload_n 3, 1) := by decide +kernel
theorem dX9_release_77 : decode cX9_release 77 = .ok (.iconst 2, 1) := by decide +kernel
theorem dX9_release_78 : decode cX9_release 78 = .ok (.iadd, 1) := by decide +kernel
theorem dX9_release_79 : decode cX9_release 79 = .ok (.iconst 0, 1) := by decide +kernel
theorem dX9_release_80 : decode cX9_release 80 = .ok (.iastore, 1) := by decide +kernel
theorem dX9_release_81 : decode cX9_release 81 = .ok (.iload 4, 2) := by decide +kernel
theorem dX9_release_83 : decode cX9_release 83 = .ok (.ireturn, 1) := by decide +kernel
theorem dX9_copies_0 : decode cX9_copies 0 = .ok (.iconst 0, 1) := by decide +kernel
theorem dX9_copies_1 : decode cX9_copies 1 = .ok (.istore 5, 2) := by decide +kernel
theorem dX9_copies_3 : decode cX9_copies 3 = .ok (.iload 5, 2) := by decide +kernel
theorem dX9_copies_5 : decode cX9_copies 5 = .ok (.iload 4, 2) := by decide +kernel
theorem dX9_copies_7 : decode cX9_copies 7 = .ok (.if_icmp .ge 21, 3) := by decide +kernel
theorem dX9_copies_10 : decode cX9_copies 10 = .ok (.aload_n 2, 1) := by decide +kernel
theorem dX9_copies_11 : decode cX9_copies 11 = .ok (.iload_n 3, 1) := by decide +kernel
theorem dX9_copies_12 : decode cX9_copies 12 = .ok (.iload 5, 2) := by decide +kernel
theorem dX9_copies_14 : decode cX9_copies 14 = .ok (.iadd, 1) := by decide +kernel
theorem dX9_copies_15 : decode cX9_copies 15 = .ok (.aload_n 0, 1) := by decide +kernel
theorem dX9_copies_16 : decode cX9_copies 16 = .ok (.iload_n 1, 1) := by decide +kernel
theorem dX9_copies_17 : decode cX9_copies 17 = .ok (.iload 5, 2) := by decide +kernel
theorem dX9_copies_19 : decode cX9_copies 19 = .ok (.iadd, 1) := by decide +kernel
theorem dX9_copies_20 : decode cX9_copies 20 = .ok (.iaload, 1) := by decide +kernel
theorem dX9_copies_21 : decode cX9_copies 21 = .ok (.iastore, 1) := by decide +kernel
theorem dX9_copies_22 : decode cX9_copies 22 = .ok (.iinc 5 1, 3) := by decide +kernel
theorem dX9_copies_25 : decode cX9_copies 25 = .ok (.goto (-22), 3) := by decide +kernel
theorem dX9_copies_28 : decode cX9_copies 28 = .ok (.return_, 1) := by decide +kernel
theorem dX9_keeps_0 : decode cX9_keeps 0 = .ok (.aload_n 0, 1) := by decide +kernel
theorem dX9_keeps_1 : decode cX9_keeps 1 = .ok (.getfield 217, 3) := by decide +kernel
theorem dX9_keeps_4 : decode cX9_keeps 4 = .ok (.bipush 10, 2) := by decide +kernel
theorem dX9_keeps_6 : decode cX9_keeps 6 = .ok (.if_icmp .ne 36, 3) := by decide +kernel
theorem dX9_keeps_9 : decode cX9_keeps 9 = .ok (.aload_n 0, 1) := by decide +kernel
theorem dX9_keeps_10 : decode cX9_keeps 10 = .ok (.dup, 1) := by decide +kernel
theorem dX9_keeps_11 : decode cX9_keeps 11 = .ok (.getfield 217, 3) := by decide +kernel
theorem dX9_keeps_14 : decode cX9_keeps 14 = .ok (.iconst 1, 1) := by decide +kernel
theorem dX9_keeps_15 : decode cX9_keeps 15 = .ok (.isub, 1) := by decide +kernel
theorem dX9_keeps_16 : decode cX9_keeps 16 = .ok (.putfield 217, 3) := by decide +kernel
theorem dX9_keeps_19 : decode cX9_keeps 19 = .ok (.aload_n 0, 1) := by decide +kernel
theorem dX9_keeps_20 : decode cX9_keeps 20 = .ok (.getfield 51, 3) := by decide +kernel
theorem dX9_keeps_23 : decode cX9_keeps 23 = .ok (.sipush 2075, 3) := by decide +kernel
theorem dX9_keeps_26 : decode cX9_keeps 26 = .ok (.aload_n 0, 1) := by decide +kernel
theorem dX9_keeps_27 : decode cX9_keeps 27 = .ok (.getfield 51, 3) := by decide +kernel
theorem dX9_keeps_30 : decode cX9_keeps 30 = .ok (.iconst 0, 1) := by decide +kernel
theorem dX9_keeps_31 : decode cX9_keeps 31 = .ok (.sipush 2075, 3) := by decide +kernel
theorem dX9_keeps_34 : decode cX9_keeps 34 = .ok (.aload_n 0, 1) := by decide +kernel
theorem dX9_keeps_35 : decode cX9_keeps 35 = .ok (.getfield 217, 3) := by decide +kernel
theorem dX9_keeps_38 : decode cX9_keeps 38 = .ok (.imul, 1) := by decide +kernel
theorem dX9_keeps_39 : decode cX9_keeps 39 = .ok (.invokestatic 305, 3) := by decide +kernel
theorem dX9_keeps_42 : decode cX9_keeps 42 = .ok (.aload_n 0, 1) := by decide +kernel
theorem dX9_keeps_43 : decode cX9_keeps 43 = .ok (.getfield 7, 3) := by decide +kernel
theorem dX9_keeps_46 : decode cX9_keeps 46 = .ok (.iconst 0, 1) := by decide +kernel
theorem dX9_keeps_47 : decode cX9_keeps 47 = .ok (.aload_n 0, 1) := by decide +kernel
theorem dX9_keeps_48 : decode cX9_keeps 48 = .ok (.getfield 51, 3) := by decide +kernel
theorem dX9_keeps_51 : decode cX9_keeps 51 = .ok (.sipush 2075, 3) := by decide +kernel
theorem dX9_keeps_54 : decode cX9_keeps 54 = .ok (.aload_n 0, 1) := by decide +kernel
theorem dX9_keeps_55 : decode cX9_keeps 55 = .ok (.getfield 217, 3) := by decide +kernel
theorem dX9_keeps_58 : decode cX9_keeps 58 = .ok (.imul, 1) := by decide +kernel
theorem dX9_keeps_59 : decode cX9_keeps 59 = .ok (.sipush 2075, 3) := by decide +kernel
theorem dX9_keeps_62 : decode cX9_keeps 62 = .ok (.invokestatic 305, 3) := by decide +kernel
theorem dX9_keeps_65 : decode cX9_keeps 65 = .ok (.aload_n 0, 1) := by decide +kernel
theorem dX9_keeps_66 : decode cX9_keeps 66 = .ok (.dup, 1) := by decide +kernel
theorem dX9_keeps_67 : decode cX9_keeps 67 = .ok (.getfield 217, 3) := by decide +kernel
theorem dX9_keeps_70 : decode cX9_keeps 70 = .ok (.iconst 1, 1) := by decide +kernel
theorem dX9_keeps_71 : decode cX9_keeps 71 = .ok (.iadd, 1) := by decide +kernel
theorem dX9_keeps_72 : decode cX9_keeps 72 = .ok (.putfield 217, 3) := by decide +kernel
theorem dX9_keeps_75 : decode cX9_keeps 75 = .ok (.return_, 1) := by decide +kernel
theorem dX9_undo_0 : decode cX9_undo 0 = .ok (.aload_n 0, 1) := by decide +kernel
theorem dX9_undo_1 : decode cX9_undo 1 = .ok (.iconst 0, 1) := by decide +kernel
theorem dX9_undo_2 : decode cX9_undo 2 = .ok (.putfield 70, 3) := by decide +kernel
theorem dX9_undo_5 : decode cX9_undo 5 = .ok (.aload_n 0, 1) := by decide +kernel
theorem dX9_undo_6 : decode cX9_undo 6 = .ok (.getfield 217, 3) := by decide +kernel
theorem dX9_undo_9 : decode cX9_undo 9 = .ok (.ifCond .ne 5, 3) := by decide +kernel
theorem dX9_undo_12 : decode cX9_undo 12 = .ok (.iconst (-1), 1) := by decide +kernel
theorem dX9_undo_13 : decode cX9_undo 13 = .ok (.ireturn, 1) := by decide +kernel
theorem dX9_undo_14 : decode cX9_undo 14 = .ok (.aload_n 0, 1) := by decide +kernel
theorem dX9_undo_15 : decode cX9_undo 15 = .ok (.dup, 1) := by decide +kernel
theorem dX9_undo_16 : decode cX9_undo 16 = .ok (.getfield 217, 3) := by decide +kernel
theorem dX9_undo_19 : decode cX9_undo 19 = .ok (.iconst 1, 1) := by decide +kernel
theorem dX9_undo_20 : decode cX9_undo 20 = .ok (.isub, 1) := by decide +kernel
theorem dX9_undo_21 : decode cX9_undo 21 = .ok (.putfield 217, 3) := by decide +kernel
theorem dX9_undo_24 : decode cX9_undo 24 = .ok (.aload_n 0, 1) := by decide +kernel
theorem dX9_undo_25 : decode cX9_undo 25 = .ok (.getfield 51, 3) := by decide +kernel
theorem dX9_undo_28 : decode cX9_undo 28 = .ok (.sipush 2075, 3) := by decide +kernel
theorem dX9_undo_31 : decode cX9_undo 31 = .ok (.aload_n 0, 1) := by decide +kernel
theorem dX9_undo_32 : decode cX9_undo 32 = .ok (.getfield 217, 3) := by decide +kernel
theorem dX9_undo_35 : decode cX9_undo 35 = .ok (.imul, 1) := by decide +kernel
theorem dX9_undo_36 : decode cX9_undo 36 = .ok (.aload_n 0, 1) := by decide +kernel
theorem dX9_undo_37 : decode cX9_undo 37 = .ok (.getfield 7, 3) := by decide +kernel
theorem dX9_undo_40 : decode cX9_undo 40 = .ok (.iconst 0, 1) := by decide +kernel
theorem dX9_undo_41 : decode cX9_undo 41 = .ok (.sipush 2075, 3) := by decide +kernel
theorem dX9_undo_44 : decode cX9_undo 44 = .ok (.invokestatic 305, 3) := by decide +kernel
theorem dX9_undo_47 : decode cX9_undo 47 = .ok (.aload_n 0, 1) := by decide +kernel
theorem dX9_undo_48 : decode cX9_undo 48 = .ok (.getfield 217, 3) := by decide +kernel
theorem dX9_undo_51 : decode cX9_undo 51 = .ok (.ireturn, 1) := by decide +kernel
theorem dX9_noSlot_0 : decode cX9_noSlot 0 = .ok (.aload_n 0, 1) := by decide +kernel
theorem dX9_noSlot_1 : decode cX9_noSlot 1 = .ok (.iconst 0, 1) := by decide +kernel
theorem dX9_noSlot_2 : decode cX9_noSlot 2 = .ok (.putfield 70, 3) := by decide +kernel
theorem dX9_noSlot_5 : decode cX9_noSlot 5 = .ok (.aload_n 0, 1) := by decide +kernel
theorem dX9_noSlot_6 : decode cX9_noSlot 6 = .ok (.iload_n 1, 1) := by decide +kernel
theorem dX9_noSlot_7 : decode cX9_noSlot 7 = .ok (.iconst 2, 1) := by decide +kernel
theorem dX9_noSlot_8 : decode cX9_noSlot 8 = .ok (.invokevirtual 220, 3) := by decide +kernel
theorem dX9_noSlot_11 : decode cX9_noSlot 11 = .ok (.ireturn, 1) := by decide +kernel
theorem dX9_saveSnapshot_0 : decode cX9_saveSnapshot 0 = .ok (.aload_n 0, 1) := by decide +kernel
theorem dX9_saveSnapshot_1 : decode cX9_saveSnapshot 1 = .ok (.iload_n 1, 1) := by decide +kernel
theorem dX9_saveSnapshot_2 : decode cX9_saveSnapshot 2 = .ok (.invokevirtual 330, 3) := by decide +kernel
theorem dX9_saveSnapshot_5 : decode cX9_saveSnapshot 5 = .ok (.ifCond .eq 5, 3) := by decide +kernel
theorem dX9_saveSnapshot_8 : decode cX9_saveSnapshot 8 = .ok (.iconst 0, 1) := by decide +kernel
theorem dX9_saveSnapshot_9 : decode cX9_saveSnapshot 9 = .ok (.ireturn, 1) := by decide +kernel
theorem dX9_saveSnapshot_10 : decode cX9_saveSnapshot 10 = .ok (.aload_n 0, 1) := by decide +kernel
theorem dX9_saveSnapshot_11 : decode cX9_saveSnapshot 11 = .ok (.getfield 57, 3) := by decide +kernel
theorem dX9_saveSnapshot_14 : decode cX9_saveSnapshot 14 = .ok (.iload_n 1, 1) := by decide +kernel
theorem dX9_saveSnapshot_15 : decode cX9_saveSnapshot 15 = .ok (.baload, 1) := by decide +kernel
theorem dX9_saveSnapshot_16 : decode cX9_saveSnapshot 16 = .ok (.istore_n 2, 1) := by decide +kernel
theorem dX9_saveSnapshot_17 : decode cX9_saveSnapshot 17 = .ok (.aload_n 0, 1) := by decide +kernel
theorem dX9_saveSnapshot_18 : decode cX9_saveSnapshot 18 = .ok (.getfield 7, 3) := by decide +kernel
theorem dX9_saveSnapshot_21 : decode cX9_saveSnapshot 21 = .ok (.iconst 0, 1) := by decide +kernel
theorem dX9_saveSnapshot_22 : decode cX9_saveSnapshot 22 = .ok (.aload_n 0, 1) := by decide +kernel
theorem dX9_saveSnapshot_23 : decode cX9_saveSnapshot 23 = .ok (.getfield 54, 3) := by decide +kernel
theorem dX9_saveSnapshot_26 : decode cX9_saveSnapshot 26 = .ok (.sipush 2075, 3) := by decide +kernel
theorem dX9_saveSnapshot_29 : decode cX9_saveSnapshot 29 = .ok (.iload_n 1, 1) := by decide +kernel
theorem dX9_saveSnapshot_30 : decode cX9_saveSnapshot 30 = .ok (.imul, 1) := by decide +kernel
theorem dX9_saveSnapshot_31 : decode cX9_saveSnapshot 31 = .ok (.sipush 2075, 3) := by decide +kernel
theorem dX9_saveSnapshot_34 : decode cX9_saveSnapshot 34 = .ok (.invokestatic 305, 3) := by decide +kernel
theorem dX9_saveSnapshot_37 : decode cX9_saveSnapshot 37 = .ok (.aload_n 0, 1) := by decide +kernel
theorem dX9_saveSnapshot_38 : decode cX9_saveSnapshot 38 = .ok (.getfield 57, 3) := by decide +kernel
theorem dX9_saveSnapshot_41 : decode cX9_saveSnapshot 41 = .ok (.iload_n 1, 1) := by decide +kernel
theorem dX9_saveSnapshot_42 : decode cX9_saveSnapshot 42 = .ok (.iconst 1, 1) := by decide +kernel
theorem dX9_saveSnapshot_43 : decode cX9_saveSnapshot 43 = .ok (.bastore, 1) := by decide +kernel
theorem dX9_saveSnapshot_44 : decode cX9_saveSnapshot 44 = .ok (.iload_n 2, 1) := by decide +kernel
theorem dX9_saveSnapshot_45 : decode cX9_saveSnapshot 45 = .ok (.ireturn, 1) := by decide +kernel
theorem dX9_restoreSnapshot_0 : decode cX9_restoreSnapshot 0 = .ok (.aload_n 0, 1) := by decide +kernel
theorem dX9_restoreSnapshot_1 : decode cX9_restoreSnapshot 1 = .ok (.iload_n 1, 1) := by decide +kernel
theorem dX9_restoreSnapshot_2 : decode cX9_restoreSnapshot 2 = .ok (.invokevirtual 330, 3) := by decide +kernel
theorem dX9_restoreSnapshot_5 : decode cX9_restoreSnapshot 5 = .ok (.ifCond .ne 25, 3) := by decide +kernel
theorem dX9_restoreSnapshot_8 : decode cX9_restoreSnapshot 8 = .ok (.aload_n 0, 1) := by decide +kernel
theorem dX9_restoreSnapshot_9 : decode cX9_restoreSnapshot 9 = .ok (.aload_n 0, 1) := by decide +kernel
theorem dX9_restoreSnapshot_10 : decode cX9_restoreSnapshot 10 = .ok (.getfield 57, 3) := by decide +kernel
theorem dX9_restoreSnapshot_13 : decode cX9_restoreSnapshot 13 = .ok (.iload_n 1, 1) := by decide +kernel
theorem dX9_restoreSnapshot_14 : decode cX9_restoreSnapshot 14 = .ok (.baload, 1) := by decide +kernel
theorem dX9_restoreSnapshot_15 : decode cX9_restoreSnapshot 15 = .ok (.ifCond .ne 7, 3) := by decide +kernel
theorem dX9_restoreSnapshot_18 : decode cX9_restoreSnapshot 18 = .ok (.iconst 1, 1) := by decide +kernel
theorem dX9_restoreSnapshot_19 : decode cX9_restoreSnapshot 19 = .ok (.goto 4, 3) := by decide +kernel
theorem dX9_restoreSnapshot_22 : decode cX9_restoreSnapshot 22 = .ok (.iconst 0, 1) := by decide +kernel
theorem dX9_restoreSnapshot_23 : decode cX9_restoreSnapshot 23 = .ok (.iconst 2, 1) := by decide +kernel
theorem dX9_restoreSnapshot_24 : decode cX9_restoreSnapshot 24 = .ok (.invokevirtual 210, 3) := by decide +kernel
theorem dX9_restoreSnapshot_27 : decode cX9_restoreSnapshot 27 = .ok (.ifCond .eq 5, 3) := by decide +kernel
theorem dX9_restoreSnapshot_30 : decode cX9_restoreSnapshot 30 = .ok (.iconst 0, 1) := by decide +kernel
theorem dX9_restoreSnapshot_31 : decode cX9_restoreSnapshot 31 = .ok (.ireturn, 1) := by decide +kernel
theorem dX9_restoreSnapshot_32 : decode cX9_restoreSnapshot 32 = .ok (.aload_n 0, 1) := by decide +kernel
theorem dX9_restoreSnapshot_33 : decode cX9_restoreSnapshot 33 = .ok (.getfield 54, 3) := by decide +kernel
theorem dX9_restoreSnapshot_36 : decode cX9_restoreSnapshot 36 = .ok (.sipush 2075, 3) := by decide +kernel
theorem dX9_restoreSnapshot_39 : decode cX9_restoreSnapshot 39 = .ok (.iload_n 1, 1) := by decide +kernel
theorem dX9_restoreSnapshot_40 : decode cX9_restoreSnapshot 40 = .ok (.imul, 1) := by decide +kernel
theorem dX9_restoreSnapshot_41 : decode cX9_restoreSnapshot 41 = .ok (.aload_n 0, 1) := by decide +kernel
theorem dX9_restoreSnapshot_42 : decode cX9_restoreSnapshot 42 = .ok (.getfield 7, 3) := by decide +kernel
theorem dX9_restoreSnapshot_45 : decode cX9_restoreSnapshot 45 = .ok (.iconst 0, 1) := by decide +kernel
theorem dX9_restoreSnapshot_46 : decode cX9_restoreSnapshot 46 = .ok (.sipush 2075, 3) := by decide +kernel
theorem dX9_restoreSnapshot_49 : decode cX9_restoreSnapshot 49 = .ok (.invokestatic 305, 3) := by decide +kernel
theorem dX9_restoreSnapshot_52 : decode cX9_restoreSnapshot 52 = .ok (.aload_n 0, 1) := by decide +kernel
theorem dX9_restoreSnapshot_53 : decode cX9_restoreSnapshot 53 = .ok (.iconst 0, 1) := by decide +kernel
theorem dX9_restoreSnapshot_54 : decode cX9_restoreSnapshot 54 = .ok (.putfield 217, 3) := by decide +kernel
theorem dX9_restoreSnapshot_57 : decode cX9_restoreSnapshot 57 = .ok (.aload_n 0, 1) := by decide +kernel
theorem dX9_restoreSnapshot_58 : decode cX9_restoreSnapshot 58 = .ok (.getfield 7, 3) := by decide +kernel
theorem dX9_restoreSnapshot_61 : decode cX9_restoreSnapshot 61 = .ok (.iconst 0, 1) := by decide +kernel
theorem dX9_restoreSnapshot_62 : decode cX9_restoreSnapshot 62 = .ok (.iaload, 1) := by decide +kernel
theorem dX9_restoreSnapshot_63 : decode cX9_restoreSnapshot 63 = .ok (.ireturn, 1) := by decide +kernel
