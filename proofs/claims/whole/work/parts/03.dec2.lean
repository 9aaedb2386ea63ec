theorem dX12_number_36 : decode cX12_number 36 = .ok (.ifCond .eq 41, 3) := by decide +kernel
theorem dX12_number_39 : decode cX12_number 39 = .ok (.iload_n 3, 1) := by decide +kernel
theorem dX12_number_40 : decode cX12_number 40 = .ok (.iconst 2, 1) := by decide +kernel
theorem dX12_number_41 : decode cX12_number 41 = .ok (.if_icmp .ge 26, 3) := by decide +kernel
theorem dX12_number_44 : decode cX12_number 44 = .ok (.bipush 10, 2) := by decide +kernel
theorem dX12_number_46 : decode cX12_number 46 = .ok (.iload 4, 2) := by decide +kernel
theorem dX12_number_48 : decode cX12_number 48 = .ok (.imul, 1) := by decide +kernel
theorem dX12_number_49 : decode cX12_number 49 = .ok (.aload_n 0, 1) := by decide +kernel
theorem dX12_number_50 : decode cX12_number 50 = .ok (.getfield 34, 3) := by decide +kernel
theorem dX12_number_53 : decode cX12_number 53 = .ok (.aload_n 0, 1) := by decide +kernel
theorem dX12_number_54 : decode cX12_number 54 = .ok (.getfield 122, 3) := by decide +kernel
theorem dX12_number_57 : decode cX12_number 57 = .ok (.iload_n 3, 1) := by decide +kernel
theorem dX12_number_58 : decode cX12_number 58 = .ok (.iadd, 1) := by decide +kernel
theorem dX12_number_59 : decode cX12_number 59 = .ok (.iaload, 1) := by decide +kernel
theorem dX12_number_60 : decode cX12_number 60 = .ok (.iadd, 1) := by decide +kernel
theorem dX12_number_61 : decode cX12_number 61 = .ok (.bipush 48, 2) := by decide +kernel
theorem dX12_number_63 : decode cX12_number 63 = .ok (.isub, 1) := by decide +kernel
theorem dX12_number_64 : decode cX12_number 64 = .ok (.goto 5, 3) := by decide +kernel
theorem dX12_number_67 : decode cX12_number 67 = .ok (.iload 4, 2) := by decide +kernel
theorem dX12_number_69 : decode cX12_number 69 = .ok (.istore 4, 2) := by decide +kernel
theorem dX12_number_71 : decode cX12_number 71 = .ok (.iinc 3 1, 3) := by decide +kernel
theorem dX12_number_74 : decode cX12_number 74 = .ok (.goto (-65), 3) := by decide +kernel
theorem dX12_number_77 : decode cX12_number 77 = .ok (.iload_n 3, 1) := by decide +kernel
theorem dX12_number_78 : decode cX12_number 78 = .ok (.iconst 1, 1) := by decide +kernel
theorem dX12_number_79 : decode cX12_number 79 = .ok (.iconst 2, 1) := by decide +kernel
theorem dX12_number_80 : decode cX12_number 80 = .ok (.invokestatic 93, 3) := by decide +kernel
theorem dX12_number_83 : decode cX12_number 83 = .ok (.ifCond .eq 13, 3) := by decide +kernel
theorem dX12_number_86 : decode cX12_number 86 = .ok (.iload 4, 2) := by decide +kernel
theorem dX12_number_88 : decode cX12_number 88 = .ok (.iload_n 1, 1) := by decide +kernel
theorem dX12_number_89 : decode cX12_number 89 = .ok (.iload_n 2, 1) := by decide +kernel
theorem dX12_number_90 : decode cX12_number 90 = .ok (.invokestatic 93, 3) := by decide +kernel
theorem dX12_number_93 : decode cX12_number 93 = .ok (.ifCond .ne 5, 3) := by decide +kernel
theorem dX12_number_96 : decode cX12_number 96 = .ok (.iconst 0, 1) := by decide +kernel
theorem dX12_number_97 : decode cX12_number 97 = .ok (.ireturn, 1) := by decide +kernel
theorem dX12_number_98 : decode cX12_number 98 = .ok (.aload_n 0, 1) := by decide +kernel
theorem dX12_number_99 : decode cX12_number 99 = .ok (.iload 4, 2) := by decide +kernel
theorem dX12_number_101 : decode cX12_number 101 = .ok (.putfield 147, 3) := by decide +kernel
theorem dX12_number_104 : decode cX12_number 104 = .ok (.aload_n 0, 1) := by decide +kernel
theorem dX12_number_105 : decode cX12_number 105 = .ok (.dup, 1) := by decide +kernel
theorem dX12_number_106 : decode cX12_number 106 = .ok (.getfield 122, 3) := by decide +kernel
theorem dX12_number_109 : decode cX12_number 109 = .ok (.iload_n 3, 1) := by decide +kernel
theorem dX12_number_110 : decode cX12_number 110 = .ok (.iadd, 1) := by decide +kernel
theorem dX12_number_111 : decode cX12_number 111 = .ok (.putfield 122, 3) := by decide +kernel
theorem dX12_number_114 : decode cX12_number 114 = .ok (.iconst 1, 1) := by decide +kernel
theorem dX12_number_115 : decode cX12_number 115 = .ok (.ireturn, 1) := by decide +kernel
theorem dX12_ends_0 : decode cX12_ends 0 = .ok (.aload_n 0, 1) := by decide +kernel
theorem dX12_ends_1 : decode cX12_ends 1 = .ok (.invokevirtual 141, 3) := by decide +kernel
theorem dX12_ends_4 : decode cX12_ends 4 = .ok (.aload_n 0, 1) := by decide +kernel
theorem dX12_ends_5 : decode cX12_ends 5 = .ok (.invokevirtual 125, 3) := by decide +kernel
theorem dX12_ends_8 : decode cX12_ends 8 = .ok (.bipush 59, 2) := by decide +kernel
theorem dX12_ends_10 : decode cX12_ends 10 = .ok (.if_icmp .eq 5, 3) := by decide +kernel
theorem dX12_ends_13 : decode cX12_ends 13 = .ok (.iconst 0, 1) := by decide +kernel
theorem dX12_ends_14 : decode cX12_ends 14 = .ok (.ireturn, 1) := by decide +kernel
theorem dX12_ends_15 : decode cX12_ends 15 = .ok (.aload_n 0, 1) := by decide +kernel
theorem dX12_ends_16 : decode cX12_ends 16 = .ok (.dup, 1) := by decide +kernel
theorem dX12_ends_17 : decode cX12_ends 17 = .ok (.getfield 122, 3) := by decide +kernel
theorem dX12_ends_20 : decode cX12_ends 20 = .ok (.iconst 1, 1) := by decide +kernel
theorem dX12_ends_21 : decode cX12_ends 21 = .ok (.iadd, 1) := by decide +kernel
theorem dX12_ends_22 : decode cX12_ends 22 = .ok (.putfield 122, 3) := by decide +kernel
theorem dX12_ends_25 : decode cX12_ends 25 = .ok (.iconst 1, 1) := by decide +kernel
theorem dX12_ends_26 : decode cX12_ends 26 = .ok (.ireturn, 1) := by decide +kernel
theorem dX12_readsRock_0 : decode cX12_readsRock 0 = .ok (.aload_n 0, 1) := by decide +kernel
theorem dX12_readsRock_1 : decode cX12_readsRock 1 = .ok (.invokevirtual 141, 3) := by decide +kernel
theorem dX12_readsRock_4 : decode cX12_readsRock 4 = .ok (.aload_n 0, 1) := by decide +kernel
theorem dX12_readsRock_5 : decode cX12_readsRock 5 = .ok (.getfield 122, 3) := by decide +kernel
theorem dX12_readsRock_8 : decode cX12_readsRock 8 = .ok (.istore_n 2, 1) := by decide +kernel
theorem dX12_readsRock_9 : decode cX12_readsRock 9 = .ok (.aload_n 0, 1) := by decide +kernel
theorem dX12_readsRock_10 : decode cX12_readsRock 10 = .ok (.iconst 0, 1) := by decide +kernel
theorem dX12_readsRock_11 : decode cX12_readsRock 11 = .ok (.bipush 60, 2) := by decide +kernel
theorem dX12_readsRock_13 : decode cX12_readsRock 13 = .ok (.invokevirtual 150, 3) := by decide +kernel
theorem dX12_readsRock_16 : decode cX12_readsRock 16 = .ok (.ifCond .ne 5, 3) := by decide +kernel
theorem dX12_readsRock_19 : decode cX12_readsRock 19 = .ok (.iconst 0, 1) := by decide +kernel
theorem dX12_readsRock_20 : decode cX12_readsRock 20 = .ok (.ireturn, 1) := by decide +kernel
theorem dX12_readsRock_21 : decode cX12_readsRock 21 = .ok (.iload_n 1, 1) := by decide +kernel
theorem dX12_readsRock_22 : decode cX12_readsRock 22 = .ok (.aload_n 0, 1) := by decide +kernel
theorem dX12_readsRock_23 : decode cX12_readsRock 23 = .ok (.getfield 147, 3) := by decide +kernel
theorem dX12_readsRock_26 : decode cX12_readsRock 26 = .ok (.imul, 1) := by decide +kernel
theorem dX12_readsRock_27 : decode cX12_readsRock 27 = .ok (.istore_n 3, 1) := by decide +kernel
theorem dX12_readsRock_28 : decode cX12_readsRock 28 = .ok (.iconst 0, 1) := by decide +kernel
theorem dX12_readsRock_29 : decode cX12_readsRock 29 = .ok (.istore 4, 2) := by decide +kernel
theorem dX12_readsRock_31 : decode cX12_readsRock 31 = .ok (.iload 4, 2) := by decide +kernel
theorem dX12_readsRock_33 : decode cX12_readsRock 33 = .ok (.aload_n 0, 1) := by decide +kernel
theorem dX12_readsRock_34 : decode cX12_readsRock 34 = .ok (.getfield 154, 3) := by decide +kernel
theorem dX12_readsRock_37 : decode cX12_readsRock 37 = .ok (.if_icmp .ge 27, 3) := by decide +kernel
theorem dX12_readsRock_40 : decode cX12_readsRock 40 = .ok (.aload_n 0, 1) := by decide +kernel
theorem dX12_readsRock_41 : decode cX12_readsRock 41 = .ok (.getfield 37, 3) := by decide +kernel
theorem dX12_readsRock_44 : decode cX12_readsRock 44 = .ok (.iload 4, 2) := by decide +kernel
theorem dX12_readsRock_46 : decode cX12_readsRock 46 = .ok (.iaload, 1) := by decide +kernel
theorem dX12_readsRock_47 : decode cX12_readsRock 47 = .ok (.iload_n 3, 1) := by decide +kernel
theorem dX12_readsRock_48 : decode cX12_readsRock 48 = .ok (.if_icmp .ne 10, 3) := by decide +kernel
theorem dX12_readsRock_51 : decode cX12_readsRock 51 = .ok (.aload_n 0, 1) := by decide +kernel
theorem dX12_readsRock_52 : decode cX12_readsRock 52 = .ok (.iload_n 2, 1) := by decide +kernel
theorem dX12_readsRock_53 : decode cX12_readsRock 53 = .ok (.putfield 122, 3) := by decide +kernel
theorem dX12_readsRock_56 : decode cX12_readsRock 56 = .ok (.iconst 0, 1) := by decide +kernel
theorem dX12_readsRock_57 : decode cX12_readsRock 57 = .ok (.ireturn, 1) := by decide +kernel
theorem dX12_readsRock_58 : decode cX12_readsRock 58 = .ok (.iinc 4 1, 3) := by decide +kernel
theorem dX12_readsRock_61 : decode cX12_readsRock 61 = .ok (.goto (-30), 3) := by decide +kernel
theorem dX12_readsRock_64 : decode cX12_readsRock 64 = .ok (.aload_n 0, 1) := by decide +kernel
theorem dX12_readsRock_65 : decode cX12_readsRock 65 = .ok (.getfield 37, 3) := by decide +kernel
theorem dX12_readsRock_68 : decode cX12_readsRock 68 = .ok (.aload_n 0, 1) := by decide +kernel
theorem dX12_readsRock_69 : decode cX12_readsRock 69 = .ok (.getfield 154, 3) := by decide +kernel
theorem dX12_readsRock_72 : decode cX12_readsRock 72 = .ok (.iload_n 3, 1) := by decide +kernel
theorem dX12_readsRock_73 : decode cX12_readsRock 73 = .ok (.iastore, 1) := by decide +kernel
theorem dX12_readsRock_74 : decode cX12_readsRock 74 = .ok (.aload_n 0, 1) := by decide +kernel
theorem dX12_readsRock_75 : decode cX12_readsRock 75 = .ok (.dup, 1) := by decide +kernel
theorem dX12_readsRock_76 : decode cX12_readsRock 76 = .ok (.getfield 154, 3) := by decide +kernel
theorem dX12_readsRock_79 : decode cX12_readsRock 79 = .ok (.iconst 1, 1) := by decide +kernel
theorem dX12_readsRock_80 : decode cX12_readsRock 80 = .ok (.iadd, 1) := by decide +kernel
theorem dX12_readsRock_81 : decode cX12_readsRock 81 = .ok (.putfield 154, 3) := by decide +kernel
theorem dX12_readsRock_84 : decode cX12_readsRock 84 = .ok (.aload_n 0, 1) := by decide +kernel
theorem dX12_readsRock_85 : decode cX12_readsRock 85 = .ok (.invokevirtual 157, 3) := by decide +kernel
theorem dX12_readsRock_88 : decode cX12_readsRock 88 = .ok (.ireturn, 1) := by decide +kernel
theorem dX12_readsHand_0 : decode cX12_readsHand 0 = .ok (.iconst 0, 1) := by decide +kernel
theorem dX12_readsHand_1 : decode cX12_readsHand 1 = .ok (.istore_n 2, 1) := by decide +kernel
theorem dX12_readsHand_2 : decode cX12_readsHand 2 = .ok (.iload_n 2, 1) := by decide +kernel
theorem dX12_readsHand_3 : decode cX12_readsHand 3 = .ok (.iconst 3, 1) := by decide +kernel
theorem dX12_readsHand_4 : decode cX12_readsHand 4 = .ok (.if_icmp .ge 69, 3) := by decide +kernel
theorem dX12_readsHand_7 : decode cX12_readsHand 7 = .ok (.aload_n 0, 1) := by decide +kernel
theorem dX12_readsHand_8 : decode cX12_readsHand 8 = .ok (.iconst 0, 1) := by decide +kernel
theorem dX12_readsHand_9 : decode cX12_readsHand 9 = .ok (.iload_n 2, 1) := by decide +kernel
theorem dX12_readsHand_10 : decode cX12_readsHand 10 = .ok (.ifCond .ne 7, 3) := by decide +kernel
theorem dX12_readsHand_13 : decode cX12_readsHand 13 = .ok (.iconst 5, 1) := by decide +kernel
theorem dX12_readsHand_14 : decode cX12_readsHand 14 = .ok (.goto 14, 3) := by decide +kernel
theorem dX12_readsHand_17 : decode cX12_readsHand 17 = .ok (.iload_n 2, 1) := by decide +kernel
theorem dX12_readsHand_18 : decode cX12_readsHand 18 = .ok (.iconst 1, 1) := by decide +kernel
theorem dX12_readsHand_19 : decode cX12_readsHand 19 = .ok (.if_icmp .ne 8, 3) := by decide +kernel
theorem dX12_readsHand_22 : decode cX12_readsHand 22 = .ok (.bipush 40, 2) := by decide +kernel
theorem dX12_readsHand_24 : decode cX12_readsHand 24 = .ok (.goto 4, 3) := by decide +kernel
theorem dX12_readsHand_27 : decode cX12_readsHand 27 = .ok (.iconst 3, 1) := by decide +kernel
theorem dX12_readsHand_28 : decode cX12_readsHand 28 = .ok (.invokevirtual 150, 3) := by decide +kernel
theorem dX12_readsHand_31 : decode cX12_readsHand 31 = .ok (.ifCond .ne 5, 3) := by decide +kernel
theorem dX12_readsHand_34 : decode cX12_readsHand 34 = .ok (.iconst 0, 1) := by decide +kernel
theorem dX12_readsHand_35 : decode cX12_readsHand 35 = .ok (.ireturn, 1) := by decide +kernel
theorem dX12_readsHand_36 : decode cX12_readsHand 36 = .ok (.aload_n 0, 1) := by decide +kernel
theorem dX12_readsHand_37 : decode cX12_readsHand 37 = .ok (.getfield 40, 3) := by decide +kernel
theorem dX12_readsHand_40 : decode cX12_readsHand 40 = .ok (.iconst 3, 1) := by decide +kernel
theorem dX12_readsHand_41 : decode cX12_readsHand 41 = .ok (.aload_n 0, 1) := by decide +kernel
theorem dX12_readsHand_42 : decode cX12_readsHand 42 = .ok (.getfield 161, 3) := by decide +kernel
theorem dX12_readsHand_45 : decode cX12_readsHand 45 = .ok (.imul, 1) := by decide +kernel
theorem dX12_readsHand_46 : decode cX12_readsHand 46 = .ok (.iload_n 2, 1) := by decide +kernel
theorem dX12_readsHand_47 : decode cX12_readsHand 47 = .ok (.iadd, 1) := by decide +kernel
theorem dX12_readsHand_48 : decode cX12_readsHand 48 = .ok (.iload_n 2, 1) := by decide +kernel
theorem dX12_readsHand_49 : decode cX12_readsHand 49 = .ok (.iconst 2, 1) := by decide +kernel
theorem dX12_readsHand_50 : decode cX12_readsHand 50 = .ok (.if_icmp .ne 12, 3) := by decide +kernel
theorem dX12_readsHand_53 : decode cX12_readsHand 53 = .ok (.iload_n 1, 1) := by decide +kernel
theorem dX12_readsHand_54 : decode cX12_readsHand 54 = .ok (.aload_n 0, 1) := by decide +kernel
theorem dX12_readsHand_55 : decode cX12_readsHand 55 = .ok (.getfield 147, 3) := by decide +kernel
theorem dX12_readsHand_58 : decode cX12_readsHand 58 = .ok (.imul, 1) := by decide +kernel
theorem dX12_readsHand_59 : decode cX12_readsHand 59 = .ok (.goto 7, 3) := by decide +kernel
theorem dX12_readsHand_62 : decode cX12_readsHand 62 = .ok (.aload_n 0, 1) := by decide +kernel
theorem dX12_readsHand_63 : decode cX12_readsHand 63 = .ok (.getfield 147, 3) := by decide +kernel
theorem dX12_readsHand_66 : decode cX12_readsHand 66 = .ok (.iastore, 1) := by decide +kernel
theorem dX12_readsHand_67 : decode cX12_readsHand 67 = .ok (.iinc 2 1, 3) := by decide +kernel
theorem dX12_readsHand_70 : decode cX12_readsHand 70 = .ok (.goto (-68), 3) := by decide +kernel
theorem dX12_readsHand_73 : decode cX12_readsHand 73 = .ok (.aload_n 0, 1) := by decide +kernel
theorem dX12_readsHand_74 : decode cX12_readsHand 74 = .ok (.dup, 1) := by decide +kernel
theorem dX12_readsHand_75 : decode cX12_readsHand 75 = .ok (.getfield 161, 3) := by decide +kernel
theorem dX12_readsHand_78 : decode cX12_readsHand 78 = .ok (.iconst 1, 1) := by decide +kernel
theorem dX12_readsHand_79 : decode cX12_readsHand 79 = .ok (.iadd, 1) := by decide +kernel
theorem dX12_readsHand_80 : decode cX12_readsHand 80 = .ok (.putfield 161, 3) := by decide +kernel
theorem dX12_readsHand_83 : decode cX12_readsHand 83 = .ok (.aload_n 0, 1) := by decide +kernel
theorem dX12_readsHand_84 : decode cX12_readsHand 84 = .ok (.invokevirtual 157, 3) := by decide +kernel
theorem dX12_readsHand_87 : decode cX12_readsHand 87 = .ok (.ireturn, 1) := by decide +kernel
theorem dX12_readsItem_0 : decode cX12_readsItem 0 = .ok (.aload_n 0, 1) := by decide +kernel
theorem dX12_readsItem_1 : decode cX12_readsItem 1 = .ok (.invokevirtual 164, 3) := by decide +kernel
theorem dX12_readsItem_4 : decode cX12_readsItem 4 = .ok (.istore_n 1, 1) := by decide +kernel
theorem dX12_readsItem_5 : decode cX12_readsItem 5 = .ok (.iload_n 1, 1) := by decide +kernel
theorem dX12_readsItem_6 : decode cX12_readsItem 6 = .ok (.iconst 1, 1) := by decide +kernel
theorem dX12_readsItem_7 : decode cX12_readsItem 7 = .ok (.if_icmp .lt 31, 3) := by decide +kernel
theorem dX12_readsItem_10 : decode cX12_readsItem 10 = .ok (.iload_n 1, 1) := by decide +kernel
theorem dX12_readsItem_11 : decode cX12_readsItem 11 = .ok (.iconst 3, 1) := by decide +kernel
theorem dX12_readsItem_12 : decode cX12_readsItem 12 = .ok (.if_icmp .ge 12, 3) := by decide +kernel
theorem dX12_readsItem_15 : decode cX12_readsItem 15 = .ok (.aload_n 0, 1) := by decide +kernel
theorem dX12_readsItem_16 : decode cX12_readsItem 16 = .ok (.getfield 154, 3) := by decide +kernel
theorem dX12_readsItem_19 : decode cX12_readsItem 19 = .ok (.bipush 6, 2) := by decide +kernel
theorem dX12_readsItem_21 : decode cX12_readsItem 21 = .ok (.if_icmp .eq 17, 3) := by decide +kernel
theorem dX12_readsItem_24 : decode cX12_readsItem 24 = .ok (.iload_n 1, 1) := by decide +kernel
theorem dX12_readsItem_25 : decode cX12_readsItem 25 = .ok (.iconst 2, 1) := by decide +kernel
theorem dX12_readsItem_26 : decode cX12_readsItem 26 = .ok (.if_icmp .le 16, 3) := by decide +kernel
theorem dX12_readsItem_29 : decode cX12_readsItem 29 = .ok (.aload_n 0, 1) := by decide +kernel
theorem dX12_readsItem_30 : decode cX12_readsItem 30 = .ok (.getfield 161, 3) := by decide +kernel
theorem dX12_readsItem_33 : decode cX12_readsItem 33 = .ok (.bipush 6, 2) := by decide +kernel
theorem dX12_readsItem_35 : decode cX12_readsItem 35 = .ok (.if_icmp .ne 7, 3) := by decide +kernel
theorem dX12_readsItem_38 : decode cX12_readsItem 38 = .ok (.iconst 1, 1) := by decide +kernel
theorem dX12_readsItem_39 : decode cX12_readsItem 39 = .ok (.goto 4, 3) := by decide +kernel
theorem dX12_readsItem_42 : decode cX12_readsItem 42 = .ok (.iconst 0, 1) := by decide +kernel
theorem dX12_readsItem_43 : decode cX12_readsItem 43 = .ok (.istore_n 2, 1) := by decide +kernel
theorem dX12_readsItem_44 : decode cX12_readsItem 44 = .ok (.iload_n 2, 1) := by decide +kernel
theorem dX12_readsItem_45 : decode cX12_readsItem 45 = .ok (.ifCond .eq 5, 3) := by decide +kernel
theorem dX12_readsItem_48 : decode cX12_readsItem 48 = .ok (.iconst 0, 1) := by decide +kernel
theorem dX12_readsItem_49 : decode cX12_readsItem 49 = .ok (.ireturn, 1) := by decide +kernel
theorem dX12_readsItem_50 : decode cX12_readsItem 50 = .ok (.aload_n 0, 1) := by decide +kernel
theorem dX12_readsItem_51 : decode cX12_readsItem 51 = .ok (.dup, 1) := by decide +kernel
theorem dX12_readsItem_52 : decode cX12_readsItem 52 = .ok (.getfield 122, 3) := by decide +kernel
theorem dX12_readsItem_55 : decode cX12_readsItem 55 = .ok (.iconst 4, 1) := by decide +kernel
theorem dX12_readsItem_56 : decode cX12_readsItem 56 = .ok (.iadd, 1) := by decide +kernel
theorem dX12_readsItem_57 : decode cX12_readsItem 57 = .ok (.putfield 122, 3) := by decide +kernel
theorem dX12_readsItem_60 : decode cX12_readsItem 60 = .ok (.iload_n 1, 1) := by decide +kernel
theorem dX12_readsItem_61 : decode cX12_readsItem 61 = .ok (.iconst 2, 1) := by decide +kernel
theorem dX12_readsItem_62 : decode cX12_readsItem 62 = .ok (.irem, 1) := by decide +kernel
theorem dX12_readsItem_63 : decode cX12_readsItem 63 = .ok (.iconst 1, 1) := by decide +kernel
theorem dX12_readsItem_64 : decode cX12_readsItem 64 = .ok (.if_icmp .ne 7, 3) := by decide +kernel
theorem dX12_readsItem_67 : decode cX12_readsItem 67 = .ok (.iconst 1, 1) := by decide +kernel
theorem dX12_readsItem_68 : decode cX12_readsItem 68 = .ok (.goto 4, 3) := by decide +kernel
theorem dX12_readsItem_71 : decode cX12_readsItem 71 = .ok (.iconst (-1), 1) := by decide +kernel
theorem dX12_readsItem_72 : decode cX12_readsItem 72 = .ok (.istore_n 3, 1) := by decide +kernel
theorem dX12_readsItem_73 : decode cX12_readsItem 73 = .ok (.iload_n 1, 1) := by decide +kernel
theorem dX12_readsItem_74 : decode cX12_readsItem 74 = .ok (.iconst 3, 1) := by decide +kernel
theorem dX12_readsItem_75 : decode cX12_readsItem 75 = .ok (.if_icmp .ge 11, 3) := by decide +kernel
theorem dX12_readsItem_78 : decode cX12_readsItem 78 = .ok (.aload_n 0, 1) := by decide +kernel
theorem dX12_readsItem_79 : decode cX12_readsItem 79 = .ok (.iload_n 3, 1) := by decide +kernel
theorem dX12_readsItem_80 : decode cX12_readsItem 80 = .ok (.invokevirtual 167, 3) := by decide +kernel
theorem dX12_readsItem_83 : decode cX12_readsItem 83 = .ok (.goto 8, 3) := by decide +kernel
theorem dX12_readsItem_86 : decode cX12_readsItem 86 = .ok (.aload_n 0, 1) := by decide +kernel
theorem dX12_readsItem_87 : decode cX12_readsItem 87 = .ok (.iload_n 3, 1) := by decide +kernel
theorem dX12_readsItem_88 : decode cX12_readsItem 88 = .ok (.invokevirtual 170, 3) := by decide +kernel
theorem dX12_readsItem_91 : decode cX12_readsItem 91 = .ok (.ireturn, 1) := by decide +kernel
theorem dX12_readsShip_0 : decode cX12_readsShip 0 = .ok (.aload_n 0, 1) := by decide +kernel
theorem dX12_readsShip_1 : decode cX12_readsShip 1 = .ok (.iconst 0, 1) := by decide +kernel
theorem dX12_readsShip_2 : decode cX12_readsShip 2 = .ok (.putfield 122, 3) := by decide +kernel
theorem dX12_readsShip_5 : decode cX12_readsShip 5 = .ok (.aload_n 0, 1) := by decide +kernel
theorem dX12_readsShip_6 : decode cX12_readsShip 6 = .ok (.iconst 0, 1) := by decide +kernel
theorem dX12_readsShip_7 : decode cX12_readsShip 7 = .ok (.putfield 154, 3) := by decide +kernel
theorem dX12_readsShip_10 : decode cX12_readsShip 10 = .ok (.aload_n 0, 1) := by decide +kernel
theorem dX12_readsShip_11 : decode cX12_readsShip 11 = .ok (.iconst 0, 1) := by decide +kernel
theorem dX12_readsShip_12 : decode cX12_readsShip 12 = .ok (.putfield 161, 3) := by decide +kernel
theorem dX12_readsShip_15 : decode cX12_readsShip 15 = .ok (.aload_n 0, 1) := by decide +kernel
theorem dX12_readsShip_16 : decode cX12_readsShip 16 = .ok (.invokevirtual 141, 3) := by decide +kernel
theorem dX12_readsShip_19 : decode cX12_readsShip 19 = .ok (.aload_n 0, 1) := by decide +kernel
theorem dX12_readsShip_20 : decode cX12_readsShip 20 = .ok (.invokevirtual 164, 3) := by decide +kernel
theorem dX12_readsShip_23 : decode cX12_readsShip 23 = .ok (.ifCond .eq 5, 3) := by decide +kernel
theorem dX12_readsShip_26 : decode cX12_readsShip 26 = .ok (.iconst (-1), 1) := by decide +kernel
theorem dX12_readsShip_27 : decode cX12_readsShip 27 = .ok (.ireturn, 1) := by decide +kernel
theorem dX12_readsShip_28 : decode cX12_readsShip 28 = .ok (.aload_n 0, 1) := by decide +kernel
theorem dX12_readsShip_29 : decode cX12_readsShip 29 = .ok (.dup, 1) := by decide +kernel
theorem dX12_readsShip_30 : decode cX12_readsShip 30 = .ok (.getfield 122, 3) := by decide +kernel
theorem dX12_readsShip_33 : decode cX12_readsShip 33 = .ok (.iconst 4, 1) := by decide +kernel
theorem dX12_readsShip_34 : decode cX12_readsShip 34 = .ok (.iadd, 1) := by decide +kernel
theorem dX12_readsShip_35 : decode cX12_readsShip 35 = .ok (.putfield 122, 3) := by decide +kernel
theorem dX12_readsShip_38 : decode cX12_readsShip 38 = .ok (.aload_n 0, 1) := by decide +kernel
theorem dX12_readsShip_39 : decode cX12_readsShip 39 = .ok (.invokevirtual 157, 3) := by decide +kernel
theorem dX12_readsShip_42 : decode cX12_readsShip 42 = .ok (.ifCond .ne 5, 3) := by decide +kernel
theorem dX12_readsShip_45 : decode cX12_readsShip 45 = .ok (.iconst (-1), 1) := by decide +kernel
theorem dX12_readsShip_46 : decode cX12_readsShip 46 = .ok (.ireturn, 1) := by decide +kernel
theorem dX12_readsShip_47 : decode cX12_readsShip 47 = .ok (.iconst 1, 1) := by decide +kernel
theorem dX12_readsShip_48 : decode cX12_readsShip 48 = .ok (.istore_n 1, 1) := by decide +kernel
theorem dX12_readsShip_49 : decode cX12_readsShip 49 = .ok (.aload_n 0, 1) := by decide +kernel
theorem dX12_readsShip_50 : decode cX12_readsShip 50 = .ok (.invokevirtual 141, 3) := by decide +kernel
theorem dX12_readsShip_53 : decode cX12_readsShip 53 = .ok (.aload_n 0, 1) := by decide +kernel
theorem dX12_readsShip_54 : decode cX12_readsShip 54 = .ok (.getfield 122, 3) := by decide +kernel
theorem dX12_readsShip_57 : decode cX12_readsShip 57 = .ok (.aload_n 0, 1) := by decide +kernel
theorem dX12_readsShip_58 : decode cX12_readsShip 58 = .ok (.getfield 119, 3) := by decide +kernel
theorem dX12_readsShip_61 : decode cX12_readsShip 61 = .ok (.if_icmp .ge 22, 3) := by decide +kernel
theorem dX12_readsShip_64 : decode cX12_readsShip 64 = .ok (.aload_n 0, 1) := by decide +kernel
theorem dX12_readsShip_65 : decode cX12_readsShip 65 = .ok (.invokevirtual 173, 3) := by decide +kernel
theorem dX12_readsShip_68 : decode cX12_readsShip 68 = .ok (.ifCond .ne 5, 3) := by decide +kernel
theorem dX12_readsShip_71 : decode cX12_readsShip 71 = .ok (.iconst (-1), 1) := by decide +kernel
theorem dX12_readsShip_72 : decode cX12_readsShip 72 = .ok (.ireturn, 1) := by decide +kernel
theorem dX12_readsShip_73 : decode cX12_readsShip 73 = .ok (.iinc 1 1, 3) := by decide +kernel
theorem dX12_readsShip_76 : decode cX12_readsShip 76 = .ok (.aload_n 0, 1) := by decide +kernel
theorem dX12_readsShip_77 : decode cX12_readsShip 77 = .ok (.invokevirtual 141, 3) := by decide +kernel
theorem dX12_readsShip_80 : decode cX12_readsShip 80 = .ok (.goto (-27), 3) := by decide +kernel
theorem dX12_readsShip_83 : decode cX12_readsShip 83 = .ok (.iload_n 1, 1) := by decide +kernel
theorem dX12_readsShip_84 : decode cX12_readsShip 84 = .ok (.ireturn, 1) := by decide +kernel
theorem dX12_read_0 : decode cX12_read 0 = .ok (.aload_n 0, 1) := by decide +kernel
theorem dX12_read_1 : decode cX12_read 1 = .ok (.invokevirtual 176, 3) := by decide +kernel
theorem dX12_read_4 : decode cX12_read 4 = .ok (.istore_n 1, 1) := by decide +kernel
theorem dX12_read_5 : decode cX12_read 5 = .ok (.iload_n 1, 1) := by decide +kernel
theorem dX12_read_6 : decode cX12_read 6 = .ok (.ifCond .ge 11, 3) := by decide +kernel
theorem dX12_read_9 : decode cX12_read 9 = .ok (.bipush (-10), 2) := by decide +kernel
theorem dX12_read_11 : decode cX12_read 11 = .ok (.aload_n 0, 1) := by decide +kernel
theorem dX12_read_12 : decode cX12_read 12 = .ok (.getfield 122, 3) := by decide +kernel
theorem dX12_read_15 : decode cX12_read 15 = .ok (.isub, 1) := by decide +kernel
theorem dX12_read_16 : decode cX12_read 16 = .ok (.ireturn, 1) := by decide +kernel
theorem dX12_read_17 : decode cX12_read 17 = .ok (.aload_n 0, 1) := by decide +kernel
theorem dX12_read_18 : decode cX12_read 18 = .ok (.invokevirtual 71, 3) := by decide +kernel
theorem dX12_read_21 : decode cX12_read 21 = .ok (.iconst 0, 1) := by decide +kernel
theorem dX12_read_22 : decode cX12_read 22 = .ok (.istore_n 2, 1) := by decide +kernel
theorem dX12_read_23 : decode cX12_read 23 = .ok (.iload_n 2, 1) := by decide +kernel
theorem dX12_read_24 : decode cX12_read 24 = .ok (.aload_n 0, 1) := by decide +kernel
theorem dX12_read_25 : decode cX12_read 25 = .ok (.getfield 154, 3) := by decide +kernel
theorem dX12_read_28 : decode cX12_read 28 = .ok (.if_icmp .ge 20, 3) := by decide +kernel
theorem dX12_read_31 : decode cX12_read 31 = .ok (.aload_n 0, 1) := by decide +kernel
theorem dX12_read_32 : decode cX12_read 32 = .ok (.aload_n 0, 1) := by decide +kernel
theorem dX12_read_33 : decode cX12_read 33 = .ok (.getfield 37, 3) := by decide +kernel
theorem dX12_read_36 : decode cX12_read 36 = .ok (.iload_n 2, 1) := by decide +kernel
theorem dX12_read_37 : decode cX12_read 37 = .ok (.iaload, 1) := by decide +kernel
theorem dX12_read_38 : decode cX12_read 38 = .ok (.invokevirtual 111, 3) := by decide +kernel
theorem dX12_read_41 : decode cX12_read 41 = .ok (.pop, 1) := by decide +kernel
theorem dX12_read_42 : decode cX12_read 42 = .ok (.iinc 2 1, 3) := by decide +kernel
theorem dX12_read_45 : decode cX12_read 45 = .ok (.goto (-22), 3) := by decide +kernel
theorem dX12_read_48 : decode cX12_read 48 = .ok (.iconst 0, 1) := by decide +kernel
theorem dX12_read_49 : decode cX12_read 49 = .ok (.istore_n 2, 1) := by decide +kernel
theorem dX12_read_50 : decode cX12_read 50 = .ok (.iload_n 2, 1) := by decide +kernel
theorem dX12_read_51 : decode cX12_read 51 = .ok (.aload_n 0, 1) := by decide +kernel
theorem dX12_read_52 : decode cX12_read 52 = .ok (.getfield 161, 3) := by decide +kernel
theorem dX12_read_55 : decode cX12_read 55 = .ok (.if_icmp .ge 42, 3) := by decide +kernel
theorem dX12_read_58 : decode cX12_read 58 = .ok (.aload_n 0, 1) := by decide +kernel
theorem dX12_read_59 : decode cX12_read 59 = .ok (.aload_n 0, 1) := by decide +kernel
theorem dX12_read_60 : decode cX12_read 60 = .ok (.getfield 40, 3) := by decide +kernel
theorem dX12_read_63 : decode cX12_read 63 = .ok (.iconst 3, 1) := by decide +kernel
theorem dX12_read_64 : decode cX12_read 64 = .ok (.iload_n 2, 1) := by decide +kernel
theorem dX12_read_65 : decode cX12_read 65 = .ok (.imul, 1) := by decide +kernel
theorem dX12_read_66 : decode cX12_read 66 = .ok (.iaload, 1) := by decide +kernel
theorem dX12_read_67 : decode cX12_read 67 = .ok (.aload_n 0, 1) := by decide +kernel
theorem dX12_read_68 : decode cX12_read 68 = .ok (.getfield 40, 3) := by decide +kernel
theorem dX12_read_71 : decode cX12_read 71 = .ok (.iconst 3, 1) := by decide +kernel
theorem dX12_read_72 : decode cX12_read 72 = .ok (.iload_n 2, 1) := by decide +kernel
theorem dX12_read_73 : decode cX12_read 73 = .ok (.imul, 1) := by decide +kernel
theorem dX12_read_74 : decode cX12_read 74 = .ok (.iconst 1, 1) := by decide +kernel
theorem dX12_read_75 : decode cX12_read 75 = .ok (.iadd, 1) := by decide +kernel
theorem dX12_read_76 : decode cX12_read 76 = .ok (.iaload, 1) := by decide +kernel
theorem dX12_read_77 : decode cX12_read 77 = .ok (.aload_n 0, 1) := by decide +kernel
theorem dX12_read_78 : decode cX12_read 78 = .ok (.getfield 40, 3) := by decide +kernel
theorem dX12_read_81 : decode cX12_read 81 = .ok (.iconst 3, 1) := by decide +kernel
theorem dX12_read_82 : decode cX12_read 82 = .ok (.iload_n 2, 1) := by decide +kernel
theorem dX12_read_83 : decode cX12_read 83 = .ok (.imul, 1) := by decide +kernel
theorem dX12_read_84 : decode cX12_read 84 = .ok (.iconst 2, 1) := by decide +kernel
theorem dX12_read_85 : decode cX12_read 85 = .ok (.iadd, 1) := by decide +kernel
theorem dX12_read_86 : decode cX12_read 86 = .ok (.iaload, 1) := by decide +kernel
theorem dX12_read_87 : decode cX12_read 87 = .ok (.invokevirtual 115, 3) := by decide +kernel
theorem dX12_read_90 : decode cX12_read 90 = .ok (.pop, 1) := by decide +kernel
theorem dX12_read_91 : decode cX12_read 91 = .ok (.iinc 2 1, 3) := by decide +kernel
theorem dX12_read_94 : decode cX12_read 94 = .ok (.goto (-44), 3) := by decide +kernel
theorem dX12_read_97 : decode cX12_read 97 = .ok (.iload_n 1, 1) := by decide +kernel
theorem dX12_read_98 : decode cX12_read 98 = .ok (.ireturn, 1) := by decide +kernel
theorem dX12_sleepyBy_0 : decode cX12_sleepyBy 0 = .ok (.iload_n 3, 1) := by decide +kernel
theorem dX12_sleepyBy_1 : decode cX12_sleepyBy 1 = .ok (.iconst 4, 1) := by decide +kernel
theorem dX12_sleepyBy_2 : decode cX12_sleepyBy 2 = .ok (.irem, 1) := by decide +kernel
theorem dX12_sleepyBy_3 : decode cX12_sleepyBy 3 = .ok (.ifCond .ne 18, 3) := by decide +kernel
theorem dX12_sleepyBy_6 : decode cX12_sleepyBy 6 = .ok (.iload_n 1, 1) := by decide +kernel
theorem dX12_sleepyBy_7 : decode cX12_sleepyBy 7 = .ok (.iconst 3, 1) := by decide +kernel
theorem dX12_sleepyBy_8 : decode cX12_sleepyBy 8 = .ok (.if_icmp .ge 7, 3) := by decide +kernel
theorem dX12_sleepyBy_11 : decode cX12_sleepyBy 11 = .ok (.iconst 0, 1) := by decide +kernel
theorem dX12_sleepyBy_12 : decode cX12_sleepyBy 12 = .ok (.goto 10, 3) := by decide +kernel
theorem dX12_sleepyBy_15 : decode cX12_sleepyBy 15 = .ok (.iload_n 1, 1) := by decide +kernel
theorem dX12_sleepyBy_16 : decode cX12_sleepyBy 16 = .ok (.iconst 3, 1) := by decide +kernel
theorem dX12_sleepyBy_17 : decode cX12_sleepyBy 17 = .ok (.isub, 1) := by decide +kernel
theorem dX12_sleepyBy_18 : decode cX12_sleepyBy 18 = .ok (.goto 4, 3) := by decide +kernel
theorem dX12_sleepyBy_21 : decode cX12_sleepyBy 21 = .ok (.iload_n 1, 1) := by decide +kernel
theorem dX12_sleepyBy_22 : decode cX12_sleepyBy 22 = .ok (.istore 4, 2) := by decide +kernel
theorem dX12_sleepyBy_24 : decode cX12_sleepyBy 24 = .ok (.iload_n 0, 1) := by decide +kernel
theorem dX12_sleepyBy_25 : decode cX12_sleepyBy 25 = .ok (.tableswitch 81 1 5 #[35, 38, 50, 62, 79], 35) := by decide +kernel
theorem dX12_sleepyBy_60 : decode cX12_sleepyBy 60 = .ok (.iload 4, 2) := by decide +kernel
theorem dX12_sleepyBy_62 : decode cX12_sleepyBy 62 = .ok (.ireturn, 1) := by decide +kernel
theorem dX12_sleepyBy_63 : decode cX12_sleepyBy 63 = .ok (.iload_n 2, 1) := by decide +kernel
theorem dX12_sleepyBy_64 : decode cX12_sleepyBy 64 = .ok (.ifCond .eq 7, 3) := by decide +kernel
theorem dX12_sleepyBy_67 : decode cX12_sleepyBy 67 = .ok (.iload_n 1, 1) := by decide +kernel
theorem dX12_sleepyBy_68 : decode cX12_sleepyBy 68 = .ok (.goto 6, 3) := by decide +kernel
theorem dX12_sleepyBy_71 : decode cX12_sleepyBy 71 = .ok (.iload_n 1, 1) := by decide +kernel
theorem dX12_sleepyBy_72 : decode cX12_sleepyBy 72 = .ok (.iconst 2, 1) := by decide +kernel
theorem dX12_sleepyBy_73 : decode cX12_sleepyBy 73 = .ok (.idiv, 1) := by decide +kernel
theorem dX12_sleepyBy_74 : decode cX12_sleepyBy 74 = .ok (.ireturn, 1) := by decide +kernel
theorem dX12_sleepyBy_75 : decode cX12_sleepyBy 75 = .ok (.iload_n 2, 1) := by decide +kernel
theorem dX12_sleepyBy_76 : decode cX12_sleepyBy 76 = .ok (.ifCond .eq 9, 3) := by decide +kernel
theorem dX12_sleepyBy_79 : decode cX12_sleepyBy 79 = .ok (.iconst 2, 1) := by decide +kernel
theorem dX12_sleepyBy_80 : decode cX12_sleepyBy 80 = .ok (.iload_n 1, 1) := by decide +kernel
theorem dX12_sleepyBy_81 : decode cX12_sleepyBy 81 = .ok (.imul, 1) := by decide +kernel
theorem dX12_sleepyBy_82 : decode cX12_sleepyBy 82 = .ok (.goto 4, 3) := by decide +kernel
theorem dX12_sleepyBy_85 : decode cX12_sleepyBy 85 = .ok (.iload_n 1, 1) := by decide +kernel
theorem dX12_sleepyBy_86 : decode cX12_sleepyBy 86 = .ok (.ireturn, 1) := by decide +kernel
theorem dX12_sleepyBy_87 : decode cX12_sleepyBy 87 = .ok (.iload 4, 2) := by decide +kernel
theorem dX12_sleepyBy_89 : decode cX12_sleepyBy 89 = .ok (.iload_n 3, 1) := by decide +kernel
theorem dX12_sleepyBy_90 : decode cX12_sleepyBy 90 = .ok (.bipush 7, 2) := by decide +kernel
theorem dX12_sleepyBy_92 : decode cX12_sleepyBy 92 = .ok (.irem, 1) := by decide +kernel
theorem dX12_sleepyBy_93 : decode cX12_sleepyBy 93 = .ok (.iconst 3, 1) := by decide +kernel
theorem dX12_sleepyBy_94 : decode cX12_sleepyBy 94 = .ok (.if_icmp .ne 7, 3) := by decide +kernel
theorem dX12_sleepyBy_97 : decode cX12_sleepyBy 97 = .ok (.iconst 5, 1) := by decide +kernel
theorem dX12_sleepyBy_98 : decode cX12_sleepyBy 98 = .ok (.goto 4, 3) := by decide +kernel
theorem dX12_sleepyBy_101 : decode cX12_sleepyBy 101 = .ok (.iconst 0, 1) := by decide +kernel
theorem dX12_sleepyBy_102 : decode cX12_sleepyBy 102 = .ok (.iadd, 1) := by decide +kernel
theorem dX12_sleepyBy_103 : decode cX12_sleepyBy 103 = .ok (.ireturn, 1) := by decide +kernel
theorem dX12_sleepyBy_104 : decode cX12_sleepyBy 104 = .ok (.iconst 0, 1) := by decide +kernel
theorem dX12_sleepyBy_105 : decode cX12_sleepyBy 105 = .ok (.ireturn, 1) := by decide +kernel
theorem dX12_sleepyBy_106 : decode cX12_sleepyBy 106 = .ok (.iload_n 1, 1) := by decide +kernel
theorem dX12_sleepyBy_107 : decode cX12_sleepyBy 107 = .ok (.ireturn, 1) := by decide +kernel
theorem dX12_sleepy_0 : decode cX12_sleepy 0 = .ok (.aload_n 0, 1) := by decide +kernel
theorem dX12_sleepy_1 : decode cX12_sleepy 1 = .ok (.getfield 13, 3) := by decide +kernel
theorem dX12_sleepy_4 : decode cX12_sleepy 4 = .ok (.iload_n 1, 1) := by decide +kernel
theorem dX12_sleepy_5 : decode cX12_sleepy 5 = .ok (.iaload, 1) := by decide +kernel
theorem dX12_sleepy_6 : decode cX12_sleepy 6 = .ok (.aload_n 0, 1) := by decide +kernel
theorem dX12_sleepy_7 : decode cX12_sleepy 7 = .ok (.getfield 16, 3) := by decide +kernel
theorem dX12_sleepy_10 : decode cX12_sleepy 10 = .ok (.iload_n 1, 1) := by decide +kernel
theorem dX12_sleepy_11 : decode cX12_sleepy 11 = .ok (.iaload, 1) := by decide +kernel
theorem dX12_sleepy_12 : decode cX12_sleepy 12 = .ok (.aload_n 0, 1) := by decide +kernel
theorem dX12_sleepy_13 : decode cX12_sleepy 13 = .ok (.getfield 22, 3) := by decide +kernel
theorem dX12_sleepy_16 : decode cX12_sleepy 16 = .ok (.iload_n 1, 1) := by decide +kernel
theorem dX12_sleepy_17 : decode cX12_sleepy 17 = .ok (.iaload, 1) := by decide +kernel
theorem dX12_sleepy_18 : decode cX12_sleepy 18 = .ok (.iconst 1, 1) := by decide +kernel
theorem dX12_sleepy_19 : decode cX12_sleepy 19 = .ok (.if_icmp .ne 7, 3) := by decide +kernel
theorem dX12_sleepy_22 : decode cX12_sleepy 22 = .ok (.iconst 1, 1) := by decide +kernel
theorem dX12_sleepy_23 : decode cX12_sleepy 23 = .ok (.goto 4, 3) := by decide +kernel
theorem dX12_sleepy_26 : decode cX12_sleepy 26 = .ok (.iconst 0, 1) := by decide +kernel
theorem dX12_sleepy_27 : decode cX12_sleepy 27 = .ok (.aload_n 0, 1) := by decide +kernel
theorem dX12_sleepy_28 : decode cX12_sleepy 28 = .ok (.getfield 81, 3) := by decide +kernel
theorem dX12_sleepy_31 : decode cX12_sleepy 31 = .ok (.invokestatic 179, 3) := by decide +kernel
theorem dX12_sleepy_34 : decode cX12_sleepy 34 = .ok (.ireturn, 1) := by decide +kernel
theorem dX12_moreBy_0 : decode cX12_moreBy 0 = .ok (.iload_n 0, 1) := by decide +kernel
theorem dX12_moreBy_1 : decode cX12_moreBy 1 = .ok (.iconst 2, 1) := by decide +kernel
theorem dX12_moreBy_2 : decode cX12_moreBy 2 = .ok (.if_icmp .ne 7, 3) := by decide +kernel
theorem dX12_moreBy_5 : decode cX12_moreBy 5 = .ok (.iconst 2, 1) := by decide +kernel
theorem dX12_moreBy_6 : decode cX12_moreBy 6 = .ok (.goto 13, 3) := by decide +kernel
theorem dX12_moreBy_9 : decode cX12_moreBy 9 = .ok (.iload_n 0, 1) := by decide +kernel
theorem dX12_moreBy_10 : decode cX12_moreBy 10 = .ok (.iconst 5, 1) := by decide +kernel
theorem dX12_moreBy_11 : decode cX12_moreBy 11 = .ok (.if_icmp .ne 7, 3) := by decide +kernel
theorem dX12_moreBy_14 : decode cX12_moreBy 14 = .ok (.iconst 0, 1) := by decide +kernel
theorem dX12_moreBy_15 : decode cX12_moreBy 15 = .ok (.goto 4, 3) := by decide +kernel
theorem dX12_moreBy_18 : decode cX12_moreBy 18 = .ok (.iconst 1, 1) := by decide +kernel
theorem dX12_moreBy_19 : decode cX12_moreBy 19 = .ok (.ireturn, 1) := by decide +kernel
theorem dX12_steers_0 : decode cX12_steers 0 = .ok (.iconst (-1), 1) := by decide +kernel
theorem dX12_steers_1 : decode cX12_steers 1 = .ok (.istore_n 1, 1) := by decide +kernel
theorem dX12_steers_2 : decode cX12_steers 2 = .ok (.iconst 0, 1) := by decide +kernel
theorem dX12_steers_3 : decode cX12_steers 3 = .ok (.istore_n 2, 1) := by decide +kernel
theorem dX12_steers_4 : decode cX12_steers 4 = .ok (.iconst 0, 1) := by decide +kernel
theorem dX12_steers_5 : decode cX12_steers 5 = .ok (.istore_n 3, 1) := by decide +kernel
theorem dX12_steers_6 : decode cX12_steers 6 = .ok (.iload_n 3, 1) := by decide +kernel
theorem dX12_steers_7 : decode cX12_steers 7 = .ok (.aload_n 0, 1) := by decide +kernel
theorem dX12_steers_8 : decode cX12_steers 8 = .ok (.getfield 74, 3) := by decide +kernel
theorem dX12_steers_11 : decode cX12_steers 11 = .ok (.if_icmp .ge 41, 3) := by decide +kernel
theorem dX12_steers_14 : decode cX12_steers 14 = .ok (.aload_n 0, 1) := by decide +kernel
theorem dX12_steers_15 : decode cX12_steers 15 = .ok (.iload_n 3, 1) := by decide +kernel
theorem dX12_steers_16 : decode cX12_steers 16 = .ok (.invokevirtual 183, 3) := by decide +kernel
theorem dX12_steers_19 : decode cX12_steers 19 = .ok (.istore 4, 2) := by decide +kernel
theorem dX12_steers_21 : decode cX12_steers 21 = .ok (.iload 4, 2) := by decide +kernel
theorem dX12_steers_23 : decode cX12_steers 23 = .ok (.iload_n 2, 1) := by decide +kernel
theorem dX12_steers_24 : decode cX12_steers 24 = .ok (.if_icmp .le 7, 3) := by decide +kernel
theorem dX12_steers_27 : decode cX12_steers 27 = .ok (.iload_n 3, 1) := by decide +kernel
theorem dX12_steers_28 : decode cX12_steers 28 = .ok (.goto 4, 3) := by decide +kernel
theorem dX12_steers_31 : decode cX12_steers 31 = .ok (.iload_n 1, 1) := by decide +kernel
theorem dX12_steers_32 : decode cX12_steers 32 = .ok (.istore_n 1, 1) := by decide +kernel
theorem dX12_steers_33 : decode cX12_steers 33 = .ok (.iload 4, 2) := by decide +kernel
theorem dX12_steers_35 : decode cX12_steers 35 = .ok (.iload_n 2, 1) := by decide +kernel
theorem dX12_steers_36 : decode cX12_steers 36 = .ok (.if_icmp .le 8, 3) := by decide +kernel
theorem dX12_steers_39 : decode cX12_steers 39 = .ok (.iload 4, 2) := by decide +kernel
theorem dX12_steers_41 : decode cX12_steers 41 = .ok (.goto 4, 3) := by decide +kernel
theorem dX12_steers_44 : decode cX12_steers 44 = .ok (.iload_n 2, 1) := by decide +kernel
theorem dX12_steers_45 : decode cX12_steers 45 = .ok (.istore_n 2, 1) := by decide +kernel
theorem dX12_steers_46 : decode cX12_steers 46 = .ok (.iinc 3 1, 3) := by decide +kernel
theorem dX12_steers_49 : decode cX12_steers 49 = .ok (.goto (-43), 3) := by decide +kernel
theorem dX12_steers_52 : decode cX12_steers 52 = .ok (.iload_n 1, 1) := by decide +kernel
theorem dX12_steers_53 : decode cX12_steers 53 = .ok (.ireturn, 1) := by decide +kernel
theorem dX12_pass_0 : decode cX12_pass 0 = .ok (.aload_n 0, 1) := by decide +kernel
theorem dX12_pass_1 : decode cX12_pass 1 = .ok (.invokevirtual 186, 3) := by decide +kernel
theorem dX12_pass_4 : decode cX12_pass 4 = .ok (.istore_n 1, 1) := by decide +kernel
theorem dX12_pass_5 : decode cX12_pass 5 = .ok (.aload_n 0, 1) := by decide +kernel
theorem dX12_pass_6 : decode cX12_pass 6 = .ok (.dup, 1) := by decide +kernel
theorem dX12_pass_7 : decode cX12_pass 7 = .ok (.getfield 78, 3) := by decide +kernel
theorem dX12_pass_10 : decode cX12_pass 10 = .ok (.iload_n 1, 1) := by decide +kernel
theorem dX12_pass_11 : decode cX12_pass 11 = .ok (.iconst (-1), 1) := by decide +kernel
theorem dX12_pass_12 : decode cX12_pass 12 = .ok (.if_icmp .ne 7, 3) := by decide +kernel
theorem dX12_pass_15 : decode cX12_pass 15 = .ok (.iconst 0, 1) := by decide +kernel
theorem dX12_pass_16 : decode cX12_pass 16 = .ok (.goto 9, 3) := by decide +kernel
theorem dX12_pass_19 : decode cX12_pass 19 = .ok (.aload_n 0, 1) := by decide +kernel
theorem dX12_pass_20 : decode cX12_pass 20 = .ok (.getfield 19, 3) := by decide +kernel
theorem dX12_pass_23 : decode cX12_pass 23 = .ok (.iload_n 1, 1) := by decide +kernel
theorem dX12_pass_24 : decode cX12_pass 24 = .ok (.iaload, 1) := by decide +kernel
theorem dX12_pass_25 : decode cX12_pass 25 = .ok (.iadd, 1) := by decide +kernel
theorem dX12_pass_26 : decode cX12_pass 26 = .ok (.putfield 78, 3) := by decide +kernel
theorem dX12_pass_29 : decode cX12_pass 29 = .ok (.iconst 0, 1) := by decide +kernel
theorem dX12_pass_30 : decode cX12_pass 30 = .ok (.istore_n 2, 1) := by decide +kernel
theorem dX12_pass_31 : decode cX12_pass 31 = .ok (.iload_n 2, 1) := by decide +kernel
theorem dX12_pass_32 : decode cX12_pass 32 = .ok (.aload_n 0, 1) := by decide +kernel
theorem dX12_pass_33 : decode cX12_pass 33 = .ok (.getfield 74, 3) := by decide +kernel
theorem dX12_pass_36 : decode cX12_pass 36 = .ok (.if_icmp .ge 81, 3) := by decide +kernel
theorem dX12_pass_39 : decode cX12_pass 39 = .ok (.aload_n 0, 1) := by decide +kernel
theorem dX12_pass_40 : decode cX12_pass 40 = .ok (.getfield 16, 3) := by decide +kernel
theorem dX12_pass_43 : decode cX12_pass 43 = .ok (.iload_n 2, 1) := by decide +kernel
theorem dX12_pass_44 : decode cX12_pass 44 = .ok (.iaload, 1) := by decide +kernel
theorem dX12_pass_45 : decode cX12_pass 45 = .ok (.aload_n 0, 1) := by decide +kernel
theorem dX12_pass_46 : decode cX12_pass 46 = .ok (.getfield 13, 3) := by decide +kernel
theorem dX12_pass_49 : decode cX12_pass 49 = .ok (.iload_n 2, 1) := by decide +kernel
theorem dX12_pass_50 : decode cX12_pass 50 = .ok (.iaload, 1) := by decide +kernel
theorem dX12_pass_51 : decode cX12_pass 51 = .ok (.invokestatic 189, 3) := by decide +kernel
theorem dX12_pass_54 : decode cX12_pass 54 = .ok (.iadd, 1) := by decide +kernel
theorem dX12_pass_55 : decode cX12_pass 55 = .ok (.istore_n 3, 1) := by decide +kernel
theorem dX12_pass_56 : decode cX12_pass 56 = .ok (.aload_n 0, 1) := by decide +kernel
theorem dX12_pass_57 : decode cX12_pass 57 = .ok (.getfield 16, 3) := by decide +kernel
theorem dX12_pass_60 : decode cX12_pass 60 = .ok (.iload_n 2, 1) := by decide +kernel
theorem dX12_pass_61 : decode cX12_pass 61 = .ok (.iload_n 2, 1) := by decide +kernel
theorem dX12_pass_62 : decode cX12_pass 62 = .ok (.iload_n 1, 1) := by decide +kernel
theorem dX12_pass_63 : decode cX12_pass 63 = .ok (.if_icmp .ne 28, 3) := by decide +kernel
theorem dX12_pass_66 : decode cX12_pass 66 = .ok (.aload_n 0, 1) := by decide +kernel
theorem dX12_pass_67 : decode cX12_pass 67 = .ok (.getfield 16, 3) := by decide +kernel
theorem dX12_pass_70 : decode cX12_pass 70 = .ok (.iload_n 2, 1) := by decide +kernel
theorem dX12_pass_71 : decode cX12_pass 71 = .ok (.iaload, 1) := by decide +kernel
theorem dX12_pass_72 : decode cX12_pass 72 = .ok (.iconst 4, 1) := by decide +kernel
theorem dX12_pass_73 : decode cX12_pass 73 = .ok (.if_icmp .ge 7, 3) := by decide +kernel
theorem dX12_pass_76 : decode cX12_pass 76 = .ok (.iconst 0, 1) := by decide +kernel
theorem dX12_pass_77 : decode cX12_pass 77 = .ok (.goto 26, 3) := by decide +kernel
theorem dX12_pass_80 : decode cX12_pass 80 = .ok (.aload_n 0, 1) := by decide +kernel
theorem dX12_pass_81 : decode cX12_pass 81 = .ok (.getfield 16, 3) := by decide +kernel
theorem dX12_pass_84 : decode cX12_pass 84 = .ok (.iload_n 2, 1) := by decide +kernel
theorem dX12_pass_85 : decode cX12_pass 85 = .ok (.iaload, 1) := by decide +kernel
theorem dX12_pass_86 : decode cX12_pass 86 = .ok (.iconst 4, 1) := by decide +kernel
theorem dX12_pass_87 : decode cX12_pass 87 = .ok (.isub, 1) := by decide +kernel
theorem dX12_pass_88 : decode cX12_pass 88 = .ok (.goto 15, 3) := by decide +kernel
theorem dX12_pass_91 : decode cX12_pass 91 = .ok (.iload_n 3, 1) := by decide +kernel
theorem dX12_pass_92 : decode cX12_pass 92 = .ok (.bipush 99, 2) := by decide +kernel
theorem dX12_pass_94 : decode cX12_pass 94 = .ok (.if_icmp .le 8, 3) := by decide +kernel
theorem dX12_pass_97 : decode cX12_pass 97 = .ok (.bipush 99, 2) := by decide +kernel
theorem dX12_pass_99 : decode cX12_pass 99 = .ok (.goto 4, 3) := by decide +kernel
theorem dX12_pass_102 : decode cX12_pass 102 = .ok (.iload_n 3, 1) := by decide +kernel
theorem dX12_pass_103 : decode cX12_pass 103 = .ok (.iastore, 1) := by decide +kernel
theorem dX12_pass_104 : decode cX12_pass 104 = .ok (.aload_n 0, 1) := by decide +kernel
theorem dX12_pass_105 : decode cX12_pass 105 = .ok (.getfield 22, 3) := by decide +kernel
theorem dX12_pass_108 : decode cX12_pass 108 = .ok (.iload_n 2, 1) := by decide +kernel
theorem dX12_pass_109 : decode cX12_pass 109 = .ok (.iconst 0, 1) := by decide +kernel
theorem dX12_pass_110 : decode cX12_pass 110 = .ok (.iastore, 1) := by decide +kernel
theorem dX12_pass_111 : decode cX12_pass 111 = .ok (.iinc 2 1, 3) := by decide +kernel
theorem dX12_pass_114 : decode cX12_pass 114 = .ok (.goto (-83), 3) := by decide +kernel
theorem dX12_pass_117 : decode cX12_pass 117 = .ok (.aload_n 0, 1) := by decide +kernel
theorem dX12_pass_118 : decode cX12_pass 118 = .ok (.dup, 1) := by decide +kernel
theorem dX12_pass_119 : decode cX12_pass 119 = .ok (.getfield 81, 3) := by decide +kernel
theorem dX12_pass_122 : decode cX12_pass 122 = .ok (.iconst 1, 1) := by decide +kernel
theorem dX12_pass_123 : decode cX12_pass 123 = .ok (.iadd, 1) := by decide +kernel
theorem dX12_pass_124 : decode cX12_pass 124 = .ok (.putfield 81, 3) := by decide +kernel
theorem dX12_pass_127 : decode cX12_pass 127 = .ok (.iload_n 1, 1) := by decide +kernel
theorem dX12_pass_128 : decode cX12_pass 128 = .ok (.ireturn, 1) := by decide +kernel
theorem dX12_lays_0 : decode cX12_lays 0 = .ok (.aload_n 1, 1) := by decide +kernel
theorem dX12_lays_1 : decode cX12_lays 1 = .ok (.iload_n 2, 1) := by decide +kernel
theorem dX12_lays_2 : decode cX12_lays 2 = .ok (.aload_n 0, 1) := by decide +kernel
theorem dX12_lays_3 : decode cX12_lays 3 = .ok (.getfield 78, 3) := by decide +kernel
theorem dX12_lays_6 : decode cX12_lays 6 = .ok (.iastore, 1) := by decide +kernel
theorem dX12_lays_7 : decode cX12_lays 7 = .ok (.aload_n 1, 1) := by decide +kernel
theorem dX12_lays_8 : decode cX12_lays 8 = .ok (.iload_n 2, 1) := by decide +kernel
theorem dX12_lays_9 : decode cX12_lays 9 = .ok (.iconst 1, 1) := by decide +kernel
theorem dX12_lays_10 : decode cX12_lays 10 = .ok (.iadd, 1) := by decide +kernel
theorem dX12_lays_11 : decode cX12_lays 11 = .ok (.aload_n 0, 1) := by decide +kernel
theorem dX12_lays_12 : decode cX12_lays 12 = .ok (.getfield 81, 3) := by decide +kernel
theorem dX12_lays_15 : decode cX12_lays 15 = .ok (.iastore, 1) := by decide +kernel
theorem dX12_lays_16 : decode cX12_lays 16 = .ok (.iconst 0, 1) := by decide +kernel
theorem dX12_lays_17 : decode cX12_lays 17 = .ok (.istore_n 3, 1) := by decide +kernel
theorem dX12_lays_18 : decode cX12_lays 18 = .ok (.iload_n 3, 1) := by decide +kernel
theorem dX12_lays_19 : decode cX12_lays 19 = .ok (.bipush 6, 2) := by decide +kernel
theorem dX12_lays_21 : decode cX12_lays 21 = .ok (.if_icmp .ge 36, 3) := by decide +kernel
theorem dX12_lays_24 : decode cX12_lays 24 = .ok (.aload_n 1, 1) := by decide +kernel
theorem dX12_lays_25 : decode cX12_lays 25 = .ok (.iload_n 2, 1) := by decide +kernel
theorem dX12_lays_26 : decode cX12_lays 26 = .ok (.iconst 2, 1) := by decide +kernel
theorem dX12_lays_27 : decode cX12_lays 27 = .ok (.iadd, 1) := by decide +kernel
theorem dX12_lays_28 : decode cX12_lays 28 = .ok (.iload_n 3, 1) := by decide +kernel
theorem dX12_lays_29 : decode cX12_lays 29 = .ok (.iadd, 1) := by decide +kernel
theorem dX12_lays_30 : decode cX12_lays 30 = .ok (.aload_n 0, 1) := by decide +kernel
theorem dX12_lays_31 : decode cX12_lays 31 = .ok (.getfield 16, 3) := by decide +kernel
theorem dX12_lays_34 : decode cX12_lays 34 = .ok (.iload_n 3, 1) := by decide +kernel
theorem dX12_lays_35 : decode cX12_lays 35 = .ok (.iaload, 1) := by decide +kernel
theorem dX12_lays_36 : decode cX12_lays 36 = .ok (.iastore, 1) := by decide +kernel
theorem dX12_lays_37 : decode cX12_lays 37 = .ok (.aload_n 1, 1) := by decide +kernel
theorem dX12_lays_38 : decode cX12_lays 38 = .ok (.iload_n 2, 1) := by decide +kernel
theorem dX12_lays_39 : decode cX12_lays 39 = .ok (.bipush 8, 2) := by decide +kernel
theorem dX12_lays_41 : decode cX12_lays 41 = .ok (.iadd, 1) := by decide +kernel
theorem dX12_lays_42 : decode cX12_lays 42 = .ok (.iload_n 3, 1) := by decide +kernel
theorem dX12_lays_43 : decode cX12_lays 43 = .ok (.iadd, 1) := by decide +kernel
theorem dX12_lays_44 : decode cX12_lays 44 = .ok (.aload_n 0, 1) := by decide +kernel
theorem dX12_lays_45 : decode cX12_lays 45 = .ok (.getfield 22, 3) := by decide +kernel
theorem dX12_lays_48 : decode cX12_lays 48 = .ok (.iload_n 3, 1) := by decide +kernel
theorem dX12_lays_49 : decode cX12_lays 49 = .ok (.iaload, 1) := by decide +kernel
theorem dX12_lays_50 : decode cX12_lays 50 = .ok (.iastore, 1) := by decide +kernel
theorem dX12_lays_51 : decode cX12_lays 51 = .ok (.iinc 3 1, 3) := by decide +kernel
theorem dX12_lays_54 : decode cX12_lays 54 = .ok (.goto (-36), 3) := by decide +kernel
theorem dX12_lays_57 : decode cX12_lays 57 = .ok (.return_, 1) := by decide +kernel
theorem dX12_takes_0 : decode cX12_takes 0 = .ok (.aload_n 0, 1) := by decide +kernel
theorem dX12_takes_1 : decode cX12_takes 1 = .ok (.aload_n 1, 1) := by decide +kernel
theorem dX12_takes_2 : decode cX12_takes 2 = .ok (.iload_n 2, 1) := by decide +kernel
theorem dX12_takes_3 : decode cX12_takes 3 = .ok (.iaload, 1) := by decide +kernel
theorem dX12_takes_4 : decode cX12_takes 4 = .ok (.putfield 78, 3) := by decide +kernel
theorem dX12_takes_7 : decode cX12_takes 7 = .ok (.aload_n 0, 1) := by decide +kernel
theorem dX12_takes_8 : decode cX12_takes 8 = .ok (.aload_n 1, 1) := by decide +kernel
theorem dX12_takes_9 : decode cX12_takes 9 = .ok (.iload_n 2, 1) := by decide +kernel
theorem dX12_takes_10 : decode cX12_takes 10 = .ok (.iconst 1, 1) := by decide +kernel
theorem dX12_takes_11 : decode cX12_takes 11 = .ok (.iadd, 1) := by decide +kernel
theorem dX12_takes_12 : decode cX12_takes 12 = .ok (.iaload, 1) := by decide +kernel
theorem dX12_takes_13 : decode cX12_takes 13 = .ok (.putfield 81, 3) := by decide +kernel
theorem dX12_takes_16 : decode cX12_takes 16 = .ok (.iconst 0, 1) := by decide +kernel
theorem dX12_takes_17 : decode cX12_takes 17 = .ok (.istore_n 3, 1) := by decide +kernel
theorem dX12_takes_18 : decode cX12_takes 18 = .ok (.iload_n 3, 1) := by decide +kernel
theorem dX12_takes_19 : decode cX12_takes 19 = .ok (.bipush 6, 2) := by decide +kernel
theorem dX12_takes_21 : decode cX12_takes 21 = .ok (.if_icmp .ge 36, 3) := by decide +kernel
theorem dX12_takes_24 : decode cX12_takes 24 = .ok (.aload_n 0, 1) := by decide +kernel
theorem dX12_takes_25 : decode cX12_takes 25 = .ok (.getfield 16, 3) := by decide +kernel
theorem dX12_takes_28 : decode cX12_takes 28 = .ok (.iload_n 3, 1) := by decide +kernel
theorem dX12_takes_29 : decode cX12_takes 29 = .ok (.aload_n 1, 1) := by decide +kernel
theorem dX12_takes_30 : decode cX12_takes 30 = .ok (.iload_n 2, 1) := by decide +kernel
theorem dX12_takes_31 : decode cX12_takes 31 = .ok (.iconst 2, 1) := by decide +kernel
theorem dX12_takes_32 : decode cX12_takes 32 = .ok (.iadd, 1) := by decide +kernel
theorem dX12_takes_33 : decode cX12_takes 33 = .ok (.iload_n 3, 1) := by decide +kernel
theorem dX12_takes_34 : decode cX12_takes 34 = .ok (.iadd, 1) := by decide +kernel
theorem dX12_takes_35 : decode cX12_takes 35 = .ok (.iaload, 1) := by decide +kernel
theorem dX12_takes_36 : decode cX12_takes 36 = .ok (.iastore, 1) := by decide +kernel
theorem dX12_takes_37 : decode cX12_takes 37 = .ok (.aload_n 0, 1) := by decide +kernel
theorem dX12_takes_38 : decode cX12_takes 38 = .ok (.getfield 22, 3) := by decide +kernel
theorem dX12_takes_41 : decode cX12_takes 41 = .ok (.iload_n 3, 1) := by decide +kernel
theorem dX12_takes_42 : decode cX12_takes 42 = .ok (.aload_n 1, 1) := by decide +kernel
theorem dX12_takes_43 : decode cX12_takes 43 = .ok (.iload_n 2, 1) := by decide +kernel
theorem dX12_takes_44 : decode cX12_takes 44 = .ok (.bipush 8, 2) := by decide +kernel
theorem dX12_takes_46 : decode cX12_takes 46 = .ok (.iadd, 1) := by decide +kernel
theorem dX12_takes_47 : decode cX12_takes 47 = .ok (.iload_n 3, 1) := by decide +kernel
theorem dX12_takes_48 : decode cX12_takes 48 = .ok (.iadd, 1) := by decide +kernel
theorem dX12_takes_49 : decode cX12_takes 49 = .ok (.iaload, 1) := by decide +kernel
theorem dX12_takes_50 : decode cX12_takes 50 = .ok (.iastore, 1) := by decide +kernel
theorem dX12_takes_51 : decode cX12_takes 51 = .ok (.iinc 3 1, 3) := by decide +kernel
theorem dX12_takes_54 : decode cX12_takes 54 = .ok (.goto (-36), 3) := by decide +kernel
theorem dX12_takes_57 : decode cX12_takes 57 = .ok (.return_, 1) := by decide +kernel
theorem dX12_notes_0 : decode cX12_notes 0 = .ok (.aload_n 0, 1) := by decide +kernel
theorem dX12_notes_1 : decode cX12_notes 1 = .ok (.getfield 90, 3) := by decide +kernel
theorem dX12_notes_4 : decode cX12_notes 4 = .ok (.bipush 8, 2) := by decide +kernel
theorem dX12_notes_6 : decode cX12_notes 6 = .ok (.if_icmp .ne 42, 3) := by decide +kernel
theorem dX12_notes_9 : decode cX12_notes 9 = .ok (.iconst 0, 1) := by decide +kernel
theorem dX12_notes_10 : decode cX12_notes 10 = .ok (.istore_n 1, 1) := by decide +kernel
theorem dX12_notes_11 : decode cX12_notes 11 = .ok (.iload_n 1, 1) := by decide +kernel
theorem dX12_notes_12 : decode cX12_notes 12 = .ok (.bipush 98, 2) := by decide +kernel
theorem dX12_notes_14 : decode cX12_notes 14 = .ok (.if_icmp .ge 24, 3) := by decide +kernel
theorem dX12_notes_17 : decode cX12_notes 17 = .ok (.aload_n 0, 1) := by decide +kernel
theorem dX12_notes_18 : decode cX12_notes 18 = .ok (.getfield 43, 3) := by decide +kernel
theorem dX12_notes_21 : decode cX12_notes 21 = .ok (.iload_n 1, 1) := by decide +kernel
theorem dX12_notes_22 : decode cX12_notes 22 = .ok (.aload_n 0, 1) := by decide +kernel
theorem dX12_notes_23 : decode cX12_notes 23 = .ok (.getfield 43, 3) := by decide +kernel
theorem dX12_notes_26 : decode cX12_notes 26 = .ok (.iload_n 1, 1) := by decide +kernel
theorem dX12_notes_27 : decode cX12_notes 27 = .ok (.bipush 14, 2) := by decide +kernel
theorem dX12_notes_29 : decode cX12_notes 29 = .ok (.iadd, 1) := by decide +kernel
theorem dX12_notes_30 : decode cX12_notes 30 = .ok (.iaload, 1) := by decide +kernel
theorem dX12_notes_31 : decode cX12_notes 31 = .ok (.iastore, 1) := by decide +kernel
theorem dX12_notes_32 : decode cX12_notes 32 = .ok (.iinc 1 1, 3) := by decide +kernel
theorem dX12_notes_35 : decode cX12_notes 35 = .ok (.goto (-24), 3) := by decide +kernel
theorem dX12_notes_38 : decode cX12_notes 38 = .ok (.aload_n 0, 1) := by decide +kernel
theorem dX12_notes_39 : decode cX12_notes 39 = .ok (.dup, 1) := by decide +kernel
theorem dX12_notes_40 : decode cX12_notes 40 = .ok (.getfield 90, 3) := by decide +kernel
theorem dX12_notes_43 : decode cX12_notes 43 = .ok (.iconst 1, 1) := by decide +kernel
theorem dX12_notes_44 : decode cX12_notes 44 = .ok (.isub, 1) := by decide +kernel
theorem dX12_notes_45 : decode cX12_notes 45 = .ok (.putfield 90, 3) := by decide +kernel
theorem dX12_notes_48 : decode cX12_notes 48 = .ok (.aload_n 0, 1) := by decide +kernel
theorem dX12_notes_49 : decode cX12_notes 49 = .ok (.aload_n 0, 1) := by decide +kernel
theorem dX12_notes_50 : decode cX12_notes 50 = .ok (.getfield 43, 3) := by decide +kernel
theorem dX12_notes_53 : decode cX12_notes 53 = .ok (.bipush 14, 2) := by decide +kernel
theorem dX12_notes_55 : decode cX12_notes 55 = .ok (.aload_n 0, 1) := by decide +kernel
theorem dX12_notes_56 : decode cX12_notes 56 = .ok (.getfield 90, 3) := by decide +kernel
theorem dX12_notes_59 : decode cX12_notes 59 = .ok (.imul, 1) := by decide +kernel
theorem dX12_notes_60 : decode cX12_notes 60 = .ok (.invokevirtual 192, 3) := by decide +kernel
theorem dX12_notes_63 : decode cX12_notes 63 = .ok (.aload_n 0, 1) := by decide +kernel
theorem dX12_notes_64 : decode cX12_notes 64 = .ok (.dup, 1) := by decide +kernel
theorem dX12_notes_65 : decode cX12_notes 65 = .ok (.getfield 90, 3) := by decide +kernel
theorem dX12_notes_68 : decode cX12_notes 68 = .ok (.iconst 1, 1) := by decide +kernel
theorem dX12_notes_69 : decode cX12_notes 69 = .ok (.iadd, 1) := by decide +kernel
theorem dX12_notes_70 : decode cX12_notes 70 = .ok (.putfield 90, 3) := by decide +kernel
theorem dX12_notes_73 : decode cX12_notes 73 = .ok (.return_, 1) := by decide +kernel
theorem dX12_puts_0 : decode cX12_puts 0 = .ok (.aload_n 0, 1) := by decide +kernel
theorem dX12_puts_1 : decode cX12_puts 1 = .ok (.aload_n 0, 1) := by decide +kernel
theorem dX12_puts_2 : decode cX12_puts 2 = .ok (.getfield 46, 3) := by decide +kernel
theorem dX12_puts_5 : decode cX12_puts 5 = .ok (.iconst 0, 1) := by decide +kernel
theorem dX12_puts_6 : decode cX12_puts 6 = .ok (.invokevirtual 192, 3) := by decide +kernel
theorem dX12_puts_9 : decode cX12_puts 9 = .ok (.return_, 1) := by decide +kernel
theorem dX12_back_0 : decode cX12_back 0 = .ok (.aload_n 0, 1) := by decide +kernel
theorem dX12_back_1 : decode cX12_back 1 = .ok (.aload_n 0, 1) := by decide +kernel
theorem dX12_back_2 : decode cX12_back 2 = .ok (.getfield 46, 3) := by decide +kernel
theorem dX12_back_5 : decode cX12_back 5 = .ok (.iconst 0, 1) := by decide +kernel
theorem dX12_back_6 : decode cX12_back 6 = .ok (.invokevirtual 196, 3) := by decide +kernel
theorem dX12_back_9 : decode cX12_back 9 = .ok (.return_, 1) := by decide +kernel
theorem dX12_feed_0 : decode cX12_feed 0 = .ok (.aload_n 0, 1) := by decide +kernel
theorem dX12_feed_1 : decode cX12_feed 1 = .ok (.iload_n 1, 1) := by decide +kernel
theorem dX12_feed_2 : decode cX12_feed 2 = .ok (.invokevirtual 199, 3) := by decide +kernel
theorem dX12_feed_5 : decode cX12_feed 5 = .ok (.ifCond .ne 8, 3) := by decide +kernel
theorem dX12_feed_8 : decode cX12_feed 8 = .ok (.aload_n 0, 1) := by decide +kernel
theorem dX12_feed_9 : decode cX12_feed 9 = .ok (.invokevirtual 97, 3) := by decide +kernel
theorem dX12_feed_12 : decode cX12_feed 12 = .ok (.ireturn, 1) := by decide +kernel
theorem dX12_feed_13 : decode cX12_feed 13 = .ok (.aload_n 0, 1) := by decide +kernel
theorem dX12_feed_14 : decode cX12_feed 14 = .ok (.getfield 22, 3) := by decide +kernel
theorem dX12_feed_17 : decode cX12_feed 17 = .ok (.iload_n 1, 1) := by decide +kernel
theorem dX12_feed_18 : decode cX12_feed 18 = .ok (.iaload, 1) := by decide +kernel
theorem dX12_feed_19 : decode cX12_feed 19 = .ok (.iconst 1, 1) := by decide +kernel
theorem dX12_feed_20 : decode cX12_feed 20 = .ok (.if_icmp .ne 8, 3) := by decide +kernel
theorem dX12_feed_23 : decode cX12_feed 23 = .ok (.aload_n 0, 1) := by decide +kernel
theorem dX12_feed_24 : decode cX12_feed 24 = .ok (.invokevirtual 105, 3) := by decide +kernel
theorem dX12_feed_27 : decode cX12_feed 27 = .ok (.ireturn, 1) := by decide +kernel
theorem dX12_feed_28 : decode cX12_feed 28 = .ok (.aload_n 0, 1) := by decide +kernel
theorem dX12_feed_29 : decode cX12_feed 29 = .ok (.invokevirtual 202, 3) := by decide +kernel
theorem dX12_feed_32 : decode cX12_feed 32 = .ok (.aload_n 0, 1) := by decide +kernel
theorem dX12_feed_33 : decode cX12_feed 33 = .ok (.getfield 22, 3) := by decide +kernel
theorem dX12_feed_36 : decode cX12_feed 36 = .ok (.iload_n 1, 1) := by decide +kernel
theorem dX12_feed_37 : decode cX12_feed 37 = .ok (.iconst 1, 1) := by decide +kernel
theorem dX12_feed_38 : decode cX12_feed 38 = .ok (.iastore, 1) := by decide +kernel
theorem dX12_feed_39 : decode cX12_feed 39 = .ok (.iconst 1, 1) := by decide +kernel
theorem dX12_feed_40 : decode cX12_feed 40 = .ok (.ireturn, 1) := by decide +kernel
theorem dX12_watch_0 : decode cX12_watch 0 = .ok (.aload_n 0, 1) := by decide +kernel
theorem dX12_watch_1 : decode cX12_watch 1 = .ok (.invokevirtual 202, 3) := by decide +kernel
theorem dX12_watch_4 : decode cX12_watch 4 = .ok (.aload_n 0, 1) := by decide +kernel
theorem dX12_watch_5 : decode cX12_watch 5 = .ok (.invokevirtual 205, 3) := by decide +kernel
theorem dX12_watch_8 : decode cX12_watch 8 = .ok (.ireturn, 1) := by decide +kernel
theorem dX12_undo_0 : decode cX12_undo 0 = .ok (.aload_n 0, 1) := by decide +kernel
theorem dX12_undo_1 : decode cX12_undo 1 = .ok (.getfield 90, 3) := by decide +kernel
theorem dX12_undo_4 : decode cX12_undo 4 = .ok (.ifCond .ne 8, 3) := by decide +kernel
theorem dX12_undo_7 : decode cX12_undo 7 = .ok (.aload_n 0, 1) := by decide +kernel
theorem dX12_undo_8 : decode cX12_undo 8 = .ok (.invokevirtual 105, 3) := by decide +kernel
theorem dX12_undo_11 : decode cX12_undo 11 = .ok (.ireturn, 1) := by decide +kernel
theorem dX12_undo_12 : decode cX12_undo 12 = .ok (.aload_n 0, 1) := by decide +kernel
theorem dX12_undo_13 : decode cX12_undo 13 = .ok (.dup, 1) := by decide +kernel
theorem dX12_undo_14 : decode cX12_undo 14 = .ok (.getfield 90, 3) := by decide +kernel
theorem dX12_undo_17 : decode cX12_undo 17 = .ok (.iconst 1, 1) := by decide +kernel
theorem dX12_undo_18 : decode cX12_undo 18 = .ok (.isub, 1) := by decide +kernel
theorem dX12_undo_19 : decode cX12_undo 19 = .ok (.putfield 90, 3) := by decide +kernel
theorem dX12_undo_22 : decode cX12_undo 22 = .ok (.aload_n 0, 1) := by decide +kernel
theorem dX12_undo_23 : decode cX12_undo 23 = .ok (.aload_n 0, 1) := by decide +kernel
theorem dX12_undo_24 : decode cX12_undo 24 = .ok (.getfield 43, 3) := by decide +kernel
theorem dX12_undo_27 : decode cX12_undo 27 = .ok (.bipush 14, 2) := by decide +kernel
theorem dX12_undo_29 : decode cX12_undo 29 = .ok (.aload_n 0, 1) := by decide +kernel
theorem dX12_undo_30 : decode cX12_undo 30 = .ok (.getfield 90, 3) := by decide +kernel
theorem dX12_undo_33 : decode cX12_undo 33 = .ok (.imul, 1) := by decide +kernel
theorem dX12_undo_34 : decode cX12_undo 34 = .ok (.invokevirtual 196, 3) := by decide +kernel
theorem dX12_undo_37 : decode cX12_undo 37 = .ok (.aload_n 0, 1) := by decide +kernel
theorem dX12_undo_38 : decode cX12_undo 38 = .ok (.getfield 81, 3) := by decide +kernel
theorem dX12_undo_41 : decode cX12_undo 41 = .ok (.ireturn, 1) := by decide +kernel
theorem dX12_of_0 : decode cX12_of 0 = .ok (.aload_n 0, 1) := by decide +kernel
theorem dX12_of_1 : decode cX12_of 1 = .ok (.iload_n 1, 1) := by decide +kernel
theorem dX12_of_2 : decode cX12_of 2 = .ok (.invokevirtual 199, 3) := by decide +kernel
theorem dX12_of_5 : decode cX12_of 5 = .ok (.ifCond .eq 12, 3) := by decide +kernel
theorem dX12_of_8 : decode cX12_of 8 = .ok (.iload_n 2, 1) := by decide +kernel
theorem dX12_of_9 : decode cX12_of 9 = .ok (.iconst 0, 1) := by decide +kernel
theorem dX12_of_10 : decode cX12_of 10 = .ok (.iconst 4, 1) := by decide +kernel
theorem dX12_of_11 : decode cX12_of 11 = .ok (.invokestatic 93, 3) := by decide +kernel
theorem dX12_of_14 : decode cX12_of 14 = .ok (.ifCond .ne 8, 3) := by decide +kernel
theorem dX12_of_17 : decode cX12_of 17 = .ok (.aload_n 0, 1) := by decide +kernel
theorem dX12_of_18 : decode cX12_of 18 = .ok (.invokevirtual 208, 3) := by decide +kernel
theorem dX12_of_21 : decode cX12_of 21 = .ok (.ireturn, 1) := by decide +kernel
theorem dX12_of_22 : decode cX12_of 22 = .ok (.iload_n 2, 1) := by decide +kernel
theorem dX12_of_23 : decode cX12_of 23 = .ok (.ifCond .ne 12, 3) := by decide +kernel
theorem dX12_of_26 : decode cX12_of 26 = .ok (.aload_n 0, 1) := by decide +kernel
theorem dX12_of_27 : decode cX12_of 27 = .ok (.getfield 13, 3) := by decide +kernel
theorem dX12_of_30 : decode cX12_of 30 = .ok (.iload_n 1, 1) := by decide +kernel
theorem dX12_of_31 : decode cX12_of 31 = .ok (.iaload, 1) := by decide +kernel
theorem dX12_of_32 : decode cX12_of 32 = .ok (.goto 50, 3) := by decide +kernel
theorem dX12_of_35 : decode cX12_of 35 = .ok (.iload_n 2, 1) := by decide +kernel
theorem dX12_of_36 : decode cX12_of 36 = .ok (.iconst 1, 1) := by decide +kernel
theorem dX12_of_37 : decode cX12_of 37 = .ok (.if_icmp .ne 12, 3) := by decide +kernel
theorem dX12_of_40 : decode cX12_of 40 = .ok (.aload_n 0, 1) := by decide +kernel
theorem dX12_of_41 : decode cX12_of 41 = .ok (.getfield 16, 3) := by decide +kernel
theorem dX12_of_44 : decode cX12_of 44 = .ok (.iload_n 1, 1) := by decide +kernel
theorem dX12_of_45 : decode cX12_of 45 = .ok (.iaload, 1) := by decide +kernel
theorem dX12_of_46 : decode cX12_of 46 = .ok (.goto 36, 3) := by decide +kernel
theorem dX12_of_49 : decode cX12_of 49 = .ok (.iload_n 2, 1) := by decide +kernel
theorem dX12_of_50 : decode cX12_of 50 = .ok (.iconst 2, 1) := by decide +kernel
theorem dX12_of_51 : decode cX12_of 51 = .ok (.if_icmp .ne 12, 3) := by decide +kernel
theorem dX12_of_54 : decode cX12_of 54 = .ok (.aload_n 0, 1) := by decide +kernel
theorem dX12_of_55 : decode cX12_of 55 = .ok (.getfield 19, 3) := by decide +kernel
theorem dX12_of_58 : decode cX12_of 58 = .ok (.iload_n 1, 1) := by decide +kernel
theorem dX12_of_59 : decode cX12_of 59 = .ok (.iaload, 1) := by decide +kernel
theorem dX12_of_60 : decode cX12_of 60 = .ok (.goto 22, 3) := by decide +kernel
theorem dX12_of_63 : decode cX12_of 63 = .ok (.iload_n 2, 1) := by decide +kernel
theorem dX12_of_64 : decode cX12_of 64 = .ok (.iconst 3, 1) := by decide +kernel
theorem dX12_of_65 : decode cX12_of 65 = .ok (.if_icmp .ne 12, 3) := by decide +kernel
theorem dX12_of_68 : decode cX12_of 68 = .ok (.aload_n 0, 1) := by decide +kernel
theorem dX12_of_69 : decode cX12_of 69 = .ok (.getfield 22, 3) := by decide +kernel
theorem dX12_of_72 : decode cX12_of 72 = .ok (.iload_n 1, 1) := by decide +kernel
theorem dX12_of_73 : decode cX12_of 73 = .ok (.iaload, 1) := by decide +kernel
theorem dX12_of_74 : decode cX12_of 74 = .ok (.goto 8, 3) := by decide +kernel
theorem dX12_of_77 : decode cX12_of 77 = .ok (.aload_n 0, 1) := by decide +kernel
theorem dX12_of_78 : decode cX12_of 78 = .ok (.iload_n 1, 1) := by decide +kernel
theorem dX12_of_79 : decode cX12_of 79 = .ok (.invokevirtual 183, 3) := by decide +kernel
theorem dX12_of_82 : decode cX12_of 82 = .ok (.ireturn, 1) := by decide +kernel
theorem dX12_now_0 : decode cX12_now 0 = .ok (.iload_n 1, 1) := by decide +kernel
theorem dX12_now_1 : decode cX12_now 1 = .ok (.ifCond .ne 10, 3) := by decide +kernel
theorem dX12_now_4 : decode cX12_now 4 = .ok (.aload_n 0, 1) := by decide +kernel
theorem dX12_now_5 : decode cX12_now 5 = .ok (.getfield 78, 3) := by decide +kernel
theorem dX12_now_8 : decode cX12_now 8 = .ok (.goto 43, 3) := by decide +kernel
theorem dX12_now_11 : decode cX12_now 11 = .ok (.iload_n 1, 1) := by decide +kernel
theorem dX12_now_12 : decode cX12_now 12 = .ok (.iconst 1, 1) := by decide +kernel
theorem dX12_now_13 : decode cX12_now 13 = .ok (.if_icmp .ne 22, 3) := by decide +kernel
theorem dX12_now_16 : decode cX12_now 16 = .ok (.aload_n 0, 1) := by decide +kernel
theorem dX12_now_17 : decode cX12_now 17 = .ok (.aload_n 0, 1) := by decide +kernel
theorem dX12_now_18 : decode cX12_now 18 = .ok (.getfield 78, 3) := by decide +kernel
theorem dX12_now_21 : decode cX12_now 21 = .ok (.invokevirtual 101, 3) := by decide +kernel
theorem dX12_now_24 : decode cX12_now 24 = .ok (.ifCond .eq 7, 3) := by decide +kernel
theorem dX12_now_27 : decode cX12_now 27 = .ok (.iconst 1, 1) := by decide +kernel
theorem dX12_now_28 : decode cX12_now 28 = .ok (.goto 23, 3) := by decide +kernel
theorem dX12_now_31 : decode cX12_now 31 = .ok (.iconst 0, 1) := by decide +kernel
theorem dX12_now_32 : decode cX12_now 32 = .ok (.goto 19, 3) := by decide +kernel
theorem dX12_now_35 : decode cX12_now 35 = .ok (.iload_n 1, 1) := by decide +kernel
theorem dX12_now_36 : decode cX12_now 36 = .ok (.iconst 2, 1) := by decide +kernel
theorem dX12_now_37 : decode cX12_now 37 = .ok (.if_icmp .ne 10, 3) := by decide +kernel
theorem dX12_now_40 : decode cX12_now 40 = .ok (.aload_n 0, 1) := by decide +kernel
theorem dX12_now_41 : decode cX12_now 41 = .ok (.invokevirtual 186, 3) := by decide +kernel
theorem dX12_now_44 : decode cX12_now 44 = .ok (.goto 7, 3) := by decide +kernel
theorem dX12_now_47 : decode cX12_now 47 = .ok (.aload_n 0, 1) := by decide +kernel
theorem dX12_now_48 : decode cX12_now 48 = .ok (.invokevirtual 211, 3) := by decide +kernel
theorem dX12_now_51 : decode cX12_now 51 = .ok (.ireturn, 1) := by decide +kernel
theorem dX12_passes_0 : decode cX12_passes 0 = .ok (.iconst 0, 1) := by decide +kernel
theorem dX12_passes_1 : decode cX12_passes 1 = .ok (.istore_n 2, 1) := by decide +kernel
theorem dX12_passes_2 : decode cX12_passes 2 = .ok (.iload_n 2, 1) := by decide +kernel
theorem dX12_passes_3 : decode cX12_passes 3 = .ok (.iload_n 1, 1) := by decide +kernel
theorem dX12_passes_4 : decode cX12_passes 4 = .ok (.if_icmp .ge 14, 3) := by decide +kernel
theorem dX12_passes_7 : decode cX12_passes 7 = .ok (.aload_n 0, 1) := by decide +kernel
theorem dX12_passes_8 : decode cX12_passes 8 = .ok (.invokevirtual 205, 3) := by decide +kernel
theorem dX12_passes_11 : decode cX12_passes 11 = .ok (.pop, 1) := by decide +kernel
theorem dX12_passes_12 : decode cX12_passes 12 = .ok (.iinc 2 1, 3) := by decide +kernel
theorem dX12_passes_15 : decode cX12_passes 15 = .ok (.goto (-13), 3) := by decide +kernel
theorem dX12_passes_18 : decode cX12_passes 18 = .ok (.return_, 1) := by decide +kernel
theorem dX12_then_0 : decode cX12_then 0 = .ok (.iload_n 1, 1) := by decide +kernel
theorem dX12_then_1 : decode cX12_then 1 = .ok (.iconst 0, 1) := by decide +kernel
theorem dX12_then_2 : decode cX12_then 2 = .ok (.bipush 60, 2) := by decide +kernel
theorem dX12_then_4 : decode cX12_then 4 = .ok (.invokestatic 93, 3) := by decide +kernel
theorem dX12_then_7 : decode cX12_then 7 = .ok (.ifCond .eq 12, 3) := by decide +kernel
theorem dX12_then_10 : decode cX12_then 10 = .ok (.iload_n 2, 1) := by decide +kernel
theorem dX12_then_11 : decode cX12_then 11 = .ok (.iconst 0, 1) := by decide +kernel
theorem dX12_then_12 : decode cX12_then 12 = .ok (.iconst 1, 1) := by decide +kernel
theorem dX12_then_13 : decode cX12_then 13 = .ok (.invokestatic 93, 3) := by decide +kernel
theorem dX12_then_16 : decode cX12_then 16 = .ok (.ifCond .ne 8, 3) := by decide +kernel
theorem dX12_then_19 : decode cX12_then 19 = .ok (.aload_n 0, 1) := by decide +kernel
theorem dX12_then_20 : decode cX12_then 20 = .ok (.invokevirtual 211, 3) := by decide +kernel
theorem dX12_then_23 : decode cX12_then 23 = .ok (.ireturn, 1) := by decide +kernel
theorem dX12_then_24 : decode cX12_then 24 = .ok (.aload_n 0, 1) := by decide +kernel
theorem dX12_then_25 : decode cX12_then 25 = .ok (.invokevirtual 214, 3) := by decide +kernel
theorem dX12_then_28 : decode cX12_then 28 = .ok (.aload_n 0, 1) := by decide +kernel
theorem dX12_then_29 : decode cX12_then 29 = .ok (.iload_n 1, 1) := by decide +kernel
theorem dX12_then_30 : decode cX12_then 30 = .ok (.invokevirtual 217, 3) := by decide +kernel
theorem dX12_then_33 : decode cX12_then 33 = .ok (.iload_n 2, 1) := by decide +kernel
theorem dX12_then_34 : decode cX12_then 34 = .ok (.ifCond .ne 10, 3) := by decide +kernel
theorem dX12_then_37 : decode cX12_then 37 = .ok (.aload_n 0, 1) := by decide +kernel
theorem dX12_then_38 : decode cX12_then 38 = .ok (.getfield 78, 3) := by decide +kernel
theorem dX12_then_41 : decode cX12_then 41 = .ok (.goto 7, 3) := by decide +kernel
theorem dX12_then_44 : decode cX12_then 44 = .ok (.aload_n 0, 1) := by decide +kernel
theorem dX12_then_45 : decode cX12_then 45 = .ok (.invokevirtual 186, 3) := by decide +kernel
theorem dX12_then_48 : decode cX12_then 48 = .ok (.istore_n 3, 1) := by decide +kernel
theorem dX12_then_49 : decode cX12_then 49 = .ok (.aload_n 0, 1) := by decide +kernel
theorem dX12_then_50 : decode cX12_then 50 = .ok (.invokevirtual 221, 3) := by decide +kernel
theorem dX12_then_53 : decode cX12_then 53 = .ok (.iload_n 3, 1) := by decide +kernel
theorem dX12_then_54 : decode cX12_then 54 = .ok (.ireturn, 1) := by decide +kernel
theorem dX12_strikes_0 : decode cX12_strikes 0 = .ok (.aload_n 0, 1) := by decide +kernel
theorem dX12_strikes_1 : decode cX12_strikes 1 = .ok (.invokevirtual 214, 3) := by decide +kernel
theorem dX12_strikes_4 : decode cX12_strikes 4 = .ok (.iconst (-1), 1) := by decide +kernel
theorem dX12_strikes_5 : decode cX12_strikes 5 = .ok (.istore_n 1, 1) := by decide +kernel
theorem dX12_strikes_6 : decode cX12_strikes 6 = .ok (.iconst 1, 1) := by decide +kernel
theorem dX12_strikes_7 : decode cX12_strikes 7 = .ok (.istore_n 2, 1) := by decide +kernel
theorem dX12_strikes_8 : decode cX12_strikes 8 = .ok (.iload_n 2, 1) := by decide +kernel
theorem dX12_strikes_9 : decode cX12_strikes 9 = .ok (.bipush 60, 2) := by decide +kernel
theorem dX12_strikes_11 : decode cX12_strikes 11 = .ok (.if_icmp .gt 36, 3) := by decide +kernel
theorem dX12_strikes_14 : decode cX12_strikes 14 = .ok (.iload_n 1, 1) := by decide +kernel
theorem dX12_strikes_15 : decode cX12_strikes 15 = .ok (.iconst (-1), 1) := by decide +kernel
theorem dX12_strikes_16 : decode cX12_strikes 16 = .ok (.if_icmp .ne 31, 3) := by decide +kernel
theorem dX12_strikes_19 : decode cX12_strikes 19 = .ok (.aload_n 0, 1) := by decide +kernel
theorem dX12_strikes_20 : decode cX12_strikes 20 = .ok (.invokevirtual 205, 3) := by decide +kernel
theorem dX12_strikes_23 : decode cX12_strikes 23 = .ok (.pop, 1) := by decide +kernel
theorem dX12_strikes_24 : decode cX12_strikes 24 = .ok (.aload_n 0, 1) := by decide +kernel
theorem dX12_strikes_25 : decode cX12_strikes 25 = .ok (.aload_n 0, 1) := by decide +kernel
theorem dX12_strikes_26 : decode cX12_strikes 26 = .ok (.getfield 78, 3) := by decide +kernel
theorem dX12_strikes_29 : decode cX12_strikes 29 = .ok (.invokevirtual 101, 3) := by decide +kernel
theorem dX12_strikes_32 : decode cX12_strikes 32 = .ok (.ifCond .eq 7, 3) := by decide +kernel
theorem dX12_strikes_35 : decode cX12_strikes 35 = .ok (.iload_n 2, 1) := by decide +kernel
theorem dX12_strikes_36 : decode cX12_strikes 36 = .ok (.goto 4, 3) := by decide +kernel
theorem dX12_strikes_39 : decode cX12_strikes 39 = .ok (.iload_n 1, 1) := by decide +kernel
theorem dX12_strikes_40 : decode cX12_strikes 40 = .ok (.istore_n 1, 1) := by decide +kernel
theorem dX12_strikes_41 : decode cX12_strikes 41 = .ok (.iinc 2 1, 3) := by decide +kernel
theorem dX12_strikes_44 : decode cX12_strikes 44 = .ok (.goto (-36), 3) := by decide +kernel
theorem dX12_strikes_47 : decode cX12_strikes 47 = .ok (.aload_n 0, 1) := by decide +kernel
theorem dX12_strikes_48 : decode cX12_strikes 48 = .ok (.invokevirtual 221, 3) := by decide +kernel
theorem dX12_strikes_51 : decode cX12_strikes 51 = .ok (.iload_n 1, 1) := by decide +kernel
theorem dX12_strikes_52 : decode cX12_strikes 52 = .ok (.ireturn, 1) := by decide +kernel
theorem dX12_fedBy_0 : decode cX12_fedBy 0 = .ok (.iload_n 1, 1) := by decide +kernel
theorem dX12_fedBy_1 : decode cX12_fedBy 1 = .ok (.istore_n 3, 1) := by decide +kernel
theorem dX12_fedBy_2 : decode cX12_fedBy 2 = .ok (.iconst 0, 1) := by decide +kernel
theorem dX12_fedBy_3 : decode cX12_fedBy 3 = .ok (.istore 4, 2) := by decide +kernel
theorem dX12_fedBy_5 : decode cX12_fedBy 5 = .ok (.iload_n 2, 1) := by decide +kernel
theorem dX12_fedBy_6 : decode cX12_fedBy 6 = .ok (.iconst 1, 1) := by decide +kernel
theorem dX12_fedBy_7 : decode cX12_fedBy 7 = .ok (.isub, 1) := by decide +kernel
theorem dX12_fedBy_8 : decode cX12_fedBy 8 = .ok (.istore 5, 2) := by decide +kernel
theorem dX12_fedBy_10 : decode cX12_fedBy 10 = .ok (.iload 5, 2) := by decide +kernel
theorem dX12_fedBy_12 : decode cX12_fedBy 12 = .ok (.ifCond .lt 53, 3) := by decide +kernel
theorem dX12_fedBy_15 : decode cX12_fedBy 15 = .ok (.aload_n 0, 1) := by decide +kernel
theorem dX12_fedBy_16 : decode cX12_fedBy 16 = .ok (.getfield 49, 3) := by decide +kernel
theorem dX12_fedBy_19 : decode cX12_fedBy 19 = .ok (.iload 5, 2) := by decide +kernel
theorem dX12_fedBy_21 : decode cX12_fedBy 21 = .ok (.iload_n 3, 1) := by decide +kernel
theorem dX12_fedBy_22 : decode cX12_fedBy 22 = .ok (.aload_n 0, 1) := by decide +kernel
theorem dX12_fedBy_23 : decode cX12_fedBy 23 = .ok (.getfield 74, 3) := by decide +kernel
theorem dX12_fedBy_26 : decode cX12_fedBy 26 = .ok (.iconst 1, 1) := by decide +kernel
theorem dX12_fedBy_27 : decode cX12_fedBy 27 = .ok (.iadd, 1) := by decide +kernel
theorem dX12_fedBy_28 : decode cX12_fedBy 28 = .ok (.irem, 1) := by decide +kernel
theorem dX12_fedBy_29 : decode cX12_fedBy 29 = .ok (.iastore, 1) := by decide +kernel
theorem dX12_fedBy_30 : decode cX12_fedBy 30 = .ok (.iload_n 3, 1) := by decide +kernel
theorem dX12_fedBy_31 : decode cX12_fedBy 31 = .ok (.aload_n 0, 1) := by decide +kernel
theorem dX12_fedBy_32 : decode cX12_fedBy 32 = .ok (.getfield 74, 3) := by decide +kernel
theorem dX12_fedBy_35 : decode cX12_fedBy 35 = .ok (.iconst 1, 1) := by decide +kernel
theorem dX12_fedBy_36 : decode cX12_fedBy 36 = .ok (.iadd, 1) := by decide +kernel
theorem dX12_fedBy_37 : decode cX12_fedBy 37 = .ok (.idiv, 1) := by decide +kernel
theorem dX12_fedBy_38 : decode cX12_fedBy 38 = .ok (.istore_n 3, 1) := by decide +kernel
theorem dX12_fedBy_39 : decode cX12_fedBy 39 = .ok (.iload 4, 2) := by decide +kernel
theorem dX12_fedBy_41 : decode cX12_fedBy 41 = .ok (.aload_n 0, 1) := by decide +kernel
theorem dX12_fedBy_42 : decode cX12_fedBy 42 = .ok (.getfield 49, 3) := by decide +kernel
theorem dX12_fedBy_45 : decode cX12_fedBy 45 = .ok (.iload 5, 2) := by decide +kernel
theorem dX12_fedBy_47 : decode cX12_fedBy 47 = .ok (.iaload, 1) := by decide +kernel
theorem dX12_fedBy_48 : decode cX12_fedBy 48 = .ok (.ifCond .le 7, 3) := by decide +kernel
theorem dX12_fedBy_51 : decode cX12_fedBy 51 = .ok (.iconst 1, 1) := by decide +kernel
theorem dX12_fedBy_52 : decode cX12_fedBy 52 = .ok (.goto 4, 3) := by decide +kernel
theorem dX12_fedBy_55 : decode cX12_fedBy 55 = .ok (.iconst 0, 1) := by decide +kernel
theorem dX12_fedBy_56 : decode cX12_fedBy 56 = .ok (.iadd, 1) := by decide +kernel
theorem dX12_fedBy_57 : decode cX12_fedBy 57 = .ok (.istore 4, 2) := by decide +kernel
theorem dX12_fedBy_59 : decode cX12_fedBy 59 = .ok (.iinc 5 (-1), 3) := by decide +kernel
theorem dX12_fedBy_62 : decode cX12_fedBy 62 = .ok (.goto (-52), 3) := by decide +kernel
theorem dX12_fedBy_65 : decode cX12_fedBy 65 = .ok (.iload 4, 2) := by decide +kernel
theorem dX12_fedBy_67 : decode cX12_fedBy 67 = .ok (.ireturn, 1) := by decide +kernel
theorem dX12_placeBy_0 : decode cX12_placeBy 0 = .ok (.aload_n 0, 1) := by decide +kernel
theorem dX12_placeBy_1 : decode cX12_placeBy 1 = .ok (.invokevirtual 214, 3) := by decide +kernel
theorem dX12_placeBy_4 : decode cX12_placeBy 4 = .ok (.iconst 0, 1) := by decide +kernel
theorem dX12_placeBy_5 : decode cX12_placeBy 5 = .ok (.istore_n 2, 1) := by decide +kernel
theorem dX12_placeBy_6 : decode cX12_placeBy 6 = .ok (.iload_n 2, 1) := by decide +kernel
theorem dX12_placeBy_7 : decode cX12_placeBy 7 = .ok (.iload_n 1, 1) := by decide +kernel
theorem dX12_placeBy_8 : decode cX12_placeBy 8 = .ok (.if_icmp .ge 37, 3) := by decide +kernel
theorem dX12_placeBy_11 : decode cX12_placeBy 11 = .ok (.aload_n 0, 1) := by decide +kernel
theorem dX12_placeBy_12 : decode cX12_placeBy 12 = .ok (.getfield 49, 3) := by decide +kernel
theorem dX12_placeBy_15 : decode cX12_placeBy 15 = .ok (.iload_n 2, 1) := by decide +kernel
theorem dX12_placeBy_16 : decode cX12_placeBy 16 = .ok (.iaload, 1) := by decide +kernel
theorem dX12_placeBy_17 : decode cX12_placeBy 17 = .ok (.ifCond .le 17, 3) := by decide +kernel
theorem dX12_placeBy_20 : decode cX12_placeBy 20 = .ok (.aload_n 0, 1) := by decide +kernel
theorem dX12_placeBy_21 : decode cX12_placeBy 21 = .ok (.getfield 22, 3) := by decide +kernel
theorem dX12_placeBy_24 : decode cX12_placeBy 24 = .ok (.aload_n 0, 1) := by decide +kernel
theorem dX12_placeBy_25 : decode cX12_placeBy 25 = .ok (.getfield 49, 3) := by decide +kernel
theorem dX12_placeBy_28 : decode cX12_placeBy 28 = .ok (.iload_n 2, 1) := by decide +kernel
theorem dX12_placeBy_29 : decode cX12_placeBy 29 = .ok (.iaload, 1) := by decide +kernel
theorem dX12_placeBy_30 : decode cX12_placeBy 30 = .ok (.iconst 1, 1) := by decide +kernel
theorem dX12_placeBy_31 : decode cX12_placeBy 31 = .ok (.isub, 1) := by decide +kernel
theorem dX12_placeBy_32 : decode cX12_placeBy 32 = .ok (.iconst 1, 1) := by decide +kernel
theorem dX12_placeBy_33 : decode cX12_placeBy 33 = .ok (.iastore, 1) := by decide +kernel
theorem dX12_placeBy_34 : decode cX12_placeBy 34 = .ok (.aload_n 0, 1) := by decide +kernel
theorem dX12_placeBy_35 : decode cX12_placeBy 35 = .ok (.invokevirtual 205, 3) := by decide +kernel
theorem dX12_placeBy_38 : decode cX12_placeBy 38 = .ok (.pop, 1) := by decide +kernel
theorem dX12_placeBy_39 : decode cX12_placeBy 39 = .ok (.iinc 2 1, 3) := by decide +kernel
theorem dX12_placeBy_42 : decode cX12_placeBy 42 = .ok (.goto (-36), 3) := by decide +kernel
theorem dX12_placeBy_45 : decode cX12_placeBy 45 = .ok (.aload_n 0, 1) := by decide +kernel
theorem dX12_placeBy_46 : decode cX12_placeBy 46 = .ok (.getfield 78, 3) := by decide +kernel
theorem dX12_placeBy_49 : decode cX12_placeBy 49 = .ok (.istore_n 2, 1) := by decide +kernel
theorem dX12_placeBy_50 : decode cX12_placeBy 50 = .ok (.aload_n 0, 1) := by decide +kernel
theorem dX12_placeBy_51 : decode cX12_placeBy 51 = .ok (.invokevirtual 221, 3) := by decide +kernel
theorem dX12_placeBy_54 : decode cX12_placeBy 54 = .ok (.iload_n 2, 1) := by decide +kernel
theorem dX12_placeBy_55 : decode cX12_placeBy 55 = .ok (.ireturn, 1) := by decide +kernel
theorem dX12_peas_0 : decode cX12_peas 0 = .ok (.iload_n 1, 1) := by decide +kernel
theorem dX12_peas_1 : decode cX12_peas 1 = .ok (.bipush (-60), 2) := by decide +kernel
theorem dX12_peas_3 : decode cX12_peas 3 = .ok (.bipush 60, 2) := by decide +kernel
theorem dX12_peas_5 : decode cX12_peas 5 = .ok (.invokestatic 93, 3) := by decide +kernel
theorem dX12_peas_8 : decode cX12_peas 8 = .ok (.ifCond .eq 17, 3) := by decide +kernel
theorem dX12_peas_11 : decode cX12_peas 11 = .ok (.iload_n 2, 1) := by decide +kernel
theorem dX12_peas_12 : decode cX12_peas 12 = .ok (.iconst 1, 1) := by decide +kernel
theorem dX12_peas_13 : decode cX12_peas 13 = .ok (.iconst 4, 1) := by decide +kernel
theorem dX12_peas_14 : decode cX12_peas 14 = .ok (.invokestatic 93, 3) := by decide +kernel
theorem dX12_peas_17 : decode cX12_peas 17 = .ok (.ifCond .eq 8, 3) := by decide +kernel
theorem dX12_peas_20 : decode cX12_peas 20 = .ok (.iload_n 3, 1) := by decide +kernel
theorem dX12_peas_21 : decode cX12_peas 21 = .ok (.iconst (-1), 1) := by decide +kernel
theorem dX12_peas_22 : decode cX12_peas 22 = .ok (.if_icmp .ge 8, 3) := by decide +kernel
theorem dX12_peas_25 : decode cX12_peas 25 = .ok (.aload_n 0, 1) := by decide +kernel
theorem dX12_peas_26 : decode cX12_peas 26 = .ok (.invokevirtual 208, 3) := by decide +kernel
theorem dX12_peas_29 : decode cX12_peas 29 = .ok (.ireturn, 1) := by decide +kernel
theorem dX12_peas_30 : decode cX12_peas 30 = .ok (.iconst 1, 1) := by decide +kernel
theorem dX12_peas_31 : decode cX12_peas 31 = .ok (.istore 4, 2) := by decide +kernel
theorem dX12_peas_33 : decode cX12_peas 33 = .ok (.iconst 0, 1) := by decide +kernel
theorem dX12_peas_34 : decode cX12_peas 34 = .ok (.istore 5, 2) := by decide +kernel
theorem dX12_peas_36 : decode cX12_peas 36 = .ok (.iload 5, 2) := by decide +kernel
theorem dX12_peas_38 : decode cX12_peas 38 = .ok (.iload_n 2, 1) := by decide +kernel
theorem dX12_peas_39 : decode cX12_peas 39 = .ok (.if_icmp .ge 20, 3) := by decide +kernel
theorem dX12_peas_42 : decode cX12_peas 42 = .ok (.iload 4, 2) := by decide +kernel
theorem dX12_peas_44 : decode cX12_peas 44 = .ok (.aload_n 0, 1) := by decide +kernel
theorem dX12_peas_45 : decode cX12_peas 45 = .ok (.getfield 74, 3) := by decide +kernel
theorem dX12_peas_48 : decode cX12_peas 48 = .ok (.iconst 1, 1) := by decide +kernel
theorem dX12_peas_49 : decode cX12_peas 49 = .ok (.iadd, 1) := by decide +kernel
theorem dX12_peas_50 : decode cX12_peas 50 = .ok (.imul, 1) := by decide +kernel
theorem dX12_peas_51 : decode cX12_peas 51 = .ok (.istore 4, 2) := by decide +kernel
theorem dX12_peas_53 : decode cX12_peas 53 = .ok (.iinc 5 1, 3) := by decide +kernel
theorem dX12_peas_56 : decode cX12_peas 56 = .ok (.goto (-20), 3) := by decide +kernel
theorem dX12_peas_59 : decode cX12_peas 59 = .ok (.iconst 5, 1) := by decide +kernel
theorem dX12_peas_60 : decode cX12_peas 60 = .ok (.istore 5, 2) := by decide +kernel
theorem dX12_peas_62 : decode cX12_peas 62 = .ok (.iconst 0, 1) := by decide +kernel
theorem dX12_peas_63 : decode cX12_peas 63 = .ok (.istore 6, 2) := by decide +kernel
theorem dX12_peas_65 : decode cX12_peas 65 = .ok (.iload 6, 2) := by decide +kernel
theorem dX12_peas_67 : decode cX12_peas 67 = .ok (.iload 4, 2) := by decide +kernel
theorem dX12_peas_69 : decode cX12_peas 69 = .ok (.if_icmp .ge 67, 3) := by decide +kernel
theorem dX12_peas_72 : decode cX12_peas 72 = .ok (.aload_n 0, 1) := by decide +kernel
theorem dX12_peas_73 : decode cX12_peas 73 = .ok (.iload 6, 2) := by decide +kernel
theorem dX12_peas_75 : decode cX12_peas 75 = .ok (.iload_n 2, 1) := by decide +kernel
theorem dX12_peas_76 : decode cX12_peas 76 = .ok (.invokevirtual 224, 3) := by decide +kernel
theorem dX12_peas_79 : decode cX12_peas 79 = .ok (.istore 7, 2) := by decide +kernel
theorem dX12_peas_81 : decode cX12_peas 81 = .ok (.iload 7, 2) := by decide +kernel
theorem dX12_peas_83 : decode cX12_peas 83 = .ok (.iload 5, 2) := by decide +kernel
theorem dX12_peas_85 : decode cX12_peas 85 = .ok (.if_icmp .ge 45, 3) := by decide +kernel
theorem dX12_peas_88 : decode cX12_peas 88 = .ok (.aload_n 0, 1) := by decide +kernel
theorem dX12_peas_89 : decode cX12_peas 89 = .ok (.iload_n 2, 1) := by decide +kernel
theorem dX12_peas_90 : decode cX12_peas 90 = .ok (.invokevirtual 228, 3) := by decide +kernel
theorem dX12_peas_93 : decode cX12_peas 93 = .ok (.iload_n 1, 1) := by decide +kernel
theorem dX12_peas_94 : decode cX12_peas 94 = .ok (.if_icmp .ne 36, 3) := by decide +kernel
theorem dX12_peas_97 : decode cX12_peas 97 = .ok (.iload 7, 2) := by decide +kernel
theorem dX12_peas_99 : decode cX12_peas 99 = .ok (.istore 5, 2) := by decide +kernel
theorem dX12_peas_101 : decode cX12_peas 101 = .ok (.iconst 0, 1) := by decide +kernel
theorem dX12_peas_102 : decode cX12_peas 102 = .ok (.istore 8, 2) := by decide +kernel
theorem dX12_peas_104 : decode cX12_peas 104 = .ok (.iload 8, 2) := by decide +kernel
theorem dX12_peas_106 : decode cX12_peas 106 = .ok (.iload_n 2, 1) := by decide +kernel
theorem dX12_peas_107 : decode cX12_peas 107 = .ok (.if_icmp .ge 23, 3) := by decide +kernel
theorem dX12_peas_110 : decode cX12_peas 110 = .ok (.aload_n 0, 1) := by decide +kernel
theorem dX12_peas_111 : decode cX12_peas 111 = .ok (.getfield 52, 3) := by decide +kernel
theorem dX12_peas_114 : decode cX12_peas 114 = .ok (.iload 8, 2) := by decide +kernel
theorem dX12_peas_116 : decode cX12_peas 116 = .ok (.aload_n 0, 1) := by decide +kernel
theorem dX12_peas_117 : decode cX12_peas 117 = .ok (.getfield 49, 3) := by decide +kernel
theorem dX12_peas_120 : decode cX12_peas 120 = .ok (.iload 8, 2) := by decide +kernel
theorem dX12_peas_122 : decode cX12_peas 122 = .ok (.iaload, 1) := by decide +kernel
theorem dX12_peas_123 : decode cX12_peas 123 = .ok (.iastore, 1) := by decide +kernel
theorem dX12_peas_124 : decode cX12_peas 124 = .ok (.iinc 8 1, 3) := by decide +kernel
theorem dX12_peas_127 : decode cX12_peas 127 = .ok (.goto (-23), 3) := by decide +kernel
theorem dX12_peas_130 : decode cX12_peas 130 = .ok (.iinc 6 1, 3) := by decide +kernel
theorem dX12_peas_133 : decode cX12_peas 133 = .ok (.goto (-68), 3) := by decide +kernel
theorem dX12_peas_136 : decode cX12_peas 136 = .ok (.iload 5, 2) := by decide +kernel
theorem dX12_peas_138 : decode cX12_peas 138 = .ok (.iconst 5, 1) := by decide +kernel
theorem dX12_peas_139 : decode cX12_peas 139 = .ok (.if_icmp .ne 5, 3) := by decide +kernel
theorem dX12_peas_142 : decode cX12_peas 142 = .ok (.iconst (-1), 1) := by decide +kernel
theorem dX12_peas_143 : decode cX12_peas 143 = .ok (.ireturn, 1) := by decide +kernel
theorem dX12_peas_144 : decode cX12_peas 144 = .ok (.iload_n 3, 1) := by decide +kernel
theorem dX12_peas_145 : decode cX12_peas 145 = .ok (.iload_n 2, 1) := by decide +kernel
theorem dX12_peas_146 : decode cX12_peas 146 = .ok (.if_icmp .lt 6, 3) := by decide +kernel
theorem dX12_peas_149 : decode cX12_peas 149 = .ok (.bipush (-5), 2) := by decide +kernel
theorem dX12_peas_151 : decode cX12_peas 151 = .ok (.ireturn, 1) := by decide +kernel
theorem dX12_peas_152 : decode cX12_peas 152 = .ok (.iload_n 3, 1) := by decide +kernel
theorem dX12_peas_153 : decode cX12_peas 153 = .ok (.iconst (-1), 1) := by decide +kernel
theorem dX12_peas_154 : decode cX12_peas 154 = .ok (.if_icmp .ne 8, 3) := by decide +kernel
theorem dX12_peas_157 : decode cX12_peas 157 = .ok (.iload 5, 2) := by decide +kernel
theorem dX12_peas_159 : decode cX12_peas 159 = .ok (.goto 25, 3) := by decide +kernel
theorem dX12_peas_162 : decode cX12_peas 162 = .ok (.aload_n 0, 1) := by decide +kernel
theorem dX12_peas_163 : decode cX12_peas 163 = .ok (.getfield 52, 3) := by decide +kernel
theorem dX12_peas_166 : decode cX12_peas 166 = .ok (.iload_n 3, 1) := by decide +kernel
theorem dX12_peas_167 : decode cX12_peas 167 = .ok (.iaload, 1) := by decide +kernel
theorem dX12_peas_168 : decode cX12_peas 168 = .ok (.ifCond .ne 8, 3) := by decide +kernel
theorem dX12_peas_171 : decode cX12_peas 171 = .ok (.bipush 6, 2) := by decide +kernel
theorem dX12_peas_173 : decode cX12_peas 173 = .ok (.goto 11, 3) := by decide +kernel
theorem dX12_peas_176 : decode cX12_peas 176 = .ok (.aload_n 0, 1) := by decide +kernel
theorem dX12_peas_177 : decode cX12_peas 177 = .ok (.getfield 52, 3) := by decide +kernel
theorem dX12_peas_180 : decode cX12_peas 180 = .ok (.iload_n 3, 1) := by decide +kernel
theorem dX12_peas_181 : decode cX12_peas 181 = .ok (.iaload, 1) := by decide +kernel
theorem dX12_peas_182 : decode cX12_peas 182 = .ok (.iconst 1, 1) := by decide +kernel
theorem dX12_peas_183 : decode cX12_peas 183 = .ok (.isub, 1) := by decide +kernel
theorem dX12_peas_184 : decode cX12_peas 184 = .ok (.ireturn, 1) := by decide +kernel
theorem dX12_steersBy_0 : decode cX12_steersBy 0 = .ok (.iconst 0, 1) := by decide +kernel
theorem dX12_steersBy_1 : decode cX12_steersBy 1 = .ok (.istore_n 2, 1) := by decide +kernel
theorem dX12_steersBy_2 : decode cX12_steersBy 2 = .ok (.iconst 0, 1) := by decide +kernel
theorem dX12_steersBy_3 : decode cX12_steersBy 3 = .ok (.istore_n 3, 1) := by decide +kernel
theorem dX12_steersBy_4 : decode cX12_steersBy 4 = .ok (.iload_n 3, 1) := by decide +kernel
theorem dX12_steersBy_5 : decode cX12_steersBy 5 = .ok (.aload_n 0, 1) := by decide +kernel
theorem dX12_steersBy_6 : decode cX12_steersBy 6 = .ok (.getfield 74, 3) := by decide +kernel
theorem dX12_steersBy_9 : decode cX12_steersBy 9 = .ok (.if_icmp .ge 31, 3) := by decide +kernel
theorem dX12_steersBy_12 : decode cX12_steersBy 12 = .ok (.iload_n 2, 1) := by decide +kernel
theorem dX12_steersBy_13 : decode cX12_steersBy 13 = .ok (.aload_n 0, 1) := by decide +kernel
theorem dX12_steersBy_14 : decode cX12_steersBy 14 = .ok (.getfield 22, 3) := by decide +kernel
theorem dX12_steersBy_17 : decode cX12_steersBy 17 = .ok (.iload_n 3, 1) := by decide +kernel
theorem dX12_steersBy_18 : decode cX12_steersBy 18 = .ok (.iaload, 1) := by decide +kernel
theorem dX12_steersBy_19 : decode cX12_steersBy 19 = .ok (.iload_n 3, 1) := by decide +kernel
theorem dX12_steersBy_20 : decode cX12_steersBy 20 = .ok (.ishl, 1) := by decide +kernel
theorem dX12_steersBy_21 : decode cX12_steersBy 21 = .ok (.ior, 1) := by decide +kernel
theorem dX12_steersBy_22 : decode cX12_steersBy 22 = .ok (.istore_n 2, 1) := by decide +kernel
theorem dX12_steersBy_23 : decode cX12_steersBy 23 = .ok (.aload_n 0, 1) := by decide +kernel
theorem dX12_steersBy_24 : decode cX12_steersBy 24 = .ok (.getfield 22, 3) := by decide +kernel
theorem dX12_steersBy_27 : decode cX12_steersBy 27 = .ok (.iload_n 3, 1) := by decide +kernel
theorem dX12_steersBy_28 : decode cX12_steersBy 28 = .ok (.iload_n 1, 1) := by decide +kernel
theorem dX12_steersBy_29 : decode cX12_steersBy 29 = .ok (.iload_n 3, 1) := by decide +kernel
theorem dX12_steersBy_30 : decode cX12_steersBy 30 = .ok (.ishr, 1) := by decide +kernel
theorem dX12_steersBy_31 : decode cX12_steersBy 31 = .ok (.iconst 1, 1) := by decide +kernel
theorem dX12_steersBy_32 : decode cX12_steersBy 32 = .ok (.iand, 1) := by decide +kernel
theorem dX12_steersBy_33 : decode cX12_steersBy 33 = .ok (.iastore, 1) := by decide +kernel
theorem dX12_steersBy_34 : decode cX12_steersBy 34 = .ok (.iinc 3 1, 3) := by decide +kernel
theorem dX12_steersBy_37 : decode cX12_steersBy 37 = .ok (.goto (-33), 3) := by decide +kernel
theorem dX12_steersBy_40 : decode cX12_steersBy 40 = .ok (.aload_n 0, 1) := by decide +kernel
theorem dX12_steersBy_41 : decode cX12_steersBy 41 = .ok (.invokevirtual 186, 3) := by decide +kernel
theorem dX12_steersBy_44 : decode cX12_steersBy 44 = .ok (.istore_n 3, 1) := by decide +kernel
theorem dX12_steersBy_45 : decode cX12_steersBy 45 = .ok (.iconst 0, 1) := by decide +kernel
theorem dX12_steersBy_46 : decode cX12_steersBy 46 = .ok (.istore 4, 2) := by decide +kernel
theorem dX12_steersBy_48 : decode cX12_steersBy 48 = .ok (.iload 4, 2) := by decide +kernel
theorem dX12_steersBy_50 : decode cX12_steersBy 50 = .ok (.aload_n 0, 1) := by decide +kernel
theorem dX12_steersBy_51 : decode cX12_steersBy 51 = .ok (.getfield 74, 3) := by decide +kernel
theorem dX12_steersBy_54 : decode cX12_steersBy 54 = .ok (.if_icmp .ge 22, 3) := by decide +kernel
theorem dX12_steersBy_57 : decode cX12_steersBy 57 = .ok (.aload_n 0, 1) := by decide +kernel
theorem dX12_steersBy_58 : decode cX12_steersBy 58 = .ok (.getfield 22, 3) := by decide +kernel
theorem dX12_steersBy_61 : decode cX12_steersBy 61 = .ok (.iload 4, 2) := by decide +kernel
theorem dX12_steersBy_63 : decode cX12_steersBy 63 = .ok (.iload_n 2, 1) := by decide +kernel
theorem dX12_steersBy_64 : decode cX12_steersBy 64 = .ok (.iload 4, 2) := by decide +kernel
theorem dX12_steersBy_66 : decode cX12_steersBy 66 = .ok (.ishr, 1) := by decide +kernel
theorem dX12_steersBy_67 : decode cX12_steersBy 67 = .ok (.iconst 1, 1) := by decide +kernel
theorem dX12_steersBy_68 : decode cX12_steersBy 68 = .ok (.iand, 1) := by decide +kernel
theorem dX12_steersBy_69 : decode cX12_steersBy 69 = .ok (.iastore, 1) := by decide +kernel
theorem dX12_steersBy_70 : decode cX12_steersBy 70 = .ok (.iinc 4 1, 3) := by decide +kernel
theorem dX12_steersBy_73 : decode cX12_steersBy 73 = .ok (.goto (-25), 3) := by decide +kernel
theorem dX12_steersBy_76 : decode cX12_steersBy 76 = .ok (.iload_n 3, 1) := by decide +kernel
theorem dX12_steersBy_77 : decode cX12_steersBy 77 = .ok (.ireturn, 1) := by decide +kernel
theorem dX12_canNot_0 : decode cX12_canNot 0 = .ok (.aload_n 0, 1) := by decide +kernel
theorem dX12_canNot_1 : decode cX12_canNot 1 = .ok (.iload_n 1, 1) := by decide +kernel
theorem dX12_canNot_2 : decode cX12_canNot 2 = .ok (.invokevirtual 199, 3) := by decide +kernel
theorem dX12_canNot_5 : decode cX12_canNot 5 = .ok (.ifCond .ne 8, 3) := by decide +kernel
theorem dX12_canNot_8 : decode cX12_canNot 8 = .ok (.aload_n 0, 1) := by decide +kernel
theorem dX12_canNot_9 : decode cX12_canNot 9 = .ok (.invokevirtual 97, 3) := by decide +kernel
theorem dX12_canNot_12 : decode cX12_canNot 12 = .ok (.ireturn, 1) := by decide +kernel
theorem dX12_canNot_13 : decode cX12_canNot 13 = .ok (.aload_n 0, 1) := by decide +kernel
theorem dX12_canNot_14 : decode cX12_canNot 14 = .ok (.invokevirtual 214, 3) := by decide +kernel
theorem dX12_canNot_17 : decode cX12_canNot 17 = .ok (.iconst 0, 1) := by decide +kernel
theorem dX12_canNot_18 : decode cX12_canNot 18 = .ok (.istore_n 2, 1) := by decide +kernel
theorem dX12_canNot_19 : decode cX12_canNot 19 = .ok (.iconst 0, 1) := by decide +kernel
theorem dX12_canNot_20 : decode cX12_canNot 20 = .ok (.istore_n 3, 1) := by decide +kernel
theorem dX12_canNot_21 : decode cX12_canNot 21 = .ok (.iload_n 3, 1) := by decide +kernel
theorem dX12_canNot_22 : decode cX12_canNot 22 = .ok (.bipush 8, 2) := by decide +kernel
theorem dX12_canNot_24 : decode cX12_canNot 24 = .ok (.if_icmp .ge 74, 3) := by decide +kernel
theorem dX12_canNot_27 : decode cX12_canNot 27 = .ok (.iconst 0, 1) := by decide +kernel
theorem dX12_canNot_28 : decode cX12_canNot 28 = .ok (.istore 4, 2) := by decide +kernel
theorem dX12_canNot_30 : decode cX12_canNot 30 = .ok (.iconst 0, 1) := by decide +kernel
theorem dX12_canNot_31 : decode cX12_canNot 31 = .ok (.istore 5, 2) := by decide +kernel
theorem dX12_canNot_33 : decode cX12_canNot 33 = .ok (.iload 5, 2) := by decide +kernel
theorem dX12_canNot_35 : decode cX12_canNot 35 = .ok (.iconst 1, 1) := by decide +kernel
theorem dX12_canNot_36 : decode cX12_canNot 36 = .ok (.aload_n 0, 1) := by decide +kernel
theorem dX12_canNot_37 : decode cX12_canNot 37 = .ok (.getfield 74, 3) := by decide +kernel
theorem dX12_canNot_40 : decode cX12_canNot 40 = .ok (.ishl, 1) := by decide +kernel
theorem dX12_canNot_41 : decode cX12_canNot 41 = .ok (.if_icmp .ge 31, 3) := by decide +kernel
theorem dX12_canNot_44 : decode cX12_canNot 44 = .ok (.iload 4, 2) := by decide +kernel
theorem dX12_canNot_46 : decode cX12_canNot 46 = .ok (.ifCond .ne 13, 3) := by decide +kernel
theorem dX12_canNot_49 : decode cX12_canNot 49 = .ok (.aload_n 0, 1) := by decide +kernel
theorem dX12_canNot_50 : decode cX12_canNot 50 = .ok (.iload 5, 2) := by decide +kernel
theorem dX12_canNot_52 : decode cX12_canNot 52 = .ok (.invokevirtual 231, 3) := by decide +kernel
theorem dX12_canNot_55 : decode cX12_canNot 55 = .ok (.iload_n 1, 1) := by decide +kernel
theorem dX12_canNot_56 : decode cX12_canNot 56 = .ok (.if_icmp .ne 7, 3) := by decide +kernel
theorem dX12_canNot_59 : decode cX12_canNot 59 = .ok (.iconst 1, 1) := by decide +kernel
theorem dX12_canNot_60 : decode cX12_canNot 60 = .ok (.goto 4, 3) := by decide +kernel
theorem dX12_canNot_63 : decode cX12_canNot 63 = .ok (.iconst 0, 1) := by decide +kernel
theorem dX12_canNot_64 : decode cX12_canNot 64 = .ok (.istore 4, 2) := by decide +kernel
theorem dX12_canNot_66 : decode cX12_canNot 66 = .ok (.iinc 5 1, 3) := by decide +kernel
theorem dX12_canNot_69 : decode cX12_canNot 69 = .ok (.goto (-36), 3) := by decide +kernel
theorem dX12_canNot_72 : decode cX12_canNot 72 = .ok (.iload_n 2, 1) := by decide +kernel
theorem dX12_canNot_73 : decode cX12_canNot 73 = .ok (.iload 4, 2) := by decide +kernel
theorem dX12_canNot_75 : decode cX12_canNot 75 = .ok (.ifCond .eq 7, 3) := by decide +kernel
theorem dX12_canNot_78 : decode cX12_canNot 78 = .ok (.iconst 0, 1) := by decide +kernel
theorem dX12_canNot_79 : decode cX12_canNot 79 = .ok (.goto 6, 3) := by decide +kernel
theorem dX12_canNot_82 : decode cX12_canNot 82 = .ok (.iconst 1, 1) := by decide +kernel
theorem dX12_canNot_83 : decode cX12_canNot 83 = .ok (.iload_n 3, 1) := by decide +kernel
theorem dX12_canNot_84 : decode cX12_canNot 84 = .ok (.ishl, 1) := by decide +kernel
theorem dX12_canNot_85 : decode cX12_canNot 85 = .ok (.ior, 1) := by decide +kernel
theorem dX12_canNot_86 : decode cX12_canNot 86 = .ok (.istore_n 2, 1) := by decide +kernel
theorem dX12_canNot_87 : decode cX12_canNot 87 = .ok (.aload_n 0, 1) := by decide +kernel
theorem dX12_canNot_88 : decode cX12_canNot 88 = .ok (.invokevirtual 205, 3) := by decide +kernel
theorem dX12_canNot_91 : decode cX12_canNot 91 = .ok (.pop, 1) := by decide +kernel
theorem dX12_canNot_92 : decode cX12_canNot 92 = .ok (.iinc 3 1, 3) := by decide +kernel
theorem dX12_canNot_95 : decode cX12_canNot 95 = .ok (.goto (-74), 3) := by decide +kernel
theorem dX12_canNot_98 : decode cX12_canNot 98 = .ok (.aload_n 0, 1) := by decide +kernel
theorem dX12_canNot_99 : decode cX12_canNot 99 = .ok (.invokevirtual 221, 3) := by decide +kernel
theorem dX12_canNot_102 : decode cX12_canNot 102 = .ok (.iload_n 2, 1) := by decide +kernel
theorem dX12_canNot_103 : decode cX12_canNot 103 = .ok (.ireturn, 1) := by decide +kernel
theorem dX12_eat_0 : decode cX12_eat 0 = .ok (.aload_n 0, 1) := by decide +kernel
theorem dX12_eat_1 : decode cX12_eat 1 = .ok (.iload_n 1, 1) := by decide +kernel
theorem dX12_eat_2 : decode cX12_eat 2 = .ok (.invokevirtual 199, 3) := by decide +kernel
theorem dX12_eat_5 : decode cX12_eat 5 = .ok (.ifCond .eq 16, 3) := by decide +kernel
theorem dX12_eat_8 : decode cX12_eat 8 = .ok (.aload_n 0, 1) := by decide +kernel
theorem dX12_eat_9 : decode cX12_eat 9 = .ok (.iload_n 2, 1) := by decide +kernel
theorem dX12_eat_10 : decode cX12_eat 10 = .ok (.invokevirtual 199, 3) := by decide +kernel
theorem dX12_eat_13 : decode cX12_eat 13 = .ok (.ifCond .eq 8, 3) := by decide +kernel
theorem dX12_eat_16 : decode cX12_eat 16 = .ok (.iload_n 1, 1) := by decide +kernel
theorem dX12_eat_17 : decode cX12_eat 17 = .ok (.iload_n 2, 1) := by decide +kernel
theorem dX12_eat_18 : decode cX12_eat 18 = .ok (.if_icmp .ne 8, 3) := by decide +kernel
theorem dX12_eat_21 : decode cX12_eat 21 = .ok (.aload_n 0, 1) := by decide +kernel
theorem dX12_eat_22 : decode cX12_eat 22 = .ok (.invokevirtual 97, 3) := by decide +kernel
theorem dX12_eat_25 : decode cX12_eat 25 = .ok (.ireturn, 1) := by decide +kernel
theorem dX12_eat_26 : decode cX12_eat 26 = .ok (.iconst 0, 1) := by decide +kernel
theorem dX12_eat_27 : decode cX12_eat 27 = .ok (.istore_n 3, 1) := by decide +kernel
theorem dX12_eat_28 : decode cX12_eat 28 = .ok (.iconst 0, 1) := by decide +kernel
theorem dX12_eat_29 : decode cX12_eat 29 = .ok (.istore 4, 2) := by decide +kernel
theorem dX12_eat_31 : decode cX12_eat 31 = .ok (.iload 4, 2) := by decide +kernel
theorem dX12_eat_33 : decode cX12_eat 33 = .ok (.aload_n 0, 1) := by decide +kernel
theorem dX12_eat_34 : decode cX12_eat 34 = .ok (.getfield 74, 3) := by decide +kernel
theorem dX12_eat_37 : decode cX12_eat 37 = .ok (.if_icmp .ge 38, 3) := by decide +kernel
theorem dX12_eat_40 : decode cX12_eat 40 = .ok (.iload_n 3, 1) := by decide +kernel
theorem dX12_eat_41 : decode cX12_eat 41 = .ok (.iload 4, 2) := by decide +kernel
theorem dX12_eat_43 : decode cX12_eat 43 = .ok (.iload_n 1, 1) := by decide +kernel
theorem dX12_eat_44 : decode cX12_eat 44 = .ok (.if_icmp .eq 22, 3) := by decide +kernel
theorem dX12_eat_47 : decode cX12_eat 47 = .ok (.iload 4, 2) := by decide +kernel
theorem dX12_eat_49 : decode cX12_eat 49 = .ok (.iload_n 2, 1) := by decide +kernel
theorem dX12_eat_50 : decode cX12_eat 50 = .ok (.if_icmp .eq 16, 3) := by decide +kernel
theorem dX12_eat_53 : decode cX12_eat 53 = .ok (.aload_n 0, 1) := by decide +kernel
theorem dX12_eat_54 : decode cX12_eat 54 = .ok (.getfield 22, 3) := by decide +kernel
theorem dX12_eat_57 : decode cX12_eat 57 = .ok (.iload 4, 2) := by decide +kernel
theorem dX12_eat_59 : decode cX12_eat 59 = .ok (.iaload, 1) := by decide +kernel
theorem dX12_eat_60 : decode cX12_eat 60 = .ok (.iload 4, 2) := by decide +kernel
theorem dX12_eat_62 : decode cX12_eat 62 = .ok (.ishl, 1) := by decide +kernel
theorem dX12_eat_63 : decode cX12_eat 63 = .ok (.goto 4, 3) := by decide +kernel
theorem dX12_eat_66 : decode cX12_eat 66 = .ok (.iconst 0, 1) := by decide +kernel
theorem dX12_eat_67 : decode cX12_eat 67 = .ok (.ior, 1) := by decide +kernel
theorem dX12_eat_68 : decode cX12_eat 68 = .ok (.istore_n 3, 1) := by decide +kernel
theorem dX12_eat_69 : decode cX12_eat 69 = .ok (.iinc 4 1, 3) := by decide +kernel
theorem dX12_eat_72 : decode cX12_eat 72 = .ok (.goto (-41), 3) := by decide +kernel
theorem dX12_eat_75 : decode cX12_eat 75 = .ok (.iconst 0, 1) := by decide +kernel
theorem dX12_eat_76 : decode cX12_eat 76 = .ok (.istore 4, 2) := by decide +kernel
theorem dX12_eat_78 : decode cX12_eat 78 = .ok (.iconst 0, 1) := by decide +kernel
theorem dX12_eat_79 : decode cX12_eat 79 = .ok (.istore 5, 2) := by decide +kernel
theorem dX12_eat_81 : decode cX12_eat 81 = .ok (.iload 5, 2) := by decide +kernel
theorem dX12_eat_83 : decode cX12_eat 83 = .ok (.iconst 4, 1) := by decide +kernel
theorem dX12_eat_84 : decode cX12_eat 84 = .ok (.if_icmp .ge 125, 3) := by decide +kernel
theorem dX12_eat_87 : decode cX12_eat 87 = .ok (.aload_n 0, 1) := by decide +kernel
theorem dX12_eat_88 : decode cX12_eat 88 = .ok (.iload_n 3, 1) := by decide +kernel
theorem dX12_eat_89 : decode cX12_eat 89 = .ok (.iload 5, 2) := by decide +kernel
theorem dX12_eat_91 : decode cX12_eat 91 = .ok (.iconst 2, 1) := by decide +kernel
theorem dX12_eat_92 : decode cX12_eat 92 = .ok (.irem, 1) := by decide +kernel
theorem dX12_eat_93 : decode cX12_eat 93 = .ok (.iload_n 1, 1) := by decide +kernel
theorem dX12_eat_94 : decode cX12_eat 94 = .ok (.ishl, 1) := by decide +kernel
theorem dX12_eat_95 : decode cX12_eat 95 = .ok (.ior, 1) := by decide +kernel
theorem dX12_eat_96 : decode cX12_eat 96 = .ok (.iload 5, 2) := by decide +kernel
theorem dX12_eat_98 : decode cX12_eat 98 = .ok (.iconst 2, 1) := by decide +kernel
theorem dX12_eat_99 : decode cX12_eat 99 = .ok (.idiv, 1) := by decide +kernel
theorem dX12_eat_100 : decode cX12_eat 100 = .ok (.iload_n 2, 1) := by decide +kernel
theorem dX12_eat_101 : decode cX12_eat 101 = .ok (.ishl, 1) := by decide +kernel
theorem dX12_eat_102 : decode cX12_eat 102 = .ok (.ior, 1) := by decide +kernel
theorem dX12_eat_103 : decode cX12_eat 103 = .ok (.invokevirtual 231, 3) := by decide +kernel
theorem dX12_eat_106 : decode cX12_eat 106 = .ok (.istore 6, 2) := by decide +kernel
theorem dX12_eat_108 : decode cX12_eat 108 = .ok (.aload_n 0, 1) := by decide +kernel
theorem dX12_eat_109 : decode cX12_eat 109 = .ok (.iload_n 3, 1) := by decide +kernel
theorem dX12_eat_110 : decode cX12_eat 110 = .ok (.iconst 1, 1) := by decide +kernel
theorem dX12_eat_111 : decode cX12_eat 111 = .ok (.iload 5, 2) := by decide +kernel
theorem dX12_eat_113 : decode cX12_eat 113 = .ok (.iconst 2, 1) := by decide +kernel
theorem dX12_eat_114 : decode cX12_eat 114 = .ok (.irem, 1) := by decide +kernel
theorem dX12_eat_115 : decode cX12_eat 115 = .ok (.isub, 1) := by decide +kernel
theorem dX12_eat_116 : decode cX12_eat 116 = .ok (.iload_n 1, 1) := by decide +kernel
theorem dX12_eat_117 : decode cX12_eat 117 = .ok (.ishl, 1) := by decide +kernel
theorem dX12_eat_118 : decode cX12_eat 118 = .ok (.ior, 1) := by decide +kernel
theorem dX12_eat_119 : decode cX12_eat 119 = .ok (.iload 5, 2) := by decide +kernel
theorem dX12_eat_121 : decode cX12_eat 121 = .ok (.iconst 2, 1) := by decide +kernel
theorem dX12_eat_122 : decode cX12_eat 122 = .ok (.idiv, 1) := by decide +kernel
theorem dX12_eat_123 : decode cX12_eat 123 = .ok (.iload_n 2, 1) := by decide +kernel
theorem dX12_eat_124 : decode cX12_eat 124 = .ok (.ishl, 1) := by decide +kernel
theorem dX12_eat_125 : decode cX12_eat 125 = .ok (.ior, 1) := by decide +kernel
theorem dX12_eat_126 : decode cX12_eat 126 = .ok (.invokevirtual 231, 3) := by decide +kernel
theorem dX12_eat_129 : decode cX12_eat 129 = .ok (.istore 7, 2) := by decide +kernel
theorem dX12_eat_131 : decode cX12_eat 131 = .ok (.aload_n 0, 1) := by decide +kernel
theorem dX12_eat_132 : decode cX12_eat 132 = .ok (.iload_n 3, 1) := by decide +kernel
theorem dX12_eat_133 : decode cX12_eat 133 = .ok (.iload 5, 2) := by decide +kernel
theorem dX12_eat_135 : decode cX12_eat 135 = .ok (.iconst 2, 1) := by decide +kernel
theorem dX12_eat_136 : decode cX12_eat 136 = .ok (.irem, 1) := by decide +kernel
theorem dX12_eat_137 : decode cX12_eat 137 = .ok (.iload_n 1, 1) := by decide +kernel
theorem dX12_eat_138 : decode cX12_eat 138 = .ok (.ishl, 1) := by decide +kernel
theorem dX12_eat_139 : decode cX12_eat 139 = .ok (.ior, 1) := by decide +kernel
theorem dX12_eat_140 : decode cX12_eat 140 = .ok (.iconst 1, 1) := by decide +kernel
theorem dX12_eat_141 : decode cX12_eat 141 = .ok (.iload 5, 2) := by decide +kernel
theorem dX12_eat_143 : decode cX12_eat 143 = .ok (.iconst 2, 1) := by decide +kernel
theorem dX12_eat_144 : decode cX12_eat 144 = .ok (.idiv, 1) := by decide +kernel
theorem dX12_eat_145 : decode cX12_eat 145 = .ok (.isub, 1) := by decide +kernel
theorem dX12_eat_146 : decode cX12_eat 146 = .ok (.iload_n 2, 1) := by decide +kernel
theorem dX12_eat_147 : decode cX12_eat 147 = .ok (.ishl, 1) := by decide +kernel
theorem dX12_eat_148 : decode cX12_eat 148 = .ok (.ior, 1) := by decide +kernel
theorem dX12_eat_149 : decode cX12_eat 149 = .ok (.invokevirtual 231, 3) := by decide +kernel
theorem dX12_eat_152 : decode cX12_eat 152 = .ok (.istore 8, 2) := by decide +kernel
theorem dX12_eat_154 : decode cX12_eat 154 = .ok (.iload 6, 2) := by decide +kernel
theorem dX12_eat_156 : decode cX12_eat 156 = .ok (.iload_n 1, 1) := by decide +kernel
theorem dX12_eat_157 : decode cX12_eat 157 = .ok (.if_icmp .ne 9, 3) := by decide +kernel
theorem dX12_eat_160 : decode cX12_eat 160 = .ok (.iload 7, 2) := by decide +kernel
theorem dX12_eat_162 : decode cX12_eat 162 = .ok (.iload_n 1, 1) := by decide +kernel
theorem dX12_eat_163 : decode cX12_eat 163 = .ok (.if_icmp .ne 19, 3) := by decide +kernel
theorem dX12_eat_166 : decode cX12_eat 166 = .ok (.iload 6, 2) := by decide +kernel
theorem dX12_eat_168 : decode cX12_eat 168 = .ok (.iload_n 2, 1) := by decide +kernel
theorem dX12_eat_169 : decode cX12_eat 169 = .ok (.if_icmp .ne 9, 3) := by decide +kernel
theorem dX12_eat_172 : decode cX12_eat 172 = .ok (.iload 8, 2) := by decide +kernel
theorem dX12_eat_174 : decode cX12_eat 174 = .ok (.iload_n 2, 1) := by decide +kernel
theorem dX12_eat_175 : decode cX12_eat 175 = .ok (.if_icmp .ne 7, 3) := by decide +kernel
theorem dX12_eat_178 : decode cX12_eat 178 = .ok (.iconst 1, 1) := by decide +kernel
theorem dX12_eat_179 : decode cX12_eat 179 = .ok (.goto 4, 3) := by decide +kernel
theorem dX12_eat_182 : decode cX12_eat 182 = .ok (.iconst 0, 1) := by decide +kernel
theorem dX12_eat_183 : decode cX12_eat 183 = .ok (.istore 9, 2) := by decide +kernel
theorem dX12_eat_185 : decode cX12_eat 185 = .ok (.iload 4, 2) := by decide +kernel
theorem dX12_eat_187 : decode cX12_eat 187 = .ok (.iload 9, 2) := by decide +kernel
theorem dX12_eat_189 : decode cX12_eat 189 = .ok (.ifCond .eq 10, 3) := by decide +kernel
theorem dX12_eat_192 : decode cX12_eat 192 = .ok (.iconst 1, 1) := by decide +kernel
theorem dX12_eat_193 : decode cX12_eat 193 = .ok (.iload 5, 2) := by decide +kernel
theorem dX12_eat_195 : decode cX12_eat 195 = .ok (.ishl, 1) := by decide +kernel
theorem dX12_eat_196 : decode cX12_eat 196 = .ok (.goto 4, 3) := by decide +kernel
theorem dX12_eat_199 : decode cX12_eat 199 = .ok (.iconst 0, 1) := by decide +kernel
theorem dX12_eat_200 : decode cX12_eat 200 = .ok (.ior, 1) := by decide +kernel
theorem dX12_eat_201 : decode cX12_eat 201 = .ok (.istore 4, 2) := by decide +kernel
theorem dX12_eat_203 : decode cX12_eat 203 = .ok (.iinc 5 1, 3) := by decide +kernel
theorem dX12_eat_206 : decode cX12_eat 206 = .ok (.goto (-125), 3) := by decide +kernel
theorem dX12_eat_209 : decode cX12_eat 209 = .ok (.iload 4, 2) := by decide +kernel
theorem dX12_eat_211 : decode cX12_eat 211 = .ok (.ireturn, 1) := by decide +kernel
theorem dX12_seen_0 : decode cX12_seen 0 = .ok (.iload_n 1, 1) := by decide +kernel
theorem dX12_seen_1 : decode cX12_seen 1 = .ok (.iconst 0, 1) := by decide +kernel
theorem dX12_seen_2 : decode cX12_seen 2 = .ok (.bipush 20, 2) := by decide +kernel
theorem dX12_seen_4 : decode cX12_seen 4 = .ok (.invokestatic 93, 3) := by decide +kernel
theorem dX12_seen_7 : decode cX12_seen 7 = .ok (.ifCond .eq 14, 3) := by decide +kernel
theorem dX12_seen_10 : decode cX12_seen 10 = .ok (.iload_n 2, 1) := by decide +kernel
theorem dX12_seen_11 : decode cX12_seen 11 = .ok (.bipush (-60), 2) := by decide +kernel
theorem dX12_seen_13 : decode cX12_seen 13 = .ok (.bipush 60, 2) := by decide +kernel
theorem dX12_seen_15 : decode cX12_seen 15 = .ok (.invokestatic 93, 3) := by decide +kernel
theorem dX12_seen_18 : decode cX12_seen 18 = .ok (.ifCond .ne 8, 3) := by decide +kernel
theorem dX12_seen_21 : decode cX12_seen 21 = .ok (.aload_n 0, 1) := by decide +kernel
theorem dX12_seen_22 : decode cX12_seen 22 = .ok (.invokevirtual 97, 3) := by decide +kernel
theorem dX12_seen_25 : decode cX12_seen 25 = .ok (.ireturn, 1) := by decide +kernel
theorem dX12_seen_26 : decode cX12_seen 26 = .ok (.aload_n 0, 1) := by decide +kernel
theorem dX12_seen_27 : decode cX12_seen 27 = .ok (.getfield 87, 3) := by decide +kernel
theorem dX12_seen_30 : decode cX12_seen 30 = .ok (.bipush 6, 2) := by decide +kernel
theorem dX12_seen_32 : decode cX12_seen 32 = .ok (.if_icmp .ne 8, 3) := by decide +kernel
theorem dX12_seen_35 : decode cX12_seen 35 = .ok (.aload_n 0, 1) := by decide +kernel
theorem dX12_seen_36 : decode cX12_seen 36 = .ok (.invokevirtual 108, 3) := by decide +kernel
theorem dX12_seen_39 : decode cX12_seen 39 = .ok (.ireturn, 1) := by decide +kernel
theorem dX12_seen_40 : decode cX12_seen 40 = .ok (.aload_n 0, 1) := by decide +kernel
theorem dX12_seen_41 : decode cX12_seen 41 = .ok (.getfield 28, 3) := by decide +kernel
theorem dX12_seen_44 : decode cX12_seen 44 = .ok (.aload_n 0, 1) := by decide +kernel
theorem dX12_seen_45 : decode cX12_seen 45 = .ok (.getfield 87, 3) := by decide +kernel
theorem dX12_seen_48 : decode cX12_seen 48 = .ok (.iload_n 1, 1) := by decide +kernel
theorem dX12_seen_49 : decode cX12_seen 49 = .ok (.iastore, 1) := by decide +kernel
theorem dX12_seen_50 : decode cX12_seen 50 = .ok (.aload_n 0, 1) := by decide +kernel
theorem dX12_seen_51 : decode cX12_seen 51 = .ok (.getfield 31, 3) := by decide +kernel
theorem dX12_seen_54 : decode cX12_seen 54 = .ok (.aload_n 0, 1) := by decide +kernel
theorem dX12_seen_55 : decode cX12_seen 55 = .ok (.getfield 87, 3) := by decide +kernel
theorem dX12_seen_58 : decode cX12_seen 58 = .ok (.iload_n 2, 1) := by decide +kernel
theorem dX12_seen_59 : decode cX12_seen 59 = .ok (.iastore, 1) := by decide +kernel
theorem dX12_seen_60 : decode cX12_seen 60 = .ok (.aload_n 0, 1) := by decide +kernel
theorem dX12_seen_61 : decode cX12_seen 61 = .ok (.dup, 1) := by decide +kernel
theorem dX12_seen_62 : decode cX12_seen 62 = .ok (.getfield 87, 3) := by decide +kernel
theorem dX12_seen_65 : decode cX12_seen 65 = .ok (.iconst 1, 1) := by decide +kernel
theorem dX12_seen_66 : decode cX12_seen 66 = .ok (.iadd, 1) := by decide +kernel
theorem dX12_seen_67 : decode cX12_seen 67 = .ok (.putfield 87, 3) := by decide +kernel
theorem dX12_seen_70 : decode cX12_seen 70 = .ok (.aload_n 0, 1) := by decide +kernel
theorem dX12_seen_71 : decode cX12_seen 71 = .ok (.getfield 87, 3) := by decide +kernel
theorem dX12_seen_74 : decode cX12_seen 74 = .ok (.ireturn, 1) := by decide +kernel
theorem dX12_forget_0 : decode cX12_forget 0 = .ok (.aload_n 0, 1) := by decide +kernel
theorem dX12_forget_1 : decode cX12_forget 1 = .ok (.getfield 87, 3) := by decide +kernel
theorem dX12_forget_4 : decode cX12_forget 4 = .ok (.istore_n 1, 1) := by decide +kernel
theorem dX12_forget_5 : decode cX12_forget 5 = .ok (.aload_n 0, 1) := by decide +kernel
theorem dX12_forget_6 : decode cX12_forget 6 = .ok (.iconst 0, 1) := by decide +kernel
theorem dX12_forget_7 : decode cX12_forget 7 = .ok (.putfield 87, 3) := by decide +kernel
theorem dX12_forget_10 : decode cX12_forget 10 = .ok (.iload_n 1, 1) := by decide +kernel
theorem dX12_forget_11 : decode cX12_forget 11 = .ok (.ireturn, 1) := by decide +kernel
theorem dX12_setWay_0 : decode cX12_setWay 0 = .ok (.aload_n 0, 1) := by decide +kernel
theorem dX12_setWay_1 : decode cX12_setWay 1 = .ok (.invokevirtual 214, 3) := by decide +kernel
theorem dX12_setWay_4 : decode cX12_setWay 4 = .ok (.iconst 0, 1) := by decide +kernel
theorem dX12_setWay_5 : decode cX12_setWay 5 = .ok (.istore_n 1, 1) := by decide +kernel
theorem dX12_setWay_6 : decode cX12_setWay 6 = .ok (.iload_n 1, 1) := by decide +kernel
theorem dX12_setWay_7 : decode cX12_setWay 7 = .ok (.bipush 20, 2) := by decide +kernel
theorem dX12_setWay_9 : decode cX12_setWay 9 = .ok (.if_icmp .gt 24, 3) := by decide +kernel
theorem dX12_setWay_12 : decode cX12_setWay 12 = .ok (.aload_n 0, 1) := by decide +kernel
theorem dX12_setWay_13 : decode cX12_setWay 13 = .ok (.getfield 55, 3) := by decide +kernel
theorem dX12_setWay_16 : decode cX12_setWay 16 = .ok (.iload_n 1, 1) := by decide +kernel
theorem dX12_setWay_17 : decode cX12_setWay 17 = .ok (.aload_n 0, 1) := by decide +kernel
theorem dX12_setWay_18 : decode cX12_setWay 18 = .ok (.getfield 78, 3) := by decide +kernel
theorem dX12_setWay_21 : decode cX12_setWay 21 = .ok (.iastore, 1) := by decide +kernel
theorem dX12_setWay_22 : decode cX12_setWay 22 = .ok (.aload_n 0, 1) := by decide +kernel
theorem dX12_setWay_23 : decode cX12_setWay 23 = .ok (.invokevirtual 205, 3) := by decide +kernel
theorem dX12_setWay_26 : decode cX12_setWay 26 = .ok (.pop, 1) := by decide +kernel
theorem dX12_setWay_27 : decode cX12_setWay 27 = .ok (.iinc 1 1, 3) := by decide +kernel
theorem dX12_setWay_30 : decode cX12_setWay 30 = .ok (.goto (-24), 3) := by decide +kernel
theorem dX12_setWay_33 : decode cX12_setWay 33 = .ok (.aload_n 0, 1) := by decide +kernel
theorem dX12_setWay_34 : decode cX12_setWay 34 = .ok (.invokevirtual 221, 3) := by decide +kernel
theorem dX12_setWay_37 : decode cX12_setWay 37 = .ok (.return_, 1) := by decide +kernel
theorem dX12_isSeen_0 : decode cX12_isSeen 0 = .ok (.iconst 1, 1) := by decide +kernel
theorem dX12_isSeen_1 : decode cX12_isSeen 1 = .ok (.istore_n 3, 1) := by decide +kernel
theorem dX12_isSeen_2 : decode cX12_isSeen 2 = .ok (.iconst 0, 1) := by decide +kernel
theorem dX12_isSeen_3 : decode cX12_isSeen 3 = .ok (.istore 4, 2) := by decide +kernel
theorem dX12_isSeen_5 : decode cX12_isSeen 5 = .ok (.iload 4, 2) := by decide +kernel
theorem dX12_isSeen_7 : decode cX12_isSeen 7 = .ok (.aload_n 0, 1) := by decide +kernel
theorem dX12_isSeen_8 : decode cX12_isSeen 8 = .ok (.getfield 87, 3) := by decide +kernel
theorem dX12_isSeen_11 : decode cX12_isSeen 11 = .ok (.if_icmp .ge 62, 3) := by decide +kernel
theorem dX12_isSeen_14 : decode cX12_isSeen 14 = .ok (.aload_n 0, 1) := by decide +kernel
theorem dX12_isSeen_15 : decode cX12_isSeen 15 = .ok (.getfield 55, 3) := by decide +kernel
theorem dX12_isSeen_18 : decode cX12_isSeen 18 = .ok (.aload_n 0, 1) := by decide +kernel
theorem dX12_isSeen_19 : decode cX12_isSeen 19 = .ok (.getfield 28, 3) := by decide +kernel
theorem dX12_isSeen_22 : decode cX12_isSeen 22 = .ok (.iload 4, 2) := by decide +kernel
theorem dX12_isSeen_24 : decode cX12_isSeen 24 = .ok (.iaload, 1) := by decide +kernel
theorem dX12_isSeen_25 : decode cX12_isSeen 25 = .ok (.iaload, 1) := by decide +kernel
theorem dX12_isSeen_26 : decode cX12_isSeen 26 = .ok (.aload_n 0, 1) := by decide +kernel
theorem dX12_isSeen_27 : decode cX12_isSeen 27 = .ok (.getfield 28, 3) := by decide +kernel
theorem dX12_isSeen_30 : decode cX12_isSeen 30 = .ok (.iload 4, 2) := by decide +kernel
theorem dX12_isSeen_32 : decode cX12_isSeen 32 = .ok (.iaload, 1) := by decide +kernel
theorem dX12_isSeen_33 : decode cX12_isSeen 33 = .ok (.iload_n 2, 1) := by decide +kernel
theorem dX12_isSeen_34 : decode cX12_isSeen 34 = .ok (.if_icmp .lt 7, 3) := by decide +kernel
theorem dX12_isSeen_37 : decode cX12_isSeen 37 = .ok (.iload_n 1, 1) := by decide +kernel
theorem dX12_isSeen_38 : decode cX12_isSeen 38 = .ok (.goto 4, 3) := by decide +kernel
theorem dX12_isSeen_41 : decode cX12_isSeen 41 = .ok (.iconst 0, 1) := by decide +kernel
theorem dX12_isSeen_42 : decode cX12_isSeen 42 = .ok (.iadd, 1) := by decide +kernel
theorem dX12_isSeen_43 : decode cX12_isSeen 43 = .ok (.istore 5, 2) := by decide +kernel
theorem dX12_isSeen_45 : decode cX12_isSeen 45 = .ok (.iload_n 3, 1) := by decide +kernel
theorem dX12_isSeen_46 : decode cX12_isSeen 46 = .ok (.ifCond .eq 19, 3) := by decide +kernel
theorem dX12_isSeen_49 : decode cX12_isSeen 49 = .ok (.iload 5, 2) := by decide +kernel
theorem dX12_isSeen_51 : decode cX12_isSeen 51 = .ok (.aload_n 0, 1) := by decide +kernel
theorem dX12_isSeen_52 : decode cX12_isSeen 52 = .ok (.getfield 31, 3) := by decide +kernel
theorem dX12_isSeen_55 : decode cX12_isSeen 55 = .ok (.iload 4, 2) := by decide +kernel
theorem dX12_isSeen_57 : decode cX12_isSeen 57 = .ok (.iaload, 1) := by decide +kernel
theorem dX12_isSeen_58 : decode cX12_isSeen 58 = .ok (.if_icmp .ne 7, 3) := by decide +kernel
theorem dX12_isSeen_61 : decode cX12_isSeen 61 = .ok (.iconst 1, 1) := by decide +kernel
theorem dX12_isSeen_62 : decode cX12_isSeen 62 = .ok (.goto 4, 3) := by decide +kernel
theorem dX12_isSeen_65 : decode cX12_isSeen 65 = .ok (.iconst 0, 1) := by decide +kernel
theorem dX12_isSeen_66 : decode cX12_isSeen 66 = .ok (.istore_n 3, 1) := by decide +kernel
theorem dX12_isSeen_67 : decode cX12_isSeen 67 = .ok (.iinc 4 1, 3) := by decide +kernel
theorem dX12_isSeen_70 : decode cX12_isSeen 70 = .ok (.goto (-65), 3) := by decide +kernel
theorem dX12_isSeen_73 : decode cX12_isSeen 73 = .ok (.iload_n 3, 1) := by decide +kernel
theorem dX12_isSeen_74 : decode cX12_isSeen 74 = .ok (.ireturn, 1) := by decide +kernel
theorem dX12_nodSet_0 : decode cX12_nodSet 0 = .ok (.aload_n 0, 1) := by decide +kernel
theorem dX12_nodSet_1 : decode cX12_nodSet 1 = .ok (.getfield 19, 3) := by decide +kernel
theorem dX12_nodSet_4 : decode cX12_nodSet 4 = .ok (.iload_n 1, 1) := by decide +kernel
theorem dX12_nodSet_5 : decode cX12_nodSet 5 = .ok (.iaload, 1) := by decide +kernel
theorem dX12_nodSet_6 : decode cX12_nodSet 6 = .ok (.istore_n 2, 1) := by decide +kernel
theorem dX12_nodSet_7 : decode cX12_nodSet 7 = .ok (.iconst 0, 1) := by decide +kernel
theorem dX12_nodSet_8 : decode cX12_nodSet 8 = .ok (.istore_n 3, 1) := by decide +kernel
theorem dX12_nodSet_9 : decode cX12_nodSet 9 = .ok (.bipush (-3), 2) := by decide +kernel
theorem dX12_nodSet_11 : decode cX12_nodSet 11 = .ok (.istore 4, 2) := by decide +kernel
theorem dX12_nodSet_13 : decode cX12_nodSet 13 = .ok (.iload 4, 2) := by decide +kernel
theorem dX12_nodSet_15 : decode cX12_nodSet 15 = .ok (.iconst 3, 1) := by decide +kernel
theorem dX12_nodSet_16 : decode cX12_nodSet 16 = .ok (.if_icmp .gt 43, 3) := by decide +kernel
theorem dX12_nodSet_19 : decode cX12_nodSet 19 = .ok (.aload_n 0, 1) := by decide +kernel
theorem dX12_nodSet_20 : decode cX12_nodSet 20 = .ok (.getfield 19, 3) := by decide +kernel
theorem dX12_nodSet_23 : decode cX12_nodSet 23 = .ok (.iload_n 1, 1) := by decide +kernel
theorem dX12_nodSet_24 : decode cX12_nodSet 24 = .ok (.iload 4, 2) := by decide +kernel
theorem dX12_nodSet_26 : decode cX12_nodSet 26 = .ok (.iastore, 1) := by decide +kernel
theorem dX12_nodSet_27 : decode cX12_nodSet 27 = .ok (.aload_n 0, 1) := by decide +kernel
theorem dX12_nodSet_28 : decode cX12_nodSet 28 = .ok (.invokevirtual 234, 3) := by decide +kernel
theorem dX12_nodSet_31 : decode cX12_nodSet 31 = .ok (.iload_n 3, 1) := by decide +kernel
theorem dX12_nodSet_32 : decode cX12_nodSet 32 = .ok (.aload_n 0, 1) := by decide +kernel
theorem dX12_nodSet_33 : decode cX12_nodSet 33 = .ok (.iconst 0, 1) := by decide +kernel
theorem dX12_nodSet_34 : decode cX12_nodSet 34 = .ok (.iconst 0, 1) := by decide +kernel
theorem dX12_nodSet_35 : decode cX12_nodSet 35 = .ok (.invokevirtual 237, 3) := by decide +kernel
theorem dX12_nodSet_38 : decode cX12_nodSet 38 = .ok (.ifCond .eq 12, 3) := by decide +kernel
theorem dX12_nodSet_41 : decode cX12_nodSet 41 = .ok (.iconst 1, 1) := by decide +kernel
theorem dX12_nodSet_42 : decode cX12_nodSet 42 = .ok (.iload 4, 2) := by decide +kernel
theorem dX12_nodSet_44 : decode cX12_nodSet 44 = .ok (.iconst 3, 1) := by decide +kernel
theorem dX12_nodSet_45 : decode cX12_nodSet 45 = .ok (.iadd, 1) := by decide +kernel
theorem dX12_nodSet_46 : decode cX12_nodSet 46 = .ok (.ishl, 1) := by decide +kernel
theorem dX12_nodSet_47 : decode cX12_nodSet 47 = .ok (.goto 4, 3) := by decide +kernel
theorem dX12_nodSet_50 : decode cX12_nodSet 50 = .ok (.iconst 0, 1) := by decide +kernel
theorem dX12_nodSet_51 : decode cX12_nodSet 51 = .ok (.ior, 1) := by decide +kernel
theorem dX12_nodSet_52 : decode cX12_nodSet 52 = .ok (.istore_n 3, 1) := by decide +kernel
theorem dX12_nodSet_53 : decode cX12_nodSet 53 = .ok (.iinc 4 1, 3) := by decide +kernel
theorem dX12_nodSet_56 : decode cX12_nodSet 56 = .ok (.goto (-43), 3) := by decide +kernel
theorem dX12_nodSet_59 : decode cX12_nodSet 59 = .ok (.aload_n 0, 1) := by decide +kernel
theorem dX12_nodSet_60 : decode cX12_nodSet 60 = .ok (.getfield 19, 3) := by decide +kernel
theorem dX12_nodSet_63 : decode cX12_nodSet 63 = .ok (.iload_n 1, 1) := by decide +kernel
theorem dX12_nodSet_64 : decode cX12_nodSet 64 = .ok (.iload_n 2, 1) := by decide +kernel
theorem dX12_nodSet_65 : decode cX12_nodSet 65 = .ok (.iastore, 1) := by decide +kernel
theorem dX12_nodSet_66 : decode cX12_nodSet 66 = .ok (.iload_n 3, 1) := by decide +kernel
theorem dX12_nodSet_67 : decode cX12_nodSet 67 = .ok (.ireturn, 1) := by decide +kernel
theorem dX12_nod_0 : decode cX12_nod 0 = .ok (.aload_n 0, 1) := by decide +kernel
theorem dX12_nod_1 : decode cX12_nod 1 = .ok (.iload_n 1, 1) := by decide +kernel
theorem dX12_nod_2 : decode cX12_nod 2 = .ok (.invokevirtual 199, 3) := by decide +kernel
theorem dX12_nod_5 : decode cX12_nod 5 = .ok (.ifCond .eq 11, 3) := by decide +kernel
theorem dX12_nod_8 : decode cX12_nod 8 = .ok (.aload_n 0, 1) := by decide +kernel
theorem dX12_nod_9 : decode cX12_nod 9 = .ok (.iload_n 1, 1) := by decide +kernel
theorem dX12_nod_10 : decode cX12_nod 10 = .ok (.invokevirtual 240, 3) := by decide +kernel
theorem dX12_nod_13 : decode cX12_nod 13 = .ok (.goto 7, 3) := by decide +kernel
theorem dX12_nod_16 : decode cX12_nod 16 = .ok (.aload_n 0, 1) := by decide +kernel
theorem dX12_nod_17 : decode cX12_nod 17 = .ok (.invokevirtual 97, 3) := by decide +kernel
theorem dX12_nod_20 : decode cX12_nod 20 = .ok (.ireturn, 1) := by decide +kernel
theorem dX12_is_0 : decode cX12_is 0 = .ok (.aload_n 0, 1) := by decide +kernel
theorem dX12_is_1 : decode cX12_is 1 = .ok (.iload_n 1, 1) := by decide +kernel
theorem dX12_is_2 : decode cX12_is 2 = .ok (.invokevirtual 199, 3) := by decide +kernel
theorem dX12_is_5 : decode cX12_is 5 = .ok (.ifCond .ne 8, 3) := by decide +kernel
theorem dX12_is_8 : decode cX12_is 8 = .ok (.aload_n 0, 1) := by decide +kernel
theorem dX12_is_9 : decode cX12_is 9 = .ok (.invokevirtual 97, 3) := by decide +kernel
theorem dX12_is_12 : decode cX12_is 12 = .ok (.ireturn, 1) := by decide +kernel
theorem dX12_is_13 : decode cX12_is 13 = .ok (.aload_n 0, 1) := by decide +kernel
theorem dX12_is_14 : decode cX12_is 14 = .ok (.getfield 13, 3) := by decide +kernel
theorem dX12_is_17 : decode cX12_is 17 = .ok (.iload_n 1, 1) := by decide +kernel
theorem dX12_is_18 : decode cX12_is 18 = .ok (.iaload, 1) := by decide +kernel
theorem dX12_is_19 : decode cX12_is 19 = .ok (.istore_n 2, 1) := by decide +kernel
theorem dX12_is_20 : decode cX12_is 20 = .ok (.iconst 0, 1) := by decide +kernel
theorem dX12_is_21 : decode cX12_is 21 = .ok (.istore_n 3, 1) := by decide +kernel
theorem dX12_is_22 : decode cX12_is 22 = .ok (.iconst 0, 1) := by decide +kernel
theorem dX12_is_23 : decode cX12_is 23 = .ok (.istore 4, 2) := by decide +kernel
theorem dX12_is_25 : decode cX12_is 25 = .ok (.iload 4, 2) := by decide +kernel
theorem dX12_is_27 : decode cX12_is 27 = .ok (.iconst 5, 1) := by decide +kernel
theorem dX12_is_28 : decode cX12_is 28 = .ok (.if_icmp .gt 41, 3) := by decide +kernel
theorem dX12_is_31 : decode cX12_is 31 = .ok (.aload_n 0, 1) := by decide +kernel
theorem dX12_is_32 : decode cX12_is 32 = .ok (.getfield 13, 3) := by decide +kernel
theorem dX12_is_35 : decode cX12_is 35 = .ok (.iload_n 1, 1) := by decide +kernel
theorem dX12_is_36 : decode cX12_is 36 = .ok (.iload 4, 2) := by decide +kernel
theorem dX12_is_38 : decode cX12_is 38 = .ok (.iastore, 1) := by decide +kernel
theorem dX12_is_39 : decode cX12_is 39 = .ok (.aload_n 0, 1) := by decide +kernel
theorem dX12_is_40 : decode cX12_is 40 = .ok (.invokevirtual 234, 3) := by decide +kernel
theorem dX12_is_43 : decode cX12_is 43 = .ok (.iload_n 3, 1) := by decide +kernel
theorem dX12_is_44 : decode cX12_is 44 = .ok (.aload_n 0, 1) := by decide +kernel
theorem dX12_is_45 : decode cX12_is 45 = .ok (.iconst 0, 1) := by decide +kernel
theorem dX12_is_46 : decode cX12_is 46 = .ok (.iconst 0, 1) := by decide +kernel
theorem dX12_is_47 : decode cX12_is 47 = .ok (.invokevirtual 237, 3) := by decide +kernel
theorem dX12_is_50 : decode cX12_is 50 = .ok (.ifCond .eq 10, 3) := by decide +kernel
theorem dX12_is_53 : decode cX12_is 53 = .ok (.iconst 1, 1) := by decide +kernel
theorem dX12_is_54 : decode cX12_is 54 = .ok (.iload 4, 2) := by decide +kernel
theorem dX12_is_56 : decode cX12_is 56 = .ok (.ishl, 1) := by decide +kernel
theorem dX12_is_57 : decode cX12_is 57 = .ok (.goto 4, 3) := by decide +kernel
theorem dX12_is_60 : decode cX12_is 60 = .ok (.iconst 0, 1) := by decide +kernel
theorem dX12_is_61 : decode cX12_is 61 = .ok (.ior, 1) := by decide +kernel
theorem dX12_is_62 : decode cX12_is 62 = .ok (.istore_n 3, 1) := by decide +kernel
theorem dX12_is_63 : decode cX12_is 63 = .ok (.iinc 4 1, 3) := by decide +kernel
theorem dX12_is_66 : decode cX12_is 66 = .ok (.goto (-41), 3) := by decide +kernel
theorem dX12_is_69 : decode cX12_is 69 = .ok (.aload_n 0, 1) := by decide +kernel
theorem dX12_is_70 : decode cX12_is 70 = .ok (.getfield 13, 3) := by decide +kernel
theorem dX12_is_73 : decode cX12_is 73 = .ok (.iload_n 1, 1) := by decide +kernel
theorem dX12_is_74 : decode cX12_is 74 = .ok (.iload_n 2, 1) := by decide +kernel
theorem dX12_is_75 : decode cX12_is 75 = .ok (.iastore, 1) := by decide +kernel
theorem dX12_is_76 : decode cX12_is 76 = .ok (.iload_n 3, 1) := by decide +kernel
theorem dX12_is_77 : decode cX12_is 77 = .ok (.ireturn, 1) := by decide +kernel
theorem dX12_alike_0 : decode cX12_alike 0 = .ok (.iconst 0, 1) := by decide +kernel
theorem dX12_alike_1 : decode cX12_alike 1 = .ok (.istore_n 3, 1) := by decide +kernel
theorem dX12_alike_2 : decode cX12_alike 2 = .ok (.iconst 0, 1) := by decide +kernel
theorem dX12_alike_3 : decode cX12_alike 3 = .ok (.istore 4, 2) := by decide +kernel
theorem dX12_alike_5 : decode cX12_alike 5 = .ok (.iload 4, 2) := by decide +kernel
theorem dX12_alike_7 : decode cX12_alike 7 = .ok (.bipush 7, 2) := by decide +kernel
theorem dX12_alike_9 : decode cX12_alike 9 = .ok (.if_icmp .ge 96, 3) := by decide +kernel
theorem dX12_alike_12 : decode cX12_alike 12 = .ok (.iconst 0, 1) := by decide +kernel
theorem dX12_alike_13 : decode cX12_alike 13 = .ok (.istore 5, 2) := by decide +kernel
theorem dX12_alike_15 : decode cX12_alike 15 = .ok (.iconst 0, 1) := by decide +kernel
theorem dX12_alike_16 : decode cX12_alike 16 = .ok (.istore 6, 2) := by decide +kernel
theorem dX12_alike_18 : decode cX12_alike 18 = .ok (.iload 6, 2) := by decide +kernel
theorem dX12_alike_20 : decode cX12_alike 20 = .ok (.bipush 7, 2) := by decide +kernel
theorem dX12_alike_22 : decode cX12_alike 22 = .ok (.if_icmp .ge 64, 3) := by decide +kernel
theorem dX12_alike_25 : decode cX12_alike 25 = .ok (.iload 5, 2) := by decide +kernel
theorem dX12_alike_27 : decode cX12_alike 27 = .ok (.iload_n 1, 1) := by decide +kernel
theorem dX12_alike_28 : decode cX12_alike 28 = .ok (.iload 4, 2) := by decide +kernel
theorem dX12_alike_30 : decode cX12_alike 30 = .ok (.invokestatic 243, 3) := by decide +kernel
theorem dX12_alike_33 : decode cX12_alike 33 = .ok (.ifCond .eq 43, 3) := by decide +kernel
theorem dX12_alike_36 : decode cX12_alike 36 = .ok (.iload_n 1, 1) := by decide +kernel
theorem dX12_alike_37 : decode cX12_alike 37 = .ok (.iload 6, 2) := by decide +kernel
theorem dX12_alike_39 : decode cX12_alike 39 = .ok (.invokestatic 243, 3) := by decide +kernel
theorem dX12_alike_42 : decode cX12_alike 42 = .ok (.ifCond .eq 34, 3) := by decide +kernel
theorem dX12_alike_45 : decode cX12_alike 45 = .ok (.aload_n 0, 1) := by decide +kernel
theorem dX12_alike_46 : decode cX12_alike 46 = .ok (.getfield 58, 3) := by decide +kernel
theorem dX12_alike_49 : decode cX12_alike 49 = .ok (.bipush 21, 2) := by decide +kernel
theorem dX12_alike_51 : decode cX12_alike 51 = .ok (.iload 4, 2) := by decide +kernel
theorem dX12_alike_53 : decode cX12_alike 53 = .ok (.imul, 1) := by decide +kernel
theorem dX12_alike_54 : decode cX12_alike 54 = .ok (.iload_n 2, 1) := by decide +kernel
theorem dX12_alike_55 : decode cX12_alike 55 = .ok (.iadd, 1) := by decide +kernel
theorem dX12_alike_56 : decode cX12_alike 56 = .ok (.iaload, 1) := by decide +kernel
theorem dX12_alike_57 : decode cX12_alike 57 = .ok (.aload_n 0, 1) := by decide +kernel
theorem dX12_alike_58 : decode cX12_alike 58 = .ok (.getfield 58, 3) := by decide +kernel
theorem dX12_alike_61 : decode cX12_alike 61 = .ok (.bipush 21, 2) := by decide +kernel
theorem dX12_alike_63 : decode cX12_alike 63 = .ok (.iload 6, 2) := by decide +kernel
theorem dX12_alike_65 : decode cX12_alike 65 = .ok (.imul, 1) := by decide +kernel
theorem dX12_alike_66 : decode cX12_alike 66 = .ok (.iload_n 2, 1) := by decide +kernel
theorem dX12_alike_67 : decode cX12_alike 67 = .ok (.iadd, 1) := by decide +kernel
theorem dX12_alike_68 : decode cX12_alike 68 = .ok (.iaload, 1) := by decide +kernel
theorem dX12_alike_69 : decode cX12_alike 69 = .ok (.if_icmp .ne 7, 3) := by decide +kernel
theorem dX12_alike_72 : decode cX12_alike 72 = .ok (.iconst 1, 1) := by decide +kernel
theorem dX12_alike_73 : decode cX12_alike 73 = .ok (.goto 4, 3) := by decide +kernel
theorem dX12_alike_76 : decode cX12_alike 76 = .ok (.iconst 0, 1) := by decide +kernel
theorem dX12_alike_77 : decode cX12_alike 77 = .ok (.iadd, 1) := by decide +kernel
theorem dX12_alike_78 : decode cX12_alike 78 = .ok (.istore 5, 2) := by decide +kernel
theorem dX12_alike_80 : decode cX12_alike 80 = .ok (.iinc 6 1, 3) := by decide +kernel
theorem dX12_alike_83 : decode cX12_alike 83 = .ok (.goto (-65), 3) := by decide +kernel
theorem dX12_alike_86 : decode cX12_alike 86 = .ok (.iload 5, 2) := by decide +kernel
theorem dX12_alike_88 : decode cX12_alike 88 = .ok (.iload_n 3, 1) := by decide +kernel
theorem dX12_alike_89 : decode cX12_alike 89 = .ok (.if_icmp .le 8, 3) := by decide +kernel
theorem dX12_alike_92 : decode cX12_alike 92 = .ok (.iload 5, 2) := by decide +kernel
theorem dX12_alike_94 : decode cX12_alike 94 = .ok (.goto 4, 3) := by decide +kernel
theorem dX12_alike_97 : decode cX12_alike 97 = .ok (.iload_n 3, 1) := by decide +kernel
theorem dX12_alike_98 : decode cX12_alike 98 = .ok (.istore_n 3, 1) := by decide +kernel
theorem dX12_alike_99 : decode cX12_alike 99 = .ok (.iinc 4 1, 3) := by decide +kernel
theorem dX12_alike_102 : decode cX12_alike 102 = .ok (.goto (-97), 3) := by decide +kernel
theorem dX12_alike_105 : decode cX12_alike 105 = .ok (.iload_n 3, 1) := by decide +kernel
theorem dX12_alike_106 : decode cX12_alike 106 = .ok (.ireturn, 1) := by decide +kernel
theorem dX12_look_0 : decode cX12_look 0 = .ok (.aload_n 0, 1) := by decide +kernel
theorem dX12_look_1 : decode cX12_look 1 = .ok (.iload_n 1, 1) := by decide +kernel
theorem dX12_look_2 : decode cX12_look 2 = .ok (.invokevirtual 199, 3) := by decide +kernel
theorem dX12_look_5 : decode cX12_look 5 = .ok (.ifCond .ne 8, 3) := by decide +kernel
theorem dX12_look_8 : decode cX12_look 8 = .ok (.aload_n 0, 1) := by decide +kernel
theorem dX12_look_9 : decode cX12_look 9 = .ok (.invokevirtual 97, 3) := by decide +kernel
theorem dX12_look_12 : decode cX12_look 12 = .ok (.ireturn, 1) := by decide +kernel
theorem dX12_look_13 : decode cX12_look 13 = .ok (.aload_n 0, 1) := by decide +kernel
theorem dX12_look_14 : decode cX12_look 14 = .ok (.iload_n 1, 1) := by decide +kernel
theorem dX12_look_15 : decode cX12_look 15 = .ok (.invokevirtual 240, 3) := by decide +kernel
theorem dX12_look_18 : decode cX12_look 18 = .ok (.istore_n 2, 1) := by decide +kernel
theorem dX12_look_19 : decode cX12_look 19 = .ok (.iload_n 2, 1) := by decide +kernel
theorem dX12_look_20 : decode cX12_look 20 = .ok (.ifCond .ne 5, 3) := by decide +kernel
theorem dX12_look_23 : decode cX12_look 23 = .ok (.iconst (-1), 1) := by decide +kernel
theorem dX12_look_24 : decode cX12_look 24 = .ok (.ireturn, 1) := by decide +kernel
theorem dX12_look_25 : decode cX12_look 25 = .ok (.aload_n 0, 1) := by decide +kernel
theorem dX12_look_26 : decode cX12_look 26 = .ok (.getfield 19, 3) := by decide +kernel
theorem dX12_look_29 : decode cX12_look 29 = .ok (.iload_n 1, 1) := by decide +kernel
theorem dX12_look_30 : decode cX12_look 30 = .ok (.iaload, 1) := by decide +kernel
theorem dX12_look_31 : decode cX12_look 31 = .ok (.istore_n 3, 1) := by decide +kernel
theorem dX12_look_32 : decode cX12_look 32 = .ok (.iconst 0, 1) := by decide +kernel
theorem dX12_look_33 : decode cX12_look 33 = .ok (.istore 4, 2) := by decide +kernel
theorem dX12_look_35 : decode cX12_look 35 = .ok (.iload 4, 2) := by decide +kernel
theorem dX12_look_37 : decode cX12_look 37 = .ok (.bipush 7, 2) := by decide +kernel
theorem dX12_look_39 : decode cX12_look 39 = .ok (.if_icmp .ge 59, 3) := by decide +kernel
theorem dX12_look_42 : decode cX12_look 42 = .ok (.aload_n 0, 1) := by decide +kernel
theorem dX12_look_43 : decode cX12_look 43 = .ok (.getfield 19, 3) := by decide +kernel
theorem dX12_look_46 : decode cX12_look 46 = .ok (.iload_n 1, 1) := by decide +kernel
theorem dX12_look_47 : decode cX12_look 47 = .ok (.iload 4, 2) := by decide +kernel
theorem dX12_look_49 : decode cX12_look 49 = .ok (.iconst 3, 1) := by decide +kernel
theorem dX12_look_50 : decode cX12_look 50 = .ok (.isub, 1) := by decide +kernel
theorem dX12_look_51 : decode cX12_look 51 = .ok (.iastore, 1) := by decide +kernel
theorem dX12_look_52 : decode cX12_look 52 = .ok (.aload_n 0, 1) := by decide +kernel
theorem dX12_look_53 : decode cX12_look 53 = .ok (.invokevirtual 234, 3) := by decide +kernel
theorem dX12_look_56 : decode cX12_look 56 = .ok (.iconst 0, 1) := by decide +kernel
theorem dX12_look_57 : decode cX12_look 57 = .ok (.istore 5, 2) := by decide +kernel
theorem dX12_look_59 : decode cX12_look 59 = .ok (.iload 5, 2) := by decide +kernel
theorem dX12_look_61 : decode cX12_look 61 = .ok (.bipush 20, 2) := by decide +kernel
theorem dX12_look_63 : decode cX12_look 63 = .ok (.if_icmp .gt 29, 3) := by decide +kernel
theorem dX12_look_66 : decode cX12_look 66 = .ok (.aload_n 0, 1) := by decide +kernel
theorem dX12_look_67 : decode cX12_look 67 = .ok (.getfield 58, 3) := by decide +kernel
theorem dX12_look_70 : decode cX12_look 70 = .ok (.bipush 21, 2) := by decide +kernel
theorem dX12_look_72 : decode cX12_look 72 = .ok (.iload 4, 2) := by decide +kernel
theorem dX12_look_74 : decode cX12_look 74 = .ok (.imul, 1) := by decide +kernel
theorem dX12_look_75 : decode cX12_look 75 = .ok (.iload 5, 2) := by decide +kernel
theorem dX12_look_77 : decode cX12_look 77 = .ok (.iadd, 1) := by decide +kernel
theorem dX12_look_78 : decode cX12_look 78 = .ok (.aload_n 0, 1) := by decide +kernel
theorem dX12_look_79 : decode cX12_look 79 = .ok (.getfield 55, 3) := by decide +kernel
theorem dX12_look_82 : decode cX12_look 82 = .ok (.iload 5, 2) := by decide +kernel
theorem dX12_look_84 : decode cX12_look 84 = .ok (.iaload, 1) := by decide +kernel
theorem dX12_look_85 : decode cX12_look 85 = .ok (.iastore, 1) := by decide +kernel
theorem dX12_look_86 : decode cX12_look 86 = .ok (.iinc 5 1, 3) := by decide +kernel
theorem dX12_look_89 : decode cX12_look 89 = .ok (.goto (-30), 3) := by decide +kernel
theorem dX12_look_92 : decode cX12_look 92 = .ok (.iinc 4 1, 3) := by decide +kernel
theorem dX12_look_95 : decode cX12_look 95 = .ok (.goto (-60), 3) := by decide +kernel
theorem dX12_look_98 : decode cX12_look 98 = .ok (.aload_n 0, 1) := by decide +kernel
theorem dX12_look_99 : decode cX12_look 99 = .ok (.getfield 19, 3) := by decide +kernel
theorem dX12_look_102 : decode cX12_look 102 = .ok (.iload_n 1, 1) := by decide +kernel
theorem dX12_look_103 : decode cX12_look 103 = .ok (.iload_n 3, 1) := by decide +kernel
theorem dX12_look_104 : decode cX12_look 104 = .ok (.iastore, 1) := by decide +kernel
theorem dX12_look_105 : decode cX12_look 105 = .ok (.iconst 0, 1) := by decide +kernel
theorem dX12_look_106 : decode cX12_look 106 = .ok (.istore 4, 2) := by decide +kernel
theorem dX12_look_108 : decode cX12_look 108 = .ok (.iconst 1, 1) := by decide +kernel
theorem dX12_look_109 : decode cX12_look 109 = .ok (.istore 5, 2) := by decide +kernel
theorem dX12_look_111 : decode cX12_look 111 = .ok (.iload 5, 2) := by decide +kernel
theorem dX12_look_113 : decode cX12_look 113 = .ok (.bipush 20, 2) := by decide +kernel
theorem dX12_look_115 : decode cX12_look 115 = .ok (.if_icmp .gt 35, 3) := by decide +kernel
theorem dX12_look_118 : decode cX12_look 118 = .ok (.aload_n 0, 1) := by decide +kernel
theorem dX12_look_119 : decode cX12_look 119 = .ok (.iload_n 2, 1) := by decide +kernel
theorem dX12_look_120 : decode cX12_look 120 = .ok (.iload 5, 2) := by decide +kernel
theorem dX12_look_122 : decode cX12_look 122 = .ok (.invokevirtual 246, 3) := by decide +kernel
theorem dX12_look_125 : decode cX12_look 125 = .ok (.aload_n 0, 1) := by decide +kernel
theorem dX12_look_126 : decode cX12_look 126 = .ok (.iload_n 2, 1) := by decide +kernel
theorem dX12_look_127 : decode cX12_look 127 = .ok (.iload 4, 2) := by decide +kernel
theorem dX12_look_129 : decode cX12_look 129 = .ok (.invokevirtual 246, 3) := by decide +kernel
theorem dX12_look_132 : decode cX12_look 132 = .ok (.if_icmp .ge 8, 3) := by decide +kernel
theorem dX12_look_135 : decode cX12_look 135 = .ok (.iload 5, 2) := by decide +kernel
theorem dX12_look_137 : decode cX12_look 137 = .ok (.goto 5, 3) := by decide +kernel
theorem dX12_look_140 : decode cX12_look 140 = .ok (.iload 4, 2) := by decide +kernel
theorem dX12_look_142 : decode cX12_look 142 = .ok (.istore 4, 2) := by decide +kernel
theorem dX12_look_144 : decode cX12_look 144 = .ok (.iinc 5 1, 3) := by decide +kernel
theorem dX12_look_147 : decode cX12_look 147 = .ok (.goto (-36), 3) := by decide +kernel
theorem dX12_look_150 : decode cX12_look 150 = .ok (.iload 4, 2) := by decide +kernel
theorem dX12_look_152 : decode cX12_look 152 = .ok (.ireturn, 1) := by decide +kernel
theorem dX12_pulled_0 : decode cX12_pulled 0 = .ok (.iload_n 1, 1) := by decide +kernel
theorem dX12_pulled_1 : decode cX12_pulled 1 = .ok (.bipush (-9), 2) := by decide +kernel
theorem dX12_pulled_3 : decode cX12_pulled 3 = .ok (.bipush 9, 2) := by decide +kernel
theorem dX12_pulled_5 : decode cX12_pulled 5 = .ok (.invokestatic 93, 3) := by decide +kernel
theorem dX12_pulled_8 : decode cX12_pulled 8 = .ok (.ifCond .ne 8, 3) := by decide +kernel
theorem dX12_pulled_11 : decode cX12_pulled 11 = .ok (.aload_n 0, 1) := by decide +kernel
theorem dX12_pulled_12 : decode cX12_pulled 12 = .ok (.invokevirtual 97, 3) := by decide +kernel
theorem dX12_pulled_15 : decode cX12_pulled 15 = .ok (.ireturn, 1) := by decide +kernel
theorem dX12_pulled_16 : decode cX12_pulled 16 = .ok (.aload_n 0, 1) := by decide +kernel
theorem dX12_pulled_17 : decode cX12_pulled 17 = .ok (.invokevirtual 234, 3) := by decide +kernel
theorem dX12_pulled_20 : decode cX12_pulled 20 = .ok (.iconst 0, 1) := by decide +kernel
theorem dX12_pulled_21 : decode cX12_pulled 21 = .ok (.istore_n 2, 1) := by decide +kernel
theorem dX12_pulled_22 : decode cX12_pulled 22 = .ok (.iconst 0, 1) := by decide +kernel
theorem dX12_pulled_23 : decode cX12_pulled 23 = .ok (.istore_n 3, 1) := by decide +kernel
theorem dX12_pulled_24 : decode cX12_pulled 24 = .ok (.iload_n 3, 1) := by decide +kernel
theorem dX12_pulled_25 : decode cX12_pulled 25 = .ok (.bipush 20, 2) := by decide +kernel
theorem dX12_pulled_27 : decode cX12_pulled 27 = .ok (.if_icmp .ge 30, 3) := by decide +kernel
theorem dX12_pulled_30 : decode cX12_pulled 30 = .ok (.iload_n 2, 1) := by decide +kernel
theorem dX12_pulled_31 : decode cX12_pulled 31 = .ok (.aload_n 0, 1) := by decide +kernel
theorem dX12_pulled_32 : decode cX12_pulled 32 = .ok (.iload_n 1, 1) := by decide +kernel
theorem dX12_pulled_33 : decode cX12_pulled 33 = .ok (.iload_n 3, 1) := by decide +kernel
theorem dX12_pulled_34 : decode cX12_pulled 34 = .ok (.iconst 1, 1) := by decide +kernel
theorem dX12_pulled_35 : decode cX12_pulled 35 = .ok (.iadd, 1) := by decide +kernel
theorem dX12_pulled_36 : decode cX12_pulled 36 = .ok (.invokevirtual 237, 3) := by decide +kernel
theorem dX12_pulled_39 : decode cX12_pulled 39 = .ok (.ifCond .eq 9, 3) := by decide +kernel
theorem dX12_pulled_42 : decode cX12_pulled 42 = .ok (.iconst 1, 1) := by decide +kernel
theorem dX12_pulled_43 : decode cX12_pulled 43 = .ok (.iload_n 3, 1) := by decide +kernel
theorem dX12_pulled_44 : decode cX12_pulled 44 = .ok (.ishl, 1) := by decide +kernel
theorem dX12_pulled_45 : decode cX12_pulled 45 = .ok (.goto 4, 3) := by decide +kernel
theorem dX12_pulled_48 : decode cX12_pulled 48 = .ok (.iconst 0, 1) := by decide +kernel
theorem dX12_pulled_49 : decode cX12_pulled 49 = .ok (.ior, 1) := by decide +kernel
theorem dX12_pulled_50 : decode cX12_pulled 50 = .ok (.istore_n 2, 1) := by decide +kernel
theorem dX12_pulled_51 : decode cX12_pulled 51 = .ok (.iinc 3 1, 3) := by decide +kernel
theorem dX12_pulled_54 : decode cX12_pulled 54 = .ok (.goto (-30), 3) := by decide +kernel
theorem dX12_pulled_57 : decode cX12_pulled 57 = .ok (.iload_n 2, 1) := by decide +kernel
theorem dX12_pulled_58 : decode cX12_pulled 58 = .ok (.ireturn, 1) := by decide +kernel
theorem dX12_meet_0 : decode cX12_meet 0 = .ok (.iload_n 1, 1) := by decide +kernel
theorem dX12_meet_1 : decode cX12_meet 1 = .ok (.bipush (-60), 2) := by decide +kernel
theorem dX12_meet_3 : decode cX12_meet 3 = .ok (.bipush 60, 2) := by decide +kernel
theorem dX12_meet_5 : decode cX12_meet 5 = .ok (.invokestatic 93, 3) := by decide +kernel
theorem dX12_meet_8 : decode cX12_meet 8 = .ok (.ifCond .eq 22, 3) := by decide +kernel
theorem dX12_meet_11 : decode cX12_meet 11 = .ok (.iload_n 2, 1) := by decide +kernel
theorem dX12_meet_12 : decode cX12_meet 12 = .ok (.bipush (-3), 2) := by decide +kernel
theorem dX12_meet_14 : decode cX12_meet 14 = .ok (.iconst 3, 1) := by decide +kernel
theorem dX12_meet_15 : decode cX12_meet 15 = .ok (.invokestatic 93, 3) := by decide +kernel
theorem dX12_meet_18 : decode cX12_meet 18 = .ok (.ifCond .eq 12, 3) := by decide +kernel
theorem dX12_meet_21 : decode cX12_meet 21 = .ok (.iload_n 3, 1) := by decide +kernel
theorem dX12_meet_22 : decode cX12_meet 22 = .ok (.iconst 0, 1) := by decide +kernel
theorem dX12_meet_23 : decode cX12_meet 23 = .ok (.iconst 1, 1) := by decide +kernel
theorem dX12_meet_24 : decode cX12_meet 24 = .ok (.invokestatic 93, 3) := by decide +kernel
theorem dX12_meet_27 : decode cX12_meet 27 = .ok (.ifCond .ne 8, 3) := by decide +kernel
theorem dX12_meet_30 : decode cX12_meet 30 = .ok (.aload_n 0, 1) := by decide +kernel
theorem dX12_meet_31 : decode cX12_meet 31 = .ok (.invokevirtual 97, 3) := by decide +kernel
theorem dX12_meet_34 : decode cX12_meet 34 = .ok (.ireturn, 1) := by decide +kernel
theorem dX12_meet_35 : decode cX12_meet 35 = .ok (.aload_n 0, 1) := by decide +kernel
theorem dX12_meet_36 : decode cX12_meet 36 = .ok (.invokevirtual 214, 3) := by decide +kernel
theorem dX12_meet_39 : decode cX12_meet 39 = .ok (.iconst (-1), 1) := by decide +kernel
theorem dX12_meet_40 : decode cX12_meet 40 = .ok (.istore 4, 2) := by decide +kernel
theorem dX12_meet_42 : decode cX12_meet 42 = .ok (.aload_n 0, 1) := by decide +kernel
theorem dX12_meet_43 : decode cX12_meet 43 = .ok (.getfield 78, 3) := by decide +kernel
theorem dX12_meet_46 : decode cX12_meet 46 = .ok (.iload_n 1, 1) := by decide +kernel
theorem dX12_meet_47 : decode cX12_meet 47 = .ok (.if_icmp .le 7, 3) := by decide +kernel
theorem dX12_meet_50 : decode cX12_meet 50 = .ok (.iconst 1, 1) := by decide +kernel
theorem dX12_meet_51 : decode cX12_meet 51 = .ok (.goto 16, 3) := by decide +kernel
theorem dX12_meet_54 : decode cX12_meet 54 = .ok (.aload_n 0, 1) := by decide +kernel
theorem dX12_meet_55 : decode cX12_meet 55 = .ok (.getfield 78, 3) := by decide +kernel
theorem dX12_meet_58 : decode cX12_meet 58 = .ok (.iload_n 1, 1) := by decide +kernel
theorem dX12_meet_59 : decode cX12_meet 59 = .ok (.if_icmp .ge 7, 3) := by decide +kernel
theorem dX12_meet_62 : decode cX12_meet 62 = .ok (.iconst (-1), 1) := by decide +kernel
theorem dX12_meet_63 : decode cX12_meet 63 = .ok (.goto 4, 3) := by decide +kernel
theorem dX12_meet_66 : decode cX12_meet 66 = .ok (.iconst 0, 1) := by decide +kernel
theorem dX12_meet_67 : decode cX12_meet 67 = .ok (.istore 5, 2) := by decide +kernel
theorem dX12_meet_69 : decode cX12_meet 69 = .ok (.iconst 0, 1) := by decide +kernel
theorem dX12_meet_70 : decode cX12_meet 70 = .ok (.istore 6, 2) := by decide +kernel
theorem dX12_meet_72 : decode cX12_meet 72 = .ok (.iload 6, 2) := by decide +kernel
theorem dX12_meet_74 : decode cX12_meet 74 = .ok (.bipush 60, 2) := by decide +kernel
theorem dX12_meet_76 : decode cX12_meet 76 = .ok (.if_icmp .gt 72, 3) := by decide +kernel
