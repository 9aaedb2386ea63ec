theorem dX11_rock_42 : decode cX11_rock 42 = .ok (.aload_n 0, 1) := by decide +kernel
theorem dX11_rock_43 : decode cX11_rock 43 = .ok (.invokevirtual 109, 3) := by decide +kernel
theorem dX11_rock_46 : decode cX11_rock 46 = .ok (.ireturn, 1) := by decide +kernel
theorem dX11_rock_47 : decode cX11_rock 47 = .ok (.aload_n 0, 1) := by decide +kernel
theorem dX11_rock_48 : decode cX11_rock 48 = .ok (.getfield 32, 3) := by decide +kernel
theorem dX11_rock_51 : decode cX11_rock 51 = .ok (.iload_n 1, 1) := by decide +kernel
theorem dX11_rock_52 : decode cX11_rock 52 = .ok (.invokevirtual 112, 3) := by decide +kernel
theorem dX11_rock_55 : decode cX11_rock 55 = .ok (.aload_n 0, 1) := by decide +kernel
theorem dX11_rock_56 : decode cX11_rock 56 = .ok (.getfield 32, 3) := by decide +kernel
theorem dX11_rock_59 : decode cX11_rock 59 = .ok (.getfield 106, 3) := by decide +kernel
theorem dX11_rock_62 : decode cX11_rock 62 = .ok (.ireturn, 1) := by decide +kernel
theorem dX11_hand_0 : decode cX11_hand 0 = .ok (.iload_n 1, 1) := by decide +kernel
theorem dX11_hand_1 : decode cX11_hand 1 = .ok (.iconst 0, 1) := by decide +kernel
theorem dX11_hand_2 : decode cX11_hand 2 = .ok (.iconst 5, 1) := by decide +kernel
theorem dX11_hand_3 : decode cX11_hand 3 = .ok (.invokestatic 116, 3) := by decide +kernel
theorem dX11_hand_6 : decode cX11_hand 6 = .ok (.ifCond .eq 20, 3) := by decide +kernel
theorem dX11_hand_9 : decode cX11_hand 9 = .ok (.iload_n 2, 1) := by decide +kernel
theorem dX11_hand_10 : decode cX11_hand 10 = .ok (.iconst 0, 1) := by decide +kernel
theorem dX11_hand_11 : decode cX11_hand 11 = .ok (.bipush 40, 2) := by decide +kernel
theorem dX11_hand_13 : decode cX11_hand 13 = .ok (.invokestatic 116, 3) := by decide +kernel
theorem dX11_hand_16 : decode cX11_hand 16 = .ok (.ifCond .eq 10, 3) := by decide +kernel
theorem dX11_hand_19 : decode cX11_hand 19 = .ok (.iload_n 3, 1) := by decide +kernel
theorem dX11_hand_20 : decode cX11_hand 20 = .ok (.invokestatic 120, 3) := by decide +kernel
theorem dX11_hand_23 : decode cX11_hand 23 = .ok (.ifCond .ne 10, 3) := by decide +kernel
theorem dX11_hand_26 : decode cX11_hand 26 = .ok (.aload_n 0, 1) := by decide +kernel
theorem dX11_hand_27 : decode cX11_hand 27 = .ok (.bipush (-2), 2) := by decide +kernel
theorem dX11_hand_29 : decode cX11_hand 29 = .ok (.invokevirtual 95, 3) := by decide +kernel
theorem dX11_hand_32 : decode cX11_hand 32 = .ok (.ireturn, 1) := by decide +kernel
theorem dX11_hand_33 : decode cX11_hand 33 = .ok (.aload_n 0, 1) := by decide +kernel
theorem dX11_hand_34 : decode cX11_hand 34 = .ok (.getfield 32, 3) := by decide +kernel
theorem dX11_hand_37 : decode cX11_hand 37 = .ok (.getfield 82, 3) := by decide +kernel
theorem dX11_hand_40 : decode cX11_hand 40 = .ok (.getfield 85, 3) := by decide +kernel
theorem dX11_hand_43 : decode cX11_hand 43 = .ok (.bipush 6, 2) := by decide +kernel
theorem dX11_hand_45 : decode cX11_hand 45 = .ok (.if_icmp .lt 8, 3) := by decide +kernel
theorem dX11_hand_48 : decode cX11_hand 48 = .ok (.aload_n 0, 1) := by decide +kernel
theorem dX11_hand_49 : decode cX11_hand 49 = .ok (.invokevirtual 109, 3) := by decide +kernel
theorem dX11_hand_52 : decode cX11_hand 52 = .ok (.ireturn, 1) := by decide +kernel
theorem dX11_hand_53 : decode cX11_hand 53 = .ok (.aload_n 0, 1) := by decide +kernel
theorem dX11_hand_54 : decode cX11_hand 54 = .ok (.getfield 32, 3) := by decide +kernel
theorem dX11_hand_57 : decode cX11_hand 57 = .ok (.iload_n 1, 1) := by decide +kernel
theorem dX11_hand_58 : decode cX11_hand 58 = .ok (.iload_n 2, 1) := by decide +kernel
theorem dX11_hand_59 : decode cX11_hand 59 = .ok (.iload_n 3, 1) := by decide +kernel
theorem dX11_hand_60 : decode cX11_hand 60 = .ok (.invokevirtual 123, 3) := by decide +kernel
theorem dX11_hand_63 : decode cX11_hand 63 = .ok (.aload_n 0, 1) := by decide +kernel
theorem dX11_hand_64 : decode cX11_hand 64 = .ok (.getfield 32, 3) := by decide +kernel
theorem dX11_hand_67 : decode cX11_hand 67 = .ok (.getfield 82, 3) := by decide +kernel
theorem dX11_hand_70 : decode cX11_hand 70 = .ok (.getfield 85, 3) := by decide +kernel
theorem dX11_hand_73 : decode cX11_hand 73 = .ok (.iconst 1, 1) := by decide +kernel
theorem dX11_hand_74 : decode cX11_hand 74 = .ok (.isub, 1) := by decide +kernel
theorem dX11_hand_75 : decode cX11_hand 75 = .ok (.ireturn, 1) := by decide +kernel
theorem dX11_type_0 : decode cX11_type 0 = .ok (.iload_n 1, 1) := by decide +kernel
theorem dX11_type_1 : decode cX11_type 1 = .ok (.iconst 0, 1) := by decide +kernel
theorem dX11_type_2 : decode cX11_type 2 = .ok (.bipush 127, 2) := by decide +kernel
theorem dX11_type_4 : decode cX11_type 4 = .ok (.invokestatic 116, 3) := by decide +kernel
theorem dX11_type_7 : decode cX11_type 7 = .ok (.ifCond .ne 10, 3) := by decide +kernel
theorem dX11_type_10 : decode cX11_type 10 = .ok (.aload_n 0, 1) := by decide +kernel
theorem dX11_type_11 : decode cX11_type 11 = .ok (.bipush (-2), 2) := by decide +kernel
theorem dX11_type_13 : decode cX11_type 13 = .ok (.invokevirtual 95, 3) := by decide +kernel
theorem dX11_type_16 : decode cX11_type 16 = .ok (.ireturn, 1) := by decide +kernel
theorem dX11_type_17 : decode cX11_type 17 = .ok (.aload_n 0, 1) := by decide +kernel
theorem dX11_type_18 : decode cX11_type 18 = .ok (.getfield 71, 3) := by decide +kernel
theorem dX11_type_21 : decode cX11_type 21 = .ok (.getfield 127, 3) := by decide +kernel
theorem dX11_type_24 : decode cX11_type 24 = .ok (.sipush 150, 3) := by decide +kernel
theorem dX11_type_27 : decode cX11_type 27 = .ok (.if_icmp .lt 8, 3) := by decide +kernel
theorem dX11_type_30 : decode cX11_type 30 = .ok (.aload_n 0, 1) := by decide +kernel
theorem dX11_type_31 : decode cX11_type 31 = .ok (.invokevirtual 109, 3) := by decide +kernel
theorem dX11_type_34 : decode cX11_type 34 = .ok (.ireturn, 1) := by decide +kernel
theorem dX11_type_35 : decode cX11_type 35 = .ok (.aload_n 0, 1) := by decide +kernel
theorem dX11_type_36 : decode cX11_type 36 = .ok (.getfield 71, 3) := by decide +kernel
theorem dX11_type_39 : decode cX11_type 39 = .ok (.iload_n 1, 1) := by decide +kernel
theorem dX11_type_40 : decode cX11_type 40 = .ok (.invokevirtual 130, 3) := by decide +kernel
theorem dX11_type_43 : decode cX11_type 43 = .ok (.aload_n 0, 1) := by decide +kernel
theorem dX11_type_44 : decode cX11_type 44 = .ok (.getfield 71, 3) := by decide +kernel
theorem dX11_type_47 : decode cX11_type 47 = .ok (.getfield 127, 3) := by decide +kernel
theorem dX11_type_50 : decode cX11_type 50 = .ok (.ireturn, 1) := by decide +kernel
theorem dX11_clear_0 : decode cX11_clear 0 = .ok (.aload_n 0, 1) := by decide +kernel
theorem dX11_clear_1 : decode cX11_clear 1 = .ok (.getfield 71, 3) := by decide +kernel
theorem dX11_clear_4 : decode cX11_clear 4 = .ok (.getfield 127, 3) := by decide +kernel
theorem dX11_clear_7 : decode cX11_clear 7 = .ok (.istore_n 1, 1) := by decide +kernel
theorem dX11_clear_8 : decode cX11_clear 8 = .ok (.aload_n 0, 1) := by decide +kernel
theorem dX11_clear_9 : decode cX11_clear 9 = .ok (.getfield 71, 3) := by decide +kernel
theorem dX11_clear_12 : decode cX11_clear 12 = .ok (.iconst 0, 1) := by decide +kernel
theorem dX11_clear_13 : decode cX11_clear 13 = .ok (.putfield 127, 3) := by decide +kernel
theorem dX11_clear_16 : decode cX11_clear 16 = .ok (.iload_n 1, 1) := by decide +kernel
theorem dX11_clear_17 : decode cX11_clear 17 = .ok (.ireturn, 1) := by decide +kernel
theorem dX11_read_0 : decode cX11_read 0 = .ok (.aload_n 0, 1) := by decide +kernel
theorem dX11_read_1 : decode cX11_read 1 = .ok (.getfield 71, 3) := by decide +kernel
theorem dX11_read_4 : decode cX11_read 4 = .ok (.aload_n 0, 1) := by decide +kernel
theorem dX11_read_5 : decode cX11_read 5 = .ok (.getfield 36, 3) := by decide +kernel
theorem dX11_read_8 : decode cX11_read 8 = .ok (.invokevirtual 133, 3) := by decide +kernel
theorem dX11_read_11 : decode cX11_read 11 = .ok (.istore_n 1, 1) := by decide +kernel
theorem dX11_read_12 : decode cX11_read 12 = .ok (.aload_n 0, 1) := by decide +kernel
theorem dX11_read_13 : decode cX11_read 13 = .ok (.getfield 71, 3) := by decide +kernel
theorem dX11_read_16 : decode cX11_read 16 = .ok (.getfield 137, 3) := by decide +kernel
theorem dX11_read_19 : decode cX11_read 19 = .ok (.iconst (-1), 1) := by decide +kernel
theorem dX11_read_20 : decode cX11_read 20 = .ok (.if_icmp .eq 14, 3) := by decide +kernel
theorem dX11_read_23 : decode cX11_read 23 = .ok (.bipush (-10), 2) := by decide +kernel
theorem dX11_read_25 : decode cX11_read 25 = .ok (.aload_n 0, 1) := by decide +kernel
theorem dX11_read_26 : decode cX11_read 26 = .ok (.getfield 71, 3) := by decide +kernel
theorem dX11_read_29 : decode cX11_read 29 = .ok (.getfield 137, 3) := by decide +kernel
theorem dX11_read_32 : decode cX11_read 32 = .ok (.isub, 1) := by decide +kernel
theorem dX11_read_33 : decode cX11_read 33 = .ok (.ireturn, 1) := by decide +kernel
theorem dX11_read_34 : decode cX11_read 34 = .ok (.aload_n 0, 1) := by decide +kernel
theorem dX11_read_35 : decode cX11_read 35 = .ok (.getfield 32, 3) := by decide +kernel
theorem dX11_read_38 : decode cX11_read 38 = .ok (.aload_n 0, 1) := by decide +kernel
theorem dX11_read_39 : decode cX11_read 39 = .ok (.getfield 36, 3) := by decide +kernel
theorem dX11_read_42 : decode cX11_read 42 = .ok (.invokevirtual 140, 3) := by decide +kernel
theorem dX11_read_45 : decode cX11_read 45 = .ok (.iload_n 1, 1) := by decide +kernel
theorem dX11_read_46 : decode cX11_read 46 = .ok (.ireturn, 1) := by decide +kernel
theorem dX11_feed_0 : decode cX11_feed 0 = .ok (.aload_n 0, 1) := by decide +kernel
theorem dX11_feed_1 : decode cX11_feed 1 = .ok (.iload_n 1, 1) := by decide +kernel
theorem dX11_feed_2 : decode cX11_feed 2 = .ok (.invokevirtual 144, 3) := by decide +kernel
theorem dX11_feed_5 : decode cX11_feed 5 = .ok (.ifCond .ne 10, 3) := by decide +kernel
theorem dX11_feed_8 : decode cX11_feed 8 = .ok (.aload_n 0, 1) := by decide +kernel
theorem dX11_feed_9 : decode cX11_feed 9 = .ok (.bipush (-2), 2) := by decide +kernel
theorem dX11_feed_11 : decode cX11_feed 11 = .ok (.invokevirtual 95, 3) := by decide +kernel
theorem dX11_feed_14 : decode cX11_feed 14 = .ok (.ireturn, 1) := by decide +kernel
theorem dX11_feed_15 : decode cX11_feed 15 = .ok (.aload_n 0, 1) := by decide +kernel
theorem dX11_feed_16 : decode cX11_feed 16 = .ok (.getfield 32, 3) := by decide +kernel
theorem dX11_feed_19 : decode cX11_feed 19 = .ok (.getfield 82, 3) := by decide +kernel
theorem dX11_feed_22 : decode cX11_feed 22 = .ok (.getfield 147, 3) := by decide +kernel
theorem dX11_feed_25 : decode cX11_feed 25 = .ok (.iload_n 1, 1) := by decide +kernel
theorem dX11_feed_26 : decode cX11_feed 26 = .ok (.invokestatic 150, 3) := by decide +kernel
theorem dX11_feed_29 : decode cX11_feed 29 = .ok (.ifCond .eq 8, 3) := by decide +kernel
theorem dX11_feed_32 : decode cX11_feed 32 = .ok (.aload_n 0, 1) := by decide +kernel
theorem dX11_feed_33 : decode cX11_feed 33 = .ok (.invokevirtual 102, 3) := by decide +kernel
theorem dX11_feed_36 : decode cX11_feed 36 = .ok (.ireturn, 1) := by decide +kernel
theorem dX11_feed_37 : decode cX11_feed 37 = .ok (.aload_n 0, 1) := by decide +kernel
theorem dX11_feed_38 : decode cX11_feed 38 = .ok (.getfield 32, 3) := by decide +kernel
theorem dX11_feed_41 : decode cX11_feed 41 = .ok (.invokevirtual 154, 3) := by decide +kernel
theorem dX11_feed_44 : decode cX11_feed 44 = .ok (.aload_n 0, 1) := by decide +kernel
theorem dX11_feed_45 : decode cX11_feed 45 = .ok (.getfield 32, 3) := by decide +kernel
theorem dX11_feed_48 : decode cX11_feed 48 = .ok (.getfield 82, 3) := by decide +kernel
theorem dX11_feed_51 : decode cX11_feed 51 = .ok (.dup, 1) := by decide +kernel
theorem dX11_feed_52 : decode cX11_feed 52 = .ok (.getfield 147, 3) := by decide +kernel
theorem dX11_feed_55 : decode cX11_feed 55 = .ok (.iconst 1, 1) := by decide +kernel
theorem dX11_feed_56 : decode cX11_feed 56 = .ok (.iload_n 1, 1) := by decide +kernel
theorem dX11_feed_57 : decode cX11_feed 57 = .ok (.ishl, 1) := by decide +kernel
theorem dX11_feed_58 : decode cX11_feed 58 = .ok (.ior, 1) := by decide +kernel
theorem dX11_feed_59 : decode cX11_feed 59 = .ok (.putfield 147, 3) := by decide +kernel
theorem dX11_feed_62 : decode cX11_feed 62 = .ok (.iconst 1, 1) := by decide +kernel
theorem dX11_feed_63 : decode cX11_feed 63 = .ok (.ireturn, 1) := by decide +kernel
theorem dX11_watch_0 : decode cX11_watch 0 = .ok (.aload_n 0, 1) := by decide +kernel
theorem dX11_watch_1 : decode cX11_watch 1 = .ok (.getfield 32, 3) := by decide +kernel
theorem dX11_watch_4 : decode cX11_watch 4 = .ok (.getfield 82, 3) := by decide +kernel
theorem dX11_watch_7 : decode cX11_watch 7 = .ok (.aload_n 0, 1) := by decide +kernel
theorem dX11_watch_8 : decode cX11_watch 8 = .ok (.getfield 32, 3) := by decide +kernel
theorem dX11_watch_11 : decode cX11_watch 11 = .ok (.getfield 82, 3) := by decide +kernel
theorem dX11_watch_14 : decode cX11_watch 14 = .ok (.getfield 147, 3) := by decide +kernel
theorem dX11_watch_17 : decode cX11_watch 17 = .ok (.invokevirtual 157, 3) := by decide +kernel
theorem dX11_watch_20 : decode cX11_watch 20 = .ok (.istore_n 1, 1) := by decide +kernel
theorem dX11_watch_21 : decode cX11_watch 21 = .ok (.aload_n 0, 1) := by decide +kernel
theorem dX11_watch_22 : decode cX11_watch 22 = .ok (.getfield 32, 3) := by decide +kernel
theorem dX11_watch_25 : decode cX11_watch 25 = .ok (.invokevirtual 154, 3) := by decide +kernel
theorem dX11_watch_28 : decode cX11_watch 28 = .ok (.aload_n 0, 1) := by decide +kernel
theorem dX11_watch_29 : decode cX11_watch 29 = .ok (.getfield 32, 3) := by decide +kernel
theorem dX11_watch_32 : decode cX11_watch 32 = .ok (.getfield 82, 3) := by decide +kernel
theorem dX11_watch_35 : decode cX11_watch 35 = .ok (.iload_n 1, 1) := by decide +kernel
theorem dX11_watch_36 : decode cX11_watch 36 = .ok (.invokevirtual 160, 3) := by decide +kernel
theorem dX11_watch_39 : decode cX11_watch 39 = .ok (.iload_n 1, 1) := by decide +kernel
theorem dX11_watch_40 : decode cX11_watch 40 = .ok (.ireturn, 1) := by decide +kernel
theorem dX11_undo_0 : decode cX11_undo 0 = .ok (.aload_n 0, 1) := by decide +kernel
theorem dX11_undo_1 : decode cX11_undo 1 = .ok (.getfield 32, 3) := by decide +kernel
theorem dX11_undo_4 : decode cX11_undo 4 = .ok (.invokevirtual 163, 3) := by decide +kernel
theorem dX11_undo_7 : decode cX11_undo 7 = .ok (.ifCond .ne 8, 3) := by decide +kernel
theorem dX11_undo_10 : decode cX11_undo 10 = .ok (.aload_n 0, 1) := by decide +kernel
theorem dX11_undo_11 : decode cX11_undo 11 = .ok (.invokevirtual 102, 3) := by decide +kernel
theorem dX11_undo_14 : decode cX11_undo 14 = .ok (.ireturn, 1) := by decide +kernel
theorem dX11_undo_15 : decode cX11_undo 15 = .ok (.aload_n 0, 1) := by decide +kernel
theorem dX11_undo_16 : decode cX11_undo 16 = .ok (.getfield 32, 3) := by decide +kernel
theorem dX11_undo_19 : decode cX11_undo 19 = .ok (.getfield 82, 3) := by decide +kernel
theorem dX11_undo_22 : decode cX11_undo 22 = .ok (.getfield 167, 3) := by decide +kernel
theorem dX11_undo_25 : decode cX11_undo 25 = .ok (.ireturn, 1) := by decide +kernel
theorem dX11_of_0 : decode cX11_of 0 = .ok (.aload_n 0, 1) := by decide +kernel
theorem dX11_of_1 : decode cX11_of 1 = .ok (.iload_n 1, 1) := by decide +kernel
theorem dX11_of_2 : decode cX11_of 2 = .ok (.invokevirtual 144, 3) := by decide +kernel
theorem dX11_of_5 : decode cX11_of 5 = .ok (.ifCond .eq 12, 3) := by decide +kernel
theorem dX11_of_8 : decode cX11_of 8 = .ok (.iload_n 2, 1) := by decide +kernel
theorem dX11_of_9 : decode cX11_of 9 = .ok (.iconst 0, 1) := by decide +kernel
theorem dX11_of_10 : decode cX11_of 10 = .ok (.iconst 4, 1) := by decide +kernel
theorem dX11_of_11 : decode cX11_of 11 = .ok (.invokestatic 116, 3) := by decide +kernel
theorem dX11_of_14 : decode cX11_of 14 = .ok (.ifCond .ne 10, 3) := by decide +kernel
theorem dX11_of_17 : decode cX11_of 17 = .ok (.aload_n 0, 1) := by decide +kernel
theorem dX11_of_18 : decode cX11_of 18 = .ok (.bipush (-10), 2) := by decide +kernel
theorem dX11_of_20 : decode cX11_of 20 = .ok (.invokevirtual 95, 3) := by decide +kernel
theorem dX11_of_23 : decode cX11_of 23 = .ok (.ireturn, 1) := by decide +kernel
theorem dX11_of_24 : decode cX11_of 24 = .ok (.aload_n 0, 1) := by decide +kernel
theorem dX11_of_25 : decode cX11_of 25 = .ok (.getfield 32, 3) := by decide +kernel
theorem dX11_of_28 : decode cX11_of 28 = .ok (.getfield 82, 3) := by decide +kernel
theorem dX11_of_31 : decode cX11_of 31 = .ok (.astore_n 3, 1) := by decide +kernel
theorem dX11_of_32 : decode cX11_of 32 = .ok (.iload_n 2, 1) := by decide +kernel
theorem dX11_of_33 : decode cX11_of 33 = .ok (.tableswitch 69 0 3 #[31, 38, 45, 52], 31) := by decide +kernel
theorem dX11_of_64 : decode cX11_of 64 = .ok (.aload_n 3, 1) := by decide +kernel
theorem dX11_of_65 : decode cX11_of 65 = .ok (.getfield 170, 3) := by decide +kernel
theorem dX11_of_68 : decode cX11_of 68 = .ok (.iload_n 1, 1) := by decide +kernel
theorem dX11_of_69 : decode cX11_of 69 = .ok (.iaload, 1) := by decide +kernel
theorem dX11_of_70 : decode cX11_of 70 = .ok (.ireturn, 1) := by decide +kernel
theorem dX11_of_71 : decode cX11_of 71 = .ok (.aload_n 3, 1) := by decide +kernel
theorem dX11_of_72 : decode cX11_of 72 = .ok (.getfield 174, 3) := by decide +kernel
theorem dX11_of_75 : decode cX11_of 75 = .ok (.iload_n 1, 1) := by decide +kernel
theorem dX11_of_76 : decode cX11_of 76 = .ok (.iaload, 1) := by decide +kernel
theorem dX11_of_77 : decode cX11_of 77 = .ok (.ireturn, 1) := by decide +kernel
theorem dX11_of_78 : decode cX11_of 78 = .ok (.aload_n 3, 1) := by decide +kernel
theorem dX11_of_79 : decode cX11_of 79 = .ok (.getfield 177, 3) := by decide +kernel
theorem dX11_of_82 : decode cX11_of 82 = .ok (.iload_n 1, 1) := by decide +kernel
theorem dX11_of_83 : decode cX11_of 83 = .ok (.iaload, 1) := by decide +kernel
theorem dX11_of_84 : decode cX11_of 84 = .ok (.ireturn, 1) := by decide +kernel
theorem dX11_of_85 : decode cX11_of 85 = .ok (.aload_n 3, 1) := by decide +kernel
theorem dX11_of_86 : decode cX11_of 86 = .ok (.getfield 147, 3) := by decide +kernel
theorem dX11_of_89 : decode cX11_of 89 = .ok (.iload_n 1, 1) := by decide +kernel
theorem dX11_of_90 : decode cX11_of 90 = .ok (.invokestatic 150, 3) := by decide +kernel
theorem dX11_of_93 : decode cX11_of 93 = .ok (.ifCond .eq 7, 3) := by decide +kernel
theorem dX11_of_96 : decode cX11_of 96 = .ok (.iconst 1, 1) := by decide +kernel
theorem dX11_of_97 : decode cX11_of 97 = .ok (.goto 4, 3) := by decide +kernel
theorem dX11_of_100 : decode cX11_of 100 = .ok (.iconst 0, 1) := by decide +kernel
theorem dX11_of_101 : decode cX11_of 101 = .ok (.ireturn, 1) := by decide +kernel
theorem dX11_of_102 : decode cX11_of 102 = .ok (.aload_n 3, 1) := by decide +kernel
theorem dX11_of_103 : decode cX11_of 103 = .ok (.iload_n 1, 1) := by decide +kernel
theorem dX11_of_104 : decode cX11_of 104 = .ok (.aload_n 3, 1) := by decide +kernel
theorem dX11_of_105 : decode cX11_of 105 = .ok (.getfield 147, 3) := by decide +kernel
theorem dX11_of_108 : decode cX11_of 108 = .ok (.iload_n 1, 1) := by decide +kernel
theorem dX11_of_109 : decode cX11_of 109 = .ok (.invokestatic 150, 3) := by decide +kernel
theorem dX11_of_112 : decode cX11_of 112 = .ok (.invokevirtual 180, 3) := by decide +kernel
theorem dX11_of_115 : decode cX11_of 115 = .ok (.ireturn, 1) := by decide +kernel
theorem dX11_now_0 : decode cX11_now 0 = .ok (.aload_n 0, 1) := by decide +kernel
theorem dX11_now_1 : decode cX11_now 1 = .ok (.getfield 32, 3) := by decide +kernel
theorem dX11_now_4 : decode cX11_now 4 = .ok (.getfield 82, 3) := by decide +kernel
theorem dX11_now_7 : decode cX11_now 7 = .ok (.astore_n 2, 1) := by decide +kernel
theorem dX11_now_8 : decode cX11_now 8 = .ok (.iload_n 1, 1) := by decide +kernel
theorem dX11_now_9 : decode cX11_now 9 = .ok (.tableswitch 61 0 2 #[27, 32, 52], 27) := by decide +kernel
theorem dX11_now_36 : decode cX11_now 36 = .ok (.aload_n 2, 1) := by decide +kernel
theorem dX11_now_37 : decode cX11_now 37 = .ok (.getfield 184, 3) := by decide +kernel
theorem dX11_now_40 : decode cX11_now 40 = .ok (.ireturn, 1) := by decide +kernel
theorem dX11_now_41 : decode cX11_now 41 = .ok (.aload_n 0, 1) := by decide +kernel
theorem dX11_now_42 : decode cX11_now 42 = .ok (.getfield 32, 3) := by decide +kernel
theorem dX11_now_45 : decode cX11_now 45 = .ok (.aload_n 2, 1) := by decide +kernel
theorem dX11_now_46 : decode cX11_now 46 = .ok (.getfield 184, 3) := by decide +kernel
theorem dX11_now_49 : decode cX11_now 49 = .ok (.invokevirtual 99, 3) := by decide +kernel
theorem dX11_now_52 : decode cX11_now 52 = .ok (.ifCond .eq 7, 3) := by decide +kernel
theorem dX11_now_55 : decode cX11_now 55 = .ok (.iconst 1, 1) := by decide +kernel
theorem dX11_now_56 : decode cX11_now 56 = .ok (.goto 4, 3) := by decide +kernel
theorem dX11_now_59 : decode cX11_now 59 = .ok (.iconst 0, 1) := by decide +kernel
theorem dX11_now_60 : decode cX11_now 60 = .ok (.ireturn, 1) := by decide +kernel
theorem dX11_now_61 : decode cX11_now 61 = .ok (.aload_n 2, 1) := by decide +kernel
theorem dX11_now_62 : decode cX11_now 62 = .ok (.aload_n 2, 1) := by decide +kernel
theorem dX11_now_63 : decode cX11_now 63 = .ok (.getfield 147, 3) := by decide +kernel
theorem dX11_now_66 : decode cX11_now 66 = .ok (.invokevirtual 157, 3) := by decide +kernel
theorem dX11_now_69 : decode cX11_now 69 = .ok (.ireturn, 1) := by decide +kernel
theorem dX11_now_70 : decode cX11_now 70 = .ok (.aload_n 0, 1) := by decide +kernel
theorem dX11_now_71 : decode cX11_now 71 = .ok (.sipush (-10000), 3) := by decide +kernel
theorem dX11_now_74 : decode cX11_now 74 = .ok (.invokevirtual 95, 3) := by decide +kernel
theorem dX11_now_77 : decode cX11_now 77 = .ok (.ireturn, 1) := by decide +kernel
theorem dX11_then_0 : decode cX11_then 0 = .ok (.iload_n 1, 1) := by decide +kernel
theorem dX11_then_1 : decode cX11_then 1 = .ok (.iconst 0, 1) := by decide +kernel
theorem dX11_then_2 : decode cX11_then 2 = .ok (.bipush 60, 2) := by decide +kernel
theorem dX11_then_4 : decode cX11_then 4 = .ok (.invokestatic 116, 3) := by decide +kernel
theorem dX11_then_7 : decode cX11_then 7 = .ok (.ifCond .eq 12, 3) := by decide +kernel
theorem dX11_then_10 : decode cX11_then 10 = .ok (.iload_n 2, 1) := by decide +kernel
theorem dX11_then_11 : decode cX11_then 11 = .ok (.iconst 0, 1) := by decide +kernel
theorem dX11_then_12 : decode cX11_then 12 = .ok (.iconst 1, 1) := by decide +kernel
theorem dX11_then_13 : decode cX11_then 13 = .ok (.invokestatic 116, 3) := by decide +kernel
theorem dX11_then_16 : decode cX11_then 16 = .ok (.ifCond .ne 11, 3) := by decide +kernel
theorem dX11_then_19 : decode cX11_then 19 = .ok (.aload_n 0, 1) := by decide +kernel
theorem dX11_then_20 : decode cX11_then 20 = .ok (.sipush (-10000), 3) := by decide +kernel
theorem dX11_then_23 : decode cX11_then 23 = .ok (.invokevirtual 95, 3) := by decide +kernel
theorem dX11_then_26 : decode cX11_then 26 = .ok (.ireturn, 1) := by decide +kernel
theorem dX11_then_27 : decode cX11_then 27 = .ok (.aload_n 0, 1) := by decide +kernel
theorem dX11_then_28 : decode cX11_then 28 = .ok (.getfield 57, 3) := by decide +kernel
theorem dX11_then_31 : decode cX11_then 31 = .ok (.aload_n 0, 1) := by decide +kernel
theorem dX11_then_32 : decode cX11_then 32 = .ok (.getfield 32, 3) := by decide +kernel
theorem dX11_then_35 : decode cX11_then 35 = .ok (.getfield 82, 3) := by decide +kernel
theorem dX11_then_38 : decode cX11_then 38 = .ok (.iload_n 1, 1) := by decide +kernel
theorem dX11_then_39 : decode cX11_then 39 = .ok (.invokevirtual 187, 3) := by decide +kernel
theorem dX11_then_42 : decode cX11_then 42 = .ok (.iload_n 2, 1) := by decide +kernel
theorem dX11_then_43 : decode cX11_then 43 = .ok (.ifCond .ne 15, 3) := by decide +kernel
theorem dX11_then_46 : decode cX11_then 46 = .ok (.aload_n 0, 1) := by decide +kernel
theorem dX11_then_47 : decode cX11_then 47 = .ok (.getfield 57, 3) := by decide +kernel
theorem dX11_then_50 : decode cX11_then 50 = .ok (.getfield 191, 3) := by decide +kernel
theorem dX11_then_53 : decode cX11_then 53 = .ok (.iload_n 1, 1) := by decide +kernel
theorem dX11_then_54 : decode cX11_then 54 = .ok (.iaload, 1) := by decide +kernel
theorem dX11_then_55 : decode cX11_then 55 = .ok (.goto 12, 3) := by decide +kernel
theorem dX11_then_58 : decode cX11_then 58 = .ok (.aload_n 0, 1) := by decide +kernel
theorem dX11_then_59 : decode cX11_then 59 = .ok (.getfield 57, 3) := by decide +kernel
theorem dX11_then_62 : decode cX11_then 62 = .ok (.getfield 194, 3) := by decide +kernel
theorem dX11_then_65 : decode cX11_then 65 = .ok (.iload_n 1, 1) := by decide +kernel
theorem dX11_then_66 : decode cX11_then 66 = .ok (.iaload, 1) := by decide +kernel
theorem dX11_then_67 : decode cX11_then 67 = .ok (.ireturn, 1) := by decide +kernel
theorem dX11_strikes_0 : decode cX11_strikes 0 = .ok (.aload_n 0, 1) := by decide +kernel
theorem dX11_strikes_1 : decode cX11_strikes 1 = .ok (.getfield 57, 3) := by decide +kernel
theorem dX11_strikes_4 : decode cX11_strikes 4 = .ok (.aload_n 0, 1) := by decide +kernel
theorem dX11_strikes_5 : decode cX11_strikes 5 = .ok (.getfield 32, 3) := by decide +kernel
theorem dX11_strikes_8 : decode cX11_strikes 8 = .ok (.getfield 82, 3) := by decide +kernel
theorem dX11_strikes_11 : decode cX11_strikes 11 = .ok (.bipush 60, 2) := by decide +kernel
theorem dX11_strikes_13 : decode cX11_strikes 13 = .ok (.invokevirtual 187, 3) := by decide +kernel
theorem dX11_strikes_16 : decode cX11_strikes 16 = .ok (.iconst 1, 1) := by decide +kernel
theorem dX11_strikes_17 : decode cX11_strikes 17 = .ok (.istore_n 1, 1) := by decide +kernel
theorem dX11_strikes_18 : decode cX11_strikes 18 = .ok (.iload_n 1, 1) := by decide +kernel
theorem dX11_strikes_19 : decode cX11_strikes 19 = .ok (.bipush 60, 2) := by decide +kernel
theorem dX11_strikes_21 : decode cX11_strikes 21 = .ok (.if_icmp .gt 30, 3) := by decide +kernel
theorem dX11_strikes_24 : decode cX11_strikes 24 = .ok (.aload_n 0, 1) := by decide +kernel
theorem dX11_strikes_25 : decode cX11_strikes 25 = .ok (.getfield 32, 3) := by decide +kernel
theorem dX11_strikes_28 : decode cX11_strikes 28 = .ok (.aload_n 0, 1) := by decide +kernel
theorem dX11_strikes_29 : decode cX11_strikes 29 = .ok (.getfield 57, 3) := by decide +kernel
theorem dX11_strikes_32 : decode cX11_strikes 32 = .ok (.getfield 191, 3) := by decide +kernel
theorem dX11_strikes_35 : decode cX11_strikes 35 = .ok (.iload_n 1, 1) := by decide +kernel
theorem dX11_strikes_36 : decode cX11_strikes 36 = .ok (.iaload, 1) := by decide +kernel
theorem dX11_strikes_37 : decode cX11_strikes 37 = .ok (.invokevirtual 99, 3) := by decide +kernel
theorem dX11_strikes_40 : decode cX11_strikes 40 = .ok (.ifCond .eq 5, 3) := by decide +kernel
theorem dX11_strikes_43 : decode cX11_strikes 43 = .ok (.iload_n 1, 1) := by decide +kernel
theorem dX11_strikes_44 : decode cX11_strikes 44 = .ok (.ireturn, 1) := by decide +kernel
theorem dX11_strikes_45 : decode cX11_strikes 45 = .ok (.iinc 1 1, 3) := by decide +kernel
theorem dX11_strikes_48 : decode cX11_strikes 48 = .ok (.goto (-30), 3) := by decide +kernel
theorem dX11_strikes_51 : decode cX11_strikes 51 = .ok (.iconst (-1), 1) := by decide +kernel
theorem dX11_strikes_52 : decode cX11_strikes 52 = .ok (.ireturn, 1) := by decide +kernel
theorem dX11_peas_0 : decode cX11_peas 0 = .ok (.iload_n 1, 1) := by decide +kernel
theorem dX11_peas_1 : decode cX11_peas 1 = .ok (.invokestatic 91, 3) := by decide +kernel
theorem dX11_peas_4 : decode cX11_peas 4 = .ok (.ifCond .eq 17, 3) := by decide +kernel
theorem dX11_peas_7 : decode cX11_peas 7 = .ok (.iload_n 2, 1) := by decide +kernel
theorem dX11_peas_8 : decode cX11_peas 8 = .ok (.iconst 1, 1) := by decide +kernel
theorem dX11_peas_9 : decode cX11_peas 9 = .ok (.iconst 4, 1) := by decide +kernel
theorem dX11_peas_10 : decode cX11_peas 10 = .ok (.invokestatic 116, 3) := by decide +kernel
theorem dX11_peas_13 : decode cX11_peas 13 = .ok (.ifCond .eq 8, 3) := by decide +kernel
theorem dX11_peas_16 : decode cX11_peas 16 = .ok (.iload_n 3, 1) := by decide +kernel
theorem dX11_peas_17 : decode cX11_peas 17 = .ok (.iconst (-1), 1) := by decide +kernel
theorem dX11_peas_18 : decode cX11_peas 18 = .ok (.if_icmp .ge 10, 3) := by decide +kernel
theorem dX11_peas_21 : decode cX11_peas 21 = .ok (.aload_n 0, 1) := by decide +kernel
theorem dX11_peas_22 : decode cX11_peas 22 = .ok (.bipush (-10), 2) := by decide +kernel
theorem dX11_peas_24 : decode cX11_peas 24 = .ok (.invokevirtual 95, 3) := by decide +kernel
theorem dX11_peas_27 : decode cX11_peas 27 = .ok (.ireturn, 1) := by decide +kernel
theorem dX11_peas_28 : decode cX11_peas 28 = .ok (.aload_n 0, 1) := by decide +kernel
theorem dX11_peas_29 : decode cX11_peas 29 = .ok (.getfield 64, 3) := by decide +kernel
theorem dX11_peas_32 : decode cX11_peas 32 = .ok (.aload_n 0, 1) := by decide +kernel
theorem dX11_peas_33 : decode cX11_peas 33 = .ok (.getfield 32, 3) := by decide +kernel
theorem dX11_peas_36 : decode cX11_peas 36 = .ok (.getfield 82, 3) := by decide +kernel
theorem dX11_peas_39 : decode cX11_peas 39 = .ok (.iload_n 1, 1) := by decide +kernel
theorem dX11_peas_40 : decode cX11_peas 40 = .ok (.iload_n 2, 1) := by decide +kernel
theorem dX11_peas_41 : decode cX11_peas 41 = .ok (.invokevirtual 197, 3) := by decide +kernel
theorem dX11_peas_44 : decode cX11_peas 44 = .ok (.ifCond .ne 5, 3) := by decide +kernel
theorem dX11_peas_47 : decode cX11_peas 47 = .ok (.iconst (-1), 1) := by decide +kernel
theorem dX11_peas_48 : decode cX11_peas 48 = .ok (.ireturn, 1) := by decide +kernel
theorem dX11_peas_49 : decode cX11_peas 49 = .ok (.iload_n 3, 1) := by decide +kernel
theorem dX11_peas_50 : decode cX11_peas 50 = .ok (.iconst (-1), 1) := by decide +kernel
theorem dX11_peas_51 : decode cX11_peas 51 = .ok (.if_icmp .ne 11, 3) := by decide +kernel
theorem dX11_peas_54 : decode cX11_peas 54 = .ok (.aload_n 0, 1) := by decide +kernel
theorem dX11_peas_55 : decode cX11_peas 55 = .ok (.getfield 64, 3) := by decide +kernel
theorem dX11_peas_58 : decode cX11_peas 58 = .ok (.getfield 201, 3) := by decide +kernel
theorem dX11_peas_61 : decode cX11_peas 61 = .ok (.ireturn, 1) := by decide +kernel
theorem dX11_peas_62 : decode cX11_peas 62 = .ok (.iload_n 3, 1) := by decide +kernel
theorem dX11_peas_63 : decode cX11_peas 63 = .ok (.iload_n 2, 1) := by decide +kernel
theorem dX11_peas_64 : decode cX11_peas 64 = .ok (.if_icmp .ge 15, 3) := by decide +kernel
theorem dX11_peas_67 : decode cX11_peas 67 = .ok (.aload_n 0, 1) := by decide +kernel
theorem dX11_peas_68 : decode cX11_peas 68 = .ok (.getfield 64, 3) := by decide +kernel
theorem dX11_peas_71 : decode cX11_peas 71 = .ok (.getfield 204, 3) := by decide +kernel
theorem dX11_peas_74 : decode cX11_peas 74 = .ok (.iload_n 3, 1) := by decide +kernel
theorem dX11_peas_75 : decode cX11_peas 75 = .ok (.iaload, 1) := by decide +kernel
theorem dX11_peas_76 : decode cX11_peas 76 = .ok (.goto 5, 3) := by decide +kernel
theorem dX11_peas_79 : decode cX11_peas 79 = .ok (.bipush (-5), 2) := by decide +kernel
theorem dX11_peas_81 : decode cX11_peas 81 = .ok (.ireturn, 1) := by decide +kernel
theorem dX11_canNot_0 : decode cX11_canNot 0 = .ok (.aload_n 0, 1) := by decide +kernel
theorem dX11_canNot_1 : decode cX11_canNot 1 = .ok (.iload_n 1, 1) := by decide +kernel
theorem dX11_canNot_2 : decode cX11_canNot 2 = .ok (.invokevirtual 144, 3) := by decide +kernel
theorem dX11_canNot_5 : decode cX11_canNot 5 = .ok (.ifCond .ne 10, 3) := by decide +kernel
theorem dX11_canNot_8 : decode cX11_canNot 8 = .ok (.aload_n 0, 1) := by decide +kernel
theorem dX11_canNot_9 : decode cX11_canNot 9 = .ok (.bipush (-2), 2) := by decide +kernel
theorem dX11_canNot_11 : decode cX11_canNot 11 = .ok (.invokevirtual 95, 3) := by decide +kernel
theorem dX11_canNot_14 : decode cX11_canNot 14 = .ok (.ireturn, 1) := by decide +kernel
theorem dX11_canNot_15 : decode cX11_canNot 15 = .ok (.aload_n 0, 1) := by decide +kernel
theorem dX11_canNot_16 : decode cX11_canNot 16 = .ok (.getfield 50, 3) := by decide +kernel
theorem dX11_canNot_19 : decode cX11_canNot 19 = .ok (.aload_n 0, 1) := by decide +kernel
theorem dX11_canNot_20 : decode cX11_canNot 20 = .ok (.getfield 32, 3) := by decide +kernel
theorem dX11_canNot_23 : decode cX11_canNot 23 = .ok (.getfield 82, 3) := by decide +kernel
theorem dX11_canNot_26 : decode cX11_canNot 26 = .ok (.invokevirtual 207, 3) := by decide +kernel
theorem dX11_canNot_29 : decode cX11_canNot 29 = .ok (.iconst 0, 1) := by decide +kernel
theorem dX11_canNot_30 : decode cX11_canNot 30 = .ok (.istore_n 2, 1) := by decide +kernel
theorem dX11_canNot_31 : decode cX11_canNot 31 = .ok (.iconst 0, 1) := by decide +kernel
theorem dX11_canNot_32 : decode cX11_canNot 32 = .ok (.istore_n 3, 1) := by decide +kernel
theorem dX11_canNot_33 : decode cX11_canNot 33 = .ok (.iload_n 3, 1) := by decide +kernel
theorem dX11_canNot_34 : decode cX11_canNot 34 = .ok (.bipush 8, 2) := by decide +kernel
theorem dX11_canNot_36 : decode cX11_canNot 36 = .ok (.if_icmp .ge 47, 3) := by decide +kernel
theorem dX11_canNot_39 : decode cX11_canNot 39 = .ok (.aload_n 0, 1) := by decide +kernel
theorem dX11_canNot_40 : decode cX11_canNot 40 = .ok (.getfield 50, 3) := by decide +kernel
theorem dX11_canNot_43 : decode cX11_canNot 43 = .ok (.iload_n 1, 1) := by decide +kernel
theorem dX11_canNot_44 : decode cX11_canNot 44 = .ok (.invokevirtual 210, 3) := by decide +kernel
theorem dX11_canNot_47 : decode cX11_canNot 47 = .ok (.ifCond .ne 9, 3) := by decide +kernel
theorem dX11_canNot_50 : decode cX11_canNot 50 = .ok (.iload_n 2, 1) := by decide +kernel
theorem dX11_canNot_51 : decode cX11_canNot 51 = .ok (.iconst 1, 1) := by decide +kernel
theorem dX11_canNot_52 : decode cX11_canNot 52 = .ok (.iload_n 3, 1) := by decide +kernel
theorem dX11_canNot_53 : decode cX11_canNot 53 = .ok (.ishl, 1) := by decide +kernel
theorem dX11_canNot_54 : decode cX11_canNot 54 = .ok (.ior, 1) := by decide +kernel
theorem dX11_canNot_55 : decode cX11_canNot 55 = .ok (.istore_n 2, 1) := by decide +kernel
theorem dX11_canNot_56 : decode cX11_canNot 56 = .ok (.aload_n 0, 1) := by decide +kernel
theorem dX11_canNot_57 : decode cX11_canNot 57 = .ok (.getfield 50, 3) := by decide +kernel
theorem dX11_canNot_60 : decode cX11_canNot 60 = .ok (.aload_n 0, 1) := by decide +kernel
theorem dX11_canNot_61 : decode cX11_canNot 61 = .ok (.getfield 50, 3) := by decide +kernel
theorem dX11_canNot_64 : decode cX11_canNot 64 = .ok (.aload_n 0, 1) := by decide +kernel
theorem dX11_canNot_65 : decode cX11_canNot 65 = .ok (.getfield 50, 3) := by decide +kernel
theorem dX11_canNot_68 : decode cX11_canNot 68 = .ok (.getfield 147, 3) := by decide +kernel
theorem dX11_canNot_71 : decode cX11_canNot 71 = .ok (.invokevirtual 157, 3) := by decide +kernel
theorem dX11_canNot_74 : decode cX11_canNot 74 = .ok (.invokevirtual 160, 3) := by decide +kernel
theorem dX11_canNot_77 : decode cX11_canNot 77 = .ok (.iinc 3 1, 3) := by decide +kernel
theorem dX11_canNot_80 : decode cX11_canNot 80 = .ok (.goto (-47), 3) := by decide +kernel
theorem dX11_canNot_83 : decode cX11_canNot 83 = .ok (.iload_n 2, 1) := by decide +kernel
theorem dX11_canNot_84 : decode cX11_canNot 84 = .ok (.ireturn, 1) := by decide +kernel
theorem dX11_eat_0 : decode cX11_eat 0 = .ok (.aload_n 0, 1) := by decide +kernel
theorem dX11_eat_1 : decode cX11_eat 1 = .ok (.iload_n 1, 1) := by decide +kernel
theorem dX11_eat_2 : decode cX11_eat 2 = .ok (.invokevirtual 144, 3) := by decide +kernel
theorem dX11_eat_5 : decode cX11_eat 5 = .ok (.ifCond .eq 16, 3) := by decide +kernel
theorem dX11_eat_8 : decode cX11_eat 8 = .ok (.aload_n 0, 1) := by decide +kernel
theorem dX11_eat_9 : decode cX11_eat 9 = .ok (.iload_n 2, 1) := by decide +kernel
theorem dX11_eat_10 : decode cX11_eat 10 = .ok (.invokevirtual 144, 3) := by decide +kernel
theorem dX11_eat_13 : decode cX11_eat 13 = .ok (.ifCond .eq 8, 3) := by decide +kernel
theorem dX11_eat_16 : decode cX11_eat 16 = .ok (.iload_n 1, 1) := by decide +kernel
theorem dX11_eat_17 : decode cX11_eat 17 = .ok (.iload_n 2, 1) := by decide +kernel
theorem dX11_eat_18 : decode cX11_eat 18 = .ok (.if_icmp .ne 10, 3) := by decide +kernel
theorem dX11_eat_21 : decode cX11_eat 21 = .ok (.aload_n 0, 1) := by decide +kernel
theorem dX11_eat_22 : decode cX11_eat 22 = .ok (.bipush (-2), 2) := by decide +kernel
theorem dX11_eat_24 : decode cX11_eat 24 = .ok (.invokevirtual 95, 3) := by decide +kernel
theorem dX11_eat_27 : decode cX11_eat 27 = .ok (.ireturn, 1) := by decide +kernel
theorem dX11_eat_28 : decode cX11_eat 28 = .ok (.iconst 0, 1) := by decide +kernel
theorem dX11_eat_29 : decode cX11_eat 29 = .ok (.istore_n 3, 1) := by decide +kernel
theorem dX11_eat_30 : decode cX11_eat 30 = .ok (.iconst 0, 1) := by decide +kernel
theorem dX11_eat_31 : decode cX11_eat 31 = .ok (.istore 4, 2) := by decide +kernel
theorem dX11_eat_33 : decode cX11_eat 33 = .ok (.iload 4, 2) := by decide +kernel
theorem dX11_eat_35 : decode cX11_eat 35 = .ok (.iconst 4, 1) := by decide +kernel
theorem dX11_eat_36 : decode cX11_eat 36 = .ok (.if_icmp .ge 33, 3) := by decide +kernel
theorem dX11_eat_39 : decode cX11_eat 39 = .ok (.aload_n 0, 1) := by decide +kernel
theorem dX11_eat_40 : decode cX11_eat 40 = .ok (.getfield 32, 3) := by decide +kernel
theorem dX11_eat_43 : decode cX11_eat 43 = .ok (.getfield 82, 3) := by decide +kernel
theorem dX11_eat_46 : decode cX11_eat 46 = .ok (.iload_n 1, 1) := by decide +kernel
theorem dX11_eat_47 : decode cX11_eat 47 = .ok (.iload_n 2, 1) := by decide +kernel
theorem dX11_eat_48 : decode cX11_eat 48 = .ok (.iload 4, 2) := by decide +kernel
theorem dX11_eat_50 : decode cX11_eat 50 = .ok (.invokevirtual 213, 3) := by decide +kernel
theorem dX11_eat_53 : decode cX11_eat 53 = .ok (.ifCond .eq 10, 3) := by decide +kernel
theorem dX11_eat_56 : decode cX11_eat 56 = .ok (.iload_n 3, 1) := by decide +kernel
theorem dX11_eat_57 : decode cX11_eat 57 = .ok (.iconst 1, 1) := by decide +kernel
theorem dX11_eat_58 : decode cX11_eat 58 = .ok (.iload 4, 2) := by decide +kernel
theorem dX11_eat_60 : decode cX11_eat 60 = .ok (.ishl, 1) := by decide +kernel
theorem dX11_eat_61 : decode cX11_eat 61 = .ok (.ior, 1) := by decide +kernel
theorem dX11_eat_62 : decode cX11_eat 62 = .ok (.istore_n 3, 1) := by decide +kernel
theorem dX11_eat_63 : decode cX11_eat 63 = .ok (.iinc 4 1, 3) := by decide +kernel
theorem dX11_eat_66 : decode cX11_eat 66 = .ok (.goto (-33), 3) := by decide +kernel
theorem dX11_eat_69 : decode cX11_eat 69 = .ok (.iload_n 3, 1) := by decide +kernel
theorem dX11_eat_70 : decode cX11_eat 70 = .ok (.ireturn, 1) := by decide +kernel
theorem dX11_seen_0 : decode cX11_seen 0 = .ok (.iload_n 1, 1) := by decide +kernel
theorem dX11_seen_1 : decode cX11_seen 1 = .ok (.iconst 0, 1) := by decide +kernel
theorem dX11_seen_2 : decode cX11_seen 2 = .ok (.bipush 20, 2) := by decide +kernel
theorem dX11_seen_4 : decode cX11_seen 4 = .ok (.invokestatic 116, 3) := by decide +kernel
theorem dX11_seen_7 : decode cX11_seen 7 = .ok (.ifCond .eq 10, 3) := by decide +kernel
theorem dX11_seen_10 : decode cX11_seen 10 = .ok (.iload_n 2, 1) := by decide +kernel
theorem dX11_seen_11 : decode cX11_seen 11 = .ok (.invokestatic 91, 3) := by decide +kernel
theorem dX11_seen_14 : decode cX11_seen 14 = .ok (.ifCond .ne 10, 3) := by decide +kernel
theorem dX11_seen_17 : decode cX11_seen 17 = .ok (.aload_n 0, 1) := by decide +kernel
theorem dX11_seen_18 : decode cX11_seen 18 = .ok (.bipush (-2), 2) := by decide +kernel
theorem dX11_seen_20 : decode cX11_seen 20 = .ok (.invokevirtual 95, 3) := by decide +kernel
theorem dX11_seen_23 : decode cX11_seen 23 = .ok (.ireturn, 1) := by decide +kernel
theorem dX11_seen_24 : decode cX11_seen 24 = .ok (.aload_n 0, 1) := by decide +kernel
theorem dX11_seen_25 : decode cX11_seen 25 = .ok (.getfield 32, 3) := by decide +kernel
theorem dX11_seen_28 : decode cX11_seen 28 = .ok (.getfield 216, 3) := by decide +kernel
theorem dX11_seen_31 : decode cX11_seen 31 = .ok (.bipush 6, 2) := by decide +kernel
theorem dX11_seen_33 : decode cX11_seen 33 = .ok (.if_icmp .lt 8, 3) := by decide +kernel
theorem dX11_seen_36 : decode cX11_seen 36 = .ok (.aload_n 0, 1) := by decide +kernel
theorem dX11_seen_37 : decode cX11_seen 37 = .ok (.invokevirtual 109, 3) := by decide +kernel
theorem dX11_seen_40 : decode cX11_seen 40 = .ok (.ireturn, 1) := by decide +kernel
theorem dX11_seen_41 : decode cX11_seen 41 = .ok (.aload_n 0, 1) := by decide +kernel
theorem dX11_seen_42 : decode cX11_seen 42 = .ok (.getfield 32, 3) := by decide +kernel
theorem dX11_seen_45 : decode cX11_seen 45 = .ok (.iload_n 1, 1) := by decide +kernel
theorem dX11_seen_46 : decode cX11_seen 46 = .ok (.iload_n 2, 1) := by decide +kernel
theorem dX11_seen_47 : decode cX11_seen 47 = .ok (.invokevirtual 219, 3) := by decide +kernel
theorem dX11_seen_50 : decode cX11_seen 50 = .ok (.aload_n 0, 1) := by decide +kernel
theorem dX11_seen_51 : decode cX11_seen 51 = .ok (.getfield 32, 3) := by decide +kernel
theorem dX11_seen_54 : decode cX11_seen 54 = .ok (.getfield 216, 3) := by decide +kernel
theorem dX11_seen_57 : decode cX11_seen 57 = .ok (.ireturn, 1) := by decide +kernel
theorem dX11_forget_0 : decode cX11_forget 0 = .ok (.aload_n 0, 1) := by decide +kernel
theorem dX11_forget_1 : decode cX11_forget 1 = .ok (.getfield 32, 3) := by decide +kernel
theorem dX11_forget_4 : decode cX11_forget 4 = .ok (.getfield 216, 3) := by decide +kernel
theorem dX11_forget_7 : decode cX11_forget 7 = .ok (.istore_n 1, 1) := by decide +kernel
theorem dX11_forget_8 : decode cX11_forget 8 = .ok (.aload_n 0, 1) := by decide +kernel
theorem dX11_forget_9 : decode cX11_forget 9 = .ok (.getfield 32, 3) := by decide +kernel
theorem dX11_forget_12 : decode cX11_forget 12 = .ok (.iconst 0, 1) := by decide +kernel
theorem dX11_forget_13 : decode cX11_forget 13 = .ok (.putfield 216, 3) := by decide +kernel
theorem dX11_forget_16 : decode cX11_forget 16 = .ok (.iload_n 1, 1) := by decide +kernel
theorem dX11_forget_17 : decode cX11_forget 17 = .ok (.ireturn, 1) := by decide +kernel
theorem dX11_nod_0 : decode cX11_nod 0 = .ok (.aload_n 0, 1) := by decide +kernel
theorem dX11_nod_1 : decode cX11_nod 1 = .ok (.iload_n 1, 1) := by decide +kernel
theorem dX11_nod_2 : decode cX11_nod 2 = .ok (.invokevirtual 144, 3) := by decide +kernel
theorem dX11_nod_5 : decode cX11_nod 5 = .ok (.ifCond .ne 10, 3) := by decide +kernel
theorem dX11_nod_8 : decode cX11_nod 8 = .ok (.aload_n 0, 1) := by decide +kernel
theorem dX11_nod_9 : decode cX11_nod 9 = .ok (.bipush (-2), 2) := by decide +kernel
theorem dX11_nod_11 : decode cX11_nod 11 = .ok (.invokevirtual 95, 3) := by decide +kernel
theorem dX11_nod_14 : decode cX11_nod 14 = .ok (.ireturn, 1) := by decide +kernel
theorem dX11_nod_15 : decode cX11_nod 15 = .ok (.aload_n 0, 1) := by decide +kernel
theorem dX11_nod_16 : decode cX11_nod 16 = .ok (.getfield 57, 3) := by decide +kernel
theorem dX11_nod_19 : decode cX11_nod 19 = .ok (.aload_n 0, 1) := by decide +kernel
theorem dX11_nod_20 : decode cX11_nod 20 = .ok (.getfield 32, 3) := by decide +kernel
theorem dX11_nod_23 : decode cX11_nod 23 = .ok (.getfield 82, 3) := by decide +kernel
theorem dX11_nod_26 : decode cX11_nod 26 = .ok (.bipush 20, 2) := by decide +kernel
theorem dX11_nod_28 : decode cX11_nod 28 = .ok (.invokevirtual 187, 3) := by decide +kernel
theorem dX11_nod_31 : decode cX11_nod 31 = .ok (.aload_n 0, 1) := by decide +kernel
theorem dX11_nod_32 : decode cX11_nod 32 = .ok (.iload_n 1, 1) := by decide +kernel
theorem dX11_nod_33 : decode cX11_nod 33 = .ok (.invokevirtual 223, 3) := by decide +kernel
theorem dX11_nod_36 : decode cX11_nod 36 = .ok (.ireturn, 1) := by decide +kernel
theorem dX11_is_0 : decode cX11_is 0 = .ok (.aload_n 0, 1) := by decide +kernel
theorem dX11_is_1 : decode cX11_is 1 = .ok (.iload_n 1, 1) := by decide +kernel
theorem dX11_is_2 : decode cX11_is 2 = .ok (.invokevirtual 144, 3) := by decide +kernel
theorem dX11_is_5 : decode cX11_is 5 = .ok (.ifCond .ne 10, 3) := by decide +kernel
theorem dX11_is_8 : decode cX11_is 8 = .ok (.aload_n 0, 1) := by decide +kernel
theorem dX11_is_9 : decode cX11_is 9 = .ok (.bipush (-2), 2) := by decide +kernel
theorem dX11_is_11 : decode cX11_is 11 = .ok (.invokevirtual 95, 3) := by decide +kernel
theorem dX11_is_14 : decode cX11_is 14 = .ok (.ireturn, 1) := by decide +kernel
theorem dX11_is_15 : decode cX11_is 15 = .ok (.iconst 0, 1) := by decide +kernel
theorem dX11_is_16 : decode cX11_is 16 = .ok (.istore_n 2, 1) := by decide +kernel
theorem dX11_is_17 : decode cX11_is 17 = .ok (.iconst 0, 1) := by decide +kernel
theorem dX11_is_18 : decode cX11_is 18 = .ok (.istore_n 3, 1) := by decide +kernel
theorem dX11_is_19 : decode cX11_is 19 = .ok (.iload_n 3, 1) := by decide +kernel
theorem dX11_is_20 : decode cX11_is 20 = .ok (.bipush 6, 2) := by decide +kernel
theorem dX11_is_22 : decode cX11_is 22 = .ok (.if_icmp .ge 61, 3) := by decide +kernel
theorem dX11_is_25 : decode cX11_is 25 = .ok (.aload_n 0, 1) := by decide +kernel
theorem dX11_is_26 : decode cX11_is 26 = .ok (.getfield 50, 3) := by decide +kernel
theorem dX11_is_29 : decode cX11_is 29 = .ok (.aload_n 0, 1) := by decide +kernel
theorem dX11_is_30 : decode cX11_is 30 = .ok (.getfield 32, 3) := by decide +kernel
theorem dX11_is_33 : decode cX11_is 33 = .ok (.getfield 82, 3) := by decide +kernel
theorem dX11_is_36 : decode cX11_is 36 = .ok (.invokevirtual 207, 3) := by decide +kernel
theorem dX11_is_39 : decode cX11_is 39 = .ok (.aload_n 0, 1) := by decide +kernel
theorem dX11_is_40 : decode cX11_is 40 = .ok (.getfield 50, 3) := by decide +kernel
theorem dX11_is_43 : decode cX11_is 43 = .ok (.getfield 170, 3) := by decide +kernel
theorem dX11_is_46 : decode cX11_is 46 = .ok (.iload_n 1, 1) := by decide +kernel
theorem dX11_is_47 : decode cX11_is 47 = .ok (.iload_n 3, 1) := by decide +kernel
theorem dX11_is_48 : decode cX11_is 48 = .ok (.iastore, 1) := by decide +kernel
theorem dX11_is_49 : decode cX11_is 49 = .ok (.aload_n 0, 1) := by decide +kernel
theorem dX11_is_50 : decode cX11_is 50 = .ok (.getfield 57, 3) := by decide +kernel
theorem dX11_is_53 : decode cX11_is 53 = .ok (.aload_n 0, 1) := by decide +kernel
theorem dX11_is_54 : decode cX11_is 54 = .ok (.getfield 50, 3) := by decide +kernel
theorem dX11_is_57 : decode cX11_is 57 = .ok (.bipush 20, 2) := by decide +kernel
theorem dX11_is_59 : decode cX11_is 59 = .ok (.invokevirtual 187, 3) := by decide +kernel
theorem dX11_is_62 : decode cX11_is 62 = .ok (.aload_n 0, 1) := by decide +kernel
theorem dX11_is_63 : decode cX11_is 63 = .ok (.iconst 0, 1) := by decide +kernel
theorem dX11_is_64 : decode cX11_is 64 = .ok (.iconst 0, 1) := by decide +kernel
theorem dX11_is_65 : decode cX11_is 65 = .ok (.invokevirtual 226, 3) := by decide +kernel
theorem dX11_is_68 : decode cX11_is 68 = .ok (.ifCond .eq 9, 3) := by decide +kernel
theorem dX11_is_71 : decode cX11_is 71 = .ok (.iload_n 2, 1) := by decide +kernel
theorem dX11_is_72 : decode cX11_is 72 = .ok (.iconst 1, 1) := by decide +kernel
theorem dX11_is_73 : decode cX11_is 73 = .ok (.iload_n 3, 1) := by decide +kernel
theorem dX11_is_74 : decode cX11_is 74 = .ok (.ishl, 1) := by decide +kernel
theorem dX11_is_75 : decode cX11_is 75 = .ok (.ior, 1) := by decide +kernel
theorem dX11_is_76 : decode cX11_is 76 = .ok (.istore_n 2, 1) := by decide +kernel
theorem dX11_is_77 : decode cX11_is 77 = .ok (.iinc 3 1, 3) := by decide +kernel
theorem dX11_is_80 : decode cX11_is 80 = .ok (.goto (-61), 3) := by decide +kernel
theorem dX11_is_83 : decode cX11_is 83 = .ok (.iload_n 2, 1) := by decide +kernel
theorem dX11_is_84 : decode cX11_is 84 = .ok (.ireturn, 1) := by decide +kernel
theorem dX11_look_0 : decode cX11_look 0 = .ok (.aload_n 0, 1) := by decide +kernel
theorem dX11_look_1 : decode cX11_look 1 = .ok (.iload_n 1, 1) := by decide +kernel
theorem dX11_look_2 : decode cX11_look 2 = .ok (.invokevirtual 144, 3) := by decide +kernel
theorem dX11_look_5 : decode cX11_look 5 = .ok (.ifCond .ne 10, 3) := by decide +kernel
theorem dX11_look_8 : decode cX11_look 8 = .ok (.aload_n 0, 1) := by decide +kernel
theorem dX11_look_9 : decode cX11_look 9 = .ok (.bipush (-2), 2) := by decide +kernel
theorem dX11_look_11 : decode cX11_look 11 = .ok (.invokevirtual 95, 3) := by decide +kernel
theorem dX11_look_14 : decode cX11_look 14 = .ok (.ireturn, 1) := by decide +kernel
theorem dX11_look_15 : decode cX11_look 15 = .ok (.aload_n 0, 1) := by decide +kernel
theorem dX11_look_16 : decode cX11_look 16 = .ok (.getfield 57, 3) := by decide +kernel
theorem dX11_look_19 : decode cX11_look 19 = .ok (.aload_n 0, 1) := by decide +kernel
theorem dX11_look_20 : decode cX11_look 20 = .ok (.getfield 32, 3) := by decide +kernel
theorem dX11_look_23 : decode cX11_look 23 = .ok (.getfield 82, 3) := by decide +kernel
theorem dX11_look_26 : decode cX11_look 26 = .ok (.bipush 20, 2) := by decide +kernel
theorem dX11_look_28 : decode cX11_look 28 = .ok (.invokevirtual 187, 3) := by decide +kernel
theorem dX11_look_31 : decode cX11_look 31 = .ok (.aload_n 0, 1) := by decide +kernel
theorem dX11_look_32 : decode cX11_look 32 = .ok (.iload_n 1, 1) := by decide +kernel
theorem dX11_look_33 : decode cX11_look 33 = .ok (.invokevirtual 223, 3) := by decide +kernel
theorem dX11_look_36 : decode cX11_look 36 = .ok (.invokestatic 229, 3) := by decide +kernel
theorem dX11_look_39 : decode cX11_look 39 = .ok (.istore_n 2, 1) := by decide +kernel
theorem dX11_look_40 : decode cX11_look 40 = .ok (.iload_n 2, 1) := by decide +kernel
theorem dX11_look_41 : decode cX11_look 41 = .ok (.ifCond .ne 5, 3) := by decide +kernel
theorem dX11_look_44 : decode cX11_look 44 = .ok (.iconst (-1), 1) := by decide +kernel
theorem dX11_look_45 : decode cX11_look 45 = .ok (.ireturn, 1) := by decide +kernel
theorem dX11_look_46 : decode cX11_look 46 = .ok (.iconst 0, 1) := by decide +kernel
theorem dX11_look_47 : decode cX11_look 47 = .ok (.istore_n 3, 1) := by decide +kernel
theorem dX11_look_48 : decode cX11_look 48 = .ok (.iload_n 2, 1) := by decide +kernel
theorem dX11_look_49 : decode cX11_look 49 = .ok (.istore 4, 2) := by decide +kernel
theorem dX11_look_51 : decode cX11_look 51 = .ok (.iconst 1, 1) := by decide +kernel
theorem dX11_look_52 : decode cX11_look 52 = .ok (.istore 5, 2) := by decide +kernel
theorem dX11_look_54 : decode cX11_look 54 = .ok (.iload 5, 2) := by decide +kernel
theorem dX11_look_56 : decode cX11_look 56 = .ok (.bipush 20, 2) := by decide +kernel
theorem dX11_look_58 : decode cX11_look 58 = .ok (.if_icmp .gt 43, 3) := by decide +kernel
theorem dX11_look_61 : decode cX11_look 61 = .ok (.aload_n 0, 1) := by decide +kernel
theorem dX11_look_62 : decode cX11_look 62 = .ok (.getfield 57, 3) := by decide +kernel
theorem dX11_look_65 : decode cX11_look 65 = .ok (.iload_n 1, 1) := by decide +kernel
theorem dX11_look_66 : decode cX11_look 66 = .ok (.iload 5, 2) := by decide +kernel
theorem dX11_look_68 : decode cX11_look 68 = .ok (.invokevirtual 234, 3) := by decide +kernel
theorem dX11_look_71 : decode cX11_look 71 = .ok (.ifCond .le 7, 3) := by decide +kernel
theorem dX11_look_74 : decode cX11_look 74 = .ok (.iconst 1, 1) := by decide +kernel
theorem dX11_look_75 : decode cX11_look 75 = .ok (.goto 4, 3) := by decide +kernel
theorem dX11_look_78 : decode cX11_look 78 = .ok (.iload_n 2, 1) := by decide +kernel
theorem dX11_look_79 : decode cX11_look 79 = .ok (.istore 6, 2) := by decide +kernel
theorem dX11_look_81 : decode cX11_look 81 = .ok (.iload 6, 2) := by decide +kernel
theorem dX11_look_83 : decode cX11_look 83 = .ok (.iload 4, 2) := by decide +kernel
theorem dX11_look_85 : decode cX11_look 85 = .ok (.if_icmp .ge 10, 3) := by decide +kernel
theorem dX11_look_88 : decode cX11_look 88 = .ok (.iload 6, 2) := by decide +kernel
theorem dX11_look_90 : decode cX11_look 90 = .ok (.istore 4, 2) := by decide +kernel
theorem dX11_look_92 : decode cX11_look 92 = .ok (.iload 5, 2) := by decide +kernel
theorem dX11_look_94 : decode cX11_look 94 = .ok (.istore_n 3, 1) := by decide +kernel
theorem dX11_look_95 : decode cX11_look 95 = .ok (.iinc 5 1, 3) := by decide +kernel
theorem dX11_look_98 : decode cX11_look 98 = .ok (.goto (-44), 3) := by decide +kernel
theorem dX11_look_101 : decode cX11_look 101 = .ok (.iload_n 3, 1) := by decide +kernel
theorem dX11_look_102 : decode cX11_look 102 = .ok (.ireturn, 1) := by decide +kernel
theorem dX11_pulled_0 : decode cX11_pulled 0 = .ok (.iload_n 1, 1) := by decide +kernel
theorem dX11_pulled_1 : decode cX11_pulled 1 = .ok (.bipush (-9), 2) := by decide +kernel
theorem dX11_pulled_3 : decode cX11_pulled 3 = .ok (.bipush 9, 2) := by decide +kernel
theorem dX11_pulled_5 : decode cX11_pulled 5 = .ok (.invokestatic 116, 3) := by decide +kernel
theorem dX11_pulled_8 : decode cX11_pulled 8 = .ok (.ifCond .ne 10, 3) := by decide +kernel
theorem dX11_pulled_11 : decode cX11_pulled 11 = .ok (.aload_n 0, 1) := by decide +kernel
theorem dX11_pulled_12 : decode cX11_pulled 12 = .ok (.bipush (-2), 2) := by decide +kernel
theorem dX11_pulled_14 : decode cX11_pulled 14 = .ok (.invokevirtual 95, 3) := by decide +kernel
theorem dX11_pulled_17 : decode cX11_pulled 17 = .ok (.ireturn, 1) := by decide +kernel
theorem dX11_pulled_18 : decode cX11_pulled 18 = .ok (.aload_n 0, 1) := by decide +kernel
theorem dX11_pulled_19 : decode cX11_pulled 19 = .ok (.getfield 57, 3) := by decide +kernel
theorem dX11_pulled_22 : decode cX11_pulled 22 = .ok (.aload_n 0, 1) := by decide +kernel
theorem dX11_pulled_23 : decode cX11_pulled 23 = .ok (.getfield 32, 3) := by decide +kernel
theorem dX11_pulled_26 : decode cX11_pulled 26 = .ok (.getfield 82, 3) := by decide +kernel
theorem dX11_pulled_29 : decode cX11_pulled 29 = .ok (.bipush 20, 2) := by decide +kernel
theorem dX11_pulled_31 : decode cX11_pulled 31 = .ok (.invokevirtual 187, 3) := by decide +kernel
theorem dX11_pulled_34 : decode cX11_pulled 34 = .ok (.iconst 0, 1) := by decide +kernel
theorem dX11_pulled_35 : decode cX11_pulled 35 = .ok (.istore_n 2, 1) := by decide +kernel
theorem dX11_pulled_36 : decode cX11_pulled 36 = .ok (.iconst 0, 1) := by decide +kernel
theorem dX11_pulled_37 : decode cX11_pulled 37 = .ok (.istore_n 3, 1) := by decide +kernel
theorem dX11_pulled_38 : decode cX11_pulled 38 = .ok (.iload_n 3, 1) := by decide +kernel
theorem dX11_pulled_39 : decode cX11_pulled 39 = .ok (.bipush 20, 2) := by decide +kernel
theorem dX11_pulled_41 : decode cX11_pulled 41 = .ok (.if_icmp .ge 24, 3) := by decide +kernel
theorem dX11_pulled_44 : decode cX11_pulled 44 = .ok (.aload_n 0, 1) := by decide +kernel
theorem dX11_pulled_45 : decode cX11_pulled 45 = .ok (.iload_n 3, 1) := by decide +kernel
theorem dX11_pulled_46 : decode cX11_pulled 46 = .ok (.iload_n 1, 1) := by decide +kernel
theorem dX11_pulled_47 : decode cX11_pulled 47 = .ok (.invokevirtual 226, 3) := by decide +kernel
theorem dX11_pulled_50 : decode cX11_pulled 50 = .ok (.ifCond .eq 9, 3) := by decide +kernel
theorem dX11_pulled_53 : decode cX11_pulled 53 = .ok (.iload_n 2, 1) := by decide +kernel
theorem dX11_pulled_54 : decode cX11_pulled 54 = .ok (.iconst 1, 1) := by decide +kernel
theorem dX11_pulled_55 : decode cX11_pulled 55 = .ok (.iload_n 3, 1) := by decide +kernel
theorem dX11_pulled_56 : decode cX11_pulled 56 = .ok (.ishl, 1) := by decide +kernel
theorem dX11_pulled_57 : decode cX11_pulled 57 = .ok (.ior, 1) := by decide +kernel
theorem dX11_pulled_58 : decode cX11_pulled 58 = .ok (.istore_n 2, 1) := by decide +kernel
theorem dX11_pulled_59 : decode cX11_pulled 59 = .ok (.iinc 3 1, 3) := by decide +kernel
theorem dX11_pulled_62 : decode cX11_pulled 62 = .ok (.goto (-24), 3) := by decide +kernel
theorem dX11_pulled_65 : decode cX11_pulled 65 = .ok (.iload_n 2, 1) := by decide +kernel
theorem dX11_pulled_66 : decode cX11_pulled 66 = .ok (.ireturn, 1) := by decide +kernel
theorem dX11_meet_0 : decode cX11_meet 0 = .ok (.iload_n 1, 1) := by decide +kernel
theorem dX11_meet_1 : decode cX11_meet 1 = .ok (.invokestatic 91, 3) := by decide +kernel
theorem dX11_meet_4 : decode cX11_meet 4 = .ok (.ifCond .eq 19, 3) := by decide +kernel
theorem dX11_meet_7 : decode cX11_meet 7 = .ok (.iload_n 2, 1) := by decide +kernel
theorem dX11_meet_8 : decode cX11_meet 8 = .ok (.invokestatic 120, 3) := by decide +kernel
theorem dX11_meet_11 : decode cX11_meet 11 = .ok (.ifCond .eq 12, 3) := by decide +kernel
theorem dX11_meet_14 : decode cX11_meet 14 = .ok (.iload_n 3, 1) := by decide +kernel
theorem dX11_meet_15 : decode cX11_meet 15 = .ok (.iconst 0, 1) := by decide +kernel
theorem dX11_meet_16 : decode cX11_meet 16 = .ok (.iconst 1, 1) := by decide +kernel
theorem dX11_meet_17 : decode cX11_meet 17 = .ok (.invokestatic 116, 3) := by decide +kernel
theorem dX11_meet_20 : decode cX11_meet 20 = .ok (.ifCond .ne 10, 3) := by decide +kernel
theorem dX11_meet_23 : decode cX11_meet 23 = .ok (.aload_n 0, 1) := by decide +kernel
theorem dX11_meet_24 : decode cX11_meet 24 = .ok (.bipush (-2), 2) := by decide +kernel
theorem dX11_meet_26 : decode cX11_meet 26 = .ok (.invokevirtual 95, 3) := by decide +kernel
theorem dX11_meet_29 : decode cX11_meet 29 = .ok (.ireturn, 1) := by decide +kernel
theorem dX11_meet_30 : decode cX11_meet 30 = .ok (.aload_n 0, 1) := by decide +kernel
theorem dX11_meet_31 : decode cX11_meet 31 = .ok (.getfield 57, 3) := by decide +kernel
theorem dX11_meet_34 : decode cX11_meet 34 = .ok (.aload_n 0, 1) := by decide +kernel
theorem dX11_meet_35 : decode cX11_meet 35 = .ok (.getfield 32, 3) := by decide +kernel
theorem dX11_meet_38 : decode cX11_meet 38 = .ok (.getfield 82, 3) := by decide +kernel
theorem dX11_meet_41 : decode cX11_meet 41 = .ok (.bipush 60, 2) := by decide +kernel
theorem dX11_meet_43 : decode cX11_meet 43 = .ok (.invokevirtual 187, 3) := by decide +kernel
theorem dX11_meet_46 : decode cX11_meet 46 = .ok (.aload_n 0, 1) := by decide +kernel
theorem dX11_meet_47 : decode cX11_meet 47 = .ok (.getfield 57, 3) := by decide +kernel
theorem dX11_meet_50 : decode cX11_meet 50 = .ok (.getfield 191, 3) := by decide +kernel
theorem dX11_meet_53 : decode cX11_meet 53 = .ok (.iconst 0, 1) := by decide +kernel
theorem dX11_meet_54 : decode cX11_meet 54 = .ok (.iaload, 1) := by decide +kernel
theorem dX11_meet_55 : decode cX11_meet 55 = .ok (.iload_n 1, 1) := by decide +kernel
theorem dX11_meet_56 : decode cX11_meet 56 = .ok (.invokestatic 238, 3) := by decide +kernel
theorem dX11_meet_59 : decode cX11_meet 59 = .ok (.istore 4, 2) := by decide +kernel
theorem dX11_meet_61 : decode cX11_meet 61 = .ok (.iconst 0, 1) := by decide +kernel
theorem dX11_meet_62 : decode cX11_meet 62 = .ok (.istore 5, 2) := by decide +kernel
theorem dX11_meet_64 : decode cX11_meet 64 = .ok (.iload 5, 2) := by decide +kernel
theorem dX11_meet_66 : decode cX11_meet 66 = .ok (.bipush 60, 2) := by decide +kernel
theorem dX11_meet_68 : decode cX11_meet 68 = .ok (.if_icmp .gt 50, 3) := by decide +kernel
theorem dX11_meet_71 : decode cX11_meet 71 = .ok (.aload_n 0, 1) := by decide +kernel
theorem dX11_meet_72 : decode cX11_meet 72 = .ok (.getfield 57, 3) := by decide +kernel
theorem dX11_meet_75 : decode cX11_meet 75 = .ok (.getfield 191, 3) := by decide +kernel
theorem dX11_meet_78 : decode cX11_meet 78 = .ok (.iload 5, 2) := by decide +kernel
theorem dX11_meet_80 : decode cX11_meet 80 = .ok (.iaload, 1) := by decide +kernel
theorem dX11_meet_81 : decode cX11_meet 81 = .ok (.iload_n 1, 1) := by decide +kernel
theorem dX11_meet_82 : decode cX11_meet 82 = .ok (.iload_n 2, 1) := by decide +kernel
theorem dX11_meet_83 : decode cX11_meet 83 = .ok (.iload 5, 2) := by decide +kernel
theorem dX11_meet_85 : decode cX11_meet 85 = .ok (.imul, 1) := by decide +kernel
theorem dX11_meet_86 : decode cX11_meet 86 = .ok (.iadd, 1) := by decide +kernel
theorem dX11_meet_87 : decode cX11_meet 87 = .ok (.invokestatic 238, 3) := by decide +kernel
theorem dX11_meet_90 : decode cX11_meet 90 = .ok (.istore 6, 2) := by decide +kernel
theorem dX11_meet_92 : decode cX11_meet 92 = .ok (.iload 6, 2) := by decide +kernel
theorem dX11_meet_94 : decode cX11_meet 94 = .ok (.ifCond .eq 15, 3) := by decide +kernel
theorem dX11_meet_97 : decode cX11_meet 97 = .ok (.iload_n 3, 1) := by decide +kernel
theorem dX11_meet_98 : decode cX11_meet 98 = .ok (.iconst 1, 1) := by decide +kernel
theorem dX11_meet_99 : decode cX11_meet 99 = .ok (.if_icmp .ne 13, 3) := by decide +kernel
theorem dX11_meet_102 : decode cX11_meet 102 = .ok (.iload 6, 2) := by decide +kernel
theorem dX11_meet_104 : decode cX11_meet 104 = .ok (.iload 4, 2) := by decide +kernel
theorem dX11_meet_106 : decode cX11_meet 106 = .ok (.if_icmp .eq 6, 3) := by decide +kernel
theorem dX11_meet_109 : decode cX11_meet 109 = .ok (.iload 5, 2) := by decide +kernel
theorem dX11_meet_111 : decode cX11_meet 111 = .ok (.ireturn, 1) := by decide +kernel
theorem dX11_meet_112 : decode cX11_meet 112 = .ok (.iinc 5 1, 3) := by decide +kernel
theorem dX11_meet_115 : decode cX11_meet 115 = .ok (.goto (-51), 3) := by decide +kernel
theorem dX11_meet_118 : decode cX11_meet 118 = .ok (.iconst (-1), 1) := by decide +kernel
theorem dX11_meet_119 : decode cX11_meet 119 = .ok (.ireturn, 1) := by decide +kernel
theorem dX11_odds_0 : decode cX11_odds 0 = .ok (.aload_n 0, 1) := by decide +kernel
theorem dX11_odds_1 : decode cX11_odds 1 = .ok (.iload_n 1, 1) := by decide +kernel
theorem dX11_odds_2 : decode cX11_odds 2 = .ok (.invokevirtual 144, 3) := by decide +kernel
theorem dX11_odds_5 : decode cX11_odds 5 = .ok (.ifCond .eq 13, 3) := by decide +kernel
theorem dX11_odds_8 : decode cX11_odds 8 = .ok (.iload_n 2, 1) := by decide +kernel
theorem dX11_odds_9 : decode cX11_odds 9 = .ok (.iconst 0, 1) := by decide +kernel
theorem dX11_odds_10 : decode cX11_odds 10 = .ok (.bipush 10, 2) := by decide +kernel
theorem dX11_odds_12 : decode cX11_odds 12 = .ok (.invokestatic 116, 3) := by decide +kernel
theorem dX11_odds_15 : decode cX11_odds 15 = .ok (.ifCond .ne 10, 3) := by decide +kernel
theorem dX11_odds_18 : decode cX11_odds 18 = .ok (.aload_n 0, 1) := by decide +kernel
theorem dX11_odds_19 : decode cX11_odds 19 = .ok (.bipush (-2), 2) := by decide +kernel
theorem dX11_odds_21 : decode cX11_odds 21 = .ok (.invokevirtual 95, 3) := by decide +kernel
theorem dX11_odds_24 : decode cX11_odds 24 = .ok (.ireturn, 1) := by decide +kernel
theorem dX11_odds_25 : decode cX11_odds 25 = .ok (.iconst 1, 1) := by decide +kernel
theorem dX11_odds_26 : decode cX11_odds 26 = .ok (.istore_n 3, 1) := by decide +kernel
theorem dX11_odds_27 : decode cX11_odds 27 = .ok (.iconst 0, 1) := by decide +kernel
theorem dX11_odds_28 : decode cX11_odds 28 = .ok (.istore 4, 2) := by decide +kernel
theorem dX11_odds_30 : decode cX11_odds 30 = .ok (.iload 4, 2) := by decide +kernel
theorem dX11_odds_32 : decode cX11_odds 32 = .ok (.aload_n 0, 1) := by decide +kernel
theorem dX11_odds_33 : decode cX11_odds 33 = .ok (.getfield 32, 3) := by decide +kernel
theorem dX11_odds_36 : decode cX11_odds 36 = .ok (.getfield 82, 3) := by decide +kernel
theorem dX11_odds_39 : decode cX11_odds 39 = .ok (.getfield 85, 3) := by decide +kernel
theorem dX11_odds_42 : decode cX11_odds 42 = .ok (.if_icmp .ge 14, 3) := by decide +kernel
theorem dX11_odds_45 : decode cX11_odds 45 = .ok (.iload_n 3, 1) := by decide +kernel
theorem dX11_odds_46 : decode cX11_odds 46 = .ok (.bipush 10, 2) := by decide +kernel
theorem dX11_odds_48 : decode cX11_odds 48 = .ok (.imul, 1) := by decide +kernel
theorem dX11_odds_49 : decode cX11_odds 49 = .ok (.istore_n 3, 1) := by decide +kernel
theorem dX11_odds_50 : decode cX11_odds 50 = .ok (.iinc 4 1, 3) := by decide +kernel
theorem dX11_odds_53 : decode cX11_odds 53 = .ok (.goto (-23), 3) := by decide +kernel
theorem dX11_odds_56 : decode cX11_odds 56 = .ok (.aload_n 0, 1) := by decide +kernel
theorem dX11_odds_57 : decode cX11_odds 57 = .ok (.aload_n 0, 1) := by decide +kernel
theorem dX11_odds_58 : decode cX11_odds 58 = .ok (.getfield 32, 3) := by decide +kernel
theorem dX11_odds_61 : decode cX11_odds 61 = .ok (.getfield 82, 3) := by decide +kernel
theorem dX11_odds_64 : decode cX11_odds 64 = .ok (.iload_n 1, 1) := by decide +kernel
theorem dX11_odds_65 : decode cX11_odds 65 = .ok (.iload_n 2, 1) := by decide +kernel
theorem dX11_odds_66 : decode cX11_odds 66 = .ok (.invokevirtual 241, 3) := by decide +kernel
theorem dX11_odds_69 : decode cX11_odds 69 = .ok (.iload_n 3, 1) := by decide +kernel
theorem dX11_odds_70 : decode cX11_odds 70 = .ok (.invokevirtual 244, 3) := by decide +kernel
theorem dX11_odds_73 : decode cX11_odds 73 = .ok (.iconst 1, 1) := by decide +kernel
theorem dX11_odds_74 : decode cX11_odds 74 = .ok (.ireturn, 1) := by decide +kernel
theorem dX11_voyages_0 : decode cX11_voyages 0 = .ok (.iload_n 1, 1) := by decide +kernel
theorem dX11_voyages_1 : decode cX11_voyages 1 = .ok (.iconst 0, 1) := by decide +kernel
theorem dX11_voyages_2 : decode cX11_voyages 2 = .ok (.ldc 247, 2) := by decide +kernel
theorem dX11_voyages_4 : decode cX11_voyages 4 = .ok (.invokestatic 116, 3) := by decide +kernel
theorem dX11_voyages_7 : decode cX11_voyages 7 = .ok (.ifCond .eq 13, 3) := by decide +kernel
theorem dX11_voyages_10 : decode cX11_voyages 10 = .ok (.iload_n 2, 1) := by decide +kernel
theorem dX11_voyages_11 : decode cX11_voyages 11 = .ok (.iconst 0, 1) := by decide +kernel
theorem dX11_voyages_12 : decode cX11_voyages 12 = .ok (.bipush 60, 2) := by decide +kernel
theorem dX11_voyages_14 : decode cX11_voyages 14 = .ok (.invokestatic 116, 3) := by decide +kernel
theorem dX11_voyages_17 : decode cX11_voyages 17 = .ok (.ifCond .ne 11, 3) := by decide +kernel
theorem dX11_voyages_20 : decode cX11_voyages 20 = .ok (.aload_n 0, 1) := by decide +kernel
theorem dX11_voyages_21 : decode cX11_voyages 21 = .ok (.sipush (-10000), 3) := by decide +kernel
theorem dX11_voyages_24 : decode cX11_voyages 24 = .ok (.invokevirtual 95, 3) := by decide +kernel
theorem dX11_voyages_27 : decode cX11_voyages 27 = .ok (.ireturn, 1) := by decide +kernel
theorem dX11_voyages_28 : decode cX11_voyages 28 = .ok (.aload_n 0, 1) := by decide +kernel
theorem dX11_voyages_29 : decode cX11_voyages 29 = .ok (.getfield 50, 3) := by decide +kernel
theorem dX11_voyages_32 : decode cX11_voyages 32 = .ok (.aload_n 0, 1) := by decide +kernel
theorem dX11_voyages_33 : decode cX11_voyages 33 = .ok (.getfield 32, 3) := by decide +kernel
theorem dX11_voyages_36 : decode cX11_voyages 36 = .ok (.getfield 82, 3) := by decide +kernel
theorem dX11_voyages_39 : decode cX11_voyages 39 = .ok (.invokevirtual 207, 3) := by decide +kernel
theorem dX11_voyages_42 : decode cX11_voyages 42 = .ok (.iload_n 1, 1) := by decide +kernel
theorem dX11_voyages_43 : decode cX11_voyages 43 = .ok (.i2l, 1) := by decide +kernel
theorem dX11_voyages_44 : decode cX11_voyages 44 = .ok (.lstore_n 3, 1) := by decide +kernel
theorem dX11_voyages_45 : decode cX11_voyages 45 = .ok (.iconst 0, 1) := by decide +kernel
theorem dX11_voyages_46 : decode cX11_voyages 46 = .ok (.istore 5, 2) := by decide +kernel
theorem dX11_voyages_48 : decode cX11_voyages 48 = .ok (.iload 5, 2) := by decide +kernel
theorem dX11_voyages_50 : decode cX11_voyages 50 = .ok (.iload_n 2, 1) := by decide +kernel
theorem dX11_voyages_51 : decode cX11_voyages 51 = .ok (.if_icmp .ge 53, 3) := by decide +kernel
theorem dX11_voyages_54 : decode cX11_voyages 54 = .ok (.lload_n 3, 1) := by decide +kernel
theorem dX11_voyages_55 : decode cX11_voyages 55 = .ok (.ldc2_w 248, 3) := by decide +kernel
theorem dX11_voyages_58 : decode cX11_voyages 58 = .ok (.lmul, 1) := by decide +kernel
theorem dX11_voyages_59 : decode cX11_voyages 59 = .ok (.ldc2_w 250, 3) := by decide +kernel
theorem dX11_voyages_62 : decode cX11_voyages 62 = .ok (.ladd, 1) := by decide +kernel
theorem dX11_voyages_63 : decode cX11_voyages 63 = .ok (.ldc2_w 252, 3) := by decide +kernel
theorem dX11_voyages_66 : decode cX11_voyages 66 = .ok (.lrem, 1) := by decide +kernel
theorem dX11_voyages_67 : decode cX11_voyages 67 = .ok (.lstore_n 3, 1) := by decide +kernel
theorem dX11_voyages_68 : decode cX11_voyages 68 = .ok (.lload_n 3, 1) := by decide +kernel
theorem dX11_voyages_69 : decode cX11_voyages 69 = .ok (.ldc2_w 254, 3) := by decide +kernel
theorem dX11_voyages_72 : decode cX11_voyages 72 = .ok (.ldiv, 1) := by decide +kernel
theorem dX11_voyages_73 : decode cX11_voyages 73 = .ok (.ldc2_w 256, 3) := by decide +kernel
theorem dX11_voyages_76 : decode cX11_voyages 76 = .ok (.lrem, 1) := by decide +kernel
theorem dX11_voyages_77 : decode cX11_voyages 77 = .ok (.l2i, 1) := by decide +kernel
theorem dX11_voyages_78 : decode cX11_voyages 78 = .ok (.istore 6, 2) := by decide +kernel
theorem dX11_voyages_80 : decode cX11_voyages 80 = .ok (.aload_n 0, 1) := by decide +kernel
theorem dX11_voyages_81 : decode cX11_voyages 81 = .ok (.getfield 50, 3) := by decide +kernel
theorem dX11_voyages_84 : decode cX11_voyages 84 = .ok (.aload_n 0, 1) := by decide +kernel
theorem dX11_voyages_85 : decode cX11_voyages 85 = .ok (.getfield 50, 3) := by decide +kernel
theorem dX11_voyages_88 : decode cX11_voyages 88 = .ok (.iconst 1, 1) := by decide +kernel
theorem dX11_voyages_89 : decode cX11_voyages 89 = .ok (.iload 6, 2) := by decide +kernel
theorem dX11_voyages_91 : decode cX11_voyages 91 = .ok (.ishl, 1) := by decide +kernel
theorem dX11_voyages_92 : decode cX11_voyages 92 = .ok (.invokevirtual 157, 3) := by decide +kernel
theorem dX11_voyages_95 : decode cX11_voyages 95 = .ok (.invokevirtual 160, 3) := by decide +kernel
theorem dX11_voyages_98 : decode cX11_voyages 98 = .ok (.iinc 5 1, 3) := by decide +kernel
theorem dX11_voyages_101 : decode cX11_voyages 101 = .ok (.goto (-53), 3) := by decide +kernel
theorem dX11_voyages_104 : decode cX11_voyages 104 = .ok (.aload_n 0, 1) := by decide +kernel
theorem dX11_voyages_105 : decode cX11_voyages 105 = .ok (.getfield 50, 3) := by decide +kernel
theorem dX11_voyages_108 : decode cX11_voyages 108 = .ok (.getfield 184, 3) := by decide +kernel
theorem dX11_voyages_111 : decode cX11_voyages 111 = .ok (.ireturn, 1) := by decide +kernel
theorem dX11_part_0 : decode cX11_part 0 = .ok (.iload_n 1, 1) := by decide +kernel
theorem dX11_part_1 : decode cX11_part 1 = .ok (.lookupswitch 39 #[(0, 27), (1, 33)], 27) := by decide +kernel
theorem dX11_part_28 : decode cX11_part 28 = .ok (.aload_n 0, 1) := by decide +kernel
theorem dX11_part_29 : decode cX11_part 29 = .ok (.getfield 75, 3) := by decide +kernel
theorem dX11_part_32 : decode cX11_part 32 = .ok (.i2l, 1) := by decide +kernel
theorem dX11_part_33 : decode cX11_part 33 = .ok (.lreturn, 1) := by decide +kernel
theorem dX11_part_34 : decode cX11_part 34 = .ok (.aload_n 0, 1) := by decide +kernel
theorem dX11_part_35 : decode cX11_part 35 = .ok (.getfield 79, 3) := by decide +kernel
theorem dX11_part_38 : decode cX11_part 38 = .ok (.i2l, 1) := by decide +kernel
theorem dX11_part_39 : decode cX11_part 39 = .ok (.lreturn, 1) := by decide +kernel
theorem dX11_part_40 : decode cX11_part 40 = .ok (.aload_n 0, 1) := by decide +kernel
theorem dX11_part_41 : decode cX11_part 41 = .ok (.bipush (-2), 2) := by decide +kernel
theorem dX11_part_43 : decode cX11_part 43 = .ok (.invokevirtual 95, 3) := by decide +kernel
theorem dX11_part_46 : decode cX11_part 46 = .ok (.i2l, 1) := by decide +kernel
theorem dX11_part_47 : decode cX11_part 47 = .ok (.lreturn, 1) := by decide +kernel
theorem dX11_image_0 : decode cX11_image 0 = .ok (.iload_n 1, 1) := by decide +kernel
theorem dX11_image_1 : decode cX11_image 1 = .ok (.iconst 0, 1) := by decide +kernel
theorem dX11_image_2 : decode cX11_image 2 = .ok (.iconst 1, 1) := by decide +kernel
theorem dX11_image_3 : decode cX11_image 3 = .ok (.invokestatic 116, 3) := by decide +kernel
theorem dX11_image_6 : decode cX11_image 6 = .ok (.ifCond .ne 10, 3) := by decide +kernel
theorem dX11_image_9 : decode cX11_image 9 = .ok (.aload_n 0, 1) := by decide +kernel
theorem dX11_image_10 : decode cX11_image 10 = .ok (.bipush (-2), 2) := by decide +kernel
theorem dX11_image_12 : decode cX11_image 12 = .ok (.invokevirtual 95, 3) := by decide +kernel
theorem dX11_image_15 : decode cX11_image 15 = .ok (.ireturn, 1) := by decide +kernel
theorem dX11_image_16 : decode cX11_image 16 = .ok (.aload_n 0, 1) := by decide +kernel
theorem dX11_image_17 : decode cX11_image 17 = .ok (.getfield 39, 3) := by decide +kernel
theorem dX11_image_20 : decode cX11_image 20 = .ok (.iload_n 1, 1) := by decide +kernel
theorem dX11_image_21 : decode cX11_image 21 = .ok (.aaload, 1) := by decide +kernel
theorem dX11_image_22 : decode cX11_image 22 = .ok (.aload_n 0, 1) := by decide +kernel
theorem dX11_image_23 : decode cX11_image 23 = .ok (.getfield 32, 3) := by decide +kernel
theorem dX11_image_26 : decode cX11_image 26 = .ok (.invokevirtual 140, 3) := by decide +kernel
theorem dX11_image_29 : decode cX11_image 29 = .ok (.aload_n 0, 1) := by decide +kernel
theorem dX11_image_30 : decode cX11_image 30 = .ok (.getfield 43, 3) := by decide +kernel
theorem dX11_image_33 : decode cX11_image 33 = .ok (.iload_n 1, 1) := by decide +kernel
theorem dX11_image_34 : decode cX11_image 34 = .ok (.iconst 1, 1) := by decide +kernel
theorem dX11_image_35 : decode cX11_image 35 = .ok (.bastore, 1) := by decide +kernel
theorem dX11_image_36 : decode cX11_image 36 = .ok (.iconst 1, 1) := by decide +kernel
theorem dX11_image_37 : decode cX11_image 37 = .ok (.ireturn, 1) := by decide +kernel
theorem dX11_from_0 : decode cX11_from 0 = .ok (.iload_n 1, 1) := by decide +kernel
theorem dX11_from_1 : decode cX11_from 1 = .ok (.iconst 0, 1) := by decide +kernel
theorem dX11_from_2 : decode cX11_from 2 = .ok (.iconst 1, 1) := by decide +kernel
theorem dX11_from_3 : decode cX11_from 3 = .ok (.invokestatic 116, 3) := by decide +kernel
theorem dX11_from_6 : decode cX11_from 6 = .ok (.ifCond .ne 10, 3) := by decide +kernel
theorem dX11_from_9 : decode cX11_from 9 = .ok (.aload_n 0, 1) := by decide +kernel
theorem dX11_from_10 : decode cX11_from 10 = .ok (.bipush (-2), 2) := by decide +kernel
theorem dX11_from_12 : decode cX11_from 12 = .ok (.invokevirtual 95, 3) := by decide +kernel
theorem dX11_from_15 : decode cX11_from 15 = .ok (.ireturn, 1) := by decide +kernel
theorem dX11_from_16 : decode cX11_from 16 = .ok (.aload_n 0, 1) := by decide +kernel
theorem dX11_from_17 : decode cX11_from 17 = .ok (.getfield 43, 3) := by decide +kernel
theorem dX11_from_20 : decode cX11_from 20 = .ok (.iload_n 1, 1) := by decide +kernel
theorem dX11_from_21 : decode cX11_from 21 = .ok (.baload, 1) := by decide +kernel
theorem dX11_from_22 : decode cX11_from 22 = .ok (.ifCond .ne 8, 3) := by decide +kernel
theorem dX11_from_25 : decode cX11_from 25 = .ok (.aload_n 0, 1) := by decide +kernel
theorem dX11_from_26 : decode cX11_from 26 = .ok (.invokevirtual 102, 3) := by decide +kernel
theorem dX11_from_29 : decode cX11_from 29 = .ok (.ireturn, 1) := by decide +kernel
theorem dX11_from_30 : decode cX11_from 30 = .ok (.aload_n 0, 1) := by decide +kernel
theorem dX11_from_31 : decode cX11_from 31 = .ok (.getfield 32, 3) := by decide +kernel
theorem dX11_from_34 : decode cX11_from 34 = .ok (.aload_n 0, 1) := by decide +kernel
theorem dX11_from_35 : decode cX11_from 35 = .ok (.getfield 39, 3) := by decide +kernel
theorem dX11_from_38 : decode cX11_from 38 = .ok (.iload_n 1, 1) := by decide +kernel
theorem dX11_from_39 : decode cX11_from 39 = .ok (.aaload, 1) := by decide +kernel
theorem dX11_from_40 : decode cX11_from 40 = .ok (.invokevirtual 140, 3) := by decide +kernel
theorem dX11_from_43 : decode cX11_from 43 = .ok (.iconst 1, 1) := by decide +kernel
theorem dX11_from_44 : decode cX11_from 44 = .ok (.ireturn, 1) := by decide +kernel
theorem dX11_status_0 : decode cX11_status 0 = .ok (.iload_n 1, 1) := by decide +kernel
theorem dX11_status_1 : decode cX11_status 1 = .ok (.tableswitch 42 0 2 #[27, 32, 37], 27) := by decide +kernel
theorem dX11_status_28 : decode cX11_status 28 = .ok (.aload_n 0, 1) := by decide +kernel
theorem dX11_status_29 : decode cX11_status 29 = .ok (.getfield 258, 3) := by decide +kernel
theorem dX11_status_32 : decode cX11_status 32 = .ok (.ireturn, 1) := by decide +kernel
theorem dX11_status_33 : decode cX11_status 33 = .ok (.aload_n 0, 1) := by decide +kernel
theorem dX11_status_34 : decode cX11_status 34 = .ok (.getfield 261, 3) := by decide +kernel
theorem dX11_status_37 : decode cX11_status 37 = .ok (.ireturn, 1) := by decide +kernel
theorem dX11_status_38 : decode cX11_status 38 = .ok (.aload_n 0, 1) := by decide +kernel
theorem dX11_status_39 : decode cX11_status 39 = .ok (.getfield 264, 3) := by decide +kernel
theorem dX11_status_42 : decode cX11_status 42 = .ok (.ireturn, 1) := by decide +kernel
theorem dX11_status_43 : decode cX11_status 43 = .ok (.aload_n 0, 1) := by decide +kernel
theorem dX11_status_44 : decode cX11_status 44 = .ok (.iconst (-1), 1) := by decide +kernel
theorem dX11_status_45 : decode cX11_status 45 = .ok (.invokevirtual 95, 3) := by decide +kernel
theorem dX11_status_48 : decode cX11_status 48 = .ok (.ireturn, 1) := by decide +kernel
theorem dX11_count_0 : decode cX11_count 0 = .ok (.iload_n 1, 1) := by decide +kernel
theorem dX11_count_1 : decode cX11_count 1 = .ok (.iconst 0, 1) := by decide +kernel
theorem dX11_count_2 : decode cX11_count 2 = .ok (.bipush 6, 2) := by decide +kernel
theorem dX11_count_4 : decode cX11_count 4 = .ok (.invokestatic 116, 3) := by decide +kernel
theorem dX11_count_7 : decode cX11_count 7 = .ok (.ifCond .eq 11, 3) := by decide +kernel
theorem dX11_count_10 : decode cX11_count 10 = .ok (.aload_n 0, 1) := by decide +kernel
theorem dX11_count_11 : decode cX11_count 11 = .ok (.iload_n 1, 1) := by decide +kernel
theorem dX11_count_12 : decode cX11_count 12 = .ok (.invokevirtual 267, 3) := by decide +kernel
theorem dX11_count_15 : decode cX11_count 15 = .ok (.goto 9, 3) := by decide +kernel
theorem dX11_count_18 : decode cX11_count 18 = .ok (.aload_n 0, 1) := by decide +kernel
theorem dX11_count_19 : decode cX11_count 19 = .ok (.bipush (-2), 2) := by decide +kernel
theorem dX11_count_21 : decode cX11_count 21 = .ok (.invokevirtual 95, 3) := by decide +kernel
theorem dX11_count_24 : decode cX11_count 24 = .ok (.ireturn, 1) := by decide +kernel
theorem dX11_digest_0 : decode cX11_digest 0 = .ok (.ldc2_w 270, 3) := by decide +kernel
theorem dX11_digest_3 : decode cX11_digest 3 = .ok (.lstore_n 1, 1) := by decide +kernel
theorem dX11_digest_4 : decode cX11_digest 4 = .ok (.iconst 0, 1) := by decide +kernel
theorem dX11_digest_5 : decode cX11_digest 5 = .ok (.istore_n 3, 1) := by decide +kernel
theorem dX11_digest_6 : decode cX11_digest 6 = .ok (.iload_n 3, 1) := by decide +kernel
theorem dX11_digest_7 : decode cX11_digest 7 = .ok (.bipush 6, 2) := by decide +kernel
theorem dX11_digest_9 : decode cX11_digest 9 = .ok (.if_icmp .gt 22, 3) := by decide +kernel
theorem dX11_digest_12 : decode cX11_digest 12 = .ok (.ldc2_w 272, 3) := by decide +kernel
theorem dX11_digest_15 : decode cX11_digest 15 = .ok (.lload_n 1, 1) := by decide +kernel
theorem dX11_digest_16 : decode cX11_digest 16 = .ok (.lmul, 1) := by decide +kernel
theorem dX11_digest_17 : decode cX11_digest 17 = .ok (.aload_n 0, 1) := by decide +kernel
theorem dX11_digest_18 : decode cX11_digest 18 = .ok (.iload_n 3, 1) := by decide +kernel
theorem dX11_digest_19 : decode cX11_digest 19 = .ok (.invokevirtual 267, 3) := by decide +kernel
theorem dX11_digest_22 : decode cX11_digest 22 = .ok (.i2l, 1) := by decide +kernel
theorem dX11_digest_23 : decode cX11_digest 23 = .ok (.ladd, 1) := by decide +kernel
theorem dX11_digest_24 : decode cX11_digest 24 = .ok (.lstore_n 1, 1) := by decide +kernel
theorem dX11_digest_25 : decode cX11_digest 25 = .ok (.iinc 3 1, 3) := by decide +kernel
theorem dX11_digest_28 : decode cX11_digest 28 = .ok (.goto (-22), 3) := by decide +kernel
theorem dX11_digest_31 : decode cX11_digest 31 = .ok (.aload_n 0, 1) := by decide +kernel
theorem dX11_digest_32 : decode cX11_digest 32 = .ok (.getfield 32, 3) := by decide +kernel
theorem dX11_digest_35 : decode cX11_digest 35 = .ok (.lload_n 1, 1) := by decide +kernel
theorem dX11_digest_36 : decode cX11_digest 36 = .ok (.invokevirtual 274, 3) := by decide +kernel
theorem dX11_digest_39 : decode cX11_digest 39 = .ok (.lstore_n 1, 1) := by decide +kernel
theorem dX11_digest_40 : decode cX11_digest 40 = .ok (.ldc2_w 272, 3) := by decide +kernel
theorem dX11_digest_43 : decode cX11_digest 43 = .ok (.lload_n 1, 1) := by decide +kernel
theorem dX11_digest_44 : decode cX11_digest 44 = .ok (.lmul, 1) := by decide +kernel
theorem dX11_digest_45 : decode cX11_digest 45 = .ok (.aload_n 0, 1) := by decide +kernel
theorem dX11_digest_46 : decode cX11_digest 46 = .ok (.getfield 75, 3) := by decide +kernel
theorem dX11_digest_49 : decode cX11_digest 49 = .ok (.i2l, 1) := by decide +kernel
theorem dX11_digest_50 : decode cX11_digest 50 = .ok (.ladd, 1) := by decide +kernel
theorem dX11_digest_51 : decode cX11_digest 51 = .ok (.lstore_n 1, 1) := by decide +kernel
theorem dX11_digest_52 : decode cX11_digest 52 = .ok (.ldc2_w 272, 3) := by decide +kernel
theorem dX11_digest_55 : decode cX11_digest 55 = .ok (.lload_n 1, 1) := by decide +kernel
theorem dX11_digest_56 : decode cX11_digest 56 = .ok (.lmul, 1) := by decide +kernel
theorem dX11_digest_57 : decode cX11_digest 57 = .ok (.aload_n 0, 1) := by decide +kernel
theorem dX11_digest_58 : decode cX11_digest 58 = .ok (.getfield 79, 3) := by decide +kernel
theorem dX11_digest_61 : decode cX11_digest 61 = .ok (.i2l, 1) := by decide +kernel
theorem dX11_digest_62 : decode cX11_digest 62 = .ok (.ladd, 1) := by decide +kernel
theorem dX11_digest_63 : decode cX11_digest 63 = .ok (.lreturn, 1) := by decide +kernel
theorem dX11_amount_0 : decode cX11_amount 0 = .ok (.iload_n 1, 1) := by decide +kernel
theorem dX11_amount_1 : decode cX11_amount 1 = .ok (.tableswitch 99 0 5 #[39, 50, 58, 69, 83, 91], 39) := by decide +kernel
theorem dX11_amount_40 : decode cX11_amount 40 = .ok (.aload_n 0, 1) := by decide +kernel
theorem dX11_amount_41 : decode cX11_amount 41 = .ok (.getfield 32, 3) := by decide +kernel
theorem dX11_amount_44 : decode cX11_amount 44 = .ok (.getfield 82, 3) := by decide +kernel
theorem dX11_amount_47 : decode cX11_amount 47 = .ok (.getfield 85, 3) := by decide +kernel
theorem dX11_amount_50 : decode cX11_amount 50 = .ok (.ireturn, 1) := by decide +kernel
theorem dX11_amount_51 : decode cX11_amount 51 = .ok (.aload_n 0, 1) := by decide +kernel
theorem dX11_amount_52 : decode cX11_amount 52 = .ok (.getfield 32, 3) := by decide +kernel
theorem dX11_amount_55 : decode cX11_amount 55 = .ok (.getfield 106, 3) := by decide +kernel
theorem dX11_amount_58 : decode cX11_amount 58 = .ok (.ireturn, 1) := by decide +kernel
theorem dX11_amount_59 : decode cX11_amount 59 = .ok (.aload_n 0, 1) := by decide +kernel
theorem dX11_amount_60 : decode cX11_amount 60 = .ok (.getfield 32, 3) := by decide +kernel
theorem dX11_amount_63 : decode cX11_amount 63 = .ok (.getfield 82, 3) := by decide +kernel
theorem dX11_amount_66 : decode cX11_amount 66 = .ok (.getfield 167, 3) := by decide +kernel
theorem dX11_amount_69 : decode cX11_amount 69 = .ok (.ireturn, 1) := by decide +kernel
theorem dX11_amount_70 : decode cX11_amount 70 = .ok (.aload_n 0, 1) := by decide +kernel
theorem dX11_amount_71 : decode cX11_amount 71 = .ok (.getfield 32, 3) := by decide +kernel
theorem dX11_amount_74 : decode cX11_amount 74 = .ok (.getfield 82, 3) := by decide +kernel
theorem dX11_amount_77 : decode cX11_amount 77 = .ok (.getfield 147, 3) := by decide +kernel
theorem dX11_amount_80 : decode cX11_amount 80 = .ok (.invokestatic 229, 3) := by decide +kernel
theorem dX11_amount_83 : decode cX11_amount 83 = .ok (.ireturn, 1) := by decide +kernel
theorem dX11_amount_84 : decode cX11_amount 84 = .ok (.aload_n 0, 1) := by decide +kernel
theorem dX11_amount_85 : decode cX11_amount 85 = .ok (.getfield 32, 3) := by decide +kernel
theorem dX11_amount_88 : decode cX11_amount 88 = .ok (.getfield 216, 3) := by decide +kernel
theorem dX11_amount_91 : decode cX11_amount 91 = .ok (.ireturn, 1) := by decide +kernel
theorem dX11_amount_92 : decode cX11_amount 92 = .ok (.aload_n 0, 1) := by decide +kernel
theorem dX11_amount_93 : decode cX11_amount 93 = .ok (.getfield 32, 3) := by decide +kernel
theorem dX11_amount_96 : decode cX11_amount 96 = .ok (.getfield 278, 3) := by decide +kernel
theorem dX11_amount_99 : decode cX11_amount 99 = .ok (.ireturn, 1) := by decide +kernel
theorem dX11_amount_100 : decode cX11_amount 100 = .ok (.aload_n 0, 1) := by decide +kernel
theorem dX11_amount_101 : decode cX11_amount 101 = .ok (.getfield 71, 3) := by decide +kernel
theorem dX11_amount_104 : decode cX11_amount 104 = .ok (.getfield 127, 3) := by decide +kernel
theorem dX11_amount_107 : decode cX11_amount 107 = .ok (.ireturn, 1) := by decide +kernel
theorem dX11_refuseBad_0 : decode cX11_refuseBad 0 = .ok (.aload_n 0, 1) := by decide +kernel
theorem dX11_refuseBad_1 : decode cX11_refuseBad 1 = .ok (.dup, 1) := by decide +kernel
theorem dX11_refuseBad_2 : decode cX11_refuseBad 2 = .ok (.getfield 258, 3) := by decide +kernel
theorem dX11_refuseBad_5 : decode cX11_refuseBad 5 = .ok (.iconst 1, 1) := by decide +kernel
theorem dX11_refuseBad_6 : decode cX11_refuseBad 6 = .ok (.iadd, 1) := by decide +kernel
theorem dX11_refuseBad_7 : decode cX11_refuseBad 7 = .ok (.putfield 258, 3) := by decide +kernel
theorem dX11_refuseBad_10 : decode cX11_refuseBad 10 = .ok (.iload_n 1, 1) := by decide +kernel
theorem dX11_refuseBad_11 : decode cX11_refuseBad 11 = .ok (.ireturn, 1) := by decide +kernel
theorem dX11_refuseNo_0 : decode cX11_refuseNo 0 = .ok (.aload_n 0, 1) := by decide +kernel
theorem dX11_refuseNo_1 : decode cX11_refuseNo 1 = .ok (.dup, 1) := by decide +kernel
theorem dX11_refuseNo_2 : decode cX11_refuseNo 2 = .ok (.getfield 261, 3) := by decide +kernel
theorem dX11_refuseNo_5 : decode cX11_refuseNo 5 = .ok (.iconst 1, 1) := by decide +kernel
theorem dX11_refuseNo_6 : decode cX11_refuseNo 6 = .ok (.iadd, 1) := by decide +kernel
theorem dX11_refuseNo_7 : decode cX11_refuseNo 7 = .ok (.putfield 261, 3) := by decide +kernel
theorem dX11_refuseNo_10 : decode cX11_refuseNo 10 = .ok (.bipush (-3), 2) := by decide +kernel
theorem dX11_refuseNo_12 : decode cX11_refuseNo 12 = .ok (.ireturn, 1) := by decide +kernel
theorem dX11_refuseFull_0 : decode cX11_refuseFull 0 = .ok (.aload_n 0, 1) := by decide +kernel
theorem dX11_refuseFull_1 : decode cX11_refuseFull 1 = .ok (.dup, 1) := by decide +kernel
theorem dX11_refuseFull_2 : decode cX11_refuseFull 2 = .ok (.getfield 264, 3) := by decide +kernel
theorem dX11_refuseFull_5 : decode cX11_refuseFull 5 = .ok (.iconst 1, 1) := by decide +kernel
theorem dX11_refuseFull_6 : decode cX11_refuseFull 6 = .ok (.iadd, 1) := by decide +kernel
theorem dX11_refuseFull_7 : decode cX11_refuseFull 7 = .ok (.putfield 264, 3) := by decide +kernel
theorem dX11_refuseFull_10 : decode cX11_refuseFull 10 = .ok (.bipush (-4), 2) := by decide +kernel
theorem dX11_refuseFull_12 : decode cX11_refuseFull 12 = .ok (.ireturn, 1) := by decide +kernel
theorem dX11_isHand_0 : decode cX11_isHand 0 = .ok (.iload_n 1, 1) := by decide +kernel
theorem dX11_isHand_1 : decode cX11_isHand 1 = .ok (.iconst 0, 1) := by decide +kernel
theorem dX11_isHand_2 : decode cX11_isHand 2 = .ok (.aload_n 0, 1) := by decide +kernel
theorem dX11_isHand_3 : decode cX11_isHand 3 = .ok (.getfield 32, 3) := by decide +kernel
theorem dX11_isHand_6 : decode cX11_isHand 6 = .ok (.getfield 82, 3) := by decide +kernel
theorem dX11_isHand_9 : decode cX11_isHand 9 = .ok (.getfield 85, 3) := by decide +kernel
theorem dX11_isHand_12 : decode cX11_isHand 12 = .ok (.iconst 1, 1) := by decide +kernel
theorem dX11_isHand_13 : decode cX11_isHand 13 = .ok (.isub, 1) := by decide +kernel
theorem dX11_isHand_14 : decode cX11_isHand 14 = .ok (.invokestatic 116, 3) := by decide +kernel
theorem dX11_isHand_17 : decode cX11_isHand 17 = .ok (.ireturn, 1) := by decide +kernel
theorem dX11_fittingNods_0 : decode cX11_fittingNods 0 = .ok (.iconst 0, 1) := by decide +kernel
theorem dX11_fittingNods_1 : decode cX11_fittingNods 1 = .ok (.istore_n 2, 1) := by decide +kernel
theorem dX11_fittingNods_2 : decode cX11_fittingNods 2 = .ok (.bipush (-3), 2) := by decide +kernel
theorem dX11_fittingNods_4 : decode cX11_fittingNods 4 = .ok (.istore_n 3, 1) := by decide +kernel
theorem dX11_fittingNods_5 : decode cX11_fittingNods 5 = .ok (.iload_n 3, 1) := by decide +kernel
theorem dX11_fittingNods_6 : decode cX11_fittingNods 6 = .ok (.iconst 3, 1) := by decide +kernel
theorem dX11_fittingNods_7 : decode cX11_fittingNods 7 = .ok (.if_icmp .gt 39, 3) := by decide +kernel
theorem dX11_fittingNods_10 : decode cX11_fittingNods 10 = .ok (.aload_n 0, 1) := by decide +kernel
theorem dX11_fittingNods_11 : decode cX11_fittingNods 11 = .ok (.iload_n 1, 1) := by decide +kernel
theorem dX11_fittingNods_12 : decode cX11_fittingNods 12 = .ok (.iload_n 3, 1) := by decide +kernel
theorem dX11_fittingNods_13 : decode cX11_fittingNods 13 = .ok (.aload_n 0, 1) := by decide +kernel
theorem dX11_fittingNods_14 : decode cX11_fittingNods 14 = .ok (.getfield 32, 3) := by decide +kernel
theorem dX11_fittingNods_17 : decode cX11_fittingNods 17 = .ok (.getfield 82, 3) := by decide +kernel
theorem dX11_fittingNods_20 : decode cX11_fittingNods 20 = .ok (.getfield 177, 3) := by decide +kernel
theorem dX11_fittingNods_23 : decode cX11_fittingNods 23 = .ok (.iload_n 1, 1) := by decide +kernel
theorem dX11_fittingNods_24 : decode cX11_fittingNods 24 = .ok (.iaload, 1) := by decide +kernel
theorem dX11_fittingNods_25 : decode cX11_fittingNods 25 = .ok (.isub, 1) := by decide +kernel
theorem dX11_fittingNods_26 : decode cX11_fittingNods 26 = .ok (.invokevirtual 281, 3) := by decide +kernel
theorem dX11_fittingNods_29 : decode cX11_fittingNods 29 = .ok (.ifCond .eq 11, 3) := by decide +kernel
theorem dX11_fittingNods_32 : decode cX11_fittingNods 32 = .ok (.iload_n 2, 1) := by decide +kernel
theorem dX11_fittingNods_33 : decode cX11_fittingNods 33 = .ok (.iconst 1, 1) := by decide +kernel
theorem dX11_fittingNods_34 : decode cX11_fittingNods 34 = .ok (.iload_n 3, 1) := by decide +kernel
theorem dX11_fittingNods_35 : decode cX11_fittingNods 35 = .ok (.iconst 3, 1) := by decide +kernel
theorem dX11_fittingNods_36 : decode cX11_fittingNods 36 = .ok (.iadd, 1) := by decide +kernel
theorem dX11_fittingNods_37 : decode cX11_fittingNods 37 = .ok (.ishl, 1) := by decide +kernel
theorem dX11_fittingNods_38 : decode cX11_fittingNods 38 = .ok (.ior, 1) := by decide +kernel
theorem dX11_fittingNods_39 : decode cX11_fittingNods 39 = .ok (.istore_n 2, 1) := by decide +kernel
theorem dX11_fittingNods_40 : decode cX11_fittingNods 40 = .ok (.iinc 3 1, 3) := by decide +kernel
theorem dX11_fittingNods_43 : decode cX11_fittingNods 43 = .ok (.goto (-38), 3) := by decide +kernel
theorem dX11_fittingNods_46 : decode cX11_fittingNods 46 = .ok (.iload_n 2, 1) := by decide +kernel
theorem dX11_fittingNods_47 : decode cX11_fittingNods 47 = .ok (.ireturn, 1) := by decide +kernel
theorem dX11_fitsNods_0 : decode cX11_fitsNods 0 = .ok (.iconst 0, 1) := by decide +kernel
theorem dX11_fitsNods_1 : decode cX11_fitsNods 1 = .ok (.istore_n 3, 1) := by decide +kernel
theorem dX11_fitsNods_2 : decode cX11_fitsNods 2 = .ok (.iload_n 3, 1) := by decide +kernel
theorem dX11_fitsNods_3 : decode cX11_fitsNods 3 = .ok (.aload_n 0, 1) := by decide +kernel
theorem dX11_fitsNods_4 : decode cX11_fitsNods 4 = .ok (.getfield 32, 3) := by decide +kernel
theorem dX11_fitsNods_7 : decode cX11_fitsNods 7 = .ok (.getfield 216, 3) := by decide +kernel
theorem dX11_fitsNods_10 : decode cX11_fitsNods 10 = .ok (.if_icmp .ge 57, 3) := by decide +kernel
theorem dX11_fitsNods_13 : decode cX11_fitsNods 13 = .ok (.aload_n 0, 1) := by decide +kernel
theorem dX11_fitsNods_14 : decode cX11_fitsNods 14 = .ok (.getfield 32, 3) := by decide +kernel
theorem dX11_fitsNods_17 : decode cX11_fitsNods 17 = .ok (.getfield 284, 3) := by decide +kernel
theorem dX11_fitsNods_20 : decode cX11_fitsNods 20 = .ok (.iload_n 3, 1) := by decide +kernel
theorem dX11_fitsNods_21 : decode cX11_fitsNods 21 = .ok (.iaload, 1) := by decide +kernel
theorem dX11_fitsNods_22 : decode cX11_fitsNods 22 = .ok (.istore 4, 2) := by decide +kernel
theorem dX11_fitsNods_24 : decode cX11_fitsNods 24 = .ok (.aload_n 0, 1) := by decide +kernel
theorem dX11_fitsNods_25 : decode cX11_fitsNods 25 = .ok (.getfield 57, 3) := by decide +kernel
theorem dX11_fitsNods_28 : decode cX11_fitsNods 28 = .ok (.getfield 191, 3) := by decide +kernel
theorem dX11_fitsNods_31 : decode cX11_fitsNods 31 = .ok (.iload 4, 2) := by decide +kernel
theorem dX11_fitsNods_33 : decode cX11_fitsNods 33 = .ok (.iaload, 1) := by decide +kernel
theorem dX11_fitsNods_34 : decode cX11_fitsNods 34 = .ok (.iload_n 2, 1) := by decide +kernel
theorem dX11_fitsNods_35 : decode cX11_fitsNods 35 = .ok (.aload_n 0, 1) := by decide +kernel
theorem dX11_fitsNods_36 : decode cX11_fitsNods 36 = .ok (.getfield 57, 3) := by decide +kernel
theorem dX11_fitsNods_39 : decode cX11_fitsNods 39 = .ok (.iload_n 1, 1) := by decide +kernel
theorem dX11_fitsNods_40 : decode cX11_fitsNods 40 = .ok (.iload 4, 2) := by decide +kernel
theorem dX11_fitsNods_42 : decode cX11_fitsNods 42 = .ok (.invokevirtual 234, 3) := by decide +kernel
theorem dX11_fitsNods_45 : decode cX11_fitsNods 45 = .ok (.imul, 1) := by decide +kernel
theorem dX11_fitsNods_46 : decode cX11_fitsNods 46 = .ok (.iadd, 1) := by decide +kernel
theorem dX11_fitsNods_47 : decode cX11_fitsNods 47 = .ok (.aload_n 0, 1) := by decide +kernel
theorem dX11_fitsNods_48 : decode cX11_fitsNods 48 = .ok (.getfield 32, 3) := by decide +kernel
theorem dX11_fitsNods_51 : decode cX11_fitsNods 51 = .ok (.getfield 287, 3) := by decide +kernel
theorem dX11_fitsNods_54 : decode cX11_fitsNods 54 = .ok (.iload_n 3, 1) := by decide +kernel
theorem dX11_fitsNods_55 : decode cX11_fitsNods 55 = .ok (.iaload, 1) := by decide +kernel
theorem dX11_fitsNods_56 : decode cX11_fitsNods 56 = .ok (.if_icmp .eq 5, 3) := by decide +kernel
theorem dX11_fitsNods_59 : decode cX11_fitsNods 59 = .ok (.iconst 0, 1) := by decide +kernel
theorem dX11_fitsNods_60 : decode cX11_fitsNods 60 = .ok (.ireturn, 1) := by decide +kernel
theorem dX11_fitsNods_61 : decode cX11_fitsNods 61 = .ok (.iinc 3 1, 3) := by decide +kernel
theorem dX11_fitsNods_64 : decode cX11_fitsNods 64 = .ok (.goto (-62), 3) := by decide +kernel
theorem dX11_fitsNods_67 : decode cX11_fitsNods 67 = .ok (.iconst 1, 1) := by decide +kernel
theorem dX11_fitsNods_68 : decode cX11_fitsNods 68 = .ok (.ireturn, 1) := by decide +kernel
theorem dX11_fitsPulled_0 : decode cX11_fitsPulled 0 = .ok (.iconst 0, 1) := by decide +kernel
theorem dX11_fitsPulled_1 : decode cX11_fitsPulled 1 = .ok (.istore_n 3, 1) := by decide +kernel
theorem dX11_fitsPulled_2 : decode cX11_fitsPulled 2 = .ok (.iload_n 3, 1) := by decide +kernel
theorem dX11_fitsPulled_3 : decode cX11_fitsPulled 3 = .ok (.aload_n 0, 1) := by decide +kernel
theorem dX11_fitsPulled_4 : decode cX11_fitsPulled 4 = .ok (.getfield 32, 3) := by decide +kernel
theorem dX11_fitsPulled_7 : decode cX11_fitsPulled 7 = .ok (.getfield 216, 3) := by decide +kernel
theorem dX11_fitsPulled_10 : decode cX11_fitsPulled 10 = .ok (.if_icmp .ge 60, 3) := by decide +kernel
theorem dX11_fitsPulled_13 : decode cX11_fitsPulled 13 = .ok (.aload_n 0, 1) := by decide +kernel
theorem dX11_fitsPulled_14 : decode cX11_fitsPulled 14 = .ok (.getfield 32, 3) := by decide +kernel
theorem dX11_fitsPulled_17 : decode cX11_fitsPulled 17 = .ok (.getfield 284, 3) := by decide +kernel
theorem dX11_fitsPulled_20 : decode cX11_fitsPulled 20 = .ok (.iload_n 3, 1) := by decide +kernel
theorem dX11_fitsPulled_21 : decode cX11_fitsPulled 21 = .ok (.iaload, 1) := by decide +kernel
theorem dX11_fitsPulled_22 : decode cX11_fitsPulled 22 = .ok (.istore 4, 2) := by decide +kernel
theorem dX11_fitsPulled_24 : decode cX11_fitsPulled 24 = .ok (.aload_n 0, 1) := by decide +kernel
theorem dX11_fitsPulled_25 : decode cX11_fitsPulled 25 = .ok (.getfield 57, 3) := by decide +kernel
theorem dX11_fitsPulled_28 : decode cX11_fitsPulled 28 = .ok (.getfield 191, 3) := by decide +kernel
theorem dX11_fitsPulled_31 : decode cX11_fitsPulled 31 = .ok (.iload 4, 2) := by decide +kernel
theorem dX11_fitsPulled_33 : decode cX11_fitsPulled 33 = .ok (.iaload, 1) := by decide +kernel
theorem dX11_fitsPulled_34 : decode cX11_fitsPulled 34 = .ok (.iload 4, 2) := by decide +kernel
theorem dX11_fitsPulled_36 : decode cX11_fitsPulled 36 = .ok (.iload_n 1, 1) := by decide +kernel
theorem dX11_fitsPulled_37 : decode cX11_fitsPulled 37 = .ok (.if_icmp .le 7, 3) := by decide +kernel
theorem dX11_fitsPulled_40 : decode cX11_fitsPulled 40 = .ok (.iload_n 2, 1) := by decide +kernel
theorem dX11_fitsPulled_41 : decode cX11_fitsPulled 41 = .ok (.goto 4, 3) := by decide +kernel
theorem dX11_fitsPulled_44 : decode cX11_fitsPulled 44 = .ok (.iconst 0, 1) := by decide +kernel
theorem dX11_fitsPulled_45 : decode cX11_fitsPulled 45 = .ok (.iadd, 1) := by decide +kernel
theorem dX11_fitsPulled_46 : decode cX11_fitsPulled 46 = .ok (.istore 5, 2) := by decide +kernel
theorem dX11_fitsPulled_48 : decode cX11_fitsPulled 48 = .ok (.iload 5, 2) := by decide +kernel
theorem dX11_fitsPulled_50 : decode cX11_fitsPulled 50 = .ok (.aload_n 0, 1) := by decide +kernel
theorem dX11_fitsPulled_51 : decode cX11_fitsPulled 51 = .ok (.getfield 32, 3) := by decide +kernel
theorem dX11_fitsPulled_54 : decode cX11_fitsPulled 54 = .ok (.getfield 287, 3) := by decide +kernel
theorem dX11_fitsPulled_57 : decode cX11_fitsPulled 57 = .ok (.iload_n 3, 1) := by decide +kernel
theorem dX11_fitsPulled_58 : decode cX11_fitsPulled 58 = .ok (.iaload, 1) := by decide +kernel
theorem dX11_fitsPulled_59 : decode cX11_fitsPulled 59 = .ok (.if_icmp .eq 5, 3) := by decide +kernel
theorem dX11_fitsPulled_62 : decode cX11_fitsPulled 62 = .ok (.iconst 0, 1) := by decide +kernel
theorem dX11_fitsPulled_63 : decode cX11_fitsPulled 63 = .ok (.ireturn, 1) := by decide +kernel
theorem dX11_fitsPulled_64 : decode cX11_fitsPulled 64 = .ok (.iinc 3 1, 3) := by decide +kernel
theorem dX11_fitsPulled_67 : decode cX11_fitsPulled 67 = .ok (.goto (-65), 3) := by decide +kernel
theorem dX11_fitsPulled_70 : decode cX11_fitsPulled 70 = .ok (.iconst 1, 1) := by decide +kernel
theorem dX11_fitsPulled_71 : decode cX11_fitsPulled 71 = .ok (.ireturn, 1) := by decide +kernel
theorem dX11_setFraction_0 : decode cX11_setFraction 0 = .ok (.iload_n 1, 1) := by decide +kernel
theorem dX11_setFraction_1 : decode cX11_setFraction 1 = .ok (.iload_n 2, 1) := by decide +kernel
theorem dX11_setFraction_2 : decode cX11_setFraction 2 = .ok (.invokestatic 290, 3) := by decide +kernel
theorem dX11_setFraction_5 : decode cX11_setFraction 5 = .ok (.istore_n 3, 1) := by decide +kernel
theorem dX11_setFraction_6 : decode cX11_setFraction 6 = .ok (.iload_n 3, 1) := by decide +kernel
theorem dX11_setFraction_7 : decode cX11_setFraction 7 = .ok (.ifCond .le 17, 3) := by decide +kernel
theorem dX11_setFraction_10 : decode cX11_setFraction 10 = .ok (.aload_n 0, 1) := by decide +kernel
theorem dX11_setFraction_11 : decode cX11_setFraction 11 = .ok (.iload_n 1, 1) := by decide +kernel
theorem dX11_setFraction_12 : decode cX11_setFraction 12 = .ok (.iload_n 3, 1) := by decide +kernel
theorem dX11_setFraction_13 : decode cX11_setFraction 13 = .ok (.idiv, 1) := by decide +kernel
theorem dX11_setFraction_14 : decode cX11_setFraction 14 = .ok (.putfield 75, 3) := by decide +kernel
theorem dX11_setFraction_17 : decode cX11_setFraction 17 = .ok (.aload_n 0, 1) := by decide +kernel
theorem dX11_setFraction_18 : decode cX11_setFraction 18 = .ok (.iload_n 2, 1) := by decide +kernel
theorem dX11_setFraction_19 : decode cX11_setFraction 19 = .ok (.iload_n 3, 1) := by decide +kernel
theorem dX11_setFraction_20 : decode cX11_setFraction 20 = .ok (.idiv, 1) := by decide +kernel
theorem dX11_setFraction_21 : decode cX11_setFraction 21 = .ok (.putfield 79, 3) := by decide +kernel
theorem dX11_setFraction_24 : decode cX11_setFraction 24 = .ok (.return_, 1) := by decide +kernel
theorem dX11_greatestDivisor_0 : decode cX11_greatestDivisor 0 = .ok (.iload_n 0, 1) := by decide +kernel
theorem dX11_greatestDivisor_1 : decode cX11_greatestDivisor 1 = .ok (.istore_n 2, 1) := by decide +kernel
theorem dX11_greatestDivisor_2 : decode cX11_greatestDivisor 2 = .ok (.iload_n 1, 1) := by decide +kernel
theorem dX11_greatestDivisor_3 : decode cX11_greatestDivisor 3 = .ok (.istore_n 3, 1) := by decide +kernel
theorem dX11_greatestDivisor_4 : decode cX11_greatestDivisor 4 = .ok (.iconst 0, 1) := by decide +kernel
theorem dX11_greatestDivisor_5 : decode cX11_greatestDivisor 5 = .ok (.istore 4, 2) := by decide +kernel
theorem dX11_greatestDivisor_7 : decode cX11_greatestDivisor 7 = .ok (.iload 4, 2) := by decide +kernel
theorem dX11_greatestDivisor_9 : decode cX11_greatestDivisor 9 = .ok (.bipush 100, 2) := by decide +kernel
theorem dX11_greatestDivisor_11 : decode cX11_greatestDivisor 11 = .ok (.if_icmp .ge 23, 3) := by decide +kernel
theorem dX11_greatestDivisor_14 : decode cX11_greatestDivisor 14 = .ok (.iload_n 2, 1) := by decide +kernel
theorem dX11_greatestDivisor_15 : decode cX11_greatestDivisor 15 = .ok (.ifCond .eq 19, 3) := by decide +kernel
theorem dX11_greatestDivisor_18 : decode cX11_greatestDivisor 18 = .ok (.iload_n 3, 1) := by decide +kernel
theorem dX11_greatestDivisor_19 : decode cX11_greatestDivisor 19 = .ok (.iload_n 2, 1) := by decide +kernel
theorem dX11_greatestDivisor_20 : decode cX11_greatestDivisor 20 = .ok (.irem, 1) := by decide +kernel
theorem dX11_greatestDivisor_21 : decode cX11_greatestDivisor 21 = .ok (.istore 5, 2) := by decide +kernel
theorem dX11_greatestDivisor_23 : decode cX11_greatestDivisor 23 = .ok (.iload_n 2, 1) := by decide +kernel
theorem dX11_greatestDivisor_24 : decode cX11_greatestDivisor 24 = .ok (.istore_n 3, 1) := by decide +kernel
theorem dX11_greatestDivisor_25 : decode cX11_greatestDivisor 25 = .ok (.iload 5, 2) := by decide +kernel
theorem dX11_greatestDivisor_27 : decode cX11_greatestDivisor 27 = .ok (.istore_n 2, 1) := by decide +kernel
theorem dX11_greatestDivisor_28 : decode cX11_greatestDivisor 28 = .ok (.iinc 4 1, 3) := by decide +kernel
theorem dX11_greatestDivisor_31 : decode cX11_greatestDivisor 31 = .ok (.goto (-24), 3) := by decide +kernel
theorem dX11_greatestDivisor_34 : decode cX11_greatestDivisor 34 = .ok (.iload_n 3, 1) := by decide +kernel
theorem dX11_greatestDivisor_35 : decode cX11_greatestDivisor 35 = .ok (.ireturn, 1) := by decide +kernel
theorem dX11_isWithin_0 : decode cX11_isWithin 0 = .ok (.iload_n 0, 1) := by decide +kernel
theorem dX11_isWithin_1 : decode cX11_isWithin 1 = .ok (.iload_n 1, 1) := by decide +kernel
theorem dX11_isWithin_2 : decode cX11_isWithin 2 = .ok (.if_icmp .lt 12, 3) := by decide +kernel
theorem dX11_isWithin_5 : decode cX11_isWithin 5 = .ok (.iload_n 0, 1) := by decide +kernel
theorem dX11_isWithin_6 : decode cX11_isWithin 6 = .ok (.iload_n 2, 1) := by decide +kernel
theorem dX11_isWithin_7 : decode cX11_isWithin 7 = .ok (.if_icmp .gt 7, 3) := by decide +kernel
theorem dX11_isWithin_10 : decode cX11_isWithin 10 = .ok (.iconst 1, 1) := by decide +kernel
theorem dX11_isWithin_11 : decode cX11_isWithin 11 = .ok (.goto 4, 3) := by decide +kernel
theorem dX11_isWithin_14 : decode cX11_isWithin 14 = .ok (.iconst 0, 1) := by decide +kernel
theorem dX11_isWithin_15 : decode cX11_isWithin 15 = .ok (.ireturn, 1) := by decide +kernel
theorem dX11_isPlace_0 : decode cX11_isPlace 0 = .ok (.iload_n 0, 1) := by decide +kernel
theorem dX11_isPlace_1 : decode cX11_isPlace 1 = .ok (.bipush (-60), 2) := by decide +kernel
theorem dX11_isPlace_3 : decode cX11_isPlace 3 = .ok (.bipush 60, 2) := by decide +kernel
theorem dX11_isPlace_5 : decode cX11_isPlace 5 = .ok (.invokestatic 116, 3) := by decide +kernel
theorem dX11_isPlace_8 : decode cX11_isPlace 8 = .ok (.ireturn, 1) := by decide +kernel
theorem dX11_isNods_0 : decode cX11_isNods 0 = .ok (.iload_n 0, 1) := by decide +kernel
theorem dX11_isNods_1 : decode cX11_isNods 1 = .ok (.bipush (-3), 2) := by decide +kernel
theorem dX11_isNods_3 : decode cX11_isNods 3 = .ok (.iconst 3, 1) := by decide +kernel
theorem dX11_isNods_4 : decode cX11_isNods 4 = .ok (.invokestatic 116, 3) := by decide +kernel
theorem dX11_isNods_7 : decode cX11_isNods 7 = .ok (.ireturn, 1) := by decide +kernel
theorem dX11_holds_0 : decode cX11_holds 0 = .ok (.iload_n 0, 1) := by decide +kernel
theorem dX11_holds_1 : decode cX11_holds 1 = .ok (.iload_n 1, 1) := by decide +kernel
theorem dX11_holds_2 : decode cX11_holds 2 = .ok (.ishr, 1) := by decide +kernel
theorem dX11_holds_3 : decode cX11_holds 3 = .ok (.iconst 1, 1) := by decide +kernel
theorem dX11_holds_4 : decode cX11_holds 4 = .ok (.iand, 1) := by decide +kernel
theorem dX11_holds_5 : decode cX11_holds 5 = .ok (.iconst 1, 1) := by decide +kernel
theorem dX11_holds_6 : decode cX11_holds 6 = .ok (.if_icmp .ne 7, 3) := by decide +kernel
theorem dX11_holds_9 : decode cX11_holds 9 = .ok (.iconst 1, 1) := by decide +kernel
theorem dX11_holds_10 : decode cX11_holds 10 = .ok (.goto 4, 3) := by decide +kernel
theorem dX11_holds_13 : decode cX11_holds 13 = .ok (.iconst 0, 1) := by decide +kernel
theorem dX11_holds_14 : decode cX11_holds 14 = .ok (.ireturn, 1) := by decide +kernel
theorem dX12_bad_0 : decode cX12_bad 0 = .ok (.aload_n 0, 1) := by decide +kernel
theorem dX12_bad_1 : decode cX12_bad 1 = .ok (.getfield 1, 3) := by decide +kernel
theorem dX12_bad_4 : decode cX12_bad 4 = .ok (.iconst 0, 1) := by decide +kernel
theorem dX12_bad_5 : decode cX12_bad 5 = .ok (.dup2, 1) := by decide +kernel
theorem dX12_bad_6 : decode cX12_bad 6 = .ok (.iaload, 1) := by decide +kernel
theorem dX12_bad_7 : decode cX12_bad 7 = .ok (.iconst 1, 1) := by decide +kernel
theorem dX12_bad_8 : decode cX12_bad 8 = .ok (.iadd, 1) := by decide +kernel
theorem dX12_bad_9 : decode cX12_bad 9 = .ok (.iastore, 1) := by decide +kernel
theorem dX12_bad_10 : decode cX12_bad 10 = .ok (.bipush (-2), 2) := by decide +kernel
theorem dX12_bad_12 : decode cX12_bad 12 = .ok (.ireturn, 1) := by decide +kernel
theorem dX12_ten_0 : decode cX12_ten 0 = .ok (.aload_n 0, 1) := by decide +kernel
theorem dX12_ten_1 : decode cX12_ten 1 = .ok (.getfield 1, 3) := by decide +kernel
theorem dX12_ten_4 : decode cX12_ten 4 = .ok (.iconst 0, 1) := by decide +kernel
theorem dX12_ten_5 : decode cX12_ten 5 = .ok (.dup2, 1) := by decide +kernel
theorem dX12_ten_6 : decode cX12_ten 6 = .ok (.iaload, 1) := by decide +kernel
theorem dX12_ten_7 : decode cX12_ten 7 = .ok (.iconst 1, 1) := by decide +kernel
theorem dX12_ten_8 : decode cX12_ten 8 = .ok (.iadd, 1) := by decide +kernel
theorem dX12_ten_9 : decode cX12_ten 9 = .ok (.iastore, 1) := by decide +kernel
theorem dX12_ten_10 : decode cX12_ten 10 = .ok (.bipush (-10), 2) := by decide +kernel
theorem dX12_ten_12 : decode cX12_ten 12 = .ok (.ireturn, 1) := by decide +kernel
theorem dX12_no_0 : decode cX12_no 0 = .ok (.aload_n 0, 1) := by decide +kernel
theorem dX12_no_1 : decode cX12_no 1 = .ok (.getfield 1, 3) := by decide +kernel
theorem dX12_no_4 : decode cX12_no 4 = .ok (.iconst 1, 1) := by decide +kernel
theorem dX12_no_5 : decode cX12_no 5 = .ok (.dup2, 1) := by decide +kernel
theorem dX12_no_6 : decode cX12_no 6 = .ok (.iaload, 1) := by decide +kernel
theorem dX12_no_7 : decode cX12_no 7 = .ok (.iconst 1, 1) := by decide +kernel
theorem dX12_no_8 : decode cX12_no 8 = .ok (.iadd, 1) := by decide +kernel
theorem dX12_no_9 : decode cX12_no 9 = .ok (.iastore, 1) := by decide +kernel
theorem dX12_no_10 : decode cX12_no 10 = .ok (.bipush (-3), 2) := by decide +kernel
theorem dX12_no_12 : decode cX12_no 12 = .ok (.ireturn, 1) := by decide +kernel
theorem dX12_full_0 : decode cX12_full 0 = .ok (.aload_n 0, 1) := by decide +kernel
theorem dX12_full_1 : decode cX12_full 1 = .ok (.getfield 1, 3) := by decide +kernel
theorem dX12_full_4 : decode cX12_full 4 = .ok (.iconst 2, 1) := by decide +kernel
theorem dX12_full_5 : decode cX12_full 5 = .ok (.dup2, 1) := by decide +kernel
theorem dX12_full_6 : decode cX12_full 6 = .ok (.iaload, 1) := by decide +kernel
theorem dX12_full_7 : decode cX12_full 7 = .ok (.iconst 1, 1) := by decide +kernel
theorem dX12_full_8 : decode cX12_full 8 = .ok (.iadd, 1) := by decide +kernel
theorem dX12_full_9 : decode cX12_full 9 = .ok (.iastore, 1) := by decide +kernel
theorem dX12_full_10 : decode cX12_full 10 = .ok (.bipush (-4), 2) := by decide +kernel
theorem dX12_full_12 : decode cX12_full 12 = .ok (.ireturn, 1) := by decide +kernel
theorem dX12_in_0 : decode cX12_in 0 = .ok (.iload_n 0, 1) := by decide +kernel
theorem dX12_in_1 : decode cX12_in 1 = .ok (.iload_n 1, 1) := by decide +kernel
theorem dX12_in_2 : decode cX12_in 2 = .ok (.if_icmp .lt 12, 3) := by decide +kernel
theorem dX12_in_5 : decode cX12_in 5 = .ok (.iload_n 0, 1) := by decide +kernel
theorem dX12_in_6 : decode cX12_in 6 = .ok (.iload_n 2, 1) := by decide +kernel
theorem dX12_in_7 : decode cX12_in 7 = .ok (.if_icmp .gt 7, 3) := by decide +kernel
theorem dX12_in_10 : decode cX12_in 10 = .ok (.iconst 1, 1) := by decide +kernel
theorem dX12_in_11 : decode cX12_in 11 = .ok (.goto 4, 3) := by decide +kernel
theorem dX12_in_14 : decode cX12_in 14 = .ok (.iconst 0, 1) := by decide +kernel
theorem dX12_in_15 : decode cX12_in 15 = .ok (.ireturn, 1) := by decide +kernel
theorem dX12_manyBad_0 : decode cX12_manyBad 0 = .ok (.aload_n 0, 1) := by decide +kernel
theorem dX12_manyBad_1 : decode cX12_manyBad 1 = .ok (.getfield 1, 3) := by decide +kernel
theorem dX12_manyBad_4 : decode cX12_manyBad 4 = .ok (.iconst 0, 1) := by decide +kernel
theorem dX12_manyBad_5 : decode cX12_manyBad 5 = .ok (.dup2, 1) := by decide +kernel
theorem dX12_manyBad_6 : decode cX12_manyBad 6 = .ok (.iaload, 1) := by decide +kernel
theorem dX12_manyBad_7 : decode cX12_manyBad 7 = .ok (.iconst 1, 1) := by decide +kernel
theorem dX12_manyBad_8 : decode cX12_manyBad 8 = .ok (.iadd, 1) := by decide +kernel
theorem dX12_manyBad_9 : decode cX12_manyBad 9 = .ok (.iastore, 1) := by decide +kernel
theorem dX12_manyBad_10 : decode cX12_manyBad 10 = .ok (.sipush (-10000), 3) := by decide +kernel
theorem dX12_manyBad_13 : decode cX12_manyBad 13 = .ok (.ireturn, 1) := by decide +kernel
theorem dX12_has_0 : decode cX12_has 0 = .ok (.iload_n 0, 1) := by decide +kernel
theorem dX12_has_1 : decode cX12_has 1 = .ok (.iload_n 1, 1) := by decide +kernel
theorem dX12_has_2 : decode cX12_has 2 = .ok (.ishr, 1) := by decide +kernel
theorem dX12_has_3 : decode cX12_has 3 = .ok (.iconst 1, 1) := by decide +kernel
theorem dX12_has_4 : decode cX12_has 4 = .ok (.iand, 1) := by decide +kernel
theorem dX12_has_5 : decode cX12_has 5 = .ok (.iconst 1, 1) := by decide +kernel
theorem dX12_has_6 : decode cX12_has 6 = .ok (.if_icmp .ne 7, 3) := by decide +kernel
theorem dX12_has_9 : decode cX12_has 9 = .ok (.iconst 1, 1) := by decide +kernel
theorem dX12_has_10 : decode cX12_has 10 = .ok (.goto 4, 3) := by decide +kernel
theorem dX12_has_13 : decode cX12_has 13 = .ok (.iconst 0, 1) := by decide +kernel
theorem dX12_has_14 : decode cX12_has 14 = .ok (.ireturn, 1) := by decide +kernel
theorem dX12_init_0 : decode cX12_init 0 = .ok (.aload_n 0, 1) := by decide +kernel
theorem dX12_init_1 : decode cX12_init 1 = .ok (.invokespecial 7, 3) := by decide +kernel
theorem dX12_init_4 : decode cX12_init 4 = .ok (.aload_n 0, 1) := by decide +kernel
theorem dX12_init_5 : decode cX12_init 5 = .ok (.iconst 3, 1) := by decide +kernel
theorem dX12_init_6 : decode cX12_init 6 = .ok (.newarray .int, 2) := by decide +kernel
theorem dX12_init_8 : decode cX12_init 8 = .ok (.putfield 1, 3) := by decide +kernel
theorem dX12_init_11 : decode cX12_init 11 = .ok (.aload_n 0, 1) := by decide +kernel
theorem dX12_init_12 : decode cX12_init 12 = .ok (.bipush 6, 2) := by decide +kernel
theorem dX12_init_14 : decode cX12_init 14 = .ok (.newarray .int, 2) := by decide +kernel
theorem dX12_init_16 : decode cX12_init 16 = .ok (.putfield 13, 3) := by decide +kernel
theorem dX12_init_19 : decode cX12_init 19 = .ok (.aload_n 0, 1) := by decide +kernel
theorem dX12_init_20 : decode cX12_init 20 = .ok (.bipush 6, 2) := by decide +kernel
theorem dX12_init_22 : decode cX12_init 22 = .ok (.newarray .int, 2) := by decide +kernel
theorem dX12_init_24 : decode cX12_init 24 = .ok (.putfield 16, 3) := by decide +kernel
theorem dX12_init_27 : decode cX12_init 27 = .ok (.aload_n 0, 1) := by decide +kernel
theorem dX12_init_28 : decode cX12_init 28 = .ok (.bipush 6, 2) := by decide +kernel
theorem dX12_init_30 : decode cX12_init 30 = .ok (.newarray .int, 2) := by decide +kernel
theorem dX12_init_32 : decode cX12_init 32 = .ok (.putfield 19, 3) := by decide +kernel
theorem dX12_init_35 : decode cX12_init 35 = .ok (.aload_n 0, 1) := by decide +kernel
theorem dX12_init_36 : decode cX12_init 36 = .ok (.bipush 6, 2) := by decide +kernel
theorem dX12_init_38 : decode cX12_init 38 = .ok (.newarray .int, 2) := by decide +kernel
theorem dX12_init_40 : decode cX12_init 40 = .ok (.putfield 22, 3) := by decide +kernel
theorem dX12_init_43 : decode cX12_init 43 = .ok (.aload_n 0, 1) := by decide +kernel
theorem dX12_init_44 : decode cX12_init 44 = .ok (.bipush 6, 2) := by decide +kernel
theorem dX12_init_46 : decode cX12_init 46 = .ok (.newarray .int, 2) := by decide +kernel
theorem dX12_init_48 : decode cX12_init 48 = .ok (.putfield 25, 3) := by decide +kernel
theorem dX12_init_51 : decode cX12_init 51 = .ok (.aload_n 0, 1) := by decide +kernel
theorem dX12_init_52 : decode cX12_init 52 = .ok (.bipush 6, 2) := by decide +kernel
theorem dX12_init_54 : decode cX12_init 54 = .ok (.newarray .int, 2) := by decide +kernel
theorem dX12_init_56 : decode cX12_init 56 = .ok (.putfield 28, 3) := by decide +kernel
theorem dX12_init_59 : decode cX12_init 59 = .ok (.aload_n 0, 1) := by decide +kernel
theorem dX12_init_60 : decode cX12_init 60 = .ok (.bipush 6, 2) := by decide +kernel
theorem dX12_init_62 : decode cX12_init 62 = .ok (.newarray .int, 2) := by decide +kernel
theorem dX12_init_64 : decode cX12_init 64 = .ok (.putfield 31, 3) := by decide +kernel
theorem dX12_init_67 : decode cX12_init 67 = .ok (.aload_n 0, 1) := by decide +kernel
theorem dX12_init_68 : decode cX12_init 68 = .ok (.sipush 150, 3) := by decide +kernel
theorem dX12_init_71 : decode cX12_init 71 = .ok (.newarray .int, 2) := by decide +kernel
theorem dX12_init_73 : decode cX12_init 73 = .ok (.putfield 34, 3) := by decide +kernel
theorem dX12_init_76 : decode cX12_init 76 = .ok (.aload_n 0, 1) := by decide +kernel
theorem dX12_init_77 : decode cX12_init 77 = .ok (.bipush 6, 2) := by decide +kernel
theorem dX12_init_79 : decode cX12_init 79 = .ok (.newarray .int, 2) := by decide +kernel
theorem dX12_init_81 : decode cX12_init 81 = .ok (.putfield 37, 3) := by decide +kernel
theorem dX12_init_84 : decode cX12_init 84 = .ok (.aload_n 0, 1) := by decide +kernel
theorem dX12_init_85 : decode cX12_init 85 = .ok (.bipush 18, 2) := by decide +kernel
theorem dX12_init_87 : decode cX12_init 87 = .ok (.newarray .int, 2) := by decide +kernel
theorem dX12_init_89 : decode cX12_init 89 = .ok (.putfield 40, 3) := by decide +kernel
theorem dX12_init_92 : decode cX12_init 92 = .ok (.aload_n 0, 1) := by decide +kernel
theorem dX12_init_93 : decode cX12_init 93 = .ok (.bipush 112, 2) := by decide +kernel
theorem dX12_init_95 : decode cX12_init 95 = .ok (.newarray .int, 2) := by decide +kernel
theorem dX12_init_97 : decode cX12_init 97 = .ok (.putfield 43, 3) := by decide +kernel
theorem dX12_init_100 : decode cX12_init 100 = .ok (.aload_n 0, 1) := by decide +kernel
theorem dX12_init_101 : decode cX12_init 101 = .ok (.bipush 14, 2) := by decide +kernel
theorem dX12_init_103 : decode cX12_init 103 = .ok (.newarray .int, 2) := by decide +kernel
theorem dX12_init_105 : decode cX12_init 105 = .ok (.putfield 46, 3) := by decide +kernel
theorem dX12_init_108 : decode cX12_init 108 = .ok (.aload_n 0, 1) := by decide +kernel
theorem dX12_init_109 : decode cX12_init 109 = .ok (.iconst 4, 1) := by decide +kernel
theorem dX12_init_110 : decode cX12_init 110 = .ok (.newarray .int, 2) := by decide +kernel
theorem dX12_init_112 : decode cX12_init 112 = .ok (.putfield 49, 3) := by decide +kernel
theorem dX12_init_115 : decode cX12_init 115 = .ok (.aload_n 0, 1) := by decide +kernel
theorem dX12_init_116 : decode cX12_init 116 = .ok (.iconst 4, 1) := by decide +kernel
theorem dX12_init_117 : decode cX12_init 117 = .ok (.newarray .int, 2) := by decide +kernel
theorem dX12_init_119 : decode cX12_init 119 = .ok (.putfield 52, 3) := by decide +kernel
theorem dX12_init_122 : decode cX12_init 122 = .ok (.aload_n 0, 1) := by decide +kernel
theorem dX12_init_123 : decode cX12_init 123 = .ok (.bipush 21, 2) := by decide +kernel
theorem dX12_init_125 : decode cX12_init 125 = .ok (.newarray .int, 2) := by decide +kernel
theorem dX12_init_127 : decode cX12_init 127 = .ok (.putfield 55, 3) := by decide +kernel
theorem dX12_init_130 : decode cX12_init 130 = .ok (.aload_n 0, 1) := by decide +kernel
theorem dX12_init_131 : decode cX12_init 131 = .ok (.sipush 147, 3) := by decide +kernel
theorem dX12_init_134 : decode cX12_init 134 = .ok (.newarray .int, 2) := by decide +kernel
theorem dX12_init_136 : decode cX12_init 136 = .ok (.putfield 58, 3) := by decide +kernel
theorem dX12_init_139 : decode cX12_init 139 = .ok (.aload_n 0, 1) := by decide +kernel
theorem dX12_init_140 : decode cX12_init 140 = .ok (.lconst 1, 1) := by decide +kernel
theorem dX12_init_141 : decode cX12_init 141 = .ok (.putfield 61, 3) := by decide +kernel
theorem dX12_init_144 : decode cX12_init 144 = .ok (.aload_n 0, 1) := by decide +kernel
theorem dX12_init_145 : decode cX12_init 145 = .ok (.sipush 320, 3) := by decide +kernel
theorem dX12_init_148 : decode cX12_init 148 = .ok (.newarray .int, 2) := by decide +kernel
theorem dX12_init_150 : decode cX12_init 150 = .ok (.putfield 65, 3) := by decide +kernel
theorem dX12_init_153 : decode cX12_init 153 = .ok (.aload_n 0, 1) := by decide +kernel
theorem dX12_init_154 : decode cX12_init 154 = .ok (.iconst 2, 1) := by decide +kernel
theorem dX12_init_155 : decode cX12_init 155 = .ok (.newarray .int, 2) := by decide +kernel
theorem dX12_init_157 : decode cX12_init 157 = .ok (.putfield 68, 3) := by decide +kernel
theorem dX12_init_160 : decode cX12_init 160 = .ok (.aload_n 0, 1) := by decide +kernel
theorem dX12_init_161 : decode cX12_init 161 = .ok (.invokevirtual 71, 3) := by decide +kernel
theorem dX12_init_164 : decode cX12_init 164 = .ok (.return_, 1) := by decide +kernel
theorem dX12_begin_0 : decode cX12_begin 0 = .ok (.aload_n 0, 1) := by decide +kernel
theorem dX12_begin_1 : decode cX12_begin 1 = .ok (.iconst 0, 1) := by decide +kernel
theorem dX12_begin_2 : decode cX12_begin 2 = .ok (.putfield 74, 3) := by decide +kernel
theorem dX12_begin_5 : decode cX12_begin 5 = .ok (.aload_n 0, 1) := by decide +kernel
theorem dX12_begin_6 : decode cX12_begin 6 = .ok (.iconst 0, 1) := by decide +kernel
theorem dX12_begin_7 : decode cX12_begin 7 = .ok (.putfield 78, 3) := by decide +kernel
theorem dX12_begin_10 : decode cX12_begin 10 = .ok (.aload_n 0, 1) := by decide +kernel
theorem dX12_begin_11 : decode cX12_begin 11 = .ok (.iconst 0, 1) := by decide +kernel
theorem dX12_begin_12 : decode cX12_begin 12 = .ok (.putfield 81, 3) := by decide +kernel
theorem dX12_begin_15 : decode cX12_begin 15 = .ok (.aload_n 0, 1) := by decide +kernel
theorem dX12_begin_16 : decode cX12_begin 16 = .ok (.iconst 0, 1) := by decide +kernel
theorem dX12_begin_17 : decode cX12_begin 17 = .ok (.putfield 84, 3) := by decide +kernel
theorem dX12_begin_20 : decode cX12_begin 20 = .ok (.aload_n 0, 1) := by decide +kernel
theorem dX12_begin_21 : decode cX12_begin 21 = .ok (.iconst 0, 1) := by decide +kernel
theorem dX12_begin_22 : decode cX12_begin 22 = .ok (.putfield 87, 3) := by decide +kernel
theorem dX12_begin_25 : decode cX12_begin 25 = .ok (.aload_n 0, 1) := by decide +kernel
theorem dX12_begin_26 : decode cX12_begin 26 = .ok (.iconst 0, 1) := by decide +kernel
theorem dX12_begin_27 : decode cX12_begin 27 = .ok (.putfield 90, 3) := by decide +kernel
theorem dX12_begin_30 : decode cX12_begin 30 = .ok (.return_, 1) := by decide +kernel
theorem dX12_isHand_0 : decode cX12_isHand 0 = .ok (.iload_n 1, 1) := by decide +kernel
theorem dX12_isHand_1 : decode cX12_isHand 1 = .ok (.iconst 0, 1) := by decide +kernel
theorem dX12_isHand_2 : decode cX12_isHand 2 = .ok (.aload_n 0, 1) := by decide +kernel
theorem dX12_isHand_3 : decode cX12_isHand 3 = .ok (.getfield 74, 3) := by decide +kernel
theorem dX12_isHand_6 : decode cX12_isHand 6 = .ok (.iconst 1, 1) := by decide +kernel
theorem dX12_isHand_7 : decode cX12_isHand 7 = .ok (.isub, 1) := by decide +kernel
theorem dX12_isHand_8 : decode cX12_isHand 8 = .ok (.invokestatic 93, 3) := by decide +kernel
theorem dX12_isHand_11 : decode cX12_isHand 11 = .ok (.ireturn, 1) := by decide +kernel
theorem dX12_isRock_0 : decode cX12_isRock 0 = .ok (.iconst 0, 1) := by decide +kernel
theorem dX12_isRock_1 : decode cX12_isRock 1 = .ok (.istore_n 2, 1) := by decide +kernel
theorem dX12_isRock_2 : decode cX12_isRock 2 = .ok (.iconst 0, 1) := by decide +kernel
theorem dX12_isRock_3 : decode cX12_isRock 3 = .ok (.istore_n 3, 1) := by decide +kernel
theorem dX12_isRock_4 : decode cX12_isRock 4 = .ok (.iload_n 3, 1) := by decide +kernel
theorem dX12_isRock_5 : decode cX12_isRock 5 = .ok (.aload_n 0, 1) := by decide +kernel
theorem dX12_isRock_6 : decode cX12_isRock 6 = .ok (.getfield 84, 3) := by decide +kernel
theorem dX12_isRock_9 : decode cX12_isRock 9 = .ok (.if_icmp .ge 29, 3) := by decide +kernel
theorem dX12_isRock_12 : decode cX12_isRock 12 = .ok (.iload_n 2, 1) := by decide +kernel
theorem dX12_isRock_13 : decode cX12_isRock 13 = .ok (.ifCond .ne 13, 3) := by decide +kernel
theorem dX12_isRock_16 : decode cX12_isRock 16 = .ok (.aload_n 0, 1) := by decide +kernel
theorem dX12_isRock_17 : decode cX12_isRock 17 = .ok (.getfield 25, 3) := by decide +kernel
theorem dX12_isRock_20 : decode cX12_isRock 20 = .ok (.iload_n 3, 1) := by decide +kernel
theorem dX12_isRock_21 : decode cX12_isRock 21 = .ok (.iaload, 1) := by decide +kernel
theorem dX12_isRock_22 : decode cX12_isRock 22 = .ok (.iload_n 1, 1) := by decide +kernel
theorem dX12_isRock_23 : decode cX12_isRock 23 = .ok (.if_icmp .ne 7, 3) := by decide +kernel
theorem dX12_isRock_26 : decode cX12_isRock 26 = .ok (.iconst 1, 1) := by decide +kernel
theorem dX12_isRock_27 : decode cX12_isRock 27 = .ok (.goto 4, 3) := by decide +kernel
theorem dX12_isRock_30 : decode cX12_isRock 30 = .ok (.iconst 0, 1) := by decide +kernel
theorem dX12_isRock_31 : decode cX12_isRock 31 = .ok (.istore_n 2, 1) := by decide +kernel
theorem dX12_isRock_32 : decode cX12_isRock 32 = .ok (.iinc 3 1, 3) := by decide +kernel
theorem dX12_isRock_35 : decode cX12_isRock 35 = .ok (.goto (-31), 3) := by decide +kernel
theorem dX12_isRock_38 : decode cX12_isRock 38 = .ok (.iload_n 2, 1) := by decide +kernel
theorem dX12_isRock_39 : decode cX12_isRock 39 = .ok (.ireturn, 1) := by decide +kernel
theorem dX12_ship_0 : decode cX12_ship 0 = .ok (.aload_n 0, 1) := by decide +kernel
theorem dX12_ship_1 : decode cX12_ship 1 = .ok (.getfield 74, 3) := by decide +kernel
theorem dX12_ship_4 : decode cX12_ship 4 = .ok (.istore_n 1, 1) := by decide +kernel
theorem dX12_ship_5 : decode cX12_ship 5 = .ok (.aload_n 0, 1) := by decide +kernel
theorem dX12_ship_6 : decode cX12_ship 6 = .ok (.invokevirtual 71, 3) := by decide +kernel
theorem dX12_ship_9 : decode cX12_ship 9 = .ok (.iload_n 1, 1) := by decide +kernel
theorem dX12_ship_10 : decode cX12_ship 10 = .ok (.ireturn, 1) := by decide +kernel
theorem dX12_addRock_0 : decode cX12_addRock 0 = .ok (.aload_n 0, 1) := by decide +kernel
theorem dX12_addRock_1 : decode cX12_addRock 1 = .ok (.getfield 25, 3) := by decide +kernel
theorem dX12_addRock_4 : decode cX12_addRock 4 = .ok (.aload_n 0, 1) := by decide +kernel
theorem dX12_addRock_5 : decode cX12_addRock 5 = .ok (.getfield 84, 3) := by decide +kernel
theorem dX12_addRock_8 : decode cX12_addRock 8 = .ok (.iload_n 1, 1) := by decide +kernel
theorem dX12_addRock_9 : decode cX12_addRock 9 = .ok (.iastore, 1) := by decide +kernel
theorem dX12_addRock_10 : decode cX12_addRock 10 = .ok (.aload_n 0, 1) := by decide +kernel
theorem dX12_addRock_11 : decode cX12_addRock 11 = .ok (.dup, 1) := by decide +kernel
theorem dX12_addRock_12 : decode cX12_addRock 12 = .ok (.getfield 84, 3) := by decide +kernel
theorem dX12_addRock_15 : decode cX12_addRock 15 = .ok (.iconst 1, 1) := by decide +kernel
theorem dX12_addRock_16 : decode cX12_addRock 16 = .ok (.iadd, 1) := by decide +kernel
theorem dX12_addRock_17 : decode cX12_addRock 17 = .ok (.putfield 84, 3) := by decide +kernel
theorem dX12_addRock_20 : decode cX12_addRock 20 = .ok (.aload_n 0, 1) := by decide +kernel
theorem dX12_addRock_21 : decode cX12_addRock 21 = .ok (.getfield 84, 3) := by decide +kernel
theorem dX12_addRock_24 : decode cX12_addRock 24 = .ok (.ireturn, 1) := by decide +kernel
theorem dX12_rock_0 : decode cX12_rock 0 = .ok (.iload_n 1, 1) := by decide +kernel
theorem dX12_rock_1 : decode cX12_rock 1 = .ok (.bipush (-60), 2) := by decide +kernel
theorem dX12_rock_3 : decode cX12_rock 3 = .ok (.bipush 60, 2) := by decide +kernel
theorem dX12_rock_5 : decode cX12_rock 5 = .ok (.invokestatic 93, 3) := by decide +kernel
theorem dX12_rock_8 : decode cX12_rock 8 = .ok (.ifCond .ne 8, 3) := by decide +kernel
theorem dX12_rock_11 : decode cX12_rock 11 = .ok (.aload_n 0, 1) := by decide +kernel
theorem dX12_rock_12 : decode cX12_rock 12 = .ok (.invokevirtual 97, 3) := by decide +kernel
theorem dX12_rock_15 : decode cX12_rock 15 = .ok (.ireturn, 1) := by decide +kernel
theorem dX12_rock_16 : decode cX12_rock 16 = .ok (.aload_n 0, 1) := by decide +kernel
theorem dX12_rock_17 : decode cX12_rock 17 = .ok (.iload_n 1, 1) := by decide +kernel
theorem dX12_rock_18 : decode cX12_rock 18 = .ok (.invokevirtual 101, 3) := by decide +kernel
theorem dX12_rock_21 : decode cX12_rock 21 = .ok (.ifCond .eq 8, 3) := by decide +kernel
theorem dX12_rock_24 : decode cX12_rock 24 = .ok (.aload_n 0, 1) := by decide +kernel
theorem dX12_rock_25 : decode cX12_rock 25 = .ok (.invokevirtual 105, 3) := by decide +kernel
theorem dX12_rock_28 : decode cX12_rock 28 = .ok (.ireturn, 1) := by decide +kernel
theorem dX12_rock_29 : decode cX12_rock 29 = .ok (.aload_n 0, 1) := by decide +kernel
theorem dX12_rock_30 : decode cX12_rock 30 = .ok (.getfield 84, 3) := by decide +kernel
theorem dX12_rock_33 : decode cX12_rock 33 = .ok (.bipush 6, 2) := by decide +kernel
theorem dX12_rock_35 : decode cX12_rock 35 = .ok (.if_icmp .ne 10, 3) := by decide +kernel
theorem dX12_rock_38 : decode cX12_rock 38 = .ok (.aload_n 0, 1) := by decide +kernel
theorem dX12_rock_39 : decode cX12_rock 39 = .ok (.invokevirtual 108, 3) := by decide +kernel
theorem dX12_rock_42 : decode cX12_rock 42 = .ok (.goto 8, 3) := by decide +kernel
theorem dX12_rock_45 : decode cX12_rock 45 = .ok (.aload_n 0, 1) := by decide +kernel
theorem dX12_rock_46 : decode cX12_rock 46 = .ok (.iload_n 1, 1) := by decide +kernel
theorem dX12_rock_47 : decode cX12_rock 47 = .ok (.invokevirtual 111, 3) := by decide +kernel
theorem dX12_rock_50 : decode cX12_rock 50 = .ok (.ireturn, 1) := by decide +kernel
theorem dX12_addHand_0 : decode cX12_addHand 0 = .ok (.aload_n 0, 1) := by decide +kernel
theorem dX12_addHand_1 : decode cX12_addHand 1 = .ok (.getfield 13, 3) := by decide +kernel
theorem dX12_addHand_4 : decode cX12_addHand 4 = .ok (.aload_n 0, 1) := by decide +kernel
theorem dX12_addHand_5 : decode cX12_addHand 5 = .ok (.getfield 74, 3) := by decide +kernel
theorem dX12_addHand_8 : decode cX12_addHand 8 = .ok (.iload_n 1, 1) := by decide +kernel
theorem dX12_addHand_9 : decode cX12_addHand 9 = .ok (.iastore, 1) := by decide +kernel
theorem dX12_addHand_10 : decode cX12_addHand 10 = .ok (.aload_n 0, 1) := by decide +kernel
theorem dX12_addHand_11 : decode cX12_addHand 11 = .ok (.getfield 16, 3) := by decide +kernel
theorem dX12_addHand_14 : decode cX12_addHand 14 = .ok (.aload_n 0, 1) := by decide +kernel
theorem dX12_addHand_15 : decode cX12_addHand 15 = .ok (.getfield 74, 3) := by decide +kernel
theorem dX12_addHand_18 : decode cX12_addHand 18 = .ok (.iload_n 2, 1) := by decide +kernel
theorem dX12_addHand_19 : decode cX12_addHand 19 = .ok (.iastore, 1) := by decide +kernel
theorem dX12_addHand_20 : decode cX12_addHand 20 = .ok (.aload_n 0, 1) := by decide +kernel
theorem dX12_addHand_21 : decode cX12_addHand 21 = .ok (.getfield 19, 3) := by decide +kernel
theorem dX12_addHand_24 : decode cX12_addHand 24 = .ok (.aload_n 0, 1) := by decide +kernel
theorem dX12_addHand_25 : decode cX12_addHand 25 = .ok (.getfield 74, 3) := by decide +kernel
theorem dX12_addHand_28 : decode cX12_addHand 28 = .ok (.iload_n 3, 1) := by decide +kernel
theorem dX12_addHand_29 : decode cX12_addHand 29 = .ok (.iastore, 1) := by decide +kernel
theorem dX12_addHand_30 : decode cX12_addHand 30 = .ok (.aload_n 0, 1) := by decide +kernel
theorem dX12_addHand_31 : decode cX12_addHand 31 = .ok (.getfield 22, 3) := by decide +kernel
theorem dX12_addHand_34 : decode cX12_addHand 34 = .ok (.aload_n 0, 1) := by decide +kernel
theorem dX12_addHand_35 : decode cX12_addHand 35 = .ok (.getfield 74, 3) := by decide +kernel
theorem dX12_addHand_38 : decode cX12_addHand 38 = .ok (.iconst 0, 1) := by decide +kernel
theorem dX12_addHand_39 : decode cX12_addHand 39 = .ok (.iastore, 1) := by decide +kernel
theorem dX12_addHand_40 : decode cX12_addHand 40 = .ok (.aload_n 0, 1) := by decide +kernel
theorem dX12_addHand_41 : decode cX12_addHand 41 = .ok (.dup, 1) := by decide +kernel
theorem dX12_addHand_42 : decode cX12_addHand 42 = .ok (.getfield 74, 3) := by decide +kernel
theorem dX12_addHand_45 : decode cX12_addHand 45 = .ok (.iconst 1, 1) := by decide +kernel
theorem dX12_addHand_46 : decode cX12_addHand 46 = .ok (.iadd, 1) := by decide +kernel
theorem dX12_addHand_47 : decode cX12_addHand 47 = .ok (.putfield 74, 3) := by decide +kernel
theorem dX12_addHand_50 : decode cX12_addHand 50 = .ok (.aload_n 0, 1) := by decide +kernel
theorem dX12_addHand_51 : decode cX12_addHand 51 = .ok (.iconst 0, 1) := by decide +kernel
theorem dX12_addHand_52 : decode cX12_addHand 52 = .ok (.putfield 90, 3) := by decide +kernel
theorem dX12_addHand_55 : decode cX12_addHand 55 = .ok (.aload_n 0, 1) := by decide +kernel
theorem dX12_addHand_56 : decode cX12_addHand 56 = .ok (.getfield 74, 3) := by decide +kernel
theorem dX12_addHand_59 : decode cX12_addHand 59 = .ok (.iconst 1, 1) := by decide +kernel
theorem dX12_addHand_60 : decode cX12_addHand 60 = .ok (.isub, 1) := by decide +kernel
theorem dX12_addHand_61 : decode cX12_addHand 61 = .ok (.ireturn, 1) := by decide +kernel
theorem dX12_hand_0 : decode cX12_hand 0 = .ok (.iload_n 1, 1) := by decide +kernel
theorem dX12_hand_1 : decode cX12_hand 1 = .ok (.iconst 0, 1) := by decide +kernel
theorem dX12_hand_2 : decode cX12_hand 2 = .ok (.iconst 5, 1) := by decide +kernel
theorem dX12_hand_3 : decode cX12_hand 3 = .ok (.invokestatic 93, 3) := by decide +kernel
theorem dX12_hand_6 : decode cX12_hand 6 = .ok (.ifCond .eq 23, 3) := by decide +kernel
theorem dX12_hand_9 : decode cX12_hand 9 = .ok (.iload_n 2, 1) := by decide +kernel
theorem dX12_hand_10 : decode cX12_hand 10 = .ok (.iconst 0, 1) := by decide +kernel
theorem dX12_hand_11 : decode cX12_hand 11 = .ok (.bipush 40, 2) := by decide +kernel
theorem dX12_hand_13 : decode cX12_hand 13 = .ok (.invokestatic 93, 3) := by decide +kernel
theorem dX12_hand_16 : decode cX12_hand 16 = .ok (.ifCond .eq 13, 3) := by decide +kernel
theorem dX12_hand_19 : decode cX12_hand 19 = .ok (.iload_n 3, 1) := by decide +kernel
theorem dX12_hand_20 : decode cX12_hand 20 = .ok (.bipush (-3), 2) := by decide +kernel
theorem dX12_hand_22 : decode cX12_hand 22 = .ok (.iconst 3, 1) := by decide +kernel
theorem dX12_hand_23 : decode cX12_hand 23 = .ok (.invokestatic 93, 3) := by decide +kernel
theorem dX12_hand_26 : decode cX12_hand 26 = .ok (.ifCond .ne 8, 3) := by decide +kernel
theorem dX12_hand_29 : decode cX12_hand 29 = .ok (.aload_n 0, 1) := by decide +kernel
theorem dX12_hand_30 : decode cX12_hand 30 = .ok (.invokevirtual 97, 3) := by decide +kernel
theorem dX12_hand_33 : decode cX12_hand 33 = .ok (.ireturn, 1) := by decide +kernel
theorem dX12_hand_34 : decode cX12_hand 34 = .ok (.aload_n 0, 1) := by decide +kernel
theorem dX12_hand_35 : decode cX12_hand 35 = .ok (.getfield 74, 3) := by decide +kernel
theorem dX12_hand_38 : decode cX12_hand 38 = .ok (.bipush 6, 2) := by decide +kernel
theorem dX12_hand_40 : decode cX12_hand 40 = .ok (.if_icmp .ne 10, 3) := by decide +kernel
theorem dX12_hand_43 : decode cX12_hand 43 = .ok (.aload_n 0, 1) := by decide +kernel
theorem dX12_hand_44 : decode cX12_hand 44 = .ok (.invokevirtual 108, 3) := by decide +kernel
theorem dX12_hand_47 : decode cX12_hand 47 = .ok (.goto 10, 3) := by decide +kernel
theorem dX12_hand_50 : decode cX12_hand 50 = .ok (.aload_n 0, 1) := by decide +kernel
theorem dX12_hand_51 : decode cX12_hand 51 = .ok (.iload_n 1, 1) := by decide +kernel
theorem dX12_hand_52 : decode cX12_hand 52 = .ok (.iload_n 2, 1) := by decide +kernel
theorem dX12_hand_53 : decode cX12_hand 53 = .ok (.iload_n 3, 1) := by decide +kernel
theorem dX12_hand_54 : decode cX12_hand 54 = .ok (.invokevirtual 115, 3) := by decide +kernel
theorem dX12_hand_57 : decode cX12_hand 57 = .ok (.ireturn, 1) := by decide +kernel
theorem dX12_type_0 : decode cX12_type 0 = .ok (.iload_n 1, 1) := by decide +kernel
theorem dX12_type_1 : decode cX12_type 1 = .ok (.iconst 0, 1) := by decide +kernel
theorem dX12_type_2 : decode cX12_type 2 = .ok (.bipush 127, 2) := by decide +kernel
theorem dX12_type_4 : decode cX12_type 4 = .ok (.invokestatic 93, 3) := by decide +kernel
theorem dX12_type_7 : decode cX12_type 7 = .ok (.ifCond .ne 8, 3) := by decide +kernel
theorem dX12_type_10 : decode cX12_type 10 = .ok (.aload_n 0, 1) := by decide +kernel
theorem dX12_type_11 : decode cX12_type 11 = .ok (.invokevirtual 97, 3) := by decide +kernel
theorem dX12_type_14 : decode cX12_type 14 = .ok (.ireturn, 1) := by decide +kernel
theorem dX12_type_15 : decode cX12_type 15 = .ok (.aload_n 0, 1) := by decide +kernel
theorem dX12_type_16 : decode cX12_type 16 = .ok (.getfield 119, 3) := by decide +kernel
theorem dX12_type_19 : decode cX12_type 19 = .ok (.sipush 150, 3) := by decide +kernel
theorem dX12_type_22 : decode cX12_type 22 = .ok (.if_icmp .ne 8, 3) := by decide +kernel
theorem dX12_type_25 : decode cX12_type 25 = .ok (.aload_n 0, 1) := by decide +kernel
theorem dX12_type_26 : decode cX12_type 26 = .ok (.invokevirtual 108, 3) := by decide +kernel
theorem dX12_type_29 : decode cX12_type 29 = .ok (.ireturn, 1) := by decide +kernel
theorem dX12_type_30 : decode cX12_type 30 = .ok (.aload_n 0, 1) := by decide +kernel
theorem dX12_type_31 : decode cX12_type 31 = .ok (.getfield 34, 3) := by decide +kernel
theorem dX12_type_34 : decode cX12_type 34 = .ok (.aload_n 0, 1) := by decide +kernel
theorem dX12_type_35 : decode cX12_type 35 = .ok (.getfield 119, 3) := by decide +kernel
theorem dX12_type_38 : decode cX12_type 38 = .ok (.iload_n 1, 1) := by decide +kernel
theorem dX12_type_39 : decode cX12_type 39 = .ok (.iastore, 1) := by decide +kernel
theorem dX12_type_40 : decode cX12_type 40 = .ok (.aload_n 0, 1) := by decide +kernel
theorem dX12_type_41 : decode cX12_type 41 = .ok (.dup, 1) := by decide +kernel
theorem dX12_type_42 : decode cX12_type 42 = .ok (.getfield 119, 3) := by decide +kernel
theorem dX12_type_45 : decode cX12_type 45 = .ok (.iconst 1, 1) := by decide +kernel
theorem dX12_type_46 : decode cX12_type 46 = .ok (.iadd, 1) := by decide +kernel
theorem dX12_type_47 : decode cX12_type 47 = .ok (.putfield 119, 3) := by decide +kernel
theorem dX12_type_50 : decode cX12_type 50 = .ok (.aload_n 0, 1) := by decide +kernel
theorem dX12_type_51 : decode cX12_type 51 = .ok (.getfield 119, 3) := by decide +kernel
theorem dX12_type_54 : decode cX12_type 54 = .ok (.ireturn, 1) := by decide +kernel
theorem dX12_clear_0 : decode cX12_clear 0 = .ok (.aload_n 0, 1) := by decide +kernel
theorem dX12_clear_1 : decode cX12_clear 1 = .ok (.getfield 119, 3) := by decide +kernel
theorem dX12_clear_4 : decode cX12_clear 4 = .ok (.istore_n 1, 1) := by decide +kernel
theorem dX12_clear_5 : decode cX12_clear 5 = .ok (.aload_n 0, 1) := by decide +kernel
theorem dX12_clear_6 : decode cX12_clear 6 = .ok (.iconst 0, 1) := by decide +kernel
theorem dX12_clear_7 : decode cX12_clear 7 = .ok (.putfield 119, 3) := by decide +kernel
theorem dX12_clear_10 : decode cX12_clear 10 = .ok (.iload_n 1, 1) := by decide +kernel
theorem dX12_clear_11 : decode cX12_clear 11 = .ok (.ireturn, 1) := by decide +kernel
theorem dX12_here_0 : decode cX12_here 0 = .ok (.aload_n 0, 1) := by decide +kernel
theorem dX12_here_1 : decode cX12_here 1 = .ok (.getfield 122, 3) := by decide +kernel
theorem dX12_here_4 : decode cX12_here 4 = .ok (.aload_n 0, 1) := by decide +kernel
theorem dX12_here_5 : decode cX12_here 5 = .ok (.getfield 119, 3) := by decide +kernel
theorem dX12_here_8 : decode cX12_here 8 = .ok (.if_icmp .ge 15, 3) := by decide +kernel
theorem dX12_here_11 : decode cX12_here 11 = .ok (.aload_n 0, 1) := by decide +kernel
theorem dX12_here_12 : decode cX12_here 12 = .ok (.getfield 34, 3) := by decide +kernel
theorem dX12_here_15 : decode cX12_here 15 = .ok (.aload_n 0, 1) := by decide +kernel
theorem dX12_here_16 : decode cX12_here 16 = .ok (.getfield 122, 3) := by decide +kernel
theorem dX12_here_19 : decode cX12_here 19 = .ok (.iaload, 1) := by decide +kernel
theorem dX12_here_20 : decode cX12_here 20 = .ok (.goto 4, 3) := by decide +kernel
theorem dX12_here_23 : decode cX12_here 23 = .ok (.iconst (-1), 1) := by decide +kernel
theorem dX12_here_24 : decode cX12_here 24 = .ok (.ireturn, 1) := by decide +kernel
theorem dX12_skip_0 : decode cX12_skip 0 = .ok (.aload_n 0, 1) := by decide +kernel
theorem dX12_skip_1 : decode cX12_skip 1 = .ok (.invokevirtual 125, 3) := by decide +kernel
theorem dX12_skip_4 : decode cX12_skip 4 = .ok (.bipush 32, 2) := by decide +kernel
theorem dX12_skip_6 : decode cX12_skip 6 = .ok (.if_icmp .ne 16, 3) := by decide +kernel
theorem dX12_skip_9 : decode cX12_skip 9 = .ok (.aload_n 0, 1) := by decide +kernel
theorem dX12_skip_10 : decode cX12_skip 10 = .ok (.dup, 1) := by decide +kernel
theorem dX12_skip_11 : decode cX12_skip 11 = .ok (.getfield 122, 3) := by decide +kernel
theorem dX12_skip_14 : decode cX12_skip 14 = .ok (.iconst 1, 1) := by decide +kernel
theorem dX12_skip_15 : decode cX12_skip 15 = .ok (.iadd, 1) := by decide +kernel
theorem dX12_skip_16 : decode cX12_skip 16 = .ok (.putfield 122, 3) := by decide +kernel
theorem dX12_skip_19 : decode cX12_skip 19 = .ok (.goto (-19), 3) := by decide +kernel
theorem dX12_skip_22 : decode cX12_skip 22 = .ok (.return_, 1) := by decide +kernel
theorem dX12_isLetter_0 : decode cX12_isLetter 0 = .ok (.iload_n 0, 1) := by decide +kernel
theorem dX12_isLetter_1 : decode cX12_isLetter 1 = .ok (.bipush 97, 2) := by decide +kernel
theorem dX12_isLetter_3 : decode cX12_isLetter 3 = .ok (.bipush 122, 2) := by decide +kernel
theorem dX12_isLetter_5 : decode cX12_isLetter 5 = .ok (.invokestatic 93, 3) := by decide +kernel
theorem dX12_isLetter_8 : decode cX12_isLetter 8 = .ok (.ireturn, 1) := by decide +kernel
theorem dX12_isFigure_0 : decode cX12_isFigure 0 = .ok (.iload_n 0, 1) := by decide +kernel
theorem dX12_isFigure_1 : decode cX12_isFigure 1 = .ok (.bipush 48, 2) := by decide +kernel
theorem dX12_isFigure_3 : decode cX12_isFigure 3 = .ok (.bipush 57, 2) := by decide +kernel
theorem dX12_isFigure_5 : decode cX12_isFigure 5 = .ok (.invokestatic 93, 3) := by decide +kernel
theorem dX12_isFigure_8 : decode cX12_isFigure 8 = .ok (.ireturn, 1) := by decide +kernel
theorem dX12_wordSize_0 : decode cX12_wordSize 0 = .ok (.iconst 0, 1) := by decide +kernel
theorem dX12_wordSize_1 : decode cX12_wordSize 1 = .ok (.istore_n 1, 1) := by decide +kernel
theorem dX12_wordSize_2 : decode cX12_wordSize 2 = .ok (.aload_n 0, 1) := by decide +kernel
theorem dX12_wordSize_3 : decode cX12_wordSize 3 = .ok (.getfield 122, 3) := by decide +kernel
theorem dX12_wordSize_6 : decode cX12_wordSize 6 = .ok (.iload_n 1, 1) := by decide +kernel
theorem dX12_wordSize_7 : decode cX12_wordSize 7 = .ok (.iadd, 1) := by decide +kernel
theorem dX12_wordSize_8 : decode cX12_wordSize 8 = .ok (.aload_n 0, 1) := by decide +kernel
theorem dX12_wordSize_9 : decode cX12_wordSize 9 = .ok (.getfield 119, 3) := by decide +kernel
theorem dX12_wordSize_12 : decode cX12_wordSize 12 = .ok (.if_icmp .ge 26, 3) := by decide +kernel
theorem dX12_wordSize_15 : decode cX12_wordSize 15 = .ok (.aload_n 0, 1) := by decide +kernel
theorem dX12_wordSize_16 : decode cX12_wordSize 16 = .ok (.getfield 34, 3) := by decide +kernel
theorem dX12_wordSize_19 : decode cX12_wordSize 19 = .ok (.aload_n 0, 1) := by decide +kernel
theorem dX12_wordSize_20 : decode cX12_wordSize 20 = .ok (.getfield 122, 3) := by decide +kernel
theorem dX12_wordSize_23 : decode cX12_wordSize 23 = .ok (.iload_n 1, 1) := by decide +kernel
theorem dX12_wordSize_24 : decode cX12_wordSize 24 = .ok (.iadd, 1) := by decide +kernel
theorem dX12_wordSize_25 : decode cX12_wordSize 25 = .ok (.iaload, 1) := by decide +kernel
theorem dX12_wordSize_26 : decode cX12_wordSize 26 = .ok (.invokestatic 128, 3) := by decide +kernel
theorem dX12_wordSize_29 : decode cX12_wordSize 29 = .ok (.ifCond .eq 9, 3) := by decide +kernel
theorem dX12_wordSize_32 : decode cX12_wordSize 32 = .ok (.iinc 1 1, 3) := by decide +kernel
theorem dX12_wordSize_35 : decode cX12_wordSize 35 = .ok (.goto (-33), 3) := by decide +kernel
theorem dX12_wordSize_38 : decode cX12_wordSize 38 = .ok (.iload_n 1, 1) := by decide +kernel
theorem dX12_wordSize_39 : decode cX12_wordSize 39 = .ok (.ireturn, 1) := by decide +kernel
theorem dX12_letter_0 : decode cX12_letter 0 = .ok (.aload_n 0, 1) := by decide +kernel
theorem dX12_letter_1 : decode cX12_letter 1 = .ok (.getfield 34, 3) := by decide +kernel
theorem dX12_letter_4 : decode cX12_letter 4 = .ok (.aload_n 0, 1) := by decide +kernel
theorem dX12_letter_5 : decode cX12_letter 5 = .ok (.getfield 122, 3) := by decide +kernel
theorem dX12_letter_8 : decode cX12_letter 8 = .ok (.iload_n 1, 1) := by decide +kernel
theorem dX12_letter_9 : decode cX12_letter 9 = .ok (.iadd, 1) := by decide +kernel
theorem dX12_letter_10 : decode cX12_letter 10 = .ok (.iaload, 1) := by decide +kernel
theorem dX12_letter_11 : decode cX12_letter 11 = .ok (.ireturn, 1) := by decide +kernel
theorem dX12_spells_0 : decode cX12_spells 0 = .ok (.aload_n 0, 1) := by decide +kernel
theorem dX12_spells_1 : decode cX12_spells 1 = .ok (.invokevirtual 131, 3) := by decide +kernel
theorem dX12_spells_4 : decode cX12_spells 4 = .ok (.iconst 4, 1) := by decide +kernel
theorem dX12_spells_5 : decode cX12_spells 5 = .ok (.if_icmp .ne 44, 3) := by decide +kernel
theorem dX12_spells_8 : decode cX12_spells 8 = .ok (.aload_n 0, 1) := by decide +kernel
theorem dX12_spells_9 : decode cX12_spells 9 = .ok (.iconst 0, 1) := by decide +kernel
theorem dX12_spells_10 : decode cX12_spells 10 = .ok (.invokevirtual 134, 3) := by decide +kernel
theorem dX12_spells_13 : decode cX12_spells 13 = .ok (.iload_n 1, 1) := by decide +kernel
theorem dX12_spells_14 : decode cX12_spells 14 = .ok (.if_icmp .ne 35, 3) := by decide +kernel
theorem dX12_spells_17 : decode cX12_spells 17 = .ok (.aload_n 0, 1) := by decide +kernel
theorem dX12_spells_18 : decode cX12_spells 18 = .ok (.iconst 1, 1) := by decide +kernel
theorem dX12_spells_19 : decode cX12_spells 19 = .ok (.invokevirtual 134, 3) := by decide +kernel
theorem dX12_spells_22 : decode cX12_spells 22 = .ok (.iload_n 2, 1) := by decide +kernel
theorem dX12_spells_23 : decode cX12_spells 23 = .ok (.if_icmp .ne 26, 3) := by decide +kernel
theorem dX12_spells_26 : decode cX12_spells 26 = .ok (.aload_n 0, 1) := by decide +kernel
theorem dX12_spells_27 : decode cX12_spells 27 = .ok (.iconst 2, 1) := by decide +kernel
theorem dX12_spells_28 : decode cX12_spells 28 = .ok (.invokevirtual 134, 3) := by decide +kernel
theorem dX12_spells_31 : decode cX12_spells 31 = .ok (.iload_n 3, 1) := by decide +kernel
theorem dX12_spells_32 : decode cX12_spells 32 = .ok (.if_icmp .ne 17, 3) := by decide +kernel
theorem dX12_spells_35 : decode cX12_spells 35 = .ok (.aload_n 0, 1) := by decide +kernel
theorem dX12_spells_36 : decode cX12_spells 36 = .ok (.iconst 3, 1) := by decide +kernel
theorem dX12_spells_37 : decode cX12_spells 37 = .ok (.invokevirtual 134, 3) := by decide +kernel
theorem dX12_spells_40 : decode cX12_spells 40 = .ok (.iload 4, 2) := by decide +kernel
theorem dX12_spells_42 : decode cX12_spells 42 = .ok (.if_icmp .ne 7, 3) := by decide +kernel
theorem dX12_spells_45 : decode cX12_spells 45 = .ok (.iconst 1, 1) := by decide +kernel
theorem dX12_spells_46 : decode cX12_spells 46 = .ok (.goto 4, 3) := by decide +kernel
theorem dX12_spells_49 : decode cX12_spells 49 = .ok (.iconst 0, 1) := by decide +kernel
theorem dX12_spells_50 : decode cX12_spells 50 = .ok (.ireturn, 1) := by decide +kernel
theorem dX12_wordHere_0 : decode cX12_wordHere 0 = .ok (.aload_n 0, 1) := by decide +kernel
theorem dX12_wordHere_1 : decode cX12_wordHere 1 = .ok (.bipush 115, 2) := by decide +kernel
theorem dX12_wordHere_3 : decode cX12_wordHere 3 = .ok (.bipush 104, 2) := by decide +kernel
theorem dX12_wordHere_5 : decode cX12_wordHere 5 = .ok (.bipush 105, 2) := by decide +kernel
theorem dX12_wordHere_7 : decode cX12_wordHere 7 = .ok (.bipush 112, 2) := by decide +kernel
theorem dX12_wordHere_9 : decode cX12_wordHere 9 = .ok (.invokevirtual 137, 3) := by decide +kernel
theorem dX12_wordHere_12 : decode cX12_wordHere 12 = .ok (.ifCond .eq 7, 3) := by decide +kernel
theorem dX12_wordHere_15 : decode cX12_wordHere 15 = .ok (.iconst 0, 1) := by decide +kernel
theorem dX12_wordHere_16 : decode cX12_wordHere 16 = .ok (.goto 80, 3) := by decide +kernel
theorem dX12_wordHere_19 : decode cX12_wordHere 19 = .ok (.aload_n 0, 1) := by decide +kernel
theorem dX12_wordHere_20 : decode cX12_wordHere 20 = .ok (.bipush 114, 2) := by decide +kernel
theorem dX12_wordHere_22 : decode cX12_wordHere 22 = .ok (.bipush 111, 2) := by decide +kernel
theorem dX12_wordHere_24 : decode cX12_wordHere 24 = .ok (.bipush 99, 2) := by decide +kernel
theorem dX12_wordHere_26 : decode cX12_wordHere 26 = .ok (.bipush 107, 2) := by decide +kernel
theorem dX12_wordHere_28 : decode cX12_wordHere 28 = .ok (.invokevirtual 137, 3) := by decide +kernel
theorem dX12_wordHere_31 : decode cX12_wordHere 31 = .ok (.ifCond .eq 7, 3) := by decide +kernel
theorem dX12_wordHere_34 : decode cX12_wordHere 34 = .ok (.iconst 1, 1) := by decide +kernel
theorem dX12_wordHere_35 : decode cX12_wordHere 35 = .ok (.goto 61, 3) := by decide +kernel
theorem dX12_wordHere_38 : decode cX12_wordHere 38 = .ok (.aload_n 0, 1) := by decide +kernel
theorem dX12_wordHere_39 : decode cX12_wordHere 39 = .ok (.bipush 114, 2) := by decide +kernel
theorem dX12_wordHere_41 : decode cX12_wordHere 41 = .ok (.bipush 101, 2) := by decide +kernel
theorem dX12_wordHere_43 : decode cX12_wordHere 43 = .ok (.bipush 101, 2) := by decide +kernel
theorem dX12_wordHere_45 : decode cX12_wordHere 45 = .ok (.bipush 102, 2) := by decide +kernel
theorem dX12_wordHere_47 : decode cX12_wordHere 47 = .ok (.invokevirtual 137, 3) := by decide +kernel
theorem dX12_wordHere_50 : decode cX12_wordHere 50 = .ok (.ifCond .eq 7, 3) := by decide +kernel
theorem dX12_wordHere_53 : decode cX12_wordHere 53 = .ok (.iconst 2, 1) := by decide +kernel
theorem dX12_wordHere_54 : decode cX12_wordHere 54 = .ok (.goto 42, 3) := by decide +kernel
theorem dX12_wordHere_57 : decode cX12_wordHere 57 = .ok (.aload_n 0, 1) := by decide +kernel
theorem dX12_wordHere_58 : decode cX12_wordHere 58 = .ok (.bipush 104, 2) := by decide +kernel
theorem dX12_wordHere_60 : decode cX12_wordHere 60 = .ok (.bipush 97, 2) := by decide +kernel
theorem dX12_wordHere_62 : decode cX12_wordHere 62 = .ok (.bipush 110, 2) := by decide +kernel
theorem dX12_wordHere_64 : decode cX12_wordHere 64 = .ok (.bipush 100, 2) := by decide +kernel
theorem dX12_wordHere_66 : decode cX12_wordHere 66 = .ok (.invokevirtual 137, 3) := by decide +kernel
theorem dX12_wordHere_69 : decode cX12_wordHere 69 = .ok (.ifCond .eq 7, 3) := by decide +kernel
theorem dX12_wordHere_72 : decode cX12_wordHere 72 = .ok (.iconst 3, 1) := by decide +kernel
theorem dX12_wordHere_73 : decode cX12_wordHere 73 = .ok (.goto 23, 3) := by decide +kernel
theorem dX12_wordHere_76 : decode cX12_wordHere 76 = .ok (.aload_n 0, 1) := by decide +kernel
theorem dX12_wordHere_77 : decode cX12_wordHere 77 = .ok (.bipush 108, 2) := by decide +kernel
theorem dX12_wordHere_79 : decode cX12_wordHere 79 = .ok (.bipush 101, 2) := by decide +kernel
theorem dX12_wordHere_81 : decode cX12_wordHere 81 = .ok (.bipush 97, 2) := by decide +kernel
theorem dX12_wordHere_83 : decode cX12_wordHere 83 = .ok (.bipush 110, 2) := by decide +kernel
theorem dX12_wordHere_85 : decode cX12_wordHere 85 = .ok (.invokevirtual 137, 3) := by decide +kernel
theorem dX12_wordHere_88 : decode cX12_wordHere 88 = .ok (.ifCond .eq 7, 3) := by decide +kernel
theorem dX12_wordHere_91 : decode cX12_wordHere 91 = .ok (.iconst 4, 1) := by decide +kernel
theorem dX12_wordHere_92 : decode cX12_wordHere 92 = .ok (.goto 4, 3) := by decide +kernel
theorem dX12_wordHere_95 : decode cX12_wordHere 95 = .ok (.iconst (-1), 1) := by decide +kernel
theorem dX12_wordHere_96 : decode cX12_wordHere 96 = .ok (.ireturn, 1) := by decide +kernel
theorem dX12_number_0 : decode cX12_number 0 = .ok (.aload_n 0, 1) := by decide +kernel
theorem dX12_number_1 : decode cX12_number 1 = .ok (.invokevirtual 141, 3) := by decide +kernel
theorem dX12_number_4 : decode cX12_number 4 = .ok (.iconst 0, 1) := by decide +kernel
theorem dX12_number_5 : decode cX12_number 5 = .ok (.istore_n 3, 1) := by decide +kernel
theorem dX12_number_6 : decode cX12_number 6 = .ok (.iconst 0, 1) := by decide +kernel
theorem dX12_number_7 : decode cX12_number 7 = .ok (.istore 4, 2) := by decide +kernel
theorem dX12_number_9 : decode cX12_number 9 = .ok (.aload_n 0, 1) := by decide +kernel
theorem dX12_number_10 : decode cX12_number 10 = .ok (.getfield 122, 3) := by decide +kernel
theorem dX12_number_13 : decode cX12_number 13 = .ok (.iload_n 3, 1) := by decide +kernel
theorem dX12_number_14 : decode cX12_number 14 = .ok (.iadd, 1) := by decide +kernel
theorem dX12_number_15 : decode cX12_number 15 = .ok (.aload_n 0, 1) := by decide +kernel
theorem dX12_number_16 : decode cX12_number 16 = .ok (.getfield 119, 3) := by decide +kernel
theorem dX12_number_19 : decode cX12_number 19 = .ok (.if_icmp .ge 58, 3) := by decide +kernel
theorem dX12_number_22 : decode cX12_number 22 = .ok (.aload_n 0, 1) := by decide +kernel
theorem dX12_number_23 : decode cX12_number 23 = .ok (.getfield 34, 3) := by decide +kernel
theorem dX12_number_26 : decode cX12_number 26 = .ok (.aload_n 0, 1) := by decide +kernel
theorem dX12_number_27 : decode cX12_number 27 = .ok (.getfield 122, 3) := by decide +kernel
theorem dX12_number_30 : decode cX12_number 30 = .ok (.iload_n 3, 1) := by decide +kernel
theorem dX12_number_31 : decode cX12_number 31 = .ok (.iadd, 1) := by decide +kernel
theorem dX12_number_32 : decode cX12_number 32 = .ok (.iaload, 1) := by decide +kernel
theorem dX12_number_33 : decode cX12_number 33 = .ok (.invokestatic 144, 3) := by decide +kernel
