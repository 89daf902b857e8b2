theorem dX10_init_0 : decode cX10_init 0 = .ok (.aload_n 0, 1) := by decide +kernel
theorem dX10_init_1 : decode cX10_init 1 = .ok (.invokespecial 1, 3) := by decide +kernel
theorem dX10_init_4 : decode cX10_init 4 = .ok (.aload_n 0, 1) := by decide +kernel
theorem dX10_init_5 : decode cX10_init 5 = .ok (.new 7, 3) := by decide +kernel
theorem dX10_init_8 : decode cX10_init 8 = .ok (.dup, 1) := by decide +kernel
theorem dX10_init_9 : decode cX10_init 9 = .ok (.invokespecial 9, 3) := by decide +kernel
theorem dX10_init_12 : decode cX10_init 12 = .ok (.putfield 10, 3) := by decide +kernel
theorem dX10_init_15 : decode cX10_init 15 = .ok (.aload_n 0, 1) := by decide +kernel
theorem dX10_init_16 : decode cX10_init 16 = .ok (.new 7, 3) := by decide +kernel
theorem dX10_init_19 : decode cX10_init 19 = .ok (.dup, 1) := by decide +kernel
theorem dX10_init_20 : decode cX10_init 20 = .ok (.invokespecial 9, 3) := by decide +kernel
theorem dX10_init_23 : decode cX10_init 23 = .ok (.putfield 16, 3) := by decide +kernel
theorem dX10_init_26 : decode cX10_init 26 = .ok (.aload_n 0, 1) := by decide +kernel
theorem dX10_init_27 : decode cX10_init 27 = .ok (.new 7, 3) := by decide +kernel
theorem dX10_init_30 : decode cX10_init 30 = .ok (.dup, 1) := by decide +kernel
theorem dX10_init_31 : decode cX10_init 31 = .ok (.invokespecial 9, 3) := by decide +kernel
theorem dX10_init_34 : decode cX10_init 34 = .ok (.putfield 19, 3) := by decide +kernel
theorem dX10_init_37 : decode cX10_init 37 = .ok (.aload_n 0, 1) := by decide +kernel
theorem dX10_init_38 : decode cX10_init 38 = .ok (.new 22, 3) := by decide +kernel
theorem dX10_init_41 : decode cX10_init 41 = .ok (.dup, 1) := by decide +kernel
theorem dX10_init_42 : decode cX10_init 42 = .ok (.invokespecial 24, 3) := by decide +kernel
theorem dX10_init_45 : decode cX10_init 45 = .ok (.putfield 25, 3) := by decide +kernel
theorem dX10_init_48 : decode cX10_init 48 = .ok (.aload_n 0, 1) := by decide +kernel
theorem dX10_init_49 : decode cX10_init 49 = .ok (.bipush 60, 2) := by decide +kernel
theorem dX10_init_51 : decode cX10_init 51 = .ok (.newarray .int, 2) := by decide +kernel
theorem dX10_init_53 : decode cX10_init 53 = .ok (.putfield 29, 3) := by decide +kernel
theorem dX10_init_56 : decode cX10_init 56 = .ok (.aload_n 0, 1) := by decide +kernel
theorem dX10_init_57 : decode cX10_init 57 = .ok (.iconst 4, 1) := by decide +kernel
theorem dX10_init_58 : decode cX10_init 58 = .ok (.anewarray 33, 3) := by decide +kernel
theorem dX10_init_61 : decode cX10_init 61 = .ok (.putfield 35, 3) := by decide +kernel
theorem dX10_init_64 : decode cX10_init 64 = .ok (.aload_n 0, 1) := by decide +kernel
theorem dX10_init_65 : decode cX10_init 65 = .ok (.iconst 4, 1) := by decide +kernel
theorem dX10_init_66 : decode cX10_init 66 = .ok (.anewarray 33, 3) := by decide +kernel
theorem dX10_init_69 : decode cX10_init 69 = .ok (.putfield 39, 3) := by decide +kernel
theorem dX10_init_72 : decode cX10_init 72 = .ok (.aload_n 0, 1) := by decide +kernel
theorem dX10_init_73 : decode cX10_init 73 = .ok (.iconst 4, 1) := by decide +kernel
theorem dX10_init_74 : decode cX10_init 74 = .ok (.newarray .int, 2) := by decide +kernel
theorem dX10_init_76 : decode cX10_init 76 = .ok (.dup, 1) := by decide +kernel
theorem dX10_init_77 : decode cX10_init 77 = .ok (.iconst 0, 1) := by decide +kernel
theorem dX10_init_78 : decode cX10_init 78 = .ok (.iconst (-1), 1) := by decide +kernel
theorem dX10_init_79 : decode cX10_init 79 = .ok (.iastore, 1) := by decide +kernel
theorem dX10_init_80 : decode cX10_init 80 = .ok (.dup, 1) := by decide +kernel
theorem dX10_init_81 : decode cX10_init 81 = .ok (.iconst 1, 1) := by decide +kernel
theorem dX10_init_82 : decode cX10_init 82 = .ok (.iconst (-1), 1) := by decide +kernel
theorem dX10_init_83 : decode cX10_init 83 = .ok (.iastore, 1) := by decide +kernel
theorem dX10_init_84 : decode cX10_init 84 = .ok (.dup, 1) := by decide +kernel
theorem dX10_init_85 : decode cX10_init 85 = .ok (.iconst 2, 1) := by decide +kernel
theorem dX10_init_86 : decode cX10_init 86 = .ok (.iconst (-1), 1) := by decide +kernel
theorem dX10_init_87 : decode cX10_init 87 = .ok (.iastore, 1) := by decide +kernel
theorem dX10_init_88 : decode cX10_init 88 = .ok (.dup, 1) := by decide +kernel
theorem dX10_init_89 : decode cX10_init 89 = .ok (.iconst 3, 1) := by decide +kernel
theorem dX10_init_90 : decode cX10_init 90 = .ok (.iconst (-1), 1) := by decide +kernel
theorem dX10_init_91 : decode cX10_init 91 = .ok (.iastore, 1) := by decide +kernel
theorem dX10_init_92 : decode cX10_init 92 = .ok (.putfield 42, 3) := by decide +kernel
theorem dX10_init_95 : decode cX10_init 95 = .ok (.aload_n 0, 1) := by decide +kernel
theorem dX10_init_96 : decode cX10_init 96 = .ok (.new 45, 3) := by decide +kernel
theorem dX10_init_99 : decode cX10_init 99 = .ok (.dup, 1) := by decide +kernel
theorem dX10_init_100 : decode cX10_init 100 = .ok (.invokespecial 47, 3) := by decide +kernel
theorem dX10_init_103 : decode cX10_init 103 = .ok (.putfield 48, 3) := by decide +kernel
theorem dX10_init_106 : decode cX10_init 106 = .ok (.return_, 1) := by decide +kernel
theorem dX10_feed_0 : decode cX10_feed 0 = .ok (.iload_n 3, 1) := by decide +kernel
theorem dX10_feed_1 : decode cX10_feed 1 = .ok (.iconst 1, 1) := by decide +kernel
theorem dX10_feed_2 : decode cX10_feed 2 = .ok (.if_icmp .lt 9, 3) := by decide +kernel
theorem dX10_feed_5 : decode cX10_feed 5 = .ok (.iload_n 3, 1) := by decide +kernel
theorem dX10_feed_6 : decode cX10_feed 6 = .ok (.bipush 8, 2) := by decide +kernel
theorem dX10_feed_8 : decode cX10_feed 8 = .ok (.if_icmp .le 5, 3) := by decide +kernel
theorem dX10_feed_11 : decode cX10_feed 11 = .ok (.iconst (-1), 1) := by decide +kernel
theorem dX10_feed_12 : decode cX10_feed 12 = .ok (.ireturn, 1) := by decide +kernel
theorem dX10_feed_13 : decode cX10_feed 13 = .ok (.aload_n 0, 1) := by decide +kernel
theorem dX10_feed_14 : decode cX10_feed 14 = .ok (.getfield 25, 3) := by decide +kernel
theorem dX10_feed_17 : decode cX10_feed 17 = .ok (.getfield 52, 3) := by decide +kernel
theorem dX10_feed_20 : decode cX10_feed 20 = .ok (.iload_n 3, 1) := by decide +kernel
theorem dX10_feed_21 : decode cX10_feed 21 = .ok (.iadd, 1) := by decide +kernel
theorem dX10_feed_22 : decode cX10_feed 22 = .ok (.sipush 240, 3) := by decide +kernel
theorem dX10_feed_25 : decode cX10_feed 25 = .ok (.if_icmp .le 6, 3) := by decide +kernel
theorem dX10_feed_28 : decode cX10_feed 28 = .ok (.bipush (-2), 2) := by decide +kernel
theorem dX10_feed_30 : decode cX10_feed 30 = .ok (.ireturn, 1) := by decide +kernel
theorem dX10_feed_31 : decode cX10_feed 31 = .ok (.iconst 0, 1) := by decide +kernel
theorem dX10_feed_32 : decode cX10_feed 32 = .ok (.istore 4, 2) := by decide +kernel
theorem dX10_feed_34 : decode cX10_feed 34 = .ok (.iload 4, 2) := by decide +kernel
theorem dX10_feed_36 : decode cX10_feed 36 = .ok (.iload_n 3, 1) := by decide +kernel
theorem dX10_feed_37 : decode cX10_feed 37 = .ok (.if_icmp .ge 25, 3) := by decide +kernel
theorem dX10_feed_40 : decode cX10_feed 40 = .ok (.aload_n 0, 1) := by decide +kernel
theorem dX10_feed_41 : decode cX10_feed 41 = .ok (.getfield 25, 3) := by decide +kernel
theorem dX10_feed_44 : decode cX10_feed 44 = .ok (.lload_n 1, 1) := by decide +kernel
theorem dX10_feed_45 : decode cX10_feed 45 = .ok (.bipush 8, 2) := by decide +kernel
theorem dX10_feed_47 : decode cX10_feed 47 = .ok (.iload 4, 2) := by decide +kernel
theorem dX10_feed_49 : decode cX10_feed 49 = .ok (.imul, 1) := by decide +kernel
theorem dX10_feed_50 : decode cX10_feed 50 = .ok (.lushr, 1) := by decide +kernel
theorem dX10_feed_51 : decode cX10_feed 51 = .ok (.l2i, 1) := by decide +kernel
theorem dX10_feed_52 : decode cX10_feed 52 = .ok (.i2b, 1) := by decide +kernel
theorem dX10_feed_53 : decode cX10_feed 53 = .ok (.invokevirtual 56, 3) := by decide +kernel
theorem dX10_feed_56 : decode cX10_feed 56 = .ok (.iinc 4 1, 3) := by decide +kernel
theorem dX10_feed_59 : decode cX10_feed 59 = .ok (.goto (-25), 3) := by decide +kernel
theorem dX10_feed_62 : decode cX10_feed 62 = .ok (.aload_n 0, 1) := by decide +kernel
theorem dX10_feed_63 : decode cX10_feed 63 = .ok (.getfield 25, 3) := by decide +kernel
theorem dX10_feed_66 : decode cX10_feed 66 = .ok (.getfield 52, 3) := by decide +kernel
theorem dX10_feed_69 : decode cX10_feed 69 = .ok (.ireturn, 1) := by decide +kernel
theorem dX10_clerk_0 : decode cX10_clerk 0 = .ok (.aload_n 0, 1) := by decide +kernel
theorem dX10_clerk_1 : decode cX10_clerk 1 = .ok (.getfield 16, 3) := by decide +kernel
theorem dX10_clerk_4 : decode cX10_clerk 4 = .ok (.aload_n 0, 1) := by decide +kernel
theorem dX10_clerk_5 : decode cX10_clerk 5 = .ok (.getfield 10, 3) := by decide +kernel
theorem dX10_clerk_8 : decode cX10_clerk 8 = .ok (.invokevirtual 60, 3) := by decide +kernel
theorem dX10_clerk_11 : decode cX10_clerk 11 = .ok (.aload_n 0, 1) := by decide +kernel
theorem dX10_clerk_12 : decode cX10_clerk 12 = .ok (.getfield 16, 3) := by decide +kernel
theorem dX10_clerk_15 : decode cX10_clerk 15 = .ok (.invokevirtual 64, 3) := by decide +kernel
theorem dX10_clerk_18 : decode cX10_clerk 18 = .ok (.aload_n 0, 1) := by decide +kernel
theorem dX10_clerk_19 : decode cX10_clerk 19 = .ok (.getfield 25, 3) := by decide +kernel
theorem dX10_clerk_22 : decode cX10_clerk 22 = .ok (.aload_n 0, 1) := by decide +kernel
theorem dX10_clerk_23 : decode cX10_clerk 23 = .ok (.getfield 16, 3) := by decide +kernel
theorem dX10_clerk_26 : decode cX10_clerk 26 = .ok (.invokevirtual 67, 3) := by decide +kernel
theorem dX10_clerk_29 : decode cX10_clerk 29 = .ok (.istore_n 1, 1) := by decide +kernel
theorem dX10_clerk_30 : decode cX10_clerk 30 = .ok (.aload_n 0, 1) := by decide +kernel
theorem dX10_clerk_31 : decode cX10_clerk 31 = .ok (.getfield 25, 3) := by decide +kernel
theorem dX10_clerk_34 : decode cX10_clerk 34 = .ok (.iconst 0, 1) := by decide +kernel
theorem dX10_clerk_35 : decode cX10_clerk 35 = .ok (.putfield 52, 3) := by decide +kernel
theorem dX10_clerk_38 : decode cX10_clerk 38 = .ok (.iload_n 1, 1) := by decide +kernel
theorem dX10_clerk_39 : decode cX10_clerk 39 = .ok (.ifCond .lt 8, 3) := by decide +kernel
theorem dX10_clerk_42 : decode cX10_clerk 42 = .ok (.bipush (-100), 2) := by decide +kernel
theorem dX10_clerk_44 : decode cX10_clerk 44 = .ok (.iload_n 1, 1) := by decide +kernel
theorem dX10_clerk_45 : decode cX10_clerk 45 = .ok (.isub, 1) := by decide +kernel
theorem dX10_clerk_46 : decode cX10_clerk 46 = .ok (.ireturn, 1) := by decide +kernel
theorem dX10_clerk_47 : decode cX10_clerk 47 = .ok (.aload_n 0, 1) := by decide +kernel
theorem dX10_clerk_48 : decode cX10_clerk 48 = .ok (.getfield 10, 3) := by decide +kernel
theorem dX10_clerk_51 : decode cX10_clerk 51 = .ok (.aload_n 0, 1) := by decide +kernel
theorem dX10_clerk_52 : decode cX10_clerk 52 = .ok (.getfield 16, 3) := by decide +kernel
theorem dX10_clerk_55 : decode cX10_clerk 55 = .ok (.invokevirtual 60, 3) := by decide +kernel
theorem dX10_clerk_58 : decode cX10_clerk 58 = .ok (.aload_n 0, 1) := by decide +kernel
theorem dX10_clerk_59 : decode cX10_clerk 59 = .ok (.iconst 0, 1) := by decide +kernel
theorem dX10_clerk_60 : decode cX10_clerk 60 = .ok (.putfield 71, 3) := by decide +kernel
theorem dX10_clerk_63 : decode cX10_clerk 63 = .ok (.aload_n 0, 1) := by decide +kernel
theorem dX10_clerk_64 : decode cX10_clerk 64 = .ok (.getfield 10, 3) := by decide +kernel
theorem dX10_clerk_67 : decode cX10_clerk 67 = .ok (.getfield 74, 3) := by decide +kernel
theorem dX10_clerk_70 : decode cX10_clerk 70 = .ok (.ireturn, 1) := by decide +kernel
theorem dX10_worth_0 : decode cX10_worth 0 = .ok (.iload_n 1, 1) := by decide +kernel
theorem dX10_worth_1 : decode cX10_worth 1 = .ok (.invokestatic 77, 3) := by decide +kernel
theorem dX10_worth_4 : decode cX10_worth 4 = .ok (.ifCond .eq 13, 3) := by decide +kernel
theorem dX10_worth_7 : decode cX10_worth 7 = .ok (.iload_n 2, 1) := by decide +kernel
theorem dX10_worth_8 : decode cX10_worth 8 = .ok (.ifCond .lt 9, 3) := by decide +kernel
theorem dX10_worth_11 : decode cX10_worth 11 = .ok (.iload_n 2, 1) := by decide +kernel
theorem dX10_worth_12 : decode cX10_worth 12 = .ok (.bipush 99, 2) := by decide +kernel
theorem dX10_worth_14 : decode cX10_worth 14 = .ok (.if_icmp .le 5, 3) := by decide +kernel
theorem dX10_worth_17 : decode cX10_worth 17 = .ok (.iconst (-1), 1) := by decide +kernel
theorem dX10_worth_18 : decode cX10_worth 18 = .ok (.ireturn, 1) := by decide +kernel
theorem dX10_worth_19 : decode cX10_worth 19 = .ok (.aload_n 0, 1) := by decide +kernel
theorem dX10_worth_20 : decode cX10_worth 20 = .ok (.getfield 10, 3) := by decide +kernel
theorem dX10_worth_23 : decode cX10_worth 23 = .ok (.getfield 81, 3) := by decide +kernel
theorem dX10_worth_26 : decode cX10_worth 26 = .ok (.iload_n 1, 1) := by decide +kernel
theorem dX10_worth_27 : decode cX10_worth 27 = .ok (.iaload, 1) := by decide +kernel
theorem dX10_worth_28 : decode cX10_worth 28 = .ok (.istore_n 3, 1) := by decide +kernel
theorem dX10_worth_29 : decode cX10_worth 29 = .ok (.aload_n 0, 1) := by decide +kernel
theorem dX10_worth_30 : decode cX10_worth 30 = .ok (.getfield 10, 3) := by decide +kernel
theorem dX10_worth_33 : decode cX10_worth 33 = .ok (.getfield 81, 3) := by decide +kernel
theorem dX10_worth_36 : decode cX10_worth 36 = .ok (.iload_n 1, 1) := by decide +kernel
theorem dX10_worth_37 : decode cX10_worth 37 = .ok (.iload_n 2, 1) := by decide +kernel
theorem dX10_worth_38 : decode cX10_worth 38 = .ok (.iastore, 1) := by decide +kernel
theorem dX10_worth_39 : decode cX10_worth 39 = .ok (.iload_n 3, 1) := by decide +kernel
theorem dX10_worth_40 : decode cX10_worth 40 = .ok (.ireturn, 1) := by decide +kernel
theorem dX10_weigh_0 : decode cX10_weigh 0 = .ok (.iload_n 1, 1) := by decide +kernel
theorem dX10_weigh_1 : decode cX10_weigh 1 = .ok (.invokestatic 77, 3) := by decide +kernel
theorem dX10_weigh_4 : decode cX10_weigh 4 = .ok (.ifCond .eq 20, 3) := by decide +kernel
theorem dX10_weigh_7 : decode cX10_weigh 7 = .ok (.iload_n 2, 1) := by decide +kernel
theorem dX10_weigh_8 : decode cX10_weigh 8 = .ok (.invokestatic 84, 3) := by decide +kernel
theorem dX10_weigh_11 : decode cX10_weigh 11 = .ok (.ifCond .eq 13, 3) := by decide +kernel
theorem dX10_weigh_14 : decode cX10_weigh 14 = .ok (.iload_n 3, 1) := by decide +kernel
theorem dX10_weigh_15 : decode cX10_weigh 15 = .ok (.ifCond .lt 9, 3) := by decide +kernel
theorem dX10_weigh_18 : decode cX10_weigh 18 = .ok (.iload_n 3, 1) := by decide +kernel
theorem dX10_weigh_19 : decode cX10_weigh 19 = .ok (.bipush 9, 2) := by decide +kernel
theorem dX10_weigh_21 : decode cX10_weigh 21 = .ok (.if_icmp .le 5, 3) := by decide +kernel
theorem dX10_weigh_24 : decode cX10_weigh 24 = .ok (.iconst (-1), 1) := by decide +kernel
theorem dX10_weigh_25 : decode cX10_weigh 25 = .ok (.ireturn, 1) := by decide +kernel
theorem dX10_weigh_26 : decode cX10_weigh 26 = .ok (.iload_n 1, 1) := by decide +kernel
theorem dX10_weigh_27 : decode cX10_weigh 27 = .ok (.iconst 4, 1) := by decide +kernel
theorem dX10_weigh_28 : decode cX10_weigh 28 = .ok (.imul, 1) := by decide +kernel
theorem dX10_weigh_29 : decode cX10_weigh 29 = .ok (.iload_n 2, 1) := by decide +kernel
theorem dX10_weigh_30 : decode cX10_weigh 30 = .ok (.iadd, 1) := by decide +kernel
theorem dX10_weigh_31 : decode cX10_weigh 31 = .ok (.istore 4, 2) := by decide +kernel
theorem dX10_weigh_33 : decode cX10_weigh 33 = .ok (.aload_n 0, 1) := by decide +kernel
theorem dX10_weigh_34 : decode cX10_weigh 34 = .ok (.getfield 10, 3) := by decide +kernel
theorem dX10_weigh_37 : decode cX10_weigh 37 = .ok (.getfield 87, 3) := by decide +kernel
theorem dX10_weigh_40 : decode cX10_weigh 40 = .ok (.iload 4, 2) := by decide +kernel
theorem dX10_weigh_42 : decode cX10_weigh 42 = .ok (.iaload, 1) := by decide +kernel
theorem dX10_weigh_43 : decode cX10_weigh 43 = .ok (.istore 5, 2) := by decide +kernel
theorem dX10_weigh_45 : decode cX10_weigh 45 = .ok (.aload_n 0, 1) := by decide +kernel
theorem dX10_weigh_46 : decode cX10_weigh 46 = .ok (.getfield 10, 3) := by decide +kernel
theorem dX10_weigh_49 : decode cX10_weigh 49 = .ok (.iload_n 1, 1) := by decide +kernel
theorem dX10_weigh_50 : decode cX10_weigh 50 = .ok (.iconst (-1), 1) := by decide +kernel
theorem dX10_weigh_51 : decode cX10_weigh 51 = .ok (.invokevirtual 90, 3) := by decide +kernel
theorem dX10_weigh_54 : decode cX10_weigh 54 = .ok (.iload 5, 2) := by decide +kernel
theorem dX10_weigh_56 : decode cX10_weigh 56 = .ok (.isub, 1) := by decide +kernel
theorem dX10_weigh_57 : decode cX10_weigh 57 = .ok (.iload_n 3, 1) := by decide +kernel
theorem dX10_weigh_58 : decode cX10_weigh 58 = .ok (.iadd, 1) := by decide +kernel
theorem dX10_weigh_59 : decode cX10_weigh 59 = .ok (.ifCond .ne 6, 3) := by decide +kernel
theorem dX10_weigh_62 : decode cX10_weigh 62 = .ok (.bipush (-4), 2) := by decide +kernel
theorem dX10_weigh_64 : decode cX10_weigh 64 = .ok (.ireturn, 1) := by decide +kernel
theorem dX10_weigh_65 : decode cX10_weigh 65 = .ok (.aload_n 0, 1) := by decide +kernel
theorem dX10_weigh_66 : decode cX10_weigh 66 = .ok (.getfield 10, 3) := by decide +kernel
theorem dX10_weigh_69 : decode cX10_weigh 69 = .ok (.getfield 87, 3) := by decide +kernel
theorem dX10_weigh_72 : decode cX10_weigh 72 = .ok (.iload 4, 2) := by decide +kernel
theorem dX10_weigh_74 : decode cX10_weigh 74 = .ok (.iload_n 3, 1) := by decide +kernel
theorem dX10_weigh_75 : decode cX10_weigh 75 = .ok (.iastore, 1) := by decide +kernel
theorem dX10_weigh_76 : decode cX10_weigh 76 = .ok (.iload 5, 2) := by decide +kernel
theorem dX10_weigh_78 : decode cX10_weigh 78 = .ok (.ireturn, 1) := by decide +kernel
theorem dX10_sign_0 : decode cX10_sign 0 = .ok (.iload_n 1, 1) := by decide +kernel
theorem dX10_sign_1 : decode cX10_sign 1 = .ok (.invokestatic 77, 3) := by decide +kernel
theorem dX10_sign_4 : decode cX10_sign 4 = .ok (.ifCond .eq 13, 3) := by decide +kernel
theorem dX10_sign_7 : decode cX10_sign 7 = .ok (.iload_n 2, 1) := by decide +kernel
theorem dX10_sign_8 : decode cX10_sign 8 = .ok (.iconst (-1), 1) := by decide +kernel
theorem dX10_sign_9 : decode cX10_sign 9 = .ok (.if_icmp .lt 8, 3) := by decide +kernel
theorem dX10_sign_12 : decode cX10_sign 12 = .ok (.iload_n 2, 1) := by decide +kernel
theorem dX10_sign_13 : decode cX10_sign 13 = .ok (.iconst 4, 1) := by decide +kernel
theorem dX10_sign_14 : decode cX10_sign 14 = .ok (.if_icmp .lt 5, 3) := by decide +kernel
theorem dX10_sign_17 : decode cX10_sign 17 = .ok (.iconst (-1), 1) := by decide +kernel
theorem dX10_sign_18 : decode cX10_sign 18 = .ok (.ireturn, 1) := by decide +kernel
theorem dX10_sign_19 : decode cX10_sign 19 = .ok (.aload_n 0, 1) := by decide +kernel
theorem dX10_sign_20 : decode cX10_sign 20 = .ok (.getfield 10, 3) := by decide +kernel
theorem dX10_sign_23 : decode cX10_sign 23 = .ok (.getfield 94, 3) := by decide +kernel
theorem dX10_sign_26 : decode cX10_sign 26 = .ok (.iload_n 1, 1) := by decide +kernel
theorem dX10_sign_27 : decode cX10_sign 27 = .ok (.iaload, 1) := by decide +kernel
theorem dX10_sign_28 : decode cX10_sign 28 = .ok (.istore_n 3, 1) := by decide +kernel
theorem dX10_sign_29 : decode cX10_sign 29 = .ok (.aload_n 0, 1) := by decide +kernel
theorem dX10_sign_30 : decode cX10_sign 30 = .ok (.getfield 10, 3) := by decide +kernel
theorem dX10_sign_33 : decode cX10_sign 33 = .ok (.getfield 94, 3) := by decide +kernel
theorem dX10_sign_36 : decode cX10_sign 36 = .ok (.iload_n 1, 1) := by decide +kernel
theorem dX10_sign_37 : decode cX10_sign 37 = .ok (.iload_n 2, 1) := by decide +kernel
theorem dX10_sign_38 : decode cX10_sign 38 = .ok (.iastore, 1) := by decide +kernel
theorem dX10_sign_39 : decode cX10_sign 39 = .ok (.iload_n 3, 1) := by decide +kernel
theorem dX10_sign_40 : decode cX10_sign 40 = .ok (.invokestatic 97, 3) := by decide +kernel
theorem dX10_sign_43 : decode cX10_sign 43 = .ok (.ireturn, 1) := by decide +kernel
theorem dX10_dayOf_0 : decode cX10_dayOf 0 = .ok (.iload_n 1, 1) := by decide +kernel
theorem dX10_dayOf_1 : decode cX10_dayOf 1 = .ok (.invokestatic 77, 3) := by decide +kernel
theorem dX10_dayOf_4 : decode cX10_dayOf 4 = .ok (.ifCond .ne 5, 3) := by decide +kernel
theorem dX10_dayOf_7 : decode cX10_dayOf 7 = .ok (.iconst (-1), 1) := by decide +kernel
theorem dX10_dayOf_8 : decode cX10_dayOf 8 = .ok (.ireturn, 1) := by decide +kernel
theorem dX10_dayOf_9 : decode cX10_dayOf 9 = .ok (.iload_n 2, 1) := by decide +kernel
theorem dX10_dayOf_10 : decode cX10_dayOf 10 = .ok (.tableswitch 102 0 5 #[38, 48, 61, 74, 83, 92], 38) := by decide +kernel
theorem dX10_dayOf_48 : decode cX10_dayOf 48 = .ok (.aload_n 0, 1) := by decide +kernel
theorem dX10_dayOf_49 : decode cX10_dayOf 49 = .ok (.getfield 10, 3) := by decide +kernel
theorem dX10_dayOf_52 : decode cX10_dayOf 52 = .ok (.getfield 81, 3) := by decide +kernel
theorem dX10_dayOf_55 : decode cX10_dayOf 55 = .ok (.iload_n 1, 1) := by decide +kernel
theorem dX10_dayOf_56 : decode cX10_dayOf 56 = .ok (.iaload, 1) := by decide +kernel
theorem dX10_dayOf_57 : decode cX10_dayOf 57 = .ok (.ireturn, 1) := by decide +kernel
theorem dX10_dayOf_58 : decode cX10_dayOf 58 = .ok (.aload_n 0, 1) := by decide +kernel
theorem dX10_dayOf_59 : decode cX10_dayOf 59 = .ok (.getfield 10, 3) := by decide +kernel
theorem dX10_dayOf_62 : decode cX10_dayOf 62 = .ok (.getfield 94, 3) := by decide +kernel
theorem dX10_dayOf_65 : decode cX10_dayOf 65 = .ok (.iload_n 1, 1) := by decide +kernel
theorem dX10_dayOf_66 : decode cX10_dayOf 66 = .ok (.iaload, 1) := by decide +kernel
theorem dX10_dayOf_67 : decode cX10_dayOf 67 = .ok (.invokestatic 97, 3) := by decide +kernel
theorem dX10_dayOf_70 : decode cX10_dayOf 70 = .ok (.ireturn, 1) := by decide +kernel
theorem dX10_dayOf_71 : decode cX10_dayOf 71 = .ok (.aload_n 0, 1) := by decide +kernel
theorem dX10_dayOf_72 : decode cX10_dayOf 72 = .ok (.getfield 10, 3) := by decide +kernel
theorem dX10_dayOf_75 : decode cX10_dayOf 75 = .ok (.getfield 101, 3) := by decide +kernel
theorem dX10_dayOf_78 : decode cX10_dayOf 78 = .ok (.iload_n 1, 1) := by decide +kernel
theorem dX10_dayOf_79 : decode cX10_dayOf 79 = .ok (.iaload, 1) := by decide +kernel
theorem dX10_dayOf_80 : decode cX10_dayOf 80 = .ok (.invokestatic 97, 3) := by decide +kernel
theorem dX10_dayOf_83 : decode cX10_dayOf 83 = .ok (.ireturn, 1) := by decide +kernel
theorem dX10_dayOf_84 : decode cX10_dayOf 84 = .ok (.aload_n 0, 1) := by decide +kernel
theorem dX10_dayOf_85 : decode cX10_dayOf 85 = .ok (.getfield 10, 3) := by decide +kernel
theorem dX10_dayOf_88 : decode cX10_dayOf 88 = .ok (.iload_n 1, 1) := by decide +kernel
theorem dX10_dayOf_89 : decode cX10_dayOf 89 = .ok (.invokevirtual 104, 3) := by decide +kernel
theorem dX10_dayOf_92 : decode cX10_dayOf 92 = .ok (.ireturn, 1) := by decide +kernel
theorem dX10_dayOf_93 : decode cX10_dayOf 93 = .ok (.aload_n 0, 1) := by decide +kernel
theorem dX10_dayOf_94 : decode cX10_dayOf 94 = .ok (.getfield 10, 3) := by decide +kernel
theorem dX10_dayOf_97 : decode cX10_dayOf 97 = .ok (.iload_n 1, 1) := by decide +kernel
theorem dX10_dayOf_98 : decode cX10_dayOf 98 = .ok (.invokevirtual 107, 3) := by decide +kernel
theorem dX10_dayOf_101 : decode cX10_dayOf 101 = .ok (.ireturn, 1) := by decide +kernel
theorem dX10_dayOf_102 : decode cX10_dayOf 102 = .ok (.aload_n 0, 1) := by decide +kernel
theorem dX10_dayOf_103 : decode cX10_dayOf 103 = .ok (.getfield 10, 3) := by decide +kernel
theorem dX10_dayOf_106 : decode cX10_dayOf 106 = .ok (.getfield 110, 3) := by decide +kernel
theorem dX10_dayOf_109 : decode cX10_dayOf 109 = .ok (.iload_n 1, 1) := by decide +kernel
theorem dX10_dayOf_110 : decode cX10_dayOf 110 = .ok (.iaload, 1) := by decide +kernel
theorem dX10_dayOf_111 : decode cX10_dayOf 111 = .ok (.ireturn, 1) := by decide +kernel
theorem dX10_dayOf_112 : decode cX10_dayOf 112 = .ok (.iload_n 2, 1) := by decide +kernel
theorem dX10_dayOf_113 : decode cX10_dayOf 113 = .ok (.bipush 6, 2) := by decide +kernel
theorem dX10_dayOf_115 : decode cX10_dayOf 115 = .ok (.isub, 1) := by decide +kernel
theorem dX10_dayOf_116 : decode cX10_dayOf 116 = .ok (.invokestatic 84, 3) := by decide +kernel
theorem dX10_dayOf_119 : decode cX10_dayOf 119 = .ok (.ifCond .eq 18, 3) := by decide +kernel
theorem dX10_dayOf_122 : decode cX10_dayOf 122 = .ok (.aload_n 0, 1) := by decide +kernel
theorem dX10_dayOf_123 : decode cX10_dayOf 123 = .ok (.getfield 10, 3) := by decide +kernel
theorem dX10_dayOf_126 : decode cX10_dayOf 126 = .ok (.iload_n 1, 1) := by decide +kernel
theorem dX10_dayOf_127 : decode cX10_dayOf 127 = .ok (.iload_n 2, 1) := by decide +kernel
theorem dX10_dayOf_128 : decode cX10_dayOf 128 = .ok (.bipush 6, 2) := by decide +kernel
theorem dX10_dayOf_130 : decode cX10_dayOf 130 = .ok (.isub, 1) := by decide +kernel
theorem dX10_dayOf_131 : decode cX10_dayOf 131 = .ok (.invokevirtual 113, 3) := by decide +kernel
theorem dX10_dayOf_134 : decode cX10_dayOf 134 = .ok (.goto 4, 3) := by decide +kernel
theorem dX10_dayOf_137 : decode cX10_dayOf 137 = .ok (.iconst (-1), 1) := by decide +kernel
theorem dX10_dayOf_138 : decode cX10_dayOf 138 = .ok (.ireturn, 1) := by decide +kernel
theorem dX10_set_0 : decode cX10_set 0 = .ok (.iload_n 1, 1) := by decide +kernel
theorem dX10_set_1 : decode cX10_set 1 = .ok (.ifCond .lt 21, 3) := by decide +kernel
theorem dX10_set_4 : decode cX10_set 4 = .ok (.iload_n 1, 1) := by decide +kernel
theorem dX10_set_5 : decode cX10_set 5 = .ok (.iconst 4, 1) := by decide +kernel
theorem dX10_set_6 : decode cX10_set 6 = .ok (.if_icmp .ge 16, 3) := by decide +kernel
theorem dX10_set_9 : decode cX10_set 9 = .ok (.iload_n 2, 1) := by decide +kernel
theorem dX10_set_10 : decode cX10_set 10 = .ok (.ifCond .lt 12, 3) := by decide +kernel
theorem dX10_set_13 : decode cX10_set 13 = .ok (.iload_n 2, 1) := by decide +kernel
theorem dX10_set_14 : decode cX10_set 14 = .ok (.getstatic 116, 3) := by decide +kernel
theorem dX10_set_17 : decode cX10_set 17 = .ok (.iload_n 1, 1) := by decide +kernel
theorem dX10_set_18 : decode cX10_set 18 = .ok (.iaload, 1) := by decide +kernel
theorem dX10_set_19 : decode cX10_set 19 = .ok (.if_icmp .le 5, 3) := by decide +kernel
theorem dX10_set_22 : decode cX10_set 22 = .ok (.iconst (-1), 1) := by decide +kernel
theorem dX10_set_23 : decode cX10_set 23 = .ok (.ireturn, 1) := by decide +kernel
theorem dX10_set_24 : decode cX10_set 24 = .ok (.aload_n 0, 1) := by decide +kernel
theorem dX10_set_25 : decode cX10_set 25 = .ok (.getfield 10, 3) := by decide +kernel
theorem dX10_set_28 : decode cX10_set 28 = .ok (.getfield 119, 3) := by decide +kernel
theorem dX10_set_31 : decode cX10_set 31 = .ok (.iload_n 1, 1) := by decide +kernel
theorem dX10_set_32 : decode cX10_set 32 = .ok (.iaload, 1) := by decide +kernel
theorem dX10_set_33 : decode cX10_set 33 = .ok (.istore_n 3, 1) := by decide +kernel
theorem dX10_set_34 : decode cX10_set 34 = .ok (.aload_n 0, 1) := by decide +kernel
theorem dX10_set_35 : decode cX10_set 35 = .ok (.getfield 10, 3) := by decide +kernel
theorem dX10_set_38 : decode cX10_set 38 = .ok (.getfield 119, 3) := by decide +kernel
theorem dX10_set_41 : decode cX10_set 41 = .ok (.iload_n 1, 1) := by decide +kernel
theorem dX10_set_42 : decode cX10_set 42 = .ok (.iload_n 2, 1) := by decide +kernel
theorem dX10_set_43 : decode cX10_set 43 = .ok (.iastore, 1) := by decide +kernel
theorem dX10_set_44 : decode cX10_set 44 = .ok (.iload_n 3, 1) := by decide +kernel
theorem dX10_set_45 : decode cX10_set 45 = .ok (.ireturn, 1) := by decide +kernel
theorem dX10_sayer_0 : decode cX10_sayer 0 = .ok (.iload_n 1, 1) := by decide +kernel
theorem dX10_sayer_1 : decode cX10_sayer 1 = .ok (.invokestatic 122, 3) := by decide +kernel
theorem dX10_sayer_4 : decode cX10_sayer 4 = .ok (.ifCond .eq 10, 3) := by decide +kernel
theorem dX10_sayer_7 : decode cX10_sayer 7 = .ok (.iload_n 2, 1) := by decide +kernel
theorem dX10_sayer_8 : decode cX10_sayer 8 = .ok (.invokestatic 125, 3) := by decide +kernel
theorem dX10_sayer_11 : decode cX10_sayer 11 = .ok (.ifCond .ne 5, 3) := by decide +kernel
theorem dX10_sayer_14 : decode cX10_sayer 14 = .ok (.iconst (-1), 1) := by decide +kernel
theorem dX10_sayer_15 : decode cX10_sayer 15 = .ok (.ireturn, 1) := by decide +kernel
theorem dX10_sayer_16 : decode cX10_sayer 16 = .ok (.aload_n 0, 1) := by decide +kernel
theorem dX10_sayer_17 : decode cX10_sayer 17 = .ok (.getfield 10, 3) := by decide +kernel
theorem dX10_sayer_20 : decode cX10_sayer 20 = .ok (.getfield 74, 3) := by decide +kernel
theorem dX10_sayer_23 : decode cX10_sayer 23 = .ok (.iconst 5, 1) := by decide +kernel
theorem dX10_sayer_24 : decode cX10_sayer 24 = .ok (.if_icmp .lt 6, 3) := by decide +kernel
theorem dX10_sayer_27 : decode cX10_sayer 27 = .ok (.bipush (-2), 2) := by decide +kernel
theorem dX10_sayer_29 : decode cX10_sayer 29 = .ok (.ireturn, 1) := by decide +kernel
theorem dX10_sayer_30 : decode cX10_sayer 30 = .ok (.aload_n 0, 1) := by decide +kernel
theorem dX10_sayer_31 : decode cX10_sayer 31 = .ok (.getfield 10, 3) := by decide +kernel
theorem dX10_sayer_34 : decode cX10_sayer 34 = .ok (.iload_n 1, 1) := by decide +kernel
theorem dX10_sayer_35 : decode cX10_sayer 35 = .ok (.aload_n 0, 1) := by decide +kernel
theorem dX10_sayer_36 : decode cX10_sayer 36 = .ok (.getfield 10, 3) := by decide +kernel
theorem dX10_sayer_39 : decode cX10_sayer 39 = .ok (.getfield 74, 3) := by decide +kernel
theorem dX10_sayer_42 : decode cX10_sayer 42 = .ok (.iload_n 2, 1) := by decide +kernel
theorem dX10_sayer_43 : decode cX10_sayer 43 = .ok (.invokestatic 128, 3) := by decide +kernel
theorem dX10_sayer_46 : decode cX10_sayer 46 = .ok (.invokevirtual 132, 3) := by decide +kernel
theorem dX10_sayer_49 : decode cX10_sayer 49 = .ok (.ireturn, 1) := by decide +kernel
theorem dX10_sayerOf_0 : decode cX10_sayerOf 0 = .ok (.aload_n 0, 1) := by decide +kernel
theorem dX10_sayerOf_1 : decode cX10_sayerOf 1 = .ok (.getfield 10, 3) := by decide +kernel
theorem dX10_sayerOf_4 : decode cX10_sayerOf 4 = .ok (.iload_n 1, 1) := by decide +kernel
theorem dX10_sayerOf_5 : decode cX10_sayerOf 5 = .ok (.invokevirtual 136, 3) := by decide +kernel
theorem dX10_sayerOf_8 : decode cX10_sayerOf 8 = .ok (.astore_n 3, 1) := by decide +kernel
theorem dX10_sayerOf_9 : decode cX10_sayerOf 9 = .ok (.aload_n 3, 1) := by decide +kernel
theorem dX10_sayerOf_10 : decode cX10_sayerOf 10 = .ok (.ifnonnull 5, 3) := by decide +kernel
theorem dX10_sayerOf_13 : decode cX10_sayerOf 13 = .ok (.iconst (-1), 1) := by decide +kernel
theorem dX10_sayerOf_14 : decode cX10_sayerOf 14 = .ok (.ireturn, 1) := by decide +kernel
theorem dX10_sayerOf_15 : decode cX10_sayerOf 15 = .ok (.iload_n 2, 1) := by decide +kernel
theorem dX10_sayerOf_16 : decode cX10_sayerOf 16 = .ok (.tableswitch 64 0 3 #[32, 37, 42, 55], 32) := by decide +kernel
theorem dX10_sayerOf_48 : decode cX10_sayerOf 48 = .ok (.aload_n 3, 1) := by decide +kernel
theorem dX10_sayerOf_49 : decode cX10_sayerOf 49 = .ok (.getfield 140, 3) := by decide +kernel
theorem dX10_sayerOf_52 : decode cX10_sayerOf 52 = .ok (.ireturn, 1) := by decide +kernel
theorem dX10_sayerOf_53 : decode cX10_sayerOf 53 = .ok (.aload_n 3, 1) := by decide +kernel
theorem dX10_sayerOf_54 : decode cX10_sayerOf 54 = .ok (.getfield 145, 3) := by decide +kernel
theorem dX10_sayerOf_57 : decode cX10_sayerOf 57 = .ok (.ireturn, 1) := by decide +kernel
theorem dX10_sayerOf_58 : decode cX10_sayerOf 58 = .ok (.aload_n 0, 1) := by decide +kernel
theorem dX10_sayerOf_59 : decode cX10_sayerOf 59 = .ok (.getfield 10, 3) := by decide +kernel
theorem dX10_sayerOf_62 : decode cX10_sayerOf 62 = .ok (.getfield 148, 3) := by decide +kernel
theorem dX10_sayerOf_65 : decode cX10_sayerOf 65 = .ok (.iload_n 1, 1) := by decide +kernel
theorem dX10_sayerOf_66 : decode cX10_sayerOf 66 = .ok (.iaload, 1) := by decide +kernel
theorem dX10_sayerOf_67 : decode cX10_sayerOf 67 = .ok (.ldc 151, 2) := by decide +kernel
theorem dX10_sayerOf_69 : decode cX10_sayerOf 69 = .ok (.iadd, 1) := by decide +kernel
theorem dX10_sayerOf_70 : decode cX10_sayerOf 70 = .ok (.ireturn, 1) := by decide +kernel
theorem dX10_sayerOf_71 : decode cX10_sayerOf 71 = .ok (.aload_n 0, 1) := by decide +kernel
theorem dX10_sayerOf_72 : decode cX10_sayerOf 72 = .ok (.getfield 10, 3) := by decide +kernel
theorem dX10_sayerOf_75 : decode cX10_sayerOf 75 = .ok (.iload_n 1, 1) := by decide +kernel
theorem dX10_sayerOf_76 : decode cX10_sayerOf 76 = .ok (.invokevirtual 152, 3) := by decide +kernel
theorem dX10_sayerOf_79 : decode cX10_sayerOf 79 = .ok (.ireturn, 1) := by decide +kernel
theorem dX10_sayerOf_80 : decode cX10_sayerOf 80 = .ok (.iconst (-1), 1) := by decide +kernel
theorem dX10_sayerOf_81 : decode cX10_sayerOf 81 = .ok (.ireturn, 1) := by decide +kernel
theorem dX10_mind_0 : decode cX10_mind 0 = .ok (.aload_n 0, 1) := by decide +kernel
theorem dX10_mind_1 : decode cX10_mind 1 = .ok (.getfield 10, 3) := by decide +kernel
theorem dX10_mind_4 : decode cX10_mind 4 = .ok (.iload_n 1, 1) := by decide +kernel
theorem dX10_mind_5 : decode cX10_mind 5 = .ok (.invokevirtual 136, 3) := by decide +kernel
theorem dX10_mind_8 : decode cX10_mind 8 = .ok (.astore 4, 2) := by decide +kernel
theorem dX10_mind_10 : decode cX10_mind 10 = .ok (.aload 4, 2) := by decide +kernel
theorem dX10_mind_12 : decode cX10_mind 12 = .ok (.ifnull 17, 3) := by decide +kernel
theorem dX10_mind_15 : decode cX10_mind 15 = .ok (.iload_n 2, 1) := by decide +kernel
theorem dX10_mind_16 : decode cX10_mind 16 = .ok (.invokestatic 122, 3) := by decide +kernel
theorem dX10_mind_19 : decode cX10_mind 19 = .ok (.ifCond .eq 10, 3) := by decide +kernel
theorem dX10_mind_22 : decode cX10_mind 22 = .ok (.iload_n 3, 1) := by decide +kernel
theorem dX10_mind_23 : decode cX10_mind 23 = .ok (.invokestatic 125, 3) := by decide +kernel
theorem dX10_mind_26 : decode cX10_mind 26 = .ok (.ifCond .ne 5, 3) := by decide +kernel
theorem dX10_mind_29 : decode cX10_mind 29 = .ok (.iconst (-1), 1) := by decide +kernel
theorem dX10_mind_30 : decode cX10_mind 30 = .ok (.ireturn, 1) := by decide +kernel
theorem dX10_mind_31 : decode cX10_mind 31 = .ok (.aload_n 0, 1) := by decide +kernel
theorem dX10_mind_32 : decode cX10_mind 32 = .ok (.getfield 10, 3) := by decide +kernel
theorem dX10_mind_35 : decode cX10_mind 35 = .ok (.getfield 155, 3) := by decide +kernel
theorem dX10_mind_38 : decode cX10_mind 38 = .ok (.iload_n 1, 1) := by decide +kernel
theorem dX10_mind_39 : decode cX10_mind 39 = .ok (.iload_n 2, 1) := by decide +kernel
theorem dX10_mind_40 : decode cX10_mind 40 = .ok (.iload_n 1, 1) := by decide +kernel
theorem dX10_mind_41 : decode cX10_mind 41 = .ok (.iload_n 3, 1) := by decide +kernel
theorem dX10_mind_42 : decode cX10_mind 42 = .ok (.invokestatic 128, 3) := by decide +kernel
theorem dX10_mind_45 : decode cX10_mind 45 = .ok (.aastore, 1) := by decide +kernel
theorem dX10_mind_46 : decode cX10_mind 46 = .ok (.aload 4, 2) := by decide +kernel
theorem dX10_mind_48 : decode cX10_mind 48 = .ok (.getfield 140, 3) := by decide +kernel
theorem dX10_mind_51 : decode cX10_mind 51 = .ok (.ireturn, 1) := by decide +kernel
theorem dX10_purse_0 : decode cX10_purse 0 = .ok (.aload_n 0, 1) := by decide +kernel
theorem dX10_purse_1 : decode cX10_purse 1 = .ok (.getfield 10, 3) := by decide +kernel
theorem dX10_purse_4 : decode cX10_purse 4 = .ok (.iload_n 1, 1) := by decide +kernel
theorem dX10_purse_5 : decode cX10_purse 5 = .ok (.invokevirtual 136, 3) := by decide +kernel
theorem dX10_purse_8 : decode cX10_purse 8 = .ok (.ifnull 17, 3) := by decide +kernel
theorem dX10_purse_11 : decode cX10_purse 11 = .ok (.iload_n 2, 1) := by decide +kernel
theorem dX10_purse_12 : decode cX10_purse 12 = .ok (.sipush (-9999), 3) := by decide +kernel
theorem dX10_purse_15 : decode cX10_purse 15 = .ok (.if_icmp .lt 10, 3) := by decide +kernel
theorem dX10_purse_18 : decode cX10_purse 18 = .ok (.iload_n 2, 1) := by decide +kernel
theorem dX10_purse_19 : decode cX10_purse 19 = .ok (.sipush 9999, 3) := by decide +kernel
theorem dX10_purse_22 : decode cX10_purse 22 = .ok (.if_icmp .le 5, 3) := by decide +kernel
theorem dX10_purse_25 : decode cX10_purse 25 = .ok (.iconst (-1), 1) := by decide +kernel
theorem dX10_purse_26 : decode cX10_purse 26 = .ok (.ireturn, 1) := by decide +kernel
theorem dX10_purse_27 : decode cX10_purse 27 = .ok (.aload_n 0, 1) := by decide +kernel
theorem dX10_purse_28 : decode cX10_purse 28 = .ok (.getfield 10, 3) := by decide +kernel
theorem dX10_purse_31 : decode cX10_purse 31 = .ok (.getfield 148, 3) := by decide +kernel
theorem dX10_purse_34 : decode cX10_purse 34 = .ok (.iload_n 1, 1) := by decide +kernel
theorem dX10_purse_35 : decode cX10_purse 35 = .ok (.iaload, 1) := by decide +kernel
theorem dX10_purse_36 : decode cX10_purse 36 = .ok (.istore_n 3, 1) := by decide +kernel
theorem dX10_purse_37 : decode cX10_purse 37 = .ok (.aload_n 0, 1) := by decide +kernel
theorem dX10_purse_38 : decode cX10_purse 38 = .ok (.getfield 10, 3) := by decide +kernel
theorem dX10_purse_41 : decode cX10_purse 41 = .ok (.getfield 148, 3) := by decide +kernel
theorem dX10_purse_44 : decode cX10_purse 44 = .ok (.iload_n 1, 1) := by decide +kernel
theorem dX10_purse_45 : decode cX10_purse 45 = .ok (.iload_n 2, 1) := by decide +kernel
theorem dX10_purse_46 : decode cX10_purse 46 = .ok (.iastore, 1) := by decide +kernel
theorem dX10_purse_47 : decode cX10_purse 47 = .ok (.iload_n 3, 1) := by decide +kernel
theorem dX10_purse_48 : decode cX10_purse 48 = .ok (.ldc 151, 2) := by decide +kernel
theorem dX10_purse_50 : decode cX10_purse 50 = .ok (.iadd, 1) := by decide +kernel
theorem dX10_purse_51 : decode cX10_purse 51 = .ok (.ireturn, 1) := by decide +kernel
theorem dX10_say_0 : decode cX10_say 0 = .ok (.aload_n 0, 1) := by decide +kernel
theorem dX10_say_1 : decode cX10_say 1 = .ok (.getfield 10, 3) := by decide +kernel
theorem dX10_say_4 : decode cX10_say 4 = .ok (.iload_n 1, 1) := by decide +kernel
theorem dX10_say_5 : decode cX10_say 5 = .ok (.invokevirtual 136, 3) := by decide +kernel
theorem dX10_say_8 : decode cX10_say 8 = .ok (.ifnull 18, 3) := by decide +kernel
theorem dX10_say_11 : decode cX10_say 11 = .ok (.aload_n 0, 1) := by decide +kernel
theorem dX10_say_12 : decode cX10_say 12 = .ok (.iload_n 2, 1) := by decide +kernel
theorem dX10_say_13 : decode cX10_say 13 = .ok (.invokevirtual 159, 3) := by decide +kernel
theorem dX10_say_16 : decode cX10_say 16 = .ok (.ifCond .eq 10, 3) := by decide +kernel
theorem dX10_say_19 : decode cX10_say 19 = .ok (.iload_n 3, 1) := by decide +kernel
theorem dX10_say_20 : decode cX10_say 20 = .ok (.invokestatic 84, 3) := by decide +kernel
theorem dX10_say_23 : decode cX10_say 23 = .ok (.ifCond .ne 5, 3) := by decide +kernel
theorem dX10_say_26 : decode cX10_say 26 = .ok (.iconst (-1), 1) := by decide +kernel
theorem dX10_say_27 : decode cX10_say 27 = .ok (.ireturn, 1) := by decide +kernel
theorem dX10_say_28 : decode cX10_say 28 = .ok (.aload_n 0, 1) := by decide +kernel
theorem dX10_say_29 : decode cX10_say 29 = .ok (.getfield 10, 3) := by decide +kernel
theorem dX10_say_32 : decode cX10_say 32 = .ok (.iload_n 2, 1) := by decide +kernel
theorem dX10_say_33 : decode cX10_say 33 = .ok (.iload_n 3, 1) := by decide +kernel
theorem dX10_say_34 : decode cX10_say 34 = .ok (.invokevirtual 162, 3) := by decide +kernel
theorem dX10_say_37 : decode cX10_say 37 = .ok (.ifCond .eq 6, 3) := by decide +kernel
theorem dX10_say_40 : decode cX10_say 40 = .ok (.bipush (-4), 2) := by decide +kernel
theorem dX10_say_42 : decode cX10_say 42 = .ok (.ireturn, 1) := by decide +kernel
theorem dX10_say_43 : decode cX10_say 43 = .ok (.aload_n 0, 1) := by decide +kernel
theorem dX10_say_44 : decode cX10_say 44 = .ok (.getfield 10, 3) := by decide +kernel
theorem dX10_say_47 : decode cX10_say 47 = .ok (.invokevirtual 166, 3) := by decide +kernel
theorem dX10_say_50 : decode cX10_say 50 = .ok (.ifCond .ne 6, 3) := by decide +kernel
theorem dX10_say_53 : decode cX10_say 53 = .ok (.bipush (-2), 2) := by decide +kernel
theorem dX10_say_55 : decode cX10_say 55 = .ok (.ireturn, 1) := by decide +kernel
theorem dX10_say_56 : decode cX10_say 56 = .ok (.aload_n 0, 1) := by decide +kernel
theorem dX10_say_57 : decode cX10_say 57 = .ok (.getfield 10, 3) := by decide +kernel
theorem dX10_say_60 : decode cX10_say 60 = .ok (.iload_n 1, 1) := by decide +kernel
theorem dX10_say_61 : decode cX10_say 61 = .ok (.iload_n 2, 1) := by decide +kernel
theorem dX10_say_62 : decode cX10_say 62 = .ok (.iload_n 3, 1) := by decide +kernel
theorem dX10_say_63 : decode cX10_say 63 = .ok (.invokevirtual 170, 3) := by decide +kernel
theorem dX10_say_66 : decode cX10_say 66 = .ok (.ireturn, 1) := by decide +kernel
theorem dX10_sayingOf_0 : decode cX10_sayingOf 0 = .ok (.iload_n 1, 1) := by decide +kernel
theorem dX10_sayingOf_1 : decode cX10_sayingOf 1 = .ok (.ifCond .lt 14, 3) := by decide +kernel
theorem dX10_sayingOf_4 : decode cX10_sayingOf 4 = .ok (.iload_n 1, 1) := by decide +kernel
theorem dX10_sayingOf_5 : decode cX10_sayingOf 5 = .ok (.aload_n 0, 1) := by decide +kernel
theorem dX10_sayingOf_6 : decode cX10_sayingOf 6 = .ok (.getfield 10, 3) := by decide +kernel
theorem dX10_sayingOf_9 : decode cX10_sayingOf 9 = .ok (.getfield 174, 3) := by decide +kernel
theorem dX10_sayingOf_12 : decode cX10_sayingOf 12 = .ok (.if_icmp .lt 5, 3) := by decide +kernel
theorem dX10_sayingOf_15 : decode cX10_sayingOf 15 = .ok (.iconst (-1), 1) := by decide +kernel
theorem dX10_sayingOf_16 : decode cX10_sayingOf 16 = .ok (.ireturn, 1) := by decide +kernel
theorem dX10_sayingOf_17 : decode cX10_sayingOf 17 = .ok (.iload_n 2, 1) := by decide +kernel
theorem dX10_sayingOf_18 : decode cX10_sayingOf 18 = .ok (.tableswitch 98 0 3 #[30, 40, 50, 60], 30) := by decide +kernel
theorem dX10_sayingOf_48 : decode cX10_sayingOf 48 = .ok (.aload_n 0, 1) := by decide +kernel
theorem dX10_sayingOf_49 : decode cX10_sayingOf 49 = .ok (.getfield 10, 3) := by decide +kernel
theorem dX10_sayingOf_52 : decode cX10_sayingOf 52 = .ok (.getfield 177, 3) := by decide +kernel
theorem dX10_sayingOf_55 : decode cX10_sayingOf 55 = .ok (.iload_n 1, 1) := by decide +kernel
theorem dX10_sayingOf_56 : decode cX10_sayingOf 56 = .ok (.iaload, 1) := by decide +kernel
theorem dX10_sayingOf_57 : decode cX10_sayingOf 57 = .ok (.ireturn, 1) := by decide +kernel
theorem dX10_sayingOf_58 : decode cX10_sayingOf 58 = .ok (.aload_n 0, 1) := by decide +kernel
theorem dX10_sayingOf_59 : decode cX10_sayingOf 59 = .ok (.getfield 10, 3) := by decide +kernel
theorem dX10_sayingOf_62 : decode cX10_sayingOf 62 = .ok (.getfield 180, 3) := by decide +kernel
theorem dX10_sayingOf_65 : decode cX10_sayingOf 65 = .ok (.iload_n 1, 1) := by decide +kernel
theorem dX10_sayingOf_66 : decode cX10_sayingOf 66 = .ok (.iaload, 1) := by decide +kernel
theorem dX10_sayingOf_67 : decode cX10_sayingOf 67 = .ok (.ireturn, 1) := by decide +kernel
theorem dX10_sayingOf_68 : decode cX10_sayingOf 68 = .ok (.aload_n 0, 1) := by decide +kernel
theorem dX10_sayingOf_69 : decode cX10_sayingOf 69 = .ok (.getfield 10, 3) := by decide +kernel
theorem dX10_sayingOf_72 : decode cX10_sayingOf 72 = .ok (.getfield 183, 3) := by decide +kernel
theorem dX10_sayingOf_75 : decode cX10_sayingOf 75 = .ok (.iload_n 1, 1) := by decide +kernel
theorem dX10_sayingOf_76 : decode cX10_sayingOf 76 = .ok (.iaload, 1) := by decide +kernel
theorem dX10_sayingOf_77 : decode cX10_sayingOf 77 = .ok (.ireturn, 1) := by decide +kernel
theorem dX10_sayingOf_78 : decode cX10_sayingOf 78 = .ok (.aload_n 0, 1) := by decide +kernel
theorem dX10_sayingOf_79 : decode cX10_sayingOf 79 = .ok (.getfield 10, 3) := by decide +kernel
theorem dX10_sayingOf_82 : decode cX10_sayingOf 82 = .ok (.aload_n 0, 1) := by decide +kernel
theorem dX10_sayingOf_83 : decode cX10_sayingOf 83 = .ok (.getfield 10, 3) := by decide +kernel
theorem dX10_sayingOf_86 : decode cX10_sayingOf 86 = .ok (.getfield 180, 3) := by decide +kernel
theorem dX10_sayingOf_89 : decode cX10_sayingOf 89 = .ok (.iload_n 1, 1) := by decide +kernel
theorem dX10_sayingOf_90 : decode cX10_sayingOf 90 = .ok (.iaload, 1) := by decide +kernel
theorem dX10_sayingOf_91 : decode cX10_sayingOf 91 = .ok (.invokevirtual 186, 3) := by decide +kernel
theorem dX10_sayingOf_94 : decode cX10_sayingOf 94 = .ok (.ifCond .ne 5, 3) := by decide +kernel
theorem dX10_sayingOf_97 : decode cX10_sayingOf 97 = .ok (.iconst 0, 1) := by decide +kernel
theorem dX10_sayingOf_98 : decode cX10_sayingOf 98 = .ok (.ireturn, 1) := by decide +kernel
theorem dX10_sayingOf_99 : decode cX10_sayingOf 99 = .ok (.aload_n 0, 1) := by decide +kernel
theorem dX10_sayingOf_100 : decode cX10_sayingOf 100 = .ok (.getfield 10, 3) := by decide +kernel
theorem dX10_sayingOf_103 : decode cX10_sayingOf 103 = .ok (.iload_n 1, 1) := by decide +kernel
theorem dX10_sayingOf_104 : decode cX10_sayingOf 104 = .ok (.invokevirtual 189, 3) := by decide +kernel
theorem dX10_sayingOf_107 : decode cX10_sayingOf 107 = .ok (.ifCond .eq 7, 3) := by decide +kernel
theorem dX10_sayingOf_110 : decode cX10_sayingOf 110 = .ok (.iconst 1, 1) := by decide +kernel
theorem dX10_sayingOf_111 : decode cX10_sayingOf 111 = .ok (.goto 4, 3) := by decide +kernel
theorem dX10_sayingOf_114 : decode cX10_sayingOf 114 = .ok (.iconst 2, 1) := by decide +kernel
theorem dX10_sayingOf_115 : decode cX10_sayingOf 115 = .ok (.ireturn, 1) := by decide +kernel
theorem dX10_sayingOf_116 : decode cX10_sayingOf 116 = .ok (.iconst (-1), 1) := by decide +kernel
theorem dX10_sayingOf_117 : decode cX10_sayingOf 117 = .ok (.ireturn, 1) := by decide +kernel
theorem dX10_would_0 : decode cX10_would 0 = .ok (.aload_n 0, 1) := by decide +kernel
theorem dX10_would_1 : decode cX10_would 1 = .ok (.getfield 10, 3) := by decide +kernel
theorem dX10_would_4 : decode cX10_would 4 = .ok (.iload_n 1, 1) := by decide +kernel
theorem dX10_would_5 : decode cX10_would 5 = .ok (.invokevirtual 136, 3) := by decide +kernel
theorem dX10_would_8 : decode cX10_would 8 = .ok (.astore_n 3, 1) := by decide +kernel
theorem dX10_would_9 : decode cX10_would 9 = .ok (.aload_n 3, 1) := by decide +kernel
theorem dX10_would_10 : decode cX10_would 10 = .ok (.ifnull 12, 3) := by decide +kernel
theorem dX10_would_13 : decode cX10_would 13 = .ok (.iload_n 2, 1) := by decide +kernel
theorem dX10_would_14 : decode cX10_would 14 = .ok (.ifCond .lt 8, 3) := by decide +kernel
theorem dX10_would_17 : decode cX10_would 17 = .ok (.iload_n 2, 1) := by decide +kernel
theorem dX10_would_18 : decode cX10_would 18 = .ok (.iconst 2, 1) := by decide +kernel
theorem dX10_would_19 : decode cX10_would 19 = .ok (.if_icmp .le 5, 3) := by decide +kernel
theorem dX10_would_22 : decode cX10_would 22 = .ok (.iconst (-1), 1) := by decide +kernel
theorem dX10_would_23 : decode cX10_would 23 = .ok (.ireturn, 1) := by decide +kernel
theorem dX10_would_24 : decode cX10_would 24 = .ok (.aload_n 0, 1) := by decide +kernel
theorem dX10_would_25 : decode cX10_would 25 = .ok (.getfield 10, 3) := by decide +kernel
theorem dX10_would_28 : decode cX10_would 28 = .ok (.aload_n 3, 1) := by decide +kernel
theorem dX10_would_29 : decode cX10_would 29 = .ok (.invokevirtual 192, 3) := by decide +kernel
theorem dX10_would_32 : decode cX10_would 32 = .ok (.istore 4, 2) := by decide +kernel
theorem dX10_would_34 : decode cX10_would 34 = .ok (.iload 4, 2) := by decide +kernel
theorem dX10_would_36 : decode cX10_would 36 = .ok (.ifCond .ge 15, 3) := by decide +kernel
theorem dX10_would_39 : decode cX10_would 39 = .ok (.iload_n 2, 1) := by decide +kernel
theorem dX10_would_40 : decode cX10_would 40 = .ok (.iconst 2, 1) := by decide +kernel
theorem dX10_would_41 : decode cX10_would 41 = .ok (.if_icmp .ne 7, 3) := by decide +kernel
theorem dX10_would_44 : decode cX10_would 44 = .ok (.iconst 0, 1) := by decide +kernel
theorem dX10_would_45 : decode cX10_would 45 = .ok (.goto 5, 3) := by decide +kernel
theorem dX10_would_48 : decode cX10_would 48 = .ok (.bipush (-3), 2) := by decide +kernel
theorem dX10_would_50 : decode cX10_would 50 = .ok (.ireturn, 1) := by decide +kernel
theorem dX10_would_51 : decode cX10_would 51 = .ok (.iload_n 2, 1) := by decide +kernel
theorem dX10_would_52 : decode cX10_would 52 = .ok (.lookupswitch 42 #[(0, 28), (1, 31)], 28) := by decide +kernel
theorem dX10_would_80 : decode cX10_would 80 = .ok (.iload 4, 2) := by decide +kernel
theorem dX10_would_82 : decode cX10_would 82 = .ok (.ireturn, 1) := by decide +kernel
theorem dX10_would_83 : decode cX10_would 83 = .ok (.aload_n 3, 1) := by decide +kernel
theorem dX10_would_84 : decode cX10_would 84 = .ok (.aload_n 0, 1) := by decide +kernel
theorem dX10_would_85 : decode cX10_would 85 = .ok (.getfield 10, 3) := by decide +kernel
theorem dX10_would_88 : decode cX10_would 88 = .ok (.iload 4, 2) := by decide +kernel
theorem dX10_would_90 : decode cX10_would 90 = .ok (.invokevirtual 195, 3) := by decide +kernel
theorem dX10_would_93 : decode cX10_would 93 = .ok (.ireturn, 1) := by decide +kernel
theorem dX10_would_94 : decode cX10_would 94 = .ok (.aload_n 0, 1) := by decide +kernel
theorem dX10_would_95 : decode cX10_would 95 = .ok (.getfield 10, 3) := by decide +kernel
theorem dX10_would_98 : decode cX10_would 98 = .ok (.aload_n 3, 1) := by decide +kernel
theorem dX10_would_99 : decode cX10_would 99 = .ok (.invokevirtual 199, 3) := by decide +kernel
theorem dX10_would_102 : decode cX10_would 102 = .ok (.ireturn, 1) := by decide +kernel
theorem dX10_morning_0 : decode cX10_morning 0 = .ok (.iload_n 1, 1) := by decide +kernel
theorem dX10_morning_1 : decode cX10_morning 1 = .ok (.ifCond .lt 9, 3) := by decide +kernel
theorem dX10_morning_4 : decode cX10_morning 4 = .ok (.iload_n 1, 1) := by decide +kernel
theorem dX10_morning_5 : decode cX10_morning 5 = .ok (.bipush 20, 2) := by decide +kernel
theorem dX10_morning_7 : decode cX10_morning 7 = .ok (.if_icmp .le 5, 3) := by decide +kernel
theorem dX10_morning_10 : decode cX10_morning 10 = .ok (.iconst (-1), 1) := by decide +kernel
theorem dX10_morning_11 : decode cX10_morning 11 = .ok (.ireturn, 1) := by decide +kernel
theorem dX10_morning_12 : decode cX10_morning 12 = .ok (.iconst 0, 1) := by decide +kernel
theorem dX10_morning_13 : decode cX10_morning 13 = .ok (.istore_n 2, 1) := by decide +kernel
theorem dX10_morning_14 : decode cX10_morning 14 = .ok (.iload_n 2, 1) := by decide +kernel
theorem dX10_morning_15 : decode cX10_morning 15 = .ok (.iload_n 1, 1) := by decide +kernel
theorem dX10_morning_16 : decode cX10_morning 16 = .ok (.if_icmp .ge 16, 3) := by decide +kernel
theorem dX10_morning_19 : decode cX10_morning 19 = .ok (.aload_n 0, 1) := by decide +kernel
theorem dX10_morning_20 : decode cX10_morning 20 = .ok (.getfield 10, 3) := by decide +kernel
theorem dX10_morning_23 : decode cX10_morning 23 = .ok (.invokevirtual 202, 3) := by decide +kernel
theorem dX10_morning_26 : decode cX10_morning 26 = .ok (.iinc 2 1, 3) := by decide +kernel
theorem dX10_morning_29 : decode cX10_morning 29 = .ok (.goto (-15), 3) := by decide +kernel
theorem dX10_morning_32 : decode cX10_morning 32 = .ok (.aload_n 0, 1) := by decide +kernel
theorem dX10_morning_33 : decode cX10_morning 33 = .ok (.getfield 10, 3) := by decide +kernel
theorem dX10_morning_36 : decode cX10_morning 36 = .ok (.getfield 205, 3) := by decide +kernel
theorem dX10_morning_39 : decode cX10_morning 39 = .ok (.ireturn, 1) := by decide +kernel
theorem dX10_now_0 : decode cX10_now 0 = .ok (.aload_n 0, 1) := by decide +kernel
theorem dX10_now_1 : decode cX10_now 1 = .ok (.getfield 10, 3) := by decide +kernel
theorem dX10_now_4 : decode cX10_now 4 = .ok (.getfield 205, 3) := by decide +kernel
theorem dX10_now_7 : decode cX10_now 7 = .ok (.ireturn, 1) := by decide +kernel
theorem dX10_owner_0 : decode cX10_owner 0 = .ok (.iload_n 1, 1) := by decide +kernel
theorem dX10_owner_1 : decode cX10_owner 1 = .ok (.invokestatic 77, 3) := by decide +kernel
theorem dX10_owner_4 : decode cX10_owner 4 = .ok (.ifCond .ne 5, 3) := by decide +kernel
theorem dX10_owner_7 : decode cX10_owner 7 = .ok (.iconst (-1), 1) := by decide +kernel
theorem dX10_owner_8 : decode cX10_owner 8 = .ok (.ireturn, 1) := by decide +kernel
theorem dX10_owner_9 : decode cX10_owner 9 = .ok (.aload_n 0, 1) := by decide +kernel
theorem dX10_owner_10 : decode cX10_owner 10 = .ok (.getfield 10, 3) := by decide +kernel
theorem dX10_owner_13 : decode cX10_owner 13 = .ok (.iload_n 1, 1) := by decide +kernel
theorem dX10_owner_14 : decode cX10_owner 14 = .ok (.invokevirtual 208, 3) := by decide +kernel
theorem dX10_owner_17 : decode cX10_owner 17 = .ok (.istore_n 2, 1) := by decide +kernel
theorem dX10_owner_18 : decode cX10_owner 18 = .ok (.iload_n 2, 1) := by decide +kernel
theorem dX10_owner_19 : decode cX10_owner 19 = .ok (.ifCond .ge 8, 3) := by decide +kernel
theorem dX10_owner_22 : decode cX10_owner 22 = .ok (.bipush (-3), 2) := by decide +kernel
theorem dX10_owner_24 : decode cX10_owner 24 = .ok (.goto 4, 3) := by decide +kernel
theorem dX10_owner_27 : decode cX10_owner 27 = .ok (.iload_n 2, 1) := by decide +kernel
theorem dX10_owner_28 : decode cX10_owner 28 = .ok (.ireturn, 1) := by decide +kernel
theorem dX10_odds_0 : decode cX10_odds 0 = .ok (.aload_n 0, 1) := by decide +kernel
theorem dX10_odds_1 : decode cX10_odds 1 = .ok (.iload_n 1, 1) := by decide +kernel
theorem dX10_odds_2 : decode cX10_odds 2 = .ok (.invokevirtual 159, 3) := by decide +kernel
theorem dX10_odds_5 : decode cX10_odds 5 = .ok (.ifCond .eq 17, 3) := by decide +kernel
theorem dX10_odds_8 : decode cX10_odds 8 = .ok (.iload_n 2, 1) := by decide +kernel
theorem dX10_odds_9 : decode cX10_odds 9 = .ok (.invokestatic 84, 3) := by decide +kernel
theorem dX10_odds_12 : decode cX10_odds 12 = .ok (.ifCond .eq 10, 3) := by decide +kernel
theorem dX10_odds_15 : decode cX10_odds 15 = .ok (.iload_n 3, 1) := by decide +kernel
theorem dX10_odds_16 : decode cX10_odds 16 = .ok (.invokestatic 211, 3) := by decide +kernel
theorem dX10_odds_19 : decode cX10_odds 19 = .ok (.ifCond .ne 5, 3) := by decide +kernel
theorem dX10_odds_22 : decode cX10_odds 22 = .ok (.iconst (-1), 1) := by decide +kernel
theorem dX10_odds_23 : decode cX10_odds 23 = .ok (.ireturn, 1) := by decide +kernel
theorem dX10_odds_24 : decode cX10_odds 24 = .ok (.aload_n 0, 1) := by decide +kernel
theorem dX10_odds_25 : decode cX10_odds 25 = .ok (.getfield 10, 3) := by decide +kernel
theorem dX10_odds_28 : decode cX10_odds 28 = .ok (.iload_n 1, 1) := by decide +kernel
theorem dX10_odds_29 : decode cX10_odds 29 = .ok (.iload_n 2, 1) := by decide +kernel
theorem dX10_odds_30 : decode cX10_odds 30 = .ok (.invokevirtual 113, 3) := by decide +kernel
theorem dX10_odds_33 : decode cX10_odds 33 = .ok (.i2l, 1) := by decide +kernel
theorem dX10_odds_34 : decode cX10_odds 34 = .ok (.aload_n 0, 1) := by decide +kernel
theorem dX10_odds_35 : decode cX10_odds 35 = .ok (.getfield 10, 3) := by decide +kernel
theorem dX10_odds_38 : decode cX10_odds 38 = .ok (.iload_n 1, 1) := by decide +kernel
theorem dX10_odds_39 : decode cX10_odds 39 = .ok (.invokevirtual 214, 3) := by decide +kernel
theorem dX10_odds_42 : decode cX10_odds 42 = .ok (.i2l, 1) := by decide +kernel
theorem dX10_odds_43 : decode cX10_odds 43 = .ok (.iload_n 3, 1) := by decide +kernel
theorem dX10_odds_44 : decode cX10_odds 44 = .ok (.invokestatic 217, 3) := by decide +kernel
theorem dX10_odds_47 : decode cX10_odds 47 = .ok (.l2i, 1) := by decide +kernel
theorem dX10_odds_48 : decode cX10_odds 48 = .ok (.ireturn, 1) := by decide +kernel
theorem dX10_gain_0 : decode cX10_gain 0 = .ok (.aload_n 0, 1) := by decide +kernel
theorem dX10_gain_1 : decode cX10_gain 1 = .ok (.iload_n 1, 1) := by decide +kernel
theorem dX10_gain_2 : decode cX10_gain 2 = .ok (.invokevirtual 159, 3) := by decide +kernel
theorem dX10_gain_5 : decode cX10_gain 5 = .ok (.ifCond .eq 29, 3) := by decide +kernel
theorem dX10_gain_8 : decode cX10_gain 8 = .ok (.iload_n 2, 1) := by decide +kernel
theorem dX10_gain_9 : decode cX10_gain 9 = .ok (.invokestatic 84, 3) := by decide +kernel
theorem dX10_gain_12 : decode cX10_gain 12 = .ok (.ifCond .eq 22, 3) := by decide +kernel
theorem dX10_gain_15 : decode cX10_gain 15 = .ok (.iload_n 3, 1) := by decide +kernel
theorem dX10_gain_16 : decode cX10_gain 16 = .ok (.invokestatic 211, 3) := by decide +kernel
theorem dX10_gain_19 : decode cX10_gain 19 = .ok (.ifCond .eq 15, 3) := by decide +kernel
theorem dX10_gain_22 : decode cX10_gain 22 = .ok (.aload_n 0, 1) := by decide +kernel
theorem dX10_gain_23 : decode cX10_gain 23 = .ok (.getfield 10, 3) := by decide +kernel
theorem dX10_gain_26 : decode cX10_gain 26 = .ok (.iload_n 1, 1) := by decide +kernel
theorem dX10_gain_27 : decode cX10_gain 27 = .ok (.iload_n 2, 1) := by decide +kernel
theorem dX10_gain_28 : decode cX10_gain 28 = .ok (.invokevirtual 162, 3) := by decide +kernel
theorem dX10_gain_31 : decode cX10_gain 31 = .ok (.ifCond .eq 7, 3) := by decide +kernel
theorem dX10_gain_34 : decode cX10_gain 34 = .ok (.ldc2_w 221, 3) := by decide +kernel
theorem dX10_gain_37 : decode cX10_gain 37 = .ok (.lreturn, 1) := by decide +kernel
theorem dX10_gain_38 : decode cX10_gain 38 = .ok (.aload_n 0, 1) := by decide +kernel
theorem dX10_gain_39 : decode cX10_gain 39 = .ok (.getfield 10, 3) := by decide +kernel
theorem dX10_gain_42 : decode cX10_gain 42 = .ok (.iload_n 1, 1) := by decide +kernel
theorem dX10_gain_43 : decode cX10_gain 43 = .ok (.iload_n 2, 1) := by decide +kernel
theorem dX10_gain_44 : decode cX10_gain 44 = .ok (.aload_n 0, 1) := by decide +kernel
theorem dX10_gain_45 : decode cX10_gain 45 = .ok (.getfield 10, 3) := by decide +kernel
theorem dX10_gain_48 : decode cX10_gain 48 = .ok (.getfield 94, 3) := by decide +kernel
theorem dX10_gain_51 : decode cX10_gain 51 = .ok (.iload_n 1, 1) := by decide +kernel
theorem dX10_gain_52 : decode cX10_gain 52 = .ok (.iaload, 1) := by decide +kernel
theorem dX10_gain_53 : decode cX10_gain 53 = .ok (.invokevirtual 223, 3) := by decide +kernel
theorem dX10_gain_56 : decode cX10_gain 56 = .ok (.aload_n 0, 1) := by decide +kernel
theorem dX10_gain_57 : decode cX10_gain 57 = .ok (.getfield 10, 3) := by decide +kernel
theorem dX10_gain_60 : decode cX10_gain 60 = .ok (.iload_n 1, 1) := by decide +kernel
theorem dX10_gain_61 : decode cX10_gain 61 = .ok (.invokevirtual 214, 3) := by decide +kernel
theorem dX10_gain_64 : decode cX10_gain 64 = .ok (.i2l, 1) := by decide +kernel
theorem dX10_gain_65 : decode cX10_gain 65 = .ok (.iload_n 3, 1) := by decide +kernel
theorem dX10_gain_66 : decode cX10_gain 66 = .ok (.invokestatic 217, 3) := by decide +kernel
theorem dX10_gain_69 : decode cX10_gain 69 = .ok (.lreturn, 1) := by decide +kernel
theorem dX10_waited_0 : decode cX10_waited 0 = .ok (.iload_n 1, 1) := by decide +kernel
theorem dX10_waited_1 : decode cX10_waited 1 = .ok (.invokestatic 77, 3) := by decide +kernel
theorem dX10_waited_4 : decode cX10_waited 4 = .ok (.ifCond .eq 35, 3) := by decide +kernel
theorem dX10_waited_7 : decode cX10_waited 7 = .ok (.iload_n 2, 1) := by decide +kernel
theorem dX10_waited_8 : decode cX10_waited 8 = .ok (.invokestatic 211, 3) := by decide +kernel
theorem dX10_waited_11 : decode cX10_waited 11 = .ok (.ifCond .eq 28, 3) := by decide +kernel
theorem dX10_waited_14 : decode cX10_waited 14 = .ok (.aload_n 0, 1) := by decide +kernel
theorem dX10_waited_15 : decode cX10_waited 15 = .ok (.getfield 10, 3) := by decide +kernel
theorem dX10_waited_18 : decode cX10_waited 18 = .ok (.getfield 94, 3) := by decide +kernel
theorem dX10_waited_21 : decode cX10_waited 21 = .ok (.iload_n 1, 1) := by decide +kernel
theorem dX10_waited_22 : decode cX10_waited 22 = .ok (.iaload, 1) := by decide +kernel
theorem dX10_waited_23 : decode cX10_waited 23 = .ok (.ifCond .ge 16, 3) := by decide +kernel
theorem dX10_waited_26 : decode cX10_waited 26 = .ok (.iload_n 1, 1) := by decide +kernel
theorem dX10_waited_27 : decode cX10_waited 27 = .ok (.aload_n 0, 1) := by decide +kernel
theorem dX10_waited_28 : decode cX10_waited 28 = .ok (.getfield 10, 3) := by decide +kernel
theorem dX10_waited_31 : decode cX10_waited 31 = .ok (.getfield 205, 3) := by decide +kernel
theorem dX10_waited_34 : decode cX10_waited 34 = .ok (.iconst 3, 1) := by decide +kernel
theorem dX10_waited_35 : decode cX10_waited 35 = .ok (.iadd, 1) := by decide +kernel
theorem dX10_waited_36 : decode cX10_waited 36 = .ok (.if_icmp .gt 7, 3) := by decide +kernel
theorem dX10_waited_39 : decode cX10_waited 39 = .ok (.ldc2_w 221, 3) := by decide +kernel
theorem dX10_waited_42 : decode cX10_waited 42 = .ok (.lreturn, 1) := by decide +kernel
theorem dX10_waited_43 : decode cX10_waited 43 = .ok (.lconst 0, 1) := by decide +kernel
theorem dX10_waited_44 : decode cX10_waited 44 = .ok (.lstore_n 3, 1) := by decide +kernel
theorem dX10_waited_45 : decode cX10_waited 45 = .ok (.iconst 0, 1) := by decide +kernel
theorem dX10_waited_46 : decode cX10_waited 46 = .ok (.istore 5, 2) := by decide +kernel
theorem dX10_waited_48 : decode cX10_waited 48 = .ok (.iload 5, 2) := by decide +kernel
theorem dX10_waited_50 : decode cX10_waited 50 = .ok (.iconst 4, 1) := by decide +kernel
theorem dX10_waited_51 : decode cX10_waited 51 = .ok (.if_icmp .ge 38, 3) := by decide +kernel
theorem dX10_waited_54 : decode cX10_waited 54 = .ok (.lload_n 3, 1) := by decide +kernel
theorem dX10_waited_55 : decode cX10_waited 55 = .ok (.aload_n 0, 1) := by decide +kernel
theorem dX10_waited_56 : decode cX10_waited 56 = .ok (.getfield 10, 3) := by decide +kernel
theorem dX10_waited_59 : decode cX10_waited 59 = .ok (.getfield 87, 3) := by decide +kernel
theorem dX10_waited_62 : decode cX10_waited 62 = .ok (.iload_n 1, 1) := by decide +kernel
theorem dX10_waited_63 : decode cX10_waited 63 = .ok (.iconst 4, 1) := by decide +kernel
theorem dX10_waited_64 : decode cX10_waited 64 = .ok (.imul, 1) := by decide +kernel
theorem dX10_waited_65 : decode cX10_waited 65 = .ok (.iload 5, 2) := by decide +kernel
theorem dX10_waited_67 : decode cX10_waited 67 = .ok (.iadd, 1) := by decide +kernel
theorem dX10_waited_68 : decode cX10_waited 68 = .ok (.iaload, 1) := by decide +kernel
theorem dX10_waited_69 : decode cX10_waited 69 = .ok (.i2l, 1) := by decide +kernel
theorem dX10_waited_70 : decode cX10_waited 70 = .ok (.aload_n 0, 1) := by decide +kernel
theorem dX10_waited_71 : decode cX10_waited 71 = .ok (.getfield 10, 3) := by decide +kernel
theorem dX10_waited_74 : decode cX10_waited 74 = .ok (.iload_n 1, 1) := by decide +kernel
theorem dX10_waited_75 : decode cX10_waited 75 = .ok (.iload 5, 2) := by decide +kernel
theorem dX10_waited_77 : decode cX10_waited 77 = .ok (.invokevirtual 227, 3) := by decide +kernel
theorem dX10_waited_80 : decode cX10_waited 80 = .ok (.lmul, 1) := by decide +kernel
theorem dX10_waited_81 : decode cX10_waited 81 = .ok (.ladd, 1) := by decide +kernel
theorem dX10_waited_82 : decode cX10_waited 82 = .ok (.lstore_n 3, 1) := by decide +kernel
theorem dX10_waited_83 : decode cX10_waited 83 = .ok (.iinc 5 1, 3) := by decide +kernel
theorem dX10_waited_86 : decode cX10_waited 86 = .ok (.goto (-38), 3) := by decide +kernel
theorem dX10_waited_89 : decode cX10_waited 89 = .ok (.aload_n 0, 1) := by decide +kernel
theorem dX10_waited_90 : decode cX10_waited 90 = .ok (.getfield 10, 3) := by decide +kernel
theorem dX10_waited_93 : decode cX10_waited 93 = .ok (.iload_n 1, 1) := by decide +kernel
theorem dX10_waited_94 : decode cX10_waited 94 = .ok (.iconst (-1), 1) := by decide +kernel
theorem dX10_waited_95 : decode cX10_waited 95 = .ok (.invokevirtual 90, 3) := by decide +kernel
theorem dX10_waited_98 : decode cX10_waited 98 = .ok (.i2l, 1) := by decide +kernel
theorem dX10_waited_99 : decode cX10_waited 99 = .ok (.aload_n 0, 1) := by decide +kernel
theorem dX10_waited_100 : decode cX10_waited 100 = .ok (.getfield 10, 3) := by decide +kernel
theorem dX10_waited_103 : decode cX10_waited 103 = .ok (.iload_n 1, 1) := by decide +kernel
theorem dX10_waited_104 : decode cX10_waited 104 = .ok (.iconst 0, 1) := by decide +kernel
theorem dX10_waited_105 : decode cX10_waited 105 = .ok (.invokevirtual 90, 3) := by decide +kernel
theorem dX10_waited_108 : decode cX10_waited 108 = .ok (.i2l, 1) := by decide +kernel
theorem dX10_waited_109 : decode cX10_waited 109 = .ok (.lmul, 1) := by decide +kernel
theorem dX10_waited_110 : decode cX10_waited 110 = .ok (.lstore 5, 2) := by decide +kernel
theorem dX10_waited_112 : decode cX10_waited 112 = .ok (.lload_n 3, 1) := by decide +kernel
theorem dX10_waited_113 : decode cX10_waited 113 = .ok (.lload 5, 2) := by decide +kernel
theorem dX10_waited_115 : decode cX10_waited 115 = .ok (.iload_n 2, 1) := by decide +kernel
theorem dX10_waited_116 : decode cX10_waited 116 = .ok (.invokestatic 217, 3) := by decide +kernel
theorem dX10_waited_119 : decode cX10_waited 119 = .ok (.lreturn, 1) := by decide +kernel
theorem dX10_best_0 : decode cX10_best 0 = .ok (.iload_n 1, 1) := by decide +kernel
theorem dX10_best_1 : decode cX10_best 1 = .ok (.ifCond .eq 10, 3) := by decide +kernel
theorem dX10_best_4 : decode cX10_best 4 = .ok (.iload_n 1, 1) := by decide +kernel
theorem dX10_best_5 : decode cX10_best 5 = .ok (.iconst 1, 1) := by decide +kernel
theorem dX10_best_6 : decode cX10_best 6 = .ok (.if_icmp .eq 5, 3) := by decide +kernel
theorem dX10_best_9 : decode cX10_best 9 = .ok (.iconst (-1), 1) := by decide +kernel
theorem dX10_best_10 : decode cX10_best 10 = .ok (.ireturn, 1) := by decide +kernel
theorem dX10_best_11 : decode cX10_best 11 = .ok (.aload_n 0, 1) := by decide +kernel
theorem dX10_best_12 : decode cX10_best 12 = .ok (.getfield 10, 3) := by decide +kernel
theorem dX10_best_15 : decode cX10_best 15 = .ok (.invokevirtual 231, 3) := by decide +kernel
theorem dX10_best_18 : decode cX10_best 18 = .ok (.istore_n 2, 1) := by decide +kernel
theorem dX10_best_19 : decode cX10_best 19 = .ok (.iload_n 2, 1) := by decide +kernel
theorem dX10_best_20 : decode cX10_best 20 = .ok (.ifCond .ge 6, 3) := by decide +kernel
theorem dX10_best_23 : decode cX10_best 23 = .ok (.bipush (-3), 2) := by decide +kernel
theorem dX10_best_25 : decode cX10_best 25 = .ok (.ireturn, 1) := by decide +kernel
theorem dX10_best_26 : decode cX10_best 26 = .ok (.iload_n 1, 1) := by decide +kernel
theorem dX10_best_27 : decode cX10_best 27 = .ok (.ifCond .ne 9, 3) := by decide +kernel
theorem dX10_best_30 : decode cX10_best 30 = .ok (.iload_n 2, 1) := by decide +kernel
theorem dX10_best_31 : decode cX10_best 31 = .ok (.iconst 4, 1) := by decide +kernel
theorem dX10_best_32 : decode cX10_best 32 = .ok (.idiv, 1) := by decide +kernel
theorem dX10_best_33 : decode cX10_best 33 = .ok (.goto 6, 3) := by decide +kernel
theorem dX10_best_36 : decode cX10_best 36 = .ok (.iload_n 2, 1) := by decide +kernel
theorem dX10_best_37 : decode cX10_best 37 = .ok (.iconst 4, 1) := by decide +kernel
theorem dX10_best_38 : decode cX10_best 38 = .ok (.irem, 1) := by decide +kernel
theorem dX10_best_39 : decode cX10_best 39 = .ok (.ireturn, 1) := by decide +kernel
theorem dX10_whole_0 : decode cX10_whole 0 = .ok (.aload_n 0, 1) := by decide +kernel
theorem dX10_whole_1 : decode cX10_whole 1 = .ok (.iload_n 1, 1) := by decide +kernel
theorem dX10_whole_2 : decode cX10_whole 2 = .ok (.invokevirtual 159, 3) := by decide +kernel
theorem dX10_whole_5 : decode cX10_whole 5 = .ok (.ifCond .eq 10, 3) := by decide +kernel
theorem dX10_whole_8 : decode cX10_whole 8 = .ok (.iload_n 2, 1) := by decide +kernel
theorem dX10_whole_9 : decode cX10_whole 9 = .ok (.invokestatic 211, 3) := by decide +kernel
theorem dX10_whole_12 : decode cX10_whole 12 = .ok (.ifCond .ne 7, 3) := by decide +kernel
theorem dX10_whole_15 : decode cX10_whole 15 = .ok (.ldc2_w 221, 3) := by decide +kernel
theorem dX10_whole_18 : decode cX10_whole 18 = .ok (.lreturn, 1) := by decide +kernel
theorem dX10_whole_19 : decode cX10_whole 19 = .ok (.lconst 0, 1) := by decide +kernel
theorem dX10_whole_20 : decode cX10_whole 20 = .ok (.lstore_n 3, 1) := by decide +kernel
theorem dX10_whole_21 : decode cX10_whole 21 = .ok (.iconst 0, 1) := by decide +kernel
theorem dX10_whole_22 : decode cX10_whole 22 = .ok (.istore 5, 2) := by decide +kernel
theorem dX10_whole_24 : decode cX10_whole 24 = .ok (.iload 5, 2) := by decide +kernel
theorem dX10_whole_26 : decode cX10_whole 26 = .ok (.iconst 4, 1) := by decide +kernel
theorem dX10_whole_27 : decode cX10_whole 27 = .ok (.if_icmp .ge 44, 3) := by decide +kernel
theorem dX10_whole_30 : decode cX10_whole 30 = .ok (.aload_n 0, 1) := by decide +kernel
theorem dX10_whole_31 : decode cX10_whole 31 = .ok (.getfield 10, 3) := by decide +kernel
theorem dX10_whole_34 : decode cX10_whole 34 = .ok (.iload_n 1, 1) := by decide +kernel
theorem dX10_whole_35 : decode cX10_whole 35 = .ok (.iload 5, 2) := by decide +kernel
theorem dX10_whole_37 : decode cX10_whole 37 = .ok (.invokevirtual 162, 3) := by decide +kernel
theorem dX10_whole_40 : decode cX10_whole 40 = .ok (.ifCond .ne 25, 3) := by decide +kernel
theorem dX10_whole_43 : decode cX10_whole 43 = .ok (.lload_n 3, 1) := by decide +kernel
theorem dX10_whole_44 : decode cX10_whole 44 = .ok (.aload_n 0, 1) := by decide +kernel
theorem dX10_whole_45 : decode cX10_whole 45 = .ok (.getfield 10, 3) := by decide +kernel
theorem dX10_whole_48 : decode cX10_whole 48 = .ok (.iload_n 1, 1) := by decide +kernel
theorem dX10_whole_49 : decode cX10_whole 49 = .ok (.iload 5, 2) := by decide +kernel
theorem dX10_whole_51 : decode cX10_whole 51 = .ok (.aload_n 0, 1) := by decide +kernel
theorem dX10_whole_52 : decode cX10_whole 52 = .ok (.getfield 10, 3) := by decide +kernel
theorem dX10_whole_55 : decode cX10_whole 55 = .ok (.getfield 94, 3) := by decide +kernel
theorem dX10_whole_58 : decode cX10_whole 58 = .ok (.iload_n 1, 1) := by decide +kernel
theorem dX10_whole_59 : decode cX10_whole 59 = .ok (.iaload, 1) := by decide +kernel
theorem dX10_whole_60 : decode cX10_whole 60 = .ok (.invokevirtual 223, 3) := by decide +kernel
theorem dX10_whole_63 : decode cX10_whole 63 = .ok (.ladd, 1) := by decide +kernel
theorem dX10_whole_64 : decode cX10_whole 64 = .ok (.lstore_n 3, 1) := by decide +kernel
theorem dX10_whole_65 : decode cX10_whole 65 = .ok (.iinc 5 1, 3) := by decide +kernel
theorem dX10_whole_68 : decode cX10_whole 68 = .ok (.goto (-44), 3) := by decide +kernel
theorem dX10_whole_71 : decode cX10_whole 71 = .ok (.lload_n 3, 1) := by decide +kernel
theorem dX10_whole_72 : decode cX10_whole 72 = .ok (.aload_n 0, 1) := by decide +kernel
theorem dX10_whole_73 : decode cX10_whole 73 = .ok (.getfield 10, 3) := by decide +kernel
theorem dX10_whole_76 : decode cX10_whole 76 = .ok (.iload_n 1, 1) := by decide +kernel
theorem dX10_whole_77 : decode cX10_whole 77 = .ok (.invokevirtual 214, 3) := by decide +kernel
theorem dX10_whole_80 : decode cX10_whole 80 = .ok (.i2l, 1) := by decide +kernel
theorem dX10_whole_81 : decode cX10_whole 81 = .ok (.iload_n 2, 1) := by decide +kernel
theorem dX10_whole_82 : decode cX10_whole 82 = .ok (.invokestatic 217, 3) := by decide +kernel
theorem dX10_whole_85 : decode cX10_whole 85 = .ok (.lreturn, 1) := by decide +kernel
theorem dX10_owed_0 : decode cX10_owed 0 = .ok (.aload_n 0, 1) := by decide +kernel
theorem dX10_owed_1 : decode cX10_owed 1 = .ok (.getfield 10, 3) := by decide +kernel
theorem dX10_owed_4 : decode cX10_owed 4 = .ok (.iload_n 1, 1) := by decide +kernel
theorem dX10_owed_5 : decode cX10_owed 5 = .ok (.invokevirtual 136, 3) := by decide +kernel
theorem dX10_owed_8 : decode cX10_owed 8 = .ok (.ifnonnull 7, 3) := by decide +kernel
theorem dX10_owed_11 : decode cX10_owed 11 = .ok (.ldc2_w 221, 3) := by decide +kernel
theorem dX10_owed_14 : decode cX10_owed 14 = .ok (.lreturn, 1) := by decide +kernel
theorem dX10_owed_15 : decode cX10_owed 15 = .ok (.ldc2_w 234, 3) := by decide +kernel
theorem dX10_owed_18 : decode cX10_owed 18 = .ok (.aload_n 0, 1) := by decide +kernel
theorem dX10_owed_19 : decode cX10_owed 19 = .ok (.getfield 10, 3) := by decide +kernel
theorem dX10_owed_22 : decode cX10_owed 22 = .ok (.getfield 148, 3) := by decide +kernel
theorem dX10_owed_25 : decode cX10_owed 25 = .ok (.iload_n 1, 1) := by decide +kernel
theorem dX10_owed_26 : decode cX10_owed 26 = .ok (.iaload, 1) := by decide +kernel
theorem dX10_owed_27 : decode cX10_owed 27 = .ok (.i2l, 1) := by decide +kernel
theorem dX10_owed_28 : decode cX10_owed 28 = .ok (.lmul, 1) := by decide +kernel
theorem dX10_owed_29 : decode cX10_owed 29 = .ok (.lstore_n 2, 1) := by decide +kernel
theorem dX10_owed_30 : decode cX10_owed 30 = .ok (.iconst 0, 1) := by decide +kernel
theorem dX10_owed_31 : decode cX10_owed 31 = .ok (.istore 4, 2) := by decide +kernel
theorem dX10_owed_33 : decode cX10_owed 33 = .ok (.iload 4, 2) := by decide +kernel
theorem dX10_owed_35 : decode cX10_owed 35 = .ok (.aload_n 0, 1) := by decide +kernel
theorem dX10_owed_36 : decode cX10_owed 36 = .ok (.getfield 10, 3) := by decide +kernel
theorem dX10_owed_39 : decode cX10_owed 39 = .ok (.getfield 174, 3) := by decide +kernel
theorem dX10_owed_42 : decode cX10_owed 42 = .ok (.if_icmp .ge 35, 3) := by decide +kernel
theorem dX10_owed_45 : decode cX10_owed 45 = .ok (.aload_n 0, 1) := by decide +kernel
theorem dX10_owed_46 : decode cX10_owed 46 = .ok (.getfield 10, 3) := by decide +kernel
theorem dX10_owed_49 : decode cX10_owed 49 = .ok (.getfield 177, 3) := by decide +kernel
theorem dX10_owed_52 : decode cX10_owed 52 = .ok (.iload 4, 2) := by decide +kernel
theorem dX10_owed_54 : decode cX10_owed 54 = .ok (.iaload, 1) := by decide +kernel
theorem dX10_owed_55 : decode cX10_owed 55 = .ok (.iload_n 1, 1) := by decide +kernel
theorem dX10_owed_56 : decode cX10_owed 56 = .ok (.if_icmp .ne 15, 3) := by decide +kernel
theorem dX10_owed_59 : decode cX10_owed 59 = .ok (.lload_n 2, 1) := by decide +kernel
theorem dX10_owed_60 : decode cX10_owed 60 = .ok (.aload_n 0, 1) := by decide +kernel
theorem dX10_owed_61 : decode cX10_owed 61 = .ok (.getfield 10, 3) := by decide +kernel
theorem dX10_owed_64 : decode cX10_owed 64 = .ok (.iload 4, 2) := by decide +kernel
theorem dX10_owed_66 : decode cX10_owed 66 = .ok (.invokevirtual 236, 3) := by decide +kernel
theorem dX10_owed_69 : decode cX10_owed 69 = .ok (.ladd, 1) := by decide +kernel
theorem dX10_owed_70 : decode cX10_owed 70 = .ok (.lstore_n 2, 1) := by decide +kernel
theorem dX10_owed_71 : decode cX10_owed 71 = .ok (.iinc 4 1, 3) := by decide +kernel
theorem dX10_owed_74 : decode cX10_owed 74 = .ok (.goto (-41), 3) := by decide +kernel
theorem dX10_owed_77 : decode cX10_owed 77 = .ok (.lload_n 2, 1) := by decide +kernel
theorem dX10_owed_78 : decode cX10_owed 78 = .ok (.lreturn, 1) := by decide +kernel
theorem dX10_believed_0 : decode cX10_believed 0 = .ok (.aload_n 0, 1) := by decide +kernel
theorem dX10_believed_1 : decode cX10_believed 1 = .ok (.getfield 10, 3) := by decide +kernel
theorem dX10_believed_4 : decode cX10_believed 4 = .ok (.iload_n 1, 1) := by decide +kernel
theorem dX10_believed_5 : decode cX10_believed 5 = .ok (.invokevirtual 136, 3) := by decide +kernel
theorem dX10_believed_8 : decode cX10_believed 8 = .ok (.ifnull 10, 3) := by decide +kernel
theorem dX10_believed_11 : decode cX10_believed 11 = .ok (.iload_n 2, 1) := by decide +kernel
theorem dX10_believed_12 : decode cX10_believed 12 = .ok (.invokestatic 211, 3) := by decide +kernel
theorem dX10_believed_15 : decode cX10_believed 15 = .ok (.ifCond .ne 5, 3) := by decide +kernel
theorem dX10_believed_18 : decode cX10_believed 18 = .ok (.iconst (-1), 1) := by decide +kernel
theorem dX10_believed_19 : decode cX10_believed 19 = .ok (.ireturn, 1) := by decide +kernel
theorem dX10_believed_20 : decode cX10_believed 20 = .ok (.aload_n 0, 1) := by decide +kernel
theorem dX10_believed_21 : decode cX10_believed 21 = .ok (.getfield 10, 3) := by decide +kernel
theorem dX10_believed_24 : decode cX10_believed 24 = .ok (.iload_n 1, 1) := by decide +kernel
theorem dX10_believed_25 : decode cX10_believed 25 = .ok (.invokevirtual 240, 3) := by decide +kernel
theorem dX10_believed_28 : decode cX10_believed 28 = .ok (.istore_n 3, 1) := by decide +kernel
theorem dX10_believed_29 : decode cX10_believed 29 = .ok (.iload_n 3, 1) := by decide +kernel
theorem dX10_believed_30 : decode cX10_believed 30 = .ok (.ifCond .ne 7, 3) := by decide +kernel
theorem dX10_believed_33 : decode cX10_believed 33 = .ok (.iload_n 2, 1) := by decide +kernel
theorem dX10_believed_34 : decode cX10_believed 34 = .ok (.goto 19, 3) := by decide +kernel
theorem dX10_believed_37 : decode cX10_believed 37 = .ok (.aload_n 0, 1) := by decide +kernel
theorem dX10_believed_38 : decode cX10_believed 38 = .ok (.getfield 10, 3) := by decide +kernel
theorem dX10_believed_41 : decode cX10_believed 41 = .ok (.iload_n 1, 1) := by decide +kernel
theorem dX10_believed_42 : decode cX10_believed 42 = .ok (.invokevirtual 243, 3) := by decide +kernel
theorem dX10_believed_45 : decode cX10_believed 45 = .ok (.i2l, 1) := by decide +kernel
theorem dX10_believed_46 : decode cX10_believed 46 = .ok (.iload_n 3, 1) := by decide +kernel
theorem dX10_believed_47 : decode cX10_believed 47 = .ok (.i2l, 1) := by decide +kernel
theorem dX10_believed_48 : decode cX10_believed 48 = .ok (.iload_n 2, 1) := by decide +kernel
theorem dX10_believed_49 : decode cX10_believed 49 = .ok (.invokestatic 217, 3) := by decide +kernel
theorem dX10_believed_52 : decode cX10_believed 52 = .ok (.l2i, 1) := by decide +kernel
theorem dX10_believed_53 : decode cX10_believed 53 = .ok (.ireturn, 1) := by decide +kernel
theorem dX10_whom_0 : decode cX10_whom 0 = .ok (.bipush (-3), 2) := by decide +kernel
theorem dX10_whom_2 : decode cX10_whom 2 = .ok (.istore_n 1, 1) := by decide +kernel
theorem dX10_whom_3 : decode cX10_whom 3 = .ok (.iconst 0, 1) := by decide +kernel
theorem dX10_whom_4 : decode cX10_whom 4 = .ok (.istore_n 2, 1) := by decide +kernel
theorem dX10_whom_5 : decode cX10_whom 5 = .ok (.iconst 1, 1) := by decide +kernel
theorem dX10_whom_6 : decode cX10_whom 6 = .ok (.istore_n 3, 1) := by decide +kernel
theorem dX10_whom_7 : decode cX10_whom 7 = .ok (.iconst 0, 1) := by decide +kernel
theorem dX10_whom_8 : decode cX10_whom 8 = .ok (.istore 4, 2) := by decide +kernel
theorem dX10_whom_10 : decode cX10_whom 10 = .ok (.iload 4, 2) := by decide +kernel
theorem dX10_whom_12 : decode cX10_whom 12 = .ok (.aload_n 0, 1) := by decide +kernel
theorem dX10_whom_13 : decode cX10_whom 13 = .ok (.getfield 10, 3) := by decide +kernel
theorem dX10_whom_16 : decode cX10_whom 16 = .ok (.getfield 74, 3) := by decide +kernel
theorem dX10_whom_19 : decode cX10_whom 19 = .ok (.if_icmp .ge 59, 3) := by decide +kernel
theorem dX10_whom_22 : decode cX10_whom 22 = .ok (.aload_n 0, 1) := by decide +kernel
theorem dX10_whom_23 : decode cX10_whom 23 = .ok (.getfield 10, 3) := by decide +kernel
theorem dX10_whom_26 : decode cX10_whom 26 = .ok (.iload 4, 2) := by decide +kernel
theorem dX10_whom_28 : decode cX10_whom 28 = .ok (.invokevirtual 243, 3) := by decide +kernel
theorem dX10_whom_31 : decode cX10_whom 31 = .ok (.istore 5, 2) := by decide +kernel
theorem dX10_whom_33 : decode cX10_whom 33 = .ok (.iconst 1, 1) := by decide +kernel
theorem dX10_whom_34 : decode cX10_whom 34 = .ok (.aload_n 0, 1) := by decide +kernel
theorem dX10_whom_35 : decode cX10_whom 35 = .ok (.getfield 10, 3) := by decide +kernel
theorem dX10_whom_38 : decode cX10_whom 38 = .ok (.iload 4, 2) := by decide +kernel
theorem dX10_whom_40 : decode cX10_whom 40 = .ok (.invokevirtual 240, 3) := by decide +kernel
theorem dX10_whom_43 : decode cX10_whom 43 = .ok (.invokestatic 246, 3) := by decide +kernel
theorem dX10_whom_46 : decode cX10_whom 46 = .ok (.istore 6, 2) := by decide +kernel
theorem dX10_whom_48 : decode cX10_whom 48 = .ok (.iload_n 1, 1) := by decide +kernel
theorem dX10_whom_49 : decode cX10_whom 49 = .ok (.ifCond .lt 14, 3) := by decide +kernel
theorem dX10_whom_52 : decode cX10_whom 52 = .ok (.iload 5, 2) := by decide +kernel
theorem dX10_whom_54 : decode cX10_whom 54 = .ok (.iload_n 3, 1) := by decide +kernel
theorem dX10_whom_55 : decode cX10_whom 55 = .ok (.imul, 1) := by decide +kernel
theorem dX10_whom_56 : decode cX10_whom 56 = .ok (.iload_n 2, 1) := by decide +kernel
theorem dX10_whom_57 : decode cX10_whom 57 = .ok (.iload 6, 2) := by decide +kernel
theorem dX10_whom_59 : decode cX10_whom 59 = .ok (.imul, 1) := by decide +kernel
theorem dX10_whom_60 : decode cX10_whom 60 = .ok (.if_icmp .le 12, 3) := by decide +kernel
theorem dX10_whom_63 : decode cX10_whom 63 = .ok (.iload 4, 2) := by decide +kernel
theorem dX10_whom_65 : decode cX10_whom 65 = .ok (.istore_n 1, 1) := by decide +kernel
theorem dX10_whom_66 : decode cX10_whom 66 = .ok (.iload 5, 2) := by decide +kernel
theorem dX10_whom_68 : decode cX10_whom 68 = .ok (.istore_n 2, 1) := by decide +kernel
theorem dX10_whom_69 : decode cX10_whom 69 = .ok (.iload 6, 2) := by decide +kernel
theorem dX10_whom_71 : decode cX10_whom 71 = .ok (.istore_n 3, 1) := by decide +kernel
theorem dX10_whom_72 : decode cX10_whom 72 = .ok (.iinc 4 1, 3) := by decide +kernel
theorem dX10_whom_75 : decode cX10_whom 75 = .ok (.goto (-65), 3) := by decide +kernel
theorem dX10_whom_78 : decode cX10_whom 78 = .ok (.iload_n 1, 1) := by decide +kernel
theorem dX10_whom_79 : decode cX10_whom 79 = .ok (.ireturn, 1) := by decide +kernel
theorem dX10_open_0 : decode cX10_open 0 = .ok (.iconst 0, 1) := by decide +kernel
theorem dX10_open_1 : decode cX10_open 1 = .ok (.istore_n 1, 1) := by decide +kernel
theorem dX10_open_2 : decode cX10_open 2 = .ok (.aload_n 0, 1) := by decide +kernel
theorem dX10_open_3 : decode cX10_open 3 = .ok (.getfield 10, 3) := by decide +kernel
theorem dX10_open_6 : decode cX10_open 6 = .ok (.getfield 205, 3) := by decide +kernel
theorem dX10_open_9 : decode cX10_open 9 = .ok (.istore_n 2, 1) := by decide +kernel
theorem dX10_open_10 : decode cX10_open 10 = .ok (.iload_n 2, 1) := by decide +kernel
theorem dX10_open_11 : decode cX10_open 11 = .ok (.bipush 20, 2) := by decide +kernel
theorem dX10_open_13 : decode cX10_open 13 = .ok (.if_icmp .ge 27, 3) := by decide +kernel
theorem dX10_open_16 : decode cX10_open 16 = .ok (.aload_n 0, 1) := by decide +kernel
theorem dX10_open_17 : decode cX10_open 17 = .ok (.getfield 10, 3) := by decide +kernel
theorem dX10_open_20 : decode cX10_open 20 = .ok (.getfield 110, 3) := by decide +kernel
theorem dX10_open_23 : decode cX10_open 23 = .ok (.iload_n 2, 1) := by decide +kernel
theorem dX10_open_24 : decode cX10_open 24 = .ok (.iaload, 1) := by decide +kernel
theorem dX10_open_25 : decode cX10_open 25 = .ok (.ifCond .ne 9, 3) := by decide +kernel
theorem dX10_open_28 : decode cX10_open 28 = .ok (.iload_n 1, 1) := by decide +kernel
theorem dX10_open_29 : decode cX10_open 29 = .ok (.iconst 1, 1) := by decide +kernel
theorem dX10_open_30 : decode cX10_open 30 = .ok (.iload_n 2, 1) := by decide +kernel
theorem dX10_open_31 : decode cX10_open 31 = .ok (.ishl, 1) := by decide +kernel
theorem dX10_open_32 : decode cX10_open 32 = .ok (.ior, 1) := by decide +kernel
theorem dX10_open_33 : decode cX10_open 33 = .ok (.istore_n 1, 1) := by decide +kernel
theorem dX10_open_34 : decode cX10_open 34 = .ok (.iinc 2 1, 3) := by decide +kernel
theorem dX10_open_37 : decode cX10_open 37 = .ok (.goto (-27), 3) := by decide +kernel
theorem dX10_open_40 : decode cX10_open 40 = .ok (.iload_n 1, 1) := by decide +kernel
theorem dX10_open_41 : decode cX10_open 41 = .ok (.ireturn, 1) := by decide +kernel
theorem dX10_seed_0 : decode cX10_seed 0 = .ok (.aload_n 0, 1) := by decide +kernel
theorem dX10_seed_1 : decode cX10_seed 1 = .ok (.getfield 10, 3) := by decide +kernel
theorem dX10_seed_4 : decode cX10_seed 4 = .ok (.getfield 251, 3) := by decide +kernel
theorem dX10_seed_7 : decode cX10_seed 7 = .ok (.istore_n 2, 1) := by decide +kernel
theorem dX10_seed_8 : decode cX10_seed 8 = .ok (.aload_n 0, 1) := by decide +kernel
theorem dX10_seed_9 : decode cX10_seed 9 = .ok (.getfield 10, 3) := by decide +kernel
theorem dX10_seed_12 : decode cX10_seed 12 = .ok (.iload_n 1, 1) := by decide +kernel
theorem dX10_seed_13 : decode cX10_seed 13 = .ok (.putfield 251, 3) := by decide +kernel
theorem dX10_seed_16 : decode cX10_seed 16 = .ok (.iload_n 2, 1) := by decide +kernel
theorem dX10_seed_17 : decode cX10_seed 17 = .ok (.ireturn, 1) := by decide +kernel
theorem dX10_prove_0 : decode cX10_prove 0 = .ok (.iload_n 1, 1) := by decide +kernel
theorem dX10_prove_1 : decode cX10_prove 1 = .ok (.iconst 1, 1) := by decide +kernel
theorem dX10_prove_2 : decode cX10_prove 2 = .ok (.if_icmp .lt 9, 3) := by decide +kernel
theorem dX10_prove_5 : decode cX10_prove 5 = .ok (.iload_n 1, 1) := by decide +kernel
theorem dX10_prove_6 : decode cX10_prove 6 = .ok (.bipush 20, 2) := by decide +kernel
theorem dX10_prove_8 : decode cX10_prove 8 = .ok (.if_icmp .le 5, 3) := by decide +kernel
theorem dX10_prove_11 : decode cX10_prove 11 = .ok (.iconst (-1), 1) := by decide +kernel
theorem dX10_prove_12 : decode cX10_prove 12 = .ok (.ireturn, 1) := by decide +kernel
theorem dX10_prove_13 : decode cX10_prove 13 = .ok (.aload_n 0, 1) := by decide +kernel
theorem dX10_prove_14 : decode cX10_prove 14 = .ok (.getfield 16, 3) := by decide +kernel
theorem dX10_prove_17 : decode cX10_prove 17 = .ok (.aload_n 0, 1) := by decide +kernel
theorem dX10_prove_18 : decode cX10_prove 18 = .ok (.getfield 10, 3) := by decide +kernel
theorem dX10_prove_21 : decode cX10_prove 21 = .ok (.invokevirtual 60, 3) := by decide +kernel
theorem dX10_prove_24 : decode cX10_prove 24 = .ok (.aload_n 0, 1) := by decide +kernel
theorem dX10_prove_25 : decode cX10_prove 25 = .ok (.iload_n 1, 1) := by decide +kernel
theorem dX10_prove_26 : decode cX10_prove 26 = .ok (.bipush 20, 2) := by decide +kernel
theorem dX10_prove_28 : decode cX10_prove 28 = .ok (.aload_n 0, 1) := by decide +kernel
theorem dX10_prove_29 : decode cX10_prove 29 = .ok (.getfield 10, 3) := by decide +kernel
theorem dX10_prove_32 : decode cX10_prove 32 = .ok (.getfield 205, 3) := by decide +kernel
theorem dX10_prove_35 : decode cX10_prove 35 = .ok (.isub, 1) := by decide +kernel
theorem dX10_prove_36 : decode cX10_prove 36 = .ok (.invokestatic 254, 3) := by decide +kernel
theorem dX10_prove_39 : decode cX10_prove 39 = .ok (.putfield 71, 3) := by decide +kernel
theorem dX10_prove_42 : decode cX10_prove 42 = .ok (.iconst 0, 1) := by decide +kernel
theorem dX10_prove_43 : decode cX10_prove 43 = .ok (.istore_n 2, 1) := by decide +kernel
theorem dX10_prove_44 : decode cX10_prove 44 = .ok (.iload_n 2, 1) := by decide +kernel
theorem dX10_prove_45 : decode cX10_prove 45 = .ok (.aload_n 0, 1) := by decide +kernel
theorem dX10_prove_46 : decode cX10_prove 46 = .ok (.getfield 71, 3) := by decide +kernel
theorem dX10_prove_49 : decode cX10_prove 49 = .ok (.if_icmp .ge 47, 3) := by decide +kernel
theorem dX10_prove_52 : decode cX10_prove 52 = .ok (.aload_n 0, 1) := by decide +kernel
theorem dX10_prove_53 : decode cX10_prove 53 = .ok (.getfield 16, 3) := by decide +kernel
theorem dX10_prove_56 : decode cX10_prove 56 = .ok (.invokevirtual 202, 3) := by decide +kernel
theorem dX10_prove_59 : decode cX10_prove 59 = .ok (.iconst 0, 1) := by decide +kernel
theorem dX10_prove_60 : decode cX10_prove 60 = .ok (.istore_n 3, 1) := by decide +kernel
theorem dX10_prove_61 : decode cX10_prove 61 = .ok (.iload_n 3, 1) := by decide +kernel
theorem dX10_prove_62 : decode cX10_prove 62 = .ok (.iconst 3, 1) := by decide +kernel
theorem dX10_prove_63 : decode cX10_prove 63 = .ok (.if_icmp .ge 27, 3) := by decide +kernel
theorem dX10_prove_66 : decode cX10_prove 66 = .ok (.aload_n 0, 1) := by decide +kernel
theorem dX10_prove_67 : decode cX10_prove 67 = .ok (.getfield 29, 3) := by decide +kernel
theorem dX10_prove_70 : decode cX10_prove 70 = .ok (.iload_n 2, 1) := by decide +kernel
theorem dX10_prove_71 : decode cX10_prove 71 = .ok (.iconst 3, 1) := by decide +kernel
theorem dX10_prove_72 : decode cX10_prove 72 = .ok (.imul, 1) := by decide +kernel
theorem dX10_prove_73 : decode cX10_prove 73 = .ok (.iload_n 3, 1) := by decide +kernel
theorem dX10_prove_74 : decode cX10_prove 74 = .ok (.iadd, 1) := by decide +kernel
theorem dX10_prove_75 : decode cX10_prove 75 = .ok (.aload_n 0, 1) := by decide +kernel
theorem dX10_prove_76 : decode cX10_prove 76 = .ok (.getfield 16, 3) := by decide +kernel
theorem dX10_prove_79 : decode cX10_prove 79 = .ok (.iload_n 3, 1) := by decide +kernel
theorem dX10_prove_80 : decode cX10_prove 80 = .ok (.invokevirtual 257, 3) := by decide +kernel
theorem dX10_prove_83 : decode cX10_prove 83 = .ok (.iastore, 1) := by decide +kernel
theorem dX10_prove_84 : decode cX10_prove 84 = .ok (.iinc 3 1, 3) := by decide +kernel
theorem dX10_prove_87 : decode cX10_prove 87 = .ok (.goto (-26), 3) := by decide +kernel
theorem dX10_prove_90 : decode cX10_prove 90 = .ok (.iinc 2 1, 3) := by decide +kernel
theorem dX10_prove_93 : decode cX10_prove 93 = .ok (.goto (-49), 3) := by decide +kernel
theorem dX10_prove_96 : decode cX10_prove 96 = .ok (.aload_n 0, 1) := by decide +kernel
theorem dX10_prove_97 : decode cX10_prove 97 = .ok (.getfield 71, 3) := by decide +kernel
theorem dX10_prove_100 : decode cX10_prove 100 = .ok (.ireturn, 1) := by decide +kernel
theorem dX10_row_0 : decode cX10_row 0 = .ok (.aload_n 0, 1) := by decide +kernel
theorem dX10_row_1 : decode cX10_row 1 = .ok (.iload_n 1, 1) := by decide +kernel
theorem dX10_row_2 : decode cX10_row 2 = .ok (.iload_n 2, 1) := by decide +kernel
theorem dX10_row_3 : decode cX10_row 3 = .ok (.invokevirtual 260, 3) := by decide +kernel
theorem dX10_row_6 : decode cX10_row 6 = .ok (.ifCond .eq 16, 3) := by decide +kernel
theorem dX10_row_9 : decode cX10_row 9 = .ok (.aload_n 0, 1) := by decide +kernel
theorem dX10_row_10 : decode cX10_row 10 = .ok (.getfield 29, 3) := by decide +kernel
theorem dX10_row_13 : decode cX10_row 13 = .ok (.iload_n 1, 1) := by decide +kernel
theorem dX10_row_14 : decode cX10_row 14 = .ok (.iconst 3, 1) := by decide +kernel
theorem dX10_row_15 : decode cX10_row 15 = .ok (.imul, 1) := by decide +kernel
theorem dX10_row_16 : decode cX10_row 16 = .ok (.iload_n 2, 1) := by decide +kernel
theorem dX10_row_17 : decode cX10_row 17 = .ok (.iadd, 1) := by decide +kernel
theorem dX10_row_18 : decode cX10_row 18 = .ok (.iaload, 1) := by decide +kernel
theorem dX10_row_19 : decode cX10_row 19 = .ok (.goto 6, 3) := by decide +kernel
theorem dX10_row_22 : decode cX10_row 22 = .ok (.ldc_w 263, 3) := by decide +kernel
theorem dX10_row_25 : decode cX10_row 25 = .ok (.ireturn, 1) := by decide +kernel
theorem dX10_alterRow_0 : decode cX10_alterRow 0 = .ok (.aload_n 0, 1) := by decide +kernel
theorem dX10_alterRow_1 : decode cX10_alterRow 1 = .ok (.iload_n 1, 1) := by decide +kernel
theorem dX10_alterRow_2 : decode cX10_alterRow 2 = .ok (.iload_n 2, 1) := by decide +kernel
theorem dX10_alterRow_3 : decode cX10_alterRow 3 = .ok (.invokevirtual 260, 3) := by decide +kernel
theorem dX10_alterRow_6 : decode cX10_alterRow 6 = .ok (.ifCond .ne 7, 3) := by decide +kernel
theorem dX10_alterRow_9 : decode cX10_alterRow 9 = .ok (.ldc_w 263, 3) := by decide +kernel
theorem dX10_alterRow_12 : decode cX10_alterRow 12 = .ok (.ireturn, 1) := by decide +kernel
theorem dX10_alterRow_13 : decode cX10_alterRow 13 = .ok (.aload_n 0, 1) := by decide +kernel
theorem dX10_alterRow_14 : decode cX10_alterRow 14 = .ok (.getfield 29, 3) := by decide +kernel
theorem dX10_alterRow_17 : decode cX10_alterRow 17 = .ok (.iload_n 1, 1) := by decide +kernel
theorem dX10_alterRow_18 : decode cX10_alterRow 18 = .ok (.iconst 3, 1) := by decide +kernel
theorem dX10_alterRow_19 : decode cX10_alterRow 19 = .ok (.imul, 1) := by decide +kernel
theorem dX10_alterRow_20 : decode cX10_alterRow 20 = .ok (.iload_n 2, 1) := by decide +kernel
theorem dX10_alterRow_21 : decode cX10_alterRow 21 = .ok (.iadd, 1) := by decide +kernel
theorem dX10_alterRow_22 : decode cX10_alterRow 22 = .ok (.iaload, 1) := by decide +kernel
theorem dX10_alterRow_23 : decode cX10_alterRow 23 = .ok (.istore 4, 2) := by decide +kernel
theorem dX10_alterRow_25 : decode cX10_alterRow 25 = .ok (.aload_n 0, 1) := by decide +kernel
theorem dX10_alterRow_26 : decode cX10_alterRow 26 = .ok (.getfield 29, 3) := by decide +kernel
theorem dX10_alterRow_29 : decode cX10_alterRow 29 = .ok (.iload_n 1, 1) := by decide +kernel
theorem dX10_alterRow_30 : decode cX10_alterRow 30 = .ok (.iconst 3, 1) := by decide +kernel
theorem dX10_alterRow_31 : decode cX10_alterRow 31 = .ok (.imul, 1) := by decide +kernel
theorem dX10_alterRow_32 : decode cX10_alterRow 32 = .ok (.iload_n 2, 1) := by decide +kernel
theorem dX10_alterRow_33 : decode cX10_alterRow 33 = .ok (.iadd, 1) := by decide +kernel
theorem dX10_alterRow_34 : decode cX10_alterRow 34 = .ok (.iload_n 3, 1) := by decide +kernel
theorem dX10_alterRow_35 : decode cX10_alterRow 35 = .ok (.iastore, 1) := by decide +kernel
theorem dX10_alterRow_36 : decode cX10_alterRow 36 = .ok (.iload 4, 2) := by decide +kernel
theorem dX10_alterRow_38 : decode cX10_alterRow 38 = .ok (.ireturn, 1) := by decide +kernel
theorem dX10_judge_0 : decode cX10_judge 0 = .ok (.aload_n 0, 1) := by decide +kernel
theorem dX10_judge_1 : decode cX10_judge 1 = .ok (.getfield 16, 3) := by decide +kernel
theorem dX10_judge_4 : decode cX10_judge 4 = .ok (.aload_n 0, 1) := by decide +kernel
theorem dX10_judge_5 : decode cX10_judge 5 = .ok (.getfield 10, 3) := by decide +kernel
theorem dX10_judge_8 : decode cX10_judge 8 = .ok (.invokevirtual 60, 3) := by decide +kernel
theorem dX10_judge_11 : decode cX10_judge 11 = .ok (.iconst 0, 1) := by decide +kernel
theorem dX10_judge_12 : decode cX10_judge 12 = .ok (.istore_n 1, 1) := by decide +kernel
theorem dX10_judge_13 : decode cX10_judge 13 = .ok (.iload_n 1, 1) := by decide +kernel
theorem dX10_judge_14 : decode cX10_judge 14 = .ok (.aload_n 0, 1) := by decide +kernel
theorem dX10_judge_15 : decode cX10_judge 15 = .ok (.getfield 71, 3) := by decide +kernel
theorem dX10_judge_18 : decode cX10_judge 18 = .ok (.if_icmp .ge 70, 3) := by decide +kernel
theorem dX10_judge_21 : decode cX10_judge 21 = .ok (.aload_n 0, 1) := by decide +kernel
theorem dX10_judge_22 : decode cX10_judge 22 = .ok (.getfield 16, 3) := by decide +kernel
theorem dX10_judge_25 : decode cX10_judge 25 = .ok (.getfield 205, 3) := by decide +kernel
theorem dX10_judge_28 : decode cX10_judge 28 = .ok (.bipush 20, 2) := by decide +kernel
theorem dX10_judge_30 : decode cX10_judge 30 = .ok (.if_icmp .lt 7, 3) := by decide +kernel
theorem dX10_judge_33 : decode cX10_judge 33 = .ok (.iload_n 1, 1) := by decide +kernel
theorem dX10_judge_34 : decode cX10_judge 34 = .ok (.iconst 1, 1) := by decide +kernel
theorem dX10_judge_35 : decode cX10_judge 35 = .ok (.iadd, 1) := by decide +kernel
theorem dX10_judge_36 : decode cX10_judge 36 = .ok (.ireturn, 1) := by decide +kernel
theorem dX10_judge_37 : decode cX10_judge 37 = .ok (.aload_n 0, 1) := by decide +kernel
theorem dX10_judge_38 : decode cX10_judge 38 = .ok (.getfield 16, 3) := by decide +kernel
theorem dX10_judge_41 : decode cX10_judge 41 = .ok (.invokevirtual 202, 3) := by decide +kernel
theorem dX10_judge_44 : decode cX10_judge 44 = .ok (.iconst 0, 1) := by decide +kernel
theorem dX10_judge_45 : decode cX10_judge 45 = .ok (.istore_n 2, 1) := by decide +kernel
theorem dX10_judge_46 : decode cX10_judge 46 = .ok (.iload_n 2, 1) := by decide +kernel
theorem dX10_judge_47 : decode cX10_judge 47 = .ok (.iconst 3, 1) := by decide +kernel
theorem dX10_judge_48 : decode cX10_judge 48 = .ok (.if_icmp .ge 34, 3) := by decide +kernel
theorem dX10_judge_51 : decode cX10_judge 51 = .ok (.aload_n 0, 1) := by decide +kernel
theorem dX10_judge_52 : decode cX10_judge 52 = .ok (.getfield 29, 3) := by decide +kernel
theorem dX10_judge_55 : decode cX10_judge 55 = .ok (.iload_n 1, 1) := by decide +kernel
theorem dX10_judge_56 : decode cX10_judge 56 = .ok (.iconst 3, 1) := by decide +kernel
theorem dX10_judge_57 : decode cX10_judge 57 = .ok (.imul, 1) := by decide +kernel
theorem dX10_judge_58 : decode cX10_judge 58 = .ok (.iload_n 2, 1) := by decide +kernel
theorem dX10_judge_59 : decode cX10_judge 59 = .ok (.iadd, 1) := by decide +kernel
theorem dX10_judge_60 : decode cX10_judge 60 = .ok (.iaload, 1) := by decide +kernel
theorem dX10_judge_61 : decode cX10_judge 61 = .ok (.aload_n 0, 1) := by decide +kernel
theorem dX10_judge_62 : decode cX10_judge 62 = .ok (.getfield 16, 3) := by decide +kernel
theorem dX10_judge_65 : decode cX10_judge 65 = .ok (.iload_n 2, 1) := by decide +kernel
theorem dX10_judge_66 : decode cX10_judge 66 = .ok (.invokevirtual 257, 3) := by decide +kernel
theorem dX10_judge_69 : decode cX10_judge 69 = .ok (.if_icmp .eq 7, 3) := by decide +kernel
theorem dX10_judge_72 : decode cX10_judge 72 = .ok (.iload_n 1, 1) := by decide +kernel
theorem dX10_judge_73 : decode cX10_judge 73 = .ok (.iconst 1, 1) := by decide +kernel
theorem dX10_judge_74 : decode cX10_judge 74 = .ok (.iadd, 1) := by decide +kernel
theorem dX10_judge_75 : decode cX10_judge 75 = .ok (.ireturn, 1) := by decide +kernel
theorem dX10_judge_76 : decode cX10_judge 76 = .ok (.iinc 2 1, 3) := by decide +kernel
theorem dX10_judge_79 : decode cX10_judge 79 = .ok (.goto (-33), 3) := by decide +kernel
theorem dX10_judge_82 : decode cX10_judge 82 = .ok (.iinc 1 1, 3) := by decide +kernel
theorem dX10_judge_85 : decode cX10_judge 85 = .ok (.goto (-72), 3) := by decide +kernel
theorem dX10_judge_88 : decode cX10_judge 88 = .ok (.iconst 0, 1) := by decide +kernel
theorem dX10_judge_89 : decode cX10_judge 89 = .ok (.ireturn, 1) := by decide +kernel
theorem dX10_worths_0 : decode cX10_worths 0 = .ok (.iload_n 1, 1) := by decide +kernel
theorem dX10_worths_1 : decode cX10_worths 1 = .ok (.invokestatic 264, 3) := by decide +kernel
theorem dX10_worths_4 : decode cX10_worths 4 = .ok (.ifCond .eq 24, 3) := by decide +kernel
theorem dX10_worths_7 : decode cX10_worths 7 = .ok (.iload_n 3, 1) := by decide +kernel
theorem dX10_worths_8 : decode cX10_worths 8 = .ok (.invokestatic 77, 3) := by decide +kernel
theorem dX10_worths_11 : decode cX10_worths 11 = .ok (.ifCond .eq 17, 3) := by decide +kernel
theorem dX10_worths_14 : decode cX10_worths 14 = .ok (.iload 4, 2) := by decide +kernel
theorem dX10_worths_16 : decode cX10_worths 16 = .ok (.ifCond .lt 12, 3) := by decide +kernel
theorem dX10_worths_19 : decode cX10_worths 19 = .ok (.iload 4, 2) := by decide +kernel
theorem dX10_worths_21 : decode cX10_worths 21 = .ok (.bipush 20, 2) := by decide +kernel
theorem dX10_worths_23 : decode cX10_worths 23 = .ok (.iload_n 3, 1) := by decide +kernel
theorem dX10_worths_24 : decode cX10_worths 24 = .ok (.isub, 1) := by decide +kernel
theorem dX10_worths_25 : decode cX10_worths 25 = .ok (.if_icmp .le 5, 3) := by decide +kernel
theorem dX10_worths_28 : decode cX10_worths 28 = .ok (.iconst (-1), 1) := by decide +kernel
theorem dX10_worths_29 : decode cX10_worths 29 = .ok (.ireturn, 1) := by decide +kernel
theorem dX10_worths_30 : decode cX10_worths 30 = .ok (.aload_n 0, 1) := by decide +kernel
theorem dX10_worths_31 : decode cX10_worths 31 = .ok (.getfield 35, 3) := by decide +kernel
theorem dX10_worths_34 : decode cX10_worths 34 = .ok (.iload_n 1, 1) := by decide +kernel
theorem dX10_worths_35 : decode cX10_worths 35 = .ok (.aaload, 1) := by decide +kernel
theorem dX10_worths_36 : decode cX10_worths 36 = .ok (.astore 5, 2) := by decide +kernel
theorem dX10_worths_38 : decode cX10_worths 38 = .ok (.aload 5, 2) := by decide +kernel
theorem dX10_worths_40 : decode cX10_worths 40 = .ok (.ifnonnull 6, 3) := by decide +kernel
theorem dX10_worths_43 : decode cX10_worths 43 = .ok (.bipush (-11), 2) := by decide +kernel
theorem dX10_worths_45 : decode cX10_worths 45 = .ok (.ireturn, 1) := by decide +kernel
theorem dX10_worths_46 : decode cX10_worths 46 = .ok (.aload 5, 2) := by decide +kernel
theorem dX10_worths_48 : decode cX10_worths 48 = .ok (.getfield 267, 3) := by decide +kernel
theorem dX10_worths_51 : decode cX10_worths 51 = .ok (.ifCond .eq 6, 3) := by decide +kernel
theorem dX10_worths_54 : decode cX10_worths 54 = .ok (.bipush (-13), 2) := by decide +kernel
theorem dX10_worths_56 : decode cX10_worths 56 = .ok (.ireturn, 1) := by decide +kernel
theorem dX10_worths_57 : decode cX10_worths 57 = .ok (.iload_n 2, 1) := by decide +kernel
theorem dX10_worths_58 : decode cX10_worths 58 = .ok (.ifCond .lt 16, 3) := by decide +kernel
theorem dX10_worths_61 : decode cX10_worths 61 = .ok (.iload_n 2, 1) := by decide +kernel
theorem dX10_worths_62 : decode cX10_worths 62 = .ok (.aload 5, 2) := by decide +kernel
theorem dX10_worths_64 : decode cX10_worths 64 = .ok (.getfield 270, 3) := by decide +kernel
theorem dX10_worths_67 : decode cX10_worths 67 = .ok (.arraylength, 1) := by decide +kernel
theorem dX10_worths_68 : decode cX10_worths 68 = .ok (.iload 4, 2) := by decide +kernel
theorem dX10_worths_70 : decode cX10_worths 70 = .ok (.isub, 1) := by decide +kernel
theorem dX10_worths_71 : decode cX10_worths 71 = .ok (.if_icmp .le 6, 3) := by decide +kernel
theorem dX10_worths_74 : decode cX10_worths 74 = .ok (.bipush (-12), 2) := by decide +kernel
theorem dX10_worths_76 : decode cX10_worths 76 = .ok (.ireturn, 1) := by decide +kernel
theorem dX10_worths_77 : decode cX10_worths 77 = .ok (.iconst 0, 1) := by decide +kernel
theorem dX10_worths_78 : decode cX10_worths 78 = .ok (.istore 6, 2) := by decide +kernel
theorem dX10_worths_80 : decode cX10_worths 80 = .ok (.iload 6, 2) := by decide +kernel
theorem dX10_worths_82 : decode cX10_worths 82 = .ok (.iload 4, 2) := by decide +kernel
theorem dX10_worths_84 : decode cX10_worths 84 = .ok (.if_icmp .ge 45, 3) := by decide +kernel
theorem dX10_worths_87 : decode cX10_worths 87 = .ok (.aload 5, 2) := by decide +kernel
theorem dX10_worths_89 : decode cX10_worths 89 = .ok (.getfield 270, 3) := by decide +kernel
theorem dX10_worths_92 : decode cX10_worths 92 = .ok (.iload_n 2, 1) := by decide +kernel
theorem dX10_worths_93 : decode cX10_worths 93 = .ok (.iload 6, 2) := by decide +kernel
theorem dX10_worths_95 : decode cX10_worths 95 = .ok (.iadd, 1) := by decide +kernel
theorem dX10_worths_96 : decode cX10_worths 96 = .ok (.laload, 1) := by decide +kernel
theorem dX10_worths_97 : decode cX10_worths 97 = .ok (.l2i, 1) := by decide +kernel
theorem dX10_worths_98 : decode cX10_worths 98 = .ok (.istore 7, 2) := by decide +kernel
theorem dX10_worths_100 : decode cX10_worths 100 = .ok (.aload_n 0, 1) := by decide +kernel
theorem dX10_worths_101 : decode cX10_worths 101 = .ok (.getfield 10, 3) := by decide +kernel
theorem dX10_worths_104 : decode cX10_worths 104 = .ok (.getfield 81, 3) := by decide +kernel
theorem dX10_worths_107 : decode cX10_worths 107 = .ok (.iload_n 3, 1) := by decide +kernel
theorem dX10_worths_108 : decode cX10_worths 108 = .ok (.iload 6, 2) := by decide +kernel
theorem dX10_worths_110 : decode cX10_worths 110 = .ok (.iadd, 1) := by decide +kernel
theorem dX10_worths_111 : decode cX10_worths 111 = .ok (.iconst 0, 1) := by decide +kernel
theorem dX10_worths_112 : decode cX10_worths 112 = .ok (.bipush 99, 2) := by decide +kernel
theorem dX10_worths_114 : decode cX10_worths 114 = .ok (.iload 7, 2) := by decide +kernel
theorem dX10_worths_116 : decode cX10_worths 116 = .ok (.invokestatic 254, 3) := by decide +kernel
theorem dX10_worths_119 : decode cX10_worths 119 = .ok (.invokestatic 246, 3) := by decide +kernel
theorem dX10_worths_122 : decode cX10_worths 122 = .ok (.iastore, 1) := by decide +kernel
theorem dX10_worths_123 : decode cX10_worths 123 = .ok (.iinc 6 1, 3) := by decide +kernel
theorem dX10_worths_126 : decode cX10_worths 126 = .ok (.goto (-46), 3) := by decide +kernel
theorem dX10_worths_129 : decode cX10_worths 129 = .ok (.iload 4, 2) := by decide +kernel
theorem dX10_worths_131 : decode cX10_worths 131 = .ok (.ireturn, 1) := by decide +kernel
theorem dX10_sheet_0 : decode cX10_sheet 0 = .ok (.iload_n 1, 1) := by decide +kernel
theorem dX10_sheet_1 : decode cX10_sheet 1 = .ok (.invokestatic 264, 3) := by decide +kernel
theorem dX10_sheet_4 : decode cX10_sheet 4 = .ok (.ifCond .eq 13, 3) := by decide +kernel
theorem dX10_sheet_7 : decode cX10_sheet 7 = .ok (.iload_n 2, 1) := by decide +kernel
theorem dX10_sheet_8 : decode cX10_sheet 8 = .ok (.iconst (-1), 1) := by decide +kernel
theorem dX10_sheet_9 : decode cX10_sheet 9 = .ok (.if_icmp .lt 8, 3) := by decide +kernel
theorem dX10_sheet_12 : decode cX10_sheet 12 = .ok (.iload_n 2, 1) := by decide +kernel
theorem dX10_sheet_13 : decode cX10_sheet 13 = .ok (.iconst 4, 1) := by decide +kernel
theorem dX10_sheet_14 : decode cX10_sheet 14 = .ok (.if_icmp .lt 5, 3) := by decide +kernel
theorem dX10_sheet_17 : decode cX10_sheet 17 = .ok (.iconst (-1), 1) := by decide +kernel
theorem dX10_sheet_18 : decode cX10_sheet 18 = .ok (.ireturn, 1) := by decide +kernel
theorem dX10_sheet_19 : decode cX10_sheet 19 = .ok (.iload_n 2, 1) := by decide +kernel
theorem dX10_sheet_20 : decode cX10_sheet 20 = .ok (.iconst (-1), 1) := by decide +kernel
theorem dX10_sheet_21 : decode cX10_sheet 21 = .ok (.if_icmp .ne 12, 3) := by decide +kernel
theorem dX10_sheet_24 : decode cX10_sheet 24 = .ok (.aload_n 0, 1) := by decide +kernel
theorem dX10_sheet_25 : decode cX10_sheet 25 = .ok (.getfield 35, 3) := by decide +kernel
theorem dX10_sheet_28 : decode cX10_sheet 28 = .ok (.iload_n 1, 1) := by decide +kernel
theorem dX10_sheet_29 : decode cX10_sheet 29 = .ok (.aconst_null, 1) := by decide +kernel
theorem dX10_sheet_30 : decode cX10_sheet 30 = .ok (.aastore, 1) := by decide +kernel
theorem dX10_sheet_31 : decode cX10_sheet 31 = .ok (.iconst 1, 1) := by decide +kernel
theorem dX10_sheet_32 : decode cX10_sheet 32 = .ok (.ireturn, 1) := by decide +kernel
theorem dX10_sheet_33 : decode cX10_sheet 33 = .ok (.iload_n 3, 1) := by decide +kernel
theorem dX10_sheet_34 : decode cX10_sheet 34 = .ok (.bipush 40, 2) := by decide +kernel
theorem dX10_sheet_36 : decode cX10_sheet 36 = .ok (.if_icmp .le 5, 3) := by decide +kernel
theorem dX10_sheet_39 : decode cX10_sheet 39 = .ok (.iconst (-1), 1) := by decide +kernel
theorem dX10_sheet_40 : decode cX10_sheet 40 = .ok (.ireturn, 1) := by decide +kernel
theorem dX10_sheet_41 : decode cX10_sheet 41 = .ok (.iload_n 3, 1) := by decide +kernel
theorem dX10_sheet_42 : decode cX10_sheet 42 = .ok (.ifCond .ge 6, 3) := by decide +kernel
theorem dX10_sheet_45 : decode cX10_sheet 45 = .ok (.bipush (-14), 2) := by decide +kernel
theorem dX10_sheet_47 : decode cX10_sheet 47 = .ok (.ireturn, 1) := by decide +kernel
theorem dX10_sheet_48 : decode cX10_sheet 48 = .ok (.aload_n 0, 1) := by decide +kernel
theorem dX10_sheet_49 : decode cX10_sheet 49 = .ok (.getfield 35, 3) := by decide +kernel
theorem dX10_sheet_52 : decode cX10_sheet 52 = .ok (.iload_n 1, 1) := by decide +kernel
theorem dX10_sheet_53 : decode cX10_sheet 53 = .ok (.new 33, 3) := by decide +kernel
theorem dX10_sheet_56 : decode cX10_sheet 56 = .ok (.dup, 1) := by decide +kernel
theorem dX10_sheet_57 : decode cX10_sheet 57 = .ok (.iload_n 2, 1) := by decide +kernel
theorem dX10_sheet_58 : decode cX10_sheet 58 = .ok (.iload_n 3, 1) := by decide +kernel
theorem dX10_sheet_59 : decode cX10_sheet 59 = .ok (.newarray .long, 2) := by decide +kernel
theorem dX10_sheet_61 : decode cX10_sheet 61 = .ok (.invokespecial 274, 3) := by decide +kernel
theorem dX10_sheet_64 : decode cX10_sheet 64 = .ok (.aastore, 1) := by decide +kernel
theorem dX10_sheet_65 : decode cX10_sheet 65 = .ok (.iconst 1, 1) := by decide +kernel
theorem dX10_sheet_66 : decode cX10_sheet 66 = .ok (.ireturn, 1) := by decide +kernel
theorem dX10_put_0 : decode cX10_put 0 = .ok (.iload_n 1, 1) := by decide +kernel
theorem dX10_put_1 : decode cX10_put 1 = .ok (.invokestatic 264, 3) := by decide +kernel
theorem dX10_put_4 : decode cX10_put 4 = .ok (.ifCond .ne 5, 3) := by decide +kernel
theorem dX10_put_7 : decode cX10_put 7 = .ok (.iconst (-1), 1) := by decide +kernel
theorem dX10_put_8 : decode cX10_put 8 = .ok (.ireturn, 1) := by decide +kernel
theorem dX10_put_9 : decode cX10_put 9 = .ok (.aload_n 0, 1) := by decide +kernel
theorem dX10_put_10 : decode cX10_put 10 = .ok (.getfield 35, 3) := by decide +kernel
theorem dX10_put_13 : decode cX10_put 13 = .ok (.iload_n 1, 1) := by decide +kernel
theorem dX10_put_14 : decode cX10_put 14 = .ok (.aaload, 1) := by decide +kernel
theorem dX10_put_15 : decode cX10_put 15 = .ok (.astore 4, 2) := by decide +kernel
theorem dX10_put_17 : decode cX10_put 17 = .ok (.aload 4, 2) := by decide +kernel
theorem dX10_put_19 : decode cX10_put 19 = .ok (.ifnonnull 6, 3) := by decide +kernel
theorem dX10_put_22 : decode cX10_put 22 = .ok (.bipush (-11), 2) := by decide +kernel
theorem dX10_put_24 : decode cX10_put 24 = .ok (.ireturn, 1) := by decide +kernel
theorem dX10_put_25 : decode cX10_put 25 = .ok (.iload_n 2, 1) := by decide +kernel
theorem dX10_put_26 : decode cX10_put 26 = .ok (.ifCond .lt 13, 3) := by decide +kernel
theorem dX10_put_29 : decode cX10_put 29 = .ok (.iload_n 2, 1) := by decide +kernel
theorem dX10_put_30 : decode cX10_put 30 = .ok (.aload 4, 2) := by decide +kernel
theorem dX10_put_32 : decode cX10_put 32 = .ok (.getfield 270, 3) := by decide +kernel
theorem dX10_put_35 : decode cX10_put 35 = .ok (.arraylength, 1) := by decide +kernel
theorem dX10_put_36 : decode cX10_put 36 = .ok (.if_icmp .lt 6, 3) := by decide +kernel
theorem dX10_put_39 : decode cX10_put 39 = .ok (.bipush (-12), 2) := by decide +kernel
theorem dX10_put_41 : decode cX10_put 41 = .ok (.ireturn, 1) := by decide +kernel
theorem dX10_put_42 : decode cX10_put 42 = .ok (.aload 4, 2) := by decide +kernel
theorem dX10_put_44 : decode cX10_put 44 = .ok (.getfield 270, 3) := by decide +kernel
theorem dX10_put_47 : decode cX10_put 47 = .ok (.iload_n 2, 1) := by decide +kernel
theorem dX10_put_48 : decode cX10_put 48 = .ok (.aload 4, 2) := by decide +kernel
theorem dX10_put_50 : decode cX10_put 50 = .ok (.iload_n 3, 1) := by decide +kernel
theorem dX10_put_51 : decode cX10_put 51 = .ok (.invokevirtual 277, 3) := by decide +kernel
theorem dX10_put_54 : decode cX10_put 54 = .ok (.lastore, 1) := by decide +kernel
theorem dX10_put_55 : decode cX10_put 55 = .ok (.iconst 1, 1) := by decide +kernel
theorem dX10_put_56 : decode cX10_put 56 = .ok (.ireturn, 1) := by decide +kernel
theorem dX10_item_0 : decode cX10_item 0 = .ok (.iload_n 1, 1) := by decide +kernel
theorem dX10_item_1 : decode cX10_item 1 = .ok (.invokestatic 264, 3) := by decide +kernel
theorem dX10_item_4 : decode cX10_item 4 = .ok (.ifCond .eq 12, 3) := by decide +kernel
theorem dX10_item_7 : decode cX10_item 7 = .ok (.iload_n 2, 1) := by decide +kernel
theorem dX10_item_8 : decode cX10_item 8 = .ok (.ifCond .lt 8, 3) := by decide +kernel
theorem dX10_item_11 : decode cX10_item 11 = .ok (.iload_n 2, 1) := by decide +kernel
theorem dX10_item_12 : decode cX10_item 12 = .ok (.iconst 4, 1) := by decide +kernel
theorem dX10_item_13 : decode cX10_item 13 = .ok (.if_icmp .lt 5, 3) := by decide +kernel
theorem dX10_item_16 : decode cX10_item 16 = .ok (.iconst (-1), 1) := by decide +kernel
theorem dX10_item_17 : decode cX10_item 17 = .ok (.ireturn, 1) := by decide +kernel
theorem dX10_item_18 : decode cX10_item 18 = .ok (.aload_n 0, 1) := by decide +kernel
theorem dX10_item_19 : decode cX10_item 19 = .ok (.getfield 35, 3) := by decide +kernel
theorem dX10_item_22 : decode cX10_item 22 = .ok (.iload_n 1, 1) := by decide +kernel
theorem dX10_item_23 : decode cX10_item 23 = .ok (.aaload, 1) := by decide +kernel
theorem dX10_item_24 : decode cX10_item 24 = .ok (.astore 4, 2) := by decide +kernel
theorem dX10_item_26 : decode cX10_item 26 = .ok (.aload 4, 2) := by decide +kernel
theorem dX10_item_28 : decode cX10_item 28 = .ok (.ifnonnull 6, 3) := by decide +kernel
theorem dX10_item_31 : decode cX10_item 31 = .ok (.bipush (-11), 2) := by decide +kernel
theorem dX10_item_33 : decode cX10_item 33 = .ok (.ireturn, 1) := by decide +kernel
theorem dX10_item_34 : decode cX10_item 34 = .ok (.aload 4, 2) := by decide +kernel
theorem dX10_item_36 : decode cX10_item 36 = .ok (.getfield 267, 3) := by decide +kernel
theorem dX10_item_39 : decode cX10_item 39 = .ok (.iload_n 2, 1) := by decide +kernel
theorem dX10_item_40 : decode cX10_item 40 = .ok (.if_icmp .eq 6, 3) := by decide +kernel
theorem dX10_item_43 : decode cX10_item 43 = .ok (.bipush (-13), 2) := by decide +kernel
theorem dX10_item_45 : decode cX10_item 45 = .ok (.ireturn, 1) := by decide +kernel
theorem dX10_item_46 : decode cX10_item 46 = .ok (.iload_n 3, 1) := by decide +kernel
theorem dX10_item_47 : decode cX10_item 47 = .ok (.ifCond .lt 13, 3) := by decide +kernel
theorem dX10_item_50 : decode cX10_item 50 = .ok (.iload_n 3, 1) := by decide +kernel
theorem dX10_item_51 : decode cX10_item 51 = .ok (.aload 4, 2) := by decide +kernel
theorem dX10_item_53 : decode cX10_item 53 = .ok (.getfield 270, 3) := by decide +kernel
theorem dX10_item_56 : decode cX10_item 56 = .ok (.arraylength, 1) := by decide +kernel
theorem dX10_item_57 : decode cX10_item 57 = .ok (.if_icmp .lt 6, 3) := by decide +kernel
theorem dX10_item_60 : decode cX10_item 60 = .ok (.bipush (-12), 2) := by decide +kernel
theorem dX10_item_62 : decode cX10_item 62 = .ok (.ireturn, 1) := by decide +kernel
theorem dX10_item_63 : decode cX10_item 63 = .ok (.aload 4, 2) := by decide +kernel
theorem dX10_item_65 : decode cX10_item 65 = .ok (.getfield 270, 3) := by decide +kernel
theorem dX10_item_68 : decode cX10_item 68 = .ok (.iload_n 3, 1) := by decide +kernel
theorem dX10_item_69 : decode cX10_item 69 = .ok (.laload, 1) := by decide +kernel
theorem dX10_item_70 : decode cX10_item 70 = .ok (.l2i, 1) := by decide +kernel
theorem dX10_item_71 : decode cX10_item 71 = .ok (.ireturn, 1) := by decide +kernel
theorem dX10_shelf_0 : decode cX10_shelf 0 = .ok (.iload_n 1, 1) := by decide +kernel
theorem dX10_shelf_1 : decode cX10_shelf 1 = .ok (.invokestatic 280, 3) := by decide +kernel
theorem dX10_shelf_4 : decode cX10_shelf 4 = .ok (.ifCond .eq 12, 3) := by decide +kernel
theorem dX10_shelf_7 : decode cX10_shelf 7 = .ok (.iload_n 2, 1) := by decide +kernel
theorem dX10_shelf_8 : decode cX10_shelf 8 = .ok (.ifCond .lt 8, 3) := by decide +kernel
theorem dX10_shelf_11 : decode cX10_shelf 11 = .ok (.iload_n 2, 1) := by decide +kernel
theorem dX10_shelf_12 : decode cX10_shelf 12 = .ok (.iconst 2, 1) := by decide +kernel
theorem dX10_shelf_13 : decode cX10_shelf 13 = .ok (.if_icmp .le 5, 3) := by decide +kernel
theorem dX10_shelf_16 : decode cX10_shelf 16 = .ok (.iconst (-1), 1) := by decide +kernel
theorem dX10_shelf_17 : decode cX10_shelf 17 = .ok (.ireturn, 1) := by decide +kernel
theorem dX10_shelf_18 : decode cX10_shelf 18 = .ok (.iload_n 2, 1) := by decide +kernel
theorem dX10_shelf_19 : decode cX10_shelf 19 = .ok (.ifCond .ne 16, 3) := by decide +kernel
theorem dX10_shelf_22 : decode cX10_shelf 22 = .ok (.aload_n 0, 1) := by decide +kernel
theorem dX10_shelf_23 : decode cX10_shelf 23 = .ok (.getfield 10, 3) := by decide +kernel
theorem dX10_shelf_26 : decode cX10_shelf 26 = .ok (.iload_n 3, 1) := by decide +kernel
theorem dX10_shelf_27 : decode cX10_shelf 27 = .ok (.invokevirtual 136, 3) := by decide +kernel
theorem dX10_shelf_30 : decode cX10_shelf 30 = .ok (.ifnonnull 5, 3) := by decide +kernel
theorem dX10_shelf_33 : decode cX10_shelf 33 = .ok (.iconst (-1), 1) := by decide +kernel
theorem dX10_shelf_34 : decode cX10_shelf 34 = .ok (.ireturn, 1) := by decide +kernel
theorem dX10_shelf_35 : decode cX10_shelf 35 = .ok (.iload_n 2, 1) := by decide +kernel
theorem dX10_shelf_36 : decode cX10_shelf 36 = .ok (.iconst 1, 1) := by decide +kernel
theorem dX10_shelf_37 : decode cX10_shelf 37 = .ok (.if_icmp .ne 12, 3) := by decide +kernel
theorem dX10_shelf_40 : decode cX10_shelf 40 = .ok (.iload_n 3, 1) := by decide +kernel
theorem dX10_shelf_41 : decode cX10_shelf 41 = .ok (.invokestatic 264, 3) := by decide +kernel
theorem dX10_shelf_44 : decode cX10_shelf 44 = .ok (.ifCond .ne 5, 3) := by decide +kernel
theorem dX10_shelf_47 : decode cX10_shelf 47 = .ok (.iconst (-1), 1) := by decide +kernel
theorem dX10_shelf_48 : decode cX10_shelf 48 = .ok (.ireturn, 1) := by decide +kernel
theorem dX10_shelf_49 : decode cX10_shelf 49 = .ok (.aload_n 0, 1) := by decide +kernel
theorem dX10_shelf_50 : decode cX10_shelf 50 = .ok (.getfield 42, 3) := by decide +kernel
theorem dX10_shelf_53 : decode cX10_shelf 53 = .ok (.iload_n 1, 1) := by decide +kernel
theorem dX10_shelf_54 : decode cX10_shelf 54 = .ok (.iload_n 2, 1) := by decide +kernel
theorem dX10_shelf_55 : decode cX10_shelf 55 = .ok (.ifCond .ne 7, 3) := by decide +kernel
theorem dX10_shelf_58 : decode cX10_shelf 58 = .ok (.iload_n 3, 1) := by decide +kernel
theorem dX10_shelf_59 : decode cX10_shelf 59 = .ok (.goto 4, 3) := by decide +kernel
theorem dX10_shelf_62 : decode cX10_shelf 62 = .ok (.iconst (-1), 1) := by decide +kernel
theorem dX10_shelf_63 : decode cX10_shelf 63 = .ok (.iastore, 1) := by decide +kernel
theorem dX10_shelf_64 : decode cX10_shelf 64 = .ok (.aload_n 0, 1) := by decide +kernel
theorem dX10_shelf_65 : decode cX10_shelf 65 = .ok (.getfield 39, 3) := by decide +kernel
theorem dX10_shelf_68 : decode cX10_shelf 68 = .ok (.iload_n 1, 1) := by decide +kernel
theorem dX10_shelf_69 : decode cX10_shelf 69 = .ok (.iload_n 2, 1) := by decide +kernel
theorem dX10_shelf_70 : decode cX10_shelf 70 = .ok (.iconst 1, 1) := by decide +kernel
theorem dX10_shelf_71 : decode cX10_shelf 71 = .ok (.if_icmp .ne 19, 3) := by decide +kernel
theorem dX10_shelf_74 : decode cX10_shelf 74 = .ok (.iload_n 3, 1) := by decide +kernel
theorem dX10_shelf_75 : decode cX10_shelf 75 = .ok (.invokestatic 264, 3) := by decide +kernel
theorem dX10_shelf_78 : decode cX10_shelf 78 = .ok (.ifCond .eq 12, 3) := by decide +kernel
theorem dX10_shelf_81 : decode cX10_shelf 81 = .ok (.aload_n 0, 1) := by decide +kernel
theorem dX10_shelf_82 : decode cX10_shelf 82 = .ok (.getfield 35, 3) := by decide +kernel
theorem dX10_shelf_85 : decode cX10_shelf 85 = .ok (.iload_n 3, 1) := by decide +kernel
theorem dX10_shelf_86 : decode cX10_shelf 86 = .ok (.aaload, 1) := by decide +kernel
theorem dX10_shelf_87 : decode cX10_shelf 87 = .ok (.goto 4, 3) := by decide +kernel
theorem dX10_shelf_90 : decode cX10_shelf 90 = .ok (.aconst_null, 1) := by decide +kernel
theorem dX10_shelf_91 : decode cX10_shelf 91 = .ok (.aastore, 1) := by decide +kernel
theorem dX10_shelf_92 : decode cX10_shelf 92 = .ok (.iconst 1, 1) := by decide +kernel
theorem dX10_shelf_93 : decode cX10_shelf 93 = .ok (.ireturn, 1) := by decide +kernel
theorem dX10_taken_0 : decode cX10_taken 0 = .ok (.iload_n 2, 1) := by decide +kernel
theorem dX10_taken_1 : decode cX10_taken 1 = .ok (.invokestatic 122, 3) := by decide +kernel
theorem dX10_taken_4 : decode cX10_taken 4 = .ok (.istore_n 3, 1) := by decide +kernel
theorem dX10_taken_5 : decode cX10_taken 5 = .ok (.iload_n 2, 1) := by decide +kernel
theorem dX10_taken_6 : decode cX10_taken 6 = .ok (.bipush 10, 2) := by decide +kernel
theorem dX10_taken_8 : decode cX10_taken 8 = .ok (.if_icmp .lt 13, 3) := by decide +kernel
theorem dX10_taken_11 : decode cX10_taken 11 = .ok (.iload_n 2, 1) := by decide +kernel
theorem dX10_taken_12 : decode cX10_taken 12 = .ok (.bipush 14, 2) := by decide +kernel
theorem dX10_taken_14 : decode cX10_taken 14 = .ok (.if_icmp .ge 7, 3) := by decide +kernel
theorem dX10_taken_17 : decode cX10_taken 17 = .ok (.iconst 1, 1) := by decide +kernel
theorem dX10_taken_18 : decode cX10_taken 18 = .ok (.goto 4, 3) := by decide +kernel
theorem dX10_taken_21 : decode cX10_taken 21 = .ok (.iconst 0, 1) := by decide +kernel
theorem dX10_taken_22 : decode cX10_taken 22 = .ok (.istore 4, 2) := by decide +kernel
theorem dX10_taken_24 : decode cX10_taken 24 = .ok (.iload_n 1, 1) := by decide +kernel
theorem dX10_taken_25 : decode cX10_taken 25 = .ok (.invokestatic 280, 3) := by decide +kernel
theorem dX10_taken_28 : decode cX10_taken 28 = .ok (.ifCond .eq 12, 3) := by decide +kernel
theorem dX10_taken_31 : decode cX10_taken 31 = .ok (.iload_n 3, 1) := by decide +kernel
theorem dX10_taken_32 : decode cX10_taken 32 = .ok (.ifCond .ne 10, 3) := by decide +kernel
theorem dX10_taken_35 : decode cX10_taken 35 = .ok (.iload 4, 2) := by decide +kernel
theorem dX10_taken_37 : decode cX10_taken 37 = .ok (.ifCond .ne 5, 3) := by decide +kernel
theorem dX10_taken_40 : decode cX10_taken 40 = .ok (.iconst (-1), 1) := by decide +kernel
theorem dX10_taken_41 : decode cX10_taken 41 = .ok (.ireturn, 1) := by decide +kernel
theorem dX10_taken_42 : decode cX10_taken 42 = .ok (.aload_n 0, 1) := by decide +kernel
theorem dX10_taken_43 : decode cX10_taken 43 = .ok (.getfield 10, 3) := by decide +kernel
theorem dX10_taken_46 : decode cX10_taken 46 = .ok (.aload_n 0, 1) := by decide +kernel
theorem dX10_taken_47 : decode cX10_taken 47 = .ok (.getfield 42, 3) := by decide +kernel
theorem dX10_taken_50 : decode cX10_taken 50 = .ok (.iload_n 1, 1) := by decide +kernel
theorem dX10_taken_51 : decode cX10_taken 51 = .ok (.iaload, 1) := by decide +kernel
theorem dX10_taken_52 : decode cX10_taken 52 = .ok (.invokevirtual 136, 3) := by decide +kernel
theorem dX10_taken_55 : decode cX10_taken 55 = .ok (.astore 5, 2) := by decide +kernel
theorem dX10_taken_57 : decode cX10_taken 57 = .ok (.aload_n 0, 1) := by decide +kernel
theorem dX10_taken_58 : decode cX10_taken 58 = .ok (.getfield 39, 3) := by decide +kernel
theorem dX10_taken_61 : decode cX10_taken 61 = .ok (.iload_n 1, 1) := by decide +kernel
theorem dX10_taken_62 : decode cX10_taken 62 = .ok (.aaload, 1) := by decide +kernel
theorem dX10_taken_63 : decode cX10_taken 63 = .ok (.astore 6, 2) := by decide +kernel
theorem dX10_taken_65 : decode cX10_taken 65 = .ok (.aload 5, 2) := by decide +kernel
theorem dX10_taken_67 : decode cX10_taken 67 = .ok (.ifnull 27, 3) := by decide +kernel
theorem dX10_taken_70 : decode cX10_taken 70 = .ok (.iload_n 3, 1) := by decide +kernel
theorem dX10_taken_71 : decode cX10_taken 71 = .ok (.ifCond .eq 20, 3) := by decide +kernel
theorem dX10_taken_74 : decode cX10_taken 74 = .ok (.aload 5, 2) := by decide +kernel
theorem dX10_taken_76 : decode cX10_taken 76 = .ok (.iload_n 2, 1) := by decide +kernel
theorem dX10_taken_77 : decode cX10_taken 77 = .ok (.invokestatic 283, 3) := by decide +kernel
theorem dX10_taken_80 : decode cX10_taken 80 = .ok (.ifCond .eq 11, 3) := by decide +kernel
theorem dX10_taken_83 : decode cX10_taken 83 = .ok (.aload 5, 2) := by decide +kernel
theorem dX10_taken_85 : decode cX10_taken 85 = .ok (.getfield 287, 3) := by decide +kernel
theorem dX10_taken_88 : decode cX10_taken 88 = .ok (.goto 5, 3) := by decide +kernel
theorem dX10_taken_91 : decode cX10_taken 91 = .ok (.bipush (-13), 2) := by decide +kernel
theorem dX10_taken_93 : decode cX10_taken 93 = .ok (.ireturn, 1) := by decide +kernel
theorem dX10_taken_94 : decode cX10_taken 94 = .ok (.aload 6, 2) := by decide +kernel
theorem dX10_taken_96 : decode cX10_taken 96 = .ok (.ifnull 32, 3) := by decide +kernel
theorem dX10_taken_99 : decode cX10_taken 99 = .ok (.iload 4, 2) := by decide +kernel
theorem dX10_taken_101 : decode cX10_taken 101 = .ok (.ifCond .eq 24, 3) := by decide +kernel
theorem dX10_taken_104 : decode cX10_taken 104 = .ok (.aload 6, 2) := by decide +kernel
theorem dX10_taken_106 : decode cX10_taken 106 = .ok (.getfield 267, 3) := by decide +kernel
theorem dX10_taken_109 : decode cX10_taken 109 = .ok (.iload_n 2, 1) := by decide +kernel
theorem dX10_taken_110 : decode cX10_taken 110 = .ok (.bipush 10, 2) := by decide +kernel
theorem dX10_taken_112 : decode cX10_taken 112 = .ok (.isub, 1) := by decide +kernel
theorem dX10_taken_113 : decode cX10_taken 113 = .ok (.if_icmp .ne 12, 3) := by decide +kernel
theorem dX10_taken_116 : decode cX10_taken 116 = .ok (.aload 6, 2) := by decide +kernel
theorem dX10_taken_118 : decode cX10_taken 118 = .ok (.getfield 270, 3) := by decide +kernel
theorem dX10_taken_121 : decode cX10_taken 121 = .ok (.arraylength, 1) := by decide +kernel
theorem dX10_taken_122 : decode cX10_taken 122 = .ok (.goto 5, 3) := by decide +kernel
theorem dX10_taken_125 : decode cX10_taken 125 = .ok (.bipush (-13), 2) := by decide +kernel
theorem dX10_taken_127 : decode cX10_taken 127 = .ok (.ireturn, 1) := by decide +kernel
theorem dX10_taken_128 : decode cX10_taken 128 = .ok (.bipush (-11), 2) := by decide +kernel
theorem dX10_taken_130 : decode cX10_taken 130 = .ok (.ireturn, 1) := by decide +kernel
theorem dX10_act_0 : decode cX10_act 0 = .ok (.aload_n 0, 1) := by decide +kernel
theorem dX10_act_1 : decode cX10_act 1 = .ok (.getfield 48, 3) := by decide +kernel
theorem dX10_act_4 : decode cX10_act 4 = .ok (.invokevirtual 290, 3) := by decide +kernel
theorem dX10_act_7 : decode cX10_act 7 = .ok (.iload_n 1, 1) := by decide +kernel
theorem dX10_act_8 : decode cX10_act 8 = .ok (.invokestatic 280, 3) := by decide +kernel
theorem dX10_act_11 : decode cX10_act 11 = .ok (.ifCond .eq 19, 3) := by decide +kernel
theorem dX10_act_14 : decode cX10_act 14 = .ok (.aload_n 0, 1) := by decide +kernel
theorem dX10_act_15 : decode cX10_act 15 = .ok (.getfield 10, 3) := by decide +kernel
theorem dX10_act_18 : decode cX10_act 18 = .ok (.aload_n 0, 1) := by decide +kernel
theorem dX10_act_19 : decode cX10_act 19 = .ok (.getfield 42, 3) := by decide +kernel
theorem dX10_act_22 : decode cX10_act 22 = .ok (.iload_n 1, 1) := by decide +kernel
theorem dX10_act_23 : decode cX10_act 23 = .ok (.iaload, 1) := by decide +kernel
theorem dX10_act_24 : decode cX10_act 24 = .ok (.invokevirtual 136, 3) := by decide +kernel
theorem dX10_act_27 : decode cX10_act 27 = .ok (.goto 4, 3) := by decide +kernel
theorem dX10_act_30 : decode cX10_act 30 = .ok (.aconst_null, 1) := by decide +kernel
theorem dX10_act_31 : decode cX10_act 31 = .ok (.astore 4, 2) := by decide +kernel
theorem dX10_act_33 : decode cX10_act 33 = .ok (.aload 4, 2) := by decide +kernel
theorem dX10_act_35 : decode cX10_act 35 = .ok (.ifnonnull 5, 3) := by decide +kernel
theorem dX10_act_38 : decode cX10_act 38 = .ok (.iconst 0, 1) := by decide +kernel
theorem dX10_act_39 : decode cX10_act 39 = .ok (.ireturn, 1) := by decide +kernel
theorem dX10_act_40 : decode cX10_act 40 = .ok (.iconst 0, 1) := by decide +kernel
theorem dX10_act_41 : decode cX10_act 41 = .ok (.istore 5, 2) := by decide +kernel
theorem dX10_act_43 : decode cX10_act 43 = .ok (.iload_n 2, 1) := by decide +kernel
theorem dX10_act_44 : decode cX10_act 44 = .ok (.tableswitch 92 0 3 #[32, 47, 62, 77], 32) := by decide +kernel
theorem dX10_act_76 : decode cX10_act 76 = .ok (.aload 4, 2) := by decide +kernel
theorem dX10_act_78 : decode cX10_act 78 = .ok (.iload_n 3, 1) := by decide +kernel
theorem dX10_act_79 : decode cX10_act 79 = .ok (.aload_n 0, 1) := by decide +kernel
theorem dX10_act_80 : decode cX10_act 80 = .ok (.getfield 48, 3) := by decide +kernel
theorem dX10_act_83 : decode cX10_act 83 = .ok (.invokevirtual 293, 3) := by decide +kernel
theorem dX10_act_86 : decode cX10_act 86 = .ok (.istore 5, 2) := by decide +kernel
theorem dX10_act_88 : decode cX10_act 88 = .ok (.goto 48, 3) := by decide +kernel
theorem dX10_act_91 : decode cX10_act 91 = .ok (.aload 4, 2) := by decide +kernel
theorem dX10_act_93 : decode cX10_act 93 = .ok (.iload_n 3, 1) := by decide +kernel
theorem dX10_act_94 : decode cX10_act 94 = .ok (.aload_n 0, 1) := by decide +kernel
theorem dX10_act_95 : decode cX10_act 95 = .ok (.getfield 48, 3) := by decide +kernel
theorem dX10_act_98 : decode cX10_act 98 = .ok (.invokevirtual 297, 3) := by decide +kernel
theorem dX10_act_101 : decode cX10_act 101 = .ok (.istore 5, 2) := by decide +kernel
theorem dX10_act_103 : decode cX10_act 103 = .ok (.goto 33, 3) := by decide +kernel
theorem dX10_act_106 : decode cX10_act 106 = .ok (.aload 4, 2) := by decide +kernel
theorem dX10_act_108 : decode cX10_act 108 = .ok (.iload_n 3, 1) := by decide +kernel
theorem dX10_act_109 : decode cX10_act 109 = .ok (.aload_n 0, 1) := by decide +kernel
theorem dX10_act_110 : decode cX10_act 110 = .ok (.getfield 48, 3) := by decide +kernel
theorem dX10_act_113 : decode cX10_act 113 = .ok (.invokevirtual 300, 3) := by decide +kernel
theorem dX10_act_116 : decode cX10_act 116 = .ok (.istore 5, 2) := by decide +kernel
theorem dX10_act_118 : decode cX10_act 118 = .ok (.goto 18, 3) := by decide +kernel
theorem dX10_act_121 : decode cX10_act 121 = .ok (.aload 4, 2) := by decide +kernel
theorem dX10_act_123 : decode cX10_act 123 = .ok (.iload_n 3, 1) := by decide +kernel
theorem dX10_act_124 : decode cX10_act 124 = .ok (.aload_n 0, 1) := by decide +kernel
theorem dX10_act_125 : decode cX10_act 125 = .ok (.getfield 48, 3) := by decide +kernel
theorem dX10_act_128 : decode cX10_act 128 = .ok (.invokevirtual 303, 3) := by decide +kernel
theorem dX10_act_131 : decode cX10_act 131 = .ok (.istore 5, 2) := by decide +kernel
theorem dX10_act_133 : decode cX10_act 133 = .ok (.goto 3, 3) := by decide +kernel
theorem dX10_act_136 : decode cX10_act 136 = .ok (.aload_n 0, 1) := by decide +kernel
theorem dX10_act_137 : decode cX10_act 137 = .ok (.getfield 48, 3) := by decide +kernel
theorem dX10_act_140 : decode cX10_act 140 = .ok (.getfield 306, 3) := by decide +kernel
theorem dX10_act_143 : decode cX10_act 143 = .ok (.ifCond .eq 8, 3) := by decide +kernel
theorem dX10_act_146 : decode cX10_act 146 = .ok (.bipush (-15), 2) := by decide +kernel
theorem dX10_act_148 : decode cX10_act 148 = .ok (.goto 5, 3) := by decide +kernel
theorem dX10_act_151 : decode cX10_act 151 = .ok (.iload 5, 2) := by decide +kernel
theorem dX10_act_153 : decode cX10_act 153 = .ok (.ireturn, 1) := by decide +kernel
theorem dX10_trace_0 : decode cX10_trace 0 = .ok (.iload_n 1, 1) := by decide +kernel
theorem dX10_trace_1 : decode cX10_trace 1 = .ok (.ifCond .lt 26, 3) := by decide +kernel
theorem dX10_trace_4 : decode cX10_trace 4 = .ok (.iload_n 1, 1) := by decide +kernel
theorem dX10_trace_5 : decode cX10_trace 5 = .ok (.aload_n 0, 1) := by decide +kernel
theorem dX10_trace_6 : decode cX10_trace 6 = .ok (.getfield 48, 3) := by decide +kernel
theorem dX10_trace_9 : decode cX10_trace 9 = .ok (.getfield 310, 3) := by decide +kernel
theorem dX10_trace_12 : decode cX10_trace 12 = .ok (.if_icmp .ge 15, 3) := by decide +kernel
theorem dX10_trace_15 : decode cX10_trace 15 = .ok (.aload_n 0, 1) := by decide +kernel
theorem dX10_trace_16 : decode cX10_trace 16 = .ok (.getfield 48, 3) := by decide +kernel
theorem dX10_trace_19 : decode cX10_trace 19 = .ok (.getfield 313, 3) := by decide +kernel
theorem dX10_trace_22 : decode cX10_trace 22 = .ok (.iload_n 1, 1) := by decide +kernel
theorem dX10_trace_23 : decode cX10_trace 23 = .ok (.iaload, 1) := by decide +kernel
theorem dX10_trace_24 : decode cX10_trace 24 = .ok (.goto 5, 3) := by decide +kernel
theorem dX10_trace_27 : decode cX10_trace 27 = .ok (.bipush (-3), 2) := by decide +kernel
theorem dX10_trace_29 : decode cX10_trace 29 = .ok (.ireturn, 1) := by decide +kernel
theorem dX10_many_0 : decode cX10_many 0 = .ok (.iload_n 1, 1) := by decide +kernel
theorem dX10_many_1 : decode cX10_many 1 = .ok (.tableswitch 84 0 5 #[39, 47, 55, 63, 68, 76], 39) := by decide +kernel
theorem dX10_many_40 : decode cX10_many 40 = .ok (.aload_n 0, 1) := by decide +kernel
theorem dX10_many_41 : decode cX10_many 41 = .ok (.getfield 10, 3) := by decide +kernel
theorem dX10_many_44 : decode cX10_many 44 = .ok (.getfield 74, 3) := by decide +kernel
theorem dX10_many_47 : decode cX10_many 47 = .ok (.ireturn, 1) := by decide +kernel
theorem dX10_many_48 : decode cX10_many 48 = .ok (.aload_n 0, 1) := by decide +kernel
theorem dX10_many_49 : decode cX10_many 49 = .ok (.getfield 10, 3) := by decide +kernel
theorem dX10_many_52 : decode cX10_many 52 = .ok (.getfield 174, 3) := by decide +kernel
theorem dX10_many_55 : decode cX10_many 55 = .ok (.ireturn, 1) := by decide +kernel
theorem dX10_many_56 : decode cX10_many 56 = .ok (.aload_n 0, 1) := by decide +kernel
theorem dX10_many_57 : decode cX10_many 57 = .ok (.getfield 10, 3) := by decide +kernel
theorem dX10_many_60 : decode cX10_many 60 = .ok (.getfield 205, 3) := by decide +kernel
theorem dX10_many_63 : decode cX10_many 63 = .ok (.ireturn, 1) := by decide +kernel
theorem dX10_many_64 : decode cX10_many 64 = .ok (.aload_n 0, 1) := by decide +kernel
theorem dX10_many_65 : decode cX10_many 65 = .ok (.getfield 71, 3) := by decide +kernel
theorem dX10_many_68 : decode cX10_many 68 = .ok (.ireturn, 1) := by decide +kernel
theorem dX10_many_69 : decode cX10_many 69 = .ok (.aload_n 0, 1) := by decide +kernel
theorem dX10_many_70 : decode cX10_many 70 = .ok (.getfield 25, 3) := by decide +kernel
theorem dX10_many_73 : decode cX10_many 73 = .ok (.getfield 52, 3) := by decide +kernel
theorem dX10_many_76 : decode cX10_many 76 = .ok (.ireturn, 1) := by decide +kernel
theorem dX10_many_77 : decode cX10_many 77 = .ok (.aload_n 0, 1) := by decide +kernel
theorem dX10_many_78 : decode cX10_many 78 = .ok (.getfield 48, 3) := by decide +kernel
theorem dX10_many_81 : decode cX10_many 81 = .ok (.getfield 310, 3) := by decide +kernel
theorem dX10_many_84 : decode cX10_many 84 = .ok (.ireturn, 1) := by decide +kernel
theorem dX10_many_85 : decode cX10_many 85 = .ok (.iconst (-1), 1) := by decide +kernel
theorem dX10_many_86 : decode cX10_many 86 = .ok (.ireturn, 1) := by decide +kernel
theorem dX10_keep_0 : decode cX10_keep 0 = .ok (.aload_n 0, 1) := by decide +kernel
theorem dX10_keep_1 : decode cX10_keep 1 = .ok (.getfield 19, 3) := by decide +kernel
theorem dX10_keep_4 : decode cX10_keep 4 = .ok (.aload_n 0, 1) := by decide +kernel
theorem dX10_keep_5 : decode cX10_keep 5 = .ok (.getfield 10, 3) := by decide +kernel
theorem dX10_keep_8 : decode cX10_keep 8 = .ok (.invokevirtual 60, 3) := by decide +kernel
theorem dX10_keep_11 : decode cX10_keep 11 = .ok (.aload_n 0, 1) := by decide +kernel
theorem dX10_keep_12 : decode cX10_keep 12 = .ok (.iconst 1, 1) := by decide +kernel
theorem dX10_keep_13 : decode cX10_keep 13 = .ok (.putfield 316, 3) := by decide +kernel
theorem dX10_keep_16 : decode cX10_keep 16 = .ok (.iconst 1, 1) := by decide +kernel
theorem dX10_keep_17 : decode cX10_keep 17 = .ok (.ireturn, 1) := by decide +kernel
theorem dX10_again_0 : decode cX10_again 0 = .ok (.aload_n 0, 1) := by decide +kernel
theorem dX10_again_1 : decode cX10_again 1 = .ok (.getfield 316, 3) := by decide +kernel
theorem dX10_again_4 : decode cX10_again 4 = .ok (.ifCond .ne 6, 3) := by decide +kernel
theorem dX10_again_7 : decode cX10_again 7 = .ok (.bipush (-3), 2) := by decide +kernel
theorem dX10_again_9 : decode cX10_again 9 = .ok (.ireturn, 1) := by decide +kernel
theorem dX10_again_10 : decode cX10_again 10 = .ok (.aload_n 0, 1) := by decide +kernel
theorem dX10_again_11 : decode cX10_again 11 = .ok (.getfield 10, 3) := by decide +kernel
theorem dX10_again_14 : decode cX10_again 14 = .ok (.aload_n 0, 1) := by decide +kernel
theorem dX10_again_15 : decode cX10_again 15 = .ok (.getfield 19, 3) := by decide +kernel
theorem dX10_again_18 : decode cX10_again 18 = .ok (.invokevirtual 60, 3) := by decide +kernel
theorem dX10_again_21 : decode cX10_again 21 = .ok (.aload_n 0, 1) := by decide +kernel
theorem dX10_again_22 : decode cX10_again 22 = .ok (.getfield 10, 3) := by decide +kernel
theorem dX10_again_25 : decode cX10_again 25 = .ok (.getfield 205, 3) := by decide +kernel
theorem dX10_again_28 : decode cX10_again 28 = .ok (.ireturn, 1) := by decide +kernel
theorem dX10_isDay_0 : decode cX10_isDay 0 = .ok (.iload_n 0, 1) := by decide +kernel
theorem dX10_isDay_1 : decode cX10_isDay 1 = .ok (.ifCond .lt 13, 3) := by decide +kernel
theorem dX10_isDay_4 : decode cX10_isDay 4 = .ok (.iload_n 0, 1) := by decide +kernel
theorem dX10_isDay_5 : decode cX10_isDay 5 = .ok (.bipush 20, 2) := by decide +kernel
theorem dX10_isDay_7 : decode cX10_isDay 7 = .ok (.if_icmp .ge 7, 3) := by decide +kernel
theorem dX10_isDay_10 : decode cX10_isDay 10 = .ok (.iconst 1, 1) := by decide +kernel
theorem dX10_isDay_11 : decode cX10_isDay 11 = .ok (.goto 4, 3) := by decide +kernel
theorem dX10_isDay_14 : decode cX10_isDay 14 = .ok (.iconst 0, 1) := by decide +kernel
theorem dX10_isDay_15 : decode cX10_isDay 15 = .ok (.ireturn, 1) := by decide +kernel
theorem dX10_isComing_0 : decode cX10_isComing 0 = .ok (.iload_n 1, 1) := by decide +kernel
theorem dX10_isComing_1 : decode cX10_isComing 1 = .ok (.invokestatic 77, 3) := by decide +kernel
theorem dX10_isComing_4 : decode cX10_isComing 4 = .ok (.ifCond .eq 18, 3) := by decide +kernel
theorem dX10_isComing_7 : decode cX10_isComing 7 = .ok (.aload_n 0, 1) := by decide +kernel
theorem dX10_isComing_8 : decode cX10_isComing 8 = .ok (.getfield 10, 3) := by decide +kernel
theorem dX10_isComing_11 : decode cX10_isComing 11 = .ok (.iload_n 1, 1) := by decide +kernel
theorem dX10_isComing_12 : decode cX10_isComing 12 = .ok (.invokevirtual 186, 3) := by decide +kernel
theorem dX10_isComing_15 : decode cX10_isComing 15 = .ok (.ifCond .ne 7, 3) := by decide +kernel
theorem dX10_isComing_18 : decode cX10_isComing 18 = .ok (.iconst 1, 1) := by decide +kernel
theorem dX10_isComing_19 : decode cX10_isComing 19 = .ok (.goto 4, 3) := by decide +kernel
theorem dX10_isComing_22 : decode cX10_isComing 22 = .ok (.iconst 0, 1) := by decide +kernel
theorem dX10_isComing_23 : decode cX10_isComing 23 = .ok (.ireturn, 1) := by decide +kernel
theorem dX10_isWeather_0 : decode cX10_isWeather 0 = .ok (.iload_n 0, 1) := by decide +kernel
theorem dX10_isWeather_1 : decode cX10_isWeather 1 = .ok (.ifCond .lt 12, 3) := by decide +kernel
theorem dX10_isWeather_4 : decode cX10_isWeather 4 = .ok (.iload_n 0, 1) := by decide +kernel
theorem dX10_isWeather_5 : decode cX10_isWeather 5 = .ok (.iconst 4, 1) := by decide +kernel
theorem dX10_isWeather_6 : decode cX10_isWeather 6 = .ok (.if_icmp .ge 7, 3) := by decide +kernel
theorem dX10_isWeather_9 : decode cX10_isWeather 9 = .ok (.iconst 1, 1) := by decide +kernel
theorem dX10_isWeather_10 : decode cX10_isWeather 10 = .ok (.goto 4, 3) := by decide +kernel
theorem dX10_isWeather_13 : decode cX10_isWeather 13 = .ok (.iconst 0, 1) := by decide +kernel
theorem dX10_isWeather_14 : decode cX10_isWeather 14 = .ok (.ireturn, 1) := by decide +kernel
theorem dX10_isKind_0 : decode cX10_isKind 0 = .ok (.iload_n 0, 1) := by decide +kernel
theorem dX10_isKind_1 : decode cX10_isKind 1 = .ok (.ifCond .lt 13, 3) := by decide +kernel
theorem dX10_isKind_4 : decode cX10_isKind 4 = .ok (.iload_n 0, 1) := by decide +kernel
theorem dX10_isKind_5 : decode cX10_isKind 5 = .ok (.bipush 6, 2) := by decide +kernel
theorem dX10_isKind_7 : decode cX10_isKind 7 = .ok (.if_icmp .ge 7, 3) := by decide +kernel
theorem dX10_isKind_10 : decode cX10_isKind 10 = .ok (.iconst 1, 1) := by decide +kernel
theorem dX10_isKind_11 : decode cX10_isKind 11 = .ok (.goto 4, 3) := by decide +kernel
theorem dX10_isKind_14 : decode cX10_isKind 14 = .ok (.iconst 0, 1) := by decide +kernel
theorem dX10_isKind_15 : decode cX10_isKind 15 = .ok (.ireturn, 1) := by decide +kernel
theorem dX10_isA_0 : decode cX10_isA 0 = .ok (.iload_n 0, 1) := by decide +kernel
theorem dX10_isA_1 : decode cX10_isA 1 = .ok (.ifCond .lt 13, 3) := by decide +kernel
theorem dX10_isA_4 : decode cX10_isA 4 = .ok (.iload_n 0, 1) := by decide +kernel
theorem dX10_isA_5 : decode cX10_isA 5 = .ok (.bipush 9, 2) := by decide +kernel
theorem dX10_isA_7 : decode cX10_isA 7 = .ok (.if_icmp .gt 7, 3) := by decide +kernel
theorem dX10_isA_10 : decode cX10_isA 10 = .ok (.iconst 1, 1) := by decide +kernel
theorem dX10_isA_11 : decode cX10_isA 11 = .ok (.goto 4, 3) := by decide +kernel
theorem dX10_isA_14 : decode cX10_isA 14 = .ok (.iconst 0, 1) := by decide +kernel
theorem dX10_isA_15 : decode cX10_isA 15 = .ok (.ireturn, 1) := by decide +kernel
theorem dX10_isPart_0 : decode cX10_isPart 0 = .ok (.iload_n 0, 1) := by decide +kernel
theorem dX10_isPart_1 : decode cX10_isPart 1 = .ok (.ifCond .eq 8, 3) := by decide +kernel
theorem dX10_isPart_4 : decode cX10_isPart 4 = .ok (.iload_n 0, 1) := by decide +kernel
theorem dX10_isPart_5 : decode cX10_isPart 5 = .ok (.iconst 1, 1) := by decide +kernel
theorem dX10_isPart_6 : decode cX10_isPart 6 = .ok (.if_icmp .ne 7, 3) := by decide +kernel
theorem dX10_isPart_9 : decode cX10_isPart 9 = .ok (.iconst 1, 1) := by decide +kernel
theorem dX10_isPart_10 : decode cX10_isPart 10 = .ok (.goto 4, 3) := by decide +kernel
theorem dX10_isPart_13 : decode cX10_isPart 13 = .ok (.iconst 0, 1) := by decide +kernel
theorem dX10_isPart_14 : decode cX10_isPart 14 = .ok (.ireturn, 1) := by decide +kernel
theorem dX10_isSheet_0 : decode cX10_isSheet 0 = .ok (.iload_n 0, 1) := by decide +kernel
theorem dX10_isSheet_1 : decode cX10_isSheet 1 = .ok (.ifCond .lt 12, 3) := by decide +kernel
theorem dX10_isSheet_4 : decode cX10_isSheet 4 = .ok (.iload_n 0, 1) := by decide +kernel
theorem dX10_isSheet_5 : decode cX10_isSheet 5 = .ok (.iconst 4, 1) := by decide +kernel
theorem dX10_isSheet_6 : decode cX10_isSheet 6 = .ok (.if_icmp .ge 7, 3) := by decide +kernel
theorem dX10_isSheet_9 : decode cX10_isSheet 9 = .ok (.iconst 1, 1) := by decide +kernel
theorem dX10_isSheet_10 : decode cX10_isSheet 10 = .ok (.goto 4, 3) := by decide +kernel
theorem dX10_isSheet_13 : decode cX10_isSheet 13 = .ok (.iconst 0, 1) := by decide +kernel
theorem dX10_isSheet_14 : decode cX10_isSheet 14 = .ok (.ireturn, 1) := by decide +kernel
theorem dX10_isShelf_0 : decode cX10_isShelf 0 = .ok (.iload_n 0, 1) := by decide +kernel
theorem dX10_isShelf_1 : decode cX10_isShelf 1 = .ok (.ifCond .lt 12, 3) := by decide +kernel
theorem dX10_isShelf_4 : decode cX10_isShelf 4 = .ok (.iload_n 0, 1) := by decide +kernel
theorem dX10_isShelf_5 : decode cX10_isShelf 5 = .ok (.iconst 4, 1) := by decide +kernel
theorem dX10_isShelf_6 : decode cX10_isShelf 6 = .ok (.if_icmp .ge 7, 3) := by decide +kernel
theorem dX10_isShelf_9 : decode cX10_isShelf 9 = .ok (.iconst 1, 1) := by decide +kernel
theorem dX10_isShelf_10 : decode cX10_isShelf 10 = .ok (.goto 4, 3) := by decide +kernel
theorem dX10_isShelf_13 : decode cX10_isShelf 13 = .ok (.iconst 0, 1) := by decide +kernel
theorem dX10_isShelf_14 : decode cX10_isShelf 14 = .ok (.ireturn, 1) := by decide +kernel
theorem dX10_isInRow_0 : decode cX10_isInRow 0 = .ok (.iload_n 1, 1) := by decide +kernel
theorem dX10_isInRow_1 : decode cX10_isInRow 1 = .ok (.ifCond .lt 24, 3) := by decide +kernel
theorem dX10_isInRow_4 : decode cX10_isInRow 4 = .ok (.iload_n 1, 1) := by decide +kernel
theorem dX10_isInRow_5 : decode cX10_isInRow 5 = .ok (.aload_n 0, 1) := by decide +kernel
theorem dX10_isInRow_6 : decode cX10_isInRow 6 = .ok (.getfield 71, 3) := by decide +kernel
theorem dX10_isInRow_9 : decode cX10_isInRow 9 = .ok (.if_icmp .ge 16, 3) := by decide +kernel
theorem dX10_isInRow_12 : decode cX10_isInRow 12 = .ok (.iload_n 2, 1) := by decide +kernel
theorem dX10_isInRow_13 : decode cX10_isInRow 13 = .ok (.ifCond .lt 12, 3) := by decide +kernel
theorem dX10_isInRow_16 : decode cX10_isInRow 16 = .ok (.iload_n 2, 1) := by decide +kernel
theorem dX10_isInRow_17 : decode cX10_isInRow 17 = .ok (.iconst 3, 1) := by decide +kernel
theorem dX10_isInRow_18 : decode cX10_isInRow 18 = .ok (.if_icmp .ge 7, 3) := by decide +kernel
theorem dX10_isInRow_21 : decode cX10_isInRow 21 = .ok (.iconst 1, 1) := by decide +kernel
theorem dX10_isInRow_22 : decode cX10_isInRow 22 = .ok (.goto 4, 3) := by decide +kernel
theorem dX10_isInRow_25 : decode cX10_isInRow 25 = .ok (.iconst 0, 1) := by decide +kernel
theorem dX10_isInRow_26 : decode cX10_isInRow 26 = .ok (.ireturn, 1) := by decide +kernel
theorem dX10_orNotYet_0 : decode cX10_orNotYet 0 = .ok (.iload_n 0, 1) := by decide +kernel
theorem dX10_orNotYet_1 : decode cX10_orNotYet 1 = .ok (.ifCond .ge 8, 3) := by decide +kernel
theorem dX10_orNotYet_4 : decode cX10_orNotYet 4 = .ok (.bipush (-9), 2) := by decide +kernel
theorem dX10_orNotYet_6 : decode cX10_orNotYet 6 = .ok (.goto 4, 3) := by decide +kernel
theorem dX10_orNotYet_9 : decode cX10_orNotYet 9 = .ok (.iload_n 0, 1) := by decide +kernel
theorem dX10_orNotYet_10 : decode cX10_orNotYet 10 = .ok (.ireturn, 1) := by decide +kernel
theorem dX10_partOf_0 : decode cX10_partOf 0 = .ok (.lload_n 0, 1) := by decide +kernel
theorem dX10_partOf_1 : decode cX10_partOf 1 = .ok (.invokestatic 319, 3) := by decide +kernel
theorem dX10_partOf_4 : decode cX10_partOf 4 = .ok (.lload_n 2, 1) := by decide +kernel
theorem dX10_partOf_5 : decode cX10_partOf 5 = .ok (.invokestatic 323, 3) := by decide +kernel
theorem dX10_partOf_8 : decode cX10_partOf 8 = .ok (.lstore 5, 2) := by decide +kernel
theorem dX10_partOf_10 : decode cX10_partOf 10 = .ok (.lload 5, 2) := by decide +kernel
theorem dX10_partOf_12 : decode cX10_partOf 12 = .ok (.lconst 0, 1) := by decide +kernel
theorem dX10_partOf_13 : decode cX10_partOf 13 = .ok (.lcmp, 1) := by decide +kernel
theorem dX10_partOf_14 : decode cX10_partOf 14 = .ok (.ifCond .ne 7, 3) := by decide +kernel
theorem dX10_partOf_17 : decode cX10_partOf 17 = .ok (.iload 4, 2) := by decide +kernel
theorem dX10_partOf_19 : decode cX10_partOf 19 = .ok (.i2l, 1) := by decide +kernel
theorem dX10_partOf_20 : decode cX10_partOf 20 = .ok (.lreturn, 1) := by decide +kernel
theorem dX10_partOf_21 : decode cX10_partOf 21 = .ok (.iload 4, 2) := by decide +kernel
theorem dX10_partOf_23 : decode cX10_partOf 23 = .ok (.ifCond .ne 7, 3) := by decide +kernel
theorem dX10_partOf_26 : decode cX10_partOf 26 = .ok (.lload_n 0, 1) := by decide +kernel
theorem dX10_partOf_27 : decode cX10_partOf 27 = .ok (.goto 4, 3) := by decide +kernel
theorem dX10_partOf_30 : decode cX10_partOf 30 = .ok (.lload_n 2, 1) := by decide +kernel
theorem dX10_partOf_31 : decode cX10_partOf 31 = .ok (.lload 5, 2) := by decide +kernel
theorem dX10_partOf_33 : decode cX10_partOf 33 = .ok (.ldiv, 1) := by decide +kernel
theorem dX10_partOf_34 : decode cX10_partOf 34 = .ok (.lreturn, 1) := by decide +kernel
theorem dX10_commonDivisor_0 : decode cX10_commonDivisor 0 = .ok (.lload_n 0, 1) := by decide +kernel
theorem dX10_commonDivisor_1 : decode cX10_commonDivisor 1 = .ok (.lstore 4, 2) := by decide +kernel
theorem dX10_commonDivisor_3 : decode cX10_commonDivisor 3 = .ok (.lload_n 2, 1) := by decide +kernel
theorem dX10_commonDivisor_4 : decode cX10_commonDivisor 4 = .ok (.lstore 6, 2) := by decide +kernel
theorem dX10_commonDivisor_6 : decode cX10_commonDivisor 6 = .ok (.iconst 0, 1) := by decide +kernel
theorem dX10_commonDivisor_7 : decode cX10_commonDivisor 7 = .ok (.istore 8, 2) := by decide +kernel
theorem dX10_commonDivisor_9 : decode cX10_commonDivisor 9 = .ok (.iload 8, 2) := by decide +kernel
theorem dX10_commonDivisor_11 : decode cX10_commonDivisor 11 = .ok (.bipush 100, 2) := by decide +kernel
theorem dX10_commonDivisor_13 : decode cX10_commonDivisor 13 = .ok (.if_icmp .ge 31, 3) := by decide +kernel
theorem dX10_commonDivisor_16 : decode cX10_commonDivisor 16 = .ok (.lload 6, 2) := by decide +kernel
theorem dX10_commonDivisor_18 : decode cX10_commonDivisor 18 = .ok (.lconst 0, 1) := by decide +kernel
theorem dX10_commonDivisor_19 : decode cX10_commonDivisor 19 = .ok (.lcmp, 1) := by decide +kernel
theorem dX10_commonDivisor_20 : decode cX10_commonDivisor 20 = .ok (.ifCond .eq 24, 3) := by decide +kernel
theorem dX10_commonDivisor_23 : decode cX10_commonDivisor 23 = .ok (.lload 4, 2) := by decide +kernel
theorem dX10_commonDivisor_25 : decode cX10_commonDivisor 25 = .ok (.lload 6, 2) := by decide +kernel
theorem dX10_commonDivisor_27 : decode cX10_commonDivisor 27 = .ok (.lrem, 1) := by decide +kernel
theorem dX10_commonDivisor_28 : decode cX10_commonDivisor 28 = .ok (.lstore 9, 2) := by decide +kernel
theorem dX10_commonDivisor_30 : decode cX10_commonDivisor 30 = .ok (.lload 6, 2) := by decide +kernel
theorem dX10_commonDivisor_32 : decode cX10_commonDivisor 32 = .ok (.lstore 4, 2) := by decide +kernel
theorem dX10_commonDivisor_34 : decode cX10_commonDivisor 34 = .ok (.lload 9, 2) := by decide +kernel
theorem dX10_commonDivisor_36 : decode cX10_commonDivisor 36 = .ok (.lstore 6, 2) := by decide +kernel
theorem dX10_commonDivisor_38 : decode cX10_commonDivisor 38 = .ok (.iinc 8 1, 3) := by decide +kernel
theorem dX10_commonDivisor_41 : decode cX10_commonDivisor 41 = .ok (.goto (-32), 3) := by decide +kernel
theorem dX10_commonDivisor_44 : decode cX10_commonDivisor 44 = .ok (.lload 4, 2) := by decide +kernel
theorem dX10_commonDivisor_46 : decode cX10_commonDivisor 46 = .ok (.lreturn, 1) := by decide +kernel
theorem dX10_isUnder_0 : decode cX10_isUnder 0 = .ok (.iload_n 1, 1) := by decide +kernel
theorem dX10_isUnder_1 : decode cX10_isUnder 1 = .ok (.tableswitch 66 0 5 #[39, 41, 46, 51, 56, 61], 39) := by decide +kernel
theorem dX10_isUnder_40 : decode cX10_isUnder 40 = .ok (.iconst 1, 1) := by decide +kernel
theorem dX10_isUnder_41 : decode cX10_isUnder 41 = .ok (.ireturn, 1) := by decide +kernel
theorem dX10_isUnder_42 : decode cX10_isUnder 42 = .ok (.aload_n 0, 1) := by decide +kernel
theorem dX10_isUnder_43 : decode cX10_isUnder 43 = .ok (.instanceof 327, 3) := by decide +kernel
theorem dX10_isUnder_46 : decode cX10_isUnder 46 = .ok (.ireturn, 1) := by decide +kernel
theorem dX10_isUnder_47 : decode cX10_isUnder 47 = .ok (.aload_n 0, 1) := by decide +kernel
theorem dX10_isUnder_48 : decode cX10_isUnder 48 = .ok (.instanceof 329, 3) := by decide +kernel
theorem dX10_isUnder_51 : decode cX10_isUnder 51 = .ok (.ireturn, 1) := by decide +kernel
theorem dX10_isUnder_52 : decode cX10_isUnder 52 = .ok (.aload_n 0, 1) := by decide +kernel
theorem dX10_isUnder_53 : decode cX10_isUnder 53 = .ok (.instanceof 331, 3) := by decide +kernel
theorem dX10_isUnder_56 : decode cX10_isUnder 56 = .ok (.ireturn, 1) := by decide +kernel
theorem dX10_isUnder_57 : decode cX10_isUnder 57 = .ok (.aload_n 0, 1) := by decide +kernel
theorem dX10_isUnder_58 : decode cX10_isUnder 58 = .ok (.instanceof 333, 3) := by decide +kernel
theorem dX10_isUnder_61 : decode cX10_isUnder 61 = .ok (.ireturn, 1) := by decide +kernel
theorem dX10_isUnder_62 : decode cX10_isUnder 62 = .ok (.aload_n 0, 1) := by decide +kernel
theorem dX10_isUnder_63 : decode cX10_isUnder 63 = .ok (.instanceof 335, 3) := by decide +kernel
theorem dX10_isUnder_66 : decode cX10_isUnder 66 = .ok (.ireturn, 1) := by decide +kernel
theorem dX10_isUnder_67 : decode cX10_isUnder 67 = .ok (.iconst 0, 1) := by decide +kernel
theorem dX10_isUnder_68 : decode cX10_isUnder 68 = .ok (.ireturn, 1) := by decide +kernel
theorem dX10_thingOf_0 : decode cX10_thingOf 0 = .ok (.iload_n 0, 1) := by decide +kernel
theorem dX10_thingOf_1 : decode cX10_thingOf 1 = .ok (.tableswitch 87 1 5 #[35, 46, 57, 67, 77], 35) := by decide +kernel
theorem dX10_thingOf_36 : decode cX10_thingOf 36 = .ok (.new 327, 3) := by decide +kernel
theorem dX10_thingOf_39 : decode cX10_thingOf 39 = .ok (.dup, 1) := by decide +kernel
theorem dX10_thingOf_40 : decode cX10_thingOf 40 = .ok (.iconst 1, 1) := by decide +kernel
theorem dX10_thingOf_41 : decode cX10_thingOf 41 = .ok (.iload_n 1, 1) := by decide +kernel
theorem dX10_thingOf_42 : decode cX10_thingOf 42 = .ok (.iload_n 2, 1) := by decide +kernel
theorem dX10_thingOf_43 : decode cX10_thingOf 43 = .ok (.invokespecial 337, 3) := by decide +kernel
theorem dX10_thingOf_46 : decode cX10_thingOf 46 = .ok (.areturn, 1) := by decide +kernel
theorem dX10_thingOf_47 : decode cX10_thingOf 47 = .ok (.new 329, 3) := by decide +kernel
theorem dX10_thingOf_50 : decode cX10_thingOf 50 = .ok (.dup, 1) := by decide +kernel
theorem dX10_thingOf_51 : decode cX10_thingOf 51 = .ok (.iconst 2, 1) := by decide +kernel
theorem dX10_thingOf_52 : decode cX10_thingOf 52 = .ok (.iload_n 1, 1) := by decide +kernel
theorem dX10_thingOf_53 : decode cX10_thingOf 53 = .ok (.iload_n 2, 1) := by decide +kernel
theorem dX10_thingOf_54 : decode cX10_thingOf 54 = .ok (.invokespecial 340, 3) := by decide +kernel
theorem dX10_thingOf_57 : decode cX10_thingOf 57 = .ok (.areturn, 1) := by decide +kernel
theorem dX10_thingOf_58 : decode cX10_thingOf 58 = .ok (.new 331, 3) := by decide +kernel
theorem dX10_thingOf_61 : decode cX10_thingOf 61 = .ok (.dup, 1) := by decide +kernel
theorem dX10_thingOf_62 : decode cX10_thingOf 62 = .ok (.iload_n 1, 1) := by decide +kernel
theorem dX10_thingOf_63 : decode cX10_thingOf 63 = .ok (.iload_n 2, 1) := by decide +kernel
theorem dX10_thingOf_64 : decode cX10_thingOf 64 = .ok (.invokespecial 341, 3) := by decide +kernel
theorem dX10_thingOf_67 : decode cX10_thingOf 67 = .ok (.areturn, 1) := by decide +kernel
theorem dX10_thingOf_68 : decode cX10_thingOf 68 = .ok (.new 333, 3) := by decide +kernel
theorem dX10_thingOf_71 : decode cX10_thingOf 71 = .ok (.dup, 1) := by decide +kernel
theorem dX10_thingOf_72 : decode cX10_thingOf 72 = .ok (.iload_n 1, 1) := by decide +kernel
theorem dX10_thingOf_73 : decode cX10_thingOf 73 = .ok (.iload_n 2, 1) := by decide +kernel
theorem dX10_thingOf_74 : decode cX10_thingOf 74 = .ok (.invokespecial 344, 3) := by decide +kernel
theorem dX10_thingOf_77 : decode cX10_thingOf 77 = .ok (.areturn, 1) := by decide +kernel
theorem dX10_thingOf_78 : decode cX10_thingOf 78 = .ok (.new 335, 3) := by decide +kernel
theorem dX10_thingOf_81 : decode cX10_thingOf 81 = .ok (.dup, 1) := by decide +kernel
theorem dX10_thingOf_82 : decode cX10_thingOf 82 = .ok (.iload_n 1, 1) := by decide +kernel
theorem dX10_thingOf_83 : decode cX10_thingOf 83 = .ok (.iload_n 2, 1) := by decide +kernel
theorem dX10_thingOf_84 : decode cX10_thingOf 84 = .ok (.invokespecial 345, 3) := by decide +kernel
theorem dX10_thingOf_87 : decode cX10_thingOf 87 = .ok (.areturn, 1) := by decide +kernel
theorem dX10_thingOf_88 : decode cX10_thingOf 88 = .ok (.new 141, 3) := by decide +kernel
theorem dX10_thingOf_91 : decode cX10_thingOf 91 = .ok (.dup, 1) := by decide +kernel
theorem dX10_thingOf_92 : decode cX10_thingOf 92 = .ok (.iconst 0, 1) := by decide +kernel
theorem dX10_thingOf_93 : decode cX10_thingOf 93 = .ok (.iload_n 1, 1) := by decide +kernel
theorem dX10_thingOf_94 : decode cX10_thingOf 94 = .ok (.iload_n 2, 1) := by decide +kernel
theorem dX10_thingOf_95 : decode cX10_thingOf 95 = .ok (.invokespecial 346, 3) := by decide +kernel
theorem dX10_thingOf_98 : decode cX10_thingOf 98 = .ok (.areturn, 1) := by decide +kernel
