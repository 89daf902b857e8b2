theorem dX0_init_0 : decode cX0_init 0 = .ok (.aload_n 0, 1) := by decide +kernel
theorem dX0_init_1 : decode cX0_init 1 = .ok (.iconst 4, 1) := by decide +kernel
theorem dX0_init_2 : decode cX0_init 2 = .ok (.iload_n 1, 1) := by decide +kernel
theorem dX0_init_3 : decode cX0_init 3 = .ok (.iload_n 2, 1) := by decide +kernel
theorem dX0_init_4 : decode cX0_init 4 = .ok (.invokespecial 3, 3) := by decide +kernel
theorem dX0_init_7 : decode cX0_init 7 = .ok (.return_, 1) := by decide +kernel
theorem dX0_firstWeather_0 : decode cX0_firstWeather 0 = .ok (.iconst 0, 1) := by decide +kernel
theorem dX0_firstWeather_1 : decode cX0_firstWeather 1 = .ok (.ireturn, 1) := by decide +kernel
theorem dX0_breadth_0 : decode cX0_breadth 0 = .ok (.iconst 4, 1) := by decide +kernel
theorem dX0_breadth_1 : decode cX0_breadth 1 = .ok (.ireturn, 1) := by decide +kernel
theorem dX0_shares_0 : decode cX0_shares 0 = .ok (.aload_n 2, 1) := by decide +kernel
theorem dX0_shares_1 : decode cX0_shares 1 = .ok (.bipush 50, 2) := by decide +kernel
theorem dX0_shares_3 : decode cX0_shares 3 = .ok (.invokevirtual 9, 3) := by decide +kernel
theorem dX0_shares_6 : decode cX0_shares 6 = .ok (.aload_n 0, 1) := by decide +kernel
theorem dX0_shares_7 : decode cX0_shares 7 = .ok (.iload_n 1, 1) := by decide +kernel
theorem dX0_shares_8 : decode cX0_shares 8 = .ok (.iconst 2, 1) := by decide +kernel
theorem dX0_shares_9 : decode cX0_shares 9 = .ok (.iadd, 1) := by decide +kernel
theorem dX0_shares_10 : decode cX0_shares 10 = .ok (.aload_n 2, 1) := by decide +kernel
theorem dX0_shares_11 : decode cX0_shares 11 = .ok (.invokespecial 15, 3) := by decide +kernel
theorem dX0_shares_14 : decode cX0_shares 14 = .ok (.iconst 1, 1) := by decide +kernel
theorem dX0_shares_15 : decode cX0_shares 15 = .ok (.ixor, 1) := by decide +kernel
theorem dX0_shares_16 : decode cX0_shares 16 = .ok (.ireturn, 1) := by decide +kernel
theorem dX0_says_0 : decode cX0_says 0 = .ok (.aload_n 2, 1) := by decide +kernel
theorem dX0_says_1 : decode cX0_says 1 = .ok (.bipush 51, 2) := by decide +kernel
theorem dX0_says_3 : decode cX0_says 3 = .ok (.invokevirtual 9, 3) := by decide +kernel
theorem dX0_says_6 : decode cX0_says 6 = .ok (.aload_n 0, 1) := by decide +kernel
theorem dX0_says_7 : decode cX0_says 7 = .ok (.iload_n 1, 1) := by decide +kernel
theorem dX0_says_8 : decode cX0_says 8 = .ok (.aload_n 2, 1) := by decide +kernel
theorem dX0_says_9 : decode cX0_says 9 = .ok (.invokespecial 19, 3) := by decide +kernel
theorem dX0_says_12 : decode cX0_says 12 = .ok (.aload_n 0, 1) := by decide +kernel
theorem dX0_says_13 : decode cX0_says 13 = .ok (.getfield 22, 3) := by decide +kernel
theorem dX0_says_16 : decode cX0_says 16 = .ok (.isub, 1) := by decide +kernel
theorem dX0_says_17 : decode cX0_says 17 = .ok (.ireturn, 1) := by decide +kernel
theorem dX1_init_0 : decode cX1_init 0 = .ok (.aload_n 0, 1) := by decide +kernel
theorem dX1_init_1 : decode cX1_init 1 = .ok (.invokespecial 3, 3) := by decide +kernel
theorem dX1_init_4 : decode cX1_init 4 = .ok (.aload_n 0, 1) := by decide +kernel
theorem dX1_init_5 : decode cX1_init 5 = .ok (.sipush 240, 3) := by decide +kernel
theorem dX1_init_8 : decode cX1_init 8 = .ok (.newarray .byte, 2) := by decide +kernel
theorem dX1_init_10 : decode cX1_init 10 = .ok (.putfield 9, 3) := by decide +kernel
theorem dX1_init_13 : decode cX1_init 13 = .ok (.return_, 1) := by decide +kernel
theorem dX1_addByte_0 : decode cX1_addByte 0 = .ok (.aload_n 0, 1) := by decide +kernel
theorem dX1_addByte_1 : decode cX1_addByte 1 = .ok (.getfield 15, 3) := by decide +kernel
theorem dX1_addByte_4 : decode cX1_addByte 4 = .ok (.sipush 240, 3) := by decide +kernel
theorem dX1_addByte_7 : decode cX1_addByte 7 = .ok (.if_icmp .ge 23, 3) := by decide +kernel
theorem dX1_addByte_10 : decode cX1_addByte 10 = .ok (.aload_n 0, 1) := by decide +kernel
theorem dX1_addByte_11 : decode cX1_addByte 11 = .ok (.getfield 9, 3) := by decide +kernel
theorem dX1_addByte_14 : decode cX1_addByte 14 = .ok (.aload_n 0, 1) := by decide +kernel
theorem dX1_addByte_15 : decode cX1_addByte 15 = .ok (.getfield 15, 3) := by decide +kernel
theorem dX1_addByte_18 : decode cX1_addByte 18 = .ok (.iload_n 1, 1) := by decide +kernel
theorem dX1_addByte_19 : decode cX1_addByte 19 = .ok (.bastore, 1) := by decide +kernel
theorem dX1_addByte_20 : decode cX1_addByte 20 = .ok (.aload_n 0, 1) := by decide +kernel
theorem dX1_addByte_21 : decode cX1_addByte 21 = .ok (.dup, 1) := by decide +kernel
theorem dX1_addByte_22 : decode cX1_addByte 22 = .ok (.getfield 15, 3) := by decide +kernel
theorem dX1_addByte_25 : decode cX1_addByte 25 = .ok (.iconst 1, 1) := by decide +kernel
theorem dX1_addByte_26 : decode cX1_addByte 26 = .ok (.iadd, 1) := by decide +kernel
theorem dX1_addByte_27 : decode cX1_addByte 27 = .ok (.putfield 15, 3) := by decide +kernel
theorem dX1_addByte_30 : decode cX1_addByte 30 = .ok (.return_, 1) := by decide +kernel
theorem dX1_readInto_0 : decode cX1_readInto 0 = .ok (.aload_n 0, 1) := by decide +kernel
theorem dX1_readInto_1 : decode cX1_readInto 1 = .ok (.iconst (-1), 1) := by decide +kernel
theorem dX1_readInto_2 : decode cX1_readInto 2 = .ok (.putfield 19, 3) := by decide +kernel
theorem dX1_readInto_5 : decode cX1_readInto 5 = .ok (.aload_n 0, 1) := by decide +kernel
theorem dX1_readInto_6 : decode cX1_readInto 6 = .ok (.iconst 0, 1) := by decide +kernel
theorem dX1_readInto_7 : decode cX1_readInto 7 = .ok (.putfield 22, 3) := by decide +kernel
theorem dX1_readInto_10 : decode cX1_readInto 10 = .ok (.aload_n 0, 1) := by decide +kernel
theorem dX1_readInto_11 : decode cX1_readInto 11 = .ok (.invokevirtual 25, 3) := by decide +kernel
theorem dX1_readInto_14 : decode cX1_readInto 14 = .ok (.iconst 0, 1) := by decide +kernel
theorem dX1_readInto_15 : decode cX1_readInto 15 = .ok (.istore_n 2, 1) := by decide +kernel
theorem dX1_readInto_16 : decode cX1_readInto 16 = .ok (.iload_n 2, 1) := by decide +kernel
theorem dX1_readInto_17 : decode cX1_readInto 17 = .ok (.sipush 240, 3) := by decide +kernel
theorem dX1_readInto_20 : decode cX1_readInto 20 = .ok (.if_icmp .ge 28, 3) := by decide +kernel
theorem dX1_readInto_23 : decode cX1_readInto 23 = .ok (.aload_n 0, 1) := by decide +kernel
theorem dX1_readInto_24 : decode cX1_readInto 24 = .ok (.getfield 28, 3) := by decide +kernel
theorem dX1_readInto_27 : decode cX1_readInto 27 = .ok (.ifCond .eq 21, 3) := by decide +kernel
theorem dX1_readInto_30 : decode cX1_readInto 30 = .ok (.aload_n 0, 1) := by decide +kernel
theorem dX1_readInto_31 : decode cX1_readInto 31 = .ok (.getfield 19, 3) := by decide +kernel
theorem dX1_readInto_34 : decode cX1_readInto 34 = .ok (.ifCond .ge 14, 3) := by decide +kernel
theorem dX1_readInto_37 : decode cX1_readInto 37 = .ok (.aload_n 0, 1) := by decide +kernel
theorem dX1_readInto_38 : decode cX1_readInto 38 = .ok (.aload_n 1, 1) := by decide +kernel
theorem dX1_readInto_39 : decode cX1_readInto 39 = .ok (.invokevirtual 31, 3) := by decide +kernel
theorem dX1_readInto_42 : decode cX1_readInto 42 = .ok (.iinc 2 1, 3) := by decide +kernel
theorem dX1_readInto_45 : decode cX1_readInto 45 = .ok (.goto (-29), 3) := by decide +kernel
theorem dX1_readInto_48 : decode cX1_readInto 48 = .ok (.aload_n 0, 1) := by decide +kernel
theorem dX1_readInto_49 : decode cX1_readInto 49 = .ok (.getfield 19, 3) := by decide +kernel
theorem dX1_readInto_52 : decode cX1_readInto 52 = .ok (.ireturn, 1) := by decide +kernel
theorem dX1_readThing_0 : decode cX1_readThing 0 = .ok (.aload_n 0, 1) := by decide +kernel
theorem dX1_readThing_1 : decode cX1_readThing 1 = .ok (.invokevirtual 35, 3) := by decide +kernel
theorem dX1_readThing_4 : decode cX1_readThing 4 = .ok (.istore_n 2, 1) := by decide +kernel
theorem dX1_readThing_5 : decode cX1_readThing 5 = .ok (.iload_n 2, 1) := by decide +kernel
theorem dX1_readThing_6 : decode cX1_readThing 6 = .ok (.ifCond .lt 12, 3) := by decide +kernel
theorem dX1_readThing_9 : decode cX1_readThing 9 = .ok (.aload_n 0, 1) := by decide +kernel
theorem dX1_readThing_10 : decode cX1_readThing 10 = .ok (.aload_n 1, 1) := by decide +kernel
theorem dX1_readThing_11 : decode cX1_readThing 11 = .ok (.iload_n 2, 1) := by decide +kernel
theorem dX1_readThing_12 : decode cX1_readThing 12 = .ok (.invokevirtual 39, 3) := by decide +kernel
theorem dX1_readThing_15 : decode cX1_readThing 15 = .ok (.goto 71, 3) := by decide +kernel
theorem dX1_readThing_18 : decode cX1_readThing 18 = .ok (.aload_n 0, 1) := by decide +kernel
theorem dX1_readThing_19 : decode cX1_readThing 19 = .ok (.ldc 43, 2) := by decide +kernel
theorem dX1_readThing_21 : decode cX1_readThing 21 = .ok (.invokevirtual 45, 3) := by decide +kernel
theorem dX1_readThing_24 : decode cX1_readThing 24 = .ok (.ifCond .eq 11, 3) := by decide +kernel
theorem dX1_readThing_27 : decode cX1_readThing 27 = .ok (.aload_n 0, 1) := by decide +kernel
theorem dX1_readThing_28 : decode cX1_readThing 28 = .ok (.aload_n 1, 1) := by decide +kernel
theorem dX1_readThing_29 : decode cX1_readThing 29 = .ok (.invokevirtual 49, 3) := by decide +kernel
theorem dX1_readThing_32 : decode cX1_readThing 32 = .ok (.goto 54, 3) := by decide +kernel
theorem dX1_readThing_35 : decode cX1_readThing 35 = .ok (.aload_n 0, 1) := by decide +kernel
theorem dX1_readThing_36 : decode cX1_readThing 36 = .ok (.ldc 52, 2) := by decide +kernel
theorem dX1_readThing_38 : decode cX1_readThing 38 = .ok (.invokevirtual 45, 3) := by decide +kernel
theorem dX1_readThing_41 : decode cX1_readThing 41 = .ok (.ifCond .eq 11, 3) := by decide +kernel
theorem dX1_readThing_44 : decode cX1_readThing 44 = .ok (.aload_n 0, 1) := by decide +kernel
theorem dX1_readThing_45 : decode cX1_readThing 45 = .ok (.aload_n 1, 1) := by decide +kernel
theorem dX1_readThing_46 : decode cX1_readThing 46 = .ok (.invokevirtual 54, 3) := by decide +kernel
theorem dX1_readThing_49 : decode cX1_readThing 49 = .ok (.goto 37, 3) := by decide +kernel
theorem dX1_readThing_52 : decode cX1_readThing 52 = .ok (.aload_n 0, 1) := by decide +kernel
theorem dX1_readThing_53 : decode cX1_readThing 53 = .ok (.ldc 57, 2) := by decide +kernel
theorem dX1_readThing_55 : decode cX1_readThing 55 = .ok (.invokevirtual 45, 3) := by decide +kernel
theorem dX1_readThing_58 : decode cX1_readThing 58 = .ok (.ifCond .eq 20, 3) := by decide +kernel
theorem dX1_readThing_61 : decode cX1_readThing 61 = .ok (.aload_n 0, 1) := by decide +kernel
theorem dX1_readThing_62 : decode cX1_readThing 62 = .ok (.invokevirtual 25, 3) := by decide +kernel
theorem dX1_readThing_65 : decode cX1_readThing 65 = .ok (.aload_n 1, 1) := by decide +kernel
theorem dX1_readThing_66 : decode cX1_readThing 66 = .ok (.aload_n 0, 1) := by decide +kernel
theorem dX1_readThing_67 : decode cX1_readThing 67 = .ok (.bipush 20, 2) := by decide +kernel
theorem dX1_readThing_69 : decode cX1_readThing 69 = .ok (.invokevirtual 59, 3) := by decide +kernel
theorem dX1_readThing_72 : decode cX1_readThing 72 = .ok (.putfield 63, 3) := by decide +kernel
theorem dX1_readThing_75 : decode cX1_readThing 75 = .ok (.goto 11, 3) := by decide +kernel
theorem dX1_readThing_78 : decode cX1_readThing 78 = .ok (.aload_n 0, 1) := by decide +kernel
theorem dX1_readThing_79 : decode cX1_readThing 79 = .ok (.aload_n 0, 1) := by decide +kernel
theorem dX1_readThing_80 : decode cX1_readThing 80 = .ok (.getfield 68, 3) := by decide +kernel
theorem dX1_readThing_83 : decode cX1_readThing 83 = .ok (.putfield 19, 3) := by decide +kernel
theorem dX1_readThing_86 : decode cX1_readThing 86 = .ok (.aload_n 0, 1) := by decide +kernel
theorem dX1_readThing_87 : decode cX1_readThing 87 = .ok (.invokevirtual 71, 3) := by decide +kernel
theorem dX1_readThing_90 : decode cX1_readThing 90 = .ok (.return_, 1) := by decide +kernel
theorem dX1_kindNamed_0 : decode cX1_kindNamed 0 = .ok (.aload_n 0, 1) := by decide +kernel
theorem dX1_kindNamed_1 : decode cX1_kindNamed 1 = .ok (.ldc 74, 2) := by decide +kernel
theorem dX1_kindNamed_3 : decode cX1_kindNamed 3 = .ok (.invokevirtual 45, 3) := by decide +kernel
theorem dX1_kindNamed_6 : decode cX1_kindNamed 6 = .ok (.ifCond .eq 5, 3) := by decide +kernel
theorem dX1_kindNamed_9 : decode cX1_kindNamed 9 = .ok (.iconst 0, 1) := by decide +kernel
theorem dX1_kindNamed_10 : decode cX1_kindNamed 10 = .ok (.ireturn, 1) := by decide +kernel
theorem dX1_kindNamed_11 : decode cX1_kindNamed 11 = .ok (.aload_n 0, 1) := by decide +kernel
theorem dX1_kindNamed_12 : decode cX1_kindNamed 12 = .ok (.ldc 76, 2) := by decide +kernel
theorem dX1_kindNamed_14 : decode cX1_kindNamed 14 = .ok (.invokevirtual 45, 3) := by decide +kernel
theorem dX1_kindNamed_17 : decode cX1_kindNamed 17 = .ok (.ifCond .eq 5, 3) := by decide +kernel
theorem dX1_kindNamed_20 : decode cX1_kindNamed 20 = .ok (.iconst 1, 1) := by decide +kernel
theorem dX1_kindNamed_21 : decode cX1_kindNamed 21 = .ok (.ireturn, 1) := by decide +kernel
theorem dX1_kindNamed_22 : decode cX1_kindNamed 22 = .ok (.aload_n 0, 1) := by decide +kernel
theorem dX1_kindNamed_23 : decode cX1_kindNamed 23 = .ok (.ldc 78, 2) := by decide +kernel
theorem dX1_kindNamed_25 : decode cX1_kindNamed 25 = .ok (.invokevirtual 45, 3) := by decide +kernel
theorem dX1_kindNamed_28 : decode cX1_kindNamed 28 = .ok (.ifCond .eq 5, 3) := by decide +kernel
theorem dX1_kindNamed_31 : decode cX1_kindNamed 31 = .ok (.iconst 2, 1) := by decide +kernel
theorem dX1_kindNamed_32 : decode cX1_kindNamed 32 = .ok (.ireturn, 1) := by decide +kernel
theorem dX1_kindNamed_33 : decode cX1_kindNamed 33 = .ok (.aload_n 0, 1) := by decide +kernel
theorem dX1_kindNamed_34 : decode cX1_kindNamed 34 = .ok (.ldc 80, 2) := by decide +kernel
theorem dX1_kindNamed_36 : decode cX1_kindNamed 36 = .ok (.invokevirtual 45, 3) := by decide +kernel
theorem dX1_kindNamed_39 : decode cX1_kindNamed 39 = .ok (.ifCond .eq 5, 3) := by decide +kernel
theorem dX1_kindNamed_42 : decode cX1_kindNamed 42 = .ok (.iconst 3, 1) := by decide +kernel
theorem dX1_kindNamed_43 : decode cX1_kindNamed 43 = .ok (.ireturn, 1) := by decide +kernel
theorem dX1_kindNamed_44 : decode cX1_kindNamed 44 = .ok (.aload_n 0, 1) := by decide +kernel
theorem dX1_kindNamed_45 : decode cX1_kindNamed 45 = .ok (.ldc 82, 2) := by decide +kernel
theorem dX1_kindNamed_47 : decode cX1_kindNamed 47 = .ok (.invokevirtual 45, 3) := by decide +kernel
theorem dX1_kindNamed_50 : decode cX1_kindNamed 50 = .ok (.ifCond .eq 5, 3) := by decide +kernel
theorem dX1_kindNamed_53 : decode cX1_kindNamed 53 = .ok (.iconst 4, 1) := by decide +kernel
theorem dX1_kindNamed_54 : decode cX1_kindNamed 54 = .ok (.ireturn, 1) := by decide +kernel
theorem dX1_kindNamed_55 : decode cX1_kindNamed 55 = .ok (.aload_n 0, 1) := by decide +kernel
theorem dX1_kindNamed_56 : decode cX1_kindNamed 56 = .ok (.ldc 84, 2) := by decide +kernel
theorem dX1_kindNamed_58 : decode cX1_kindNamed 58 = .ok (.invokevirtual 45, 3) := by decide +kernel
theorem dX1_kindNamed_61 : decode cX1_kindNamed 61 = .ok (.ifCond .eq 7, 3) := by decide +kernel
theorem dX1_kindNamed_64 : decode cX1_kindNamed 64 = .ok (.iconst 5, 1) := by decide +kernel
theorem dX1_kindNamed_65 : decode cX1_kindNamed 65 = .ok (.goto 4, 3) := by decide +kernel
theorem dX1_kindNamed_68 : decode cX1_kindNamed 68 = .ok (.iconst (-1), 1) := by decide +kernel
theorem dX1_kindNamed_69 : decode cX1_kindNamed 69 = .ok (.ireturn, 1) := by decide +kernel
theorem dX1_readSayer_0 : decode cX1_readSayer 0 = .ok (.aload_n 1, 1) := by decide +kernel
theorem dX1_readSayer_1 : decode cX1_readSayer 1 = .ok (.getfield 86, 3) := by decide +kernel
theorem dX1_readSayer_4 : decode cX1_readSayer 4 = .ok (.iconst 5, 1) := by decide +kernel
theorem dX1_readSayer_5 : decode cX1_readSayer 5 = .ok (.if_icmp .lt 12, 3) := by decide +kernel
theorem dX1_readSayer_8 : decode cX1_readSayer 8 = .ok (.aload_n 0, 1) := by decide +kernel
theorem dX1_readSayer_9 : decode cX1_readSayer 9 = .ok (.aload_n 0, 1) := by decide +kernel
theorem dX1_readSayer_10 : decode cX1_readSayer 10 = .ok (.getfield 68, 3) := by decide +kernel
theorem dX1_readSayer_13 : decode cX1_readSayer 13 = .ok (.putfield 19, 3) := by decide +kernel
theorem dX1_readSayer_16 : decode cX1_readSayer 16 = .ok (.return_, 1) := by decide +kernel
theorem dX1_readSayer_17 : decode cX1_readSayer 17 = .ok (.aload_n 0, 1) := by decide +kernel
theorem dX1_readSayer_18 : decode cX1_readSayer 18 = .ok (.invokevirtual 25, 3) := by decide +kernel
theorem dX1_readSayer_21 : decode cX1_readSayer 21 = .ok (.aload_n 0, 1) := by decide +kernel
theorem dX1_readSayer_22 : decode cX1_readSayer 22 = .ok (.bipush 9, 2) := by decide +kernel
theorem dX1_readSayer_24 : decode cX1_readSayer 24 = .ok (.invokevirtual 59, 3) := by decide +kernel
theorem dX1_readSayer_27 : decode cX1_readSayer 27 = .ok (.istore_n 3, 1) := by decide +kernel
theorem dX1_readSayer_28 : decode cX1_readSayer 28 = .ok (.aload_n 0, 1) := by decide +kernel
theorem dX1_readSayer_29 : decode cX1_readSayer 29 = .ok (.getfield 19, 3) := by decide +kernel
theorem dX1_readSayer_32 : decode cX1_readSayer 32 = .ok (.ifCond .ge 17, 3) := by decide +kernel
theorem dX1_readSayer_35 : decode cX1_readSayer 35 = .ok (.aload_n 1, 1) := by decide +kernel
theorem dX1_readSayer_36 : decode cX1_readSayer 36 = .ok (.iload_n 2, 1) := by decide +kernel
theorem dX1_readSayer_37 : decode cX1_readSayer 37 = .ok (.aload_n 1, 1) := by decide +kernel
theorem dX1_readSayer_38 : decode cX1_readSayer 38 = .ok (.getfield 86, 3) := by decide +kernel
theorem dX1_readSayer_41 : decode cX1_readSayer 41 = .ok (.iload_n 3, 1) := by decide +kernel
theorem dX1_readSayer_42 : decode cX1_readSayer 42 = .ok (.invokestatic 89, 3) := by decide +kernel
theorem dX1_readSayer_45 : decode cX1_readSayer 45 = .ok (.invokevirtual 93, 3) := by decide +kernel
theorem dX1_readSayer_48 : decode cX1_readSayer 48 = .ok (.pop, 1) := by decide +kernel
theorem dX1_readSayer_49 : decode cX1_readSayer 49 = .ok (.return_, 1) := by decide +kernel
theorem dX1_readSaying_0 : decode cX1_readSaying 0 = .ok (.aload_n 1, 1) := by decide +kernel
theorem dX1_readSaying_1 : decode cX1_readSaying 1 = .ok (.invokevirtual 97, 3) := by decide +kernel
theorem dX1_readSaying_4 : decode cX1_readSaying 4 = .ok (.ifCond .ne 12, 3) := by decide +kernel
theorem dX1_readSaying_7 : decode cX1_readSaying 7 = .ok (.aload_n 0, 1) := by decide +kernel
theorem dX1_readSaying_8 : decode cX1_readSaying 8 = .ok (.aload_n 0, 1) := by decide +kernel
theorem dX1_readSaying_9 : decode cX1_readSaying 9 = .ok (.getfield 68, 3) := by decide +kernel
theorem dX1_readSaying_12 : decode cX1_readSaying 12 = .ok (.putfield 19, 3) := by decide +kernel
theorem dX1_readSaying_15 : decode cX1_readSaying 15 = .ok (.return_, 1) := by decide +kernel
theorem dX1_readSaying_16 : decode cX1_readSaying 16 = .ok (.aload_n 0, 1) := by decide +kernel
theorem dX1_readSaying_17 : decode cX1_readSaying 17 = .ok (.invokevirtual 25, 3) := by decide +kernel
theorem dX1_readSaying_20 : decode cX1_readSaying 20 = .ok (.aload_n 0, 1) := by decide +kernel
theorem dX1_readSaying_21 : decode cX1_readSaying 21 = .ok (.aload_n 1, 1) := by decide +kernel
theorem dX1_readSaying_22 : decode cX1_readSaying 22 = .ok (.getfield 86, 3) := by decide +kernel
theorem dX1_readSaying_25 : decode cX1_readSaying 25 = .ok (.iconst 1, 1) := by decide +kernel
theorem dX1_readSaying_26 : decode cX1_readSaying 26 = .ok (.isub, 1) := by decide +kernel
theorem dX1_readSaying_27 : decode cX1_readSaying 27 = .ok (.invokevirtual 59, 3) := by decide +kernel
theorem dX1_readSaying_30 : decode cX1_readSaying 30 = .ok (.istore_n 2, 1) := by decide +kernel
theorem dX1_readSaying_31 : decode cX1_readSaying 31 = .ok (.aload_n 0, 1) := by decide +kernel
theorem dX1_readSaying_32 : decode cX1_readSaying 32 = .ok (.bipush 19, 2) := by decide +kernel
theorem dX1_readSaying_34 : decode cX1_readSaying 34 = .ok (.invokevirtual 59, 3) := by decide +kernel
theorem dX1_readSaying_37 : decode cX1_readSaying 37 = .ok (.istore_n 3, 1) := by decide +kernel
theorem dX1_readSaying_38 : decode cX1_readSaying 38 = .ok (.aload_n 0, 1) := by decide +kernel
theorem dX1_readSaying_39 : decode cX1_readSaying 39 = .ok (.getfield 68, 3) := by decide +kernel
theorem dX1_readSaying_42 : decode cX1_readSaying 42 = .ok (.istore 4, 2) := by decide +kernel
theorem dX1_readSaying_44 : decode cX1_readSaying 44 = .ok (.aload_n 0, 1) := by decide +kernel
theorem dX1_readSaying_45 : decode cX1_readSaying 45 = .ok (.iconst 3, 1) := by decide +kernel
theorem dX1_readSaying_46 : decode cX1_readSaying 46 = .ok (.invokevirtual 59, 3) := by decide +kernel
theorem dX1_readSaying_49 : decode cX1_readSaying 49 = .ok (.istore 5, 2) := by decide +kernel
theorem dX1_readSaying_51 : decode cX1_readSaying 51 = .ok (.aload_n 0, 1) := by decide +kernel
theorem dX1_readSaying_52 : decode cX1_readSaying 52 = .ok (.getfield 19, 3) := by decide +kernel
theorem dX1_readSaying_55 : decode cX1_readSaying 55 = .ok (.ifCond .lt 4, 3) := by decide +kernel
theorem dX1_readSaying_58 : decode cX1_readSaying 58 = .ok (.return_, 1) := by decide +kernel
theorem dX1_readSaying_59 : decode cX1_readSaying 59 = .ok (.aload_n 1, 1) := by decide +kernel
theorem dX1_readSaying_60 : decode cX1_readSaying 60 = .ok (.iload_n 3, 1) := by decide +kernel
theorem dX1_readSaying_61 : decode cX1_readSaying 61 = .ok (.iload 5, 2) := by decide +kernel
theorem dX1_readSaying_63 : decode cX1_readSaying 63 = .ok (.invokevirtual 100, 3) := by decide +kernel
theorem dX1_readSaying_66 : decode cX1_readSaying 66 = .ok (.ifCond .eq 10, 3) := by decide +kernel
theorem dX1_readSaying_69 : decode cX1_readSaying 69 = .ok (.aload_n 0, 1) := by decide +kernel
theorem dX1_readSaying_70 : decode cX1_readSaying 70 = .ok (.iload 4, 2) := by decide +kernel
theorem dX1_readSaying_72 : decode cX1_readSaying 72 = .ok (.putfield 19, 3) := by decide +kernel
theorem dX1_readSaying_75 : decode cX1_readSaying 75 = .ok (.return_, 1) := by decide +kernel
theorem dX1_readSaying_76 : decode cX1_readSaying 76 = .ok (.aload_n 1, 1) := by decide +kernel
theorem dX1_readSaying_77 : decode cX1_readSaying 77 = .ok (.iload_n 2, 1) := by decide +kernel
theorem dX1_readSaying_78 : decode cX1_readSaying 78 = .ok (.iload_n 3, 1) := by decide +kernel
theorem dX1_readSaying_79 : decode cX1_readSaying 79 = .ok (.iload 5, 2) := by decide +kernel
theorem dX1_readSaying_81 : decode cX1_readSaying 81 = .ok (.invokevirtual 104, 3) := by decide +kernel
theorem dX1_readSaying_84 : decode cX1_readSaying 84 = .ok (.pop, 1) := by decide +kernel
theorem dX1_readSaying_85 : decode cX1_readSaying 85 = .ok (.return_, 1) := by decide +kernel
theorem dX1_readDay_0 : decode cX1_readDay 0 = .ok (.aload_n 0, 1) := by decide +kernel
theorem dX1_readDay_1 : decode cX1_readDay 1 = .ok (.invokevirtual 25, 3) := by decide +kernel
theorem dX1_readDay_4 : decode cX1_readDay 4 = .ok (.aload_n 0, 1) := by decide +kernel
theorem dX1_readDay_5 : decode cX1_readDay 5 = .ok (.bipush 19, 2) := by decide +kernel
theorem dX1_readDay_7 : decode cX1_readDay 7 = .ok (.invokevirtual 59, 3) := by decide +kernel
theorem dX1_readDay_10 : decode cX1_readDay 10 = .ok (.istore_n 2, 1) := by decide +kernel
theorem dX1_readDay_11 : decode cX1_readDay 11 = .ok (.aload_n 0, 1) := by decide +kernel
theorem dX1_readDay_12 : decode cX1_readDay 12 = .ok (.invokevirtual 108, 3) := by decide +kernel
theorem dX1_readDay_15 : decode cX1_readDay 15 = .ok (.aload_n 0, 1) := by decide +kernel
theorem dX1_readDay_16 : decode cX1_readDay 16 = .ok (.bipush 99, 2) := by decide +kernel
theorem dX1_readDay_18 : decode cX1_readDay 18 = .ok (.invokevirtual 59, 3) := by decide +kernel
theorem dX1_readDay_21 : decode cX1_readDay 21 = .ok (.istore_n 3, 1) := by decide +kernel
theorem dX1_readDay_22 : decode cX1_readDay 22 = .ok (.aload_n 0, 1) := by decide +kernel
theorem dX1_readDay_23 : decode cX1_readDay 23 = .ok (.getfield 19, 3) := by decide +kernel
theorem dX1_readDay_26 : decode cX1_readDay 26 = .ok (.ifCond .lt 4, 3) := by decide +kernel
theorem dX1_readDay_29 : decode cX1_readDay 29 = .ok (.return_, 1) := by decide +kernel
theorem dX1_readDay_30 : decode cX1_readDay 30 = .ok (.aload_n 1, 1) := by decide +kernel
theorem dX1_readDay_31 : decode cX1_readDay 31 = .ok (.iload_n 2, 1) := by decide +kernel
theorem dX1_readDay_32 : decode cX1_readDay 32 = .ok (.invokevirtual 111, 3) := by decide +kernel
theorem dX1_readDay_35 : decode cX1_readDay 35 = .ok (.aload_n 1, 1) := by decide +kernel
theorem dX1_readDay_36 : decode cX1_readDay 36 = .ok (.getfield 115, 3) := by decide +kernel
theorem dX1_readDay_39 : decode cX1_readDay 39 = .ok (.iload_n 2, 1) := by decide +kernel
theorem dX1_readDay_40 : decode cX1_readDay 40 = .ok (.iload_n 3, 1) := by decide +kernel
theorem dX1_readDay_41 : decode cX1_readDay 41 = .ok (.iastore, 1) := by decide +kernel
theorem dX1_readDay_42 : decode cX1_readDay 42 = .ok (.aload_n 0, 1) := by decide +kernel
theorem dX1_readDay_43 : decode cX1_readDay 43 = .ok (.ldc 119, 2) := by decide +kernel
theorem dX1_readDay_45 : decode cX1_readDay 45 = .ok (.invokevirtual 45, 3) := by decide +kernel
theorem dX1_readDay_48 : decode cX1_readDay 48 = .ok (.ifCond .eq 13, 3) := by decide +kernel
theorem dX1_readDay_51 : decode cX1_readDay 51 = .ok (.aload_n 0, 1) := by decide +kernel
theorem dX1_readDay_52 : decode cX1_readDay 52 = .ok (.invokevirtual 25, 3) := by decide +kernel
theorem dX1_readDay_55 : decode cX1_readDay 55 = .ok (.aload_n 0, 1) := by decide +kernel
theorem dX1_readDay_56 : decode cX1_readDay 56 = .ok (.aload_n 1, 1) := by decide +kernel
theorem dX1_readDay_57 : decode cX1_readDay 57 = .ok (.iload_n 2, 1) := by decide +kernel
theorem dX1_readDay_58 : decode cX1_readDay 58 = .ok (.invokevirtual 121, 3) := by decide +kernel
theorem dX1_readDay_61 : decode cX1_readDay 61 = .ok (.aload_n 0, 1) := by decide +kernel
theorem dX1_readDay_62 : decode cX1_readDay 62 = .ok (.getfield 19, 3) := by decide +kernel
theorem dX1_readDay_65 : decode cX1_readDay 65 = .ok (.ifCond .ge 27, 3) := by decide +kernel
theorem dX1_readDay_68 : decode cX1_readDay 68 = .ok (.aload_n 0, 1) := by decide +kernel
theorem dX1_readDay_69 : decode cX1_readDay 69 = .ok (.ldc 124, 2) := by decide +kernel
theorem dX1_readDay_71 : decode cX1_readDay 71 = .ok (.invokevirtual 45, 3) := by decide +kernel
theorem dX1_readDay_74 : decode cX1_readDay 74 = .ok (.ifCond .eq 18, 3) := by decide +kernel
theorem dX1_readDay_77 : decode cX1_readDay 77 = .ok (.aload_n 0, 1) := by decide +kernel
theorem dX1_readDay_78 : decode cX1_readDay 78 = .ok (.invokevirtual 25, 3) := by decide +kernel
theorem dX1_readDay_81 : decode cX1_readDay 81 = .ok (.aload_n 1, 1) := by decide +kernel
theorem dX1_readDay_82 : decode cX1_readDay 82 = .ok (.getfield 126, 3) := by decide +kernel
theorem dX1_readDay_85 : decode cX1_readDay 85 = .ok (.iload_n 2, 1) := by decide +kernel
theorem dX1_readDay_86 : decode cX1_readDay 86 = .ok (.aload_n 0, 1) := by decide +kernel
theorem dX1_readDay_87 : decode cX1_readDay 87 = .ok (.iconst 3, 1) := by decide +kernel
theorem dX1_readDay_88 : decode cX1_readDay 88 = .ok (.invokevirtual 59, 3) := by decide +kernel
theorem dX1_readDay_91 : decode cX1_readDay 91 = .ok (.iastore, 1) := by decide +kernel
theorem dX1_readDay_92 : decode cX1_readDay 92 = .ok (.return_, 1) := by decide +kernel
theorem dX1_readWeights_0 : decode cX1_readWeights 0 = .ok (.aload_n 0, 1) := by decide +kernel
theorem dX1_readWeights_1 : decode cX1_readWeights 1 = .ok (.getfield 68, 3) := by decide +kernel
theorem dX1_readWeights_4 : decode cX1_readWeights 4 = .ok (.istore_n 3, 1) := by decide +kernel
theorem dX1_readWeights_5 : decode cX1_readWeights 5 = .ok (.iconst 0, 1) := by decide +kernel
theorem dX1_readWeights_6 : decode cX1_readWeights 6 = .ok (.istore 4, 2) := by decide +kernel
theorem dX1_readWeights_8 : decode cX1_readWeights 8 = .ok (.iload 4, 2) := by decide +kernel
theorem dX1_readWeights_10 : decode cX1_readWeights 10 = .ok (.iconst 4, 1) := by decide +kernel
theorem dX1_readWeights_11 : decode cX1_readWeights 11 = .ok (.if_icmp .ge 31, 3) := by decide +kernel
theorem dX1_readWeights_14 : decode cX1_readWeights 14 = .ok (.aload_n 0, 1) := by decide +kernel
theorem dX1_readWeights_15 : decode cX1_readWeights 15 = .ok (.getfield 68, 3) := by decide +kernel
theorem dX1_readWeights_18 : decode cX1_readWeights 18 = .ok (.istore_n 3, 1) := by decide +kernel
theorem dX1_readWeights_19 : decode cX1_readWeights 19 = .ok (.aload_n 1, 1) := by decide +kernel
theorem dX1_readWeights_20 : decode cX1_readWeights 20 = .ok (.getfield 129, 3) := by decide +kernel
theorem dX1_readWeights_23 : decode cX1_readWeights 23 = .ok (.iload_n 2, 1) := by decide +kernel
theorem dX1_readWeights_24 : decode cX1_readWeights 24 = .ok (.iconst 4, 1) := by decide +kernel
theorem dX1_readWeights_25 : decode cX1_readWeights 25 = .ok (.imul, 1) := by decide +kernel
theorem dX1_readWeights_26 : decode cX1_readWeights 26 = .ok (.iload 4, 2) := by decide +kernel
theorem dX1_readWeights_28 : decode cX1_readWeights 28 = .ok (.iadd, 1) := by decide +kernel
theorem dX1_readWeights_29 : decode cX1_readWeights 29 = .ok (.aload_n 0, 1) := by decide +kernel
theorem dX1_readWeights_30 : decode cX1_readWeights 30 = .ok (.bipush 9, 2) := by decide +kernel
theorem dX1_readWeights_32 : decode cX1_readWeights 32 = .ok (.invokevirtual 59, 3) := by decide +kernel
theorem dX1_readWeights_35 : decode cX1_readWeights 35 = .ok (.iastore, 1) := by decide +kernel
theorem dX1_readWeights_36 : decode cX1_readWeights 36 = .ok (.iinc 4 1, 3) := by decide +kernel
theorem dX1_readWeights_39 : decode cX1_readWeights 39 = .ok (.goto (-31), 3) := by decide +kernel
theorem dX1_readWeights_42 : decode cX1_readWeights 42 = .ok (.aload_n 0, 1) := by decide +kernel
theorem dX1_readWeights_43 : decode cX1_readWeights 43 = .ok (.getfield 19, 3) := by decide +kernel
theorem dX1_readWeights_46 : decode cX1_readWeights 46 = .ok (.ifCond .ge 17, 3) := by decide +kernel
theorem dX1_readWeights_49 : decode cX1_readWeights 49 = .ok (.aload_n 1, 1) := by decide +kernel
theorem dX1_readWeights_50 : decode cX1_readWeights 50 = .ok (.iload_n 2, 1) := by decide +kernel
theorem dX1_readWeights_51 : decode cX1_readWeights 51 = .ok (.iconst (-1), 1) := by decide +kernel
theorem dX1_readWeights_52 : decode cX1_readWeights 52 = .ok (.invokevirtual 132, 3) := by decide +kernel
theorem dX1_readWeights_55 : decode cX1_readWeights 55 = .ok (.ifCond .ne 8, 3) := by decide +kernel
theorem dX1_readWeights_58 : decode cX1_readWeights 58 = .ok (.aload_n 0, 1) := by decide +kernel
theorem dX1_readWeights_59 : decode cX1_readWeights 59 = .ok (.iload_n 3, 1) := by decide +kernel
theorem dX1_readWeights_60 : decode cX1_readWeights 60 = .ok (.putfield 19, 3) := by decide +kernel
theorem dX1_readWeights_63 : decode cX1_readWeights 63 = .ok (.return_, 1) := by decide +kernel
theorem dX1_takeWorthName_0 : decode cX1_takeWorthName 0 = .ok (.aload_n 0, 1) := by decide +kernel
theorem dX1_takeWorthName_1 : decode cX1_takeWorthName 1 = .ok (.getfield 19, 3) := by decide +kernel
theorem dX1_takeWorthName_4 : decode cX1_takeWorthName 4 = .ok (.ifCond .lt 4, 3) := by decide +kernel
theorem dX1_takeWorthName_7 : decode cX1_takeWorthName 7 = .ok (.return_, 1) := by decide +kernel
theorem dX1_takeWorthName_8 : decode cX1_takeWorthName 8 = .ok (.aload_n 0, 1) := by decide +kernel
theorem dX1_takeWorthName_9 : decode cX1_takeWorthName 9 = .ok (.ldc 136, 2) := by decide +kernel
theorem dX1_takeWorthName_11 : decode cX1_takeWorthName 11 = .ok (.invokevirtual 45, 3) := by decide +kernel
theorem dX1_takeWorthName_14 : decode cX1_takeWorthName 14 = .ok (.ifCond .ne 12, 3) := by decide +kernel
theorem dX1_takeWorthName_17 : decode cX1_takeWorthName 17 = .ok (.aload_n 0, 1) := by decide +kernel
theorem dX1_takeWorthName_18 : decode cX1_takeWorthName 18 = .ok (.aload_n 0, 1) := by decide +kernel
theorem dX1_takeWorthName_19 : decode cX1_takeWorthName 19 = .ok (.getfield 68, 3) := by decide +kernel
theorem dX1_takeWorthName_22 : decode cX1_takeWorthName 22 = .ok (.putfield 19, 3) := by decide +kernel
theorem dX1_takeWorthName_25 : decode cX1_takeWorthName 25 = .ok (.return_, 1) := by decide +kernel
theorem dX1_takeWorthName_26 : decode cX1_takeWorthName 26 = .ok (.aload_n 0, 1) := by decide +kernel
theorem dX1_takeWorthName_27 : decode cX1_takeWorthName 27 = .ok (.invokevirtual 25, 3) := by decide +kernel
theorem dX1_takeWorthName_30 : decode cX1_takeWorthName 30 = .ok (.return_, 1) := by decide +kernel
theorem dX1_takeSemicolon_0 : decode cX1_takeSemicolon 0 = .ok (.aload_n 0, 1) := by decide +kernel
theorem dX1_takeSemicolon_1 : decode cX1_takeSemicolon 1 = .ok (.getfield 19, 3) := by decide +kernel
theorem dX1_takeSemicolon_4 : decode cX1_takeSemicolon 4 = .ok (.ifCond .lt 4, 3) := by decide +kernel
theorem dX1_takeSemicolon_7 : decode cX1_takeSemicolon 7 = .ok (.return_, 1) := by decide +kernel
theorem dX1_takeSemicolon_8 : decode cX1_takeSemicolon 8 = .ok (.aload_n 0, 1) := by decide +kernel
theorem dX1_takeSemicolon_9 : decode cX1_takeSemicolon 9 = .ok (.getfield 28, 3) := by decide +kernel
theorem dX1_takeSemicolon_12 : decode cX1_takeSemicolon 12 = .ok (.iconst 3, 1) := by decide +kernel
theorem dX1_takeSemicolon_13 : decode cX1_takeSemicolon 13 = .ok (.if_icmp .ne 17, 3) := by decide +kernel
theorem dX1_takeSemicolon_16 : decode cX1_takeSemicolon 16 = .ok (.aload_n 0, 1) := by decide +kernel
theorem dX1_takeSemicolon_17 : decode cX1_takeSemicolon 17 = .ok (.getfield 9, 3) := by decide +kernel
theorem dX1_takeSemicolon_20 : decode cX1_takeSemicolon 20 = .ok (.aload_n 0, 1) := by decide +kernel
theorem dX1_takeSemicolon_21 : decode cX1_takeSemicolon 21 = .ok (.getfield 68, 3) := by decide +kernel
theorem dX1_takeSemicolon_24 : decode cX1_takeSemicolon 24 = .ok (.baload, 1) := by decide +kernel
theorem dX1_takeSemicolon_25 : decode cX1_takeSemicolon 25 = .ok (.bipush 59, 2) := by decide +kernel
theorem dX1_takeSemicolon_27 : decode cX1_takeSemicolon 27 = .ok (.if_icmp .eq 12, 3) := by decide +kernel
theorem dX1_takeSemicolon_30 : decode cX1_takeSemicolon 30 = .ok (.aload_n 0, 1) := by decide +kernel
theorem dX1_takeSemicolon_31 : decode cX1_takeSemicolon 31 = .ok (.aload_n 0, 1) := by decide +kernel
theorem dX1_takeSemicolon_32 : decode cX1_takeSemicolon 32 = .ok (.getfield 68, 3) := by decide +kernel
theorem dX1_takeSemicolon_35 : decode cX1_takeSemicolon 35 = .ok (.putfield 19, 3) := by decide +kernel
theorem dX1_takeSemicolon_38 : decode cX1_takeSemicolon 38 = .ok (.return_, 1) := by decide +kernel
theorem dX1_takeSemicolon_39 : decode cX1_takeSemicolon 39 = .ok (.aload_n 0, 1) := by decide +kernel
theorem dX1_takeSemicolon_40 : decode cX1_takeSemicolon 40 = .ok (.invokevirtual 25, 3) := by decide +kernel
theorem dX1_takeSemicolon_43 : decode cX1_takeSemicolon 43 = .ok (.return_, 1) := by decide +kernel
theorem dX1_takeNumber_0 : decode cX1_takeNumber 0 = .ok (.aload_n 0, 1) := by decide +kernel
theorem dX1_takeNumber_1 : decode cX1_takeNumber 1 = .ok (.getfield 19, 3) := by decide +kernel
theorem dX1_takeNumber_4 : decode cX1_takeNumber 4 = .ok (.ifCond .lt 5, 3) := by decide +kernel
theorem dX1_takeNumber_7 : decode cX1_takeNumber 7 = .ok (.iconst 0, 1) := by decide +kernel
theorem dX1_takeNumber_8 : decode cX1_takeNumber 8 = .ok (.ireturn, 1) := by decide +kernel
theorem dX1_takeNumber_9 : decode cX1_takeNumber 9 = .ok (.aload_n 0, 1) := by decide +kernel
theorem dX1_takeNumber_10 : decode cX1_takeNumber 10 = .ok (.getfield 28, 3) := by decide +kernel
theorem dX1_takeNumber_13 : decode cX1_takeNumber 13 = .ok (.iconst 2, 1) := by decide +kernel
theorem dX1_takeNumber_14 : decode cX1_takeNumber 14 = .ok (.if_icmp .ne 10, 3) := by decide +kernel
theorem dX1_takeNumber_17 : decode cX1_takeNumber 17 = .ok (.aload_n 0, 1) := by decide +kernel
theorem dX1_takeNumber_18 : decode cX1_takeNumber 18 = .ok (.invokevirtual 138, 3) := by decide +kernel
theorem dX1_takeNumber_21 : decode cX1_takeNumber 21 = .ok (.goto 4, 3) := by decide +kernel
theorem dX1_takeNumber_24 : decode cX1_takeNumber 24 = .ok (.iconst (-1), 1) := by decide +kernel
theorem dX1_takeNumber_25 : decode cX1_takeNumber 25 = .ok (.istore_n 2, 1) := by decide +kernel
theorem dX1_takeNumber_26 : decode cX1_takeNumber 26 = .ok (.iload_n 2, 1) := by decide +kernel
theorem dX1_takeNumber_27 : decode cX1_takeNumber 27 = .ok (.ifCond .lt 8, 3) := by decide +kernel
theorem dX1_takeNumber_30 : decode cX1_takeNumber 30 = .ok (.iload_n 2, 1) := by decide +kernel
theorem dX1_takeNumber_31 : decode cX1_takeNumber 31 = .ok (.iload_n 1, 1) := by decide +kernel
theorem dX1_takeNumber_32 : decode cX1_takeNumber 32 = .ok (.if_icmp .le 13, 3) := by decide +kernel
theorem dX1_takeNumber_35 : decode cX1_takeNumber 35 = .ok (.aload_n 0, 1) := by decide +kernel
theorem dX1_takeNumber_36 : decode cX1_takeNumber 36 = .ok (.aload_n 0, 1) := by decide +kernel
theorem dX1_takeNumber_37 : decode cX1_takeNumber 37 = .ok (.getfield 68, 3) := by decide +kernel
theorem dX1_takeNumber_40 : decode cX1_takeNumber 40 = .ok (.putfield 19, 3) := by decide +kernel
theorem dX1_takeNumber_43 : decode cX1_takeNumber 43 = .ok (.iconst 0, 1) := by decide +kernel
theorem dX1_takeNumber_44 : decode cX1_takeNumber 44 = .ok (.ireturn, 1) := by decide +kernel
theorem dX1_takeNumber_45 : decode cX1_takeNumber 45 = .ok (.aload_n 0, 1) := by decide +kernel
theorem dX1_takeNumber_46 : decode cX1_takeNumber 46 = .ok (.invokevirtual 25, 3) := by decide +kernel
theorem dX1_takeNumber_49 : decode cX1_takeNumber 49 = .ok (.iload_n 2, 1) := by decide +kernel
theorem dX1_takeNumber_50 : decode cX1_takeNumber 50 = .ok (.ireturn, 1) := by decide +kernel
theorem dX1_valueOfNext_0 : decode cX1_valueOfNext 0 = .ok (.aload_n 0, 1) := by decide +kernel
theorem dX1_valueOfNext_1 : decode cX1_valueOfNext 1 = .ok (.getfield 22, 3) := by decide +kernel
theorem dX1_valueOfNext_4 : decode cX1_valueOfNext 4 = .ok (.aload_n 0, 1) := by decide +kernel
theorem dX1_valueOfNext_5 : decode cX1_valueOfNext 5 = .ok (.getfield 68, 3) := by decide +kernel
theorem dX1_valueOfNext_8 : decode cX1_valueOfNext 8 = .ok (.isub, 1) := by decide +kernel
theorem dX1_valueOfNext_9 : decode cX1_valueOfNext 9 = .ok (.iconst 2, 1) := by decide +kernel
theorem dX1_valueOfNext_10 : decode cX1_valueOfNext 10 = .ok (.if_icmp .le 5, 3) := by decide +kernel
theorem dX1_valueOfNext_13 : decode cX1_valueOfNext 13 = .ok (.iconst (-1), 1) := by decide +kernel
theorem dX1_valueOfNext_14 : decode cX1_valueOfNext 14 = .ok (.ireturn, 1) := by decide +kernel
theorem dX1_valueOfNext_15 : decode cX1_valueOfNext 15 = .ok (.iconst 0, 1) := by decide +kernel
theorem dX1_valueOfNext_16 : decode cX1_valueOfNext 16 = .ok (.istore_n 1, 1) := by decide +kernel
theorem dX1_valueOfNext_17 : decode cX1_valueOfNext 17 = .ok (.aload_n 0, 1) := by decide +kernel
theorem dX1_valueOfNext_18 : decode cX1_valueOfNext 18 = .ok (.getfield 68, 3) := by decide +kernel
theorem dX1_valueOfNext_21 : decode cX1_valueOfNext 21 = .ok (.istore_n 2, 1) := by decide +kernel
theorem dX1_valueOfNext_22 : decode cX1_valueOfNext 22 = .ok (.iload_n 2, 1) := by decide +kernel
theorem dX1_valueOfNext_23 : decode cX1_valueOfNext 23 = .ok (.aload_n 0, 1) := by decide +kernel
theorem dX1_valueOfNext_24 : decode cX1_valueOfNext 24 = .ok (.getfield 22, 3) := by decide +kernel
theorem dX1_valueOfNext_27 : decode cX1_valueOfNext 27 = .ok (.if_icmp .ge 24, 3) := by decide +kernel
theorem dX1_valueOfNext_30 : decode cX1_valueOfNext 30 = .ok (.iload_n 1, 1) := by decide +kernel
theorem dX1_valueOfNext_31 : decode cX1_valueOfNext 31 = .ok (.bipush 10, 2) := by decide +kernel
theorem dX1_valueOfNext_33 : decode cX1_valueOfNext 33 = .ok (.imul, 1) := by decide +kernel
theorem dX1_valueOfNext_34 : decode cX1_valueOfNext 34 = .ok (.aload_n 0, 1) := by decide +kernel
theorem dX1_valueOfNext_35 : decode cX1_valueOfNext 35 = .ok (.getfield 9, 3) := by decide +kernel
theorem dX1_valueOfNext_38 : decode cX1_valueOfNext 38 = .ok (.iload_n 2, 1) := by decide +kernel
theorem dX1_valueOfNext_39 : decode cX1_valueOfNext 39 = .ok (.baload, 1) := by decide +kernel
theorem dX1_valueOfNext_40 : decode cX1_valueOfNext 40 = .ok (.iadd, 1) := by decide +kernel
theorem dX1_valueOfNext_41 : decode cX1_valueOfNext 41 = .ok (.bipush 48, 2) := by decide +kernel
theorem dX1_valueOfNext_43 : decode cX1_valueOfNext 43 = .ok (.isub, 1) := by decide +kernel
theorem dX1_valueOfNext_44 : decode cX1_valueOfNext 44 = .ok (.istore_n 1, 1) := by decide +kernel
theorem dX1_valueOfNext_45 : decode cX1_valueOfNext 45 = .ok (.iinc 2 1, 3) := by decide +kernel
theorem dX1_valueOfNext_48 : decode cX1_valueOfNext 48 = .ok (.goto (-26), 3) := by decide +kernel
theorem dX1_valueOfNext_51 : decode cX1_valueOfNext 51 = .ok (.iload_n 1, 1) := by decide +kernel
theorem dX1_valueOfNext_52 : decode cX1_valueOfNext 52 = .ok (.ireturn, 1) := by decide +kernel
theorem dX1_isName_0 : decode cX1_isName 0 = .ok (.aload_n 0, 1) := by decide +kernel
theorem dX1_isName_1 : decode cX1_isName 1 = .ok (.getfield 28, 3) := by decide +kernel
theorem dX1_isName_4 : decode cX1_isName 4 = .ok (.iconst 1, 1) := by decide +kernel
theorem dX1_isName_5 : decode cX1_isName 5 = .ok (.if_icmp .ne 19, 3) := by decide +kernel
theorem dX1_isName_8 : decode cX1_isName 8 = .ok (.aload_n 0, 1) := by decide +kernel
theorem dX1_isName_9 : decode cX1_isName 9 = .ok (.getfield 22, 3) := by decide +kernel
theorem dX1_isName_12 : decode cX1_isName 12 = .ok (.aload_n 0, 1) := by decide +kernel
theorem dX1_isName_13 : decode cX1_isName 13 = .ok (.getfield 68, 3) := by decide +kernel
theorem dX1_isName_16 : decode cX1_isName 16 = .ok (.isub, 1) := by decide +kernel
theorem dX1_isName_17 : decode cX1_isName 17 = .ok (.aload_n 1, 1) := by decide +kernel
theorem dX1_isName_18 : decode cX1_isName 18 = .ok (.invokevirtual 141, 3) := by decide +kernel
theorem dX1_isName_21 : decode cX1_isName 21 = .ok (.if_icmp .eq 5, 3) := by decide +kernel
theorem dX1_isName_24 : decode cX1_isName 24 = .ok (.iconst 0, 1) := by decide +kernel
theorem dX1_isName_25 : decode cX1_isName 25 = .ok (.ireturn, 1) := by decide +kernel
theorem dX1_isName_26 : decode cX1_isName 26 = .ok (.aload_n 0, 1) := by decide +kernel
theorem dX1_isName_27 : decode cX1_isName 27 = .ok (.getfield 68, 3) := by decide +kernel
theorem dX1_isName_30 : decode cX1_isName 30 = .ok (.istore_n 2, 1) := by decide +kernel
theorem dX1_isName_31 : decode cX1_isName 31 = .ok (.iload_n 2, 1) := by decide +kernel
theorem dX1_isName_32 : decode cX1_isName 32 = .ok (.aload_n 0, 1) := by decide +kernel
theorem dX1_isName_33 : decode cX1_isName 33 = .ok (.getfield 22, 3) := by decide +kernel
theorem dX1_isName_36 : decode cX1_isName 36 = .ok (.if_icmp .ge 30, 3) := by decide +kernel
theorem dX1_isName_39 : decode cX1_isName 39 = .ok (.aload_n 0, 1) := by decide +kernel
theorem dX1_isName_40 : decode cX1_isName 40 = .ok (.getfield 9, 3) := by decide +kernel
theorem dX1_isName_43 : decode cX1_isName 43 = .ok (.iload_n 2, 1) := by decide +kernel
theorem dX1_isName_44 : decode cX1_isName 44 = .ok (.baload, 1) := by decide +kernel
theorem dX1_isName_45 : decode cX1_isName 45 = .ok (.aload_n 1, 1) := by decide +kernel
theorem dX1_isName_46 : decode cX1_isName 46 = .ok (.iload_n 2, 1) := by decide +kernel
theorem dX1_isName_47 : decode cX1_isName 47 = .ok (.aload_n 0, 1) := by decide +kernel
theorem dX1_isName_48 : decode cX1_isName 48 = .ok (.getfield 68, 3) := by decide +kernel
theorem dX1_isName_51 : decode cX1_isName 51 = .ok (.isub, 1) := by decide +kernel
theorem dX1_isName_52 : decode cX1_isName 52 = .ok (.invokevirtual 145, 3) := by decide +kernel
theorem dX1_isName_55 : decode cX1_isName 55 = .ok (.if_icmp .eq 5, 3) := by decide +kernel
theorem dX1_isName_58 : decode cX1_isName 58 = .ok (.iconst 0, 1) := by decide +kernel
theorem dX1_isName_59 : decode cX1_isName 59 = .ok (.ireturn, 1) := by decide +kernel
theorem dX1_isName_60 : decode cX1_isName 60 = .ok (.iinc 2 1, 3) := by decide +kernel
theorem dX1_isName_63 : decode cX1_isName 63 = .ok (.goto (-32), 3) := by decide +kernel
theorem dX1_isName_66 : decode cX1_isName 66 = .ok (.iconst 1, 1) := by decide +kernel
theorem dX1_isName_67 : decode cX1_isName 67 = .ok (.ireturn, 1) := by decide +kernel
theorem dX1_step_0 : decode cX1_step 0 = .ok (.aload_n 0, 1) := by decide +kernel
theorem dX1_step_1 : decode cX1_step 1 = .ok (.aload_n 0, 1) := by decide +kernel
theorem dX1_step_2 : decode cX1_step 2 = .ok (.getfield 22, 3) := by decide +kernel
theorem dX1_step_5 : decode cX1_step 5 = .ok (.putfield 68, 3) := by decide +kernel
theorem dX1_step_8 : decode cX1_step 8 = .ok (.aload_n 0, 1) := by decide +kernel
theorem dX1_step_9 : decode cX1_step 9 = .ok (.getfield 68, 3) := by decide +kernel
theorem dX1_step_12 : decode cX1_step 12 = .ok (.aload_n 0, 1) := by decide +kernel
theorem dX1_step_13 : decode cX1_step 13 = .ok (.getfield 15, 3) := by decide +kernel
theorem dX1_step_16 : decode cX1_step 16 = .ok (.if_icmp .ge 30, 3) := by decide +kernel
theorem dX1_step_19 : decode cX1_step 19 = .ok (.aload_n 0, 1) := by decide +kernel
theorem dX1_step_20 : decode cX1_step 20 = .ok (.getfield 9, 3) := by decide +kernel
theorem dX1_step_23 : decode cX1_step 23 = .ok (.aload_n 0, 1) := by decide +kernel
theorem dX1_step_24 : decode cX1_step 24 = .ok (.getfield 68, 3) := by decide +kernel
theorem dX1_step_27 : decode cX1_step 27 = .ok (.baload, 1) := by decide +kernel
theorem dX1_step_28 : decode cX1_step 28 = .ok (.bipush 32, 2) := by decide +kernel
theorem dX1_step_30 : decode cX1_step 30 = .ok (.if_icmp .ne 16, 3) := by decide +kernel
theorem dX1_step_33 : decode cX1_step 33 = .ok (.aload_n 0, 1) := by decide +kernel
theorem dX1_step_34 : decode cX1_step 34 = .ok (.dup, 1) := by decide +kernel
theorem dX1_step_35 : decode cX1_step 35 = .ok (.getfield 68, 3) := by decide +kernel
theorem dX1_step_38 : decode cX1_step 38 = .ok (.iconst 1, 1) := by decide +kernel
theorem dX1_step_39 : decode cX1_step 39 = .ok (.iadd, 1) := by decide +kernel
theorem dX1_step_40 : decode cX1_step 40 = .ok (.putfield 68, 3) := by decide +kernel
theorem dX1_step_43 : decode cX1_step 43 = .ok (.goto (-35), 3) := by decide +kernel
theorem dX1_step_46 : decode cX1_step 46 = .ok (.aload_n 0, 1) := by decide +kernel
theorem dX1_step_47 : decode cX1_step 47 = .ok (.aload_n 0, 1) := by decide +kernel
theorem dX1_step_48 : decode cX1_step 48 = .ok (.getfield 68, 3) := by decide +kernel
theorem dX1_step_51 : decode cX1_step 51 = .ok (.putfield 22, 3) := by decide +kernel
theorem dX1_step_54 : decode cX1_step 54 = .ok (.aload_n 0, 1) := by decide +kernel
theorem dX1_step_55 : decode cX1_step 55 = .ok (.getfield 68, 3) := by decide +kernel
theorem dX1_step_58 : decode cX1_step 58 = .ok (.aload_n 0, 1) := by decide +kernel
theorem dX1_step_59 : decode cX1_step 59 = .ok (.getfield 15, 3) := by decide +kernel
theorem dX1_step_62 : decode cX1_step 62 = .ok (.if_icmp .lt 9, 3) := by decide +kernel
theorem dX1_step_65 : decode cX1_step 65 = .ok (.aload_n 0, 1) := by decide +kernel
theorem dX1_step_66 : decode cX1_step 66 = .ok (.iconst 0, 1) := by decide +kernel
theorem dX1_step_67 : decode cX1_step 67 = .ok (.putfield 28, 3) := by decide +kernel
theorem dX1_step_70 : decode cX1_step 70 = .ok (.return_, 1) := by decide +kernel
theorem dX1_step_71 : decode cX1_step 71 = .ok (.aload_n 0, 1) := by decide +kernel
theorem dX1_step_72 : decode cX1_step 72 = .ok (.aload_n 0, 1) := by decide +kernel
theorem dX1_step_73 : decode cX1_step 73 = .ok (.getfield 9, 3) := by decide +kernel
theorem dX1_step_76 : decode cX1_step 76 = .ok (.aload_n 0, 1) := by decide +kernel
theorem dX1_step_77 : decode cX1_step 77 = .ok (.getfield 68, 3) := by decide +kernel
theorem dX1_step_80 : decode cX1_step 80 = .ok (.baload, 1) := by decide +kernel
theorem dX1_step_81 : decode cX1_step 81 = .ok (.invokestatic 149, 3) := by decide +kernel
theorem dX1_step_84 : decode cX1_step 84 = .ok (.putfield 28, 3) := by decide +kernel
theorem dX1_step_87 : decode cX1_step 87 = .ok (.aload_n 0, 1) := by decide +kernel
theorem dX1_step_88 : decode cX1_step 88 = .ok (.dup, 1) := by decide +kernel
theorem dX1_step_89 : decode cX1_step 89 = .ok (.getfield 22, 3) := by decide +kernel
theorem dX1_step_92 : decode cX1_step 92 = .ok (.iconst 1, 1) := by decide +kernel
theorem dX1_step_93 : decode cX1_step 93 = .ok (.iadd, 1) := by decide +kernel
theorem dX1_step_94 : decode cX1_step 94 = .ok (.putfield 22, 3) := by decide +kernel
theorem dX1_step_97 : decode cX1_step 97 = .ok (.aload_n 0, 1) := by decide +kernel
theorem dX1_step_98 : decode cX1_step 98 = .ok (.getfield 28, 3) := by decide +kernel
theorem dX1_step_101 : decode cX1_step 101 = .ok (.iconst 3, 1) := by decide +kernel
theorem dX1_step_102 : decode cX1_step 102 = .ok (.if_icmp .eq 46, 3) := by decide +kernel
theorem dX1_step_105 : decode cX1_step 105 = .ok (.aload_n 0, 1) := by decide +kernel
theorem dX1_step_106 : decode cX1_step 106 = .ok (.getfield 22, 3) := by decide +kernel
theorem dX1_step_109 : decode cX1_step 109 = .ok (.aload_n 0, 1) := by decide +kernel
theorem dX1_step_110 : decode cX1_step 110 = .ok (.getfield 15, 3) := by decide +kernel
theorem dX1_step_113 : decode cX1_step 113 = .ok (.if_icmp .ge 35, 3) := by decide +kernel
theorem dX1_step_116 : decode cX1_step 116 = .ok (.aload_n 0, 1) := by decide +kernel
theorem dX1_step_117 : decode cX1_step 117 = .ok (.getfield 9, 3) := by decide +kernel
theorem dX1_step_120 : decode cX1_step 120 = .ok (.aload_n 0, 1) := by decide +kernel
theorem dX1_step_121 : decode cX1_step 121 = .ok (.getfield 22, 3) := by decide +kernel
theorem dX1_step_124 : decode cX1_step 124 = .ok (.baload, 1) := by decide +kernel
theorem dX1_step_125 : decode cX1_step 125 = .ok (.invokestatic 149, 3) := by decide +kernel
theorem dX1_step_128 : decode cX1_step 128 = .ok (.aload_n 0, 1) := by decide +kernel
theorem dX1_step_129 : decode cX1_step 129 = .ok (.getfield 28, 3) := by decide +kernel
theorem dX1_step_132 : decode cX1_step 132 = .ok (.if_icmp .ne 16, 3) := by decide +kernel
theorem dX1_step_135 : decode cX1_step 135 = .ok (.aload_n 0, 1) := by decide +kernel
theorem dX1_step_136 : decode cX1_step 136 = .ok (.dup, 1) := by decide +kernel
theorem dX1_step_137 : decode cX1_step 137 = .ok (.getfield 22, 3) := by decide +kernel
theorem dX1_step_140 : decode cX1_step 140 = .ok (.iconst 1, 1) := by decide +kernel
theorem dX1_step_141 : decode cX1_step 141 = .ok (.iadd, 1) := by decide +kernel
theorem dX1_step_142 : decode cX1_step 142 = .ok (.putfield 22, 3) := by decide +kernel
theorem dX1_step_145 : decode cX1_step 145 = .ok (.goto (-48), 3) := by decide +kernel
theorem dX1_step_148 : decode cX1_step 148 = .ok (.return_, 1) := by decide +kernel
theorem dX1_sortOf_0 : decode cX1_sortOf 0 = .ok (.iload_n 0, 1) := by decide +kernel
theorem dX1_sortOf_1 : decode cX1_sortOf 1 = .ok (.bipush 97, 2) := by decide +kernel
theorem dX1_sortOf_3 : decode cX1_sortOf 3 = .ok (.if_icmp .lt 11, 3) := by decide +kernel
theorem dX1_sortOf_6 : decode cX1_sortOf 6 = .ok (.iload_n 0, 1) := by decide +kernel
theorem dX1_sortOf_7 : decode cX1_sortOf 7 = .ok (.bipush 122, 2) := by decide +kernel
theorem dX1_sortOf_9 : decode cX1_sortOf 9 = .ok (.if_icmp .gt 5, 3) := by decide +kernel
theorem dX1_sortOf_12 : decode cX1_sortOf 12 = .ok (.iconst 1, 1) := by decide +kernel
theorem dX1_sortOf_13 : decode cX1_sortOf 13 = .ok (.ireturn, 1) := by decide +kernel
theorem dX1_sortOf_14 : decode cX1_sortOf 14 = .ok (.iload_n 0, 1) := by decide +kernel
theorem dX1_sortOf_15 : decode cX1_sortOf 15 = .ok (.bipush 48, 2) := by decide +kernel
theorem dX1_sortOf_17 : decode cX1_sortOf 17 = .ok (.if_icmp .lt 13, 3) := by decide +kernel
theorem dX1_sortOf_20 : decode cX1_sortOf 20 = .ok (.iload_n 0, 1) := by decide +kernel
theorem dX1_sortOf_21 : decode cX1_sortOf 21 = .ok (.bipush 57, 2) := by decide +kernel
theorem dX1_sortOf_23 : decode cX1_sortOf 23 = .ok (.if_icmp .gt 7, 3) := by decide +kernel
theorem dX1_sortOf_26 : decode cX1_sortOf 26 = .ok (.iconst 2, 1) := by decide +kernel
theorem dX1_sortOf_27 : decode cX1_sortOf 27 = .ok (.goto 4, 3) := by decide +kernel
theorem dX1_sortOf_30 : decode cX1_sortOf 30 = .ok (.iconst 3, 1) := by decide +kernel
theorem dX1_sortOf_31 : decode cX1_sortOf 31 = .ok (.ireturn, 1) := by decide +kernel
theorem dX2_init_0 : decode cX2_init 0 = .ok (.aload_n 0, 1) := by decide +kernel
theorem dX2_init_1 : decode cX2_init 1 = .ok (.iload_n 1, 1) := by decide +kernel
theorem dX2_init_2 : decode cX2_init 2 = .ok (.iload_n 2, 1) := by decide +kernel
theorem dX2_init_3 : decode cX2_init 3 = .ok (.iload_n 3, 1) := by decide +kernel
theorem dX2_init_4 : decode cX2_init 4 = .ok (.invokespecial 1, 3) := by decide +kernel
theorem dX2_init_7 : decode cX2_init 7 = .ok (.return_, 1) := by decide +kernel
theorem dX2_chosenDay_0 : decode cX2_chosenDay 0 = .ok (.aload_n 1, 1) := by decide +kernel
theorem dX2_chosenDay_1 : decode cX2_chosenDay 1 = .ok (.aload_n 0, 1) := by decide +kernel
theorem dX2_chosenDay_2 : decode cX2_chosenDay 2 = .ok (.getfield 7, 3) := by decide +kernel
theorem dX2_chosenDay_5 : decode cX2_chosenDay 5 = .ok (.invokevirtual 13, 3) := by decide +kernel
theorem dX2_chosenDay_8 : decode cX2_chosenDay 8 = .ok (.ireturn, 1) := by decide +kernel
theorem dX2_waits_0 : decode cX2_waits 0 = .ok (.aload_n 2, 1) := by decide +kernel
theorem dX2_waits_1 : decode cX2_waits 1 = .ok (.bipush 20, 2) := by decide +kernel
theorem dX2_waits_3 : decode cX2_waits 3 = .ok (.invokevirtual 19, 3) := by decide +kernel
theorem dX2_waits_6 : decode cX2_waits 6 = .ok (.aload_n 0, 1) := by decide +kernel
theorem dX2_waits_7 : decode cX2_waits 7 = .ok (.iload_n 1, 1) := by decide +kernel
theorem dX2_waits_8 : decode cX2_waits 8 = .ok (.aload_n 2, 1) := by decide +kernel
theorem dX2_waits_9 : decode cX2_waits 9 = .ok (.invokespecial 25, 3) := by decide +kernel
theorem dX2_waits_12 : decode cX2_waits 12 = .ok (.aload_n 0, 1) := by decide +kernel
theorem dX2_waits_13 : decode cX2_waits 13 = .ok (.getfield 7, 3) := by decide +kernel
theorem dX2_waits_16 : decode cX2_waits 16 = .ok (.isub, 1) := by decide +kernel
theorem dX2_waits_17 : decode cX2_waits 17 = .ok (.ireturn, 1) := by decide +kernel
theorem dX3_init_0 : decode cX3_init 0 = .ok (.aload_n 0, 1) := by decide +kernel
theorem dX3_init_1 : decode cX3_init 1 = .ok (.iload_n 1, 1) := by decide +kernel
theorem dX3_init_2 : decode cX3_init 2 = .ok (.iload_n 2, 1) := by decide +kernel
theorem dX3_init_3 : decode cX3_init 3 = .ok (.iload_n 3, 1) := by decide +kernel
theorem dX3_init_4 : decode cX3_init 4 = .ok (.invokespecial 1, 3) := by decide +kernel
theorem dX3_init_7 : decode cX3_init 7 = .ok (.return_, 1) := by decide +kernel
theorem dX3_chosenDay_0 : decode cX3_chosenDay 0 = .ok (.aload_n 1, 1) := by decide +kernel
theorem dX3_chosenDay_1 : decode cX3_chosenDay 1 = .ok (.aload_n 1, 1) := by decide +kernel
theorem dX3_chosenDay_2 : decode cX3_chosenDay 2 = .ok (.getfield 7, 3) := by decide +kernel
theorem dX3_chosenDay_5 : decode cX3_chosenDay 5 = .ok (.aload_n 1, 1) := by decide +kernel
theorem dX3_chosenDay_6 : decode cX3_chosenDay 6 = .ok (.aload_n 1, 1) := by decide +kernel
theorem dX3_chosenDay_7 : decode cX3_chosenDay 7 = .ok (.getfield 7, 3) := by decide +kernel
theorem dX3_chosenDay_10 : decode cX3_chosenDay 10 = .ok (.invokevirtual 13, 3) := by decide +kernel
theorem dX3_chosenDay_13 : decode cX3_chosenDay 13 = .ok (.invokevirtual 17, 3) := by decide +kernel
theorem dX3_chosenDay_16 : decode cX3_chosenDay 16 = .ok (.ifCond .eq 7, 3) := by decide +kernel
theorem dX3_chosenDay_19 : decode cX3_chosenDay 19 = .ok (.iconst (-1), 1) := by decide +kernel
theorem dX3_chosenDay_20 : decode cX3_chosenDay 20 = .ok (.goto 7, 3) := by decide +kernel
theorem dX3_chosenDay_23 : decode cX3_chosenDay 23 = .ok (.aload_n 1, 1) := by decide +kernel
theorem dX3_chosenDay_24 : decode cX3_chosenDay 24 = .ok (.getfield 7, 3) := by decide +kernel
theorem dX3_chosenDay_27 : decode cX3_chosenDay 27 = .ok (.ireturn, 1) := by decide +kernel
theorem dX3_says_0 : decode cX3_says 0 = .ok (.aload_n 2, 1) := by decide +kernel
theorem dX3_says_1 : decode cX3_says 1 = .ok (.bipush 30, 2) := by decide +kernel
theorem dX3_says_3 : decode cX3_says 3 = .ok (.invokevirtual 21, 3) := by decide +kernel
theorem dX3_says_6 : decode cX3_says 6 = .ok (.aload_n 0, 1) := by decide +kernel
theorem dX3_says_7 : decode cX3_says 7 = .ok (.iload_n 1, 1) := by decide +kernel
theorem dX3_says_8 : decode cX3_says 8 = .ok (.aload_n 2, 1) := by decide +kernel
theorem dX3_says_9 : decode cX3_says 9 = .ok (.invokespecial 27, 3) := by decide +kernel
theorem dX3_says_12 : decode cX3_says 12 = .ok (.iconst 3, 1) := by decide +kernel
theorem dX3_says_13 : decode cX3_says 13 = .ok (.imul, 1) := by decide +kernel
theorem dX3_says_14 : decode cX3_says 14 = .ok (.ireturn, 1) := by decide +kernel
theorem dX3_tells_0 : decode cX3_tells 0 = .ok (.aload_n 2, 1) := by decide +kernel
theorem dX3_tells_1 : decode cX3_tells 1 = .ok (.bipush 31, 2) := by decide +kernel
theorem dX3_tells_3 : decode cX3_tells 3 = .ok (.invokevirtual 21, 3) := by decide +kernel
theorem dX3_tells_6 : decode cX3_tells 6 = .ok (.aload_n 0, 1) := by decide +kernel
theorem dX3_tells_7 : decode cX3_tells 7 = .ok (.iload_n 1, 1) := by decide +kernel
theorem dX3_tells_8 : decode cX3_tells 8 = .ok (.aload_n 2, 1) := by decide +kernel
theorem dX3_tells_9 : decode cX3_tells 9 = .ok (.invokespecial 31, 3) := by decide +kernel
theorem dX3_tells_12 : decode cX3_tells 12 = .ok (.aload_n 0, 1) := by decide +kernel
theorem dX3_tells_13 : decode cX3_tells 13 = .ok (.aload_n 0, 1) := by decide +kernel
theorem dX3_tells_14 : decode cX3_tells 14 = .ok (.getfield 34, 3) := by decide +kernel
theorem dX3_tells_17 : decode cX3_tells 17 = .ok (.aload_n 2, 1) := by decide +kernel
theorem dX3_tells_18 : decode cX3_tells 18 = .ok (.invokevirtual 39, 3) := by decide +kernel
theorem dX3_tells_21 : decode cX3_tells 21 = .ok (.iadd, 1) := by decide +kernel
theorem dX3_tells_22 : decode cX3_tells 22 = .ok (.ireturn, 1) := by decide +kernel
theorem dX4_init_0 : decode cX4_init 0 = .ok (.aload_n 0, 1) := by decide +kernel
theorem dX4_init_1 : decode cX4_init 1 = .ok (.invokespecial 3, 3) := by decide +kernel
theorem dX4_init_4 : decode cX4_init 4 = .ok (.aload_n 0, 1) := by decide +kernel
theorem dX4_init_5 : decode cX4_init 5 = .ok (.iload_n 1, 1) := by decide +kernel
theorem dX4_init_6 : decode cX4_init 6 = .ok (.putfield 9, 3) := by decide +kernel
theorem dX4_init_9 : decode cX4_init 9 = .ok (.aload_n 0, 1) := by decide +kernel
theorem dX4_init_10 : decode cX4_init 10 = .ok (.iload_n 2, 1) := by decide +kernel
theorem dX4_init_11 : decode cX4_init 11 = .ok (.putfield 15, 3) := by decide +kernel
theorem dX4_init_14 : decode cX4_init 14 = .ok (.aload_n 0, 1) := by decide +kernel
theorem dX4_init_15 : decode cX4_init 15 = .ok (.iload_n 3, 1) := by decide +kernel
theorem dX4_init_16 : decode cX4_init 16 = .ok (.putfield 18, 3) := by decide +kernel
theorem dX4_init_19 : decode cX4_init 19 = .ok (.return_, 1) := by decide +kernel
theorem dX4_chosenDay_0 : decode cX4_chosenDay 0 = .ok (.iconst (-1), 1) := by decide +kernel
theorem dX4_chosenDay_1 : decode cX4_chosenDay 1 = .ok (.ireturn, 1) := by decide +kernel
theorem dX4_firstWeather_0 : decode cX4_firstWeather 0 = .ok (.aload_n 1, 1) := by decide +kernel
theorem dX4_firstWeather_1 : decode cX4_firstWeather 1 = .ok (.iload_n 2, 1) := by decide +kernel
theorem dX4_firstWeather_2 : decode cX4_firstWeather 2 = .ok (.invokevirtual 21, 3) := by decide +kernel
theorem dX4_firstWeather_5 : decode cX4_firstWeather 5 = .ok (.ireturn, 1) := by decide +kernel
theorem dX4_breadth_0 : decode cX4_breadth 0 = .ok (.iconst 1, 1) := by decide +kernel
theorem dX4_breadth_1 : decode cX4_breadth 1 = .ok (.ireturn, 1) := by decide +kernel
theorem dX4_says_0 : decode cX4_says 0 = .ok (.aload_n 2, 1) := by decide +kernel
theorem dX4_says_1 : decode cX4_says 1 = .ok (.getfield 27, 3) := by decide +kernel
theorem dX4_says_4 : decode cX4_says 4 = .ok (.ifCond .ne 33, 3) := by decide +kernel
theorem dX4_says_7 : decode cX4_says 7 = .ok (.aload_n 2, 1) := by decide +kernel
theorem dX4_says_8 : decode cX4_says 8 = .ok (.getfield 33, 3) := by decide +kernel
theorem dX4_says_11 : decode cX4_says 11 = .ok (.bipush 30, 2) := by decide +kernel
theorem dX4_says_13 : decode cX4_says 13 = .ok (.if_icmp .ge 24, 3) := by decide +kernel
theorem dX4_says_16 : decode cX4_says 16 = .ok (.aload_n 2, 1) := by decide +kernel
theorem dX4_says_17 : decode cX4_says 17 = .ok (.getfield 36, 3) := by decide +kernel
theorem dX4_says_20 : decode cX4_says 20 = .ok (.aload_n 2, 1) := by decide +kernel
theorem dX4_says_21 : decode cX4_says 21 = .ok (.getfield 33, 3) := by decide +kernel
theorem dX4_says_24 : decode cX4_says 24 = .ok (.bipush 10, 2) := by decide +kernel
theorem dX4_says_26 : decode cX4_says 26 = .ok (.iastore, 1) := by decide +kernel
theorem dX4_says_27 : decode cX4_says 27 = .ok (.aload_n 2, 1) := by decide +kernel
theorem dX4_says_28 : decode cX4_says 28 = .ok (.dup, 1) := by decide +kernel
theorem dX4_says_29 : decode cX4_says 29 = .ok (.getfield 33, 3) := by decide +kernel
theorem dX4_says_32 : decode cX4_says 32 = .ok (.iconst 1, 1) := by decide +kernel
theorem dX4_says_33 : decode cX4_says 33 = .ok (.iadd, 1) := by decide +kernel
theorem dX4_says_34 : decode cX4_says 34 = .ok (.putfield 33, 3) := by decide +kernel
theorem dX4_says_37 : decode cX4_says 37 = .ok (.iload_n 1, 1) := by decide +kernel
theorem dX4_says_38 : decode cX4_says 38 = .ok (.aload_n 0, 1) := by decide +kernel
theorem dX4_says_39 : decode cX4_says 39 = .ok (.getfield 15, 3) := by decide +kernel
theorem dX4_says_42 : decode cX4_says 42 = .ok (.iadd, 1) := by decide +kernel
theorem dX4_says_43 : decode cX4_says 43 = .ok (.ireturn, 1) := by decide +kernel
theorem dX4_waits_0 : decode cX4_waits 0 = .ok (.aload_n 2, 1) := by decide +kernel
theorem dX4_waits_1 : decode cX4_waits 1 = .ok (.bipush 11, 2) := by decide +kernel
theorem dX4_waits_3 : decode cX4_waits 3 = .ok (.invokevirtual 40, 3) := by decide +kernel
theorem dX4_waits_6 : decode cX4_waits 6 = .ok (.aload_n 0, 1) := by decide +kernel
theorem dX4_waits_7 : decode cX4_waits 7 = .ok (.iload_n 1, 1) := by decide +kernel
theorem dX4_waits_8 : decode cX4_waits 8 = .ok (.aload_n 2, 1) := by decide +kernel
theorem dX4_waits_9 : decode cX4_waits 9 = .ok (.invokevirtual 44, 3) := by decide +kernel
theorem dX4_waits_12 : decode cX4_waits 12 = .ok (.iconst 2, 1) := by decide +kernel
theorem dX4_waits_13 : decode cX4_waits 13 = .ok (.imul, 1) := by decide +kernel
theorem dX4_waits_14 : decode cX4_waits 14 = .ok (.ireturn, 1) := by decide +kernel
theorem dX4_shares_0 : decode cX4_shares 0 = .ok (.aload_n 2, 1) := by decide +kernel
theorem dX4_shares_1 : decode cX4_shares 1 = .ok (.bipush 12, 2) := by decide +kernel
theorem dX4_shares_3 : decode cX4_shares 3 = .ok (.invokevirtual 40, 3) := by decide +kernel
theorem dX4_shares_6 : decode cX4_shares 6 = .ok (.aload_n 0, 1) := by decide +kernel
theorem dX4_shares_7 : decode cX4_shares 7 = .ok (.getfield 18, 3) := by decide +kernel
theorem dX4_shares_10 : decode cX4_shares 10 = .ok (.aload_n 0, 1) := by decide +kernel
theorem dX4_shares_11 : decode cX4_shares 11 = .ok (.getfield 15, 3) := by decide +kernel
theorem dX4_shares_14 : decode cX4_shares 14 = .ok (.isub, 1) := by decide +kernel
theorem dX4_shares_15 : decode cX4_shares 15 = .ok (.istore_n 3, 1) := by decide +kernel
theorem dX4_shares_16 : decode cX4_shares 16 = .ok (.iload_n 3, 1) := by decide +kernel
theorem dX4_shares_17 : decode cX4_shares 17 = .ok (.ifCond .ne 10, 3) := by decide +kernel
theorem dX4_shares_20 : decode cX4_shares 20 = .ok (.aload_n 2, 1) := by decide +kernel
theorem dX4_shares_21 : decode cX4_shares 21 = .ok (.iconst 1, 1) := by decide +kernel
theorem dX4_shares_22 : decode cX4_shares 22 = .ok (.putfield 27, 3) := by decide +kernel
theorem dX4_shares_25 : decode cX4_shares 25 = .ok (.iconst 0, 1) := by decide +kernel
theorem dX4_shares_26 : decode cX4_shares 26 = .ok (.ireturn, 1) := by decide +kernel
theorem dX4_shares_27 : decode cX4_shares 27 = .ok (.iload_n 1, 1) := by decide +kernel
theorem dX4_shares_28 : decode cX4_shares 28 = .ok (.iload_n 3, 1) := by decide +kernel
theorem dX4_shares_29 : decode cX4_shares 29 = .ok (.idiv, 1) := by decide +kernel
theorem dX4_shares_30 : decode cX4_shares 30 = .ok (.ireturn, 1) := by decide +kernel
theorem dX4_tells_0 : decode cX4_tells 0 = .ok (.aload_n 2, 1) := by decide +kernel
theorem dX4_tells_1 : decode cX4_tells 1 = .ok (.bipush 13, 2) := by decide +kernel
theorem dX4_tells_3 : decode cX4_tells 3 = .ok (.invokevirtual 40, 3) := by decide +kernel
theorem dX4_tells_6 : decode cX4_tells 6 = .ok (.aload_n 0, 1) := by decide +kernel
theorem dX4_tells_7 : decode cX4_tells 7 = .ok (.iload_n 1, 1) := by decide +kernel
theorem dX4_tells_8 : decode cX4_tells 8 = .ok (.aload_n 2, 1) := by decide +kernel
theorem dX4_tells_9 : decode cX4_tells 9 = .ok (.invokevirtual 48, 3) := by decide +kernel
theorem dX4_tells_12 : decode cX4_tells 12 = .ok (.aload_n 0, 1) := by decide +kernel
theorem dX4_tells_13 : decode cX4_tells 13 = .ok (.getfield 18, 3) := by decide +kernel
theorem dX4_tells_16 : decode cX4_tells 16 = .ok (.ixor, 1) := by decide +kernel
theorem dX4_tells_17 : decode cX4_tells 17 = .ok (.ireturn, 1) := by decide +kernel
theorem dX5_init_0 : decode cX5_init 0 = .ok (.aload_n 0, 1) := by decide +kernel
theorem dX5_init_1 : decode cX5_init 1 = .ok (.invokespecial 1, 3) := by decide +kernel
theorem dX5_init_4 : decode cX5_init 4 = .ok (.aload_n 0, 1) := by decide +kernel
theorem dX5_init_5 : decode cX5_init 5 = .ok (.iload_n 1, 1) := by decide +kernel
theorem dX5_init_6 : decode cX5_init 6 = .ok (.putfield 7, 3) := by decide +kernel
theorem dX5_init_9 : decode cX5_init 9 = .ok (.aload_n 0, 1) := by decide +kernel
theorem dX5_init_10 : decode cX5_init 10 = .ok (.aload_n 2, 1) := by decide +kernel
theorem dX5_init_11 : decode cX5_init 11 = .ok (.putfield 13, 3) := by decide +kernel
theorem dX5_init_14 : decode cX5_init 14 = .ok (.return_, 1) := by decide +kernel
theorem dX5_narrowed_0 : decode cX5_narrowed 0 = .ok (.aload_n 0, 1) := by decide +kernel
theorem dX5_narrowed_1 : decode cX5_narrowed 1 = .ok (.getfield 7, 3) := by decide +kernel
theorem dX5_narrowed_4 : decode cX5_narrowed 4 = .ok (.lookupswitch 36 #[(0, 28), (1, 32)], 28) := by decide +kernel
theorem dX5_narrowed_32 : decode cX5_narrowed 32 = .ok (.iload_n 1, 1) := by decide +kernel
theorem dX5_narrowed_33 : decode cX5_narrowed 33 = .ok (.i2b, 1) := by decide +kernel
theorem dX5_narrowed_34 : decode cX5_narrowed 34 = .ok (.i2l, 1) := by decide +kernel
theorem dX5_narrowed_35 : decode cX5_narrowed 35 = .ok (.lreturn, 1) := by decide +kernel
theorem dX5_narrowed_36 : decode cX5_narrowed 36 = .ok (.iload_n 1, 1) := by decide +kernel
theorem dX5_narrowed_37 : decode cX5_narrowed 37 = .ok (.i2s, 1) := by decide +kernel
theorem dX5_narrowed_38 : decode cX5_narrowed 38 = .ok (.i2l, 1) := by decide +kernel
theorem dX5_narrowed_39 : decode cX5_narrowed 39 = .ok (.lreturn, 1) := by decide +kernel
theorem dX5_narrowed_40 : decode cX5_narrowed 40 = .ok (.iload_n 1, 1) := by decide +kernel
theorem dX5_narrowed_41 : decode cX5_narrowed 41 = .ok (.i2l, 1) := by decide +kernel
theorem dX5_narrowed_42 : decode cX5_narrowed 42 = .ok (.lreturn, 1) := by decide +kernel
theorem dX6_init_0 : decode cX6_init 0 = .ok (.aload_n 0, 1) := by decide +kernel
theorem dX6_init_1 : decode cX6_init 1 = .ok (.iconst 3, 1) := by decide +kernel
theorem dX6_init_2 : decode cX6_init 2 = .ok (.iload_n 1, 1) := by decide +kernel
theorem dX6_init_3 : decode cX6_init 3 = .ok (.iload_n 2, 1) := by decide +kernel
theorem dX6_init_4 : decode cX6_init 4 = .ok (.invokespecial 3, 3) := by decide +kernel
theorem dX6_init_7 : decode cX6_init 7 = .ok (.return_, 1) := by decide +kernel
theorem dX6_chosenDay_0 : decode cX6_chosenDay 0 = .ok (.aload_n 1, 1) := by decide +kernel
theorem dX6_chosenDay_1 : decode cX6_chosenDay 1 = .ok (.getfield 9, 3) := by decide +kernel
theorem dX6_chosenDay_4 : decode cX6_chosenDay 4 = .ok (.istore_n 2, 1) := by decide +kernel
theorem dX6_chosenDay_5 : decode cX6_chosenDay 5 = .ok (.aload_n 1, 1) := by decide +kernel
theorem dX6_chosenDay_6 : decode cX6_chosenDay 6 = .ok (.iload_n 2, 1) := by decide +kernel
theorem dX6_chosenDay_7 : decode cX6_chosenDay 7 = .ok (.aload_n 1, 1) := by decide +kernel
theorem dX6_chosenDay_8 : decode cX6_chosenDay 8 = .ok (.iload_n 2, 1) := by decide +kernel
theorem dX6_chosenDay_9 : decode cX6_chosenDay 9 = .ok (.invokevirtual 15, 3) := by decide +kernel
theorem dX6_chosenDay_12 : decode cX6_chosenDay 12 = .ok (.invokevirtual 19, 3) := by decide +kernel
theorem dX6_chosenDay_15 : decode cX6_chosenDay 15 = .ok (.istore_n 3, 1) := by decide +kernel
theorem dX6_chosenDay_16 : decode cX6_chosenDay 16 = .ok (.bipush 10, 2) := by decide +kernel
theorem dX6_chosenDay_18 : decode cX6_chosenDay 18 = .ok (.iload_n 3, 1) := by decide +kernel
theorem dX6_chosenDay_19 : decode cX6_chosenDay 19 = .ok (.imul, 1) := by decide +kernel
theorem dX6_chosenDay_20 : decode cX6_chosenDay 20 = .ok (.aload_n 0, 1) := by decide +kernel
theorem dX6_chosenDay_21 : decode cX6_chosenDay 21 = .ok (.getfield 23, 3) := by decide +kernel
theorem dX6_chosenDay_24 : decode cX6_chosenDay 24 = .ok (.aload_n 1, 1) := by decide +kernel
theorem dX6_chosenDay_25 : decode cX6_chosenDay 25 = .ok (.iload_n 2, 1) := by decide +kernel
theorem dX6_chosenDay_26 : decode cX6_chosenDay 26 = .ok (.invokevirtual 28, 3) := by decide +kernel
theorem dX6_chosenDay_29 : decode cX6_chosenDay 29 = .ok (.imul, 1) := by decide +kernel
theorem dX6_chosenDay_30 : decode cX6_chosenDay 30 = .ok (.if_icmp .lt 11, 3) := by decide +kernel
theorem dX6_chosenDay_33 : decode cX6_chosenDay 33 = .ok (.aload_n 0, 1) := by decide +kernel
theorem dX6_chosenDay_34 : decode cX6_chosenDay 34 = .ok (.aload_n 1, 1) := by decide +kernel
theorem dX6_chosenDay_35 : decode cX6_chosenDay 35 = .ok (.invokespecial 31, 3) := by decide +kernel
theorem dX6_chosenDay_38 : decode cX6_chosenDay 38 = .ok (.goto 4, 3) := by decide +kernel
theorem dX6_chosenDay_41 : decode cX6_chosenDay 41 = .ok (.iconst (-1), 1) := by decide +kernel
theorem dX6_chosenDay_42 : decode cX6_chosenDay 42 = .ok (.ireturn, 1) := by decide +kernel
theorem dX6_says_0 : decode cX6_says 0 = .ok (.aload_n 2, 1) := by decide +kernel
theorem dX6_says_1 : decode cX6_says 1 = .ok (.bipush 40, 2) := by decide +kernel
theorem dX6_says_3 : decode cX6_says 3 = .ok (.invokevirtual 35, 3) := by decide +kernel
theorem dX6_says_6 : decode cX6_says 6 = .ok (.iconst 0, 1) := by decide +kernel
theorem dX6_says_7 : decode cX6_says 7 = .ok (.aload_n 0, 1) := by decide +kernel
theorem dX6_says_8 : decode cX6_says 8 = .ok (.iload_n 1, 1) := by decide +kernel
theorem dX6_says_9 : decode cX6_says 9 = .ok (.aload_n 2, 1) := by decide +kernel
theorem dX6_says_10 : decode cX6_says 10 = .ok (.invokespecial 41, 3) := by decide +kernel
theorem dX6_says_13 : decode cX6_says 13 = .ok (.isub, 1) := by decide +kernel
theorem dX6_says_14 : decode cX6_says 14 = .ok (.ireturn, 1) := by decide +kernel
theorem dX6_waits_0 : decode cX6_waits 0 = .ok (.aload_n 2, 1) := by decide +kernel
theorem dX6_waits_1 : decode cX6_waits 1 = .ok (.bipush 41, 2) := by decide +kernel
theorem dX6_waits_3 : decode cX6_waits 3 = .ok (.invokevirtual 35, 3) := by decide +kernel
theorem dX6_waits_6 : decode cX6_waits 6 = .ok (.aload_n 0, 1) := by decide +kernel
theorem dX6_waits_7 : decode cX6_waits 7 = .ok (.iload_n 1, 1) := by decide +kernel
theorem dX6_waits_8 : decode cX6_waits 8 = .ok (.aload_n 2, 1) := by decide +kernel
theorem dX6_waits_9 : decode cX6_waits 9 = .ok (.invokespecial 45, 3) := by decide +kernel
theorem dX6_waits_12 : decode cX6_waits 12 = .ok (.aload_n 0, 1) := by decide +kernel
theorem dX6_waits_13 : decode cX6_waits 13 = .ok (.aload_n 0, 1) := by decide +kernel
theorem dX6_waits_14 : decode cX6_waits 14 = .ok (.getfield 48, 3) := by decide +kernel
theorem dX6_waits_17 : decode cX6_waits 17 = .ok (.aload_n 2, 1) := by decide +kernel
theorem dX6_waits_18 : decode cX6_waits 18 = .ok (.invokevirtual 51, 3) := by decide +kernel
theorem dX6_waits_21 : decode cX6_waits 21 = .ok (.iadd, 1) := by decide +kernel
theorem dX6_waits_22 : decode cX6_waits 22 = .ok (.ireturn, 1) := by decide +kernel
theorem dX7_init_0 : decode cX7_init 0 = .ok (.aload_n 0, 1) := by decide +kernel
theorem dX7_init_1 : decode cX7_init 1 = .ok (.iconst 5, 1) := by decide +kernel
theorem dX7_init_2 : decode cX7_init 2 = .ok (.iload_n 1, 1) := by decide +kernel
theorem dX7_init_3 : decode cX7_init 3 = .ok (.iload_n 2, 1) := by decide +kernel
theorem dX7_init_4 : decode cX7_init 4 = .ok (.invokespecial 3, 3) := by decide +kernel
theorem dX7_init_7 : decode cX7_init 7 = .ok (.return_, 1) := by decide +kernel
theorem dX7_chosenDay_0 : decode cX7_chosenDay 0 = .ok (.aload_n 1, 1) := by decide +kernel
theorem dX7_chosenDay_1 : decode cX7_chosenDay 1 = .ok (.aload_n 1, 1) := by decide +kernel
theorem dX7_chosenDay_2 : decode cX7_chosenDay 2 = .ok (.getfield 9, 3) := by decide +kernel
theorem dX7_chosenDay_5 : decode cX7_chosenDay 5 = .ok (.aload_n 0, 1) := by decide +kernel
theorem dX7_chosenDay_6 : decode cX7_chosenDay 6 = .ok (.getfield 15, 3) := by decide +kernel
theorem dX7_chosenDay_9 : decode cX7_chosenDay 9 = .ok (.iconst 4, 1) := by decide +kernel
theorem dX7_chosenDay_10 : decode cX7_chosenDay 10 = .ok (.irem, 1) := by decide +kernel
theorem dX7_chosenDay_11 : decode cX7_chosenDay 11 = .ok (.invokevirtual 20, 3) := by decide +kernel
theorem dX7_chosenDay_14 : decode cX7_chosenDay 14 = .ok (.ifCond .eq 7, 3) := by decide +kernel
theorem dX7_chosenDay_17 : decode cX7_chosenDay 17 = .ok (.iconst (-1), 1) := by decide +kernel
theorem dX7_chosenDay_18 : decode cX7_chosenDay 18 = .ok (.goto 7, 3) := by decide +kernel
theorem dX7_chosenDay_21 : decode cX7_chosenDay 21 = .ok (.aload_n 1, 1) := by decide +kernel
theorem dX7_chosenDay_22 : decode cX7_chosenDay 22 = .ok (.getfield 9, 3) := by decide +kernel
theorem dX7_chosenDay_25 : decode cX7_chosenDay 25 = .ok (.ireturn, 1) := by decide +kernel
theorem dX7_firstWeather_0 : decode cX7_firstWeather 0 = .ok (.aload_n 0, 1) := by decide +kernel
theorem dX7_firstWeather_1 : decode cX7_firstWeather 1 = .ok (.getfield 15, 3) := by decide +kernel
theorem dX7_firstWeather_4 : decode cX7_firstWeather 4 = .ok (.iconst 4, 1) := by decide +kernel
theorem dX7_firstWeather_5 : decode cX7_firstWeather 5 = .ok (.irem, 1) := by decide +kernel
theorem dX7_firstWeather_6 : decode cX7_firstWeather 6 = .ok (.ireturn, 1) := by decide +kernel
theorem dX7_tells_0 : decode cX7_tells 0 = .ok (.aload_n 2, 1) := by decide +kernel
theorem dX7_tells_1 : decode cX7_tells 1 = .ok (.bipush 60, 2) := by decide +kernel
theorem dX7_tells_3 : decode cX7_tells 3 = .ok (.invokevirtual 24, 3) := by decide +kernel
theorem dX7_tells_6 : decode cX7_tells 6 = .ok (.aload_n 0, 1) := by decide +kernel
theorem dX7_tells_7 : decode cX7_tells 7 = .ok (.iload_n 1, 1) := by decide +kernel
theorem dX7_tells_8 : decode cX7_tells 8 = .ok (.aload_n 2, 1) := by decide +kernel
theorem dX7_tells_9 : decode cX7_tells 9 = .ok (.invokespecial 30, 3) := by decide +kernel
theorem dX7_tells_12 : decode cX7_tells 12 = .ok (.iconst 2, 1) := by decide +kernel
theorem dX7_tells_13 : decode cX7_tells 13 = .ok (.imul, 1) := by decide +kernel
theorem dX7_tells_14 : decode cX7_tells 14 = .ok (.ireturn, 1) := by decide +kernel
theorem dX7_shares_0 : decode cX7_shares 0 = .ok (.aload_n 2, 1) := by decide +kernel
theorem dX7_shares_1 : decode cX7_shares 1 = .ok (.bipush 61, 2) := by decide +kernel
theorem dX7_shares_3 : decode cX7_shares 3 = .ok (.invokevirtual 24, 3) := by decide +kernel
theorem dX7_shares_6 : decode cX7_shares 6 = .ok (.aload_n 0, 1) := by decide +kernel
theorem dX7_shares_7 : decode cX7_shares 7 = .ok (.iload_n 1, 1) := by decide +kernel
theorem dX7_shares_8 : decode cX7_shares 8 = .ok (.aload_n 2, 1) := by decide +kernel
theorem dX7_shares_9 : decode cX7_shares 9 = .ok (.invokespecial 34, 3) := by decide +kernel
theorem dX7_shares_12 : decode cX7_shares 12 = .ok (.aload_n 0, 1) := by decide +kernel
theorem dX7_shares_13 : decode cX7_shares 13 = .ok (.aload_n 0, 1) := by decide +kernel
theorem dX7_shares_14 : decode cX7_shares 14 = .ok (.getfield 15, 3) := by decide +kernel
theorem dX7_shares_17 : decode cX7_shares 17 = .ok (.aload_n 2, 1) := by decide +kernel
theorem dX7_shares_18 : decode cX7_shares 18 = .ok (.invokevirtual 37, 3) := by decide +kernel
theorem dX7_shares_21 : decode cX7_shares 21 = .ok (.iadd, 1) := by decide +kernel
theorem dX7_shares_22 : decode cX7_shares 22 = .ok (.ireturn, 1) := by decide +kernel
theorem dX8_init_0 : decode cX8_init 0 = .ok (.aload_n 0, 1) := by decide +kernel
theorem dX8_init_1 : decode cX8_init 1 = .ok (.invokespecial 3, 3) := by decide +kernel
theorem dX8_init_4 : decode cX8_init 4 = .ok (.aload_n 0, 1) := by decide +kernel
theorem dX8_init_5 : decode cX8_init 5 = .ok (.bipush 30, 2) := by decide +kernel
theorem dX8_init_7 : decode cX8_init 7 = .ok (.newarray .int, 2) := by decide +kernel
theorem dX8_init_9 : decode cX8_init 9 = .ok (.putfield 9, 3) := by decide +kernel
theorem dX8_init_12 : decode cX8_init 12 = .ok (.return_, 1) := by decide +kernel
theorem dX8_clear_0 : decode cX8_clear 0 = .ok (.aload_n 0, 1) := by decide +kernel
theorem dX8_clear_1 : decode cX8_clear 1 = .ok (.iconst 0, 1) := by decide +kernel
theorem dX8_clear_2 : decode cX8_clear 2 = .ok (.putfield 15, 3) := by decide +kernel
theorem dX8_clear_5 : decode cX8_clear 5 = .ok (.aload_n 0, 1) := by decide +kernel
theorem dX8_clear_6 : decode cX8_clear 6 = .ok (.iconst 0, 1) := by decide +kernel
theorem dX8_clear_7 : decode cX8_clear 7 = .ok (.putfield 19, 3) := by decide +kernel
theorem dX8_clear_10 : decode cX8_clear 10 = .ok (.return_, 1) := by decide +kernel
theorem dX8_begin_0 : decode cX8_begin 0 = .ok (.aload_n 0, 1) := by decide +kernel
theorem dX8_begin_1 : decode cX8_begin 1 = .ok (.getfield 19, 3) := by decide +kernel
theorem dX8_begin_4 : decode cX8_begin 4 = .ok (.ifCond .ne 32, 3) := by decide +kernel
theorem dX8_begin_7 : decode cX8_begin 7 = .ok (.aload_n 0, 1) := by decide +kernel
theorem dX8_begin_8 : decode cX8_begin 8 = .ok (.getfield 15, 3) := by decide +kernel
theorem dX8_begin_11 : decode cX8_begin 11 = .ok (.bipush 30, 2) := by decide +kernel
theorem dX8_begin_13 : decode cX8_begin 13 = .ok (.if_icmp .ge 23, 3) := by decide +kernel
theorem dX8_begin_16 : decode cX8_begin 16 = .ok (.aload_n 0, 1) := by decide +kernel
theorem dX8_begin_17 : decode cX8_begin 17 = .ok (.getfield 9, 3) := by decide +kernel
theorem dX8_begin_20 : decode cX8_begin 20 = .ok (.aload_n 0, 1) := by decide +kernel
theorem dX8_begin_21 : decode cX8_begin 21 = .ok (.getfield 15, 3) := by decide +kernel
theorem dX8_begin_24 : decode cX8_begin 24 = .ok (.iload_n 1, 1) := by decide +kernel
theorem dX8_begin_25 : decode cX8_begin 25 = .ok (.iastore, 1) := by decide +kernel
theorem dX8_begin_26 : decode cX8_begin 26 = .ok (.aload_n 0, 1) := by decide +kernel
theorem dX8_begin_27 : decode cX8_begin 27 = .ok (.dup, 1) := by decide +kernel
theorem dX8_begin_28 : decode cX8_begin 28 = .ok (.getfield 15, 3) := by decide +kernel
theorem dX8_begin_31 : decode cX8_begin 31 = .ok (.iconst 1, 1) := by decide +kernel
theorem dX8_begin_32 : decode cX8_begin 32 = .ok (.iadd, 1) := by decide +kernel
theorem dX8_begin_33 : decode cX8_begin 33 = .ok (.putfield 15, 3) := by decide +kernel
theorem dX8_begin_36 : decode cX8_begin 36 = .ok (.return_, 1) := by decide +kernel
theorem dJ9_abs_067f4_0 : decode cJ9_abs_067f4 0 = .ok (.lload_n 0, 1) := by decide +kernel
theorem dJ9_abs_067f4_1 : decode cJ9_abs_067f4 1 = .ok (.lconst 0, 1) := by decide +kernel
theorem dJ9_abs_067f4_2 : decode cJ9_abs_067f4 2 = .ok (.lcmp, 1) := by decide +kernel
theorem dJ9_abs_067f4_3 : decode cJ9_abs_067f4 3 = .ok (.ifCond .ge 8, 3) := by decide +kernel
theorem dJ9_abs_067f4_6 : decode cJ9_abs_067f4 6 = .ok (.lload_n 0, 1) := by decide +kernel
theorem dJ9_abs_067f4_7 : decode cJ9_abs_067f4 7 = .ok (.lneg, 1) := by decide +kernel
theorem dJ9_abs_067f4_8 : decode cJ9_abs_067f4 8 = .ok (.goto 4, 3) := by decide +kernel
theorem dJ9_abs_067f4_11 : decode cJ9_abs_067f4 11 = .ok (.lload_n 0, 1) := by decide +kernel
theorem dJ9_abs_067f4_12 : decode cJ9_abs_067f4 12 = .ok (.lreturn, 1) := by decide +kernel
theorem dJ9_max_7cf53_0 : decode cJ9_max_7cf53 0 = .ok (.iload_n 0, 1) := by decide +kernel
theorem dJ9_max_7cf53_1 : decode cJ9_max_7cf53 1 = .ok (.iload_n 1, 1) := by decide +kernel
theorem dJ9_max_7cf53_2 : decode cJ9_max_7cf53 2 = .ok (.if_icmp .lt 7, 3) := by decide +kernel
theorem dJ9_max_7cf53_5 : decode cJ9_max_7cf53 5 = .ok (.iload_n 0, 1) := by decide +kernel
theorem dJ9_max_7cf53_6 : decode cJ9_max_7cf53 6 = .ok (.goto 4, 3) := by decide +kernel
theorem dJ9_max_7cf53_9 : decode cJ9_max_7cf53 9 = .ok (.iload_n 1, 1) := by decide +kernel
theorem dJ9_max_7cf53_10 : decode cJ9_max_7cf53 10 = .ok (.ireturn, 1) := by decide +kernel
theorem dJ9_max_f86c9_0 : decode cJ9_max_f86c9 0 = .ok (.lload_n 0, 1) := by decide +kernel
theorem dJ9_max_f86c9_1 : decode cJ9_max_f86c9 1 = .ok (.lload_n 2, 1) := by decide +kernel
theorem dJ9_max_f86c9_2 : decode cJ9_max_f86c9 2 = .ok (.lcmp, 1) := by decide +kernel
theorem dJ9_max_f86c9_3 : decode cJ9_max_f86c9 3 = .ok (.ifCond .lt 7, 3) := by decide +kernel
theorem dJ9_max_f86c9_6 : decode cJ9_max_f86c9 6 = .ok (.lload_n 0, 1) := by decide +kernel
theorem dJ9_max_f86c9_7 : decode cJ9_max_f86c9 7 = .ok (.goto 4, 3) := by decide +kernel
theorem dJ9_max_f86c9_10 : decode cJ9_max_f86c9 10 = .ok (.lload_n 2, 1) := by decide +kernel
theorem dJ9_max_f86c9_11 : decode cJ9_max_f86c9 11 = .ok (.lreturn, 1) := by decide +kernel
theorem dJ9_min_7cf53_0 : decode cJ9_min_7cf53 0 = .ok (.iload_n 0, 1) := by decide +kernel
theorem dJ9_min_7cf53_1 : decode cJ9_min_7cf53 1 = .ok (.iload_n 1, 1) := by decide +kernel
theorem dJ9_min_7cf53_2 : decode cJ9_min_7cf53 2 = .ok (.if_icmp .gt 7, 3) := by decide +kernel
theorem dJ9_min_7cf53_5 : decode cJ9_min_7cf53 5 = .ok (.iload_n 0, 1) := by decide +kernel
theorem dJ9_min_7cf53_6 : decode cJ9_min_7cf53 6 = .ok (.goto 4, 3) := by decide +kernel
theorem dJ9_min_7cf53_9 : decode cJ9_min_7cf53 9 = .ok (.iload_n 1, 1) := by decide +kernel
theorem dJ9_min_7cf53_10 : decode cJ9_min_7cf53 10 = .ok (.ireturn, 1) := by decide +kernel
theorem dJ0_length_8abf5_0 : decode cJ0_length_8abf5 0 = .ok (.aload_n 0, 1) := by decide +kernel
theorem dJ0_length_8abf5_1 : decode cJ0_length_8abf5 1 = .ok (.getfield 9, 3) := by decide +kernel
theorem dJ0_length_8abf5_4 : decode cJ0_length_8abf5 4 = .ok (.arraylength, 1) := by decide +kernel
theorem dJ0_length_8abf5_5 : decode cJ0_length_8abf5 5 = .ok (.aload_n 0, 1) := by decide +kernel
theorem dJ0_length_8abf5_6 : decode cJ0_length_8abf5 6 = .ok (.invokevirtual 335, 3) := by decide +kernel
theorem dJ0_length_8abf5_9 : decode cJ0_length_8abf5 9 = .ok (.ishr, 1) := by decide +kernel
theorem dJ0_length_8abf5_10 : decode cJ0_length_8abf5 10 = .ok (.ireturn, 1) := by decide +kernel
theorem dJ0_charAt_5068e_0 : decode cJ0_charAt_5068e 0 = .ok (.aload_n 0, 1) := by decide +kernel
theorem dJ0_charAt_5068e_1 : decode cJ0_charAt_5068e 1 = .ok (.invokevirtual 492, 3) := by decide +kernel
theorem dJ0_charAt_5068e_4 : decode cJ0_charAt_5068e 4 = .ok (.ifCond .eq 12, 3) := by decide +kernel
theorem dJ0_charAt_5068e_7 : decode cJ0_charAt_5068e 7 = .ok (.aload_n 0, 1) := by decide +kernel
theorem dJ0_charAt_5068e_8 : decode cJ0_charAt_5068e 8 = .ok (.getfield 9, 3) := by decide +kernel
theorem dJ0_charAt_5068e_11 : decode cJ0_charAt_5068e 11 = .ok (.iload_n 1, 1) := by decide +kernel
theorem dJ0_charAt_5068e_12 : decode cJ0_charAt_5068e 12 = .ok (.invokestatic 495, 3) := by decide +kernel
theorem dJ0_charAt_5068e_15 : decode cJ0_charAt_5068e 15 = .ok (.ireturn, 1) := by decide +kernel
theorem dJ0_charAt_5068e_16 : decode cJ0_charAt_5068e 16 = .ok (.aload_n 0, 1) := by decide +kernel
theorem dJ0_charAt_5068e_17 : decode cJ0_charAt_5068e 17 = .ok (.getfield 9, 3) := by decide +kernel
theorem dJ0_charAt_5068e_20 : decode cJ0_charAt_5068e 20 = .ok (.iload_n 1, 1) := by decide +kernel
theorem dJ0_charAt_5068e_21 : decode cJ0_charAt_5068e 21 = .ok (.invokestatic 498, 3) := by decide +kernel
theorem dJ0_charAt_5068e_24 : decode cJ0_charAt_5068e 24 = .ok (.ireturn, 1) := by decide +kernel
theorem dJ0_coder_7d493_0 : decode cJ0_coder_7d493 0 = .ok (.getstatic 38, 3) := by decide +kernel
theorem dJ0_coder_7d493_3 : decode cJ0_coder_7d493 3 = .ok (.ifCond .eq 10, 3) := by decide +kernel
theorem dJ0_coder_7d493_6 : decode cJ0_coder_7d493 6 = .ok (.aload_n 0, 1) := by decide +kernel
theorem dJ0_coder_7d493_7 : decode cJ0_coder_7d493 7 = .ok (.getfield 15, 3) := by decide +kernel
theorem dJ0_coder_7d493_10 : decode cJ0_coder_7d493 10 = .ok (.goto 4, 3) := by decide +kernel
theorem dJ0_coder_7d493_13 : decode cJ0_coder_7d493 13 = .ok (.iconst 1, 1) := by decide +kernel
theorem dJ0_coder_7d493_14 : decode cJ0_coder_7d493 14 = .ok (.ireturn, 1) := by decide +kernel
theorem dJ0_isLatin1_aae02_0 : decode cJ0_isLatin1_aae02 0 = .ok (.getstatic 38, 3) := by decide +kernel
theorem dJ0_isLatin1_aae02_3 : decode cJ0_isLatin1_aae02 3 = .ok (.ifCond .eq 14, 3) := by decide +kernel
theorem dJ0_isLatin1_aae02_6 : decode cJ0_isLatin1_aae02 6 = .ok (.aload_n 0, 1) := by decide +kernel
theorem dJ0_isLatin1_aae02_7 : decode cJ0_isLatin1_aae02 7 = .ok (.getfield 15, 3) := by decide +kernel
theorem dJ0_isLatin1_aae02_10 : decode cJ0_isLatin1_aae02 10 = .ok (.ifCond .ne 7, 3) := by decide +kernel
theorem dJ0_isLatin1_aae02_13 : decode cJ0_isLatin1_aae02 13 = .ok (.iconst 1, 1) := by decide +kernel
theorem dJ0_isLatin1_aae02_14 : decode cJ0_isLatin1_aae02 14 = .ok (.goto 4, 3) := by decide +kernel
theorem dJ0_isLatin1_aae02_17 : decode cJ0_isLatin1_aae02 17 = .ok (.iconst 0, 1) := by decide +kernel
theorem dJ0_isLatin1_aae02_18 : decode cJ0_isLatin1_aae02 18 = .ok (.ireturn, 1) := by decide +kernel
theorem dJ0_checkIndex_df160_0 : decode cJ0_checkIndex_df160 0 = .ok (.iload_n 0, 1) := by decide +kernel
theorem dJ0_checkIndex_df160_1 : decode cJ0_checkIndex_df160 1 = .ok (.iload_n 1, 1) := by decide +kernel
theorem dJ0_checkIndex_df160_2 : decode cJ0_checkIndex_df160 2 = .ok (.getstatic 1053, 3) := by decide +kernel
theorem dJ0_checkIndex_df160_5 : decode cJ0_checkIndex_df160 5 = .ok (.invokestatic 1059, 3) := by decide +kernel
theorem dJ0_checkIndex_df160_8 : decode cJ0_checkIndex_df160 8 = .ok (.pop, 1) := by decide +kernel
theorem dJ0_checkIndex_df160_9 : decode cJ0_checkIndex_df160 9 = .ok (.return_, 1) := by decide +kernel
theorem dJ1_charAt_3b067_0 : decode cJ1_charAt_3b067 0 = .ok (.iload_n 1, 1) := by decide +kernel
theorem dJ1_charAt_3b067_1 : decode cJ1_charAt_3b067 1 = .ok (.aload_n 0, 1) := by decide +kernel
theorem dJ1_charAt_3b067_2 : decode cJ1_charAt_3b067 2 = .ok (.arraylength, 1) := by decide +kernel
theorem dJ1_charAt_3b067_3 : decode cJ1_charAt_3b067 3 = .ok (.invokestatic 9, 3) := by decide +kernel
theorem dJ1_charAt_3b067_6 : decode cJ1_charAt_3b067 6 = .ok (.aload_n 0, 1) := by decide +kernel
theorem dJ1_charAt_3b067_7 : decode cJ1_charAt_3b067 7 = .ok (.iload_n 1, 1) := by decide +kernel
theorem dJ1_charAt_3b067_8 : decode cJ1_charAt_3b067 8 = .ok (.baload, 1) := by decide +kernel
theorem dJ1_charAt_3b067_9 : decode cJ1_charAt_3b067 9 = .ok (.sipush 255, 3) := by decide +kernel
theorem dJ1_charAt_3b067_12 : decode cJ1_charAt_3b067 12 = .ok (.iand, 1) := by decide +kernel
theorem dJ1_charAt_3b067_13 : decode cJ1_charAt_3b067 13 = .ok (.i2c, 1) := by decide +kernel
theorem dJ1_charAt_3b067_14 : decode cJ1_charAt_3b067 14 = .ok (.ireturn, 1) := by decide +kernel
theorem dJ2_getChar_3b067_0 : decode cJ2_getChar_3b067 0 = .ok (.getstatic 44, 3) := by decide +kernel
theorem dJ2_getChar_3b067_3 : decode cJ2_getChar_3b067 3 = .ok (.ifCond .ne 25, 3) := by decide +kernel
theorem dJ2_getChar_3b067_6 : decode cJ2_getChar_3b067 6 = .ok (.iload_n 1, 1) := by decide +kernel
theorem dJ2_getChar_3b067_7 : decode cJ2_getChar_3b067 7 = .ok (.ifCond .lt 11, 3) := by decide +kernel
theorem dJ2_getChar_3b067_10 : decode cJ2_getChar_3b067 10 = .ok (.iload_n 1, 1) := by decide +kernel
theorem dJ2_getChar_3b067_11 : decode cJ2_getChar_3b067 11 = .ok (.aload_n 0, 1) := by decide +kernel
theorem dJ2_getChar_3b067_12 : decode cJ2_getChar_3b067 12 = .ok (.invokestatic 48, 3) := by decide +kernel
theorem dJ2_getChar_3b067_15 : decode cJ2_getChar_3b067 15 = .ok (.if_icmp .lt 13, 3) := by decide +kernel
theorem dJ2_getChar_3b067_18 : decode cJ2_getChar_3b067 18 = .ok (.new 52, 3) := by decide +kernel
theorem dJ2_getChar_3b067_21 : decode cJ2_getChar_3b067 21 = .ok (.dup, 1) := by decide +kernel
theorem dJ2_getChar_3b067_22 : decode cJ2_getChar_3b067 22 = .ok (.ldc 54, 2) := by decide +kernel
theorem dJ2_getChar_3b067_24 : decode cJ2_getChar_3b067 24 = .ok (.invokespecial 56, 3) := by decide +kernel
theorem dJ2_getChar_3b067_27 : decode cJ2_getChar_3b067 27 = .ok (.athrow, 1) := by decide +kernel
theorem dJ2_getChar_3b067_28 : decode cJ2_getChar_3b067 28 = .ok (.iload_n 1, 1) := by decide +kernel
theorem dJ2_getChar_3b067_29 : decode cJ2_getChar_3b067 29 = .ok (.iconst 1, 1) := by decide +kernel
theorem dJ2_getChar_3b067_30 : decode cJ2_getChar_3b067 30 = .ok (.ishl, 1) := by decide +kernel
theorem dJ2_getChar_3b067_31 : decode cJ2_getChar_3b067 31 = .ok (.istore_n 1, 1) := by decide +kernel
theorem dJ2_getChar_3b067_32 : decode cJ2_getChar_3b067 32 = .ok (.aload_n 0, 1) := by decide +kernel
theorem dJ2_getChar_3b067_33 : decode cJ2_getChar_3b067 33 = .ok (.iload_n 1, 1) := by decide +kernel
theorem dJ2_getChar_3b067_34 : decode cJ2_getChar_3b067 34 = .ok (.iinc 1 1, 3) := by decide +kernel
theorem dJ2_getChar_3b067_37 : decode cJ2_getChar_3b067 37 = .ok (.baload, 1) := by decide +kernel
theorem dJ2_getChar_3b067_38 : decode cJ2_getChar_3b067 38 = .ok (.sipush 255, 3) := by decide +kernel
theorem dJ2_getChar_3b067_41 : decode cJ2_getChar_3b067 41 = .ok (.iand, 1) := by decide +kernel
theorem dJ2_getChar_3b067_42 : decode cJ2_getChar_3b067 42 = .ok (.getstatic 59, 3) := by decide +kernel
theorem dJ2_getChar_3b067_45 : decode cJ2_getChar_3b067 45 = .ok (.ishl, 1) := by decide +kernel
theorem dJ2_getChar_3b067_46 : decode cJ2_getChar_3b067 46 = .ok (.aload_n 0, 1) := by decide +kernel
theorem dJ2_getChar_3b067_47 : decode cJ2_getChar_3b067 47 = .ok (.iload_n 1, 1) := by decide +kernel
theorem dJ2_getChar_3b067_48 : decode cJ2_getChar_3b067 48 = .ok (.baload, 1) := by decide +kernel
theorem dJ2_getChar_3b067_49 : decode cJ2_getChar_3b067 49 = .ok (.sipush 255, 3) := by decide +kernel
theorem dJ2_getChar_3b067_52 : decode cJ2_getChar_3b067 52 = .ok (.iand, 1) := by decide +kernel
theorem dJ2_getChar_3b067_53 : decode cJ2_getChar_3b067 53 = .ok (.getstatic 63, 3) := by decide +kernel
theorem dJ2_getChar_3b067_56 : decode cJ2_getChar_3b067 56 = .ok (.ishl, 1) := by decide +kernel
theorem dJ2_getChar_3b067_57 : decode cJ2_getChar_3b067 57 = .ok (.ior, 1) := by decide +kernel
theorem dJ2_getChar_3b067_58 : decode cJ2_getChar_3b067 58 = .ok (.i2c, 1) := by decide +kernel
theorem dJ2_getChar_3b067_59 : decode cJ2_getChar_3b067 59 = .ok (.ireturn, 1) := by decide +kernel
theorem dJ2_length_9d52b_0 : decode cJ2_length_9d52b 0 = .ok (.aload_n 0, 1) := by decide +kernel
theorem dJ2_length_9d52b_1 : decode cJ2_length_9d52b 1 = .ok (.arraylength, 1) := by decide +kernel
theorem dJ2_length_9d52b_2 : decode cJ2_length_9d52b 2 = .ok (.iconst 1, 1) := by decide +kernel
theorem dJ2_length_9d52b_3 : decode cJ2_length_9d52b 3 = .ok (.ishr, 1) := by decide +kernel
theorem dJ2_length_9d52b_4 : decode cJ2_length_9d52b 4 = .ok (.ireturn, 1) := by decide +kernel
theorem dJ2_charAt_3b067_0 : decode cJ2_charAt_3b067 0 = .ok (.iload_n 1, 1) := by decide +kernel
theorem dJ2_charAt_3b067_1 : decode cJ2_charAt_3b067 1 = .ok (.aload_n 0, 1) := by decide +kernel
theorem dJ2_charAt_3b067_2 : decode cJ2_charAt_3b067 2 = .ok (.invokestatic 67, 3) := by decide +kernel
theorem dJ2_charAt_3b067_5 : decode cJ2_charAt_3b067 5 = .ok (.aload_n 0, 1) := by decide +kernel
theorem dJ2_charAt_3b067_6 : decode cJ2_charAt_3b067 6 = .ok (.iload_n 1, 1) := by decide +kernel
theorem dJ2_charAt_3b067_7 : decode cJ2_charAt_3b067 7 = .ok (.invokestatic 71, 3) := by decide +kernel
theorem dJ2_charAt_3b067_10 : decode cJ2_charAt_3b067 10 = .ok (.ireturn, 1) := by decide +kernel
theorem dJ2_checkIndex_2214a_0 : decode cJ2_checkIndex_2214a 0 = .ok (.iload_n 0, 1) := by decide +kernel
theorem dJ2_checkIndex_2214a_1 : decode cJ2_checkIndex_2214a 1 = .ok (.aload_n 1, 1) := by decide +kernel
theorem dJ2_checkIndex_2214a_2 : decode cJ2_checkIndex_2214a 2 = .ok (.invokestatic 48, 3) := by decide +kernel
theorem dJ2_checkIndex_2214a_5 : decode cJ2_checkIndex_2214a 5 = .ok (.invokestatic 414, 3) := by decide +kernel
theorem dJ2_checkIndex_2214a_8 : decode cJ2_checkIndex_2214a 8 = .ok (.return_, 1) := by decide +kernel
theorem dJ3_checkIndex_8e157_0 : decode cJ3_checkIndex_8e157 0 = .ok (.iload_n 0, 1) := by decide +kernel
theorem dJ3_checkIndex_8e157_1 : decode cJ3_checkIndex_8e157 1 = .ok (.ifCond .lt 8, 3) := by decide +kernel
theorem dJ3_checkIndex_8e157_4 : decode cJ3_checkIndex_8e157 4 = .ok (.iload_n 0, 1) := by decide +kernel
theorem dJ3_checkIndex_8e157_5 : decode cJ3_checkIndex_8e157 5 = .ok (.iload_n 1, 1) := by decide +kernel
theorem dJ3_checkIndex_8e157_6 : decode cJ3_checkIndex_8e157 6 = .ok (.if_icmp .lt 10, 3) := by decide +kernel
theorem dJ3_checkIndex_8e157_9 : decode cJ3_checkIndex_8e157 9 = .ok (.aload_n 2, 1) := by decide +kernel
theorem dJ3_checkIndex_8e157_10 : decode cJ3_checkIndex_8e157 10 = .ok (.iload_n 0, 1) := by decide +kernel
theorem dJ3_checkIndex_8e157_11 : decode cJ3_checkIndex_8e157 11 = .ok (.iload_n 1, 1) := by decide +kernel
theorem dJ3_checkIndex_8e157_12 : decode cJ3_checkIndex_8e157 12 = .ok (.invokestatic 95, 3) := by decide +kernel
theorem dJ3_checkIndex_8e157_15 : decode cJ3_checkIndex_8e157 15 = .ok (.athrow, 1) := by decide +kernel
theorem dJ3_checkIndex_8e157_16 : decode cJ3_checkIndex_8e157 16 = .ok (.iload_n 0, 1) := by decide +kernel
theorem dJ3_checkIndex_8e157_17 : decode cJ3_checkIndex_8e157 17 = .ok (.ireturn, 1) := by decide +kernel
theorem dX9_init_0 : decode cX9_init 0 = .ok (.aload_n 0, 1) := by decide +kernel
theorem dX9_init_1 : decode cX9_init 1 = .ok (.invokespecial 3, 3) := by decide +kernel
theorem dX9_init_4 : decode cX9_init 4 = .ok (.aload_n 0, 1) := by decide +kernel
theorem dX9_init_5 : decode cX9_init 5 = .ok (.bipush 20, 2) := by decide +kernel
theorem dX9_init_7 : decode cX9_init 7 = .ok (.newarray .int, 2) := by decide +kernel
theorem dX9_init_9 : decode cX9_init 9 = .ok (.putfield 9, 3) := by decide +kernel
theorem dX9_init_12 : decode cX9_init 12 = .ok (.aload_n 0, 1) := by decide +kernel
theorem dX9_init_13 : decode cX9_init 13 = .ok (.bipush 80, 2) := by decide +kernel
theorem dX9_init_15 : decode cX9_init 15 = .ok (.newarray .int, 2) := by decide +kernel
theorem dX9_init_17 : decode cX9_init 17 = .ok (.putfield 15, 3) := by decide +kernel
theorem dX9_init_20 : decode cX9_init 20 = .ok (.aload_n 0, 1) := by decide +kernel
theorem dX9_init_21 : decode cX9_init 21 = .ok (.bipush 20, 2) := by decide +kernel
theorem dX9_init_23 : decode cX9_init 23 = .ok (.newarray .int, 2) := by decide +kernel
theorem dX9_init_25 : decode cX9_init 25 = .ok (.putfield 18, 3) := by decide +kernel
theorem dX9_init_28 : decode cX9_init 28 = .ok (.aload_n 0, 1) := by decide +kernel
theorem dX9_init_29 : decode cX9_init 29 = .ok (.bipush 20, 2) := by decide +kernel
theorem dX9_init_31 : decode cX9_init 31 = .ok (.newarray .int, 2) := by decide +kernel
theorem dX9_init_33 : decode cX9_init 33 = .ok (.putfield 21, 3) := by decide +kernel
theorem dX9_init_36 : decode cX9_init 36 = .ok (.aload_n 0, 1) := by decide +kernel
theorem dX9_init_37 : decode cX9_init 37 = .ok (.bipush 20, 2) := by decide +kernel
theorem dX9_init_39 : decode cX9_init 39 = .ok (.newarray .int, 2) := by decide +kernel
theorem dX9_init_41 : decode cX9_init 41 = .ok (.putfield 24, 3) := by decide +kernel
theorem dX9_init_44 : decode cX9_init 44 = .ok (.aload_n 0, 1) := by decide +kernel
theorem dX9_init_45 : decode cX9_init 45 = .ok (.getstatic 27, 3) := by decide +kernel
theorem dX9_init_48 : decode cX9_init 48 = .ok (.invokevirtual 30, 3) := by decide +kernel
theorem dX9_init_51 : decode cX9_init 51 = .ok (.checkcast 31, 3) := by decide +kernel
theorem dX9_init_54 : decode cX9_init 54 = .ok (.putfield 35, 3) := by decide +kernel
theorem dX9_init_57 : decode cX9_init 57 = .ok (.aload_n 0, 1) := by decide +kernel
theorem dX9_init_58 : decode cX9_init 58 = .ok (.iconst 1, 1) := by decide +kernel
theorem dX9_init_59 : decode cX9_init 59 = .ok (.putfield 38, 3) := by decide +kernel
theorem dX9_init_62 : decode cX9_init 62 = .ok (.aload_n 0, 1) := by decide +kernel
theorem dX9_init_63 : decode cX9_init 63 = .ok (.iconst 5, 1) := by decide +kernel
theorem dX9_init_64 : decode cX9_init 64 = .ok (.anewarray 42, 3) := by decide +kernel
theorem dX9_init_67 : decode cX9_init 67 = .ok (.putfield 44, 3) := by decide +kernel
theorem dX9_init_70 : decode cX9_init 70 = .ok (.aload_n 0, 1) := by decide +kernel
theorem dX9_init_71 : decode cX9_init 71 = .ok (.iconst 5, 1) := by decide +kernel
theorem dX9_init_72 : decode cX9_init 72 = .ok (.newarray .int, 2) := by decide +kernel
theorem dX9_init_74 : decode cX9_init 74 = .ok (.putfield 48, 3) := by decide +kernel
theorem dX9_init_77 : decode cX9_init 77 = .ok (.aload_n 0, 1) := by decide +kernel
theorem dX9_init_78 : decode cX9_init 78 = .ok (.bipush 40, 2) := by decide +kernel
theorem dX9_init_80 : decode cX9_init 80 = .ok (.newarray .int, 2) := by decide +kernel
theorem dX9_init_82 : decode cX9_init 82 = .ok (.putfield 51, 3) := by decide +kernel
theorem dX9_init_85 : decode cX9_init 85 = .ok (.aload_n 0, 1) := by decide +kernel
theorem dX9_init_86 : decode cX9_init 86 = .ok (.bipush 40, 2) := by decide +kernel
theorem dX9_init_88 : decode cX9_init 88 = .ok (.newarray .int, 2) := by decide +kernel
theorem dX9_init_90 : decode cX9_init 90 = .ok (.putfield 54, 3) := by decide +kernel
theorem dX9_init_93 : decode cX9_init 93 = .ok (.aload_n 0, 1) := by decide +kernel
theorem dX9_init_94 : decode cX9_init 94 = .ok (.bipush 40, 2) := by decide +kernel
theorem dX9_init_96 : decode cX9_init 96 = .ok (.newarray .int, 2) := by decide +kernel
theorem dX9_init_98 : decode cX9_init 98 = .ok (.putfield 57, 3) := by decide +kernel
theorem dX9_init_101 : decode cX9_init 101 = .ok (.aload_n 0, 1) := by decide +kernel
theorem dX9_init_102 : decode cX9_init 102 = .ok (.invokevirtual 60, 3) := by decide +kernel
theorem dX9_init_105 : decode cX9_init 105 = .ok (.return_, 1) := by decide +kernel
theorem dX9_forgetAll_0 : decode cX9_forgetAll 0 = .ok (.iconst 0, 1) := by decide +kernel
theorem dX9_forgetAll_1 : decode cX9_forgetAll 1 = .ok (.istore_n 1, 1) := by decide +kernel
theorem dX9_forgetAll_2 : decode cX9_forgetAll 2 = .ok (.iload_n 1, 1) := by decide +kernel
theorem dX9_forgetAll_3 : decode cX9_forgetAll 3 = .ok (.bipush 20, 2) := by decide +kernel
theorem dX9_forgetAll_5 : decode cX9_forgetAll 5 = .ok (.if_icmp .ge 28, 3) := by decide +kernel
theorem dX9_forgetAll_8 : decode cX9_forgetAll 8 = .ok (.aload_n 0, 1) := by decide +kernel
theorem dX9_forgetAll_9 : decode cX9_forgetAll 9 = .ok (.iload_n 1, 1) := by decide +kernel
theorem dX9_forgetAll_10 : decode cX9_forgetAll 10 = .ok (.invokevirtual 63, 3) := by decide +kernel
theorem dX9_forgetAll_13 : decode cX9_forgetAll 13 = .ok (.aload_n 0, 1) := by decide +kernel
theorem dX9_forgetAll_14 : decode cX9_forgetAll 14 = .ok (.getfield 21, 3) := by decide +kernel
theorem dX9_forgetAll_17 : decode cX9_forgetAll 17 = .ok (.iload_n 1, 1) := by decide +kernel
theorem dX9_forgetAll_18 : decode cX9_forgetAll 18 = .ok (.iconst (-1), 1) := by decide +kernel
theorem dX9_forgetAll_19 : decode cX9_forgetAll 19 = .ok (.iastore, 1) := by decide +kernel
theorem dX9_forgetAll_20 : decode cX9_forgetAll 20 = .ok (.aload_n 0, 1) := by decide +kernel
theorem dX9_forgetAll_21 : decode cX9_forgetAll 21 = .ok (.getfield 24, 3) := by decide +kernel
theorem dX9_forgetAll_24 : decode cX9_forgetAll 24 = .ok (.iload_n 1, 1) := by decide +kernel
theorem dX9_forgetAll_25 : decode cX9_forgetAll 25 = .ok (.iconst 0, 1) := by decide +kernel
theorem dX9_forgetAll_26 : decode cX9_forgetAll 26 = .ok (.iastore, 1) := by decide +kernel
theorem dX9_forgetAll_27 : decode cX9_forgetAll 27 = .ok (.iinc 1 1, 3) := by decide +kernel
theorem dX9_forgetAll_30 : decode cX9_forgetAll 30 = .ok (.goto (-28), 3) := by decide +kernel
theorem dX9_forgetAll_33 : decode cX9_forgetAll 33 = .ok (.aload_n 0, 1) := by decide +kernel
theorem dX9_forgetAll_34 : decode cX9_forgetAll 34 = .ok (.iconst 0, 1) := by decide +kernel
theorem dX9_forgetAll_35 : decode cX9_forgetAll 35 = .ok (.putfield 67, 3) := by decide +kernel
theorem dX9_forgetAll_38 : decode cX9_forgetAll 38 = .ok (.aload_n 0, 1) := by decide +kernel
theorem dX9_forgetAll_39 : decode cX9_forgetAll 39 = .ok (.iconst 0, 1) := by decide +kernel
theorem dX9_forgetAll_40 : decode cX9_forgetAll 40 = .ok (.putfield 70, 3) := by decide +kernel
theorem dX9_forgetAll_43 : decode cX9_forgetAll 43 = .ok (.aload_n 0, 1) := by decide +kernel
theorem dX9_forgetAll_44 : decode cX9_forgetAll 44 = .ok (.iconst 0, 1) := by decide +kernel
theorem dX9_forgetAll_45 : decode cX9_forgetAll 45 = .ok (.putfield 73, 3) := by decide +kernel
theorem dX9_forgetAll_48 : decode cX9_forgetAll 48 = .ok (.return_, 1) := by decide +kernel
theorem dX9_forgetDay_0 : decode cX9_forgetDay 0 = .ok (.aload_n 0, 1) := by decide +kernel
theorem dX9_forgetDay_1 : decode cX9_forgetDay 1 = .ok (.getfield 9, 3) := by decide +kernel
theorem dX9_forgetDay_4 : decode cX9_forgetDay 4 = .ok (.iload_n 1, 1) := by decide +kernel
theorem dX9_forgetDay_5 : decode cX9_forgetDay 5 = .ok (.bipush 10, 2) := by decide +kernel
theorem dX9_forgetDay_7 : decode cX9_forgetDay 7 = .ok (.iastore, 1) := by decide +kernel
theorem dX9_forgetDay_8 : decode cX9_forgetDay 8 = .ok (.aload_n 0, 1) := by decide +kernel
theorem dX9_forgetDay_9 : decode cX9_forgetDay 9 = .ok (.getfield 18, 3) := by decide +kernel
theorem dX9_forgetDay_12 : decode cX9_forgetDay 12 = .ok (.iload_n 1, 1) := by decide +kernel
theorem dX9_forgetDay_13 : decode cX9_forgetDay 13 = .ok (.iconst (-1), 1) := by decide +kernel
theorem dX9_forgetDay_14 : decode cX9_forgetDay 14 = .ok (.iastore, 1) := by decide +kernel
theorem dX9_forgetDay_15 : decode cX9_forgetDay 15 = .ok (.iconst 0, 1) := by decide +kernel
theorem dX9_forgetDay_16 : decode cX9_forgetDay 16 = .ok (.istore_n 2, 1) := by decide +kernel
theorem dX9_forgetDay_17 : decode cX9_forgetDay 17 = .ok (.iload_n 2, 1) := by decide +kernel
theorem dX9_forgetDay_18 : decode cX9_forgetDay 18 = .ok (.iconst 4, 1) := by decide +kernel
theorem dX9_forgetDay_19 : decode cX9_forgetDay 19 = .ok (.if_icmp .ge 20, 3) := by decide +kernel
theorem dX9_forgetDay_22 : decode cX9_forgetDay 22 = .ok (.aload_n 0, 1) := by decide +kernel
theorem dX9_forgetDay_23 : decode cX9_forgetDay 23 = .ok (.getfield 15, 3) := by decide +kernel
theorem dX9_forgetDay_26 : decode cX9_forgetDay 26 = .ok (.iload_n 1, 1) := by decide +kernel
theorem dX9_forgetDay_27 : decode cX9_forgetDay 27 = .ok (.iconst 4, 1) := by decide +kernel
theorem dX9_forgetDay_28 : decode cX9_forgetDay 28 = .ok (.imul, 1) := by decide +kernel
theorem dX9_forgetDay_29 : decode cX9_forgetDay 29 = .ok (.iload_n 2, 1) := by decide +kernel
theorem dX9_forgetDay_30 : decode cX9_forgetDay 30 = .ok (.iadd, 1) := by decide +kernel
theorem dX9_forgetDay_31 : decode cX9_forgetDay 31 = .ok (.iconst 1, 1) := by decide +kernel
theorem dX9_forgetDay_32 : decode cX9_forgetDay 32 = .ok (.iastore, 1) := by decide +kernel
theorem dX9_forgetDay_33 : decode cX9_forgetDay 33 = .ok (.iinc 2 1, 3) := by decide +kernel
theorem dX9_forgetDay_36 : decode cX9_forgetDay 36 = .ok (.goto (-19), 3) := by decide +kernel
theorem dX9_forgetDay_39 : decode cX9_forgetDay 39 = .ok (.return_, 1) := by decide +kernel
theorem dX9_become_0 : decode cX9_become 0 = .ok (.aload_n 1, 1) := by decide +kernel
theorem dX9_become_1 : decode cX9_become 1 = .ok (.getfield 9, 3) := by decide +kernel
theorem dX9_become_4 : decode cX9_become 4 = .ok (.iconst 0, 1) := by decide +kernel
theorem dX9_become_5 : decode cX9_become 5 = .ok (.aload_n 0, 1) := by decide +kernel
theorem dX9_become_6 : decode cX9_become 6 = .ok (.getfield 9, 3) := by decide +kernel
theorem dX9_become_9 : decode cX9_become 9 = .ok (.iconst 0, 1) := by decide +kernel
theorem dX9_become_10 : decode cX9_become 10 = .ok (.bipush 20, 2) := by decide +kernel
theorem dX9_become_12 : decode cX9_become 12 = .ok (.invokestatic 76, 3) := by decide +kernel
theorem dX9_become_15 : decode cX9_become 15 = .ok (.aload_n 1, 1) := by decide +kernel
theorem dX9_become_16 : decode cX9_become 16 = .ok (.getfield 15, 3) := by decide +kernel
theorem dX9_become_19 : decode cX9_become 19 = .ok (.iconst 0, 1) := by decide +kernel
theorem dX9_become_20 : decode cX9_become 20 = .ok (.aload_n 0, 1) := by decide +kernel
theorem dX9_become_21 : decode cX9_become 21 = .ok (.getfield 15, 3) := by decide +kernel
theorem dX9_become_24 : decode cX9_become 24 = .ok (.iconst 0, 1) := by decide +kernel
theorem dX9_become_25 : decode cX9_become 25 = .ok (.bipush 80, 2) := by decide +kernel
theorem dX9_become_27 : decode cX9_become 27 = .ok (.invokestatic 76, 3) := by decide +kernel
theorem dX9_become_30 : decode cX9_become 30 = .ok (.aload_n 1, 1) := by decide +kernel
theorem dX9_become_31 : decode cX9_become 31 = .ok (.getfield 18, 3) := by decide +kernel
theorem dX9_become_34 : decode cX9_become 34 = .ok (.iconst 0, 1) := by decide +kernel
theorem dX9_become_35 : decode cX9_become 35 = .ok (.aload_n 0, 1) := by decide +kernel
theorem dX9_become_36 : decode cX9_become 36 = .ok (.getfield 18, 3) := by decide +kernel
theorem dX9_become_39 : decode cX9_become 39 = .ok (.iconst 0, 1) := by decide +kernel
theorem dX9_become_40 : decode cX9_become 40 = .ok (.bipush 20, 2) := by decide +kernel
theorem dX9_become_42 : decode cX9_become 42 = .ok (.invokestatic 76, 3) := by decide +kernel
theorem dX9_become_45 : decode cX9_become 45 = .ok (.aload_n 1, 1) := by decide +kernel
theorem dX9_become_46 : decode cX9_become 46 = .ok (.getfield 21, 3) := by decide +kernel
theorem dX9_become_49 : decode cX9_become 49 = .ok (.iconst 0, 1) := by decide +kernel
theorem dX9_become_50 : decode cX9_become 50 = .ok (.aload_n 0, 1) := by decide +kernel
theorem dX9_become_51 : decode cX9_become 51 = .ok (.getfield 21, 3) := by decide +kernel
theorem dX9_become_54 : decode cX9_become 54 = .ok (.iconst 0, 1) := by decide +kernel
theorem dX9_become_55 : decode cX9_become 55 = .ok (.bipush 20, 2) := by decide +kernel
theorem dX9_become_57 : decode cX9_become 57 = .ok (.invokestatic 76, 3) := by decide +kernel
theorem dX9_become_60 : decode cX9_become 60 = .ok (.aload_n 1, 1) := by decide +kernel
theorem dX9_become_61 : decode cX9_become 61 = .ok (.getfield 24, 3) := by decide +kernel
theorem dX9_become_64 : decode cX9_become 64 = .ok (.iconst 0, 1) := by decide +kernel
theorem dX9_become_65 : decode cX9_become 65 = .ok (.aload_n 0, 1) := by decide +kernel
theorem dX9_become_66 : decode cX9_become 66 = .ok (.getfield 24, 3) := by decide +kernel
theorem dX9_become_69 : decode cX9_become 69 = .ok (.iconst 0, 1) := by decide +kernel
theorem dX9_become_70 : decode cX9_become 70 = .ok (.bipush 20, 2) := by decide +kernel
theorem dX9_become_72 : decode cX9_become 72 = .ok (.invokestatic 76, 3) := by decide +kernel
theorem dX9_become_75 : decode cX9_become 75 = .ok (.aload_n 1, 1) := by decide +kernel
theorem dX9_become_76 : decode cX9_become 76 = .ok (.getfield 35, 3) := by decide +kernel
theorem dX9_become_79 : decode cX9_become 79 = .ok (.iconst 0, 1) := by decide +kernel
theorem dX9_become_80 : decode cX9_become 80 = .ok (.aload_n 0, 1) := by decide +kernel
theorem dX9_become_81 : decode cX9_become 81 = .ok (.getfield 35, 3) := by decide +kernel
theorem dX9_become_84 : decode cX9_become 84 = .ok (.iconst 0, 1) := by decide +kernel
theorem dX9_become_85 : decode cX9_become 85 = .ok (.iconst 4, 1) := by decide +kernel
theorem dX9_become_86 : decode cX9_become 86 = .ok (.invokestatic 76, 3) := by decide +kernel
theorem dX9_become_89 : decode cX9_become 89 = .ok (.aload_n 0, 1) := by decide +kernel
theorem dX9_become_90 : decode cX9_become 90 = .ok (.aload_n 1, 1) := by decide +kernel
theorem dX9_become_91 : decode cX9_become 91 = .ok (.getfield 67, 3) := by decide +kernel
theorem dX9_become_94 : decode cX9_become 94 = .ok (.putfield 67, 3) := by decide +kernel
theorem dX9_become_97 : decode cX9_become 97 = .ok (.aload_n 0, 1) := by decide +kernel
theorem dX9_become_98 : decode cX9_become 98 = .ok (.aload_n 1, 1) := by decide +kernel
theorem dX9_become_99 : decode cX9_become 99 = .ok (.getfield 38, 3) := by decide +kernel
theorem dX9_become_102 : decode cX9_become 102 = .ok (.putfield 38, 3) := by decide +kernel
theorem dX9_become_105 : decode cX9_become 105 = .ok (.iconst 0, 1) := by decide +kernel
theorem dX9_become_106 : decode cX9_become 106 = .ok (.istore_n 2, 1) := by decide +kernel
theorem dX9_become_107 : decode cX9_become 107 = .ok (.iload_n 2, 1) := by decide +kernel
theorem dX9_become_108 : decode cX9_become 108 = .ok (.iconst 5, 1) := by decide +kernel
theorem dX9_become_109 : decode cX9_become 109 = .ok (.if_icmp .ge 21, 3) := by decide +kernel
theorem dX9_become_112 : decode cX9_become 112 = .ok (.aload_n 0, 1) := by decide +kernel
theorem dX9_become_113 : decode cX9_become 113 = .ok (.getfield 44, 3) := by decide +kernel
theorem dX9_become_116 : decode cX9_become 116 = .ok (.iload_n 2, 1) := by decide +kernel
theorem dX9_become_117 : decode cX9_become 117 = .ok (.aload_n 1, 1) := by decide +kernel
theorem dX9_become_118 : decode cX9_become 118 = .ok (.getfield 44, 3) := by decide +kernel
theorem dX9_become_121 : decode cX9_become 121 = .ok (.iload_n 2, 1) := by decide +kernel
theorem dX9_become_122 : decode cX9_become 122 = .ok (.aaload, 1) := by decide +kernel
theorem dX9_become_123 : decode cX9_become 123 = .ok (.aastore, 1) := by decide +kernel
theorem dX9_become_124 : decode cX9_become 124 = .ok (.iinc 2 1, 3) := by decide +kernel
theorem dX9_become_127 : decode cX9_become 127 = .ok (.goto (-20), 3) := by decide +kernel
theorem dX9_become_130 : decode cX9_become 130 = .ok (.aload_n 1, 1) := by decide +kernel
theorem dX9_become_131 : decode cX9_become 131 = .ok (.getfield 48, 3) := by decide +kernel
theorem dX9_become_134 : decode cX9_become 134 = .ok (.iconst 0, 1) := by decide +kernel
theorem dX9_become_135 : decode cX9_become 135 = .ok (.aload_n 0, 1) := by decide +kernel
theorem dX9_become_136 : decode cX9_become 136 = .ok (.getfield 48, 3) := by decide +kernel
theorem dX9_become_139 : decode cX9_become 139 = .ok (.iconst 0, 1) := by decide +kernel
theorem dX9_become_140 : decode cX9_become 140 = .ok (.iconst 5, 1) := by decide +kernel
theorem dX9_become_141 : decode cX9_become 141 = .ok (.invokestatic 76, 3) := by decide +kernel
theorem dX9_become_144 : decode cX9_become 144 = .ok (.aload_n 0, 1) := by decide +kernel
theorem dX9_become_145 : decode cX9_become 145 = .ok (.aload_n 1, 1) := by decide +kernel
theorem dX9_become_146 : decode cX9_become 146 = .ok (.getfield 70, 3) := by decide +kernel
theorem dX9_become_149 : decode cX9_become 149 = .ok (.putfield 70, 3) := by decide +kernel
theorem dX9_become_152 : decode cX9_become 152 = .ok (.aload_n 1, 1) := by decide +kernel
theorem dX9_become_153 : decode cX9_become 153 = .ok (.getfield 51, 3) := by decide +kernel
theorem dX9_become_156 : decode cX9_become 156 = .ok (.iconst 0, 1) := by decide +kernel
theorem dX9_become_157 : decode cX9_become 157 = .ok (.aload_n 0, 1) := by decide +kernel
theorem dX9_become_158 : decode cX9_become 158 = .ok (.getfield 51, 3) := by decide +kernel
theorem dX9_become_161 : decode cX9_become 161 = .ok (.iconst 0, 1) := by decide +kernel
theorem dX9_become_162 : decode cX9_become 162 = .ok (.bipush 40, 2) := by decide +kernel
theorem dX9_become_164 : decode cX9_become 164 = .ok (.invokestatic 76, 3) := by decide +kernel
theorem dX9_become_167 : decode cX9_become 167 = .ok (.aload_n 1, 1) := by decide +kernel
theorem dX9_become_168 : decode cX9_become 168 = .ok (.getfield 54, 3) := by decide +kernel
theorem dX9_become_171 : decode cX9_become 171 = .ok (.iconst 0, 1) := by decide +kernel
theorem dX9_become_172 : decode cX9_become 172 = .ok (.aload_n 0, 1) := by decide +kernel
theorem dX9_become_173 : decode cX9_become 173 = .ok (.getfield 54, 3) := by decide +kernel
theorem dX9_become_176 : decode cX9_become 176 = .ok (.iconst 0, 1) := by decide +kernel
theorem dX9_become_177 : decode cX9_become 177 = .ok (.bipush 40, 2) := by decide +kernel
theorem dX9_become_179 : decode cX9_become 179 = .ok (.invokestatic 76, 3) := by decide +kernel
theorem dX9_become_182 : decode cX9_become 182 = .ok (.aload_n 1, 1) := by decide +kernel
theorem dX9_become_183 : decode cX9_become 183 = .ok (.getfield 57, 3) := by decide +kernel
theorem dX9_become_186 : decode cX9_become 186 = .ok (.iconst 0, 1) := by decide +kernel
theorem dX9_become_187 : decode cX9_become 187 = .ok (.aload_n 0, 1) := by decide +kernel
theorem dX9_become_188 : decode cX9_become 188 = .ok (.getfield 57, 3) := by decide +kernel
theorem dX9_become_191 : decode cX9_become 191 = .ok (.iconst 0, 1) := by decide +kernel
theorem dX9_become_192 : decode cX9_become 192 = .ok (.bipush 40, 2) := by decide +kernel
theorem dX9_become_194 : decode cX9_become 194 = .ok (.invokestatic 76, 3) := by decide +kernel
theorem dX9_become_197 : decode cX9_become 197 = .ok (.aload_n 0, 1) := by decide +kernel
theorem dX9_become_198 : decode cX9_become 198 = .ok (.aload_n 1, 1) := by decide +kernel
theorem dX9_become_199 : decode cX9_become 199 = .ok (.getfield 73, 3) := by decide +kernel
theorem dX9_become_202 : decode cX9_become 202 = .ok (.putfield 73, 3) := by decide +kernel
theorem dX9_become_205 : decode cX9_become 205 = .ok (.return_, 1) := by decide +kernel
theorem dX9_isOver_0 : decode cX9_isOver 0 = .ok (.iload_n 1, 1) := by decide +kernel
theorem dX9_isOver_1 : decode cX9_isOver 1 = .ok (.aload_n 0, 1) := by decide +kernel
theorem dX9_isOver_2 : decode cX9_isOver 2 = .ok (.getfield 67, 3) := by decide +kernel
theorem dX9_isOver_5 : decode cX9_isOver 5 = .ok (.if_icmp .ge 7, 3) := by decide +kernel
theorem dX9_isOver_8 : decode cX9_isOver 8 = .ok (.iconst 1, 1) := by decide +kernel
theorem dX9_isOver_9 : decode cX9_isOver 9 = .ok (.goto 4, 3) := by decide +kernel
theorem dX9_isOver_12 : decode cX9_isOver 12 = .ok (.iconst 0, 1) := by decide +kernel
theorem dX9_isOver_13 : decode cX9_isOver 13 = .ok (.ireturn, 1) := by decide +kernel
theorem dX9_weightWith_0 : decode cX9_weightWith 0 = .ok (.aload_n 0, 1) := by decide +kernel
theorem dX9_weightWith_1 : decode cX9_weightWith 1 = .ok (.getfield 15, 3) := by decide +kernel
theorem dX9_weightWith_4 : decode cX9_weightWith 4 = .ok (.iload_n 1, 1) := by decide +kernel
theorem dX9_weightWith_5 : decode cX9_weightWith 5 = .ok (.iconst 4, 1) := by decide +kernel
theorem dX9_weightWith_6 : decode cX9_weightWith 6 = .ok (.imul, 1) := by decide +kernel
theorem dX9_weightWith_7 : decode cX9_weightWith 7 = .ok (.iload_n 2, 1) := by decide +kernel
theorem dX9_weightWith_8 : decode cX9_weightWith 8 = .ok (.iadd, 1) := by decide +kernel
theorem dX9_weightWith_9 : decode cX9_weightWith 9 = .ok (.iaload, 1) := by decide +kernel
theorem dX9_weightWith_10 : decode cX9_weightWith 10 = .ok (.istore 4, 2) := by decide +kernel
theorem dX9_weightWith_12 : decode cX9_weightWith 12 = .ok (.iload_n 2, 1) := by decide +kernel
theorem dX9_weightWith_13 : decode cX9_weightWith 13 = .ok (.iload_n 3, 1) := by decide +kernel
theorem dX9_weightWith_14 : decode cX9_weightWith 14 = .ok (.if_icmp .ne 15, 3) := by decide +kernel
theorem dX9_weightWith_17 : decode cX9_weightWith 17 = .ok (.iload 4, 2) := by decide +kernel
theorem dX9_weightWith_19 : decode cX9_weightWith 19 = .ok (.aload_n 0, 1) := by decide +kernel
theorem dX9_weightWith_20 : decode cX9_weightWith 20 = .ok (.getfield 35, 3) := by decide +kernel
theorem dX9_weightWith_23 : decode cX9_weightWith 23 = .ok (.iconst 3, 1) := by decide +kernel
theorem dX9_weightWith_24 : decode cX9_weightWith 24 = .ok (.iaload, 1) := by decide +kernel
theorem dX9_weightWith_25 : decode cX9_weightWith 25 = .ok (.iadd, 1) := by decide +kernel
theorem dX9_weightWith_26 : decode cX9_weightWith 26 = .ok (.goto 5, 3) := by decide +kernel
theorem dX9_weightWith_29 : decode cX9_weightWith 29 = .ok (.iload 4, 2) := by decide +kernel
theorem dX9_weightWith_31 : decode cX9_weightWith 31 = .ok (.ireturn, 1) := by decide +kernel
theorem dX9_allWith_0 : decode cX9_allWith 0 = .ok (.iconst 0, 1) := by decide +kernel
theorem dX9_allWith_1 : decode cX9_allWith 1 = .ok (.istore_n 3, 1) := by decide +kernel
theorem dX9_allWith_2 : decode cX9_allWith 2 = .ok (.iconst 0, 1) := by decide +kernel
theorem dX9_allWith_3 : decode cX9_allWith 3 = .ok (.istore 4, 2) := by decide +kernel
theorem dX9_allWith_5 : decode cX9_allWith 5 = .ok (.iload 4, 2) := by decide +kernel
theorem dX9_allWith_7 : decode cX9_allWith 7 = .ok (.iconst 4, 1) := by decide +kernel
theorem dX9_allWith_8 : decode cX9_allWith 8 = .ok (.if_icmp .ge 20, 3) := by decide +kernel
theorem dX9_allWith_11 : decode cX9_allWith 11 = .ok (.iload_n 3, 1) := by decide +kernel
theorem dX9_allWith_12 : decode cX9_allWith 12 = .ok (.aload_n 0, 1) := by decide +kernel
theorem dX9_allWith_13 : decode cX9_allWith 13 = .ok (.iload_n 1, 1) := by decide +kernel
theorem dX9_allWith_14 : decode cX9_allWith 14 = .ok (.iload 4, 2) := by decide +kernel
theorem dX9_allWith_16 : decode cX9_allWith 16 = .ok (.iload_n 2, 1) := by decide +kernel
theorem dX9_allWith_17 : decode cX9_allWith 17 = .ok (.invokevirtual 82, 3) := by decide +kernel
theorem dX9_allWith_20 : decode cX9_allWith 20 = .ok (.iadd, 1) := by decide +kernel
theorem dX9_allWith_21 : decode cX9_allWith 21 = .ok (.istore_n 3, 1) := by decide +kernel
theorem dX9_allWith_22 : decode cX9_allWith 22 = .ok (.iinc 4 1, 3) := by decide +kernel
theorem dX9_allWith_25 : decode cX9_allWith 25 = .ok (.goto (-20), 3) := by decide +kernel
theorem dX9_allWith_28 : decode cX9_allWith 28 = .ok (.iload_n 3, 1) := by decide +kernel
theorem dX9_allWith_29 : decode cX9_allWith 29 = .ok (.ireturn, 1) := by decide +kernel
theorem dX9_weightOf_0 : decode cX9_weightOf 0 = .ok (.aload_n 0, 1) := by decide +kernel
theorem dX9_weightOf_1 : decode cX9_weightOf 1 = .ok (.iload_n 1, 1) := by decide +kernel
theorem dX9_weightOf_2 : decode cX9_weightOf 2 = .ok (.iload_n 2, 1) := by decide +kernel
theorem dX9_weightOf_3 : decode cX9_weightOf 3 = .ok (.aload_n 0, 1) := by decide +kernel
theorem dX9_weightOf_4 : decode cX9_weightOf 4 = .ok (.getfield 18, 3) := by decide +kernel
theorem dX9_weightOf_7 : decode cX9_weightOf 7 = .ok (.iload_n 1, 1) := by decide +kernel
theorem dX9_weightOf_8 : decode cX9_weightOf 8 = .ok (.iaload, 1) := by decide +kernel
theorem dX9_weightOf_9 : decode cX9_weightOf 9 = .ok (.invokevirtual 82, 3) := by decide +kernel
theorem dX9_weightOf_12 : decode cX9_weightOf 12 = .ok (.ireturn, 1) := by decide +kernel
theorem dX9_allOf_0 : decode cX9_allOf 0 = .ok (.aload_n 0, 1) := by decide +kernel
theorem dX9_allOf_1 : decode cX9_allOf 1 = .ok (.iload_n 1, 1) := by decide +kernel
theorem dX9_allOf_2 : decode cX9_allOf 2 = .ok (.aload_n 0, 1) := by decide +kernel
theorem dX9_allOf_3 : decode cX9_allOf 3 = .ok (.getfield 18, 3) := by decide +kernel
theorem dX9_allOf_6 : decode cX9_allOf 6 = .ok (.iload_n 1, 1) := by decide +kernel
theorem dX9_allOf_7 : decode cX9_allOf 7 = .ok (.iaload, 1) := by decide +kernel
theorem dX9_allOf_8 : decode cX9_allOf 8 = .ok (.invokevirtual 86, 3) := by decide +kernel
theorem dX9_allOf_11 : decode cX9_allOf 11 = .ok (.ireturn, 1) := by decide +kernel
theorem dX9_earn_0 : decode cX9_earn 0 = .ok (.aload_n 0, 1) := by decide +kernel
theorem dX9_earn_1 : decode cX9_earn 1 = .ok (.getfield 9, 3) := by decide +kernel
theorem dX9_earn_4 : decode cX9_earn 4 = .ok (.iload_n 1, 1) := by decide +kernel
theorem dX9_earn_5 : decode cX9_earn 5 = .ok (.iaload, 1) := by decide +kernel
theorem dX9_earn_6 : decode cX9_earn 6 = .ok (.aload_n 0, 1) := by decide +kernel
theorem dX9_earn_7 : decode cX9_earn 7 = .ok (.getfield 35, 3) := by decide +kernel
theorem dX9_earn_10 : decode cX9_earn 10 = .ok (.iconst 0, 1) := by decide +kernel
theorem dX9_earn_11 : decode cX9_earn 11 = .ok (.iaload, 1) := by decide +kernel
theorem dX9_earn_12 : decode cX9_earn 12 = .ok (.imul, 1) := by decide +kernel
theorem dX9_earn_13 : decode cX9_earn 13 = .ok (.bipush 100, 2) := by decide +kernel
theorem dX9_earn_15 : decode cX9_earn 15 = .ok (.idiv, 1) := by decide +kernel
theorem dX9_earn_16 : decode cX9_earn 16 = .ok (.ireturn, 1) := by decide +kernel
theorem dX9_likeliest_0 : decode cX9_likeliest 0 = .ok (.iconst 0, 1) := by decide +kernel
theorem dX9_likeliest_1 : decode cX9_likeliest 1 = .ok (.istore_n 2, 1) := by decide +kernel
theorem dX9_likeliest_2 : decode cX9_likeliest 2 = .ok (.iconst (-1), 1) := by decide +kernel
theorem dX9_likeliest_3 : decode cX9_likeliest 3 = .ok (.istore_n 3, 1) := by decide +kernel
theorem dX9_likeliest_4 : decode cX9_likeliest 4 = .ok (.iconst 0, 1) := by decide +kernel
theorem dX9_likeliest_5 : decode cX9_likeliest 5 = .ok (.istore 4, 2) := by decide +kernel
theorem dX9_likeliest_7 : decode cX9_likeliest 7 = .ok (.iload 4, 2) := by decide +kernel
theorem dX9_likeliest_9 : decode cX9_likeliest 9 = .ok (.iconst 4, 1) := by decide +kernel
theorem dX9_likeliest_10 : decode cX9_likeliest 10 = .ok (.if_icmp .ge 36, 3) := by decide +kernel
theorem dX9_likeliest_13 : decode cX9_likeliest 13 = .ok (.aload_n 0, 1) := by decide +kernel
theorem dX9_likeliest_14 : decode cX9_likeliest 14 = .ok (.iload_n 1, 1) := by decide +kernel
theorem dX9_likeliest_15 : decode cX9_likeliest 15 = .ok (.iload 4, 2) := by decide +kernel
theorem dX9_likeliest_17 : decode cX9_likeliest 17 = .ok (.aload_n 0, 1) := by decide +kernel
theorem dX9_likeliest_18 : decode cX9_likeliest 18 = .ok (.getfield 18, 3) := by decide +kernel
theorem dX9_likeliest_21 : decode cX9_likeliest 21 = .ok (.iload_n 1, 1) := by decide +kernel
theorem dX9_likeliest_22 : decode cX9_likeliest 22 = .ok (.iaload, 1) := by decide +kernel
theorem dX9_likeliest_23 : decode cX9_likeliest 23 = .ok (.invokevirtual 82, 3) := by decide +kernel
theorem dX9_likeliest_26 : decode cX9_likeliest 26 = .ok (.istore 5, 2) := by decide +kernel
theorem dX9_likeliest_28 : decode cX9_likeliest 28 = .ok (.iload 5, 2) := by decide +kernel
theorem dX9_likeliest_30 : decode cX9_likeliest 30 = .ok (.iload_n 3, 1) := by decide +kernel
theorem dX9_likeliest_31 : decode cX9_likeliest 31 = .ok (.if_icmp .le 9, 3) := by decide +kernel
theorem dX9_likeliest_34 : decode cX9_likeliest 34 = .ok (.iload 4, 2) := by decide +kernel
theorem dX9_likeliest_36 : decode cX9_likeliest 36 = .ok (.istore_n 2, 1) := by decide +kernel
theorem dX9_likeliest_37 : decode cX9_likeliest 37 = .ok (.iload 5, 2) := by decide +kernel
theorem dX9_likeliest_39 : decode cX9_likeliest 39 = .ok (.istore_n 3, 1) := by decide +kernel
theorem dX9_likeliest_40 : decode cX9_likeliest 40 = .ok (.iinc 4 1, 3) := by decide +kernel
theorem dX9_likeliest_43 : decode cX9_likeliest 43 = .ok (.goto (-36), 3) := by decide +kernel
theorem dX9_likeliest_46 : decode cX9_likeliest 46 = .ok (.iload_n 2, 1) := by decide +kernel
theorem dX9_likeliest_47 : decode cX9_likeliest 47 = .ok (.ireturn, 1) := by decide +kernel
theorem dX9_lastOpenDay_0 : decode cX9_lastOpenDay 0 = .ok (.bipush 19, 2) := by decide +kernel
theorem dX9_lastOpenDay_2 : decode cX9_lastOpenDay 2 = .ok (.aload_n 0, 1) := by decide +kernel
theorem dX9_lastOpenDay_3 : decode cX9_lastOpenDay 3 = .ok (.getfield 67, 3) := by decide +kernel
theorem dX9_lastOpenDay_6 : decode cX9_lastOpenDay 6 = .ok (.iload_n 1, 1) := by decide +kernel
theorem dX9_lastOpenDay_7 : decode cX9_lastOpenDay 7 = .ok (.iadd, 1) := by decide +kernel
theorem dX9_lastOpenDay_8 : decode cX9_lastOpenDay 8 = .ok (.invokestatic 90, 3) := by decide +kernel
theorem dX9_lastOpenDay_11 : decode cX9_lastOpenDay 11 = .ok (.istore_n 2, 1) := by decide +kernel
theorem dX9_lastOpenDay_12 : decode cX9_lastOpenDay 12 = .ok (.iload_n 2, 1) := by decide +kernel
theorem dX9_lastOpenDay_13 : decode cX9_lastOpenDay 13 = .ok (.aload_n 0, 1) := by decide +kernel
theorem dX9_lastOpenDay_14 : decode cX9_lastOpenDay 14 = .ok (.getfield 67, 3) := by decide +kernel
theorem dX9_lastOpenDay_17 : decode cX9_lastOpenDay 17 = .ok (.if_icmp .lt 20, 3) := by decide +kernel
theorem dX9_lastOpenDay_20 : decode cX9_lastOpenDay 20 = .ok (.aload_n 0, 1) := by decide +kernel
theorem dX9_lastOpenDay_21 : decode cX9_lastOpenDay 21 = .ok (.getfield 24, 3) := by decide +kernel
theorem dX9_lastOpenDay_24 : decode cX9_lastOpenDay 24 = .ok (.iload_n 2, 1) := by decide +kernel
theorem dX9_lastOpenDay_25 : decode cX9_lastOpenDay 25 = .ok (.iaload, 1) := by decide +kernel
theorem dX9_lastOpenDay_26 : decode cX9_lastOpenDay 26 = .ok (.ifCond .ne 5, 3) := by decide +kernel
theorem dX9_lastOpenDay_29 : decode cX9_lastOpenDay 29 = .ok (.iload_n 2, 1) := by decide +kernel
theorem dX9_lastOpenDay_30 : decode cX9_lastOpenDay 30 = .ok (.ireturn, 1) := by decide +kernel
theorem dX9_lastOpenDay_31 : decode cX9_lastOpenDay 31 = .ok (.iinc 2 (-1), 3) := by decide +kernel
theorem dX9_lastOpenDay_34 : decode cX9_lastOpenDay 34 = .ok (.goto (-22), 3) := by decide +kernel
theorem dX9_lastOpenDay_37 : decode cX9_lastOpenDay 37 = .ok (.iconst (-1), 1) := by decide +kernel
theorem dX9_lastOpenDay_38 : decode cX9_lastOpenDay 38 = .ok (.ireturn, 1) := by decide +kernel
theorem dX9_sayerAt_0 : decode cX9_sayerAt 0 = .ok (.iload_n 1, 1) := by decide +kernel
theorem dX9_sayerAt_1 : decode cX9_sayerAt 1 = .ok (.ifCond .lt 20, 3) := by decide +kernel
theorem dX9_sayerAt_4 : decode cX9_sayerAt 4 = .ok (.iload_n 1, 1) := by decide +kernel
theorem dX9_sayerAt_5 : decode cX9_sayerAt 5 = .ok (.aload_n 0, 1) := by decide +kernel
theorem dX9_sayerAt_6 : decode cX9_sayerAt 6 = .ok (.getfield 70, 3) := by decide +kernel
theorem dX9_sayerAt_9 : decode cX9_sayerAt 9 = .ok (.if_icmp .ge 12, 3) := by decide +kernel
theorem dX9_sayerAt_12 : decode cX9_sayerAt 12 = .ok (.aload_n 0, 1) := by decide +kernel
theorem dX9_sayerAt_13 : decode cX9_sayerAt 13 = .ok (.getfield 44, 3) := by decide +kernel
theorem dX9_sayerAt_16 : decode cX9_sayerAt 16 = .ok (.iload_n 1, 1) := by decide +kernel
theorem dX9_sayerAt_17 : decode cX9_sayerAt 17 = .ok (.aaload, 1) := by decide +kernel
theorem dX9_sayerAt_18 : decode cX9_sayerAt 18 = .ok (.goto 4, 3) := by decide +kernel
theorem dX9_sayerAt_21 : decode cX9_sayerAt 21 = .ok (.aconst_null, 1) := by decide +kernel
theorem dX9_sayerAt_22 : decode cX9_sayerAt 22 = .ok (.areturn, 1) := by decide +kernel
theorem dX9_addSayer_0 : decode cX9_addSayer 0 = .ok (.aload_n 0, 1) := by decide +kernel
theorem dX9_addSayer_1 : decode cX9_addSayer 1 = .ok (.getfield 70, 3) := by decide +kernel
theorem dX9_addSayer_4 : decode cX9_addSayer 4 = .ok (.istore_n 2, 1) := by decide +kernel
theorem dX9_addSayer_5 : decode cX9_addSayer 5 = .ok (.aload_n 0, 1) := by decide +kernel
theorem dX9_addSayer_6 : decode cX9_addSayer 6 = .ok (.getfield 44, 3) := by decide +kernel
theorem dX9_addSayer_9 : decode cX9_addSayer 9 = .ok (.iload_n 2, 1) := by decide +kernel
theorem dX9_addSayer_10 : decode cX9_addSayer 10 = .ok (.aload_n 1, 1) := by decide +kernel
theorem dX9_addSayer_11 : decode cX9_addSayer 11 = .ok (.aastore, 1) := by decide +kernel
theorem dX9_addSayer_12 : decode cX9_addSayer 12 = .ok (.aload_n 0, 1) := by decide +kernel
theorem dX9_addSayer_13 : decode cX9_addSayer 13 = .ok (.getfield 48, 3) := by decide +kernel
theorem dX9_addSayer_16 : decode cX9_addSayer 16 = .ok (.iload_n 2, 1) := by decide +kernel
theorem dX9_addSayer_17 : decode cX9_addSayer 17 = .ok (.iconst 0, 1) := by decide +kernel
theorem dX9_addSayer_18 : decode cX9_addSayer 18 = .ok (.iastore, 1) := by decide +kernel
theorem dX9_addSayer_19 : decode cX9_addSayer 19 = .ok (.aload_n 0, 1) := by decide +kernel
theorem dX9_addSayer_20 : decode cX9_addSayer 20 = .ok (.dup, 1) := by decide +kernel
theorem dX9_addSayer_21 : decode cX9_addSayer 21 = .ok (.getfield 70, 3) := by decide +kernel
theorem dX9_addSayer_24 : decode cX9_addSayer 24 = .ok (.iconst 1, 1) := by decide +kernel
theorem dX9_addSayer_25 : decode cX9_addSayer 25 = .ok (.iadd, 1) := by decide +kernel
theorem dX9_addSayer_26 : decode cX9_addSayer 26 = .ok (.putfield 70, 3) := by decide +kernel
theorem dX9_addSayer_29 : decode cX9_addSayer 29 = .ok (.iload_n 2, 1) := by decide +kernel
theorem dX9_addSayer_30 : decode cX9_addSayer 30 = .ok (.ireturn, 1) := by decide +kernel
theorem dX9_isSaid_0 : decode cX9_isSaid 0 = .ok (.aload_n 0, 1) := by decide +kernel
theorem dX9_isSaid_1 : decode cX9_isSaid 1 = .ok (.getfield 24, 3) := by decide +kernel
theorem dX9_isSaid_4 : decode cX9_isSaid 4 = .ok (.iload_n 1, 1) := by decide +kernel
theorem dX9_isSaid_5 : decode cX9_isSaid 5 = .ok (.iaload, 1) := by decide +kernel
theorem dX9_isSaid_6 : decode cX9_isSaid 6 = .ok (.iload_n 2, 1) := by decide +kernel
theorem dX9_isSaid_7 : decode cX9_isSaid 7 = .ok (.ishr, 1) := by decide +kernel
theorem dX9_isSaid_8 : decode cX9_isSaid 8 = .ok (.iconst 1, 1) := by decide +kernel
theorem dX9_isSaid_9 : decode cX9_isSaid 9 = .ok (.iand, 1) := by decide +kernel
theorem dX9_isSaid_10 : decode cX9_isSaid 10 = .ok (.iconst 1, 1) := by decide +kernel
theorem dX9_isSaid_11 : decode cX9_isSaid 11 = .ok (.if_icmp .ne 7, 3) := by decide +kernel
theorem dX9_isSaid_14 : decode cX9_isSaid 14 = .ok (.iconst 1, 1) := by decide +kernel
theorem dX9_isSaid_15 : decode cX9_isSaid 15 = .ok (.goto 4, 3) := by decide +kernel
theorem dX9_isSaid_18 : decode cX9_isSaid 18 = .ok (.iconst 0, 1) := by decide +kernel
theorem dX9_isSaid_19 : decode cX9_isSaid 19 = .ok (.ireturn, 1) := by decide +kernel
theorem dX9_room_0 : decode cX9_room 0 = .ok (.bipush 40, 2) := by decide +kernel
theorem dX9_room_2 : decode cX9_room 2 = .ok (.aload_n 0, 1) := by decide +kernel
theorem dX9_room_3 : decode cX9_room 3 = .ok (.getfield 73, 3) := by decide +kernel
theorem dX9_room_6 : decode cX9_room 6 = .ok (.isub, 1) := by decide +kernel
theorem dX9_room_7 : decode cX9_room 7 = .ok (.ireturn, 1) := by decide +kernel
theorem dX9_addSaying_0 : decode cX9_addSaying 0 = .ok (.aload_n 0, 1) := by decide +kernel
theorem dX9_addSaying_1 : decode cX9_addSaying 1 = .ok (.getfield 73, 3) := by decide +kernel
theorem dX9_addSaying_4 : decode cX9_addSaying 4 = .ok (.istore 4, 2) := by decide +kernel
theorem dX9_addSaying_6 : decode cX9_addSaying 6 = .ok (.aload_n 0, 1) := by decide +kernel
theorem dX9_addSaying_7 : decode cX9_addSaying 7 = .ok (.getfield 51, 3) := by decide +kernel
theorem dX9_addSaying_10 : decode cX9_addSaying 10 = .ok (.iload 4, 2) := by decide +kernel
theorem dX9_addSaying_12 : decode cX9_addSaying 12 = .ok (.iload_n 1, 1) := by decide +kernel
theorem dX9_addSaying_13 : decode cX9_addSaying 13 = .ok (.iastore, 1) := by decide +kernel
theorem dX9_addSaying_14 : decode cX9_addSaying 14 = .ok (.aload_n 0, 1) := by decide +kernel
theorem dX9_addSaying_15 : decode cX9_addSaying 15 = .ok (.getfield 54, 3) := by decide +kernel
theorem dX9_addSaying_18 : decode cX9_addSaying 18 = .ok (.iload 4, 2) := by decide +kernel
theorem dX9_addSaying_20 : decode cX9_addSaying 20 = .ok (.iload_n 2, 1) := by decide +kernel
theorem dX9_addSaying_21 : decode cX9_addSaying 21 = .ok (.iastore, 1) := by decide +kernel
theorem dX9_addSaying_22 : decode cX9_addSaying 22 = .ok (.aload_n 0, 1) := by decide +kernel
theorem dX9_addSaying_23 : decode cX9_addSaying 23 = .ok (.getfield 57, 3) := by decide +kernel
theorem dX9_addSaying_26 : decode cX9_addSaying 26 = .ok (.iload 4, 2) := by decide +kernel
theorem dX9_addSaying_28 : decode cX9_addSaying 28 = .ok (.iload_n 3, 1) := by decide +kernel
theorem dX9_addSaying_29 : decode cX9_addSaying 29 = .ok (.iastore, 1) := by decide +kernel
theorem dX9_addSaying_30 : decode cX9_addSaying 30 = .ok (.aload_n 0, 1) := by decide +kernel
theorem dX9_addSaying_31 : decode cX9_addSaying 31 = .ok (.getfield 24, 3) := by decide +kernel
theorem dX9_addSaying_34 : decode cX9_addSaying 34 = .ok (.iload_n 2, 1) := by decide +kernel
theorem dX9_addSaying_35 : decode cX9_addSaying 35 = .ok (.dup2, 1) := by decide +kernel
theorem dX9_addSaying_36 : decode cX9_addSaying 36 = .ok (.iaload, 1) := by decide +kernel
theorem dX9_addSaying_37 : decode cX9_addSaying 37 = .ok (.iconst 1, 1) := by decide +kernel
theorem dX9_addSaying_38 : decode cX9_addSaying 38 = .ok (.iload_n 3, 1) := by decide +kernel
theorem dX9_addSaying_39 : decode cX9_addSaying 39 = .ok (.ishl, 1) := by decide +kernel
theorem dX9_addSaying_40 : decode cX9_addSaying 40 = .ok (.ior, 1) := by decide +kernel
theorem dX9_addSaying_41 : decode cX9_addSaying 41 = .ok (.iastore, 1) := by decide +kernel
theorem dX9_addSaying_42 : decode cX9_addSaying 42 = .ok (.aload_n 0, 1) := by decide +kernel
theorem dX9_addSaying_43 : decode cX9_addSaying 43 = .ok (.dup, 1) := by decide +kernel
theorem dX9_addSaying_44 : decode cX9_addSaying 44 = .ok (.getfield 73, 3) := by decide +kernel
theorem dX9_addSaying_47 : decode cX9_addSaying 47 = .ok (.iconst 1, 1) := by decide +kernel
theorem dX9_addSaying_48 : decode cX9_addSaying 48 = .ok (.iadd, 1) := by decide +kernel
theorem dX9_addSaying_49 : decode cX9_addSaying 49 = .ok (.putfield 73, 3) := by decide +kernel
theorem dX9_addSaying_52 : decode cX9_addSaying 52 = .ok (.iload 4, 2) := by decide +kernel
theorem dX9_addSaying_54 : decode cX9_addSaying 54 = .ok (.ireturn, 1) := by decide +kernel
theorem dX9_sellSaying_0 : decode cX9_sellSaying 0 = .ok (.aload_n 0, 1) := by decide +kernel
theorem dX9_sellSaying_1 : decode cX9_sellSaying 1 = .ok (.getfield 48, 3) := by decide +kernel
theorem dX9_sellSaying_4 : decode cX9_sellSaying 4 = .ok (.iload_n 1, 1) := by decide +kernel
theorem dX9_sellSaying_5 : decode cX9_sellSaying 5 = .ok (.dup2, 1) := by decide +kernel
theorem dX9_sellSaying_6 : decode cX9_sellSaying 6 = .ok (.iaload, 1) := by decide +kernel
theorem dX9_sellSaying_7 : decode cX9_sellSaying 7 = .ok (.aload_n 0, 1) := by decide +kernel
theorem dX9_sellSaying_8 : decode cX9_sellSaying 8 = .ok (.getfield 35, 3) := by decide +kernel
theorem dX9_sellSaying_11 : decode cX9_sellSaying 11 = .ok (.iconst 2, 1) := by decide +kernel
theorem dX9_sellSaying_12 : decode cX9_sellSaying 12 = .ok (.iaload, 1) := by decide +kernel
theorem dX9_sellSaying_13 : decode cX9_sellSaying 13 = .ok (.isub, 1) := by decide +kernel
theorem dX9_sellSaying_14 : decode cX9_sellSaying 14 = .ok (.iastore, 1) := by decide +kernel
theorem dX9_sellSaying_15 : decode cX9_sellSaying 15 = .ok (.aload_n 0, 1) := by decide +kernel
theorem dX9_sellSaying_16 : decode cX9_sellSaying 16 = .ok (.iload_n 1, 1) := by decide +kernel
theorem dX9_sellSaying_17 : decode cX9_sellSaying 17 = .ok (.iload_n 2, 1) := by decide +kernel
theorem dX9_sellSaying_18 : decode cX9_sellSaying 18 = .ok (.iload_n 3, 1) := by decide +kernel
theorem dX9_sellSaying_19 : decode cX9_sellSaying 19 = .ok (.invokevirtual 95, 3) := by decide +kernel
theorem dX9_sellSaying_22 : decode cX9_sellSaying 22 = .ok (.ireturn, 1) := by decide +kernel
theorem dX9_sayingsOf_0 : decode cX9_sayingsOf 0 = .ok (.iconst 0, 1) := by decide +kernel
theorem dX9_sayingsOf_1 : decode cX9_sayingsOf 1 = .ok (.istore_n 2, 1) := by decide +kernel
theorem dX9_sayingsOf_2 : decode cX9_sayingsOf 2 = .ok (.iconst 0, 1) := by decide +kernel
theorem dX9_sayingsOf_3 : decode cX9_sayingsOf 3 = .ok (.istore_n 3, 1) := by decide +kernel
theorem dX9_sayingsOf_4 : decode cX9_sayingsOf 4 = .ok (.iload_n 3, 1) := by decide +kernel
theorem dX9_sayingsOf_5 : decode cX9_sayingsOf 5 = .ok (.aload_n 0, 1) := by decide +kernel
theorem dX9_sayingsOf_6 : decode cX9_sayingsOf 6 = .ok (.getfield 73, 3) := by decide +kernel
theorem dX9_sayingsOf_9 : decode cX9_sayingsOf 9 = .ok (.if_icmp .ge 22, 3) := by decide +kernel
theorem dX9_sayingsOf_12 : decode cX9_sayingsOf 12 = .ok (.aload_n 0, 1) := by decide +kernel
theorem dX9_sayingsOf_13 : decode cX9_sayingsOf 13 = .ok (.getfield 51, 3) := by decide +kernel
theorem dX9_sayingsOf_16 : decode cX9_sayingsOf 16 = .ok (.iload_n 3, 1) := by decide +kernel
theorem dX9_sayingsOf_17 : decode cX9_sayingsOf 17 = .ok (.iaload, 1) := by decide +kernel
theorem dX9_sayingsOf_18 : decode cX9_sayingsOf 18 = .ok (.iload_n 1, 1) := by decide +kernel
theorem dX9_sayingsOf_19 : decode cX9_sayingsOf 19 = .ok (.if_icmp .ne 6, 3) := by decide +kernel
theorem dX9_sayingsOf_22 : decode cX9_sayingsOf 22 = .ok (.iinc 2 1, 3) := by decide +kernel
theorem dX9_sayingsOf_25 : decode cX9_sayingsOf 25 = .ok (.iinc 3 1, 3) := by decide +kernel
theorem dX9_sayingsOf_28 : decode cX9_sayingsOf 28 = .ok (.goto (-24), 3) := by decide +kernel
theorem dX9_sayingsOf_31 : decode cX9_sayingsOf 31 = .ok (.iload_n 2, 1) := by decide +kernel
theorem dX9_sayingsOf_32 : decode cX9_sayingsOf 32 = .ok (.ireturn, 1) := by decide +kernel
theorem dX9_isRight_0 : decode cX9_isRight 0 = .ok (.aload_n 0, 1) := by decide +kernel
theorem dX9_isRight_1 : decode cX9_isRight 1 = .ok (.getfield 54, 3) := by decide +kernel
theorem dX9_isRight_4 : decode cX9_isRight 4 = .ok (.iload_n 1, 1) := by decide +kernel
theorem dX9_isRight_5 : decode cX9_isRight 5 = .ok (.iaload, 1) := by decide +kernel
theorem dX9_isRight_6 : decode cX9_isRight 6 = .ok (.istore_n 2, 1) := by decide +kernel
theorem dX9_isRight_7 : decode cX9_isRight 7 = .ok (.aload_n 0, 1) := by decide +kernel
theorem dX9_isRight_8 : decode cX9_isRight 8 = .ok (.iload_n 2, 1) := by decide +kernel
theorem dX9_isRight_9 : decode cX9_isRight 9 = .ok (.invokevirtual 98, 3) := by decide +kernel
theorem dX9_isRight_12 : decode cX9_isRight 12 = .ok (.ifCond .eq 22, 3) := by decide +kernel
theorem dX9_isRight_15 : decode cX9_isRight 15 = .ok (.aload_n 0, 1) := by decide +kernel
theorem dX9_isRight_16 : decode cX9_isRight 16 = .ok (.getfield 21, 3) := by decide +kernel
theorem dX9_isRight_19 : decode cX9_isRight 19 = .ok (.iload_n 2, 1) := by decide +kernel
theorem dX9_isRight_20 : decode cX9_isRight 20 = .ok (.iaload, 1) := by decide +kernel
theorem dX9_isRight_21 : decode cX9_isRight 21 = .ok (.aload_n 0, 1) := by decide +kernel
theorem dX9_isRight_22 : decode cX9_isRight 22 = .ok (.getfield 57, 3) := by decide +kernel
theorem dX9_isRight_25 : decode cX9_isRight 25 = .ok (.iload_n 1, 1) := by decide +kernel
theorem dX9_isRight_26 : decode cX9_isRight 26 = .ok (.iaload, 1) := by decide +kernel
theorem dX9_isRight_27 : decode cX9_isRight 27 = .ok (.if_icmp .ne 7, 3) := by decide +kernel
theorem dX9_isRight_30 : decode cX9_isRight 30 = .ok (.iconst 1, 1) := by decide +kernel
theorem dX9_isRight_31 : decode cX9_isRight 31 = .ok (.goto 4, 3) := by decide +kernel
theorem dX9_isRight_34 : decode cX9_isRight 34 = .ok (.iconst 0, 1) := by decide +kernel
theorem dX9_isRight_35 : decode cX9_isRight 35 = .ok (.ireturn, 1) := by decide +kernel
theorem dX9_overOf_0 : decode cX9_overOf 0 = .ok (.iconst 0, 1) := by decide +kernel
theorem dX9_overOf_1 : decode cX9_overOf 1 = .ok (.istore_n 2, 1) := by decide +kernel
theorem dX9_overOf_2 : decode cX9_overOf 2 = .ok (.iconst 0, 1) := by decide +kernel
theorem dX9_overOf_3 : decode cX9_overOf 3 = .ok (.istore_n 3, 1) := by decide +kernel
theorem dX9_overOf_4 : decode cX9_overOf 4 = .ok (.iload_n 3, 1) := by decide +kernel
theorem dX9_overOf_5 : decode cX9_overOf 5 = .ok (.aload_n 0, 1) := by decide +kernel
theorem dX9_overOf_6 : decode cX9_overOf 6 = .ok (.getfield 73, 3) := by decide +kernel
theorem dX9_overOf_9 : decode cX9_overOf 9 = .ok (.if_icmp .ge 35, 3) := by decide +kernel
theorem dX9_overOf_12 : decode cX9_overOf 12 = .ok (.aload_n 0, 1) := by decide +kernel
theorem dX9_overOf_13 : decode cX9_overOf 13 = .ok (.getfield 51, 3) := by decide +kernel
theorem dX9_overOf_16 : decode cX9_overOf 16 = .ok (.iload_n 3, 1) := by decide +kernel
theorem dX9_overOf_17 : decode cX9_overOf 17 = .ok (.iaload, 1) := by decide +kernel
theorem dX9_overOf_18 : decode cX9_overOf 18 = .ok (.iload_n 1, 1) := by decide +kernel
theorem dX9_overOf_19 : decode cX9_overOf 19 = .ok (.if_icmp .ne 19, 3) := by decide +kernel
theorem dX9_overOf_22 : decode cX9_overOf 22 = .ok (.aload_n 0, 1) := by decide +kernel
theorem dX9_overOf_23 : decode cX9_overOf 23 = .ok (.aload_n 0, 1) := by decide +kernel
theorem dX9_overOf_24 : decode cX9_overOf 24 = .ok (.getfield 54, 3) := by decide +kernel
theorem dX9_overOf_27 : decode cX9_overOf 27 = .ok (.iload_n 3, 1) := by decide +kernel
theorem dX9_overOf_28 : decode cX9_overOf 28 = .ok (.iaload, 1) := by decide +kernel
theorem dX9_overOf_29 : decode cX9_overOf 29 = .ok (.invokevirtual 98, 3) := by decide +kernel
theorem dX9_overOf_32 : decode cX9_overOf 32 = .ok (.ifCond .eq 6, 3) := by decide +kernel
theorem dX9_overOf_35 : decode cX9_overOf 35 = .ok (.iinc 2 1, 3) := by decide +kernel
theorem dX9_overOf_38 : decode cX9_overOf 38 = .ok (.iinc 3 1, 3) := by decide +kernel
theorem dX9_overOf_41 : decode cX9_overOf 41 = .ok (.goto (-37), 3) := by decide +kernel
theorem dX9_overOf_44 : decode cX9_overOf 44 = .ok (.iload_n 2, 1) := by decide +kernel
theorem dX9_overOf_45 : decode cX9_overOf 45 = .ok (.ireturn, 1) := by decide +kernel
theorem dX9_rightOf_0 : decode cX9_rightOf 0 = .ok (.iconst 0, 1) := by decide +kernel
theorem dX9_rightOf_1 : decode cX9_rightOf 1 = .ok (.istore_n 2, 1) := by decide +kernel
theorem dX9_rightOf_2 : decode cX9_rightOf 2 = .ok (.iconst 0, 1) := by decide +kernel
theorem dX9_rightOf_3 : decode cX9_rightOf 3 = .ok (.istore_n 3, 1) := by decide +kernel
theorem dX9_rightOf_4 : decode cX9_rightOf 4 = .ok (.iload_n 3, 1) := by decide +kernel
theorem dX9_rightOf_5 : decode cX9_rightOf 5 = .ok (.aload_n 0, 1) := by decide +kernel
theorem dX9_rightOf_6 : decode cX9_rightOf 6 = .ok (.getfield 73, 3) := by decide +kernel
theorem dX9_rightOf_9 : decode cX9_rightOf 9 = .ok (.if_icmp .ge 30, 3) := by decide +kernel
theorem dX9_rightOf_12 : decode cX9_rightOf 12 = .ok (.aload_n 0, 1) := by decide +kernel
theorem dX9_rightOf_13 : decode cX9_rightOf 13 = .ok (.getfield 51, 3) := by decide +kernel
theorem dX9_rightOf_16 : decode cX9_rightOf 16 = .ok (.iload_n 3, 1) := by decide +kernel
theorem dX9_rightOf_17 : decode cX9_rightOf 17 = .ok (.iaload, 1) := by decide +kernel
theorem dX9_rightOf_18 : decode cX9_rightOf 18 = .ok (.iload_n 1, 1) := by decide +kernel
theorem dX9_rightOf_19 : decode cX9_rightOf 19 = .ok (.if_icmp .ne 14, 3) := by decide +kernel
theorem dX9_rightOf_22 : decode cX9_rightOf 22 = .ok (.aload_n 0, 1) := by decide +kernel
theorem dX9_rightOf_23 : decode cX9_rightOf 23 = .ok (.iload_n 3, 1) := by decide +kernel
theorem dX9_rightOf_24 : decode cX9_rightOf 24 = .ok (.invokevirtual 102, 3) := by decide +kernel
theorem dX9_rightOf_27 : decode cX9_rightOf 27 = .ok (.ifCond .eq 6, 3) := by decide +kernel
theorem dX9_rightOf_30 : decode cX9_rightOf 30 = .ok (.iinc 2 1, 3) := by decide +kernel
theorem dX9_rightOf_33 : decode cX9_rightOf 33 = .ok (.iinc 3 1, 3) := by decide +kernel
theorem dX9_rightOf_36 : decode cX9_rightOf 36 = .ok (.goto (-32), 3) := by decide +kernel
theorem dX9_rightOf_39 : decode cX9_rightOf 39 = .ok (.iload_n 2, 1) := by decide +kernel
theorem dX9_rightOf_40 : decode cX9_rightOf 40 = .ok (.ireturn, 1) := by decide +kernel
theorem dX9_ownerOf_0 : decode cX9_ownerOf 0 = .ok (.iconst 0, 1) := by decide +kernel
theorem dX9_ownerOf_1 : decode cX9_ownerOf 1 = .ok (.istore_n 2, 1) := by decide +kernel
theorem dX9_ownerOf_2 : decode cX9_ownerOf 2 = .ok (.iload_n 2, 1) := by decide +kernel
theorem dX9_ownerOf_3 : decode cX9_ownerOf 3 = .ok (.aload_n 0, 1) := by decide +kernel
theorem dX9_ownerOf_4 : decode cX9_ownerOf 4 = .ok (.getfield 73, 3) := by decide +kernel
theorem dX9_ownerOf_7 : decode cX9_ownerOf 7 = .ok (.if_icmp .ge 34, 3) := by decide +kernel
theorem dX9_ownerOf_10 : decode cX9_ownerOf 10 = .ok (.aload_n 0, 1) := by decide +kernel
theorem dX9_ownerOf_11 : decode cX9_ownerOf 11 = .ok (.getfield 54, 3) := by decide +kernel
theorem dX9_ownerOf_14 : decode cX9_ownerOf 14 = .ok (.iload_n 2, 1) := by decide +kernel
theorem dX9_ownerOf_15 : decode cX9_ownerOf 15 = .ok (.iaload, 1) := by decide +kernel
theorem dX9_ownerOf_16 : decode cX9_ownerOf 16 = .ok (.iload_n 1, 1) := by decide +kernel
theorem dX9_ownerOf_17 : decode cX9_ownerOf 17 = .ok (.if_icmp .ne 18, 3) := by decide +kernel
theorem dX9_ownerOf_20 : decode cX9_ownerOf 20 = .ok (.aload_n 0, 1) := by decide +kernel
theorem dX9_ownerOf_21 : decode cX9_ownerOf 21 = .ok (.iload_n 2, 1) := by decide +kernel
theorem dX9_ownerOf_22 : decode cX9_ownerOf 22 = .ok (.invokevirtual 102, 3) := by decide +kernel
theorem dX9_ownerOf_25 : decode cX9_ownerOf 25 = .ok (.ifCond .eq 10, 3) := by decide +kernel
theorem dX9_ownerOf_28 : decode cX9_ownerOf 28 = .ok (.aload_n 0, 1) := by decide +kernel
theorem dX9_ownerOf_29 : decode cX9_ownerOf 29 = .ok (.getfield 51, 3) := by decide +kernel
theorem dX9_ownerOf_32 : decode cX9_ownerOf 32 = .ok (.iload_n 2, 1) := by decide +kernel
theorem dX9_ownerOf_33 : decode cX9_ownerOf 33 = .ok (.iaload, 1) := by decide +kernel
theorem dX9_ownerOf_34 : decode cX9_ownerOf 34 = .ok (.ireturn, 1) := by decide +kernel
theorem dX9_ownerOf_35 : decode cX9_ownerOf 35 = .ok (.iinc 2 1, 3) := by decide +kernel
theorem dX9_ownerOf_38 : decode cX9_ownerOf 38 = .ok (.goto (-36), 3) := by decide +kernel
theorem dX9_ownerOf_41 : decode cX9_ownerOf 41 = .ok (.iconst (-1), 1) := by decide +kernel
theorem dX9_ownerOf_42 : decode cX9_ownerOf 42 = .ok (.ireturn, 1) := by decide +kernel
theorem dX9_pursesTogether_0 : decode cX9_pursesTogether 0 = .ok (.iconst 0, 1) := by decide +kernel
theorem dX9_pursesTogether_1 : decode cX9_pursesTogether 1 = .ok (.istore_n 1, 1) := by decide +kernel
theorem dX9_pursesTogether_2 : decode cX9_pursesTogether 2 = .ok (.iconst 0, 1) := by decide +kernel
theorem dX9_pursesTogether_3 : decode cX9_pursesTogether 3 = .ok (.istore_n 2, 1) := by decide +kernel
theorem dX9_pursesTogether_4 : decode cX9_pursesTogether 4 = .ok (.iload_n 2, 1) := by decide +kernel
theorem dX9_pursesTogether_5 : decode cX9_pursesTogether 5 = .ok (.aload_n 0, 1) := by decide +kernel
theorem dX9_pursesTogether_6 : decode cX9_pursesTogether 6 = .ok (.getfield 70, 3) := by decide +kernel
theorem dX9_pursesTogether_9 : decode cX9_pursesTogether 9 = .ok (.if_icmp .ge 18, 3) := by decide +kernel
theorem dX9_pursesTogether_12 : decode cX9_pursesTogether 12 = .ok (.iload_n 1, 1) := by decide +kernel
theorem dX9_pursesTogether_13 : decode cX9_pursesTogether 13 = .ok (.aload_n 0, 1) := by decide +kernel
theorem dX9_pursesTogether_14 : decode cX9_pursesTogether 14 = .ok (.getfield 48, 3) := by decide +kernel
theorem dX9_pursesTogether_17 : decode cX9_pursesTogether 17 = .ok (.iload_n 2, 1) := by decide +kernel
theorem dX9_pursesTogether_18 : decode cX9_pursesTogether 18 = .ok (.iaload, 1) := by decide +kernel
theorem dX9_pursesTogether_19 : decode cX9_pursesTogether 19 = .ok (.iadd, 1) := by decide +kernel
theorem dX9_pursesTogether_20 : decode cX9_pursesTogether 20 = .ok (.istore_n 1, 1) := by decide +kernel
theorem dX9_pursesTogether_21 : decode cX9_pursesTogether 21 = .ok (.iinc 2 1, 3) := by decide +kernel
theorem dX9_pursesTogether_24 : decode cX9_pursesTogether 24 = .ok (.goto (-20), 3) := by decide +kernel
theorem dX9_pursesTogether_27 : decode cX9_pursesTogether 27 = .ok (.iload_n 1, 1) := by decide +kernel
theorem dX9_pursesTogether_28 : decode cX9_pursesTogether 28 = .ok (.ireturn, 1) := by decide +kernel
theorem dX9_dayToSay_0 : decode cX9_dayToSay 0 = .ok (.aload_n 0, 1) := by decide +kernel
theorem dX9_dayToSay_1 : decode cX9_dayToSay 1 = .ok (.getfield 67, 3) := by decide +kernel
theorem dX9_dayToSay_4 : decode cX9_dayToSay 4 = .ok (.bipush 20, 2) := by decide +kernel
theorem dX9_dayToSay_6 : decode cX9_dayToSay 6 = .ok (.if_icmp .ge 10, 3) := by decide +kernel
theorem dX9_dayToSay_9 : decode cX9_dayToSay 9 = .ok (.aload_n 0, 1) := by decide +kernel
theorem dX9_dayToSay_10 : decode cX9_dayToSay 10 = .ok (.invokevirtual 105, 3) := by decide +kernel
theorem dX9_dayToSay_13 : decode cX9_dayToSay 13 = .ok (.ifCond .ne 7, 3) := by decide +kernel
theorem dX9_dayToSay_16 : decode cX9_dayToSay 16 = .ok (.iconst (-1), 1) := by decide +kernel
theorem dX9_dayToSay_17 : decode cX9_dayToSay 17 = .ok (.goto 8, 3) := by decide +kernel
theorem dX9_dayToSay_20 : decode cX9_dayToSay 20 = .ok (.aload_n 1, 1) := by decide +kernel
theorem dX9_dayToSay_21 : decode cX9_dayToSay 21 = .ok (.aload_n 0, 1) := by decide +kernel
theorem dX9_dayToSay_22 : decode cX9_dayToSay 22 = .ok (.invokevirtual 109, 3) := by decide +kernel
theorem dX9_dayToSay_25 : decode cX9_dayToSay 25 = .ok (.ireturn, 1) := by decide +kernel
theorem dX9_sayingsAtOnce_0 : decode cX9_sayingsAtOnce 0 = .ok (.aload_n 1, 1) := by decide +kernel
theorem dX9_sayingsAtOnce_1 : decode cX9_sayingsAtOnce 1 = .ok (.invokevirtual 113, 3) := by decide +kernel
theorem dX9_sayingsAtOnce_4 : decode cX9_sayingsAtOnce 4 = .ok (.aload_n 0, 1) := by decide +kernel
theorem dX9_sayingsAtOnce_5 : decode cX9_sayingsAtOnce 5 = .ok (.invokevirtual 105, 3) := by decide +kernel
theorem dX9_sayingsAtOnce_8 : decode cX9_sayingsAtOnce 8 = .ok (.invokestatic 90, 3) := by decide +kernel
theorem dX9_sayingsAtOnce_11 : decode cX9_sayingsAtOnce 11 = .ok (.ireturn, 1) := by decide +kernel
theorem dX9_dawn_0 : decode cX9_dawn 0 = .ok (.aload_n 0, 1) := by decide +kernel
theorem dX9_dawn_1 : decode cX9_dawn 1 = .ok (.getfield 67, 3) := by decide +kernel
theorem dX9_dawn_4 : decode cX9_dawn 4 = .ok (.bipush 20, 2) := by decide +kernel
theorem dX9_dawn_6 : decode cX9_dawn 6 = .ok (.if_icmp .lt 4, 3) := by decide +kernel
theorem dX9_dawn_9 : decode cX9_dawn 9 = .ok (.return_, 1) := by decide +kernel
theorem dX9_dawn_10 : decode cX9_dawn 10 = .ok (.iconst 0, 1) := by decide +kernel
theorem dX9_dawn_11 : decode cX9_dawn 11 = .ok (.istore_n 1, 1) := by decide +kernel
theorem dX9_dawn_12 : decode cX9_dawn 12 = .ok (.iload_n 1, 1) := by decide +kernel
theorem dX9_dawn_13 : decode cX9_dawn 13 = .ok (.aload_n 0, 1) := by decide +kernel
theorem dX9_dawn_14 : decode cX9_dawn 14 = .ok (.getfield 70, 3) := by decide +kernel
theorem dX9_dawn_17 : decode cX9_dawn 17 = .ok (.if_icmp .ge 25, 3) := by decide +kernel
theorem dX9_dawn_20 : decode cX9_dawn 20 = .ok (.aload_n 0, 1) := by decide +kernel
theorem dX9_dawn_21 : decode cX9_dawn 21 = .ok (.getfield 44, 3) := by decide +kernel
theorem dX9_dawn_24 : decode cX9_dawn 24 = .ok (.iload_n 1, 1) := by decide +kernel
theorem dX9_dawn_25 : decode cX9_dawn 25 = .ok (.aaload, 1) := by decide +kernel
theorem dX9_dawn_26 : decode cX9_dawn 26 = .ok (.astore_n 2, 1) := by decide +kernel
theorem dX9_dawn_27 : decode cX9_dawn 27 = .ok (.aload_n 2, 1) := by decide +kernel
theorem dX9_dawn_28 : decode cX9_dawn 28 = .ok (.ifnull 8, 3) := by decide +kernel
theorem dX9_dawn_31 : decode cX9_dawn 31 = .ok (.aload_n 0, 1) := by decide +kernel
theorem dX9_dawn_32 : decode cX9_dawn 32 = .ok (.aload_n 2, 1) := by decide +kernel
theorem dX9_dawn_33 : decode cX9_dawn 33 = .ok (.invokevirtual 116, 3) := by decide +kernel
theorem dX9_dawn_36 : decode cX9_dawn 36 = .ok (.iinc 1 1, 3) := by decide +kernel
theorem dX9_dawn_39 : decode cX9_dawn 39 = .ok (.goto (-27), 3) := by decide +kernel
theorem dX9_dawn_42 : decode cX9_dawn 42 = .ok (.aload_n 0, 1) := by decide +kernel
theorem dX9_dawn_43 : decode cX9_dawn 43 = .ok (.getfield 21, 3) := by decide +kernel
theorem dX9_dawn_46 : decode cX9_dawn 46 = .ok (.aload_n 0, 1) := by decide +kernel
theorem dX9_dawn_47 : decode cX9_dawn 47 = .ok (.getfield 67, 3) := by decide +kernel
theorem dX9_dawn_50 : decode cX9_dawn 50 = .ok (.aload_n 0, 1) := by decide +kernel
theorem dX9_dawn_51 : decode cX9_dawn 51 = .ok (.aload_n 0, 1) := by decide +kernel
theorem dX9_dawn_52 : decode cX9_dawn 52 = .ok (.getfield 67, 3) := by decide +kernel
theorem dX9_dawn_55 : decode cX9_dawn 55 = .ok (.invokevirtual 120, 3) := by decide +kernel
theorem dX9_dawn_58 : decode cX9_dawn 58 = .ok (.iastore, 1) := by decide +kernel
theorem dX9_dawn_59 : decode cX9_dawn 59 = .ok (.aload_n 0, 1) := by decide +kernel
theorem dX9_dawn_60 : decode cX9_dawn 60 = .ok (.dup, 1) := by decide +kernel
theorem dX9_dawn_61 : decode cX9_dawn 61 = .ok (.getfield 67, 3) := by decide +kernel
theorem dX9_dawn_64 : decode cX9_dawn 64 = .ok (.iconst 1, 1) := by decide +kernel
theorem dX9_dawn_65 : decode cX9_dawn 65 = .ok (.iadd, 1) := by decide +kernel
theorem dX9_dawn_66 : decode cX9_dawn 66 = .ok (.putfield 67, 3) := by decide +kernel
theorem dX9_dawn_69 : decode cX9_dawn 69 = .ok (.aload_n 0, 1) := by decide +kernel
theorem dX9_dawn_70 : decode cX9_dawn 70 = .ok (.aload_n 0, 1) := by decide +kernel
theorem dX9_dawn_71 : decode cX9_dawn 71 = .ok (.getfield 67, 3) := by decide +kernel
theorem dX9_dawn_74 : decode cX9_dawn 74 = .ok (.iconst 1, 1) := by decide +kernel
theorem dX9_dawn_75 : decode cX9_dawn 75 = .ok (.isub, 1) := by decide +kernel
theorem dX9_dawn_76 : decode cX9_dawn 76 = .ok (.invokevirtual 124, 3) := by decide +kernel
theorem dX9_dawn_79 : decode cX9_dawn 79 = .ok (.aload_n 0, 1) := by decide +kernel
theorem dX9_dawn_80 : decode cX9_dawn 80 = .ok (.getfield 67, 3) := by decide +kernel
theorem dX9_dawn_83 : decode cX9_dawn 83 = .ok (.iconst 3, 1) := by decide +kernel
theorem dX9_dawn_84 : decode cX9_dawn 84 = .ok (.iadd, 1) := by decide +kernel
theorem dX9_dawn_85 : decode cX9_dawn 85 = .ok (.istore_n 1, 1) := by decide +kernel
theorem dX9_dawn_86 : decode cX9_dawn 86 = .ok (.iload_n 1, 1) := by decide +kernel
theorem dX9_dawn_87 : decode cX9_dawn 87 = .ok (.bipush 20, 2) := by decide +kernel
theorem dX9_dawn_89 : decode cX9_dawn 89 = .ok (.if_icmp .ge 23, 3) := by decide +kernel
theorem dX9_dawn_92 : decode cX9_dawn 92 = .ok (.aload_n 0, 1) := by decide +kernel
theorem dX9_dawn_93 : decode cX9_dawn 93 = .ok (.getfield 18, 3) := by decide +kernel
theorem dX9_dawn_96 : decode cX9_dawn 96 = .ok (.iload_n 1, 1) := by decide +kernel
theorem dX9_dawn_97 : decode cX9_dawn 97 = .ok (.iaload, 1) := by decide +kernel
theorem dX9_dawn_98 : decode cX9_dawn 98 = .ok (.ifCond .ge 14, 3) := by decide +kernel
theorem dX9_dawn_101 : decode cX9_dawn 101 = .ok (.aload_n 0, 1) := by decide +kernel
theorem dX9_dawn_102 : decode cX9_dawn 102 = .ok (.getfield 18, 3) := by decide +kernel
theorem dX9_dawn_105 : decode cX9_dawn 105 = .ok (.iload_n 1, 1) := by decide +kernel
theorem dX9_dawn_106 : decode cX9_dawn 106 = .ok (.aload_n 0, 1) := by decide +kernel
theorem dX9_dawn_107 : decode cX9_dawn 107 = .ok (.iload_n 1, 1) := by decide +kernel
theorem dX9_dawn_108 : decode cX9_dawn 108 = .ok (.invokevirtual 120, 3) := by decide +kernel
theorem dX9_dawn_111 : decode cX9_dawn 111 = .ok (.iastore, 1) := by decide +kernel
theorem dX9_dawn_112 : decode cX9_dawn 112 = .ok (.return_, 1) := by decide +kernel
theorem dX9_letSpeak_0 : decode cX9_letSpeak 0 = .ok (.aload_n 0, 1) := by decide +kernel
theorem dX9_letSpeak_1 : decode cX9_letSpeak 1 = .ok (.aload_n 1, 1) := by decide +kernel
theorem dX9_letSpeak_2 : decode cX9_letSpeak 2 = .ok (.invokevirtual 127, 3) := by decide +kernel
theorem dX9_letSpeak_5 : decode cX9_letSpeak 5 = .ok (.istore_n 2, 1) := by decide +kernel
theorem dX9_letSpeak_6 : decode cX9_letSpeak 6 = .ok (.iload_n 2, 1) := by decide +kernel
theorem dX9_letSpeak_7 : decode cX9_letSpeak 7 = .ok (.ifCond .ge 4, 3) := by decide +kernel
theorem dX9_letSpeak_10 : decode cX9_letSpeak 10 = .ok (.return_, 1) := by decide +kernel
theorem dX9_letSpeak_11 : decode cX9_letSpeak 11 = .ok (.aload_n 1, 1) := by decide +kernel
theorem dX9_letSpeak_12 : decode cX9_letSpeak 12 = .ok (.aload_n 0, 1) := by decide +kernel
theorem dX9_letSpeak_13 : decode cX9_letSpeak 13 = .ok (.iload_n 2, 1) := by decide +kernel
theorem dX9_letSpeak_14 : decode cX9_letSpeak 14 = .ok (.invokevirtual 131, 3) := by decide +kernel
theorem dX9_letSpeak_17 : decode cX9_letSpeak 17 = .ok (.istore_n 3, 1) := by decide +kernel
theorem dX9_letSpeak_18 : decode cX9_letSpeak 18 = .ok (.iconst 4, 1) := by decide +kernel
theorem dX9_letSpeak_19 : decode cX9_letSpeak 19 = .ok (.iload_n 3, 1) := by decide +kernel
theorem dX9_letSpeak_20 : decode cX9_letSpeak 20 = .ok (.aload_n 0, 1) := by decide +kernel
theorem dX9_letSpeak_21 : decode cX9_letSpeak 21 = .ok (.aload_n 1, 1) := by decide +kernel
theorem dX9_letSpeak_22 : decode cX9_letSpeak 22 = .ok (.invokevirtual 135, 3) := by decide +kernel
theorem dX9_letSpeak_25 : decode cX9_letSpeak 25 = .ok (.iadd, 1) := by decide +kernel
theorem dX9_letSpeak_26 : decode cX9_letSpeak 26 = .ok (.invokestatic 90, 3) := by decide +kernel
theorem dX9_letSpeak_29 : decode cX9_letSpeak 29 = .ok (.istore 4, 2) := by decide +kernel
theorem dX9_letSpeak_31 : decode cX9_letSpeak 31 = .ok (.iload_n 3, 1) := by decide +kernel
theorem dX9_letSpeak_32 : decode cX9_letSpeak 32 = .ok (.istore 5, 2) := by decide +kernel
theorem dX9_letSpeak_34 : decode cX9_letSpeak 34 = .ok (.iload 5, 2) := by decide +kernel
theorem dX9_letSpeak_36 : decode cX9_letSpeak 36 = .ok (.iload 4, 2) := by decide +kernel
theorem dX9_letSpeak_38 : decode cX9_letSpeak 38 = .ok (.if_icmp .ge 21, 3) := by decide +kernel
theorem dX9_letSpeak_41 : decode cX9_letSpeak 41 = .ok (.aload_n 0, 1) := by decide +kernel
theorem dX9_letSpeak_42 : decode cX9_letSpeak 42 = .ok (.aload_n 1, 1) := by decide +kernel
theorem dX9_letSpeak_43 : decode cX9_letSpeak 43 = .ok (.getfield 138, 3) := by decide +kernel
theorem dX9_letSpeak_46 : decode cX9_letSpeak 46 = .ok (.iload_n 2, 1) := by decide +kernel
theorem dX9_letSpeak_47 : decode cX9_letSpeak 47 = .ok (.iload 5, 2) := by decide +kernel
theorem dX9_letSpeak_49 : decode cX9_letSpeak 49 = .ok (.invokevirtual 141, 3) := by decide +kernel
theorem dX9_letSpeak_52 : decode cX9_letSpeak 52 = .ok (.pop, 1) := by decide +kernel
theorem dX9_letSpeak_53 : decode cX9_letSpeak 53 = .ok (.iinc 5 1, 3) := by decide +kernel
theorem dX9_letSpeak_56 : decode cX9_letSpeak 56 = .ok (.goto (-22), 3) := by decide +kernel
theorem dX9_letSpeak_59 : decode cX9_letSpeak 59 = .ok (.return_, 1) := by decide +kernel
theorem dX9_drawn_0 : decode cX9_drawn 0 = .ok (.aload_n 0, 1) := by decide +kernel
theorem dX9_drawn_1 : decode cX9_drawn 1 = .ok (.aload_n 0, 1) := by decide +kernel
theorem dX9_drawn_2 : decode cX9_drawn 2 = .ok (.getfield 38, 3) := by decide +kernel
theorem dX9_drawn_5 : decode cX9_drawn 5 = .ok (.ldc 144, 2) := by decide +kernel
theorem dX9_drawn_7 : decode cX9_drawn 7 = .ok (.imul, 1) := by decide +kernel
theorem dX9_drawn_8 : decode cX9_drawn 8 = .ok (.sipush 12345, 3) := by decide +kernel
theorem dX9_drawn_11 : decode cX9_drawn 11 = .ok (.iadd, 1) := by decide +kernel
theorem dX9_drawn_12 : decode cX9_drawn 12 = .ok (.putfield 38, 3) := by decide +kernel
theorem dX9_drawn_15 : decode cX9_drawn 15 = .ok (.aload_n 0, 1) := by decide +kernel
theorem dX9_drawn_16 : decode cX9_drawn 16 = .ok (.iload_n 1, 1) := by decide +kernel
theorem dX9_drawn_17 : decode cX9_drawn 17 = .ok (.invokevirtual 145, 3) := by decide +kernel
theorem dX9_drawn_20 : decode cX9_drawn 20 = .ok (.istore_n 2, 1) := by decide +kernel
theorem dX9_drawn_21 : decode cX9_drawn 21 = .ok (.iload_n 2, 1) := by decide +kernel
theorem dX9_drawn_22 : decode cX9_drawn 22 = .ok (.ifCond .le 15, 3) := by decide +kernel
theorem dX9_drawn_25 : decode cX9_drawn 25 = .ok (.aload_n 0, 1) := by decide +kernel
theorem dX9_drawn_26 : decode cX9_drawn 26 = .ok (.getfield 38, 3) := by decide +kernel
theorem dX9_drawn_29 : decode cX9_drawn 29 = .ok (.bipush 16, 2) := by decide +kernel
theorem dX9_drawn_31 : decode cX9_drawn 31 = .ok (.iushr, 1) := by decide +kernel
theorem dX9_drawn_32 : decode cX9_drawn 32 = .ok (.iload_n 2, 1) := by decide +kernel
theorem dX9_drawn_33 : decode cX9_drawn 33 = .ok (.irem, 1) := by decide +kernel
theorem dX9_drawn_34 : decode cX9_drawn 34 = .ok (.goto 4, 3) := by decide +kernel
theorem dX9_drawn_37 : decode cX9_drawn 37 = .ok (.iconst 0, 1) := by decide +kernel
theorem dX9_drawn_38 : decode cX9_drawn 38 = .ok (.istore_n 3, 1) := by decide +kernel
theorem dX9_drawn_39 : decode cX9_drawn 39 = .ok (.iconst 0, 1) := by decide +kernel
theorem dX9_drawn_40 : decode cX9_drawn 40 = .ok (.istore 4, 2) := by decide +kernel
theorem dX9_drawn_42 : decode cX9_drawn 42 = .ok (.iconst 0, 1) := by decide +kernel
theorem dX9_drawn_43 : decode cX9_drawn 43 = .ok (.istore 5, 2) := by decide +kernel
theorem dX9_drawn_45 : decode cX9_drawn 45 = .ok (.iload 5, 2) := by decide +kernel
theorem dX9_drawn_47 : decode cX9_drawn 47 = .ok (.iconst 3, 1) := by decide +kernel
theorem dX9_drawn_48 : decode cX9_drawn 48 = .ok (.if_icmp .ge 30, 3) := by decide +kernel
theorem dX9_drawn_51 : decode cX9_drawn 51 = .ok (.iload 4, 2) := by decide +kernel
theorem dX9_drawn_53 : decode cX9_drawn 53 = .ok (.aload_n 0, 1) := by decide +kernel
theorem dX9_drawn_54 : decode cX9_drawn 54 = .ok (.iload_n 1, 1) := by decide +kernel
theorem dX9_drawn_55 : decode cX9_drawn 55 = .ok (.iload 5, 2) := by decide +kernel
theorem dX9_drawn_57 : decode cX9_drawn 57 = .ok (.invokevirtual 148, 3) := by decide +kernel
theorem dX9_drawn_60 : decode cX9_drawn 60 = .ok (.iadd, 1) := by decide +kernel
theorem dX9_drawn_61 : decode cX9_drawn 61 = .ok (.istore 4, 2) := by decide +kernel
theorem dX9_drawn_63 : decode cX9_drawn 63 = .ok (.iload_n 3, 1) := by decide +kernel
theorem dX9_drawn_64 : decode cX9_drawn 64 = .ok (.iload 4, 2) := by decide +kernel
theorem dX9_drawn_66 : decode cX9_drawn 66 = .ok (.if_icmp .ge 6, 3) := by decide +kernel
theorem dX9_drawn_69 : decode cX9_drawn 69 = .ok (.iload 5, 2) := by decide +kernel
theorem dX9_drawn_71 : decode cX9_drawn 71 = .ok (.ireturn, 1) := by decide +kernel
theorem dX9_drawn_72 : decode cX9_drawn 72 = .ok (.iinc 5 1, 3) := by decide +kernel
theorem dX9_drawn_75 : decode cX9_drawn 75 = .ok (.goto (-30), 3) := by decide +kernel
theorem dX9_drawn_78 : decode cX9_drawn 78 = .ok (.iconst 3, 1) := by decide +kernel
theorem dX9_drawn_79 : decode cX9_drawn 79 = .ok (.ireturn, 1) := by decide +kernel
theorem dX9_settle_0 : decode cX9_settle 0 = .ok (.iconst 0, 1) := by decide +kernel
theorem dX9_settle_1 : decode cX9_settle 1 = .ok (.istore_n 2, 1) := by decide +kernel
theorem dX9_settle_2 : decode cX9_settle 2 = .ok (.iload_n 2, 1) := by decide +kernel
theorem dX9_settle_3 : decode cX9_settle 3 = .ok (.aload_n 0, 1) := by decide +kernel
theorem dX9_settle_4 : decode cX9_settle 4 = .ok (.getfield 73, 3) := by decide +kernel
theorem dX9_settle_7 : decode cX9_settle 7 = .ok (.if_icmp .ge 56, 3) := by decide +kernel
theorem dX9_settle_10 : decode cX9_settle 10 = .ok (.aload_n 0, 1) := by decide +kernel
theorem dX9_settle_11 : decode cX9_settle 11 = .ok (.getfield 54, 3) := by decide +kernel
theorem dX9_settle_14 : decode cX9_settle 14 = .ok (.iload_n 2, 1) := by decide +kernel
theorem dX9_settle_15 : decode cX9_settle 15 = .ok (.iaload, 1) := by decide +kernel
theorem dX9_settle_16 : decode cX9_settle 16 = .ok (.iload_n 1, 1) := by decide +kernel
theorem dX9_settle_17 : decode cX9_settle 17 = .ok (.if_icmp .ne 40, 3) := by decide +kernel
theorem dX9_settle_20 : decode cX9_settle 20 = .ok (.aload_n 0, 1) := by decide +kernel
theorem dX9_settle_21 : decode cX9_settle 21 = .ok (.getfield 48, 3) := by decide +kernel
theorem dX9_settle_24 : decode cX9_settle 24 = .ok (.aload_n 0, 1) := by decide +kernel
theorem dX9_settle_25 : decode cX9_settle 25 = .ok (.getfield 51, 3) := by decide +kernel
theorem dX9_settle_28 : decode cX9_settle 28 = .ok (.iload_n 2, 1) := by decide +kernel
theorem dX9_settle_29 : decode cX9_settle 29 = .ok (.iaload, 1) := by decide +kernel
theorem dX9_settle_30 : decode cX9_settle 30 = .ok (.dup2, 1) := by decide +kernel
theorem dX9_settle_31 : decode cX9_settle 31 = .ok (.iaload, 1) := by decide +kernel
theorem dX9_settle_32 : decode cX9_settle 32 = .ok (.aload_n 0, 1) := by decide +kernel
theorem dX9_settle_33 : decode cX9_settle 33 = .ok (.iload_n 2, 1) := by decide +kernel
theorem dX9_settle_34 : decode cX9_settle 34 = .ok (.invokevirtual 102, 3) := by decide +kernel
theorem dX9_settle_37 : decode cX9_settle 37 = .ok (.ifCond .eq 11, 3) := by decide +kernel
theorem dX9_settle_40 : decode cX9_settle 40 = .ok (.aload_n 0, 1) := by decide +kernel
theorem dX9_settle_41 : decode cX9_settle 41 = .ok (.iload_n 1, 1) := by decide +kernel
theorem dX9_settle_42 : decode cX9_settle 42 = .ok (.invokevirtual 151, 3) := by decide +kernel
theorem dX9_settle_45 : decode cX9_settle 45 = .ok (.goto 10, 3) := by decide +kernel
theorem dX9_settle_48 : decode cX9_settle 48 = .ok (.aload_n 0, 1) := by decide +kernel
theorem dX9_settle_49 : decode cX9_settle 49 = .ok (.getfield 35, 3) := by decide +kernel
theorem dX9_settle_52 : decode cX9_settle 52 = .ok (.iconst 1, 1) := by decide +kernel
theorem dX9_settle_53 : decode cX9_settle 53 = .ok (.iaload, 1) := by decide +kernel
theorem dX9_settle_54 : decode cX9_settle 54 = .ok (.ineg, 1) := by decide +kernel
theorem dX9_settle_55 : decode cX9_settle 55 = .ok (.iadd, 1) := by decide +kernel
theorem dX9_settle_56 : decode cX9_settle 56 = .ok (.iastore, 1) := by decide +kernel
theorem dX9_settle_57 : decode cX9_settle 57 = .ok (.iinc 2 1, 3) := by decide +kernel
theorem dX9_settle_60 : decode cX9_settle 60 = .ok (.goto (-58), 3) := by decide +kernel
theorem dX9_settle_63 : decode cX9_settle 63 = .ok (.return_, 1) := by decide +kernel
theorem dX9_latestMorning_0 : decode cX9_latestMorning 0 = .ok (.aload_n 0, 1) := by decide +kernel
theorem dX9_latestMorning_1 : decode cX9_latestMorning 1 = .ok (.getfield 67, 3) := by decide +kernel
theorem dX9_latestMorning_4 : decode cX9_latestMorning 4 = .ok (.iconst 1, 1) := by decide +kernel
theorem dX9_latestMorning_5 : decode cX9_latestMorning 5 = .ok (.isub, 1) := by decide +kernel
theorem dX9_latestMorning_6 : decode cX9_latestMorning 6 = .ok (.istore_n 2, 1) := by decide +kernel
theorem dX9_latestMorning_7 : decode cX9_latestMorning 7 = .ok (.iload_n 2, 1) := by decide +kernel
theorem dX9_latestMorning_8 : decode cX9_latestMorning 8 = .ok (.ifCond .ge 5, 3) := by decide +kernel
theorem dX9_latestMorning_11 : decode cX9_latestMorning 11 = .ok (.iconst 0, 1) := by decide +kernel
theorem dX9_latestMorning_12 : decode cX9_latestMorning 12 = .ok (.ireturn, 1) := by decide +kernel
theorem dX9_latestMorning_13 : decode cX9_latestMorning 13 = .ok (.iload_n 1, 1) := by decide +kernel
theorem dX9_latestMorning_14 : decode cX9_latestMorning 14 = .ok (.lookupswitch 41 #[(0, 26), (1, 33)], 26) := by decide +kernel
theorem dX9_latestMorning_40 : decode cX9_latestMorning 40 = .ok (.aload_n 0, 1) := by decide +kernel
theorem dX9_latestMorning_41 : decode cX9_latestMorning 41 = .ok (.getfield 21, 3) := by decide +kernel
theorem dX9_latestMorning_44 : decode cX9_latestMorning 44 = .ok (.iload_n 2, 1) := by decide +kernel
theorem dX9_latestMorning_45 : decode cX9_latestMorning 45 = .ok (.iaload, 1) := by decide +kernel
theorem dX9_latestMorning_46 : decode cX9_latestMorning 46 = .ok (.ireturn, 1) := by decide +kernel
theorem dX9_latestMorning_47 : decode cX9_latestMorning 47 = .ok (.aload_n 0, 1) := by decide +kernel
theorem dX9_latestMorning_48 : decode cX9_latestMorning 48 = .ok (.iload_n 2, 1) := by decide +kernel
theorem dX9_latestMorning_49 : decode cX9_latestMorning 49 = .ok (.invokevirtual 154, 3) := by decide +kernel
theorem dX9_latestMorning_52 : decode cX9_latestMorning 52 = .ok (.iconst 1, 1) := by decide +kernel
theorem dX9_latestMorning_53 : decode cX9_latestMorning 53 = .ok (.iadd, 1) := by decide +kernel
theorem dX9_latestMorning_54 : decode cX9_latestMorning 54 = .ok (.ireturn, 1) := by decide +kernel
theorem dX9_latestMorning_55 : decode cX9_latestMorning 55 = .ok (.aload_n 0, 1) := by decide +kernel
theorem dX9_latestMorning_56 : decode cX9_latestMorning 56 = .ok (.invokevirtual 157, 3) := by decide +kernel
theorem dX9_latestMorning_59 : decode cX9_latestMorning 59 = .ok (.ireturn, 1) := by decide +kernel
theorem dX9_takingsTimesAll_0 : decode cX9_takingsTimesAll 0 = .ok (.aload_n 0, 1) := by decide +kernel
theorem dX9_takingsTimesAll_1 : decode cX9_takingsTimesAll 1 = .ok (.iload_n 1, 1) := by decide +kernel
theorem dX9_takingsTimesAll_2 : decode cX9_takingsTimesAll 2 = .ok (.iload_n 2, 1) := by decide +kernel
theorem dX9_takingsTimesAll_3 : decode cX9_takingsTimesAll 3 = .ok (.iload_n 3, 1) := by decide +kernel
theorem dX9_takingsTimesAll_4 : decode cX9_takingsTimesAll 4 = .ok (.invokevirtual 82, 3) := by decide +kernel
theorem dX9_takingsTimesAll_7 : decode cX9_takingsTimesAll 7 = .ok (.istore 4, 2) := by decide +kernel
theorem dX9_takingsTimesAll_9 : decode cX9_takingsTimesAll 9 = .ok (.aload_n 0, 1) := by decide +kernel
theorem dX9_takingsTimesAll_10 : decode cX9_takingsTimesAll 10 = .ok (.iload_n 1, 1) := by decide +kernel
theorem dX9_takingsTimesAll_11 : decode cX9_takingsTimesAll 11 = .ok (.invokevirtual 151, 3) := by decide +kernel
theorem dX9_takingsTimesAll_14 : decode cX9_takingsTimesAll 14 = .ok (.iload 4, 2) := by decide +kernel
theorem dX9_takingsTimesAll_16 : decode cX9_takingsTimesAll 16 = .ok (.imul, 1) := by decide +kernel
theorem dX9_takingsTimesAll_17 : decode cX9_takingsTimesAll 17 = .ok (.aload_n 0, 1) := by decide +kernel
theorem dX9_takingsTimesAll_18 : decode cX9_takingsTimesAll 18 = .ok (.getfield 35, 3) := by decide +kernel
theorem dX9_takingsTimesAll_21 : decode cX9_takingsTimesAll 21 = .ok (.iconst 1, 1) := by decide +kernel
theorem dX9_takingsTimesAll_22 : decode cX9_takingsTimesAll 22 = .ok (.iaload, 1) := by decide +kernel
theorem dX9_takingsTimesAll_23 : decode cX9_takingsTimesAll 23 = .ok (.aload_n 0, 1) := by decide +kernel
theorem dX9_takingsTimesAll_24 : decode cX9_takingsTimesAll 24 = .ok (.iload_n 1, 1) := by decide +kernel
theorem dX9_takingsTimesAll_25 : decode cX9_takingsTimesAll 25 = .ok (.iload_n 3, 1) := by decide +kernel
theorem dX9_takingsTimesAll_26 : decode cX9_takingsTimesAll 26 = .ok (.invokevirtual 86, 3) := by decide +kernel
theorem dX9_takingsTimesAll_29 : decode cX9_takingsTimesAll 29 = .ok (.iload 4, 2) := by decide +kernel
theorem dX9_takingsTimesAll_31 : decode cX9_takingsTimesAll 31 = .ok (.isub, 1) := by decide +kernel
theorem dX9_takingsTimesAll_32 : decode cX9_takingsTimesAll 32 = .ok (.imul, 1) := by decide +kernel
theorem dX9_takingsTimesAll_33 : decode cX9_takingsTimesAll 33 = .ok (.isub, 1) := by decide +kernel
theorem dX9_takingsTimesAll_34 : decode cX9_takingsTimesAll 34 = .ok (.ireturn, 1) := by decide +kernel
theorem dX9_gainTimesAll_0 : decode cX9_gainTimesAll 0 = .ok (.aload_n 0, 1) := by decide +kernel
theorem dX9_gainTimesAll_1 : decode cX9_gainTimesAll 1 = .ok (.iload_n 1, 1) := by decide +kernel
theorem dX9_gainTimesAll_2 : decode cX9_gainTimesAll 2 = .ok (.iload_n 2, 1) := by decide +kernel
theorem dX9_gainTimesAll_3 : decode cX9_gainTimesAll 3 = .ok (.iload_n 3, 1) := by decide +kernel
theorem dX9_gainTimesAll_4 : decode cX9_gainTimesAll 4 = .ok (.invokevirtual 160, 3) := by decide +kernel
theorem dX9_gainTimesAll_7 : decode cX9_gainTimesAll 7 = .ok (.aload_n 0, 1) := by decide +kernel
theorem dX9_gainTimesAll_8 : decode cX9_gainTimesAll 8 = .ok (.getfield 35, 3) := by decide +kernel
theorem dX9_gainTimesAll_11 : decode cX9_gainTimesAll 11 = .ok (.iconst 2, 1) := by decide +kernel
theorem dX9_gainTimesAll_12 : decode cX9_gainTimesAll 12 = .ok (.iaload, 1) := by decide +kernel
theorem dX9_gainTimesAll_13 : decode cX9_gainTimesAll 13 = .ok (.aload_n 0, 1) := by decide +kernel
theorem dX9_gainTimesAll_14 : decode cX9_gainTimesAll 14 = .ok (.iload_n 1, 1) := by decide +kernel
theorem dX9_gainTimesAll_15 : decode cX9_gainTimesAll 15 = .ok (.iload_n 3, 1) := by decide +kernel
theorem dX9_gainTimesAll_16 : decode cX9_gainTimesAll 16 = .ok (.invokevirtual 86, 3) := by decide +kernel
theorem dX9_gainTimesAll_19 : decode cX9_gainTimesAll 19 = .ok (.imul, 1) := by decide +kernel
theorem dX9_gainTimesAll_20 : decode cX9_gainTimesAll 20 = .ok (.isub, 1) := by decide +kernel
theorem dX9_gainTimesAll_21 : decode cX9_gainTimesAll 21 = .ok (.i2l, 1) := by decide +kernel
theorem dX9_gainTimesAll_22 : decode cX9_gainTimesAll 22 = .ok (.lreturn, 1) := by decide +kernel
theorem dX9_bestTimesAll_0 : decode cX9_bestTimesAll 0 = .ok (.lconst 0, 1) := by decide +kernel
theorem dX9_bestTimesAll_1 : decode cX9_bestTimesAll 1 = .ok (.lstore_n 3, 1) := by decide +kernel
theorem dX9_bestTimesAll_2 : decode cX9_bestTimesAll 2 = .ok (.iconst 0, 1) := by decide +kernel
theorem dX9_bestTimesAll_3 : decode cX9_bestTimesAll 3 = .ok (.istore 5, 2) := by decide +kernel
theorem dX9_bestTimesAll_5 : decode cX9_bestTimesAll 5 = .ok (.iload 5, 2) := by decide +kernel
theorem dX9_bestTimesAll_7 : decode cX9_bestTimesAll 7 = .ok (.iconst 4, 1) := by decide +kernel
theorem dX9_bestTimesAll_8 : decode cX9_bestTimesAll 8 = .ok (.if_icmp .ge 32, 3) := by decide +kernel
theorem dX9_bestTimesAll_11 : decode cX9_bestTimesAll 11 = .ok (.aload_n 0, 1) := by decide +kernel
theorem dX9_bestTimesAll_12 : decode cX9_bestTimesAll 12 = .ok (.iload_n 1, 1) := by decide +kernel
theorem dX9_bestTimesAll_13 : decode cX9_bestTimesAll 13 = .ok (.iload 5, 2) := by decide +kernel
theorem dX9_bestTimesAll_15 : decode cX9_bestTimesAll 15 = .ok (.invokevirtual 163, 3) := by decide +kernel
theorem dX9_bestTimesAll_18 : decode cX9_bestTimesAll 18 = .ok (.ifCond .ne 16, 3) := by decide +kernel
theorem dX9_bestTimesAll_21 : decode cX9_bestTimesAll 21 = .ok (.lload_n 3, 1) := by decide +kernel
theorem dX9_bestTimesAll_22 : decode cX9_bestTimesAll 22 = .ok (.aload_n 0, 1) := by decide +kernel
theorem dX9_bestTimesAll_23 : decode cX9_bestTimesAll 23 = .ok (.iload_n 1, 1) := by decide +kernel
theorem dX9_bestTimesAll_24 : decode cX9_bestTimesAll 24 = .ok (.iload 5, 2) := by decide +kernel
theorem dX9_bestTimesAll_26 : decode cX9_bestTimesAll 26 = .ok (.iload_n 2, 1) := by decide +kernel
theorem dX9_bestTimesAll_27 : decode cX9_bestTimesAll 27 = .ok (.invokevirtual 167, 3) := by decide +kernel
theorem dX9_bestTimesAll_30 : decode cX9_bestTimesAll 30 = .ok (.invokestatic 171, 3) := by decide +kernel
theorem dX9_bestTimesAll_33 : decode cX9_bestTimesAll 33 = .ok (.lstore_n 3, 1) := by decide +kernel
theorem dX9_bestTimesAll_34 : decode cX9_bestTimesAll 34 = .ok (.iinc 5 1, 3) := by decide +kernel
theorem dX9_bestTimesAll_37 : decode cX9_bestTimesAll 37 = .ok (.goto (-32), 3) := by decide +kernel
theorem dX9_bestTimesAll_40 : decode cX9_bestTimesAll 40 = .ok (.lload_n 3, 1) := by decide +kernel
theorem dX9_bestTimesAll_41 : decode cX9_bestTimesAll 41 = .ok (.lreturn, 1) := by decide +kernel
theorem dX9_bestPlace_0 : decode cX9_bestPlace 0 = .ok (.iconst (-1), 1) := by decide +kernel
theorem dX9_bestPlace_1 : decode cX9_bestPlace 1 = .ok (.istore_n 1, 1) := by decide +kernel
theorem dX9_bestPlace_2 : decode cX9_bestPlace 2 = .ok (.lconst 0, 1) := by decide +kernel
theorem dX9_bestPlace_3 : decode cX9_bestPlace 3 = .ok (.lstore_n 2, 1) := by decide +kernel
theorem dX9_bestPlace_4 : decode cX9_bestPlace 4 = .ok (.lconst 1, 1) := by decide +kernel
theorem dX9_bestPlace_5 : decode cX9_bestPlace 5 = .ok (.lstore 4, 2) := by decide +kernel
theorem dX9_bestPlace_7 : decode cX9_bestPlace 7 = .ok (.aload_n 0, 1) := by decide +kernel
theorem dX9_bestPlace_8 : decode cX9_bestPlace 8 = .ok (.getfield 67, 3) := by decide +kernel
theorem dX9_bestPlace_11 : decode cX9_bestPlace 11 = .ok (.iconst 4, 1) := by decide +kernel
theorem dX9_bestPlace_12 : decode cX9_bestPlace 12 = .ok (.imul, 1) := by decide +kernel
theorem dX9_bestPlace_13 : decode cX9_bestPlace 13 = .ok (.istore 6, 2) := by decide +kernel
theorem dX9_bestPlace_15 : decode cX9_bestPlace 15 = .ok (.iload 6, 2) := by decide +kernel
theorem dX9_bestPlace_17 : decode cX9_bestPlace 17 = .ok (.bipush 80, 2) := by decide +kernel
theorem dX9_bestPlace_19 : decode cX9_bestPlace 19 = .ok (.if_icmp .ge 83, 3) := by decide +kernel
theorem dX9_bestPlace_22 : decode cX9_bestPlace 22 = .ok (.iload 6, 2) := by decide +kernel
theorem dX9_bestPlace_24 : decode cX9_bestPlace 24 = .ok (.iconst 4, 1) := by decide +kernel
theorem dX9_bestPlace_25 : decode cX9_bestPlace 25 = .ok (.idiv, 1) := by decide +kernel
theorem dX9_bestPlace_26 : decode cX9_bestPlace 26 = .ok (.istore 7, 2) := by decide +kernel
theorem dX9_bestPlace_28 : decode cX9_bestPlace 28 = .ok (.aload_n 0, 1) := by decide +kernel
theorem dX9_bestPlace_29 : decode cX9_bestPlace 29 = .ok (.iload 7, 2) := by decide +kernel
theorem dX9_bestPlace_31 : decode cX9_bestPlace 31 = .ok (.iload 6, 2) := by decide +kernel
theorem dX9_bestPlace_33 : decode cX9_bestPlace 33 = .ok (.iconst 4, 1) := by decide +kernel
theorem dX9_bestPlace_34 : decode cX9_bestPlace 34 = .ok (.irem, 1) := by decide +kernel
theorem dX9_bestPlace_35 : decode cX9_bestPlace 35 = .ok (.invokevirtual 163, 3) := by decide +kernel
theorem dX9_bestPlace_38 : decode cX9_bestPlace 38 = .ok (.ifCond .ne 58, 3) := by decide +kernel
theorem dX9_bestPlace_41 : decode cX9_bestPlace 41 = .ok (.aload_n 0, 1) := by decide +kernel
theorem dX9_bestPlace_42 : decode cX9_bestPlace 42 = .ok (.iload 7, 2) := by decide +kernel
theorem dX9_bestPlace_44 : decode cX9_bestPlace 44 = .ok (.iload 6, 2) := by decide +kernel
theorem dX9_bestPlace_46 : decode cX9_bestPlace 46 = .ok (.iconst 4, 1) := by decide +kernel
theorem dX9_bestPlace_47 : decode cX9_bestPlace 47 = .ok (.irem, 1) := by decide +kernel
theorem dX9_bestPlace_48 : decode cX9_bestPlace 48 = .ok (.aload_n 0, 1) := by decide +kernel
theorem dX9_bestPlace_49 : decode cX9_bestPlace 49 = .ok (.getfield 18, 3) := by decide +kernel
theorem dX9_bestPlace_52 : decode cX9_bestPlace 52 = .ok (.iload 7, 2) := by decide +kernel
theorem dX9_bestPlace_54 : decode cX9_bestPlace 54 = .ok (.iaload, 1) := by decide +kernel
theorem dX9_bestPlace_55 : decode cX9_bestPlace 55 = .ok (.invokevirtual 167, 3) := by decide +kernel
theorem dX9_bestPlace_58 : decode cX9_bestPlace 58 = .ok (.lstore 8, 2) := by decide +kernel
theorem dX9_bestPlace_60 : decode cX9_bestPlace 60 = .ok (.aload_n 0, 1) := by decide +kernel
theorem dX9_bestPlace_61 : decode cX9_bestPlace 61 = .ok (.iload 7, 2) := by decide +kernel
theorem dX9_bestPlace_63 : decode cX9_bestPlace 63 = .ok (.invokevirtual 145, 3) := by decide +kernel
theorem dX9_bestPlace_66 : decode cX9_bestPlace 66 = .ok (.i2l, 1) := by decide +kernel
theorem dX9_bestPlace_67 : decode cX9_bestPlace 67 = .ok (.lstore 10, 2) := by decide +kernel
theorem dX9_bestPlace_69 : decode cX9_bestPlace 69 = .ok (.iload_n 1, 1) := by decide +kernel
theorem dX9_bestPlace_70 : decode cX9_bestPlace 70 = .ok (.ifCond .lt 16, 3) := by decide +kernel
theorem dX9_bestPlace_73 : decode cX9_bestPlace 73 = .ok (.lload 8, 2) := by decide +kernel
theorem dX9_bestPlace_75 : decode cX9_bestPlace 75 = .ok (.lload 4, 2) := by decide +kernel
theorem dX9_bestPlace_77 : decode cX9_bestPlace 77 = .ok (.lmul, 1) := by decide +kernel
theorem dX9_bestPlace_78 : decode cX9_bestPlace 78 = .ok (.lload_n 2, 1) := by decide +kernel
theorem dX9_bestPlace_79 : decode cX9_bestPlace 79 = .ok (.lload 10, 2) := by decide +kernel
theorem dX9_bestPlace_81 : decode cX9_bestPlace 81 = .ok (.lmul, 1) := by decide +kernel
theorem dX9_bestPlace_82 : decode cX9_bestPlace 82 = .ok (.lcmp, 1) := by decide +kernel
theorem dX9_bestPlace_83 : decode cX9_bestPlace 83 = .ok (.ifCond .le 13, 3) := by decide +kernel
theorem dX9_bestPlace_86 : decode cX9_bestPlace 86 = .ok (.iload 6, 2) := by decide +kernel
theorem dX9_bestPlace_88 : decode cX9_bestPlace 88 = .ok (.istore_n 1, 1) := by decide +kernel
theorem dX9_bestPlace_89 : decode cX9_bestPlace 89 = .ok (.lload 8, 2) := by decide +kernel
theorem dX9_bestPlace_91 : decode cX9_bestPlace 91 = .ok (.lstore_n 2, 1) := by decide +kernel
theorem dX9_bestPlace_92 : decode cX9_bestPlace 92 = .ok (.lload 10, 2) := by decide +kernel
theorem dX9_bestPlace_94 : decode cX9_bestPlace 94 = .ok (.lstore 4, 2) := by decide +kernel
theorem dX9_bestPlace_96 : decode cX9_bestPlace 96 = .ok (.iinc 6 1, 3) := by decide +kernel
theorem dX9_bestPlace_99 : decode cX9_bestPlace 99 = .ok (.goto (-84), 3) := by decide +kernel
theorem dX9_bestPlace_102 : decode cX9_bestPlace 102 = .ok (.iload_n 1, 1) := by decide +kernel
theorem dX9_bestPlace_103 : decode cX9_bestPlace 103 = .ok (.ireturn, 1) := by decide +kernel
theorem dX9_owedFor_0 : decode cX9_owedFor 0 = .ok (.aload_n 0, 1) := by decide +kernel
theorem dX9_owedFor_1 : decode cX9_owedFor 1 = .ok (.getfield 54, 3) := by decide +kernel
theorem dX9_owedFor_4 : decode cX9_owedFor 4 = .ok (.iload_n 1, 1) := by decide +kernel
theorem dX9_owedFor_5 : decode cX9_owedFor 5 = .ok (.iaload, 1) := by decide +kernel
theorem dX9_owedFor_6 : decode cX9_owedFor 6 = .ok (.istore_n 2, 1) := by decide +kernel
theorem dX9_owedFor_7 : decode cX9_owedFor 7 = .ok (.aload_n 0, 1) := by decide +kernel
theorem dX9_owedFor_8 : decode cX9_owedFor 8 = .ok (.iload_n 2, 1) := by decide +kernel
theorem dX9_owedFor_9 : decode cX9_owedFor 9 = .ok (.invokevirtual 145, 3) := by decide +kernel
theorem dX9_owedFor_12 : decode cX9_owedFor 12 = .ok (.istore_n 3, 1) := by decide +kernel
theorem dX9_owedFor_13 : decode cX9_owedFor 13 = .ok (.aload_n 0, 1) := by decide +kernel
theorem dX9_owedFor_14 : decode cX9_owedFor 14 = .ok (.iload_n 2, 1) := by decide +kernel
theorem dX9_owedFor_15 : decode cX9_owedFor 15 = .ok (.invokevirtual 98, 3) := by decide +kernel
theorem dX9_owedFor_18 : decode cX9_owedFor 18 = .ok (.ifCond .ne 7, 3) := by decide +kernel
theorem dX9_owedFor_21 : decode cX9_owedFor 21 = .ok (.iload_n 3, 1) := by decide +kernel
theorem dX9_owedFor_22 : decode cX9_owedFor 22 = .ok (.ifCond .gt 5, 3) := by decide +kernel
theorem dX9_owedFor_25 : decode cX9_owedFor 25 = .ok (.lconst 0, 1) := by decide +kernel
theorem dX9_owedFor_26 : decode cX9_owedFor 26 = .ok (.lreturn, 1) := by decide +kernel
theorem dX9_owedFor_27 : decode cX9_owedFor 27 = .ok (.ldc2_w 175, 3) := by decide +kernel
theorem dX9_owedFor_30 : decode cX9_owedFor 30 = .ok (.aload_n 0, 1) := by decide +kernel
theorem dX9_owedFor_31 : decode cX9_owedFor 31 = .ok (.iload_n 2, 1) := by decide +kernel
theorem dX9_owedFor_32 : decode cX9_owedFor 32 = .ok (.aload_n 0, 1) := by decide +kernel
theorem dX9_owedFor_33 : decode cX9_owedFor 33 = .ok (.getfield 57, 3) := by decide +kernel
theorem dX9_owedFor_36 : decode cX9_owedFor 36 = .ok (.iload_n 1, 1) := by decide +kernel
theorem dX9_owedFor_37 : decode cX9_owedFor 37 = .ok (.iaload, 1) := by decide +kernel
theorem dX9_owedFor_38 : decode cX9_owedFor 38 = .ok (.aload_n 0, 1) := by decide +kernel
theorem dX9_owedFor_39 : decode cX9_owedFor 39 = .ok (.getfield 18, 3) := by decide +kernel
theorem dX9_owedFor_42 : decode cX9_owedFor 42 = .ok (.iload_n 2, 1) := by decide +kernel
theorem dX9_owedFor_43 : decode cX9_owedFor 43 = .ok (.iaload, 1) := by decide +kernel
theorem dX9_owedFor_44 : decode cX9_owedFor 44 = .ok (.invokevirtual 160, 3) := by decide +kernel
theorem dX9_owedFor_47 : decode cX9_owedFor 47 = .ok (.i2l, 1) := by decide +kernel
theorem dX9_owedFor_48 : decode cX9_owedFor 48 = .ok (.lmul, 1) := by decide +kernel
theorem dX9_owedFor_49 : decode cX9_owedFor 49 = .ok (.iload_n 3, 1) := by decide +kernel
theorem dX9_owedFor_50 : decode cX9_owedFor 50 = .ok (.i2l, 1) := by decide +kernel
theorem dX9_owedFor_51 : decode cX9_owedFor 51 = .ok (.ldiv, 1) := by decide +kernel
theorem dX9_owedFor_52 : decode cX9_owedFor 52 = .ok (.lreturn, 1) := by decide +kernel
