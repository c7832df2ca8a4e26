theorem dX0_init_0 : decode cX0_init 0 = .ok (.aload_n 0, 1) := by decide +kernel
theorem dX0_init_1 : decode cX0_init 1 = .ok (.invokespecial 1, 3) := by decide +kernel
theorem dX0_init_4 : decode cX0_init 4 = .ok (.aload_n 0, 1) := by decide +kernel
theorem dX0_init_5 : decode cX0_init 5 = .ok (.iconst 0, 1) := by decide +kernel
theorem dX0_init_6 : decode cX0_init 6 = .ok (.putfield 7, 3) := by decide +kernel
theorem dX0_init_9 : decode cX0_init 9 = .ok (.aload_n 0, 1) := by decide +kernel
theorem dX0_init_10 : decode cX0_init 10 = .ok (.iconst 0, 1) := by decide +kernel
theorem dX0_init_11 : decode cX0_init 11 = .ok (.putfield 13, 3) := by decide +kernel
theorem dX0_init_14 : decode cX0_init 14 = .ok (.aload_n 0, 1) := by decide +kernel
theorem dX0_init_15 : decode cX0_init 15 = .ok (.iload_n 1, 1) := by decide +kernel
theorem dX0_init_16 : decode cX0_init 16 = .ok (.putfield 17, 3) := by decide +kernel
theorem dX0_init_19 : decode cX0_init 19 = .ok (.aload_n 0, 1) := by decide +kernel
theorem dX0_init_20 : decode cX0_init 20 = .ok (.iload_n 2, 1) := by decide +kernel
theorem dX0_init_21 : decode cX0_init 21 = .ok (.putfield 20, 3) := by decide +kernel
theorem dX0_init_24 : decode cX0_init 24 = .ok (.aload_n 0, 1) := by decide +kernel
theorem dX0_init_25 : decode cX0_init 25 = .ok (.iload_n 3, 1) := by decide +kernel
theorem dX0_init_26 : decode cX0_init 26 = .ok (.putfield 23, 3) := by decide +kernel
theorem dX0_init_29 : decode cX0_init 29 = .ok (.aload_n 0, 1) := by decide +kernel
theorem dX0_init_30 : decode cX0_init 30 = .ok (.iload 4, 2) := by decide +kernel
theorem dX0_init_32 : decode cX0_init 32 = .ok (.putfield 26, 3) := by decide +kernel
theorem dX0_init_35 : decode cX0_init 35 = .ok (.aload_n 0, 1) := by decide +kernel
theorem dX0_init_36 : decode cX0_init 36 = .ok (.iload 5, 2) := by decide +kernel
theorem dX0_init_38 : decode cX0_init 38 = .ok (.putfield 29, 3) := by decide +kernel
theorem dX0_init_41 : decode cX0_init 41 = .ok (.aload_n 0, 1) := by decide +kernel
theorem dX0_init_42 : decode cX0_init 42 = .ok (.iload 6, 2) := by decide +kernel
theorem dX0_init_44 : decode cX0_init 44 = .ok (.putfield 32, 3) := by decide +kernel
theorem dX0_init_47 : decode cX0_init 47 = .ok (.aload_n 0, 1) := by decide +kernel
theorem dX0_init_48 : decode cX0_init 48 = .ok (.iload 7, 2) := by decide +kernel
theorem dX0_init_50 : decode cX0_init 50 = .ok (.putfield 35, 3) := by decide +kernel
theorem dX0_init_53 : decode cX0_init 53 = .ok (.return_, 1) := by decide +kernel
theorem dX1_init_0 : decode cX1_init 0 = .ok (.aload_n 0, 1) := by decide +kernel
theorem dX1_init_1 : decode cX1_init 1 = .ok (.invokespecial 3, 3) := by decide +kernel
theorem dX1_init_4 : decode cX1_init 4 = .ok (.aload_n 0, 1) := by decide +kernel
theorem dX1_init_5 : decode cX1_init 5 = .ok (.bipush 6, 2) := by decide +kernel
theorem dX1_init_7 : decode cX1_init 7 = .ok (.anewarray 9, 3) := by decide +kernel
theorem dX1_init_10 : decode cX1_init 10 = .ok (.putfield 11, 3) := by decide +kernel
theorem dX1_init_13 : decode cX1_init 13 = .ok (.aload_n 0, 1) := by decide +kernel
theorem dX1_init_14 : decode cX1_init 14 = .ok (.bipush 6, 2) := by decide +kernel
theorem dX1_init_16 : decode cX1_init 16 = .ok (.newarray .int, 2) := by decide +kernel
theorem dX1_init_18 : decode cX1_init 18 = .ok (.putfield 17, 3) := by decide +kernel
theorem dX1_init_21 : decode cX1_init 21 = .ok (.aload_n 0, 1) := by decide +kernel
theorem dX1_init_22 : decode cX1_init 22 = .ok (.bipush 6, 2) := by decide +kernel
theorem dX1_init_24 : decode cX1_init 24 = .ok (.newarray .int, 2) := by decide +kernel
theorem dX1_init_26 : decode cX1_init 26 = .ok (.putfield 21, 3) := by decide +kernel
theorem dX1_init_29 : decode cX1_init 29 = .ok (.aload_n 0, 1) := by decide +kernel
theorem dX1_init_30 : decode cX1_init 30 = .ok (.bipush 6, 2) := by decide +kernel
theorem dX1_init_32 : decode cX1_init 32 = .ok (.newarray .int, 2) := by decide +kernel
theorem dX1_init_34 : decode cX1_init 34 = .ok (.putfield 24, 3) := by decide +kernel
theorem dX1_init_37 : decode cX1_init 37 = .ok (.aload_n 0, 1) := by decide +kernel
theorem dX1_init_38 : decode cX1_init 38 = .ok (.bipush 6, 2) := by decide +kernel
theorem dX1_init_40 : decode cX1_init 40 = .ok (.newarray .int, 2) := by decide +kernel
theorem dX1_init_42 : decode cX1_init 42 = .ok (.putfield 27, 3) := by decide +kernel
theorem dX1_init_45 : decode cX1_init 45 = .ok (.aload_n 0, 1) := by decide +kernel
theorem dX1_init_46 : decode cX1_init 46 = .ok (.bipush 6, 2) := by decide +kernel
theorem dX1_init_48 : decode cX1_init 48 = .ok (.newarray .int, 2) := by decide +kernel
theorem dX1_init_50 : decode cX1_init 50 = .ok (.putfield 30, 3) := by decide +kernel
theorem dX1_init_53 : decode cX1_init 53 = .ok (.aload_n 0, 1) := by decide +kernel
theorem dX1_init_54 : decode cX1_init 54 = .ok (.bipush 7, 2) := by decide +kernel
theorem dX1_init_56 : decode cX1_init 56 = .ok (.newarray .int, 2) := by decide +kernel
theorem dX1_init_58 : decode cX1_init 58 = .ok (.putfield 33, 3) := by decide +kernel
theorem dX1_init_61 : decode cX1_init 61 = .ok (.aload_n 0, 1) := by decide +kernel
theorem dX1_init_62 : decode cX1_init 62 = .ok (.bipush 72, 2) := by decide +kernel
theorem dX1_init_64 : decode cX1_init 64 = .ok (.anewarray 36, 3) := by decide +kernel
theorem dX1_init_67 : decode cX1_init 67 = .ok (.putfield 38, 3) := by decide +kernel
theorem dX1_init_70 : decode cX1_init 70 = .ok (.aload_n 0, 1) := by decide +kernel
theorem dX1_init_71 : decode cX1_init 71 = .ok (.bipush 72, 2) := by decide +kernel
theorem dX1_init_73 : decode cX1_init 73 = .ok (.anewarray 36, 3) := by decide +kernel
theorem dX1_init_76 : decode cX1_init 76 = .ok (.putfield 42, 3) := by decide +kernel
theorem dX1_init_79 : decode cX1_init 79 = .ok (.aload_n 0, 1) := by decide +kernel
theorem dX1_init_80 : decode cX1_init 80 = .ok (.bipush 72, 2) := by decide +kernel
theorem dX1_init_82 : decode cX1_init 82 = .ok (.newarray .int, 2) := by decide +kernel
theorem dX1_init_84 : decode cX1_init 84 = .ok (.putfield 45, 3) := by decide +kernel
theorem dX1_init_87 : decode cX1_init 87 = .ok (.aload_n 0, 1) := by decide +kernel
theorem dX1_init_88 : decode cX1_init 88 = .ok (.bipush 72, 2) := by decide +kernel
theorem dX1_init_90 : decode cX1_init 90 = .ok (.newarray .long, 2) := by decide +kernel
theorem dX1_init_92 : decode cX1_init 92 = .ok (.putfield 48, 3) := by decide +kernel
theorem dX1_init_95 : decode cX1_init 95 = .ok (.aload_n 0, 1) := by decide +kernel
theorem dX1_init_96 : decode cX1_init 96 = .ok (.lconst 0, 1) := by decide +kernel
theorem dX1_init_97 : decode cX1_init 97 = .ok (.putfield 52, 3) := by decide +kernel
theorem dX1_init_100 : decode cX1_init 100 = .ok (.aload_n 0, 1) := by decide +kernel
theorem dX1_init_101 : decode cX1_init 101 = .ok (.iconst 0, 1) := by decide +kernel
theorem dX1_init_102 : decode cX1_init 102 = .ok (.putfield 56, 3) := by decide +kernel
theorem dX1_init_105 : decode cX1_init 105 = .ok (.return_, 1) := by decide +kernel
theorem dX1_begin_0 : decode cX1_begin 0 = .ok (.aload_n 0, 1) := by decide +kernel
theorem dX1_begin_1 : decode cX1_begin 1 = .ok (.iconst 0, 1) := by decide +kernel
theorem dX1_begin_2 : decode cX1_begin 2 = .ok (.putfield 56, 3) := by decide +kernel
theorem dX1_begin_5 : decode cX1_begin 5 = .ok (.aload_n 0, 1) := by decide +kernel
theorem dX1_begin_6 : decode cX1_begin 6 = .ok (.lconst 0, 1) := by decide +kernel
theorem dX1_begin_7 : decode cX1_begin 7 = .ok (.putfield 52, 3) := by decide +kernel
theorem dX1_begin_10 : decode cX1_begin 10 = .ok (.return_, 1) := by decide +kernel
theorem dX1_addParty_0 : decode cX1_addParty 0 = .ok (.aload_n 0, 1) := by decide +kernel
theorem dX1_addParty_1 : decode cX1_addParty 1 = .ok (.getfield 56, 3) := by decide +kernel
theorem dX1_addParty_4 : decode cX1_addParty 4 = .ok (.bipush 6, 2) := by decide +kernel
theorem dX1_addParty_6 : decode cX1_addParty 6 = .ok (.if_icmp .ge 13, 3) := by decide +kernel
theorem dX1_addParty_9 : decode cX1_addParty 9 = .ok (.iload_n 2, 1) := by decide +kernel
theorem dX1_addParty_10 : decode cX1_addParty 10 = .ok (.ifCond .lt 9, 3) := by decide +kernel
theorem dX1_addParty_13 : decode cX1_addParty 13 = .ok (.iload_n 2, 1) := by decide +kernel
theorem dX1_addParty_14 : decode cX1_addParty 14 = .ok (.bipush 6, 2) := by decide +kernel
theorem dX1_addParty_16 : decode cX1_addParty 16 = .ok (.if_icmp .lt 4, 3) := by decide +kernel
theorem dX1_addParty_19 : decode cX1_addParty 19 = .ok (.return_, 1) := by decide +kernel
theorem dX1_addParty_20 : decode cX1_addParty 20 = .ok (.aload_n 0, 1) := by decide +kernel
theorem dX1_addParty_21 : decode cX1_addParty 21 = .ok (.getfield 11, 3) := by decide +kernel
theorem dX1_addParty_24 : decode cX1_addParty 24 = .ok (.aload_n 0, 1) := by decide +kernel
theorem dX1_addParty_25 : decode cX1_addParty 25 = .ok (.getfield 56, 3) := by decide +kernel
theorem dX1_addParty_28 : decode cX1_addParty 28 = .ok (.aload_n 1, 1) := by decide +kernel
theorem dX1_addParty_29 : decode cX1_addParty 29 = .ok (.aastore, 1) := by decide +kernel
theorem dX1_addParty_30 : decode cX1_addParty 30 = .ok (.aload_n 0, 1) := by decide +kernel
theorem dX1_addParty_31 : decode cX1_addParty 31 = .ok (.getfield 17, 3) := by decide +kernel
theorem dX1_addParty_34 : decode cX1_addParty 34 = .ok (.aload_n 0, 1) := by decide +kernel
theorem dX1_addParty_35 : decode cX1_addParty 35 = .ok (.getfield 56, 3) := by decide +kernel
theorem dX1_addParty_38 : decode cX1_addParty 38 = .ok (.iload_n 2, 1) := by decide +kernel
theorem dX1_addParty_39 : decode cX1_addParty 39 = .ok (.iastore, 1) := by decide +kernel
theorem dX1_addParty_40 : decode cX1_addParty 40 = .ok (.aload_n 0, 1) := by decide +kernel
theorem dX1_addParty_41 : decode cX1_addParty 41 = .ok (.getfield 21, 3) := by decide +kernel
theorem dX1_addParty_44 : decode cX1_addParty 44 = .ok (.aload_n 0, 1) := by decide +kernel
theorem dX1_addParty_45 : decode cX1_addParty 45 = .ok (.getfield 56, 3) := by decide +kernel
theorem dX1_addParty_48 : decode cX1_addParty 48 = .ok (.aload_n 0, 1) := by decide +kernel
theorem dX1_addParty_49 : decode cX1_addParty 49 = .ok (.aload_n 1, 1) := by decide +kernel
theorem dX1_addParty_50 : decode cX1_addParty 50 = .ok (.invokevirtual 60, 3) := by decide +kernel
theorem dX1_addParty_53 : decode cX1_addParty 53 = .ok (.iastore, 1) := by decide +kernel
theorem dX1_addParty_54 : decode cX1_addParty 54 = .ok (.aload_n 0, 1) := by decide +kernel
theorem dX1_addParty_55 : decode cX1_addParty 55 = .ok (.getfield 24, 3) := by decide +kernel
theorem dX1_addParty_58 : decode cX1_addParty 58 = .ok (.aload_n 0, 1) := by decide +kernel
theorem dX1_addParty_59 : decode cX1_addParty 59 = .ok (.getfield 56, 3) := by decide +kernel
theorem dX1_addParty_62 : decode cX1_addParty 62 = .ok (.iconst 0, 1) := by decide +kernel
theorem dX1_addParty_63 : decode cX1_addParty 63 = .ok (.iastore, 1) := by decide +kernel
theorem dX1_addParty_64 : decode cX1_addParty 64 = .ok (.aload_n 0, 1) := by decide +kernel
theorem dX1_addParty_65 : decode cX1_addParty 65 = .ok (.dup, 1) := by decide +kernel
theorem dX1_addParty_66 : decode cX1_addParty 66 = .ok (.getfield 56, 3) := by decide +kernel
theorem dX1_addParty_69 : decode cX1_addParty 69 = .ok (.iconst 1, 1) := by decide +kernel
theorem dX1_addParty_70 : decode cX1_addParty 70 = .ok (.iadd, 1) := by decide +kernel
theorem dX1_addParty_71 : decode cX1_addParty 71 = .ok (.putfield 56, 3) := by decide +kernel
theorem dX1_addParty_74 : decode cX1_addParty 74 = .ok (.return_, 1) := by decide +kernel
theorem dX1_addWay_0 : decode cX1_addWay 0 = .ok (.aload_n 0, 1) := by decide +kernel
theorem dX1_addWay_1 : decode cX1_addWay 1 = .ok (.getfield 56, 3) := by decide +kernel
theorem dX1_addWay_4 : decode cX1_addWay 4 = .ok (.iconst 1, 1) := by decide +kernel
theorem dX1_addWay_5 : decode cX1_addWay 5 = .ok (.isub, 1) := by decide +kernel
theorem dX1_addWay_6 : decode cX1_addWay 6 = .ok (.istore_n 3, 1) := by decide +kernel
theorem dX1_addWay_7 : decode cX1_addWay 7 = .ok (.iload_n 3, 1) := by decide +kernel
theorem dX1_addWay_8 : decode cX1_addWay 8 = .ok (.ifCond .lt 14, 3) := by decide +kernel
theorem dX1_addWay_11 : decode cX1_addWay 11 = .ok (.aload_n 0, 1) := by decide +kernel
theorem dX1_addWay_12 : decode cX1_addWay 12 = .ok (.getfield 24, 3) := by decide +kernel
theorem dX1_addWay_15 : decode cX1_addWay 15 = .ok (.iload_n 3, 1) := by decide +kernel
theorem dX1_addWay_16 : decode cX1_addWay 16 = .ok (.iaload, 1) := by decide +kernel
theorem dX1_addWay_17 : decode cX1_addWay 17 = .ok (.bipush 12, 2) := by decide +kernel
theorem dX1_addWay_19 : decode cX1_addWay 19 = .ok (.if_icmp .lt 4, 3) := by decide +kernel
theorem dX1_addWay_22 : decode cX1_addWay 22 = .ok (.return_, 1) := by decide +kernel
theorem dX1_addWay_23 : decode cX1_addWay 23 = .ok (.aload_n 0, 1) := by decide +kernel
theorem dX1_addWay_24 : decode cX1_addWay 24 = .ok (.getfield 24, 3) := by decide +kernel
theorem dX1_addWay_27 : decode cX1_addWay 27 = .ok (.iload_n 3, 1) := by decide +kernel
theorem dX1_addWay_28 : decode cX1_addWay 28 = .ok (.iaload, 1) := by decide +kernel
theorem dX1_addWay_29 : decode cX1_addWay 29 = .ok (.istore 4, 2) := by decide +kernel
theorem dX1_addWay_31 : decode cX1_addWay 31 = .ok (.aload_n 0, 1) := by decide +kernel
theorem dX1_addWay_32 : decode cX1_addWay 32 = .ok (.iload_n 3, 1) := by decide +kernel
theorem dX1_addWay_33 : decode cX1_addWay 33 = .ok (.aload_n 0, 1) := by decide +kernel
theorem dX1_addWay_34 : decode cX1_addWay 34 = .ok (.getfield 11, 3) := by decide +kernel
theorem dX1_addWay_37 : decode cX1_addWay 37 = .ok (.iload_n 3, 1) := by decide +kernel
theorem dX1_addWay_38 : decode cX1_addWay 38 = .ok (.aaload, 1) := by decide +kernel
theorem dX1_addWay_39 : decode cX1_addWay 39 = .ok (.aload_n 1, 1) := by decide +kernel
theorem dX1_addWay_40 : decode cX1_addWay 40 = .ok (.aload_n 2, 1) := by decide +kernel
theorem dX1_addWay_41 : decode cX1_addWay 41 = .ok (.invokevirtual 64, 3) := by decide +kernel
theorem dX1_addWay_44 : decode cX1_addWay 44 = .ok (.iload 4, 2) := by decide +kernel
theorem dX1_addWay_46 : decode cX1_addWay 46 = .ok (.invokevirtual 68, 3) := by decide +kernel
theorem dX1_addWay_49 : decode cX1_addWay 49 = .ok (.lstore 5, 2) := by decide +kernel
theorem dX1_addWay_51 : decode cX1_addWay 51 = .ok (.iload_n 3, 1) := by decide +kernel
theorem dX1_addWay_52 : decode cX1_addWay 52 = .ok (.bipush 12, 2) := by decide +kernel
theorem dX1_addWay_54 : decode cX1_addWay 54 = .ok (.imul, 1) := by decide +kernel
theorem dX1_addWay_55 : decode cX1_addWay 55 = .ok (.istore 7, 2) := by decide +kernel
theorem dX1_addWay_57 : decode cX1_addWay 57 = .ok (.iload 7, 2) := by decide +kernel
theorem dX1_addWay_59 : decode cX1_addWay 59 = .ok (.iload 4, 2) := by decide +kernel
theorem dX1_addWay_61 : decode cX1_addWay 61 = .ok (.iadd, 1) := by decide +kernel
theorem dX1_addWay_62 : decode cX1_addWay 62 = .ok (.istore 8, 2) := by decide +kernel
theorem dX1_addWay_64 : decode cX1_addWay 64 = .ok (.iload 8, 2) := by decide +kernel
theorem dX1_addWay_66 : decode cX1_addWay 66 = .ok (.iload 7, 2) := by decide +kernel
theorem dX1_addWay_68 : decode cX1_addWay 68 = .ok (.if_icmp .le 66, 3) := by decide +kernel
theorem dX1_addWay_71 : decode cX1_addWay 71 = .ok (.aload_n 0, 1) := by decide +kernel
theorem dX1_addWay_72 : decode cX1_addWay 72 = .ok (.getfield 48, 3) := by decide +kernel
theorem dX1_addWay_75 : decode cX1_addWay 75 = .ok (.iload 8, 2) := by decide +kernel
theorem dX1_addWay_77 : decode cX1_addWay 77 = .ok (.iconst 1, 1) := by decide +kernel
theorem dX1_addWay_78 : decode cX1_addWay 78 = .ok (.isub, 1) := by decide +kernel
theorem dX1_addWay_79 : decode cX1_addWay 79 = .ok (.laload, 1) := by decide +kernel
theorem dX1_addWay_80 : decode cX1_addWay 80 = .ok (.lload 5, 2) := by decide +kernel
theorem dX1_addWay_82 : decode cX1_addWay 82 = .ok (.lcmp, 1) := by decide +kernel
theorem dX1_addWay_83 : decode cX1_addWay 83 = .ok (.ifCond .ge 51, 3) := by decide +kernel
theorem dX1_addWay_86 : decode cX1_addWay 86 = .ok (.aload_n 0, 1) := by decide +kernel
theorem dX1_addWay_87 : decode cX1_addWay 87 = .ok (.iload 8, 2) := by decide +kernel
theorem dX1_addWay_89 : decode cX1_addWay 89 = .ok (.aload_n 0, 1) := by decide +kernel
theorem dX1_addWay_90 : decode cX1_addWay 90 = .ok (.getfield 38, 3) := by decide +kernel
theorem dX1_addWay_93 : decode cX1_addWay 93 = .ok (.iload 8, 2) := by decide +kernel
theorem dX1_addWay_95 : decode cX1_addWay 95 = .ok (.iconst 1, 1) := by decide +kernel
theorem dX1_addWay_96 : decode cX1_addWay 96 = .ok (.isub, 1) := by decide +kernel
theorem dX1_addWay_97 : decode cX1_addWay 97 = .ok (.aaload, 1) := by decide +kernel
theorem dX1_addWay_98 : decode cX1_addWay 98 = .ok (.aload_n 0, 1) := by decide +kernel
theorem dX1_addWay_99 : decode cX1_addWay 99 = .ok (.getfield 42, 3) := by decide +kernel
theorem dX1_addWay_102 : decode cX1_addWay 102 = .ok (.iload 8, 2) := by decide +kernel
theorem dX1_addWay_104 : decode cX1_addWay 104 = .ok (.iconst 1, 1) := by decide +kernel
theorem dX1_addWay_105 : decode cX1_addWay 105 = .ok (.isub, 1) := by decide +kernel
theorem dX1_addWay_106 : decode cX1_addWay 106 = .ok (.aaload, 1) := by decide +kernel
theorem dX1_addWay_107 : decode cX1_addWay 107 = .ok (.aload_n 0, 1) := by decide +kernel
theorem dX1_addWay_108 : decode cX1_addWay 108 = .ok (.getfield 45, 3) := by decide +kernel
theorem dX1_addWay_111 : decode cX1_addWay 111 = .ok (.iload 8, 2) := by decide +kernel
theorem dX1_addWay_113 : decode cX1_addWay 113 = .ok (.iconst 1, 1) := by decide +kernel
theorem dX1_addWay_114 : decode cX1_addWay 114 = .ok (.isub, 1) := by decide +kernel
theorem dX1_addWay_115 : decode cX1_addWay 115 = .ok (.iaload, 1) := by decide +kernel
theorem dX1_addWay_116 : decode cX1_addWay 116 = .ok (.aload_n 0, 1) := by decide +kernel
theorem dX1_addWay_117 : decode cX1_addWay 117 = .ok (.getfield 48, 3) := by decide +kernel
theorem dX1_addWay_120 : decode cX1_addWay 120 = .ok (.iload 8, 2) := by decide +kernel
theorem dX1_addWay_122 : decode cX1_addWay 122 = .ok (.iconst 1, 1) := by decide +kernel
theorem dX1_addWay_123 : decode cX1_addWay 123 = .ok (.isub, 1) := by decide +kernel
theorem dX1_addWay_124 : decode cX1_addWay 124 = .ok (.laload, 1) := by decide +kernel
theorem dX1_addWay_125 : decode cX1_addWay 125 = .ok (.invokevirtual 72, 3) := by decide +kernel
theorem dX1_addWay_128 : decode cX1_addWay 128 = .ok (.iinc 8 (-1), 3) := by decide +kernel
theorem dX1_addWay_131 : decode cX1_addWay 131 = .ok (.goto (-67), 3) := by decide +kernel
theorem dX1_addWay_134 : decode cX1_addWay 134 = .ok (.aload_n 0, 1) := by decide +kernel
theorem dX1_addWay_135 : decode cX1_addWay 135 = .ok (.iload 8, 2) := by decide +kernel
theorem dX1_addWay_137 : decode cX1_addWay 137 = .ok (.aload_n 1, 1) := by decide +kernel
theorem dX1_addWay_138 : decode cX1_addWay 138 = .ok (.aload_n 2, 1) := by decide +kernel
theorem dX1_addWay_139 : decode cX1_addWay 139 = .ok (.iload 4, 2) := by decide +kernel
theorem dX1_addWay_141 : decode cX1_addWay 141 = .ok (.lload 5, 2) := by decide +kernel
theorem dX1_addWay_143 : decode cX1_addWay 143 = .ok (.invokevirtual 72, 3) := by decide +kernel
theorem dX1_addWay_146 : decode cX1_addWay 146 = .ok (.aload_n 0, 1) := by decide +kernel
theorem dX1_addWay_147 : decode cX1_addWay 147 = .ok (.getfield 24, 3) := by decide +kernel
theorem dX1_addWay_150 : decode cX1_addWay 150 = .ok (.iload_n 3, 1) := by decide +kernel
theorem dX1_addWay_151 : decode cX1_addWay 151 = .ok (.dup2, 1) := by decide +kernel
theorem dX1_addWay_152 : decode cX1_addWay 152 = .ok (.iaload, 1) := by decide +kernel
theorem dX1_addWay_153 : decode cX1_addWay 153 = .ok (.iconst 1, 1) := by decide +kernel
theorem dX1_addWay_154 : decode cX1_addWay 154 = .ok (.iadd, 1) := by decide +kernel
theorem dX1_addWay_155 : decode cX1_addWay 155 = .ok (.iastore, 1) := by decide +kernel
theorem dX1_addWay_156 : decode cX1_addWay 156 = .ok (.return_, 1) := by decide +kernel
theorem dX1_findBest_0 : decode cX1_findBest 0 = .ok (.aload_n 0, 1) := by decide +kernel
theorem dX1_findBest_1 : decode cX1_findBest 1 = .ok (.getfield 33, 3) := by decide +kernel
theorem dX1_findBest_4 : decode cX1_findBest 4 = .ok (.aload_n 0, 1) := by decide +kernel
theorem dX1_findBest_5 : decode cX1_findBest 5 = .ok (.getfield 56, 3) := by decide +kernel
theorem dX1_findBest_8 : decode cX1_findBest 8 = .ok (.iconst 0, 1) := by decide +kernel
theorem dX1_findBest_9 : decode cX1_findBest 9 = .ok (.iastore, 1) := by decide +kernel
theorem dX1_findBest_10 : decode cX1_findBest 10 = .ok (.aload_n 0, 1) := by decide +kernel
theorem dX1_findBest_11 : decode cX1_findBest 11 = .ok (.getfield 56, 3) := by decide +kernel
theorem dX1_findBest_14 : decode cX1_findBest 14 = .ok (.iconst 1, 1) := by decide +kernel
theorem dX1_findBest_15 : decode cX1_findBest 15 = .ok (.isub, 1) := by decide +kernel
theorem dX1_findBest_16 : decode cX1_findBest 16 = .ok (.istore_n 1, 1) := by decide +kernel
theorem dX1_findBest_17 : decode cX1_findBest 17 = .ok (.iload_n 1, 1) := by decide +kernel
theorem dX1_findBest_18 : decode cX1_findBest 18 = .ok (.ifCond .lt 45, 3) := by decide +kernel
theorem dX1_findBest_21 : decode cX1_findBest 21 = .ok (.aload_n 0, 1) := by decide +kernel
theorem dX1_findBest_22 : decode cX1_findBest 22 = .ok (.getfield 33, 3) := by decide +kernel
theorem dX1_findBest_25 : decode cX1_findBest 25 = .ok (.iload_n 1, 1) := by decide +kernel
theorem dX1_findBest_26 : decode cX1_findBest 26 = .ok (.aload_n 0, 1) := by decide +kernel
theorem dX1_findBest_27 : decode cX1_findBest 27 = .ok (.getfield 33, 3) := by decide +kernel
theorem dX1_findBest_30 : decode cX1_findBest 30 = .ok (.iload_n 1, 1) := by decide +kernel
theorem dX1_findBest_31 : decode cX1_findBest 31 = .ok (.iconst 1, 1) := by decide +kernel
theorem dX1_findBest_32 : decode cX1_findBest 32 = .ok (.iadd, 1) := by decide +kernel
theorem dX1_findBest_33 : decode cX1_findBest 33 = .ok (.iaload, 1) := by decide +kernel
theorem dX1_findBest_34 : decode cX1_findBest 34 = .ok (.aload_n 0, 1) := by decide +kernel
theorem dX1_findBest_35 : decode cX1_findBest 35 = .ok (.getfield 11, 3) := by decide +kernel
theorem dX1_findBest_38 : decode cX1_findBest 38 = .ok (.iload_n 1, 1) := by decide +kernel
theorem dX1_findBest_39 : decode cX1_findBest 39 = .ok (.aaload, 1) := by decide +kernel
theorem dX1_findBest_40 : decode cX1_findBest 40 = .ok (.getfield 76, 3) := by decide +kernel
theorem dX1_findBest_43 : decode cX1_findBest 43 = .ok (.iadd, 1) := by decide +kernel
theorem dX1_findBest_44 : decode cX1_findBest 44 = .ok (.iastore, 1) := by decide +kernel
theorem dX1_findBest_45 : decode cX1_findBest 45 = .ok (.aload_n 0, 1) := by decide +kernel
theorem dX1_findBest_46 : decode cX1_findBest 46 = .ok (.getfield 30, 3) := by decide +kernel
theorem dX1_findBest_49 : decode cX1_findBest 49 = .ok (.iload_n 1, 1) := by decide +kernel
theorem dX1_findBest_50 : decode cX1_findBest 50 = .ok (.aload_n 0, 1) := by decide +kernel
theorem dX1_findBest_51 : decode cX1_findBest 51 = .ok (.getfield 24, 3) := by decide +kernel
theorem dX1_findBest_54 : decode cX1_findBest 54 = .ok (.iload_n 1, 1) := by decide +kernel
theorem dX1_findBest_55 : decode cX1_findBest 55 = .ok (.iaload, 1) := by decide +kernel
theorem dX1_findBest_56 : decode cX1_findBest 56 = .ok (.iastore, 1) := by decide +kernel
theorem dX1_findBest_57 : decode cX1_findBest 57 = .ok (.iinc 1 (-1), 3) := by decide +kernel
theorem dX1_findBest_60 : decode cX1_findBest 60 = .ok (.goto (-43), 3) := by decide +kernel
theorem dX1_findBest_63 : decode cX1_findBest 63 = .ok (.aload_n 0, 1) := by decide +kernel
theorem dX1_findBest_64 : decode cX1_findBest 64 = .ok (.iconst 0, 1) := by decide +kernel
theorem dX1_findBest_65 : decode cX1_findBest 65 = .ok (.lconst 0, 1) := by decide +kernel
theorem dX1_findBest_66 : decode cX1_findBest 66 = .ok (.invokevirtual 79, 3) := by decide +kernel
theorem dX1_findBest_69 : decode cX1_findBest 69 = .ok (.return_, 1) := by decide +kernel
theorem dX1_giveWays_0 : decode cX1_giveWays 0 = .ok (.iconst 0, 1) := by decide +kernel
theorem dX1_giveWays_1 : decode cX1_giveWays 1 = .ok (.istore_n 1, 1) := by decide +kernel
theorem dX1_giveWays_2 : decode cX1_giveWays 2 = .ok (.iconst 0, 1) := by decide +kernel
theorem dX1_giveWays_3 : decode cX1_giveWays 3 = .ok (.istore_n 2, 1) := by decide +kernel
theorem dX1_giveWays_4 : decode cX1_giveWays 4 = .ok (.iload_n 2, 1) := by decide +kernel
theorem dX1_giveWays_5 : decode cX1_giveWays 5 = .ok (.aload_n 0, 1) := by decide +kernel
theorem dX1_giveWays_6 : decode cX1_giveWays 6 = .ok (.getfield 56, 3) := by decide +kernel
theorem dX1_giveWays_9 : decode cX1_giveWays 9 = .ok (.if_icmp .ge 69, 3) := by decide +kernel
theorem dX1_giveWays_12 : decode cX1_giveWays 12 = .ok (.aload_n 0, 1) := by decide +kernel
theorem dX1_giveWays_13 : decode cX1_giveWays 13 = .ok (.getfield 30, 3) := by decide +kernel
theorem dX1_giveWays_16 : decode cX1_giveWays 16 = .ok (.iload_n 2, 1) := by decide +kernel
theorem dX1_giveWays_17 : decode cX1_giveWays 17 = .ok (.iaload, 1) := by decide +kernel
theorem dX1_giveWays_18 : decode cX1_giveWays 18 = .ok (.aload_n 0, 1) := by decide +kernel
theorem dX1_giveWays_19 : decode cX1_giveWays 19 = .ok (.getfield 24, 3) := by decide +kernel
theorem dX1_giveWays_22 : decode cX1_giveWays 22 = .ok (.iload_n 2, 1) := by decide +kernel
theorem dX1_giveWays_23 : decode cX1_giveWays 23 = .ok (.iaload, 1) := by decide +kernel
theorem dX1_giveWays_24 : decode cX1_giveWays 24 = .ok (.if_icmp .ge 48, 3) := by decide +kernel
theorem dX1_giveWays_27 : decode cX1_giveWays 27 = .ok (.iload_n 2, 1) := by decide +kernel
theorem dX1_giveWays_28 : decode cX1_giveWays 28 = .ok (.bipush 12, 2) := by decide +kernel
theorem dX1_giveWays_30 : decode cX1_giveWays 30 = .ok (.imul, 1) := by decide +kernel
theorem dX1_giveWays_31 : decode cX1_giveWays 31 = .ok (.aload_n 0, 1) := by decide +kernel
theorem dX1_giveWays_32 : decode cX1_giveWays 32 = .ok (.getfield 30, 3) := by decide +kernel
theorem dX1_giveWays_35 : decode cX1_giveWays 35 = .ok (.iload_n 2, 1) := by decide +kernel
theorem dX1_giveWays_36 : decode cX1_giveWays 36 = .ok (.iaload, 1) := by decide +kernel
theorem dX1_giveWays_37 : decode cX1_giveWays 37 = .ok (.iadd, 1) := by decide +kernel
theorem dX1_giveWays_38 : decode cX1_giveWays 38 = .ok (.istore_n 3, 1) := by decide +kernel
theorem dX1_giveWays_39 : decode cX1_giveWays 39 = .ok (.aload_n 0, 1) := by decide +kernel
theorem dX1_giveWays_40 : decode cX1_giveWays 40 = .ok (.getfield 11, 3) := by decide +kernel
theorem dX1_giveWays_43 : decode cX1_giveWays 43 = .ok (.iload_n 2, 1) := by decide +kernel
theorem dX1_giveWays_44 : decode cX1_giveWays 44 = .ok (.aaload, 1) := by decide +kernel
theorem dX1_giveWays_45 : decode cX1_giveWays 45 = .ok (.aload_n 0, 1) := by decide +kernel
theorem dX1_giveWays_46 : decode cX1_giveWays 46 = .ok (.getfield 38, 3) := by decide +kernel
theorem dX1_giveWays_49 : decode cX1_giveWays 49 = .ok (.iload_n 3, 1) := by decide +kernel
theorem dX1_giveWays_50 : decode cX1_giveWays 50 = .ok (.aaload, 1) := by decide +kernel
theorem dX1_giveWays_51 : decode cX1_giveWays 51 = .ok (.aload_n 0, 1) := by decide +kernel
theorem dX1_giveWays_52 : decode cX1_giveWays 52 = .ok (.getfield 42, 3) := by decide +kernel
theorem dX1_giveWays_55 : decode cX1_giveWays 55 = .ok (.iload_n 3, 1) := by decide +kernel
theorem dX1_giveWays_56 : decode cX1_giveWays 56 = .ok (.aaload, 1) := by decide +kernel
theorem dX1_giveWays_57 : decode cX1_giveWays 57 = .ok (.invokevirtual 83, 3) := by decide +kernel
theorem dX1_giveWays_60 : decode cX1_giveWays 60 = .ok (.iload_n 1, 1) := by decide +kernel
theorem dX1_giveWays_61 : decode cX1_giveWays 61 = .ok (.aload_n 0, 1) := by decide +kernel
theorem dX1_giveWays_62 : decode cX1_giveWays 62 = .ok (.getfield 11, 3) := by decide +kernel
theorem dX1_giveWays_65 : decode cX1_giveWays 65 = .ok (.iload_n 2, 1) := by decide +kernel
theorem dX1_giveWays_66 : decode cX1_giveWays 66 = .ok (.aaload, 1) := by decide +kernel
theorem dX1_giveWays_67 : decode cX1_giveWays 67 = .ok (.getfield 76, 3) := by decide +kernel
theorem dX1_giveWays_70 : decode cX1_giveWays 70 = .ok (.iadd, 1) := by decide +kernel
theorem dX1_giveWays_71 : decode cX1_giveWays 71 = .ok (.istore_n 1, 1) := by decide +kernel
theorem dX1_giveWays_72 : decode cX1_giveWays 72 = .ok (.iinc 2 1, 3) := by decide +kernel
theorem dX1_giveWays_75 : decode cX1_giveWays 75 = .ok (.goto (-71), 3) := by decide +kernel
theorem dX1_giveWays_78 : decode cX1_giveWays 78 = .ok (.iload_n 1, 1) := by decide +kernel
theorem dX1_giveWays_79 : decode cX1_giveWays 79 = .ok (.ireturn, 1) := by decide +kernel
theorem dX1_lastTwin_0 : decode cX1_lastTwin 0 = .ok (.aload_n 0, 1) := by decide +kernel
theorem dX1_lastTwin_1 : decode cX1_lastTwin 1 = .ok (.getfield 56, 3) := by decide +kernel
theorem dX1_lastTwin_4 : decode cX1_lastTwin 4 = .ok (.iconst 1, 1) := by decide +kernel
theorem dX1_lastTwin_5 : decode cX1_lastTwin 5 = .ok (.isub, 1) := by decide +kernel
theorem dX1_lastTwin_6 : decode cX1_lastTwin 6 = .ok (.istore_n 2, 1) := by decide +kernel
theorem dX1_lastTwin_7 : decode cX1_lastTwin 7 = .ok (.iload_n 2, 1) := by decide +kernel
theorem dX1_lastTwin_8 : decode cX1_lastTwin 8 = .ok (.ifCond .lt 43, 3) := by decide +kernel
theorem dX1_lastTwin_11 : decode cX1_lastTwin 11 = .ok (.aload_n 0, 1) := by decide +kernel
theorem dX1_lastTwin_12 : decode cX1_lastTwin 12 = .ok (.getfield 11, 3) := by decide +kernel
theorem dX1_lastTwin_15 : decode cX1_lastTwin 15 = .ok (.iload_n 2, 1) := by decide +kernel
theorem dX1_lastTwin_16 : decode cX1_lastTwin 16 = .ok (.aaload, 1) := by decide +kernel
theorem dX1_lastTwin_17 : decode cX1_lastTwin 17 = .ok (.getfield 87, 3) := by decide +kernel
theorem dX1_lastTwin_20 : decode cX1_lastTwin 20 = .ok (.aload_n 1, 1) := by decide +kernel
theorem dX1_lastTwin_21 : decode cX1_lastTwin 21 = .ok (.getfield 87, 3) := by decide +kernel
theorem dX1_lastTwin_24 : decode cX1_lastTwin 24 = .ok (.if_acmp .ne 21, 3) := by decide +kernel
theorem dX1_lastTwin_27 : decode cX1_lastTwin 27 = .ok (.aload_n 0, 1) := by decide +kernel
theorem dX1_lastTwin_28 : decode cX1_lastTwin 28 = .ok (.getfield 11, 3) := by decide +kernel
theorem dX1_lastTwin_31 : decode cX1_lastTwin 31 = .ok (.iload_n 2, 1) := by decide +kernel
theorem dX1_lastTwin_32 : decode cX1_lastTwin 32 = .ok (.aaload, 1) := by decide +kernel
theorem dX1_lastTwin_33 : decode cX1_lastTwin 33 = .ok (.getfield 76, 3) := by decide +kernel
theorem dX1_lastTwin_36 : decode cX1_lastTwin 36 = .ok (.aload_n 1, 1) := by decide +kernel
theorem dX1_lastTwin_37 : decode cX1_lastTwin 37 = .ok (.getfield 76, 3) := by decide +kernel
theorem dX1_lastTwin_40 : decode cX1_lastTwin 40 = .ok (.if_icmp .ne 5, 3) := by decide +kernel
theorem dX1_lastTwin_43 : decode cX1_lastTwin 43 = .ok (.iload_n 2, 1) := by decide +kernel
theorem dX1_lastTwin_44 : decode cX1_lastTwin 44 = .ok (.ireturn, 1) := by decide +kernel
theorem dX1_lastTwin_45 : decode cX1_lastTwin 45 = .ok (.iinc 2 (-1), 3) := by decide +kernel
theorem dX1_lastTwin_48 : decode cX1_lastTwin 48 = .ok (.goto (-41), 3) := by decide +kernel
theorem dX1_lastTwin_51 : decode cX1_lastTwin 51 = .ok (.iconst (-1), 1) := by decide +kernel
theorem dX1_lastTwin_52 : decode cX1_lastTwin 52 = .ok (.ireturn, 1) := by decide +kernel
theorem dX1_worthOf_0 : decode cX1_worthOf 0 = .ok (.aload_n 0, 1) := by decide +kernel
theorem dX1_worthOf_1 : decode cX1_worthOf 1 = .ok (.getfield 11, 3) := by decide +kernel
theorem dX1_worthOf_4 : decode cX1_worthOf 4 = .ok (.iload_n 1, 1) := by decide +kernel
theorem dX1_worthOf_5 : decode cX1_worthOf 5 = .ok (.aaload, 1) := by decide +kernel
theorem dX1_worthOf_6 : decode cX1_worthOf 6 = .ok (.getfield 76, 3) := by decide +kernel
theorem dX1_worthOf_9 : decode cX1_worthOf 9 = .ok (.i2l, 1) := by decide +kernel
theorem dX1_worthOf_10 : decode cX1_worthOf 10 = .ok (.ldc 91, 2) := by decide +kernel
theorem dX1_worthOf_12 : decode cX1_worthOf 12 = .ok (.iload_n 2, 1) := by decide +kernel
theorem dX1_worthOf_13 : decode cX1_worthOf 13 = .ok (.isub, 1) := by decide +kernel
theorem dX1_worthOf_14 : decode cX1_worthOf 14 = .ok (.i2l, 1) := by decide +kernel
theorem dX1_worthOf_15 : decode cX1_worthOf 15 = .ok (.lmul, 1) := by decide +kernel
theorem dX1_worthOf_16 : decode cX1_worthOf 16 = .ok (.lstore 4, 2) := by decide +kernel
theorem dX1_worthOf_18 : decode cX1_worthOf 18 = .ok (.bipush 15, 2) := by decide +kernel
theorem dX1_worthOf_20 : decode cX1_worthOf 20 = .ok (.iload_n 3, 1) := by decide +kernel
theorem dX1_worthOf_21 : decode cX1_worthOf 21 = .ok (.isub, 1) := by decide +kernel
theorem dX1_worthOf_22 : decode cX1_worthOf 22 = .ok (.i2l, 1) := by decide +kernel
theorem dX1_worthOf_23 : decode cX1_worthOf 23 = .ok (.lstore 6, 2) := by decide +kernel
theorem dX1_worthOf_25 : decode cX1_worthOf 25 = .ok (.lload 4, 2) := by decide +kernel
theorem dX1_worthOf_27 : decode cX1_worthOf 27 = .ok (.bipush 24, 2) := by decide +kernel
theorem dX1_worthOf_29 : decode cX1_worthOf 29 = .ok (.lshl, 1) := by decide +kernel
theorem dX1_worthOf_30 : decode cX1_worthOf 30 = .ok (.lload 6, 2) := by decide +kernel
theorem dX1_worthOf_32 : decode cX1_worthOf 32 = .ok (.iconst 4, 1) := by decide +kernel
theorem dX1_worthOf_33 : decode cX1_worthOf 33 = .ok (.iconst 5, 1) := by decide +kernel
theorem dX1_worthOf_34 : decode cX1_worthOf 34 = .ok (.aload_n 0, 1) := by decide +kernel
theorem dX1_worthOf_35 : decode cX1_worthOf 35 = .ok (.getfield 17, 3) := by decide +kernel
theorem dX1_worthOf_38 : decode cX1_worthOf 38 = .ok (.iload_n 1, 1) := by decide +kernel
theorem dX1_worthOf_39 : decode cX1_worthOf 39 = .ok (.iaload, 1) := by decide +kernel
theorem dX1_worthOf_40 : decode cX1_worthOf 40 = .ok (.isub, 1) := by decide +kernel
theorem dX1_worthOf_41 : decode cX1_worthOf 41 = .ok (.imul, 1) := by decide +kernel
theorem dX1_worthOf_42 : decode cX1_worthOf 42 = .ok (.lshl, 1) := by decide +kernel
theorem dX1_worthOf_43 : decode cX1_worthOf 43 = .ok (.ladd, 1) := by decide +kernel
theorem dX1_worthOf_44 : decode cX1_worthOf 44 = .ok (.lreturn, 1) := by decide +kernel
theorem dX1_putWay_0 : decode cX1_putWay 0 = .ok (.aload_n 0, 1) := by decide +kernel
theorem dX1_putWay_1 : decode cX1_putWay 1 = .ok (.getfield 38, 3) := by decide +kernel
theorem dX1_putWay_4 : decode cX1_putWay 4 = .ok (.iload_n 1, 1) := by decide +kernel
theorem dX1_putWay_5 : decode cX1_putWay 5 = .ok (.aload_n 2, 1) := by decide +kernel
theorem dX1_putWay_6 : decode cX1_putWay 6 = .ok (.aastore, 1) := by decide +kernel
theorem dX1_putWay_7 : decode cX1_putWay 7 = .ok (.aload_n 0, 1) := by decide +kernel
theorem dX1_putWay_8 : decode cX1_putWay 8 = .ok (.getfield 42, 3) := by decide +kernel
theorem dX1_putWay_11 : decode cX1_putWay 11 = .ok (.iload_n 1, 1) := by decide +kernel
theorem dX1_putWay_12 : decode cX1_putWay 12 = .ok (.aload_n 3, 1) := by decide +kernel
theorem dX1_putWay_13 : decode cX1_putWay 13 = .ok (.aastore, 1) := by decide +kernel
theorem dX1_putWay_14 : decode cX1_putWay 14 = .ok (.aload_n 0, 1) := by decide +kernel
theorem dX1_putWay_15 : decode cX1_putWay 15 = .ok (.getfield 45, 3) := by decide +kernel
theorem dX1_putWay_18 : decode cX1_putWay 18 = .ok (.iload_n 1, 1) := by decide +kernel
theorem dX1_putWay_19 : decode cX1_putWay 19 = .ok (.iload 4, 2) := by decide +kernel
theorem dX1_putWay_21 : decode cX1_putWay 21 = .ok (.iastore, 1) := by decide +kernel
theorem dX1_putWay_22 : decode cX1_putWay 22 = .ok (.aload_n 0, 1) := by decide +kernel
theorem dX1_putWay_23 : decode cX1_putWay 23 = .ok (.getfield 48, 3) := by decide +kernel
theorem dX1_putWay_26 : decode cX1_putWay 26 = .ok (.iload_n 1, 1) := by decide +kernel
theorem dX1_putWay_27 : decode cX1_putWay 27 = .ok (.lload 5, 2) := by decide +kernel
theorem dX1_putWay_29 : decode cX1_putWay 29 = .ok (.lastore, 1) := by decide +kernel
theorem dX1_putWay_30 : decode cX1_putWay 30 = .ok (.return_, 1) := by decide +kernel
theorem dX1_choose_0 : decode cX1_choose 0 = .ok (.iload_n 1, 1) := by decide +kernel
theorem dX1_choose_1 : decode cX1_choose 1 = .ok (.aload_n 0, 1) := by decide +kernel
theorem dX1_choose_2 : decode cX1_choose 2 = .ok (.getfield 56, 3) := by decide +kernel
theorem dX1_choose_5 : decode cX1_choose 5 = .ok (.if_icmp .lt 9, 3) := by decide +kernel
theorem dX1_choose_8 : decode cX1_choose 8 = .ok (.aload_n 0, 1) := by decide +kernel
theorem dX1_choose_9 : decode cX1_choose 9 = .ok (.lload_n 2, 1) := by decide +kernel
theorem dX1_choose_10 : decode cX1_choose 10 = .ok (.invokevirtual 92, 3) := by decide +kernel
theorem dX1_choose_13 : decode cX1_choose 13 = .ok (.return_, 1) := by decide +kernel
theorem dX1_choose_14 : decode cX1_choose 14 = .ok (.aload_n 0, 1) := by decide +kernel
theorem dX1_choose_15 : decode cX1_choose 15 = .ok (.iload_n 1, 1) := by decide +kernel
theorem dX1_choose_16 : decode cX1_choose 16 = .ok (.lload_n 2, 1) := by decide +kernel
theorem dX1_choose_17 : decode cX1_choose 17 = .ok (.invokevirtual 96, 3) := by decide +kernel
theorem dX1_choose_20 : decode cX1_choose 20 = .ok (.ifCond .ne 4, 3) := by decide +kernel
theorem dX1_choose_23 : decode cX1_choose 23 = .ok (.return_, 1) := by decide +kernel
theorem dX1_choose_24 : decode cX1_choose 24 = .ok (.aload_n 0, 1) := by decide +kernel
theorem dX1_choose_25 : decode cX1_choose 25 = .ok (.iload_n 1, 1) := by decide +kernel
theorem dX1_choose_26 : decode cX1_choose 26 = .ok (.invokevirtual 100, 3) := by decide +kernel
theorem dX1_choose_29 : decode cX1_choose 29 = .ok (.istore 4, 2) := by decide +kernel
theorem dX1_choose_31 : decode cX1_choose 31 = .ok (.iconst 0, 1) := by decide +kernel
theorem dX1_choose_32 : decode cX1_choose 32 = .ok (.istore 5, 2) := by decide +kernel
theorem dX1_choose_34 : decode cX1_choose 34 = .ok (.iload 5, 2) := by decide +kernel
theorem dX1_choose_36 : decode cX1_choose 36 = .ok (.aload_n 0, 1) := by decide +kernel
theorem dX1_choose_37 : decode cX1_choose 37 = .ok (.getfield 24, 3) := by decide +kernel
theorem dX1_choose_40 : decode cX1_choose 40 = .ok (.iload_n 1, 1) := by decide +kernel
theorem dX1_choose_41 : decode cX1_choose 41 = .ok (.iaload, 1) := by decide +kernel
theorem dX1_choose_42 : decode cX1_choose 42 = .ok (.if_icmp .ge 105, 3) := by decide +kernel
theorem dX1_choose_45 : decode cX1_choose 45 = .ok (.iload_n 1, 1) := by decide +kernel
theorem dX1_choose_46 : decode cX1_choose 46 = .ok (.bipush 12, 2) := by decide +kernel
theorem dX1_choose_48 : decode cX1_choose 48 = .ok (.imul, 1) := by decide +kernel
theorem dX1_choose_49 : decode cX1_choose 49 = .ok (.iload 5, 2) := by decide +kernel
theorem dX1_choose_51 : decode cX1_choose 51 = .ok (.iadd, 1) := by decide +kernel
theorem dX1_choose_52 : decode cX1_choose 52 = .ok (.istore 6, 2) := by decide +kernel
theorem dX1_choose_54 : decode cX1_choose 54 = .ok (.aload_n 0, 1) := by decide +kernel
theorem dX1_choose_55 : decode cX1_choose 55 = .ok (.getfield 45, 3) := by decide +kernel
theorem dX1_choose_58 : decode cX1_choose 58 = .ok (.iload 6, 2) := by decide +kernel
theorem dX1_choose_60 : decode cX1_choose 60 = .ok (.iaload, 1) := by decide +kernel
theorem dX1_choose_61 : decode cX1_choose 61 = .ok (.iload 4, 2) := by decide +kernel
theorem dX1_choose_63 : decode cX1_choose 63 = .ok (.if_icmp .lt 78, 3) := by decide +kernel
theorem dX1_choose_66 : decode cX1_choose 66 = .ok (.aload_n 0, 1) := by decide +kernel
theorem dX1_choose_67 : decode cX1_choose 67 = .ok (.iload_n 1, 1) := by decide +kernel
theorem dX1_choose_68 : decode cX1_choose 68 = .ok (.iload 6, 2) := by decide +kernel
theorem dX1_choose_70 : decode cX1_choose 70 = .ok (.invokevirtual 104, 3) := by decide +kernel
theorem dX1_choose_73 : decode cX1_choose 73 = .ok (.ifCond .eq 68, 3) := by decide +kernel
theorem dX1_choose_76 : decode cX1_choose 76 = .ok (.aload_n 0, 1) := by decide +kernel
theorem dX1_choose_77 : decode cX1_choose 77 = .ok (.iload_n 1, 1) := by decide +kernel
theorem dX1_choose_78 : decode cX1_choose 78 = .ok (.iload 5, 2) := by decide +kernel
theorem dX1_choose_80 : decode cX1_choose 80 = .ok (.invokevirtual 108, 3) := by decide +kernel
theorem dX1_choose_83 : decode cX1_choose 83 = .ok (.ifCond .ne 58, 3) := by decide +kernel
theorem dX1_choose_86 : decode cX1_choose 86 = .ok (.aload_n 0, 1) := by decide +kernel
theorem dX1_choose_87 : decode cX1_choose 87 = .ok (.getfield 27, 3) := by decide +kernel
theorem dX1_choose_90 : decode cX1_choose 90 = .ok (.iload_n 1, 1) := by decide +kernel
theorem dX1_choose_91 : decode cX1_choose 91 = .ok (.iload 5, 2) := by decide +kernel
theorem dX1_choose_93 : decode cX1_choose 93 = .ok (.iastore, 1) := by decide +kernel
theorem dX1_choose_94 : decode cX1_choose 94 = .ok (.aload_n 0, 1) := by decide +kernel
theorem dX1_choose_95 : decode cX1_choose 95 = .ok (.iload 6, 2) := by decide +kernel
theorem dX1_choose_97 : decode cX1_choose 97 = .ok (.aload_n 0, 1) := by decide +kernel
theorem dX1_choose_98 : decode cX1_choose 98 = .ok (.getfield 11, 3) := by decide +kernel
theorem dX1_choose_101 : decode cX1_choose 101 = .ok (.iload_n 1, 1) := by decide +kernel
theorem dX1_choose_102 : decode cX1_choose 102 = .ok (.aaload, 1) := by decide +kernel
theorem dX1_choose_103 : decode cX1_choose 103 = .ok (.getfield 76, 3) := by decide +kernel
theorem dX1_choose_106 : decode cX1_choose 106 = .ok (.invokevirtual 111, 3) := by decide +kernel
theorem dX1_choose_109 : decode cX1_choose 109 = .ok (.aload_n 0, 1) := by decide +kernel
theorem dX1_choose_110 : decode cX1_choose 110 = .ok (.iload_n 1, 1) := by decide +kernel
theorem dX1_choose_111 : decode cX1_choose 111 = .ok (.iconst 1, 1) := by decide +kernel
theorem dX1_choose_112 : decode cX1_choose 112 = .ok (.iadd, 1) := by decide +kernel
theorem dX1_choose_113 : decode cX1_choose 113 = .ok (.lload_n 2, 1) := by decide +kernel
theorem dX1_choose_114 : decode cX1_choose 114 = .ok (.aload_n 0, 1) := by decide +kernel
theorem dX1_choose_115 : decode cX1_choose 115 = .ok (.getfield 48, 3) := by decide +kernel
theorem dX1_choose_118 : decode cX1_choose 118 = .ok (.iload 6, 2) := by decide +kernel
theorem dX1_choose_120 : decode cX1_choose 120 = .ok (.laload, 1) := by decide +kernel
theorem dX1_choose_121 : decode cX1_choose 121 = .ok (.ladd, 1) := by decide +kernel
theorem dX1_choose_122 : decode cX1_choose 122 = .ok (.invokevirtual 79, 3) := by decide +kernel
theorem dX1_choose_125 : decode cX1_choose 125 = .ok (.aload_n 0, 1) := by decide +kernel
theorem dX1_choose_126 : decode cX1_choose 126 = .ok (.iload 6, 2) := by decide +kernel
theorem dX1_choose_128 : decode cX1_choose 128 = .ok (.aload_n 0, 1) := by decide +kernel
theorem dX1_choose_129 : decode cX1_choose 129 = .ok (.getfield 11, 3) := by decide +kernel
theorem dX1_choose_132 : decode cX1_choose 132 = .ok (.iload_n 1, 1) := by decide +kernel
theorem dX1_choose_133 : decode cX1_choose 133 = .ok (.aaload, 1) := by decide +kernel
theorem dX1_choose_134 : decode cX1_choose 134 = .ok (.getfield 76, 3) := by decide +kernel
theorem dX1_choose_137 : decode cX1_choose 137 = .ok (.ineg, 1) := by decide +kernel
theorem dX1_choose_138 : decode cX1_choose 138 = .ok (.invokevirtual 111, 3) := by decide +kernel
theorem dX1_choose_141 : decode cX1_choose 141 = .ok (.iinc 5 1, 3) := by decide +kernel
theorem dX1_choose_144 : decode cX1_choose 144 = .ok (.goto (-110), 3) := by decide +kernel
theorem dX1_choose_147 : decode cX1_choose 147 = .ok (.aload_n 0, 1) := by decide +kernel
theorem dX1_choose_148 : decode cX1_choose 148 = .ok (.iload_n 1, 1) := by decide +kernel
theorem dX1_choose_149 : decode cX1_choose 149 = .ok (.aload_n 0, 1) := by decide +kernel
theorem dX1_choose_150 : decode cX1_choose 150 = .ok (.getfield 24, 3) := by decide +kernel
theorem dX1_choose_153 : decode cX1_choose 153 = .ok (.iload_n 1, 1) := by decide +kernel
theorem dX1_choose_154 : decode cX1_choose 154 = .ok (.iaload, 1) := by decide +kernel
theorem dX1_choose_155 : decode cX1_choose 155 = .ok (.invokevirtual 108, 3) := by decide +kernel
theorem dX1_choose_158 : decode cX1_choose 158 = .ok (.ifCond .ne 23, 3) := by decide +kernel
theorem dX1_choose_161 : decode cX1_choose 161 = .ok (.aload_n 0, 1) := by decide +kernel
theorem dX1_choose_162 : decode cX1_choose 162 = .ok (.getfield 27, 3) := by decide +kernel
theorem dX1_choose_165 : decode cX1_choose 165 = .ok (.iload_n 1, 1) := by decide +kernel
theorem dX1_choose_166 : decode cX1_choose 166 = .ok (.aload_n 0, 1) := by decide +kernel
theorem dX1_choose_167 : decode cX1_choose 167 = .ok (.getfield 24, 3) := by decide +kernel
theorem dX1_choose_170 : decode cX1_choose 170 = .ok (.iload_n 1, 1) := by decide +kernel
theorem dX1_choose_171 : decode cX1_choose 171 = .ok (.iaload, 1) := by decide +kernel
theorem dX1_choose_172 : decode cX1_choose 172 = .ok (.iastore, 1) := by decide +kernel
theorem dX1_choose_173 : decode cX1_choose 173 = .ok (.aload_n 0, 1) := by decide +kernel
theorem dX1_choose_174 : decode cX1_choose 174 = .ok (.iload_n 1, 1) := by decide +kernel
theorem dX1_choose_175 : decode cX1_choose 175 = .ok (.iconst 1, 1) := by decide +kernel
theorem dX1_choose_176 : decode cX1_choose 176 = .ok (.iadd, 1) := by decide +kernel
theorem dX1_choose_177 : decode cX1_choose 177 = .ok (.lload_n 2, 1) := by decide +kernel
theorem dX1_choose_178 : decode cX1_choose 178 = .ok (.invokevirtual 79, 3) := by decide +kernel
theorem dX1_choose_181 : decode cX1_choose 181 = .ok (.return_, 1) := by decide +kernel
theorem dX1_twinPlace_0 : decode cX1_twinPlace 0 = .ok (.aload_n 0, 1) := by decide +kernel
theorem dX1_twinPlace_1 : decode cX1_twinPlace 1 = .ok (.getfield 21, 3) := by decide +kernel
theorem dX1_twinPlace_4 : decode cX1_twinPlace 4 = .ok (.iload_n 1, 1) := by decide +kernel
theorem dX1_twinPlace_5 : decode cX1_twinPlace 5 = .ok (.iaload, 1) := by decide +kernel
theorem dX1_twinPlace_6 : decode cX1_twinPlace 6 = .ok (.istore_n 2, 1) := by decide +kernel
theorem dX1_twinPlace_7 : decode cX1_twinPlace 7 = .ok (.iload_n 2, 1) := by decide +kernel
theorem dX1_twinPlace_8 : decode cX1_twinPlace 8 = .ok (.iconst (-1), 1) := by decide +kernel
theorem dX1_twinPlace_9 : decode cX1_twinPlace 9 = .ok (.if_icmp .ne 5, 3) := by decide +kernel
theorem dX1_twinPlace_12 : decode cX1_twinPlace 12 = .ok (.iconst 0, 1) := by decide +kernel
theorem dX1_twinPlace_13 : decode cX1_twinPlace 13 = .ok (.ireturn, 1) := by decide +kernel
theorem dX1_twinPlace_14 : decode cX1_twinPlace 14 = .ok (.aload_n 0, 1) := by decide +kernel
theorem dX1_twinPlace_15 : decode cX1_twinPlace 15 = .ok (.getfield 27, 3) := by decide +kernel
theorem dX1_twinPlace_18 : decode cX1_twinPlace 18 = .ok (.iload_n 2, 1) := by decide +kernel
theorem dX1_twinPlace_19 : decode cX1_twinPlace 19 = .ok (.iaload, 1) := by decide +kernel
theorem dX1_twinPlace_20 : decode cX1_twinPlace 20 = .ok (.aload_n 0, 1) := by decide +kernel
theorem dX1_twinPlace_21 : decode cX1_twinPlace 21 = .ok (.getfield 24, 3) := by decide +kernel
theorem dX1_twinPlace_24 : decode cX1_twinPlace 24 = .ok (.iload_n 2, 1) := by decide +kernel
theorem dX1_twinPlace_25 : decode cX1_twinPlace 25 = .ok (.iaload, 1) := by decide +kernel
theorem dX1_twinPlace_26 : decode cX1_twinPlace 26 = .ok (.if_icmp .ge 22, 3) := by decide +kernel
theorem dX1_twinPlace_29 : decode cX1_twinPlace 29 = .ok (.aload_n 0, 1) := by decide +kernel
theorem dX1_twinPlace_30 : decode cX1_twinPlace 30 = .ok (.getfield 45, 3) := by decide +kernel
theorem dX1_twinPlace_33 : decode cX1_twinPlace 33 = .ok (.iload_n 2, 1) := by decide +kernel
theorem dX1_twinPlace_34 : decode cX1_twinPlace 34 = .ok (.bipush 12, 2) := by decide +kernel
theorem dX1_twinPlace_36 : decode cX1_twinPlace 36 = .ok (.imul, 1) := by decide +kernel
theorem dX1_twinPlace_37 : decode cX1_twinPlace 37 = .ok (.aload_n 0, 1) := by decide +kernel
theorem dX1_twinPlace_38 : decode cX1_twinPlace 38 = .ok (.getfield 27, 3) := by decide +kernel
theorem dX1_twinPlace_41 : decode cX1_twinPlace 41 = .ok (.iload_n 2, 1) := by decide +kernel
theorem dX1_twinPlace_42 : decode cX1_twinPlace 42 = .ok (.iaload, 1) := by decide +kernel
theorem dX1_twinPlace_43 : decode cX1_twinPlace 43 = .ok (.iadd, 1) := by decide +kernel
theorem dX1_twinPlace_44 : decode cX1_twinPlace 44 = .ok (.iaload, 1) := by decide +kernel
theorem dX1_twinPlace_45 : decode cX1_twinPlace 45 = .ok (.goto 5, 3) := by decide +kernel
theorem dX1_twinPlace_48 : decode cX1_twinPlace 48 = .ok (.bipush 15, 2) := by decide +kernel
theorem dX1_twinPlace_50 : decode cX1_twinPlace 50 = .ok (.ireturn, 1) := by decide +kernel
theorem dX1_keepIfBetter_0 : decode cX1_keepIfBetter 0 = .ok (.lload_n 1, 1) := by decide +kernel
theorem dX1_keepIfBetter_1 : decode cX1_keepIfBetter 1 = .ok (.aload_n 0, 1) := by decide +kernel
theorem dX1_keepIfBetter_2 : decode cX1_keepIfBetter 2 = .ok (.getfield 52, 3) := by decide +kernel
theorem dX1_keepIfBetter_5 : decode cX1_keepIfBetter 5 = .ok (.lcmp, 1) := by decide +kernel
theorem dX1_keepIfBetter_6 : decode cX1_keepIfBetter 6 = .ok (.ifCond .le 36, 3) := by decide +kernel
theorem dX1_keepIfBetter_9 : decode cX1_keepIfBetter 9 = .ok (.aload_n 0, 1) := by decide +kernel
theorem dX1_keepIfBetter_10 : decode cX1_keepIfBetter 10 = .ok (.lload_n 1, 1) := by decide +kernel
theorem dX1_keepIfBetter_11 : decode cX1_keepIfBetter 11 = .ok (.putfield 52, 3) := by decide +kernel
theorem dX1_keepIfBetter_14 : decode cX1_keepIfBetter 14 = .ok (.iconst 0, 1) := by decide +kernel
theorem dX1_keepIfBetter_15 : decode cX1_keepIfBetter 15 = .ok (.istore_n 3, 1) := by decide +kernel
theorem dX1_keepIfBetter_16 : decode cX1_keepIfBetter 16 = .ok (.iload_n 3, 1) := by decide +kernel
theorem dX1_keepIfBetter_17 : decode cX1_keepIfBetter 17 = .ok (.aload_n 0, 1) := by decide +kernel
theorem dX1_keepIfBetter_18 : decode cX1_keepIfBetter 18 = .ok (.getfield 56, 3) := by decide +kernel
theorem dX1_keepIfBetter_21 : decode cX1_keepIfBetter 21 = .ok (.if_icmp .ge 21, 3) := by decide +kernel
theorem dX1_keepIfBetter_24 : decode cX1_keepIfBetter 24 = .ok (.aload_n 0, 1) := by decide +kernel
theorem dX1_keepIfBetter_25 : decode cX1_keepIfBetter 25 = .ok (.getfield 30, 3) := by decide +kernel
theorem dX1_keepIfBetter_28 : decode cX1_keepIfBetter 28 = .ok (.iload_n 3, 1) := by decide +kernel
theorem dX1_keepIfBetter_29 : decode cX1_keepIfBetter 29 = .ok (.aload_n 0, 1) := by decide +kernel
theorem dX1_keepIfBetter_30 : decode cX1_keepIfBetter 30 = .ok (.getfield 27, 3) := by decide +kernel
theorem dX1_keepIfBetter_33 : decode cX1_keepIfBetter 33 = .ok (.iload_n 3, 1) := by decide +kernel
theorem dX1_keepIfBetter_34 : decode cX1_keepIfBetter 34 = .ok (.iaload, 1) := by decide +kernel
theorem dX1_keepIfBetter_35 : decode cX1_keepIfBetter 35 = .ok (.iastore, 1) := by decide +kernel
theorem dX1_keepIfBetter_36 : decode cX1_keepIfBetter 36 = .ok (.iinc 3 1, 3) := by decide +kernel
theorem dX1_keepIfBetter_39 : decode cX1_keepIfBetter 39 = .ok (.goto (-23), 3) := by decide +kernel
theorem dX1_keepIfBetter_42 : decode cX1_keepIfBetter 42 = .ok (.return_, 1) := by decide +kernel
theorem dX1_mayBeat_0 : decode cX1_mayBeat 0 = .ok (.lload_n 2, 1) := by decide +kernel
theorem dX1_mayBeat_1 : decode cX1_mayBeat 1 = .ok (.lstore 4, 2) := by decide +kernel
theorem dX1_mayBeat_3 : decode cX1_mayBeat 3 = .ok (.iload_n 1, 1) := by decide +kernel
theorem dX1_mayBeat_4 : decode cX1_mayBeat 4 = .ok (.istore 6, 2) := by decide +kernel
theorem dX1_mayBeat_6 : decode cX1_mayBeat 6 = .ok (.iload 6, 2) := by decide +kernel
theorem dX1_mayBeat_8 : decode cX1_mayBeat 8 = .ok (.aload_n 0, 1) := by decide +kernel
theorem dX1_mayBeat_9 : decode cX1_mayBeat 9 = .ok (.getfield 56, 3) := by decide +kernel
theorem dX1_mayBeat_12 : decode cX1_mayBeat 12 = .ok (.if_icmp .ge 20, 3) := by decide +kernel
theorem dX1_mayBeat_15 : decode cX1_mayBeat 15 = .ok (.lload 4, 2) := by decide +kernel
theorem dX1_mayBeat_17 : decode cX1_mayBeat 17 = .ok (.aload_n 0, 1) := by decide +kernel
theorem dX1_mayBeat_18 : decode cX1_mayBeat 18 = .ok (.iload 6, 2) := by decide +kernel
theorem dX1_mayBeat_20 : decode cX1_mayBeat 20 = .ok (.invokevirtual 115, 3) := by decide +kernel
theorem dX1_mayBeat_23 : decode cX1_mayBeat 23 = .ok (.ladd, 1) := by decide +kernel
theorem dX1_mayBeat_24 : decode cX1_mayBeat 24 = .ok (.lstore 4, 2) := by decide +kernel
theorem dX1_mayBeat_26 : decode cX1_mayBeat 26 = .ok (.iinc 6 1, 3) := by decide +kernel
theorem dX1_mayBeat_29 : decode cX1_mayBeat 29 = .ok (.goto (-23), 3) := by decide +kernel
theorem dX1_mayBeat_32 : decode cX1_mayBeat 32 = .ok (.lload 4, 2) := by decide +kernel
theorem dX1_mayBeat_34 : decode cX1_mayBeat 34 = .ok (.aload_n 0, 1) := by decide +kernel
theorem dX1_mayBeat_35 : decode cX1_mayBeat 35 = .ok (.getfield 52, 3) := by decide +kernel
theorem dX1_mayBeat_38 : decode cX1_mayBeat 38 = .ok (.lcmp, 1) := by decide +kernel
theorem dX1_mayBeat_39 : decode cX1_mayBeat 39 = .ok (.ifCond .le 7, 3) := by decide +kernel
theorem dX1_mayBeat_42 : decode cX1_mayBeat 42 = .ok (.iconst 1, 1) := by decide +kernel
theorem dX1_mayBeat_43 : decode cX1_mayBeat 43 = .ok (.goto 4, 3) := by decide +kernel
theorem dX1_mayBeat_46 : decode cX1_mayBeat 46 = .ok (.iconst 0, 1) := by decide +kernel
theorem dX1_mayBeat_47 : decode cX1_mayBeat 47 = .ok (.ireturn, 1) := by decide +kernel
theorem dX1_mostWorth_0 : decode cX1_mostWorth 0 = .ok (.iconst 0, 1) := by decide +kernel
theorem dX1_mostWorth_1 : decode cX1_mostWorth 1 = .ok (.istore_n 2, 1) := by decide +kernel
theorem dX1_mostWorth_2 : decode cX1_mostWorth 2 = .ok (.iload_n 2, 1) := by decide +kernel
theorem dX1_mostWorth_3 : decode cX1_mostWorth 3 = .ok (.aload_n 0, 1) := by decide +kernel
theorem dX1_mostWorth_4 : decode cX1_mostWorth 4 = .ok (.getfield 24, 3) := by decide +kernel
theorem dX1_mostWorth_7 : decode cX1_mostWorth 7 = .ok (.iload_n 1, 1) := by decide +kernel
theorem dX1_mostWorth_8 : decode cX1_mostWorth 8 = .ok (.iaload, 1) := by decide +kernel
theorem dX1_mostWorth_9 : decode cX1_mostWorth 9 = .ok (.if_icmp .ge 32, 3) := by decide +kernel
theorem dX1_mostWorth_12 : decode cX1_mostWorth 12 = .ok (.iload_n 1, 1) := by decide +kernel
theorem dX1_mostWorth_13 : decode cX1_mostWorth 13 = .ok (.bipush 12, 2) := by decide +kernel
theorem dX1_mostWorth_15 : decode cX1_mostWorth 15 = .ok (.imul, 1) := by decide +kernel
theorem dX1_mostWorth_16 : decode cX1_mostWorth 16 = .ok (.iload_n 2, 1) := by decide +kernel
theorem dX1_mostWorth_17 : decode cX1_mostWorth 17 = .ok (.iadd, 1) := by decide +kernel
theorem dX1_mostWorth_18 : decode cX1_mostWorth 18 = .ok (.istore_n 3, 1) := by decide +kernel
theorem dX1_mostWorth_19 : decode cX1_mostWorth 19 = .ok (.aload_n 0, 1) := by decide +kernel
theorem dX1_mostWorth_20 : decode cX1_mostWorth 20 = .ok (.iload_n 1, 1) := by decide +kernel
theorem dX1_mostWorth_21 : decode cX1_mostWorth 21 = .ok (.iload_n 3, 1) := by decide +kernel
theorem dX1_mostWorth_22 : decode cX1_mostWorth 22 = .ok (.invokevirtual 104, 3) := by decide +kernel
theorem dX1_mostWorth_25 : decode cX1_mostWorth 25 = .ok (.ifCond .eq 10, 3) := by decide +kernel
theorem dX1_mostWorth_28 : decode cX1_mostWorth 28 = .ok (.aload_n 0, 1) := by decide +kernel
theorem dX1_mostWorth_29 : decode cX1_mostWorth 29 = .ok (.getfield 48, 3) := by decide +kernel
theorem dX1_mostWorth_32 : decode cX1_mostWorth 32 = .ok (.iload_n 3, 1) := by decide +kernel
theorem dX1_mostWorth_33 : decode cX1_mostWorth 33 = .ok (.laload, 1) := by decide +kernel
theorem dX1_mostWorth_34 : decode cX1_mostWorth 34 = .ok (.lreturn, 1) := by decide +kernel
theorem dX1_mostWorth_35 : decode cX1_mostWorth 35 = .ok (.iinc 2 1, 3) := by decide +kernel
theorem dX1_mostWorth_38 : decode cX1_mostWorth 38 = .ok (.goto (-36), 3) := by decide +kernel
theorem dX1_mostWorth_41 : decode cX1_mostWorth 41 = .ok (.lconst 0, 1) := by decide +kernel
theorem dX1_mostWorth_42 : decode cX1_mostWorth 42 = .ok (.lreturn, 1) := by decide +kernel
theorem dX1_fits_0 : decode cX1_fits 0 = .ok (.aload_n 0, 1) := by decide +kernel
theorem dX1_fits_1 : decode cX1_fits 1 = .ok (.getfield 11, 3) := by decide +kernel
theorem dX1_fits_4 : decode cX1_fits 4 = .ok (.iload_n 1, 1) := by decide +kernel
theorem dX1_fits_5 : decode cX1_fits 5 = .ok (.aaload, 1) := by decide +kernel
theorem dX1_fits_6 : decode cX1_fits 6 = .ok (.getfield 76, 3) := by decide +kernel
theorem dX1_fits_9 : decode cX1_fits 9 = .ok (.istore_n 3, 1) := by decide +kernel
theorem dX1_fits_10 : decode cX1_fits 10 = .ok (.aload_n 0, 1) := by decide +kernel
theorem dX1_fits_11 : decode cX1_fits 11 = .ok (.getfield 38, 3) := by decide +kernel
theorem dX1_fits_14 : decode cX1_fits 14 = .ok (.iload_n 2, 1) := by decide +kernel
theorem dX1_fits_15 : decode cX1_fits 15 = .ok (.aaload, 1) := by decide +kernel
theorem dX1_fits_16 : decode cX1_fits 16 = .ok (.getfield 119, 3) := by decide +kernel
theorem dX1_fits_19 : decode cX1_fits 19 = .ok (.iload_n 3, 1) := by decide +kernel
theorem dX1_fits_20 : decode cX1_fits 20 = .ok (.if_icmp .lt 29, 3) := by decide +kernel
theorem dX1_fits_23 : decode cX1_fits 23 = .ok (.aload_n 0, 1) := by decide +kernel
theorem dX1_fits_24 : decode cX1_fits 24 = .ok (.getfield 42, 3) := by decide +kernel
theorem dX1_fits_27 : decode cX1_fits 27 = .ok (.iload_n 2, 1) := by decide +kernel
theorem dX1_fits_28 : decode cX1_fits 28 = .ok (.aaload, 1) := by decide +kernel
theorem dX1_fits_29 : decode cX1_fits 29 = .ok (.ifnull 16, 3) := by decide +kernel
theorem dX1_fits_32 : decode cX1_fits 32 = .ok (.aload_n 0, 1) := by decide +kernel
theorem dX1_fits_33 : decode cX1_fits 33 = .ok (.getfield 42, 3) := by decide +kernel
theorem dX1_fits_36 : decode cX1_fits 36 = .ok (.iload_n 2, 1) := by decide +kernel
theorem dX1_fits_37 : decode cX1_fits 37 = .ok (.aaload, 1) := by decide +kernel
theorem dX1_fits_38 : decode cX1_fits 38 = .ok (.getfield 119, 3) := by decide +kernel
theorem dX1_fits_41 : decode cX1_fits 41 = .ok (.iload_n 3, 1) := by decide +kernel
theorem dX1_fits_42 : decode cX1_fits 42 = .ok (.if_icmp .lt 7, 3) := by decide +kernel
theorem dX1_fits_45 : decode cX1_fits 45 = .ok (.iconst 1, 1) := by decide +kernel
theorem dX1_fits_46 : decode cX1_fits 46 = .ok (.goto 4, 3) := by decide +kernel
theorem dX1_fits_49 : decode cX1_fits 49 = .ok (.iconst 0, 1) := by decide +kernel
theorem dX1_fits_50 : decode cX1_fits 50 = .ok (.ireturn, 1) := by decide +kernel
theorem dX1_fill_0 : decode cX1_fill 0 = .ok (.aload_n 0, 1) := by decide +kernel
theorem dX1_fill_1 : decode cX1_fill 1 = .ok (.getfield 38, 3) := by decide +kernel
theorem dX1_fill_4 : decode cX1_fill 4 = .ok (.iload_n 1, 1) := by decide +kernel
theorem dX1_fill_5 : decode cX1_fill 5 = .ok (.aaload, 1) := by decide +kernel
theorem dX1_fill_6 : decode cX1_fill 6 = .ok (.dup, 1) := by decide +kernel
theorem dX1_fill_7 : decode cX1_fill 7 = .ok (.getfield 119, 3) := by decide +kernel
theorem dX1_fill_10 : decode cX1_fill 10 = .ok (.iload_n 2, 1) := by decide +kernel
theorem dX1_fill_11 : decode cX1_fill 11 = .ok (.isub, 1) := by decide +kernel
theorem dX1_fill_12 : decode cX1_fill 12 = .ok (.putfield 119, 3) := by decide +kernel
theorem dX1_fill_15 : decode cX1_fill 15 = .ok (.aload_n 0, 1) := by decide +kernel
theorem dX1_fill_16 : decode cX1_fill 16 = .ok (.getfield 42, 3) := by decide +kernel
theorem dX1_fill_19 : decode cX1_fill 19 = .ok (.iload_n 1, 1) := by decide +kernel
theorem dX1_fill_20 : decode cX1_fill 20 = .ok (.aaload, 1) := by decide +kernel
theorem dX1_fill_21 : decode cX1_fill 21 = .ok (.ifnull 18, 3) := by decide +kernel
theorem dX1_fill_24 : decode cX1_fill 24 = .ok (.aload_n 0, 1) := by decide +kernel
theorem dX1_fill_25 : decode cX1_fill 25 = .ok (.getfield 42, 3) := by decide +kernel
theorem dX1_fill_28 : decode cX1_fill 28 = .ok (.iload_n 1, 1) := by decide +kernel
theorem dX1_fill_29 : decode cX1_fill 29 = .ok (.aaload, 1) := by decide +kernel
theorem dX1_fill_30 : decode cX1_fill 30 = .ok (.dup, 1) := by decide +kernel
theorem dX1_fill_31 : decode cX1_fill 31 = .ok (.getfield 119, 3) := by decide +kernel
theorem dX1_fill_34 : decode cX1_fill 34 = .ok (.iload_n 2, 1) := by decide +kernel
theorem dX1_fill_35 : decode cX1_fill 35 = .ok (.isub, 1) := by decide +kernel
theorem dX1_fill_36 : decode cX1_fill 36 = .ok (.putfield 119, 3) := by decide +kernel
theorem dX1_fill_39 : decode cX1_fill 39 = .ok (.return_, 1) := by decide +kernel
theorem dX1_betterHasRoom_0 : decode cX1_betterHasRoom 0 = .ok (.iconst 0, 1) := by decide +kernel
theorem dX1_betterHasRoom_1 : decode cX1_betterHasRoom 1 = .ok (.istore_n 3, 1) := by decide +kernel
theorem dX1_betterHasRoom_2 : decode cX1_betterHasRoom 2 = .ok (.iload_n 3, 1) := by decide +kernel
theorem dX1_betterHasRoom_3 : decode cX1_betterHasRoom 3 = .ok (.iload_n 2, 1) := by decide +kernel
theorem dX1_betterHasRoom_4 : decode cX1_betterHasRoom 4 = .ok (.if_icmp .ge 61, 3) := by decide +kernel
theorem dX1_betterHasRoom_7 : decode cX1_betterHasRoom 7 = .ok (.iload_n 1, 1) := by decide +kernel
theorem dX1_betterHasRoom_8 : decode cX1_betterHasRoom 8 = .ok (.bipush 12, 2) := by decide +kernel
theorem dX1_betterHasRoom_10 : decode cX1_betterHasRoom 10 = .ok (.imul, 1) := by decide +kernel
theorem dX1_betterHasRoom_11 : decode cX1_betterHasRoom 11 = .ok (.iload_n 3, 1) := by decide +kernel
theorem dX1_betterHasRoom_12 : decode cX1_betterHasRoom 12 = .ok (.iadd, 1) := by decide +kernel
theorem dX1_betterHasRoom_13 : decode cX1_betterHasRoom 13 = .ok (.istore 4, 2) := by decide +kernel
theorem dX1_betterHasRoom_15 : decode cX1_betterHasRoom 15 = .ok (.aload_n 0, 1) := by decide +kernel
theorem dX1_betterHasRoom_16 : decode cX1_betterHasRoom 16 = .ok (.iload_n 1, 1) := by decide +kernel
theorem dX1_betterHasRoom_17 : decode cX1_betterHasRoom 17 = .ok (.iload_n 2, 1) := by decide +kernel
theorem dX1_betterHasRoom_18 : decode cX1_betterHasRoom 18 = .ok (.aload_n 0, 1) := by decide +kernel
theorem dX1_betterHasRoom_19 : decode cX1_betterHasRoom 19 = .ok (.getfield 38, 3) := by decide +kernel
theorem dX1_betterHasRoom_22 : decode cX1_betterHasRoom 22 = .ok (.iload 4, 2) := by decide +kernel
theorem dX1_betterHasRoom_24 : decode cX1_betterHasRoom 24 = .ok (.aaload, 1) := by decide +kernel
theorem dX1_betterHasRoom_25 : decode cX1_betterHasRoom 25 = .ok (.invokevirtual 122, 3) := by decide +kernel
theorem dX1_betterHasRoom_28 : decode cX1_betterHasRoom 28 = .ok (.ifCond .eq 31, 3) := by decide +kernel
theorem dX1_betterHasRoom_31 : decode cX1_betterHasRoom 31 = .ok (.aload_n 0, 1) := by decide +kernel
theorem dX1_betterHasRoom_32 : decode cX1_betterHasRoom 32 = .ok (.getfield 42, 3) := by decide +kernel
theorem dX1_betterHasRoom_35 : decode cX1_betterHasRoom 35 = .ok (.iload 4, 2) := by decide +kernel
theorem dX1_betterHasRoom_37 : decode cX1_betterHasRoom 37 = .ok (.aaload, 1) := by decide +kernel
theorem dX1_betterHasRoom_38 : decode cX1_betterHasRoom 38 = .ok (.ifnull 19, 3) := by decide +kernel
theorem dX1_betterHasRoom_41 : decode cX1_betterHasRoom 41 = .ok (.aload_n 0, 1) := by decide +kernel
theorem dX1_betterHasRoom_42 : decode cX1_betterHasRoom 42 = .ok (.iload_n 1, 1) := by decide +kernel
theorem dX1_betterHasRoom_43 : decode cX1_betterHasRoom 43 = .ok (.iload_n 2, 1) := by decide +kernel
theorem dX1_betterHasRoom_44 : decode cX1_betterHasRoom 44 = .ok (.aload_n 0, 1) := by decide +kernel
theorem dX1_betterHasRoom_45 : decode cX1_betterHasRoom 45 = .ok (.getfield 42, 3) := by decide +kernel
theorem dX1_betterHasRoom_48 : decode cX1_betterHasRoom 48 = .ok (.iload 4, 2) := by decide +kernel
theorem dX1_betterHasRoom_50 : decode cX1_betterHasRoom 50 = .ok (.aaload, 1) := by decide +kernel
theorem dX1_betterHasRoom_51 : decode cX1_betterHasRoom 51 = .ok (.invokevirtual 122, 3) := by decide +kernel
theorem dX1_betterHasRoom_54 : decode cX1_betterHasRoom 54 = .ok (.ifCond .eq 5, 3) := by decide +kernel
theorem dX1_betterHasRoom_57 : decode cX1_betterHasRoom 57 = .ok (.iconst 1, 1) := by decide +kernel
theorem dX1_betterHasRoom_58 : decode cX1_betterHasRoom 58 = .ok (.ireturn, 1) := by decide +kernel
theorem dX1_betterHasRoom_59 : decode cX1_betterHasRoom 59 = .ok (.iinc 3 1, 3) := by decide +kernel
theorem dX1_betterHasRoom_62 : decode cX1_betterHasRoom 62 = .ok (.goto (-60), 3) := by decide +kernel
theorem dX1_betterHasRoom_65 : decode cX1_betterHasRoom 65 = .ok (.iconst 0, 1) := by decide +kernel
theorem dX1_betterHasRoom_66 : decode cX1_betterHasRoom 66 = .ok (.ireturn, 1) := by decide +kernel
theorem dX1_hasRoom_0 : decode cX1_hasRoom 0 = .ok (.aload_n 3, 1) := by decide +kernel
theorem dX1_hasRoom_1 : decode cX1_hasRoom 1 = .ok (.getfield 119, 3) := by decide +kernel
theorem dX1_hasRoom_4 : decode cX1_hasRoom 4 = .ok (.aload_n 0, 1) := by decide +kernel
theorem dX1_hasRoom_5 : decode cX1_hasRoom 5 = .ok (.getfield 33, 3) := by decide +kernel
theorem dX1_hasRoom_8 : decode cX1_hasRoom 8 = .ok (.iload_n 1, 1) := by decide +kernel
theorem dX1_hasRoom_9 : decode cX1_hasRoom 9 = .ok (.iaload, 1) := by decide +kernel
theorem dX1_hasRoom_10 : decode cX1_hasRoom 10 = .ok (.if_icmp .lt 5, 3) := by decide +kernel
theorem dX1_hasRoom_13 : decode cX1_hasRoom 13 = .ok (.iconst 1, 1) := by decide +kernel
theorem dX1_hasRoom_14 : decode cX1_hasRoom 14 = .ok (.ireturn, 1) := by decide +kernel
theorem dX1_hasRoom_15 : decode cX1_hasRoom 15 = .ok (.iload_n 1, 1) := by decide +kernel
theorem dX1_hasRoom_16 : decode cX1_hasRoom 16 = .ok (.bipush 12, 2) := by decide +kernel
theorem dX1_hasRoom_18 : decode cX1_hasRoom 18 = .ok (.imul, 1) := by decide +kernel
theorem dX1_hasRoom_19 : decode cX1_hasRoom 19 = .ok (.iload_n 2, 1) := by decide +kernel
theorem dX1_hasRoom_20 : decode cX1_hasRoom 20 = .ok (.iadd, 1) := by decide +kernel
theorem dX1_hasRoom_21 : decode cX1_hasRoom 21 = .ok (.istore 4, 2) := by decide +kernel
theorem dX1_hasRoom_23 : decode cX1_hasRoom 23 = .ok (.iload_n 2, 1) := by decide +kernel
theorem dX1_hasRoom_24 : decode cX1_hasRoom 24 = .ok (.aload_n 0, 1) := by decide +kernel
theorem dX1_hasRoom_25 : decode cX1_hasRoom 25 = .ok (.getfield 24, 3) := by decide +kernel
theorem dX1_hasRoom_28 : decode cX1_hasRoom 28 = .ok (.iload_n 1, 1) := by decide +kernel
theorem dX1_hasRoom_29 : decode cX1_hasRoom 29 = .ok (.iaload, 1) := by decide +kernel
theorem dX1_hasRoom_30 : decode cX1_hasRoom 30 = .ok (.if_icmp .ge 29, 3) := by decide +kernel
theorem dX1_hasRoom_33 : decode cX1_hasRoom 33 = .ok (.aload_n 3, 1) := by decide +kernel
theorem dX1_hasRoom_34 : decode cX1_hasRoom 34 = .ok (.aload_n 0, 1) := by decide +kernel
theorem dX1_hasRoom_35 : decode cX1_hasRoom 35 = .ok (.getfield 38, 3) := by decide +kernel
theorem dX1_hasRoom_38 : decode cX1_hasRoom 38 = .ok (.iload 4, 2) := by decide +kernel
theorem dX1_hasRoom_40 : decode cX1_hasRoom 40 = .ok (.aaload, 1) := by decide +kernel
theorem dX1_hasRoom_41 : decode cX1_hasRoom 41 = .ok (.if_acmp .eq 14, 3) := by decide +kernel
theorem dX1_hasRoom_44 : decode cX1_hasRoom 44 = .ok (.aload_n 3, 1) := by decide +kernel
theorem dX1_hasRoom_45 : decode cX1_hasRoom 45 = .ok (.aload_n 0, 1) := by decide +kernel
theorem dX1_hasRoom_46 : decode cX1_hasRoom 46 = .ok (.getfield 42, 3) := by decide +kernel
theorem dX1_hasRoom_49 : decode cX1_hasRoom 49 = .ok (.iload 4, 2) := by decide +kernel
theorem dX1_hasRoom_51 : decode cX1_hasRoom 51 = .ok (.aaload, 1) := by decide +kernel
theorem dX1_hasRoom_52 : decode cX1_hasRoom 52 = .ok (.if_acmp .ne 7, 3) := by decide +kernel
theorem dX1_hasRoom_55 : decode cX1_hasRoom 55 = .ok (.iconst 1, 1) := by decide +kernel
theorem dX1_hasRoom_56 : decode cX1_hasRoom 56 = .ok (.goto 4, 3) := by decide +kernel
theorem dX1_hasRoom_59 : decode cX1_hasRoom 59 = .ok (.iconst 0, 1) := by decide +kernel
theorem dX1_hasRoom_60 : decode cX1_hasRoom 60 = .ok (.ireturn, 1) := by decide +kernel
theorem dX2_init_0 : decode cX2_init 0 = .ok (.aload_n 0, 1) := by decide +kernel
theorem dX2_init_1 : decode cX2_init 1 = .ok (.invokespecial 3, 3) := by decide +kernel
theorem dX2_init_4 : decode cX2_init 4 = .ok (.aload_n 0, 1) := by decide +kernel
theorem dX2_init_5 : decode cX2_init 5 = .ok (.iconst 0, 1) := by decide +kernel
theorem dX2_init_6 : decode cX2_init 6 = .ok (.putfield 9, 3) := by decide +kernel
theorem dX2_init_9 : decode cX2_init 9 = .ok (.aload_n 0, 1) := by decide +kernel
theorem dX2_init_10 : decode cX2_init 10 = .ok (.iconst 0, 1) := by decide +kernel
theorem dX2_init_11 : decode cX2_init 11 = .ok (.putfield 15, 3) := by decide +kernel
theorem dX2_init_14 : decode cX2_init 14 = .ok (.aload_n 0, 1) := by decide +kernel
theorem dX2_init_15 : decode cX2_init 15 = .ok (.aconst_null, 1) := by decide +kernel
theorem dX2_init_16 : decode cX2_init 16 = .ok (.putfield 18, 3) := by decide +kernel
theorem dX2_init_19 : decode cX2_init 19 = .ok (.aload_n 0, 1) := by decide +kernel
theorem dX2_init_20 : decode cX2_init 20 = .ok (.aconst_null, 1) := by decide +kernel
theorem dX2_init_21 : decode cX2_init 21 = .ok (.putfield 22, 3) := by decide +kernel
theorem dX2_init_24 : decode cX2_init 24 = .ok (.aload_n 0, 1) := by decide +kernel
theorem dX2_init_25 : decode cX2_init 25 = .ok (.aload_n 1, 1) := by decide +kernel
theorem dX2_init_26 : decode cX2_init 26 = .ok (.putfield 25, 3) := by decide +kernel
theorem dX2_init_29 : decode cX2_init 29 = .ok (.aload_n 0, 1) := by decide +kernel
theorem dX2_init_30 : decode cX2_init 30 = .ok (.iload_n 2, 1) := by decide +kernel
theorem dX2_init_31 : decode cX2_init 31 = .ok (.putfield 28, 3) := by decide +kernel
theorem dX2_init_34 : decode cX2_init 34 = .ok (.aload_n 0, 1) := by decide +kernel
theorem dX2_init_35 : decode cX2_init 35 = .ok (.iload_n 3, 1) := by decide +kernel
theorem dX2_init_36 : decode cX2_init 36 = .ok (.putfield 31, 3) := by decide +kernel
theorem dX2_init_39 : decode cX2_init 39 = .ok (.aload_n 0, 1) := by decide +kernel
theorem dX2_init_40 : decode cX2_init 40 = .ok (.iload 4, 2) := by decide +kernel
theorem dX2_init_42 : decode cX2_init 42 = .ok (.putfield 34, 3) := by decide +kernel
theorem dX2_init_45 : decode cX2_init 45 = .ok (.aload_n 0, 1) := by decide +kernel
theorem dX2_init_46 : decode cX2_init 46 = .ok (.iload 5, 2) := by decide +kernel
theorem dX2_init_48 : decode cX2_init 48 = .ok (.putfield 37, 3) := by decide +kernel
theorem dX2_init_51 : decode cX2_init 51 = .ok (.return_, 1) := by decide +kernel
theorem dX2_fliesOn_0 : decode cX2_fliesOn 0 = .ok (.aload_n 0, 1) := by decide +kernel
theorem dX2_fliesOn_1 : decode cX2_fliesOn 1 = .ok (.getfield 9, 3) := by decide +kernel
theorem dX2_fliesOn_4 : decode cX2_fliesOn 4 = .ok (.ifCond .ne 15, 3) := by decide +kernel
theorem dX2_fliesOn_7 : decode cX2_fliesOn 7 = .ok (.aload_n 0, 1) := by decide +kernel
theorem dX2_fliesOn_8 : decode cX2_fliesOn 8 = .ok (.getfield 25, 3) := by decide +kernel
theorem dX2_fliesOn_11 : decode cX2_fliesOn 11 = .ok (.aload_n 1, 1) := by decide +kernel
theorem dX2_fliesOn_12 : decode cX2_fliesOn 12 = .ok (.if_acmp .ne 7, 3) := by decide +kernel
theorem dX2_fliesOn_15 : decode cX2_fliesOn 15 = .ok (.iconst 1, 1) := by decide +kernel
theorem dX2_fliesOn_16 : decode cX2_fliesOn 16 = .ok (.goto 4, 3) := by decide +kernel
theorem dX2_fliesOn_19 : decode cX2_fliesOn 19 = .ok (.iconst 0, 1) := by decide +kernel
theorem dX2_fliesOn_20 : decode cX2_fliesOn 20 = .ok (.ireturn, 1) := by decide +kernel
theorem dX2_wouldGive_0 : decode cX2_wouldGive 0 = .ok (.aload_n 0, 1) := by decide +kernel
theorem dX2_wouldGive_1 : decode cX2_wouldGive 1 = .ok (.aload_n 1, 1) := by decide +kernel
theorem dX2_wouldGive_2 : decode cX2_wouldGive 2 = .ok (.invokevirtual 41, 3) := by decide +kernel
theorem dX2_wouldGive_5 : decode cX2_wouldGive 5 = .ok (.ifCond .eq 22, 3) := by decide +kernel
theorem dX2_wouldGive_8 : decode cX2_wouldGive 8 = .ok (.aload_n 0, 1) := by decide +kernel
theorem dX2_wouldGive_9 : decode cX2_wouldGive 9 = .ok (.getfield 34, 3) := by decide +kernel
theorem dX2_wouldGive_12 : decode cX2_wouldGive 12 = .ok (.iconst (-1), 1) := by decide +kernel
theorem dX2_wouldGive_13 : decode cX2_wouldGive 13 = .ok (.if_icmp .eq 14, 3) := by decide +kernel
theorem dX2_wouldGive_16 : decode cX2_wouldGive 16 = .ok (.aload_n 0, 1) := by decide +kernel
theorem dX2_wouldGive_17 : decode cX2_wouldGive 17 = .ok (.getfield 37, 3) := by decide +kernel
theorem dX2_wouldGive_20 : decode cX2_wouldGive 20 = .ok (.ifCond .ne 7, 3) := by decide +kernel
theorem dX2_wouldGive_23 : decode cX2_wouldGive 23 = .ok (.iconst 1, 1) := by decide +kernel
theorem dX2_wouldGive_24 : decode cX2_wouldGive 24 = .ok (.goto 4, 3) := by decide +kernel
theorem dX2_wouldGive_27 : decode cX2_wouldGive 27 = .ok (.iconst 0, 1) := by decide +kernel
theorem dX2_wouldGive_28 : decode cX2_wouldGive 28 = .ok (.ireturn, 1) := by decide +kernel
theorem dX2_isStranded_0 : decode cX2_isStranded 0 = .ok (.aload_n 0, 1) := by decide +kernel
theorem dX2_isStranded_1 : decode cX2_isStranded 1 = .ok (.getfield 9, 3) := by decide +kernel
theorem dX2_isStranded_4 : decode cX2_isStranded 4 = .ok (.ifCond .eq 14, 3) := by decide +kernel
theorem dX2_isStranded_7 : decode cX2_isStranded 7 = .ok (.aload_n 0, 1) := by decide +kernel
theorem dX2_isStranded_8 : decode cX2_isStranded 8 = .ok (.getfield 18, 3) := by decide +kernel
theorem dX2_isStranded_11 : decode cX2_isStranded 11 = .ok (.ifnonnull 7, 3) := by decide +kernel
theorem dX2_isStranded_14 : decode cX2_isStranded 14 = .ok (.iconst 1, 1) := by decide +kernel
theorem dX2_isStranded_15 : decode cX2_isStranded 15 = .ok (.goto 4, 3) := by decide +kernel
theorem dX2_isStranded_18 : decode cX2_isStranded 18 = .ok (.iconst 0, 1) := by decide +kernel
theorem dX2_isStranded_19 : decode cX2_isStranded 19 = .ok (.ireturn, 1) := by decide +kernel
theorem dX2_giveUp_0 : decode cX2_giveUp 0 = .ok (.aload_n 0, 1) := by decide +kernel
theorem dX2_giveUp_1 : decode cX2_giveUp 1 = .ok (.iload_n 1, 1) := by decide +kernel
theorem dX2_giveUp_2 : decode cX2_giveUp 2 = .ok (.putfield 9, 3) := by decide +kernel
theorem dX2_giveUp_5 : decode cX2_giveUp 5 = .ok (.aload_n 0, 1) := by decide +kernel
theorem dX2_giveUp_6 : decode cX2_giveUp 6 = .ok (.iload_n 2, 1) := by decide +kernel
theorem dX2_giveUp_7 : decode cX2_giveUp 7 = .ok (.putfield 15, 3) := by decide +kernel
theorem dX2_giveUp_10 : decode cX2_giveUp 10 = .ok (.return_, 1) := by decide +kernel
theorem dX2_takeWay_0 : decode cX2_takeWay 0 = .ok (.aload_n 0, 1) := by decide +kernel
theorem dX2_takeWay_1 : decode cX2_takeWay 1 = .ok (.aload_n 1, 1) := by decide +kernel
theorem dX2_takeWay_2 : decode cX2_takeWay 2 = .ok (.putfield 18, 3) := by decide +kernel
theorem dX2_takeWay_5 : decode cX2_takeWay 5 = .ok (.aload_n 0, 1) := by decide +kernel
theorem dX2_takeWay_6 : decode cX2_takeWay 6 = .ok (.aload_n 2, 1) := by decide +kernel
theorem dX2_takeWay_7 : decode cX2_takeWay 7 = .ok (.putfield 22, 3) := by decide +kernel
theorem dX2_takeWay_10 : decode cX2_takeWay 10 = .ok (.return_, 1) := by decide +kernel
theorem dX2_flyAgain_0 : decode cX2_flyAgain 0 = .ok (.aload_n 0, 1) := by decide +kernel
theorem dX2_flyAgain_1 : decode cX2_flyAgain 1 = .ok (.iconst 0, 1) := by decide +kernel
theorem dX2_flyAgain_2 : decode cX2_flyAgain 2 = .ok (.iconst 0, 1) := by decide +kernel
theorem dX2_flyAgain_3 : decode cX2_flyAgain 3 = .ok (.invokevirtual 45, 3) := by decide +kernel
theorem dX2_flyAgain_6 : decode cX2_flyAgain 6 = .ok (.aload_n 0, 1) := by decide +kernel
theorem dX2_flyAgain_7 : decode cX2_flyAgain 7 = .ok (.aconst_null, 1) := by decide +kernel
theorem dX2_flyAgain_8 : decode cX2_flyAgain 8 = .ok (.aconst_null, 1) := by decide +kernel
theorem dX2_flyAgain_9 : decode cX2_flyAgain 9 = .ok (.invokevirtual 49, 3) := by decide +kernel
theorem dX2_flyAgain_12 : decode cX2_flyAgain 12 = .ok (.return_, 1) := by decide +kernel
theorem dX2_lateBy_0 : decode cX2_lateBy 0 = .ok (.aload_n 2, 1) := by decide +kernel
theorem dX2_lateBy_1 : decode cX2_lateBy 1 = .ok (.ifnonnull 10, 3) := by decide +kernel
theorem dX2_lateBy_4 : decode cX2_lateBy 4 = .ok (.aload_n 1, 1) := by decide +kernel
theorem dX2_lateBy_5 : decode cX2_lateBy 5 = .ok (.getfield 53, 3) := by decide +kernel
theorem dX2_lateBy_8 : decode cX2_lateBy 8 = .ok (.goto 7, 3) := by decide +kernel
theorem dX2_lateBy_11 : decode cX2_lateBy 11 = .ok (.aload_n 2, 1) := by decide +kernel
theorem dX2_lateBy_12 : decode cX2_lateBy 12 = .ok (.getfield 53, 3) := by decide +kernel
theorem dX2_lateBy_15 : decode cX2_lateBy 15 = .ok (.istore_n 3, 1) := by decide +kernel
theorem dX2_lateBy_16 : decode cX2_lateBy 16 = .ok (.iconst 0, 1) := by decide +kernel
theorem dX2_lateBy_17 : decode cX2_lateBy 17 = .ok (.iload_n 3, 1) := by decide +kernel
theorem dX2_lateBy_18 : decode cX2_lateBy 18 = .ok (.aload_n 0, 1) := by decide +kernel
theorem dX2_lateBy_19 : decode cX2_lateBy 19 = .ok (.getfield 25, 3) := by decide +kernel
theorem dX2_lateBy_22 : decode cX2_lateBy 22 = .ok (.getfield 53, 3) := by decide +kernel
theorem dX2_lateBy_25 : decode cX2_lateBy 25 = .ok (.isub, 1) := by decide +kernel
theorem dX2_lateBy_26 : decode cX2_lateBy 26 = .ok (.invokestatic 58, 3) := by decide +kernel
theorem dX2_lateBy_29 : decode cX2_lateBy 29 = .ok (.ireturn, 1) := by decide +kernel
theorem dX2_lateByWay_0 : decode cX2_lateByWay 0 = .ok (.aload_n 0, 1) := by decide +kernel
theorem dX2_lateByWay_1 : decode cX2_lateByWay 1 = .ok (.getfield 18, 3) := by decide +kernel
theorem dX2_lateByWay_4 : decode cX2_lateByWay 4 = .ok (.ifnonnull 7, 3) := by decide +kernel
theorem dX2_lateByWay_7 : decode cX2_lateByWay 7 = .ok (.iconst (-1), 1) := by decide +kernel
theorem dX2_lateByWay_8 : decode cX2_lateByWay 8 = .ok (.goto 15, 3) := by decide +kernel
theorem dX2_lateByWay_11 : decode cX2_lateByWay 11 = .ok (.aload_n 0, 1) := by decide +kernel
theorem dX2_lateByWay_12 : decode cX2_lateByWay 12 = .ok (.aload_n 0, 1) := by decide +kernel
theorem dX2_lateByWay_13 : decode cX2_lateByWay 13 = .ok (.getfield 18, 3) := by decide +kernel
theorem dX2_lateByWay_16 : decode cX2_lateByWay 16 = .ok (.aload_n 0, 1) := by decide +kernel
theorem dX2_lateByWay_17 : decode cX2_lateByWay 17 = .ok (.getfield 22, 3) := by decide +kernel
theorem dX2_lateByWay_20 : decode cX2_lateByWay 20 = .ok (.invokevirtual 64, 3) := by decide +kernel
theorem dX2_lateByWay_23 : decode cX2_lateByWay 23 = .ok (.ireturn, 1) := by decide +kernel
